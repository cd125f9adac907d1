set_option maxHeartbeats 4000000 in
set_option maxRecDepth 100000 in
theorem m_isIn (l : Launch) (D : va_G) (v : Int32) (lo : Int32) (hi : Int32) : Met l yX9_isIn wsX9_isIn ({ frames := 0, cells := 0, slots := 0, locals := 0 }) (va_Pc [.int v, .int lo, .int hi] (wo D [] [])) (vp_Si (fun r => (((lo).toInt ≤ (v).toInt ∧ (v).toInt ≤ (hi).toInt) ∧ r = 1) ∨ (((v).toInt < (lo).toInt ∨ (hi).toInt < (v).toInt) ∧ r = 0))) 0 0 (fun _ => False) := by
  refine Met.ofW (cc := cX9_isIn) (maxL := 3) (ret := (some .boolean)) (by decide) rfl ?_
  intro p e s m args below meth c s₁ B hml hv
  obtain ⟨rfl, hP, hK, hD, hN⟩ := hv
  have hx := B.exec
  have hb := B.bytes
  have hr := B.returns
  have hts := atoms_spec (ws := wsX9_isIn) B.pre
  have hown : s.vm.findClass RX9 = some m.cls := findClass_of_methodNamed B.named
  have hlocks := B.notSynchronized
  have hl := lv_entry ([.int v, .int lo, .int hi]) (n := 3) (Nat.le_of_ble_eq_true rfl)
  rw [lg_entry_eq]
  generalize (lg_sl ([.int v, .int lo, .int hi]) ++ List.replicate (3 - (lg_sl ([.int v, .int lo, .int hi])).length) Slot.unset).toArray = ls at hl ⊢
  have hl : lv_has ls 3 [(0, .int v), (1, .int lo), (2, .int hi)] := hl
  refine lv_iload_n hx hb dX9_isIn_0 rfl (lv_at hl 0 rfl) ?_
  refine lv_iload_n hx hb dX9_isIn_1 rfl (lv_at hl 1 rfl) ?_
  refine bi_lt (zx := (v).toInt) (zy := (lo).toInt) (tgt := 14) hx hb dX9_isIn_2 (by decide) rfl rfl (fun c_1 => ?_) (fun c_1 => ?_)
  · refine lv_iconst (v := 0) hx hb dX9_isIn_14 (by decide) ?_
    exact W.zret (v := 0) hx hb hr rfl (fun t ht hW => ⟨0, rfl, Or.inr ⟨by omega, rfl⟩, ht⟩) (fun q h => by cases h) dX9_isIn_15
  · refine lv_iload_n hx hb dX9_isIn_5 rfl (lv_at hl 0 rfl) ?_
    refine lv_iload_n hx hb dX9_isIn_6 rfl (lv_at hl 2 rfl) ?_
    refine bi_gt (zx := (v).toInt) (zy := (hi).toInt) (tgt := 14) hx hb dX9_isIn_7 (by decide) rfl rfl (fun c_2 => ?_) (fun c_2 => ?_)
    · refine lv_iconst (v := 0) hx hb dX9_isIn_14 (by decide) ?_
      exact W.zret (v := 0) hx hb hr rfl (fun t ht hW => ⟨0, rfl, Or.inr ⟨by omega, rfl⟩, ht⟩) (fun q h => by cases h) dX9_isIn_15
    · refine lv_iconst (v := 1) hx hb dX9_isIn_10 (by decide) ?_
      refine lv_goto (tgt := 15) hx hb dX9_isIn_11 (by decide) ?_
      exact W.zret (v := 1) hx hb hr rfl (fun t ht hW => ⟨1, rfl, Or.inl ⟨by omega, rfl⟩, ht⟩) (fun q h => by cases h) dX9_isIn_15

set_option maxHeartbeats 4000000 in
set_option maxRecDepth 100000 in
theorem m_one0 (l : Launch) (D : va_G) : Met l yX9_one wsX9_one ({ frames := 0, cells := 0, slots := 0, locals := 0 }) (va_Pc [.int 0] (wo D [] [])) (vp_Si (fun r => r = 0)) 0 0 (fun _ => False) := by
  refine Met.ofW (cc := cX9_one) (maxL := 1) (ret := (some .int)) (by decide) rfl ?_
  intro p e s m args below meth c s₁ B hml hv
  obtain ⟨rfl, hP, hK, hD, hN⟩ := hv
  have hx := B.exec
  have hb := B.bytes
  have hr := B.returns
  have hts := atoms_spec (ws := wsX9_one) B.pre
  have hown : s.vm.findClass RX9 = some m.cls := findClass_of_methodNamed B.named
  have hlocks := B.notSynchronized
  have hl := lv_entry ([.int 0]) (n := 1) (Nat.le_of_ble_eq_true rfl)
  rw [lg_entry_eq]
  generalize (lg_sl ([.int 0]) ++ List.replicate (1 - (lg_sl ([.int 0])).length) Slot.unset).toArray = ls at hl ⊢
  have hl : lv_has ls 1 [(0, .int 0)] := hl
  refine lv_iload_n hx hb dX9_one_0 rfl (lv_at hl 0 rfl) ?_
  refine lv_if_eq (tgt := 8) hx hb dX9_one_1 (by decide) (fun _ => ?_) (fun c_ => absurd c_ (by decide))
  refine lv_iconst (v := 0) hx hb dX9_one_8 (by decide) ?_
  exact W.iret (v := 0) hx hb hr (fun t ht hW => ⟨0, rfl, rfl, ht⟩) (fun q h => by cases h) dX9_one_9

set_option maxHeartbeats 4000000 in
set_option maxRecDepth 100000 in
theorem m_one1 (l : Launch) (D : va_G) : Met l yX9_one wsX9_one ({ frames := 0, cells := 0, slots := 0, locals := 0 }) (va_Pc [.int 1] (wo D [] [])) (vp_Si (fun r => r = 1)) 0 0 (fun _ => False) := by
  refine Met.ofW (cc := cX9_one) (maxL := 1) (ret := (some .int)) (by decide) rfl ?_
  intro p e s m args below meth c s₁ B hml hv
  obtain ⟨rfl, hP, hK, hD, hN⟩ := hv
  have hx := B.exec
  have hb := B.bytes
  have hr := B.returns
  have hts := atoms_spec (ws := wsX9_one) B.pre
  have hown : s.vm.findClass RX9 = some m.cls := findClass_of_methodNamed B.named
  have hlocks := B.notSynchronized
  have hl := lv_entry ([.int 1]) (n := 1) (Nat.le_of_ble_eq_true rfl)
  rw [lg_entry_eq]
  generalize (lg_sl ([.int 1]) ++ List.replicate (1 - (lg_sl ([.int 1])).length) Slot.unset).toArray = ls at hl ⊢
  have hl : lv_has ls 1 [(0, .int 1)] := hl
  refine lv_iload_n hx hb dX9_one_0 rfl (lv_at hl 0 rfl) ?_
  refine lv_if_eq (tgt := 8) hx hb dX9_one_1 (by decide) (fun c_ => absurd c_ (by decide)) (fun _ => ?_)
  refine lv_iconst (v := 1) hx hb dX9_one_4 (by decide) ?_
  refine lv_goto (tgt := 9) hx hb dX9_one_5 (by decide) ?_
  exact W.iret (v := 1) hx hb hr (fun t ht hW => ⟨1, rfl, rfl, ht⟩) (fun q h => by cases h) dX9_one_9

set_option maxHeartbeats 4000000 in
set_option maxRecDepth 100000 in
theorem m_one (l : Launch) (D : va_G) (v : Int32) : Met l yX9_one wsX9_one ({ frames := 0, cells := 0, slots := 0, locals := 0 }) (va_Pc [.int v] (wo D [] [])) (vp_Si (fun r => ((¬ (v).toInt = 0) ∧ r = 1) ∨ (((v).toInt = 0) ∧ r = 0))) 0 0 (fun _ => False) := by
  refine Met.ofW (cc := cX9_one) (maxL := 1) (ret := (some .int)) (by decide) rfl ?_
  intro p e s m args below meth c s₁ B hml hv
  obtain ⟨rfl, hP, hK, hD, hN⟩ := hv
  have hx := B.exec
  have hb := B.bytes
  have hr := B.returns
  have hts := atoms_spec (ws := wsX9_one) B.pre
  have hown : s.vm.findClass RX9 = some m.cls := findClass_of_methodNamed B.named
  have hlocks := B.notSynchronized
  have hl := lv_entry ([.int v]) (n := 1) (Nat.le_of_ble_eq_true rfl)
  rw [lg_entry_eq]
  generalize (lg_sl ([.int v]) ++ List.replicate (1 - (lg_sl ([.int v])).length) Slot.unset).toArray = ls at hl ⊢
  have hl : lv_has ls 1 [(0, .int v)] := hl
  refine lv_iload_n hx hb dX9_one_0 rfl (lv_at hl 0 rfl) ?_
  refine bz_eq (zx := (v).toInt) (tgt := 8) hx hb dX9_one_1 (by decide) rfl (fun c_1 => ?_) (fun c_1 => ?_)
  · refine lv_iconst (v := 0) hx hb dX9_one_8 (by decide) ?_
    exact W.iret (v := 0) hx hb hr (fun t ht hW => ⟨0, rfl, Or.inr ⟨by omega, rfl⟩, ht⟩) (fun q h => by cases h) dX9_one_9
  · refine lv_iconst (v := 1) hx hb dX9_one_4 (by decide) ?_
    refine lv_goto (tgt := 9) hx hb dX9_one_5 (by decide) ?_
    exact W.iret (v := 1) hx hb hr (fun t ht hW => ⟨1, rfl, Or.inl ⟨by omega, rfl⟩, ht⟩) (fun q h => by cases h) dX9_one_9

set_option maxHeartbeats 4000000 in
set_option maxRecDepth 100000 in
theorem m_isPlan (l : Launch) (D : va_G) (v : Int32) : Met l yX9_isPlan wsX9_isPlan ({ frames := 1, cells := 0, slots := 0, locals := 22 }) (va_Pc [.int v] (wo D [] [])) (vp_Si (fun r => ((0 ≤ (v).toInt ∧ (v).toInt ≤ 300) ∧ r = 1) ∨ (((v).toInt < 0 ∨ 300 < (v).toInt) ∧ r = 0))) 0 0 (fun _ => False) := by
  refine Met.ofW (cc := cX9_isPlan) (maxL := 1) (ret := (some .boolean)) (by decide) rfl ?_
  intro p e s m args below meth c s₁ B hml hv
  obtain ⟨rfl, hP, hK, hD, hN⟩ := hv
  have hx := B.exec
  have hb := B.bytes
  have hr := B.returns
  have hts := atoms_spec (ws := wsX9_isPlan) B.pre
  have hown : s.vm.findClass RX9 = some m.cls := findClass_of_methodNamed B.named
  have hlocks := B.notSynchronized
  have hl := lv_entry ([.int v]) (n := 1) (Nat.le_of_ble_eq_true rfl)
  rw [lg_entry_eq]
  generalize (lg_sl ([.int v]) ++ List.replicate (1 - (lg_sl ([.int v])).length) Slot.unset).toArray = ls at hl ⊢
  have hl : lv_has ls 1 [(0, .int v)] := hl
  refine lv_iload_n hx hb dX9_isPlan_0 rfl (lv_at hl 0 rfl) ?_
  refine lv_iconst (v := 0) hx hb dX9_isPlan_1 (by decide) ?_
  refine lv_sipush (v := 300) hx hb dX9_isPlan_2 (by decide) ?_
  refine vp_callSi (zrS (As := [.int v, .int 0, .int 300]) (rest := []) (wc := []) ⟨hx, hb, hml, hown, hts⟩ hN hK hP hD (m_isIn l D v 0 300 ) (va_cwS 3 hts gX9_isPlan_X9_isIn rfl rfl rfl (by decide +kernel) ⟨(Nat.le_of_ble_eq_true rfl), (Nat.le_of_ble_eq_true rfl)⟩) [] [] rfl rfl (by decide) rfl hl.1 rfl (Nat.le_of_ble_eq_true rfl) dX9_isPlan_5 ⟨(Nat.le_of_ble_eq_true rfl), (Nat.le_of_ble_eq_true rfl)⟩) (fun r_1 h_2 => ?_)
  rcases h_2 with ⟨h_2, rfl⟩ | ⟨h_2, rfl⟩
  · have h_2 : 0 ≤ (v).toInt ∧ (v).toInt ≤ 300 := h_2
    exact W.zret (v := 1) hx hb hr rfl (fun t ht hW => ⟨1, rfl, Or.inl ⟨by omega, rfl⟩, ht⟩) (fun q h => by cases h) dX9_isPlan_8
  · have h_2 : (v).toInt < 0 ∨ 300 < (v).toInt := h_2
    exact W.zret (v := 0) hx hb hr rfl (fun t ht hW => ⟨0, rfl, Or.inr ⟨by omega, rfl⟩, ht⟩) (fun q h => by cases h) dX9_isPlan_8

set_option maxHeartbeats 4000000 in
set_option maxRecDepth 100000 in
theorem m_isAlarm (l : Launch) (D : va_G) (h0 : Nat) (b1 : Nat) (b2 : Nat) (b3 : Nat) (b4 : Nat) (b5 : Nat) (b6 : Nat) (b7 : Nat) (b8 : Nat) (b9 : Nat) (b10 : Nat) (b11 : Nat) (b12 : Nat) (b13 : Nat) (b14 : Nat) (b15 : Nat) (b16 : Nat) (b17 : Nat) (b18 : Nat) (b19 : Nat) (b20 : Nat) (b21 : Nat) (b22 : Nat) (b23 : Nat) (b24 : Nat) (b25 : Nat) (now : Int32) (na : Int32) (nsi : Int32) (nti : Int32) (vc : Int32) (vn : Int32) (vt : Int32) (ct : Int32) (cs : Int32) (co : Int32) (nca : Int32) (ntm : Int32) (p0 : Int32) (hna : 0 ≤ (na).toInt ∧ (na).toInt ≤ 200) : Met l yX9_isAlarm wsX9_isAlarm ({ frames := 1, cells := 0, slots := 0, locals := 22 }) (va_Pc [.ref h0, .int p0] (wo D [] [(h0, .inr (9, [.int now, .int na, .int nsi, .int nti, .int vc, .int vn, .int vt, .ref b1, .ref b2, .ref b3, .ref b4, .ref b5, .ref b6, .ref b7, .ref b8, .ref b9, .ref b10, .ref b11, .ref b12, .ref b13, .ref b14, .ref b15, .ref b16, .ref b17, .ref b18, .int ct, .int cs, .int co, .ref b19, .ref b20, .ref b21, .int nca, .ref b22, .ref b23, .int ntm, .ref b24, .ref b25]))])) (vp_Si (fun r => ((0 ≤ (p0).toInt ∧ (p0).toInt < (na).toInt) ∧ r = 1) ∨ (((p0).toInt < 0 ∨ (na).toInt ≤ (p0).toInt) ∧ r = 0))) 0 0 (fun _ => False) := by
  refine Met.ofW (cc := cX9_isAlarm) (maxL := 2) (ret := (some .boolean)) (by decide) rfl ?_
  intro p e s m args below meth c s₁ B hml hv
  obtain ⟨rfl, hP, hK, hD, hN⟩ := hv
  have hx := B.exec
  have hb := B.bytes
  have hr := B.returns
  have hts := atoms_spec (ws := wsX9_isAlarm) B.pre
  have hown : s.vm.findClass RX9 = some m.cls := findClass_of_methodNamed B.named
  have hlocks := B.notSynchronized
  have hin_X9 : ∀ w ∈ u_ws RX9 TX9 37, w ∈ wsX9_isAlarm := by decide +kernel
  have hl := lv_entry ([.ref h0, .int p0]) (n := 2) (Nat.le_of_ble_eq_true rfl)
  rw [lg_entry_eq]
  generalize (lg_sl ([.ref h0, .int p0]) ++ List.replicate (2 - (lg_sl ([.ref h0, .int p0])).length) Slot.unset).toArray = ls at hl ⊢
  have hl : lv_has ls 2 [(0, .ref h0), (1, .int p0)] := hl
  refine lv_iload_n hx hb dX9_isAlarm_0 rfl (lv_at hl 1 rfl) ?_
  refine lv_iconst (v := 0) hx hb dX9_isAlarm_1 (by decide) ?_
  refine lv_aload_n hx hb dX9_isAlarm_2 rfl (lv_at hl 0 rfl) ?_
  refine va_get (D := D) (ci := 9) (v := .int na) (C := RX9) (T := TX9) (N := 37) hx hb hts hin_X9 hown hK hP 0 rfl rfl 1 (by decide) (hts (.fieldLink RX9 93 "CryOrderModel" "alarms" "I") (by decide +kernel)) (fun _ h9 => h9) rfl dX9_isAlarm_3 ?_
  refine lv_iconst (v := 1) hx hb dX9_isAlarm_6 (by decide) ?_
  refine lv_isub hx hb dX9_isAlarm_7 ?_
  refine lv_topi (fun z_1 ez_1 => ?_)
  have tz_1 := sb_toInt (zx := (na).toInt) (zy := 1) ez_1 rfl (by decide)
  refine vp_callSi (zrS (As := [.int p0, .int 0, .int z_1]) (rest := []) (wc := []) ⟨hx, hb, hml, hown, hts⟩ hN hK hP hD (m_isIn l D p0 0 z_1 ) (va_cwS 3 hts gX9_isAlarm_X9_isIn rfl rfl rfl (by decide +kernel) ⟨(Nat.le_of_ble_eq_true rfl), (Nat.le_of_ble_eq_true rfl)⟩) [] [] rfl rfl (by decide) rfl hl.1 rfl (Nat.le_of_ble_eq_true rfl) dX9_isAlarm_8 ⟨(Nat.le_of_ble_eq_true rfl), (Nat.le_of_ble_eq_true rfl)⟩) (fun r_2 h_3 => ?_)
  rcases h_3 with ⟨h_3, rfl⟩ | ⟨h_3, rfl⟩
  · have h_3 : 0 ≤ (p0).toInt ∧ (p0).toInt ≤ (z_1).toInt := h_3
    exact W.zret (v := 1) hx hb hr rfl (fun t ht hW => ⟨1, rfl, Or.inl ⟨by omega, rfl⟩, ht⟩) (fun q h => by cases h) dX9_isAlarm_11
  · have h_3 : (p0).toInt < 0 ∨ (z_1).toInt < (p0).toInt := h_3
    exact W.zret (v := 0) hx hb hr rfl (fun t ht hW => ⟨0, rfl, Or.inr ⟨by omega, rfl⟩, ht⟩) (fun q h => by cases h) dX9_isAlarm_11

set_option maxHeartbeats 4000000 in
set_option maxRecDepth 100000 in
theorem m_isLive (l : Launch) (D : va_G) (h0 : Nat) (b1 : Nat) (b2 : Nat) (b3 : Nat) (b4 : Nat) (b5 : Nat) (b6 : Nat) (b7 : Nat) (b8 : Nat) (b9 : Nat) (b10 : Nat) (b11 : Nat) (b12 : Nat) (b13 : Nat) (b14 : Nat) (b15 : Nat) (b16 : Nat) (b17 : Nat) (b18 : Nat) (b19 : Nat) (b20 : Nat) (b21 : Nat) (b22 : Nat) (b23 : Nat) (b24 : Nat) (b25 : Nat) (now : Int32) (na : Int32) (nsi : Int32) (nti : Int32) (vc : Int32) (vn : Int32) (vt : Int32) (ct : Int32) (cs : Int32) (co : Int32) (nca : Int32) (ntm : Int32) (d8 : ClassId) (d11 : ClassId) (d12 : ClassId) (f8 : Nat → Int32) (f11 : Nat → Int32) (f12 : Nat → Int32) (p0 : Int32) (hp0 : 0 ≤ (p0).toInt ∧ (p0).toInt < 200) : Met l yX9_isLive wsX9_isLive ({ frames := 0, cells := 0, slots := 0, locals := 0 }) (va_Pc [.ref h0, .int p0] (wo D [(d8, .int), (d11, .boolean), (d12, .boolean)] [(h0, .inr (9, [.int now, .int na, .int nsi, .int nti, .int vc, .int vn, .int vt, .ref b1, .ref b2, .ref b3, .ref b4, .ref b5, .ref b6, .ref b7, .ref b8, .ref b9, .ref b10, .ref b11, .ref b12, .ref b13, .ref b14, .ref b15, .ref b16, .ref b17, .ref b18, .int ct, .int cs, .int co, .ref b19, .ref b20, .ref b21, .int nca, .ref b22, .ref b23, .int ntm, .ref b24, .ref b25])), (b8, .inl (d8, 200, .inl (f8))), (b11, .inl (d11, 200, .inl (f11))), (b12, .inl (d12, 200, .inl (f12)))])) (vp_Si (fun r => ((True) ∧ r = 1) ∨ ((True) ∧ r = 0))) 0 0 (fun _ => False) := by
  refine Met.ofW (cc := cX9_isLive) (maxL := 2) (ret := (some .boolean)) (by decide) rfl ?_
  intro p e s m args below meth c s₁ B hml hv
  obtain ⟨rfl, hP, hK, hD, hN⟩ := hv
  have hx := B.exec
  have hb := B.bytes
  have hr := B.returns
  have hts := atoms_spec (ws := wsX9_isLive) B.pre
  have hown : s.vm.findClass RX9 = some m.cls := findClass_of_methodNamed B.named
  have hlocks := B.notSynchronized
  have hin_X9 : ∀ w ∈ u_ws RX9 TX9 37, w ∈ wsX9_isLive := by decide +kernel
  have hl := lv_entry ([.ref h0, .int p0]) (n := 2) (Nat.le_of_ble_eq_true rfl)
  rw [lg_entry_eq]
  generalize (lg_sl ([.ref h0, .int p0]) ++ List.replicate (2 - (lg_sl ([.ref h0, .int p0])).length) Slot.unset).toArray = ls at hl ⊢
  have hl : lv_has ls 2 [(0, .ref h0), (1, .int p0)] := hl
  refine lv_aload_n hx hb dX9_isLive_0 rfl (lv_at hl 0 rfl) ?_
  refine va_get (D := D) (ci := 9) (v := .ref b8) (C := RX9) (T := TX9) (N := 37) hx hb hts hin_X9 hown hK hP 0 rfl rfl 14 (by decide) (hts (.fieldLink RX9 38 "CryOrderModel" "state" "[I") (by decide +kernel)) (fun _ h9 => h9) rfl dX9_isLive_1 ?_
  refine lv_iload_n hx hb dX9_isLive_4 rfl (lv_at hl 1 rfl) ?_
  refine va_iald hx hb hK hP 1 0 rfl rfl (vp_in_iff.mpr (by omega)) dX9_isLive_5 ?_
  refine lv_topi (fun z_1 ez_1 => ?_)
  refine bz_ne (zx := (z_1).toInt) (tgt := 31) hx hb dX9_isLive_6 (by decide) rfl (fun c_2 => ?_) (fun c_2 => ?_)
  · refine lv_iconst (v := 0) hx hb dX9_isLive_31 (by decide) ?_
    exact W.zret (v := 0) hx hb hr rfl (fun t ht hW => ⟨0, rfl, Or.inr ⟨trivial, rfl⟩, ht⟩) (fun q h => by cases h) dX9_isLive_32
  · refine lv_aload_n hx hb dX9_isLive_9 rfl (lv_at hl 0 rfl) ?_
    refine va_get (D := D) (ci := 9) (v := .ref b11) (C := RX9) (T := TX9) (N := 37) hx hb hts hin_X9 hown hK hP 0 rfl rfl 17 (by decide) (hts (.fieldLink RX9 47 "CryOrderModel" "isSilenced" "[Z") (by decide +kernel)) (fun _ h9 => h9) rfl dX9_isLive_10 ?_
    refine lv_iload_n hx hb dX9_isLive_13 rfl (lv_at hl 1 rfl) ?_
    refine va_zald hx hb hK hP 2 1 rfl rfl (vp_in_iff.mpr (by omega)) dX9_isLive_14 ?_
    refine lv_topi (fun z_3 ez_3 => ?_)
    refine bz_ne (zx := (z_3).toInt) (tgt := 31) hx hb dX9_isLive_15 (by decide) rfl (fun c_4 => ?_) (fun c_4 => ?_)
    · refine lv_iconst (v := 0) hx hb dX9_isLive_31 (by decide) ?_
      exact W.zret (v := 0) hx hb hr rfl (fun t ht hW => ⟨0, rfl, Or.inr ⟨trivial, rfl⟩, ht⟩) (fun q h => by cases h) dX9_isLive_32
    · refine lv_aload_n hx hb dX9_isLive_18 rfl (lv_at hl 0 rfl) ?_
      refine va_get (D := D) (ci := 9) (v := .ref b12) (C := RX9) (T := TX9) (N := 37) hx hb hts hin_X9 hown hK hP 0 rfl rfl 18 (by decide) (hts (.fieldLink RX9 51 "CryOrderModel" "isCapped" "[Z") (by decide +kernel)) (fun _ h9 => h9) rfl dX9_isLive_19 ?_
      refine lv_iload_n hx hb dX9_isLive_22 rfl (lv_at hl 1 rfl) ?_
      refine va_zald hx hb hK hP 3 2 rfl rfl (vp_in_iff.mpr (by omega)) dX9_isLive_23 ?_
      refine lv_topi (fun z_5 ez_5 => ?_)
      refine bz_ne (zx := (z_5).toInt) (tgt := 31) hx hb dX9_isLive_24 (by decide) rfl (fun c_6 => ?_) (fun c_6 => ?_)
      · refine lv_iconst (v := 0) hx hb dX9_isLive_31 (by decide) ?_
        exact W.zret (v := 0) hx hb hr rfl (fun t ht hW => ⟨0, rfl, Or.inr ⟨trivial, rfl⟩, ht⟩) (fun q h => by cases h) dX9_isLive_32
      · refine lv_iconst (v := 1) hx hb dX9_isLive_27 (by decide) ?_
        refine lv_goto (tgt := 32) hx hb dX9_isLive_28 (by decide) ?_
        exact W.zret (v := 1) hx hb hr rfl (fun t ht hW => ⟨1, rfl, Or.inl ⟨trivial, rfl⟩, ht⟩) (fun q h => by cases h) dX9_isLive_32

set_option maxHeartbeats 4000000 in
set_option maxRecDepth 100000 in
theorem ml_tieOf {p : Program} {l : Launch} {e : Env} {R : Room} {s : State} {m : MethodId} {args : Array Value} {below : List Frame} {meth : Method} {c : Code} {Q : State → Prop} {A : Nat → Prop} {cells slots : Nat} {D : va_G} {H : Heap} {locs : List Loc} {h0 : Nat} {b1 : Nat} {b2 : Nat} {b3 : Nat} {b4 : Nat} {b5 : Nat} {b6 : Nat} {b7 : Nat} {b8 : Nat} {b9 : Nat} {b10 : Nat} {b11 : Nat} {b12 : Nat} {b13 : Nat} {b14 : Nat} {b15 : Nat} {b16 : Nat} {b17 : Nat} {b18 : Nat} {b19 : Nat} {b20 : Nat} {b21 : Nat} {b22 : Nat} {b23 : Nat} {b24 : Nat} {b25 : Nat} {now : Int32} {na : Int32} {nsi : Int32} {nti : Int32} {vc : Int32} {vn : Int32} {vt : Int32} {ct : Int32} {cs : Int32} {co : Int32} {nca : Int32} {ntm : Int32} {d16 : ClassId} {d17 : ClassId} {f16 : Nat → Int32} {f17 : Nat → Int32} {p0 : Int32} {p1 : Int32} (hx : p.tables.exec = Jvm.exec) (hb : c.code = cX9_tieOf) (hts : ∀ w ∈ wsX9_tieOf, w.before args s = true) (hml : c.maxLocals = 4) (hown : s.vm.findClass RX9 = some m.cls) (hN : Nq s) (hK : va_K D vwCl [(d16, .int), (d17, .int)] s) (hP : va_P D vwCl [(h0, .inr (9, [.int now, .int na, .int nsi, .int nti, .int vc, .int vn, .int vt, .ref b1, .ref b2, .ref b3, .ref b4, .ref b5, .ref b6, .ref b7, .ref b8, .ref b9, .ref b10, .ref b11, .ref b12, .ref b13, .ref b14, .ref b15, .ref b16, .ref b17, .ref b18, .int ct, .int cs, .int co, .ref b19, .ref b20, .ref b21, .int nca, .ref b22, .ref b23, .int ntm, .ref b24, .ref b25])), (b16, .inl (d16, 60, .inl (f16))), (b17, .inl (d17, 60, .inl (f17)))] H) (hD : va_D A [(h0, .inr (9, [.int now, .int na, .int nsi, .int nti, .int vc, .int vn, .int vt, .ref b1, .ref b2, .ref b3, .ref b4, .ref b5, .ref b6, .ref b7, .ref b8, .ref b9, .ref b10, .ref b11, .ref b12, .ref b13, .ref b14, .ref b15, .ref b16, .ref b17, .ref b18, .int ct, .int cs, .int co, .ref b19, .ref b20, .ref b21, .int nca, .ref b22, .ref b23, .int ntm, .ref b24, .ref b25])), (b16, .inl (d16, 60, .inl (f16))), (b17, .inl (d17, 60, .inl (f17)))]) (hR : 0 ≤ R.frames ∧ 0 ≤ R.locals) (hcs : cells ≤ R.cells ∧ slots ≤ R.slots) (hnt : 0 ≤ (nti).toInt ∧ (nti).toInt ≤ 60) (done_50 : ∀ (k : Int32) (ls : Array Slot), (0 ≤ (k).toInt ∧ (k).toInt < (nti).toInt) → lv_has ls 4 [(3, .int k), (0, .ref h0), (1, .int p0), (2, .int p1)] → W p l e R s m args below meth c H locs cells slots Q (F0 m 50 ls [])) (done_58 : ∀ (k : Int32) (ls : Array Slot), lv_has ls 4 [(3, .int k), (0, .ref h0), (1, .int p0), (2, .int p1)] → W p l e R s m args below meth c H locs cells slots Q (F0 m 58 ls [])) : ∀ (n : Nat), ∀ (k : Int32) (ls : Array Slot), (0 ≤ (k).toInt ∧ (k).toInt ≤ 60) → ((60 - (k).toInt).toNat < n) → lv_has ls 4 [(3, .int k), (0, .ref h0), (1, .int p0), (2, .int p1)] → W p l e R s m args below meth c H locs cells slots Q (F0 m 2 ls []) := by
  have hin_X9 : ∀ w ∈ u_ws RX9 TX9 37, w ∈ wsX9_tieOf := by decide +kernel
  intro n
  induction n with
  | zero => intro k ls hk hmu hl; exact absurd hmu (Nat.not_lt_zero _)
  | succ n ih =>
    intro k ls hk hmu hl
    refine lv_iload_n hx hb dX9_tieOf_2 rfl (lv_at hl 0 rfl) ?_
    refine lv_aload_n hx hb dX9_tieOf_3 rfl (lv_at hl 1 rfl) ?_
    refine va_get (D := D) (ci := 9) (v := .int nti) (C := RX9) (T := TX9) (N := 37) hx hb hts hin_X9 hown hK hP 0 rfl rfl 3 (by decide) (hts (.fieldLink RX9 124 "CryOrderModel" "ties" "I") (by decide +kernel)) (fun _ h9 => h9) rfl dX9_tieOf_4 ?_
    refine bi_ge (zx := (k).toInt) (zy := (nti).toInt) (tgt := 58) hx hb dX9_tieOf_7 (by decide) rfl rfl (fun c_1 => ?_) (fun c_1 => ?_)
    · exact done_58 _ _  (lv_sub hl [0, 1, 2, 3] rfl)
    · refine lv_aload_n hx hb dX9_tieOf_10 rfl (lv_at hl 1 rfl) ?_
      refine va_get (D := D) (ci := 9) (v := .ref b16) (C := RX9) (T := TX9) (N := 37) hx hb hts hin_X9 hown hK hP 0 rfl rfl 22 (by decide) (hts (.fieldLink RX9 63 "CryOrderModel" "tieA" "[I") (by decide +kernel)) (fun _ h9 => h9) rfl dX9_tieOf_11 ?_
      refine lv_iload_n hx hb dX9_tieOf_14 rfl (lv_at hl 0 rfl) ?_
      refine va_iald hx hb hK hP 1 0 rfl rfl (vp_in_iff.mpr (by omega)) dX9_tieOf_15 ?_
      refine lv_topi (fun z_2 ez_2 => ?_)
      refine lv_iload_n hx hb dX9_tieOf_16 rfl (lv_at hl 2 rfl) ?_
      refine bi_ne (zx := (z_2).toInt) (zy := (p0).toInt) (tgt := 30) hx hb dX9_tieOf_17 (by decide) rfl rfl (fun c_3 => ?_) (fun c_3 => ?_)
      · refine lv_aload_n hx hb dX9_tieOf_30 rfl (lv_at hl 1 rfl) ?_
        refine va_get (D := D) (ci := 9) (v := .ref b16) (C := RX9) (T := TX9) (N := 37) hx hb hts hin_X9 hown hK hP 0 rfl rfl 22 (by decide) (hts (.fieldLink RX9 63 "CryOrderModel" "tieA" "[I") (by decide +kernel)) (fun _ h9 => h9) rfl dX9_tieOf_31 ?_
        refine lv_iload_n hx hb dX9_tieOf_34 rfl (lv_at hl 0 rfl) ?_
        refine va_iald hx hb hK hP 1 0 rfl rfl (vp_in_iff.mpr (by omega)) dX9_tieOf_35 ?_
        refine lv_topi (fun z_4 ez_4 => ?_)
        have qz_4 : (z_4).toInt = (z_2).toInt := by rw [ez_4, ez_2]
        refine lv_iload_n hx hb dX9_tieOf_36 rfl (lv_at hl 3 rfl) ?_
        refine bi_ne (zx := (z_4).toInt) (zy := (p1).toInt) (tgt := 52) hx hb dX9_tieOf_37 (by decide) rfl rfl (fun c_5 => ?_) (fun c_5 => ?_)
        · obtain ⟨x_6, ex_6⟩ : ∃ z : Int32, z = k + 1 := ⟨_, rfl⟩
          have tx_6 := ad_toInt (x := k) (y := 1) (z := x_6) (zx := (k).toInt) (zy := 1) ex_6 rfl (by decide)
          refine lv_iinc (v := x_6) (lv' := [(3, .int x_6), (0, .ref h0), (1, .int p0), (2, .int p1)]) hx hb dX9_tieOf_52 hl (k := 0) rfl (by rw [ex_6]; rfl) (by decide) rfl (fun ls hl => ?_)
          refine lv_goto (tgt := 2) hx hb dX9_tieOf_55 (by decide) ?_
          exact ih _ _ (by first | omega | assumption) (by omega) (lv_sub hl [0, 1, 2, 3] rfl)
        · refine lv_aload_n hx hb dX9_tieOf_40 rfl (lv_at hl 1 rfl) ?_
          refine va_get (D := D) (ci := 9) (v := .ref b17) (C := RX9) (T := TX9) (N := 37) hx hb hts hin_X9 hown hK hP 0 rfl rfl 23 (by decide) (hts (.fieldLink RX9 66 "CryOrderModel" "tieB" "[I") (by decide +kernel)) (fun _ h9 => h9) rfl dX9_tieOf_41 ?_
          refine lv_iload_n hx hb dX9_tieOf_44 rfl (lv_at hl 0 rfl) ?_
          refine va_iald hx hb hK hP 2 1 rfl rfl (vp_in_iff.mpr (by omega)) dX9_tieOf_45 ?_
          refine lv_topi (fun z_7 ez_7 => ?_)
          refine lv_iload_n hx hb dX9_tieOf_46 rfl (lv_at hl 2 rfl) ?_
          refine bi_ne (zx := (z_7).toInt) (zy := (p0).toInt) (tgt := 52) hx hb dX9_tieOf_47 (by decide) rfl rfl (fun c_8 => ?_) (fun c_8 => ?_)
          · obtain ⟨x_9, ex_9⟩ : ∃ z : Int32, z = k + 1 := ⟨_, rfl⟩
            have tx_9 := ad_toInt (x := k) (y := 1) (z := x_9) (zx := (k).toInt) (zy := 1) ex_9 rfl (by decide)
            refine lv_iinc (v := x_9) (lv' := [(3, .int x_9), (0, .ref h0), (1, .int p0), (2, .int p1)]) hx hb dX9_tieOf_52 hl (k := 0) rfl (by rw [ex_9]; rfl) (by decide) rfl (fun ls hl => ?_)
            refine lv_goto (tgt := 2) hx hb dX9_tieOf_55 (by decide) ?_
            exact ih _ _ (by first | omega | assumption) (by omega) (lv_sub hl [0, 1, 2, 3] rfl)
          · exact done_50 _ _ (by omega) (lv_sub hl [0, 1, 2, 3] rfl)
      · refine lv_aload_n hx hb dX9_tieOf_20 rfl (lv_at hl 1 rfl) ?_
        refine va_get (D := D) (ci := 9) (v := .ref b17) (C := RX9) (T := TX9) (N := 37) hx hb hts hin_X9 hown hK hP 0 rfl rfl 23 (by decide) (hts (.fieldLink RX9 66 "CryOrderModel" "tieB" "[I") (by decide +kernel)) (fun _ h9 => h9) rfl dX9_tieOf_21 ?_
        refine lv_iload_n hx hb dX9_tieOf_24 rfl (lv_at hl 0 rfl) ?_
        refine va_iald hx hb hK hP 2 1 rfl rfl (vp_in_iff.mpr (by omega)) dX9_tieOf_25 ?_
        refine lv_topi (fun z_10 ez_10 => ?_)
        refine lv_iload_n hx hb dX9_tieOf_26 rfl (lv_at hl 3 rfl) ?_
        refine bi_eq (zx := (z_10).toInt) (zy := (p1).toInt) (tgt := 50) hx hb dX9_tieOf_27 (by decide) rfl rfl (fun c_11 => ?_) (fun c_11 => ?_)
        · exact done_50 _ _ (by omega) (lv_sub hl [0, 1, 2, 3] rfl)
        · refine lv_aload_n hx hb dX9_tieOf_30 rfl (lv_at hl 1 rfl) ?_
          refine va_get (D := D) (ci := 9) (v := .ref b16) (C := RX9) (T := TX9) (N := 37) hx hb hts hin_X9 hown hK hP 0 rfl rfl 22 (by decide) (hts (.fieldLink RX9 63 "CryOrderModel" "tieA" "[I") (by decide +kernel)) (fun _ h9 => h9) rfl dX9_tieOf_31 ?_
          refine lv_iload_n hx hb dX9_tieOf_34 rfl (lv_at hl 0 rfl) ?_
          refine va_iald hx hb hK hP 1 0 rfl rfl (vp_in_iff.mpr (by omega)) dX9_tieOf_35 ?_
          refine lv_topi (fun z_12 ez_12 => ?_)
          have qz_12 : (z_12).toInt = (z_2).toInt := by rw [ez_12, ez_2]
          refine lv_iload_n hx hb dX9_tieOf_36 rfl (lv_at hl 3 rfl) ?_
          refine bi_ne (zx := (z_12).toInt) (zy := (p1).toInt) (tgt := 52) hx hb dX9_tieOf_37 (by decide) rfl rfl (fun c_13 => ?_) (fun c_13 => ?_)
          · obtain ⟨x_14, ex_14⟩ : ∃ z : Int32, z = k + 1 := ⟨_, rfl⟩
            have tx_14 := ad_toInt (x := k) (y := 1) (z := x_14) (zx := (k).toInt) (zy := 1) ex_14 rfl (by decide)
            refine lv_iinc (v := x_14) (lv' := [(3, .int x_14), (0, .ref h0), (1, .int p0), (2, .int p1)]) hx hb dX9_tieOf_52 hl (k := 0) rfl (by rw [ex_14]; rfl) (by decide) rfl (fun ls hl => ?_)
            refine lv_goto (tgt := 2) hx hb dX9_tieOf_55 (by decide) ?_
            exact ih _ _ (by first | omega | assumption) (by omega) (lv_sub hl [0, 1, 2, 3] rfl)
          · refine lv_aload_n hx hb dX9_tieOf_40 rfl (lv_at hl 1 rfl) ?_
            refine va_get (D := D) (ci := 9) (v := .ref b17) (C := RX9) (T := TX9) (N := 37) hx hb hts hin_X9 hown hK hP 0 rfl rfl 23 (by decide) (hts (.fieldLink RX9 66 "CryOrderModel" "tieB" "[I") (by decide +kernel)) (fun _ h9 => h9) rfl dX9_tieOf_41 ?_
            refine lv_iload_n hx hb dX9_tieOf_44 rfl (lv_at hl 0 rfl) ?_
            refine va_iald hx hb hK hP 2 1 rfl rfl (vp_in_iff.mpr (by omega)) dX9_tieOf_45 ?_
            refine lv_topi (fun z_15 ez_15 => ?_)
            have qz_15 : (z_15).toInt = (z_10).toInt := by rw [ez_15, ez_10]
            refine lv_iload_n hx hb dX9_tieOf_46 rfl (lv_at hl 2 rfl) ?_
            refine bi_ne (zx := (z_15).toInt) (zy := (p0).toInt) (tgt := 52) hx hb dX9_tieOf_47 (by decide) rfl rfl (fun c_16 => ?_) (fun c_16 => ?_)
            · obtain ⟨x_17, ex_17⟩ : ∃ z : Int32, z = k + 1 := ⟨_, rfl⟩
              have tx_17 := ad_toInt (x := k) (y := 1) (z := x_17) (zx := (k).toInt) (zy := 1) ex_17 rfl (by decide)
              refine lv_iinc (v := x_17) (lv' := [(3, .int x_17), (0, .ref h0), (1, .int p0), (2, .int p1)]) hx hb dX9_tieOf_52 hl (k := 0) rfl (by rw [ex_17]; rfl) (by decide) rfl (fun ls hl => ?_)
              refine lv_goto (tgt := 2) hx hb dX9_tieOf_55 (by decide) ?_
              exact ih _ _ (by first | omega | assumption) (by omega) (lv_sub hl [0, 1, 2, 3] rfl)
            · exact done_50 _ _ (by omega) (lv_sub hl [0, 1, 2, 3] rfl)

set_option maxHeartbeats 4000000 in
set_option maxRecDepth 100000 in
theorem m_tieOf (l : Launch) (D : va_G) (h0 : Nat) (b1 : Nat) (b2 : Nat) (b3 : Nat) (b4 : Nat) (b5 : Nat) (b6 : Nat) (b7 : Nat) (b8 : Nat) (b9 : Nat) (b10 : Nat) (b11 : Nat) (b12 : Nat) (b13 : Nat) (b14 : Nat) (b15 : Nat) (b16 : Nat) (b17 : Nat) (b18 : Nat) (b19 : Nat) (b20 : Nat) (b21 : Nat) (b22 : Nat) (b23 : Nat) (b24 : Nat) (b25 : Nat) (now : Int32) (na : Int32) (nsi : Int32) (nti : Int32) (vc : Int32) (vn : Int32) (vt : Int32) (ct : Int32) (cs : Int32) (co : Int32) (nca : Int32) (ntm : Int32) (d16 : ClassId) (d17 : ClassId) (f16 : Nat → Int32) (f17 : Nat → Int32) (p0 : Int32) (p1 : Int32) (hnt : 0 ≤ (nti).toInt ∧ (nti).toInt ≤ 60) : Met l yX9_tieOf wsX9_tieOf ({ frames := 0, cells := 0, slots := 0, locals := 0 }) (va_Pc [.ref h0, .int p0, .int p1] (wo D [(d16, .int), (d17, .int)] [(h0, .inr (9, [.int now, .int na, .int nsi, .int nti, .int vc, .int vn, .int vt, .ref b1, .ref b2, .ref b3, .ref b4, .ref b5, .ref b6, .ref b7, .ref b8, .ref b9, .ref b10, .ref b11, .ref b12, .ref b13, .ref b14, .ref b15, .ref b16, .ref b17, .ref b18, .int ct, .int cs, .int co, .ref b19, .ref b20, .ref b21, .int nca, .ref b22, .ref b23, .int ntm, .ref b24, .ref b25])), (b16, .inl (d16, 60, .inl (f16))), (b17, .inl (d17, 60, .inl (f17)))])) (vp_Si (fun r => (r).toInt = -1 ∨ (0 ≤ (r).toInt ∧ (r).toInt < (nti).toInt))) 0 0 (fun _ => False) := by
  refine Met.ofW (cc := cX9_tieOf) (maxL := 4) (ret := (some .int)) (by decide) rfl ?_
  intro p e s m args below meth c s₁ B hml hv
  obtain ⟨rfl, hP, hK, hD, hN⟩ := hv
  have hx := B.exec
  have hb := B.bytes
  have hr := B.returns
  have hts := atoms_spec (ws := wsX9_tieOf) B.pre
  have hown : s.vm.findClass RX9 = some m.cls := findClass_of_methodNamed B.named
  have hlocks := B.notSynchronized
  have hl := lv_entry ([.ref h0, .int p0, .int p1]) (n := 4) (Nat.le_of_ble_eq_true rfl)
  rw [lg_entry_eq]
  generalize (lg_sl ([.ref h0, .int p0, .int p1]) ++ List.replicate (4 - (lg_sl ([.ref h0, .int p0, .int p1])).length) Slot.unset).toArray = ls at hl ⊢
  have hl : lv_has ls 4 [(0, .ref h0), (1, .int p0), (2, .int p1)] := hl
  refine lv_iconst (v := 0) hx hb dX9_tieOf_0 (by decide) ?_
  refine lv_istore_n (lv' := [(3, .int 0), (0, .ref h0), (1, .int p0), (2, .int p1)]) hx hb dX9_tieOf_1 rfl hl (by decide) rfl (fun ls hl => ?_)
  refine ml_tieOf hx hb hts hml hown hN hK hP hD ⟨(Nat.le_of_ble_eq_true rfl), (Nat.le_of_ble_eq_true rfl)⟩ ⟨(Nat.le_of_ble_eq_true rfl), (Nat.le_of_ble_eq_true rfl)⟩ hnt (fun k_1 ls h_3 hl => ?_) (fun k_4 ls  hl => ?_) _ _ _ (by decide) (Nat.lt_succ_self _) (lv_sub hl [0, 1, 2, 3] rfl)
  · have h_3 : 0 ≤ (k_1).toInt ∧ (k_1).toInt < (nti).toInt := h_3
    refine lv_iload_n hx hb dX9_tieOf_50 rfl (lv_at hl 0 rfl) ?_
    exact W.iret (v := k_1) hx hb hr (fun t ht hW => ⟨k_1, rfl, Or.inr (by omega), ht⟩) (fun q h => by cases h) dX9_tieOf_51
  · refine lv_iconst (v := (-1)) hx hb dX9_tieOf_58 (by decide) ?_
    exact W.iret (v := (-1)) hx hb hr (fun t ht hW => ⟨(-1), rfl, Or.inl (by decide), ht⟩) (fun q h => by cases h) dX9_tieOf_59

set_option maxHeartbeats 4000000 in
set_option maxRecDepth 100000 in
theorem ml_many {p : Program} {l : Launch} {e : Env} {R : Room} {s : State} {m : MethodId} {args : Array Value} {below : List Frame} {meth : Method} {c : Code} {Q : State → Prop} {A : Nat → Prop} {cells slots : Nat} {D : va_G} {H : Heap} {locs : List Loc} {p0 : Int32} (hx : p.tables.exec = Jvm.exec) (hb : c.code = cX9_many) (hts : ∀ w ∈ wsX9_many, w.before args s = true) (hml : c.maxLocals = 3) (hown : s.vm.findClass RX9 = some m.cls) (hN : Nq s) (hK : va_K D vwCl [] s) (hP : va_P D vwCl [] H) (hD : va_D A []) (hR : 0 ≤ R.frames ∧ 0 ≤ R.locals) (hcs : cells ≤ R.cells ∧ slots ≤ R.slots) (done_21 : ∀ (v : Int32) (x : Int32) (ls : Array Slot), lv_has ls 3 [(2, .int v), (1, .int x), (0, .int p0)] → W p l e R s m args below meth c H locs cells slots Q (F0 m 21 ls [])) : ∀ (n : Nat), ∀ (v : Int32) (x : Int32) (ls : Array Slot), (((v).toInt).toNat < n) → lv_has ls 3 [(2, .int v), (1, .int x), (0, .int p0)] → W p l e R s m args below meth c H locs cells slots Q (F0 m 4 ls []) := by
  intro n
  induction n with
  | zero => intro v x ls  hmu hl; exact absurd hmu (Nat.not_lt_zero _)
  | succ n ih =>
    intro v x ls  hmu hl
    refine lv_iload_n hx hb dX9_many_4 rfl (lv_at hl 0 rfl) ?_
    refine bz_le (zx := (v).toInt) (tgt := 21) hx hb dX9_many_5 (by decide) rfl (fun c_1 => ?_) (fun c_1 => ?_)
    · exact done_21 _ _ _  (lv_sub hl [0, 1, 2] rfl)
    · refine lv_iload_n hx hb dX9_many_8 rfl (lv_at hl 1 rfl) ?_
      refine lv_iload_n hx hb dX9_many_9 rfl (lv_at hl 0 rfl) ?_
      refine lv_iconst (v := 1) hx hb dX9_many_10 (by decide) ?_
      refine lv_iand hx hb dX9_many_11 ?_
      refine lv_topi (fun z_2 ez_2 => ?_)
      have tz_2 := an1_toInt ez_2
      refine lv_iadd hx hb dX9_many_12 ?_
      refine lv_topi (fun z_3 ez_3 => ?_)
      have tz_3 := ad_toInt (zx := (x).toInt) (zy := (z_2).toInt) ez_3 rfl rfl
      refine lv_istore_n (lv' := [(1, .int z_3), (2, .int v), (0, .int p0)]) hx hb dX9_many_13 rfl hl (by decide) rfl (fun ls hl => ?_)
      refine lv_iload_n hx hb dX9_many_14 rfl (lv_at hl 1 rfl) ?_
      refine lv_iconst (v := 1) hx hb dX9_many_15 (by decide) ?_
      refine lv_ishr hx hb dX9_many_16 ?_
      refine lv_topi (fun z_4 ez_4 => ?_)
      have tz_4 := sh1_toInt ez_4
      refine lv_istore_n (lv' := [(2, .int z_4), (1, .int z_3), (0, .int p0)]) hx hb dX9_many_17 rfl hl (by decide) rfl (fun ls hl => ?_)
      refine lv_goto (tgt := 4) hx hb dX9_many_18 (by decide) ?_
      exact ih _ _ _  (by omega) (lv_sub hl [0, 1, 2] rfl)

set_option maxHeartbeats 4000000 in
set_option maxRecDepth 100000 in
theorem m_many (l : Launch) (D : va_G) (p0 : Int32) : Met l yX9_many wsX9_many ({ frames := 0, cells := 0, slots := 0, locals := 0 }) (va_Pc [.int p0] (wo D [] [])) (vp_Si (fun r => True)) 0 0 (fun _ => False) := by
  refine Met.ofW (cc := cX9_many) (maxL := 3) (ret := (some .int)) (by decide) rfl ?_
  intro p e s m args below meth c s₁ B hml hv
  obtain ⟨rfl, hP, hK, hD, hN⟩ := hv
  have hx := B.exec
  have hb := B.bytes
  have hr := B.returns
  have hts := atoms_spec (ws := wsX9_many) B.pre
  have hown : s.vm.findClass RX9 = some m.cls := findClass_of_methodNamed B.named
  have hlocks := B.notSynchronized
  have hl := lv_entry ([.int p0]) (n := 3) (Nat.le_of_ble_eq_true rfl)
  rw [lg_entry_eq]
  generalize (lg_sl ([.int p0]) ++ List.replicate (3 - (lg_sl ([.int p0])).length) Slot.unset).toArray = ls at hl ⊢
  have hl : lv_has ls 3 [(0, .int p0)] := hl
  refine lv_iconst (v := 0) hx hb dX9_many_0 (by decide) ?_
  refine lv_istore_n (lv' := [(1, .int 0), (0, .int p0)]) hx hb dX9_many_1 rfl hl (by decide) rfl (fun ls hl => ?_)
  refine lv_iload_n hx hb dX9_many_2 rfl (lv_at hl 1 rfl) ?_
  refine lv_istore_n (lv' := [(2, .int p0), (1, .int 0), (0, .int p0)]) hx hb dX9_many_3 rfl hl (by decide) rfl (fun ls hl => ?_)
  refine ml_many hx hb hts hml hown hN hK hP hD ⟨(Nat.le_of_ble_eq_true rfl), (Nat.le_of_ble_eq_true rfl)⟩ ⟨(Nat.le_of_ble_eq_true rfl), (Nat.le_of_ble_eq_true rfl)⟩  (fun v_1 x_2 ls  hl => ?_) _ _ _ _  (Nat.lt_succ_self _) (lv_sub hl [0, 1, 2] rfl)
  refine lv_iload_n hx hb dX9_many_21 rfl (lv_at hl 1 rfl) ?_
  exact W.iret (v := x_2) hx hb hr (fun t ht hW => ⟨x_2, rfl, trivial, ht⟩) (fun q h => by cases h) dX9_many_22

set_option maxHeartbeats 4000000 in
set_option maxRecDepth 100000 in
theorem ml_isTaken {p : Program} {l : Launch} {e : Env} {R : Room} {s : State} {m : MethodId} {args : Array Value} {below : List Frame} {meth : Method} {c : Code} {Q : State → Prop} {A : Nat → Prop} {cells slots : Nat} {D : va_G} {H : Heap} {locs : List Loc} {h0 : Nat} {b1 : Nat} {b2 : Nat} {b3 : Nat} {b4 : Nat} {b5 : Nat} {b6 : Nat} {b7 : Nat} {b8 : Nat} {b9 : Nat} {b10 : Nat} {b11 : Nat} {b12 : Nat} {b13 : Nat} {b14 : Nat} {b15 : Nat} {b16 : Nat} {b17 : Nat} {b18 : Nat} {b19 : Nat} {b20 : Nat} {b21 : Nat} {b22 : Nat} {b23 : Nat} {b24 : Nat} {b25 : Nat} {now : Int32} {na : Int32} {nsi : Int32} {nti : Int32} {vc : Int32} {vn : Int32} {vt : Int32} {ct : Int32} {cs : Int32} {co : Int32} {nca : Int32} {ntm : Int32} {d22 : ClassId} {f22 : Nat → Int32} {p0 : Int32} (hx : p.tables.exec = Jvm.exec) (hb : c.code = cX9_isTaken) (hts : ∀ w ∈ wsX9_isTaken, w.before args s = true) (hml : c.maxLocals = 3) (hown : s.vm.findClass RX9 = some m.cls) (hN : Nq s) (hK : va_K D vwCl [(d22, .int)] s) (hP : va_P D vwCl [(h0, .inr (9, [.int now, .int na, .int nsi, .int nti, .int vc, .int vn, .int vt, .ref b1, .ref b2, .ref b3, .ref b4, .ref b5, .ref b6, .ref b7, .ref b8, .ref b9, .ref b10, .ref b11, .ref b12, .ref b13, .ref b14, .ref b15, .ref b16, .ref b17, .ref b18, .int ct, .int cs, .int co, .ref b19, .ref b20, .ref b21, .int nca, .ref b22, .ref b23, .int ntm, .ref b24, .ref b25])), (b22, .inl (d22, 20, .inl (f22)))] H) (hD : va_D A [(h0, .inr (9, [.int now, .int na, .int nsi, .int nti, .int vc, .int vn, .int vt, .ref b1, .ref b2, .ref b3, .ref b4, .ref b5, .ref b6, .ref b7, .ref b8, .ref b9, .ref b10, .ref b11, .ref b12, .ref b13, .ref b14, .ref b15, .ref b16, .ref b17, .ref b18, .int ct, .int cs, .int co, .ref b19, .ref b20, .ref b21, .int nca, .ref b22, .ref b23, .int ntm, .ref b24, .ref b25])), (b22, .inl (d22, 20, .inl (f22)))]) (hR : 0 ≤ R.frames ∧ 0 ≤ R.locals) (hcs : cells ≤ R.cells ∧ slots ≤ R.slots) (htm : 0 ≤ (ntm).toInt ∧ (ntm).toInt ≤ 20) (done_20 : ∀ (k : Int32) (ls : Array Slot), lv_has ls 3 [(2, .int k), (0, .ref h0), (1, .int p0)] → W p l e R s m args below meth c H locs cells slots Q (F0 m 20 ls [])) (done_28 : ∀ (k : Int32) (ls : Array Slot), lv_has ls 3 [(2, .int k), (0, .ref h0), (1, .int p0)] → W p l e R s m args below meth c H locs cells slots Q (F0 m 28 ls [])) : ∀ (n : Nat), ∀ (k : Int32) (ls : Array Slot), (0 ≤ (k).toInt ∧ (k).toInt ≤ 20) → ((20 - (k).toInt).toNat < n) → lv_has ls 3 [(2, .int k), (0, .ref h0), (1, .int p0)] → W p l e R s m args below meth c H locs cells slots Q (F0 m 2 ls []) := by
  have hin_X9 : ∀ w ∈ u_ws RX9 TX9 37, w ∈ wsX9_isTaken := by decide +kernel
  intro n
  induction n with
  | zero => intro k ls hk hmu hl; exact absurd hmu (Nat.not_lt_zero _)
  | succ n ih =>
    intro k ls hk hmu hl
    refine lv_iload_n hx hb dX9_isTaken_2 rfl (lv_at hl 0 rfl) ?_
    refine lv_aload_n hx hb dX9_isTaken_3 rfl (lv_at hl 1 rfl) ?_
    refine va_get (D := D) (ci := 9) (v := .int ntm) (C := RX9) (T := TX9) (N := 37) hx hb hts hin_X9 hown hK hP 0 rfl rfl 34 (by decide) (hts (.fieldLink RX9 183 "CryOrderModel" "takenMany" "I") (by decide +kernel)) (fun _ h9 => h9) rfl dX9_isTaken_4 ?_
    refine bi_ge (zx := (k).toInt) (zy := (ntm).toInt) (tgt := 28) hx hb dX9_isTaken_7 (by decide) rfl rfl (fun c_1 => ?_) (fun c_1 => ?_)
    · exact done_28 _ _  (lv_sub hl [0, 1, 2] rfl)
    · refine lv_aload_n hx hb dX9_isTaken_10 rfl (lv_at hl 1 rfl) ?_
      refine va_get (D := D) (ci := 9) (v := .ref b22) (C := RX9) (T := TX9) (N := 37) hx hb hts hin_X9 hown hK hP 0 rfl rfl 32 (by decide) (hts (.fieldLink RX9 81 "CryOrderModel" "taken" "[I") (by decide +kernel)) (fun _ h9 => h9) rfl dX9_isTaken_11 ?_
      refine lv_iload_n hx hb dX9_isTaken_14 rfl (lv_at hl 0 rfl) ?_
      refine va_iald hx hb hK hP 1 0 rfl rfl (vp_in_iff.mpr (by omega)) dX9_isTaken_15 ?_
      refine lv_topi (fun z_2 ez_2 => ?_)
      refine lv_iload_n hx hb dX9_isTaken_16 rfl (lv_at hl 2 rfl) ?_
      refine bi_ne (zx := (z_2).toInt) (zy := (p0).toInt) (tgt := 22) hx hb dX9_isTaken_17 (by decide) rfl rfl (fun c_3 => ?_) (fun c_3 => ?_)
      · obtain ⟨x_4, ex_4⟩ : ∃ z : Int32, z = k + 1 := ⟨_, rfl⟩
        have tx_4 := ad_toInt (x := k) (y := 1) (z := x_4) (zx := (k).toInt) (zy := 1) ex_4 rfl (by decide)
        refine lv_iinc (v := x_4) (lv' := [(2, .int x_4), (0, .ref h0), (1, .int p0)]) hx hb dX9_isTaken_22 hl (k := 0) rfl (by rw [ex_4]; rfl) (by decide) rfl (fun ls hl => ?_)
        refine lv_goto (tgt := 2) hx hb dX9_isTaken_25 (by decide) ?_
        exact ih _ _ (by first | omega | assumption) (by omega) (lv_sub hl [0, 1, 2] rfl)
      · exact done_20 _ _  (lv_sub hl [0, 1, 2] rfl)

set_option maxHeartbeats 4000000 in
set_option maxRecDepth 100000 in
theorem m_isTaken (l : Launch) (D : va_G) (h0 : Nat) (b1 : Nat) (b2 : Nat) (b3 : Nat) (b4 : Nat) (b5 : Nat) (b6 : Nat) (b7 : Nat) (b8 : Nat) (b9 : Nat) (b10 : Nat) (b11 : Nat) (b12 : Nat) (b13 : Nat) (b14 : Nat) (b15 : Nat) (b16 : Nat) (b17 : Nat) (b18 : Nat) (b19 : Nat) (b20 : Nat) (b21 : Nat) (b22 : Nat) (b23 : Nat) (b24 : Nat) (b25 : Nat) (now : Int32) (na : Int32) (nsi : Int32) (nti : Int32) (vc : Int32) (vn : Int32) (vt : Int32) (ct : Int32) (cs : Int32) (co : Int32) (nca : Int32) (ntm : Int32) (d22 : ClassId) (f22 : Nat → Int32) (p0 : Int32) (htm : 0 ≤ (ntm).toInt ∧ (ntm).toInt ≤ 20) : Met l yX9_isTaken wsX9_isTaken ({ frames := 0, cells := 0, slots := 0, locals := 0 }) (va_Pc [.ref h0, .int p0] (wo D [(d22, .int)] [(h0, .inr (9, [.int now, .int na, .int nsi, .int nti, .int vc, .int vn, .int vt, .ref b1, .ref b2, .ref b3, .ref b4, .ref b5, .ref b6, .ref b7, .ref b8, .ref b9, .ref b10, .ref b11, .ref b12, .ref b13, .ref b14, .ref b15, .ref b16, .ref b17, .ref b18, .int ct, .int cs, .int co, .ref b19, .ref b20, .ref b21, .int nca, .ref b22, .ref b23, .int ntm, .ref b24, .ref b25])), (b22, .inl (d22, 20, .inl (f22)))])) (vp_Si (fun r => ((True) ∧ r = 1) ∨ ((True) ∧ r = 0))) 0 0 (fun _ => False) := by
  refine Met.ofW (cc := cX9_isTaken) (maxL := 3) (ret := (some .boolean)) (by decide) rfl ?_
  intro p e s m args below meth c s₁ B hml hv
  obtain ⟨rfl, hP, hK, hD, hN⟩ := hv
  have hx := B.exec
  have hb := B.bytes
  have hr := B.returns
  have hts := atoms_spec (ws := wsX9_isTaken) B.pre
  have hown : s.vm.findClass RX9 = some m.cls := findClass_of_methodNamed B.named
  have hlocks := B.notSynchronized
  have hl := lv_entry ([.ref h0, .int p0]) (n := 3) (Nat.le_of_ble_eq_true rfl)
  rw [lg_entry_eq]
  generalize (lg_sl ([.ref h0, .int p0]) ++ List.replicate (3 - (lg_sl ([.ref h0, .int p0])).length) Slot.unset).toArray = ls at hl ⊢
  have hl : lv_has ls 3 [(0, .ref h0), (1, .int p0)] := hl
  refine lv_iconst (v := 0) hx hb dX9_isTaken_0 (by decide) ?_
  refine lv_istore_n (lv' := [(2, .int 0), (0, .ref h0), (1, .int p0)]) hx hb dX9_isTaken_1 rfl hl (by decide) rfl (fun ls hl => ?_)
  refine ml_isTaken hx hb hts hml hown hN hK hP hD ⟨(Nat.le_of_ble_eq_true rfl), (Nat.le_of_ble_eq_true rfl)⟩ ⟨(Nat.le_of_ble_eq_true rfl), (Nat.le_of_ble_eq_true rfl)⟩ htm (fun k_1 ls  hl => ?_) (fun k_3 ls  hl => ?_) _ _ _ (by decide) (Nat.lt_succ_self _) (lv_sub hl [0, 1, 2] rfl)
  · refine lv_iconst (v := 1) hx hb dX9_isTaken_20 (by decide) ?_
    exact W.zret (v := 1) hx hb hr rfl (fun t ht hW => ⟨1, rfl, Or.inl ⟨trivial, rfl⟩, ht⟩) (fun q h => by cases h) dX9_isTaken_21
  · refine lv_iconst (v := 0) hx hb dX9_isTaken_28 (by decide) ?_
    exact W.zret (v := 0) hx hb hr rfl (fun t ht hW => ⟨0, rfl, Or.inr ⟨trivial, rfl⟩, ht⟩) (fun q h => by cases h) dX9_isTaken_29

set_option maxHeartbeats 4000000 in
set_option maxRecDepth 100000 in
theorem ml_sizeOf {p : Program} {l : Launch} {e : Env} {R : Room} {s : State} {m : MethodId} {args : Array Value} {below : List Frame} {meth : Method} {c : Code} {Q : State → Prop} {A : Nat → Prop} {cells slots : Nat} {D : va_G} {H : Heap} {locs : List Loc} {h0 : Nat} {b1 : Nat} {b2 : Nat} {b3 : Nat} {b4 : Nat} {b5 : Nat} {b6 : Nat} {b7 : Nat} {b8 : Nat} {b9 : Nat} {b10 : Nat} {b11 : Nat} {b12 : Nat} {b13 : Nat} {b14 : Nat} {b15 : Nat} {b16 : Nat} {b17 : Nat} {b18 : Nat} {b19 : Nat} {b20 : Nat} {b21 : Nat} {b22 : Nat} {b23 : Nat} {b24 : Nat} {b25 : Nat} {now : Int32} {na : Int32} {nsi : Int32} {nti : Int32} {vc : Int32} {vn : Int32} {vt : Int32} {ct : Int32} {cs : Int32} {co : Int32} {nca : Int32} {ntm : Int32} {d19 : ClassId} {f19 : Nat → Int32} {p0 : Int32} (hx : p.tables.exec = Jvm.exec) (hb : c.code = cX9_sizeOf) (hts : ∀ w ∈ wsX9_sizeOf, w.before args s = true) (hml : c.maxLocals = 4) (hown : s.vm.findClass RX9 = some m.cls) (hN : Nq s) (hK : va_K D vwCl [(d19, .int)] s) (hP : va_P D vwCl [(h0, .inr (9, [.int now, .int na, .int nsi, .int nti, .int vc, .int vn, .int vt, .ref b1, .ref b2, .ref b3, .ref b4, .ref b5, .ref b6, .ref b7, .ref b8, .ref b9, .ref b10, .ref b11, .ref b12, .ref b13, .ref b14, .ref b15, .ref b16, .ref b17, .ref b18, .int ct, .int cs, .int co, .ref b19, .ref b20, .ref b21, .int nca, .ref b22, .ref b23, .int ntm, .ref b24, .ref b25])), (b19, .inl (d19, 200, .inl (f19)))] H) (hD : va_D A [(h0, .inr (9, [.int now, .int na, .int nsi, .int nti, .int vc, .int vn, .int vt, .ref b1, .ref b2, .ref b3, .ref b4, .ref b5, .ref b6, .ref b7, .ref b8, .ref b9, .ref b10, .ref b11, .ref b12, .ref b13, .ref b14, .ref b15, .ref b16, .ref b17, .ref b18, .int ct, .int cs, .int co, .ref b19, .ref b20, .ref b21, .int nca, .ref b22, .ref b23, .int ntm, .ref b24, .ref b25])), (b19, .inl (d19, 200, .inl (f19)))]) (hR : 1 ≤ R.frames ∧ 20 ≤ R.locals) (hcs : cells ≤ R.cells ∧ slots ≤ R.slots) (hna : 0 ≤ (na).toInt ∧ (na).toInt ≤ 200) (done_39 : ∀ (k : Int32) (x : Int32) (ls : Array Slot), lv_has ls 4 [(3, .int k), (2, .int x), (0, .ref h0), (1, .int p0)] → W p l e R s m args below meth c H locs cells slots Q (F0 m 39 ls [])) : ∀ (n : Nat), ∀ (k : Int32) (x : Int32) (ls : Array Slot), (0 ≤ (k).toInt) → ((200 - (k).toInt).toNat < n) → lv_has ls 4 [(3, .int k), (2, .int x), (0, .ref h0), (1, .int p0)] → W p l e R s m args below meth c H locs cells slots Q (F0 m 4 ls []) := by
  have hin_X9 : ∀ w ∈ u_ws RX9 TX9 37, w ∈ wsX9_sizeOf := by decide +kernel
  intro n
  induction n with
  | zero => intro k x ls hk hmu hl; exact absurd hmu (Nat.not_lt_zero _)
  | succ n ih =>
    intro k x ls hk hmu hl
    refine lv_iload_n hx hb dX9_sizeOf_4 rfl (lv_at hl 0 rfl) ?_
    refine lv_aload_n hx hb dX9_sizeOf_5 rfl (lv_at hl 2 rfl) ?_
    refine va_get (D := D) (ci := 9) (v := .int na) (C := RX9) (T := TX9) (N := 37) hx hb hts hin_X9 hown hK hP 0 rfl rfl 1 (by decide) (hts (.fieldLink RX9 93 "CryOrderModel" "alarms" "I") (by decide +kernel)) (fun _ h9 => h9) rfl dX9_sizeOf_6 ?_
    refine bi_ge (zx := (k).toInt) (zy := (na).toInt) (tgt := 39) hx hb dX9_sizeOf_9 (by decide) rfl rfl (fun c_1 => ?_) (fun c_1 => ?_)
    · exact done_39 _ _ _  (lv_sub hl [0, 1, 2, 3] rfl)
    · refine lv_iload_n hx hb dX9_sizeOf_12 rfl (lv_at hl 1 rfl) ?_
      refine lv_aload_n hx hb dX9_sizeOf_13 rfl (lv_at hl 2 rfl) ?_
      refine va_get (D := D) (ci := 9) (v := .ref b19) (C := RX9) (T := TX9) (N := 37) hx hb hts hin_X9 hown hK hP 0 rfl rfl 28 (by decide) (hts (.fieldLink RX9 72 "CryOrderModel" "caseNumber" "[I") (by decide +kernel)) (fun _ h9 => h9) rfl dX9_sizeOf_14 ?_
      refine lv_iload_n hx hb dX9_sizeOf_17 rfl (lv_at hl 0 rfl) ?_
      refine va_iald hx hb hK hP 1 0 rfl rfl (vp_in_iff.mpr (by omega)) dX9_sizeOf_18 ?_
      refine lv_topi (fun z_2 ez_2 => ?_)
      refine lv_iload_n hx hb dX9_sizeOf_19 rfl (lv_at hl 3 rfl) ?_
      refine bi_ne (zx := (z_2).toInt) (zy := (p0).toInt) (tgt := 27) hx hb dX9_sizeOf_20 (by decide) rfl rfl (fun c_3 => ?_) (fun c_3 => ?_)
      · refine lv_iconst (v := 0) hx hb dX9_sizeOf_27 (by decide) ?_
        refine vp_callSi (zrS (As := [.int 0]) (rest := [.int x]) (wc := []) ⟨hx, hb, hml, hown, hts⟩ hN hK hP hD (m_one0 l D  ) (va_cwS 1 hts gX9_sizeOf_X9_one rfl rfl rfl (by decide +kernel) ⟨Nat.le_trans (m := 1) (Nat.le_of_ble_eq_true rfl) hR.1, Nat.le_trans (m := 20) (Nat.le_of_ble_eq_true rfl) hR.2⟩) [] [] rfl rfl (by decide) rfl hl.1 rfl (Nat.le_of_ble_eq_true rfl) dX9_sizeOf_28 ⟨hcs.1, hcs.2⟩) (fun r_4 h_5 => ?_)
        subst h_5
        refine lv_iadd hx hb dX9_sizeOf_31 ?_
        refine lv_topi (fun z_6 ez_6 => ?_)
        have tz_6 := ad_toInt (zx := (x).toInt) (zy := 0) ez_6 rfl (by decide)
        refine lv_istore_n (lv' := [(2, .int z_6), (3, .int k), (0, .ref h0), (1, .int p0)]) hx hb dX9_sizeOf_32 rfl hl (by decide) rfl (fun ls hl => ?_)
        obtain ⟨x_7, ex_7⟩ : ∃ z : Int32, z = k + 1 := ⟨_, rfl⟩
        have tx_7 := ad_toInt (x := k) (y := 1) (z := x_7) (zx := (k).toInt) (zy := 1) ex_7 rfl (by decide)
        refine lv_iinc (v := x_7) (lv' := [(3, .int x_7), (2, .int z_6), (0, .ref h0), (1, .int p0)]) hx hb dX9_sizeOf_33 hl (k := 1) rfl (by rw [ex_7]; rfl) (by decide) rfl (fun ls hl => ?_)
        refine lv_goto (tgt := 4) hx hb dX9_sizeOf_36 (by decide) ?_
        exact ih _ _ _ (by first | omega | assumption) (by omega) (lv_sub hl [0, 1, 2, 3] rfl)
      · refine lv_iconst (v := 1) hx hb dX9_sizeOf_23 (by decide) ?_
        refine lv_goto (tgt := 28) hx hb dX9_sizeOf_24 (by decide) ?_
        refine vp_callSi (zrS (As := [.int 1]) (rest := [.int x]) (wc := []) ⟨hx, hb, hml, hown, hts⟩ hN hK hP hD (m_one1 l D  ) (va_cwS 1 hts gX9_sizeOf_X9_one rfl rfl rfl (by decide +kernel) ⟨Nat.le_trans (m := 1) (Nat.le_of_ble_eq_true rfl) hR.1, Nat.le_trans (m := 20) (Nat.le_of_ble_eq_true rfl) hR.2⟩) [] [] rfl rfl (by decide) rfl hl.1 rfl (Nat.le_of_ble_eq_true rfl) dX9_sizeOf_28 ⟨hcs.1, hcs.2⟩) (fun r_8 h_9 => ?_)
        subst h_9
        refine lv_iadd hx hb dX9_sizeOf_31 ?_
        refine lv_topi (fun z_10 ez_10 => ?_)
        have tz_10 := ad_toInt (zx := (x).toInt) (zy := 1) ez_10 rfl (by decide)
        refine lv_istore_n (lv' := [(2, .int z_10), (3, .int k), (0, .ref h0), (1, .int p0)]) hx hb dX9_sizeOf_32 rfl hl (by decide) rfl (fun ls hl => ?_)
        obtain ⟨x_11, ex_11⟩ : ∃ z : Int32, z = k + 1 := ⟨_, rfl⟩
        have tx_11 := ad_toInt (x := k) (y := 1) (z := x_11) (zx := (k).toInt) (zy := 1) ex_11 rfl (by decide)
        refine lv_iinc (v := x_11) (lv' := [(3, .int x_11), (2, .int z_10), (0, .ref h0), (1, .int p0)]) hx hb dX9_sizeOf_33 hl (k := 1) rfl (by rw [ex_11]; rfl) (by decide) rfl (fun ls hl => ?_)
        refine lv_goto (tgt := 4) hx hb dX9_sizeOf_36 (by decide) ?_
        exact ih _ _ _ (by first | omega | assumption) (by omega) (lv_sub hl [0, 1, 2, 3] rfl)

set_option maxHeartbeats 4000000 in
set_option maxRecDepth 100000 in
theorem m_sizeOf (l : Launch) (D : va_G) (h0 : Nat) (b1 : Nat) (b2 : Nat) (b3 : Nat) (b4 : Nat) (b5 : Nat) (b6 : Nat) (b7 : Nat) (b8 : Nat) (b9 : Nat) (b10 : Nat) (b11 : Nat) (b12 : Nat) (b13 : Nat) (b14 : Nat) (b15 : Nat) (b16 : Nat) (b17 : Nat) (b18 : Nat) (b19 : Nat) (b20 : Nat) (b21 : Nat) (b22 : Nat) (b23 : Nat) (b24 : Nat) (b25 : Nat) (now : Int32) (na : Int32) (nsi : Int32) (nti : Int32) (vc : Int32) (vn : Int32) (vt : Int32) (ct : Int32) (cs : Int32) (co : Int32) (nca : Int32) (ntm : Int32) (d19 : ClassId) (f19 : Nat → Int32) (p0 : Int32) (hna : 0 ≤ (na).toInt ∧ (na).toInt ≤ 200) (hge : 0 ≤ (p0).toInt) : Met l yX9_sizeOf wsX9_sizeOf ({ frames := 1, cells := 0, slots := 0, locals := 20 }) (va_Pc [.ref h0, .int p0] (wo D [(d19, .int)] [(h0, .inr (9, [.int now, .int na, .int nsi, .int nti, .int vc, .int vn, .int vt, .ref b1, .ref b2, .ref b3, .ref b4, .ref b5, .ref b6, .ref b7, .ref b8, .ref b9, .ref b10, .ref b11, .ref b12, .ref b13, .ref b14, .ref b15, .ref b16, .ref b17, .ref b18, .int ct, .int cs, .int co, .ref b19, .ref b20, .ref b21, .int nca, .ref b22, .ref b23, .int ntm, .ref b24, .ref b25])), (b19, .inl (d19, 200, .inl (f19)))])) (vp_Si (fun r => True)) 0 0 (fun _ => False) := by
  refine Met.ofW (cc := cX9_sizeOf) (maxL := 4) (ret := (some .int)) (by decide) rfl ?_
  intro p e s m args below meth c s₁ B hml hv
  obtain ⟨rfl, hP, hK, hD, hN⟩ := hv
  have hx := B.exec
  have hb := B.bytes
  have hr := B.returns
  have hts := atoms_spec (ws := wsX9_sizeOf) B.pre
  have hown : s.vm.findClass RX9 = some m.cls := findClass_of_methodNamed B.named
  have hlocks := B.notSynchronized
  have hl := lv_entry ([.ref h0, .int p0]) (n := 4) (Nat.le_of_ble_eq_true rfl)
  rw [lg_entry_eq]
  generalize (lg_sl ([.ref h0, .int p0]) ++ List.replicate (4 - (lg_sl ([.ref h0, .int p0])).length) Slot.unset).toArray = ls at hl ⊢
  have hl : lv_has ls 4 [(0, .ref h0), (1, .int p0)] := hl
  refine lv_iconst (v := 0) hx hb dX9_sizeOf_0 (by decide) ?_
  refine lv_istore_n (lv' := [(2, .int 0), (0, .ref h0), (1, .int p0)]) hx hb dX9_sizeOf_1 rfl hl (by decide) rfl (fun ls hl => ?_)
  refine lv_iload_n hx hb dX9_sizeOf_2 rfl (lv_at hl 2 rfl) ?_
  refine lv_istore_n (lv' := [(3, .int p0), (2, .int 0), (0, .ref h0), (1, .int p0)]) hx hb dX9_sizeOf_3 rfl hl (by decide) rfl (fun ls hl => ?_)
  refine ml_sizeOf hx hb hts hml hown hN hK hP hD ⟨(Nat.le_of_ble_eq_true rfl), (Nat.le_of_ble_eq_true rfl)⟩ ⟨(Nat.le_of_ble_eq_true rfl), (Nat.le_of_ble_eq_true rfl)⟩ hna (fun k_1 x_2 ls  hl => ?_) _ _ _ _ (by first | omega | assumption) (Nat.lt_succ_self _) (lv_sub hl [0, 1, 2, 3] rfl)
  refine lv_iload_n hx hb dX9_sizeOf_39 rfl (lv_at hl 1 rfl) ?_
  exact W.iret (v := x_2) hx hb hr (fun t ht hW => ⟨x_2, rfl, trivial, ht⟩) (fun q h => by cases h) dX9_sizeOf_40

set_option maxHeartbeats 4000000 in
set_option maxRecDepth 100000 in
theorem ml_scoreOf {p : Program} {l : Launch} {e : Env} {R : Room} {s : State} {m : MethodId} {args : Array Value} {below : List Frame} {meth : Method} {c : Code} {Q : State → Prop} {A : Nat → Prop} {cells slots : Nat} {D : va_G} {H : Heap} {locs : List Loc} {h0 : Nat} {b1 : Nat} {b2 : Nat} {b3 : Nat} {b4 : Nat} {b5 : Nat} {b6 : Nat} {b7 : Nat} {b8 : Nat} {b9 : Nat} {b10 : Nat} {b11 : Nat} {b12 : Nat} {b13 : Nat} {b14 : Nat} {b15 : Nat} {b16 : Nat} {b17 : Nat} {b18 : Nat} {b19 : Nat} {b20 : Nat} {b21 : Nat} {b22 : Nat} {b23 : Nat} {b24 : Nat} {b25 : Nat} {now : Int32} {na : Int32} {nsi : Int32} {nti : Int32} {vc : Int32} {vn : Int32} {vt : Int32} {ct : Int32} {cs : Int32} {co : Int32} {nca : Int32} {ntm : Int32} {d19 : ClassId} {d20 : ClassId} {f19 : Nat → Int32} {f20 : Nat → Int32} {p0 : Int32} (hx : p.tables.exec = Jvm.exec) (hb : c.code = cX9_scoreOf) (hts : ∀ w ∈ wsX9_scoreOf, w.before args s = true) (hml : c.maxLocals = 4) (hown : s.vm.findClass RX9 = some m.cls) (hN : Nq s) (hK : va_K D vwCl [(d19, .int), (d20, .int)] s) (hP : va_P D vwCl [(h0, .inr (9, [.int now, .int na, .int nsi, .int nti, .int vc, .int vn, .int vt, .ref b1, .ref b2, .ref b3, .ref b4, .ref b5, .ref b6, .ref b7, .ref b8, .ref b9, .ref b10, .ref b11, .ref b12, .ref b13, .ref b14, .ref b15, .ref b16, .ref b17, .ref b18, .int ct, .int cs, .int co, .ref b19, .ref b20, .ref b21, .int nca, .ref b22, .ref b23, .int ntm, .ref b24, .ref b25])), (b19, .inl (d19, 200, .inl (f19))), (b20, .inl (d20, 200, .inl (f20)))] H) (hD : va_D A [(h0, .inr (9, [.int now, .int na, .int nsi, .int nti, .int vc, .int vn, .int vt, .ref b1, .ref b2, .ref b3, .ref b4, .ref b5, .ref b6, .ref b7, .ref b8, .ref b9, .ref b10, .ref b11, .ref b12, .ref b13, .ref b14, .ref b15, .ref b16, .ref b17, .ref b18, .int ct, .int cs, .int co, .ref b19, .ref b20, .ref b21, .int nca, .ref b22, .ref b23, .int ntm, .ref b24, .ref b25])), (b19, .inl (d19, 200, .inl (f19))), (b20, .inl (d20, 200, .inl (f20)))]) (hR : 1 ≤ R.frames ∧ 13 ≤ R.locals) (hcs : cells ≤ R.cells ∧ slots ≤ R.slots) (hna : 0 ≤ (na).toInt ∧ (na).toInt ≤ 200) (done_39 : ∀ (k : Int32) (x : Int32) (ls : Array Slot), lv_has ls 4 [(3, .int k), (2, .int x), (0, .ref h0), (1, .int p0)] → W p l e R s m args below meth c H locs cells slots Q (F0 m 39 ls [])) : ∀ (n : Nat), ∀ (k : Int32) (x : Int32) (ls : Array Slot), (0 ≤ (k).toInt) → ((200 - (k).toInt).toNat < n) → lv_has ls 4 [(3, .int k), (2, .int x), (0, .ref h0), (1, .int p0)] → W p l e R s m args below meth c H locs cells slots Q (F0 m 4 ls []) := by
  have hin_X9 : ∀ w ∈ u_ws RX9 TX9 37, w ∈ wsX9_scoreOf := by decide +kernel
  intro n
  induction n with
  | zero => intro k x ls hk hmu hl; exact absurd hmu (Nat.not_lt_zero _)
  | succ n ih =>
    intro k x ls hk hmu hl
    refine lv_iload_n hx hb dX9_scoreOf_4 rfl (lv_at hl 0 rfl) ?_
    refine lv_aload_n hx hb dX9_scoreOf_5 rfl (lv_at hl 2 rfl) ?_
    refine va_get (D := D) (ci := 9) (v := .int na) (C := RX9) (T := TX9) (N := 37) hx hb hts hin_X9 hown hK hP 0 rfl rfl 1 (by decide) (hts (.fieldLink RX9 93 "CryOrderModel" "alarms" "I") (by decide +kernel)) (fun _ h9 => h9) rfl dX9_scoreOf_6 ?_
    refine bi_ge (zx := (k).toInt) (zy := (na).toInt) (tgt := 39) hx hb dX9_scoreOf_9 (by decide) rfl rfl (fun c_1 => ?_) (fun c_1 => ?_)
    · exact done_39 _ _ _  (lv_sub hl [0, 1, 2, 3] rfl)
    · refine lv_aload_n hx hb dX9_scoreOf_12 rfl (lv_at hl 2 rfl) ?_
      refine va_get (D := D) (ci := 9) (v := .ref b19) (C := RX9) (T := TX9) (N := 37) hx hb hts hin_X9 hown hK hP 0 rfl rfl 28 (by decide) (hts (.fieldLink RX9 72 "CryOrderModel" "caseNumber" "[I") (by decide +kernel)) (fun _ h9 => h9) rfl dX9_scoreOf_13 ?_
      refine lv_iload_n hx hb dX9_scoreOf_16 rfl (lv_at hl 0 rfl) ?_
      refine va_iald hx hb hK hP 1 0 rfl rfl (vp_in_iff.mpr (by omega)) dX9_scoreOf_17 ?_
      refine lv_topi (fun z_2 ez_2 => ?_)
      refine lv_iload_n hx hb dX9_scoreOf_18 rfl (lv_at hl 3 rfl) ?_
      refine bi_ne (zx := (z_2).toInt) (zy := (p0).toInt) (tgt := 33) hx hb dX9_scoreOf_19 (by decide) rfl rfl (fun c_3 => ?_) (fun c_3 => ?_)
      · obtain ⟨x_4, ex_4⟩ : ∃ z : Int32, z = k + 1 := ⟨_, rfl⟩
        have tx_4 := ad_toInt (x := k) (y := 1) (z := x_4) (zx := (k).toInt) (zy := 1) ex_4 rfl (by decide)
        refine lv_iinc (v := x_4) (lv' := [(3, .int x_4), (2, .int x), (0, .ref h0), (1, .int p0)]) hx hb dX9_scoreOf_33 hl (k := 0) rfl (by rw [ex_4]; rfl) (by decide) rfl (fun ls hl => ?_)
        refine lv_goto (tgt := 4) hx hb dX9_scoreOf_36 (by decide) ?_
        exact ih _ _ _ (by first | omega | assumption) (by omega) (lv_sub hl [0, 1, 2, 3] rfl)
      · refine lv_iload_n hx hb dX9_scoreOf_22 rfl (lv_at hl 1 rfl) ?_
        refine lv_aload_n hx hb dX9_scoreOf_23 rfl (lv_at hl 2 rfl) ?_
        refine va_get (D := D) (ci := 9) (v := .ref b20) (C := RX9) (T := TX9) (N := 37) hx hb hts hin_X9 hown hK hP 0 rfl rfl 29 (by decide) (hts (.fieldLink RX9 75 "CryOrderModel" "scores" "[I") (by decide +kernel)) (fun _ h9 => h9) rfl dX9_scoreOf_24 ?_
        refine lv_iload_n hx hb dX9_scoreOf_27 rfl (lv_at hl 0 rfl) ?_
        refine va_iald hx hb hK hP 2 1 rfl rfl (vp_in_iff.mpr (by omega)) dX9_scoreOf_28 ?_
        refine lv_topi (fun z_5 ez_5 => ?_)
        refine va_mmax hx hb (by rw [hml]; exact hl.1.symm) hown (hts (.methodLink RX9 162 Lib.Math.max.name) (by decide +kernel)) (hts (.static Lib.Math.max.name) (by decide +kernel)) (hts (.initialized "java/lang/Math") (by decide +kernel)) (hts (.code Lib.Math.max.name Lib.Math.max.code 2 (some .int)) (by decide +kernel)) (Nat.le_trans (m := 1) (Nat.le_of_ble_eq_true rfl) hR.1) (Nat.le_trans (m := 13) (Nat.le_of_ble_eq_true rfl) hR.2) hcs.1 hcs.2 dX9_scoreOf_29 ?_
        refine lv_topi (fun z_6 ez_6 => ?_)
        have tz_6 := mx_toInt (zx := (x).toInt) (zy := (z_5).toInt) ez_6 rfl rfl
        refine lv_istore_n (lv' := [(2, .int z_6), (3, .int k), (0, .ref h0), (1, .int p0)]) hx hb dX9_scoreOf_32 rfl hl (by decide) rfl (fun ls hl => ?_)
        obtain ⟨x_7, ex_7⟩ : ∃ z : Int32, z = k + 1 := ⟨_, rfl⟩
        have tx_7 := ad_toInt (x := k) (y := 1) (z := x_7) (zx := (k).toInt) (zy := 1) ex_7 rfl (by decide)
        refine lv_iinc (v := x_7) (lv' := [(3, .int x_7), (2, .int z_6), (0, .ref h0), (1, .int p0)]) hx hb dX9_scoreOf_33 hl (k := 1) rfl (by rw [ex_7]; rfl) (by decide) rfl (fun ls hl => ?_)
        refine lv_goto (tgt := 4) hx hb dX9_scoreOf_36 (by decide) ?_
        exact ih _ _ _ (by first | omega | assumption) (by omega) (lv_sub hl [0, 1, 2, 3] rfl)

set_option maxHeartbeats 4000000 in
set_option maxRecDepth 100000 in
theorem m_scoreOf (l : Launch) (D : va_G) (h0 : Nat) (b1 : Nat) (b2 : Nat) (b3 : Nat) (b4 : Nat) (b5 : Nat) (b6 : Nat) (b7 : Nat) (b8 : Nat) (b9 : Nat) (b10 : Nat) (b11 : Nat) (b12 : Nat) (b13 : Nat) (b14 : Nat) (b15 : Nat) (b16 : Nat) (b17 : Nat) (b18 : Nat) (b19 : Nat) (b20 : Nat) (b21 : Nat) (b22 : Nat) (b23 : Nat) (b24 : Nat) (b25 : Nat) (now : Int32) (na : Int32) (nsi : Int32) (nti : Int32) (vc : Int32) (vn : Int32) (vt : Int32) (ct : Int32) (cs : Int32) (co : Int32) (nca : Int32) (ntm : Int32) (d19 : ClassId) (d20 : ClassId) (f19 : Nat → Int32) (f20 : Nat → Int32) (p0 : Int32) (hna : 0 ≤ (na).toInt ∧ (na).toInt ≤ 200) (hge : 0 ≤ (p0).toInt) : Met l yX9_scoreOf wsX9_scoreOf ({ frames := 1, cells := 0, slots := 0, locals := 13 }) (va_Pc [.ref h0, .int p0] (wo D [(d19, .int), (d20, .int)] [(h0, .inr (9, [.int now, .int na, .int nsi, .int nti, .int vc, .int vn, .int vt, .ref b1, .ref b2, .ref b3, .ref b4, .ref b5, .ref b6, .ref b7, .ref b8, .ref b9, .ref b10, .ref b11, .ref b12, .ref b13, .ref b14, .ref b15, .ref b16, .ref b17, .ref b18, .int ct, .int cs, .int co, .ref b19, .ref b20, .ref b21, .int nca, .ref b22, .ref b23, .int ntm, .ref b24, .ref b25])), (b19, .inl (d19, 200, .inl (f19))), (b20, .inl (d20, 200, .inl (f20)))])) (vp_Si (fun r => True)) 0 0 (fun _ => False) := by
  refine Met.ofW (cc := cX9_scoreOf) (maxL := 4) (ret := (some .int)) (by decide) rfl ?_
  intro p e s m args below meth c s₁ B hml hv
  obtain ⟨rfl, hP, hK, hD, hN⟩ := hv
  have hx := B.exec
  have hb := B.bytes
  have hr := B.returns
  have hts := atoms_spec (ws := wsX9_scoreOf) B.pre
  have hown : s.vm.findClass RX9 = some m.cls := findClass_of_methodNamed B.named
  have hlocks := B.notSynchronized
  have hl := lv_entry ([.ref h0, .int p0]) (n := 4) (Nat.le_of_ble_eq_true rfl)
  rw [lg_entry_eq]
  generalize (lg_sl ([.ref h0, .int p0]) ++ List.replicate (4 - (lg_sl ([.ref h0, .int p0])).length) Slot.unset).toArray = ls at hl ⊢
  have hl : lv_has ls 4 [(0, .ref h0), (1, .int p0)] := hl
  refine lv_iconst (v := 0) hx hb dX9_scoreOf_0 (by decide) ?_
  refine lv_istore_n (lv' := [(2, .int 0), (0, .ref h0), (1, .int p0)]) hx hb dX9_scoreOf_1 rfl hl (by decide) rfl (fun ls hl => ?_)
  refine lv_iload_n hx hb dX9_scoreOf_2 rfl (lv_at hl 2 rfl) ?_
  refine lv_istore_n (lv' := [(3, .int p0), (2, .int 0), (0, .ref h0), (1, .int p0)]) hx hb dX9_scoreOf_3 rfl hl (by decide) rfl (fun ls hl => ?_)
  refine ml_scoreOf hx hb hts hml hown hN hK hP hD ⟨(Nat.le_of_ble_eq_true rfl), (Nat.le_of_ble_eq_true rfl)⟩ ⟨(Nat.le_of_ble_eq_true rfl), (Nat.le_of_ble_eq_true rfl)⟩ hna (fun k_1 x_2 ls  hl => ?_) _ _ _ _ (by first | omega | assumption) (Nat.lt_succ_self _) (lv_sub hl [0, 1, 2, 3] rfl)
  refine lv_iload_n hx hb dX9_scoreOf_39 rfl (lv_at hl 1 rfl) ?_
  exact W.iret (v := x_2) hx hb hr (fun t ht hW => ⟨x_2, rfl, trivial, ht⟩) (fun q h => by cases h) dX9_scoreOf_40

set_option maxHeartbeats 4000000 in
set_option maxRecDepth 100000 in
theorem m_minutesOf (l : Launch) (D : va_G) (h0 : Nat) (b1 : Nat) (b2 : Nat) (b3 : Nat) (b4 : Nat) (b5 : Nat) (b6 : Nat) (b7 : Nat) (b8 : Nat) (b9 : Nat) (b10 : Nat) (b11 : Nat) (b12 : Nat) (b13 : Nat) (b14 : Nat) (b15 : Nat) (b16 : Nat) (b17 : Nat) (b18 : Nat) (b19 : Nat) (b20 : Nat) (b21 : Nat) (b22 : Nat) (b23 : Nat) (b24 : Nat) (b25 : Nat) (now : Int32) (na : Int32) (nsi : Int32) (nti : Int32) (vc : Int32) (vn : Int32) (vt : Int32) (ct : Int32) (cs : Int32) (co : Int32) (nca : Int32) (ntm : Int32) (d19 : ClassId) (f19 : Nat → Int32) (p0 : Int32) (hna : 0 ≤ (na).toInt ∧ (na).toInt ≤ 200) (hge : 0 ≤ (p0).toInt) : Met l yX9_minutesOf wsX9_minutesOf ({ frames := 2, cells := 0, slots := 0, locals := 43 }) (va_Pc [.ref h0, .int p0] (wo D [(d19, .int)] [(h0, .inr (9, [.int now, .int na, .int nsi, .int nti, .int vc, .int vn, .int vt, .ref b1, .ref b2, .ref b3, .ref b4, .ref b5, .ref b6, .ref b7, .ref b8, .ref b9, .ref b10, .ref b11, .ref b12, .ref b13, .ref b14, .ref b15, .ref b16, .ref b17, .ref b18, .int ct, .int cs, .int co, .ref b19, .ref b20, .ref b21, .int nca, .ref b22, .ref b23, .int ntm, .ref b24, .ref b25])), (b19, .inl (d19, 200, .inl (f19)))])) (vp_Si (fun r => True)) 0 0 (fun _ => False) := by
  refine Met.ofW (cc := cX9_minutesOf) (maxL := 2) (ret := (some .int)) (by decide) rfl ?_
  intro p e s m args below meth c s₁ B hml hv
  obtain ⟨rfl, hP, hK, hD, hN⟩ := hv
  have hx := B.exec
  have hb := B.bytes
  have hr := B.returns
  have hts := atoms_spec (ws := wsX9_minutesOf) B.pre
  have hown : s.vm.findClass RX9 = some m.cls := findClass_of_methodNamed B.named
  have hlocks := B.notSynchronized
  have hl := lv_entry ([.ref h0, .int p0]) (n := 2) (Nat.le_of_ble_eq_true rfl)
  rw [lg_entry_eq]
  generalize (lg_sl ([.ref h0, .int p0]) ++ List.replicate (2 - (lg_sl ([.ref h0, .int p0])).length) Slot.unset).toArray = ls at hl ⊢
  have hl : lv_has ls 2 [(0, .ref h0), (1, .int p0)] := hl
  refine lv_iconst (v := 5) hx hb dX9_minutesOf_0 (by decide) ?_
  refine lv_iconst (v := 2) hx hb dX9_minutesOf_1 (by decide) ?_
  refine lv_aload_n hx hb dX9_minutesOf_2 rfl (lv_at hl 0 rfl) ?_
  refine lv_iload_n hx hb dX9_minutesOf_3 rfl (lv_at hl 1 rfl) ?_
  refine vp_callSi (zrV (As := [.int p0]) (rest := [.int 2, .int 5]) (wc := [(h0, .inr (9, [.int now, .int na, .int nsi, .int nti, .int vc, .int vn, .int vt, .ref b1, .ref b2, .ref b3, .ref b4, .ref b5, .ref b6, .ref b7, .ref b8, .ref b9, .ref b10, .ref b11, .ref b12, .ref b13, .ref b14, .ref b15, .ref b16, .ref b17, .ref b18, .int ct, .int cs, .int co, .ref b19, .ref b20, .ref b21, .int nca, .ref b22, .ref b23, .int ntm, .ref b24, .ref b25])), (b19, .inl (d19, 200, .inl (f19)))]) ⟨hx, hb, hml, hown, hts⟩ hN hK hP hD (m_sizeOf l D h0 b1 b2 b3 b4 b5 b6 b7 b8 b9 b10 b11 b12 b13 b14 b15 b16 b17 b18 b19 b20 b21 b22 b23 b24 b25 now na nsi nti vc vn vt ct cs co nca ntm d19 ((f19)) p0 (by first | omega | assumption) (by first | omega | assumption)) (cwV 1 hts gX9_minutesOf_X9_sizeOf rfl rfl rfl (by decide +kernel) ⟨(Nat.le_of_ble_eq_true rfl), (Nat.le_of_ble_eq_true rfl)⟩) [0] [0, 1] rfl rfl (by decide) 9 0 rfl rfl rfl hl.1 rfl (Nat.le_of_ble_eq_true rfl) dX9_minutesOf_4 ⟨(Nat.le_of_ble_eq_true rfl), (Nat.le_of_ble_eq_true rfl)⟩) (fun r_1 h_2 => ?_)
  refine lv_imul hx hb dX9_minutesOf_7 ?_
  refine lv_topi (fun z_3 ez_3 => ?_)
  have tz_3 := ml_toInt (zx := 2) (zy := (r_1).toInt) ez_3 (by decide) rfl
  refine lv_iadd hx hb dX9_minutesOf_8 ?_
  refine lv_topi (fun z_4 ez_4 => ?_)
  have tz_4 := ad_toInt (zx := 5) (zy := (z_3).toInt) ez_4 (by decide) rfl
  exact W.iret (v := z_4) hx hb hr (fun t ht hW => ⟨z_4, rfl, trivial, ht⟩) (fun q h => by cases h) dX9_minutesOf_9

set_option maxHeartbeats 4000000 in
set_option maxRecDepth 100000 in
theorem m_hangs (l : Launch) (D : va_G) (h0 : Nat) (b1 : Nat) (b2 : Nat) (b3 : Nat) (b4 : Nat) (b5 : Nat) (b6 : Nat) (b7 : Nat) (b8 : Nat) (b9 : Nat) (b10 : Nat) (b11 : Nat) (b12 : Nat) (b13 : Nat) (b14 : Nat) (b15 : Nat) (b16 : Nat) (b17 : Nat) (b18 : Nat) (b19 : Nat) (b20 : Nat) (b21 : Nat) (b22 : Nat) (b23 : Nat) (b24 : Nat) (b25 : Nat) (now : Int32) (na : Int32) (nsi : Int32) (nti : Int32) (vc : Int32) (vn : Int32) (vt : Int32) (ct : Int32) (cs : Int32) (co : Int32) (nca : Int32) (ntm : Int32) (d16 : ClassId) (d17 : ClassId) (d18 : ClassId) (d4 : ClassId) (d1 : ClassId) (f16 : Nat → Int32) (f17 : Nat → Int32) (f18 : Nat → Int32) (f4 : Nat → Int32) (f1 : Nat → Int32) (p0 : Int32) (p1 : Int32) (hnt : 0 ≤ (nti).toInt ∧ (nti).toInt ≤ 60) (hp0 : 0 ≤ (p0).toInt ∧ (p0).toInt < 200) (hp1 : 0 ≤ (p1).toInt ∧ (p1).toInt < 200) (hzb : ∀ k : Nat, f18 k = 0 ∨ f18 k = 1) : Met l yX9_hangs wsX9_hangs ({ frames := 1, cells := 0, slots := 0, locals := 23 }) (va_Pc [.ref h0, .int p0, .int p1] (wo D [(d16, .int), (d17, .int), (d18, .boolean), (d4, .int), (d1, .int)] [(h0, .inr (9, [.int now, .int na, .int nsi, .int nti, .int vc, .int vn, .int vt, .ref b1, .ref b2, .ref b3, .ref b4, .ref b5, .ref b6, .ref b7, .ref b8, .ref b9, .ref b10, .ref b11, .ref b12, .ref b13, .ref b14, .ref b15, .ref b16, .ref b17, .ref b18, .int ct, .int cs, .int co, .ref b19, .ref b20, .ref b21, .int nca, .ref b22, .ref b23, .int ntm, .ref b24, .ref b25])), (b16, .inl (d16, 60, .inl (f16))), (b17, .inl (d17, 60, .inl (f17))), (b18, .inl (d18, 60, .inl (f18))), (b4, .inl (d4, 200, .inl (f4))), (b1, .inl (d1, 200, .inl (f1)))])) (vp_Si (fun r => ((True) ∧ r = 1) ∨ ((True) ∧ r = 0))) 0 0 (fun _ => False) := by
  refine Met.ofW (cc := cX9_hangs) (maxL := 4) (ret := (some .boolean)) (by decide) rfl ?_
  intro p e s m args below meth c s₁ B hml hv
  obtain ⟨rfl, hP, hK, hD, hN⟩ := hv
  have hx := B.exec
  have hb := B.bytes
  have hr := B.returns
  have hts := atoms_spec (ws := wsX9_hangs) B.pre
  have hown : s.vm.findClass RX9 = some m.cls := findClass_of_methodNamed B.named
  have hlocks := B.notSynchronized
  have hin_X9 : ∀ w ∈ u_ws RX9 TX9 37, w ∈ wsX9_hangs := by decide +kernel
  have hl := lv_entry ([.ref h0, .int p0, .int p1]) (n := 4) (Nat.le_of_ble_eq_true rfl)
  rw [lg_entry_eq]
  generalize (lg_sl ([.ref h0, .int p0, .int p1]) ++ List.replicate (4 - (lg_sl ([.ref h0, .int p0, .int p1])).length) Slot.unset).toArray = ls at hl ⊢
  have hl : lv_has ls 4 [(0, .ref h0), (1, .int p0), (2, .int p1)] := hl
  refine lv_aload_n hx hb dX9_hangs_0 rfl (lv_at hl 0 rfl) ?_
  refine lv_iload_n hx hb dX9_hangs_1 rfl (lv_at hl 1 rfl) ?_
  refine lv_iload_n hx hb dX9_hangs_2 rfl (lv_at hl 2 rfl) ?_
  refine vp_callSi (zrV (As := [.int p0, .int p1]) (rest := []) (wc := [(h0, .inr (9, [.int now, .int na, .int nsi, .int nti, .int vc, .int vn, .int vt, .ref b1, .ref b2, .ref b3, .ref b4, .ref b5, .ref b6, .ref b7, .ref b8, .ref b9, .ref b10, .ref b11, .ref b12, .ref b13, .ref b14, .ref b15, .ref b16, .ref b17, .ref b18, .int ct, .int cs, .int co, .ref b19, .ref b20, .ref b21, .int nca, .ref b22, .ref b23, .int ntm, .ref b24, .ref b25])), (b16, .inl (d16, 60, .inl (f16))), (b17, .inl (d17, 60, .inl (f17)))]) ⟨hx, hb, hml, hown, hts⟩ hN hK hP hD (m_tieOf l D h0 b1 b2 b3 b4 b5 b6 b7 b8 b9 b10 b11 b12 b13 b14 b15 b16 b17 b18 b19 b20 b21 b22 b23 b24 b25 now na nsi nti vc vn vt ct cs co nca ntm d16 d17 ((f16)) ((f17)) p0 p1 (by first | omega | assumption)) (cwV 2 hts gX9_hangs_X9_tieOf rfl rfl rfl (by decide +kernel) ⟨(Nat.le_of_ble_eq_true rfl), (Nat.le_of_ble_eq_true rfl)⟩) [0, 1] [0, 1, 2] rfl rfl (by decide) 9 0 rfl rfl rfl hl.1 rfl (Nat.le_of_ble_eq_true rfl) dX9_hangs_3 ⟨(Nat.le_of_ble_eq_true rfl), (Nat.le_of_ble_eq_true rfl)⟩) (fun r_1 h_2 => ?_)
  have h_2 : (r_1).toInt = -1 ∨ (0 ≤ (r_1).toInt ∧ (r_1).toInt < (nti).toInt) := h_2
  refine lv_istore_n (lv' := [(3, .int r_1), (0, .ref h0), (1, .int p0), (2, .int p1)]) hx hb dX9_hangs_6 rfl hl (by decide) rfl (fun ls hl => ?_)
  refine lv_iload_n hx hb dX9_hangs_7 rfl (lv_at hl 0 rfl) ?_
  refine lv_iconst (v := (-1)) hx hb dX9_hangs_8 (by decide) ?_
  refine bi_eq (zx := (r_1).toInt) (zy := (-1)) (tgt := 19) hx hb dX9_hangs_9 (by decide) rfl (by decide) (fun c_3 => ?_) (fun c_3 => ?_)
  · refine lv_aload_n hx hb dX9_hangs_19 rfl (lv_at hl 1 rfl) ?_
    refine va_get (D := D) (ci := 9) (v := .ref b4) (C := RX9) (T := TX9) (N := 37) hx hb hts hin_X9 hown hK hP 0 rfl rfl 10 (by decide) (hts (.fieldLink RX9 26 "CryOrderModel" "thing" "[I") (by decide +kernel)) (fun _ h9 => h9) rfl dX9_hangs_20 ?_
    refine lv_iload_n hx hb dX9_hangs_23 rfl (lv_at hl 2 rfl) ?_
    refine va_iald hx hb hK hP 4 3 rfl rfl (vp_in_iff.mpr (by omega)) dX9_hangs_24 ?_
    refine lv_topi (fun z_4 ez_4 => ?_)
    refine lv_aload_n hx hb dX9_hangs_25 rfl (lv_at hl 1 rfl) ?_
    refine va_get (D := D) (ci := 9) (v := .ref b4) (C := RX9) (T := TX9) (N := 37) hx hb hts hin_X9 hown hK hP 0 rfl rfl 10 (by decide) (hts (.fieldLink RX9 26 "CryOrderModel" "thing" "[I") (by decide +kernel)) (fun _ h9 => h9) rfl dX9_hangs_26 ?_
    refine lv_iload_n hx hb dX9_hangs_29 rfl (lv_at hl 3 rfl) ?_
    refine va_iald hx hb hK hP 4 3 rfl rfl (vp_in_iff.mpr (by omega)) dX9_hangs_30 ?_
    refine lv_topi (fun z_5 ez_5 => ?_)
    refine bi_ne (zx := (z_4).toInt) (zy := (z_5).toInt) (tgt := 59) hx hb dX9_hangs_31 (by decide) rfl rfl (fun c_6 => ?_) (fun c_6 => ?_)
    · refine lv_iconst (v := 0) hx hb dX9_hangs_59 (by decide) ?_
      exact W.zret (v := 0) hx hb hr rfl (fun t ht hW => ⟨0, rfl, Or.inr ⟨trivial, rfl⟩, ht⟩) (fun q h => by cases h) dX9_hangs_60
    · refine lv_aload_n hx hb dX9_hangs_34 rfl (lv_at hl 1 rfl) ?_
      refine va_get (D := D) (ci := 9) (v := .ref b1) (C := RX9) (T := TX9) (N := 37) hx hb hts hin_X9 hown hK hP 0 rfl rfl 7 (by decide) (hts (.fieldLink RX9 16 "CryOrderModel" "came" "[I") (by decide +kernel)) (fun _ h9 => h9) rfl dX9_hangs_35 ?_
      refine lv_iload_n hx hb dX9_hangs_38 rfl (lv_at hl 2 rfl) ?_
      refine va_iald hx hb hK hP 5 4 rfl rfl (vp_in_iff.mpr (by omega)) dX9_hangs_39 ?_
      refine lv_topi (fun z_7 ez_7 => ?_)
      refine lv_aload_n hx hb dX9_hangs_40 rfl (lv_at hl 1 rfl) ?_
      refine va_get (D := D) (ci := 9) (v := .ref b1) (C := RX9) (T := TX9) (N := 37) hx hb hts hin_X9 hown hK hP 0 rfl rfl 7 (by decide) (hts (.fieldLink RX9 16 "CryOrderModel" "came" "[I") (by decide +kernel)) (fun _ h9 => h9) rfl dX9_hangs_41 ?_
      refine lv_iload_n hx hb dX9_hangs_44 rfl (lv_at hl 3 rfl) ?_
      refine va_iald hx hb hK hP 5 4 rfl rfl (vp_in_iff.mpr (by omega)) dX9_hangs_45 ?_
      refine lv_topi (fun z_8 ez_8 => ?_)
      refine lv_isub hx hb dX9_hangs_46 ?_
      refine lv_topi (fun z_9 ez_9 => ?_)
      have tz_9 := sb_toInt (zx := (z_7).toInt) (zy := (z_8).toInt) ez_9 rfl rfl
      refine va_mabs hx hb (by rw [hml]; exact hl.1.symm) hown (hts (.methodLink RX9 147 Lib.Math.abs.name) (by decide +kernel)) (hts (.static Lib.Math.abs.name) (by decide +kernel)) (hts (.initialized "java/lang/Math") (by decide +kernel)) (hts (.code Lib.Math.abs.name Lib.Math.abs.code 1 (some .int)) (by decide +kernel)) (Nat.le_of_ble_eq_true rfl) (Nat.le_of_ble_eq_true rfl) (Nat.le_of_ble_eq_true rfl) (Nat.le_of_ble_eq_true rfl) dX9_hangs_47 ?_
      refine lv_topi (fun z_10 ez_10 => ?_)
      refine lv_bipush (v := 20) hx hb dX9_hangs_50 (by decide) ?_
      refine bi_gt (zx := (z_10).toInt) (zy := 20) (tgt := 59) hx hb dX9_hangs_52 (by decide) rfl (by decide) (fun c_11 => ?_) (fun c_11 => ?_)
      · refine lv_iconst (v := 0) hx hb dX9_hangs_59 (by decide) ?_
        exact W.zret (v := 0) hx hb hr rfl (fun t ht hW => ⟨0, rfl, Or.inr ⟨trivial, rfl⟩, ht⟩) (fun q h => by cases h) dX9_hangs_60
      · refine lv_iconst (v := 1) hx hb dX9_hangs_55 (by decide) ?_
        refine lv_goto (tgt := 60) hx hb dX9_hangs_56 (by decide) ?_
        exact W.zret (v := 1) hx hb hr rfl (fun t ht hW => ⟨1, rfl, Or.inl ⟨trivial, rfl⟩, ht⟩) (fun q h => by cases h) dX9_hangs_60
  · refine lv_aload_n hx hb dX9_hangs_12 rfl (lv_at hl 1 rfl) ?_
    refine va_get (D := D) (ci := 9) (v := .ref b18) (C := RX9) (T := TX9) (N := 37) hx hb hts hin_X9 hown hK hP 0 rfl rfl 24 (by decide) (hts (.fieldLink RX9 69 "CryOrderModel" "isJoined" "[Z") (by decide +kernel)) (fun _ h9 => h9) rfl dX9_hangs_13 ?_
    refine lv_iload_n hx hb dX9_hangs_16 rfl (lv_at hl 0 rfl) ?_
    refine va_zald hx hb hK hP 3 2 rfl rfl (vp_in_iff.mpr (by omega)) dX9_hangs_17 ?_
    refine lv_topi (fun z_12 ez_12 => ?_)
    exact W.zret (v := z_12) hx hb hr (nar_zb ez_12 hzb) (fun t ht hW => ⟨z_12, rfl, (zb_or ez_12 hzb), ht⟩) (fun q h => by cases h) dX9_hangs_18
