set_option maxHeartbeats 4000000 in
set_option maxRecDepth 100000 in
theorem m_isIn (l : Launch) (D : va_G) (v : Int32) (lo : Int32) (hi : Int32) : Met l yX9_isIn wsX9_isIn ({ frames := 0, cells := 0, slots := 0, locals := 0 }) (va_Pc [.int v, .int lo, .int hi] (wo D [] [])) (vp_Si (fun r => (((lo).toInt ≤ (v).toInt ∧ (v).toInt ≤ (hi).toInt) ∧ r = 1) ∨ (((v).toInt < (lo).toInt ∨ (hi).toInt < (v).toInt) ∧ r = 0))) 0 0 (fun _ => False) := by
  refine Met.ofW (cc := cX9_isIn) (maxL := 3) (ret := (some .boolean)) (by decide) rfl ?_
  intro p e s m args below meth c s₁ B hml hv
  obtain ⟨rfl, hP, hK, hD, hN⟩ := hv
  have hx := B.exec
  have hb := B.bytes
  have hr := B.returns
  have hts := atoms_spec (ws := wsX9_isIn) B.pre
  have hown : s.vm.findClass RX9 = some m.cls := findClass_of_methodNamed B.named
  have hlocks := B.notSynchronized
  have hl := lv_entry ([.int v, .int lo, .int hi]) (n := 3) (Nat.le_of_ble_eq_true rfl)
  rw [lg_entry_eq]
  generalize (lg_sl ([.int v, .int lo, .int hi]) ++ List.replicate (3 - (lg_sl ([.int v, .int lo, .int hi])).length) Slot.unset).toArray = ls at hl ⊢
  have hl : lv_has ls 3 [(0, .int v), (1, .int lo), (2, .int hi)] := hl
  refine lv_iload_n hx hb dX9_isIn_0 rfl (lv_at hl 0 rfl) ?_
  refine lv_iload_n hx hb dX9_isIn_1 rfl (lv_at hl 1 rfl) ?_
  refine bi_lt (zx := (v).toInt) (zy := (lo).toInt) (tgt := 14) hx hb dX9_isIn_2 (by decide) rfl rfl (fun c_1 => ?_) (fun c_1 => ?_)
  · refine lv_iconst (v := 0) hx hb dX9_isIn_14 (by decide) ?_
    exact W.zret (v := 0) hx hb hr rfl (fun t ht hW => ⟨0, rfl, Or.inr ⟨by omega, rfl⟩, ht⟩) (fun q h => by cases h) dX9_isIn_15
  · refine lv_iload_n hx hb dX9_isIn_5 rfl (lv_at hl 0 rfl) ?_
    refine lv_iload_n hx hb dX9_isIn_6 rfl (lv_at hl 2 rfl) ?_
    refine bi_gt (zx := (v).toInt) (zy := (hi).toInt) (tgt := 14) hx hb dX9_isIn_7 (by decide) rfl rfl (fun c_2 => ?_) (fun c_2 => ?_)
    · refine lv_iconst (v := 0) hx hb dX9_isIn_14 (by decide) ?_
      exact W.zret (v := 0) hx hb hr rfl (fun t ht hW => ⟨0, rfl, Or.inr ⟨by omega, rfl⟩, ht⟩) (fun q h => by cases h) dX9_isIn_15
    · refine lv_iconst (v := 1) hx hb dX9_isIn_10 (by decide) ?_
      refine lv_goto (tgt := 15) hx hb dX9_isIn_11 (by decide) ?_
      exact W.zret (v := 1) hx hb hr rfl (fun t ht hW => ⟨1, rfl, Or.inl ⟨by omega, rfl⟩, ht⟩) (fun q h => by cases h) dX9_isIn_15

set_option maxHeartbeats 4000000 in
set_option maxRecDepth 100000 in
theorem m_one0 (l : Launch) (D : va_G) : Met l yX9_one wsX9_one ({ frames := 0, cells := 0, slots := 0, locals := 0 }) (va_Pc [.int 0] (wo D [] [])) (vp_Si (fun r => r = 0)) 0 0 (fun _ => False) := by
  refine Met.ofW (cc := cX9_one) (maxL := 1) (ret := (some .int)) (by decide) rfl ?_
  intro p e s m args below meth c s₁ B hml hv
  obtain ⟨rfl, hP, hK, hD, hN⟩ := hv
  have hx := B.exec
  have hb := B.bytes
  have hr := B.returns
  have hts := atoms_spec (ws := wsX9_one) B.pre
  have hown : s.vm.findClass RX9 = some m.cls := findClass_of_methodNamed B.named
  have hlocks := B.notSynchronized
  have hl := lv_entry ([.int 0]) (n := 1) (Nat.le_of_ble_eq_true rfl)
  rw [lg_entry_eq]
  generalize (lg_sl ([.int 0]) ++ List.replicate (1 - (lg_sl ([.int 0])).length) Slot.unset).toArray = ls at hl ⊢
  have hl : lv_has ls 1 [(0, .int 0)] := hl
  refine lv_iload_n hx hb dX9_one_0 rfl (lv_at hl 0 rfl) ?_
  refine lv_if_eq (tgt := 8) hx hb dX9_one_1 (by decide) (fun _ => ?_) (fun c_ => absurd c_ (by decide))
  refine lv_iconst (v := 0) hx hb dX9_one_8 (by decide) ?_
  exact W.iret (v := 0) hx hb hr (fun t ht hW => ⟨0, rfl, rfl, ht⟩) (fun q h => by cases h) dX9_one_9

set_option maxHeartbeats 4000000 in
set_option maxRecDepth 100000 in
theorem m_one1 (l : Launch) (D : va_G) : Met l yX9_one wsX9_one ({ frames := 0, cells := 0, slots := 0, locals := 0 }) (va_Pc [.int 1] (wo D [] [])) (vp_Si (fun r => r = 1)) 0 0 (fun _ => False) := by
  refine Met.ofW (cc := cX9_one) (maxL := 1) (ret := (some .int)) (by decide) rfl ?_
  intro p e s m args below meth c s₁ B hml hv
  obtain ⟨rfl, hP, hK, hD, hN⟩ := hv
  have hx := B.exec
  have hb := B.bytes
  have hr := B.returns
  have hts := atoms_spec (ws := wsX9_one) B.pre
  have hown : s.vm.findClass RX9 = some m.cls := findClass_of_methodNamed B.named
  have hlocks := B.notSynchronized
  have hl := lv_entry ([.int 1]) (n := 1) (Nat.le_of_ble_eq_true rfl)
  rw [lg_entry_eq]
  generalize (lg_sl ([.int 1]) ++ List.replicate (1 - (lg_sl ([.int 1])).length) Slot.unset).toArray = ls at hl ⊢
  have hl : lv_has ls 1 [(0, .int 1)] := hl
  refine lv_iload_n hx hb dX9_one_0 rfl (lv_at hl 0 rfl) ?_
  refine lv_if_eq (tgt := 8) hx hb dX9_one_1 (by decide) (fun c_ => absurd c_ (by decide)) (fun _ => ?_)
  refine lv_iconst (v := 1) hx hb dX9_one_4 (by decide) ?_
  refine lv_goto (tgt := 9) hx hb dX9_one_5 (by decide) ?_
  exact W.iret (v := 1) hx hb hr (fun t ht hW => ⟨1, rfl, rfl, ht⟩) (fun q h => by cases h) dX9_one_9

set_option maxHeartbeats 4000000 in
set_option maxRecDepth 100000 in
theorem m_one (l : Launch) (D : va_G) (v : Int32) : Met l yX9_one wsX9_one ({ frames := 0, cells := 0, slots := 0, locals := 0 }) (va_Pc [.int v] (wo D [] [])) (vp_Si (fun r => ((¬ (v).toInt = 0) ∧ r = 1) ∨ (((v).toInt = 0) ∧ r = 0))) 0 0 (fun _ => False) := by
  refine Met.ofW (cc := cX9_one) (maxL := 1) (ret := (some .int)) (by decide) rfl ?_
  intro p e s m args below meth c s₁ B hml hv
  obtain ⟨rfl, hP, hK, hD, hN⟩ := hv
  have hx := B.exec
  have hb := B.bytes
  have hr := B.returns
  have hts := atoms_spec (ws := wsX9_one) B.pre
  have hown : s.vm.findClass RX9 = some m.cls := findClass_of_methodNamed B.named
  have hlocks := B.notSynchronized
  have hl := lv_entry ([.int v]) (n := 1) (Nat.le_of_ble_eq_true rfl)
  rw [lg_entry_eq]
  generalize (lg_sl ([.int v]) ++ List.replicate (1 - (lg_sl ([.int v])).length) Slot.unset).toArray = ls at hl ⊢
  have hl : lv_has ls 1 [(0, .int v)] := hl
  refine lv_iload_n hx hb dX9_one_0 rfl (lv_at hl 0 rfl) ?_
  refine bz_eq (zx := (v).toInt) (tgt := 8) hx hb dX9_one_1 (by decide) rfl (fun c_1 => ?_) (fun c_1 => ?_)
  · refine lv_iconst (v := 0) hx hb dX9_one_8 (by decide) ?_
    exact W.iret (v := 0) hx hb hr (fun t ht hW => ⟨0, rfl, Or.inr ⟨by omega, rfl⟩, ht⟩) (fun q h => by cases h) dX9_one_9
  · refine lv_iconst (v := 1) hx hb dX9_one_4 (by decide) ?_
    refine lv_goto (tgt := 9) hx hb dX9_one_5 (by decide) ?_
    exact W.iret (v := 1) hx hb hr (fun t ht hW => ⟨1, rfl, Or.inl ⟨by omega, rfl⟩, ht⟩) (fun q h => by cases h) dX9_one_9

set_option maxHeartbeats 4000000 in
set_option maxRecDepth 100000 in
theorem m_isPlan (l : Launch) (D : va_G) (v : Int32) : Met l yX9_isPlan wsX9_isPlan ({ frames := 1, cells := 0, slots := 0, locals := 22 }) (va_Pc [.int v] (wo D [] [])) (vp_Si (fun r => ((0 ≤ (v).toInt ∧ (v).toInt ≤ 300) ∧ r = 1) ∨ (((v).toInt < 0 ∨ 300 < (v).toInt) ∧ r = 0))) 0 0 (fun _ => False) := by
  refine Met.ofW (cc := cX9_isPlan) (maxL := 1) (ret := (some .boolean)) (by decide) rfl ?_
  intro p e s m args below meth c s₁ B hml hv
  obtain ⟨rfl, hP, hK, hD, hN⟩ := hv
  have hx := B.exec
  have hb := B.bytes
  have hr := B.returns
  have hts := atoms_spec (ws := wsX9_isPlan) B.pre
  have hown : s.vm.findClass RX9 = some m.cls := findClass_of_methodNamed B.named
  have hlocks := B.notSynchronized
  have hl := lv_entry ([.int v]) (n := 1) (Nat.le_of_ble_eq_true rfl)
  rw [lg_entry_eq]
  generalize (lg_sl ([.int v]) ++ List.replicate (1 - (lg_sl ([.int v])).length) Slot.unset).toArray = ls at hl ⊢
  have hl : lv_has ls 1 [(0, .int v)] := hl
  refine lv_iload_n hx hb dX9_isPlan_0 rfl (lv_at hl 0 rfl) ?_
  refine lv_iconst (v := 0) hx hb dX9_isPlan_1 (by decide) ?_
  refine lv_sipush (v := 300) hx hb dX9_isPlan_2 (by decide) ?_
  refine vp_callSi (zrS (As := [.int v, .int 0, .int 300]) (rest := []) (wc := []) ⟨hx, hb, hml, hown, hts⟩ hN hK hP hD (m_isIn l D v 0 300 ) (va_cwS 3 hts gX9_isPlan_X9_isIn rfl rfl rfl (by decide +kernel) ⟨(Nat.le_of_ble_eq_true rfl), (Nat.le_of_ble_eq_true rfl)⟩) [] [] rfl rfl (by decide) rfl hl.1 rfl (Nat.le_of_ble_eq_true rfl) dX9_isPlan_5 ⟨(Nat.le_of_ble_eq_true rfl), (Nat.le_of_ble_eq_true rfl)⟩) (fun r_1 h_2 => ?_)
  rcases h_2 with ⟨h_2, rfl⟩ | ⟨h_2, rfl⟩
  · have h_2 : 0 ≤ (v).toInt ∧ (v).toInt ≤ 300 := h_2
    exact W.zret (v := 1) hx hb hr rfl (fun t ht hW => ⟨1, rfl, Or.inl ⟨by omega, rfl⟩, ht⟩) (fun q h => by cases h) dX9_isPlan_8
  · have h_2 : (v).toInt < 0 ∨ 300 < (v).toInt := h_2
    exact W.zret (v := 0) hx hb hr rfl (fun t ht hW => ⟨0, rfl, Or.inr ⟨by omega, rfl⟩, ht⟩) (fun q h => by cases h) dX9_isPlan_8

set_option maxHeartbeats 4000000 in
set_option maxRecDepth 100000 in
theorem m_isAlarm (l : Launch) (D : va_G) (h0 : Nat) (b1 : Nat) (b2 : Nat) (b3 : Nat) (b4 : Nat) (b5 : Nat) (b6 : Nat) (b7 : Nat) (b8 : Nat) (b9 : Nat) (b10 : Nat) (b11 : Nat) (b12 : Nat) (b13 : Nat) (b14 : Nat) (b15 : Nat) (b16 : Nat) (b17 : Nat) (b18 : Nat) (b19 : Nat) (b20 : Nat) (b21 : Nat) (b22 : Nat) (b23 : Nat) (b24 : Nat) (b25 : Nat) (now : Int32) (na : Int32) (nsi : Int32) (nti : Int32) (vc : Int32) (vn : Int32) (vt : Int32) (ct : Int32) (cs : Int32) (co : Int32) (nca : Int32) (ntm : Int32) (p0 : Int32) (hna : 0 ≤ (na).toInt ∧ (na).toInt ≤ 200) : Met l yX9_isAlarm wsX9_isAlarm ({ frames := 1, cells := 0, slots := 0, locals := 22 }) (va_Pc [.ref h0, .int p0] (wo D [] [oC h0 9 [.int now, .int na, .int nsi, .int nti, .int vc, .int vn, .int vt, .ref b1, .ref b2, .ref b3, .ref b4, .ref b5, .ref b6, .ref b7, .ref b8, .ref b9, .ref b10, .ref b11, .ref b12, .ref b13, .ref b14, .ref b15, .ref b16, .ref b17, .ref b18, .int ct, .int cs, .int co, .ref b19, .ref b20, .ref b21, .int nca, .ref b22, .ref b23, .int ntm, .ref b24, .ref b25]])) (vp_Si (fun r => ((0 ≤ (p0).toInt ∧ (p0).toInt < (na).toInt) ∧ r = 1) ∨ (((p0).toInt < 0 ∨ (na).toInt ≤ (p0).toInt) ∧ r = 0))) 0 0 (fun _ => False) := by
  refine Met.ofW (cc := cX9_isAlarm) (maxL := 2) (ret := (some .boolean)) (by decide) rfl ?_
  intro p e s m args below meth c s₁ B hml hv
  obtain ⟨rfl, hP, hK, hD, hN⟩ := hv
  have hx := B.exec
  have hb := B.bytes
  have hr := B.returns
  have hts := atoms_spec (ws := wsX9_isAlarm) B.pre
  have hown : s.vm.findClass RX9 = some m.cls := findClass_of_methodNamed B.named
  have hlocks := B.notSynchronized
  have hin_X9 : ∀ w ∈ u_ws RX9 TX9 37, w ∈ wsX9_isAlarm := fun w h => List.mem_cons_of_mem _ (List.mem_append_right _ (h))
  have hl := lv_entry ([.ref h0, .int p0]) (n := 2) (Nat.le_of_ble_eq_true rfl)
  rw [lg_entry_eq]
  generalize (lg_sl ([.ref h0, .int p0]) ++ List.replicate (2 - (lg_sl ([.ref h0, .int p0])).length) Slot.unset).toArray = ls at hl ⊢
  have hl : lv_has ls 2 [(0, .ref h0), (1, .int p0)] := hl
  refine lv_iload_n hx hb dX9_isAlarm_0 rfl (lv_at hl 1 rfl) ?_
  refine lv_iconst (v := 0) hx hb dX9_isAlarm_1 (by decide) ?_
  refine lv_aload_n hx hb dX9_isAlarm_2 rfl (lv_at hl 0 rfl) ?_
  refine va_get (D := D) (ci := 9) (v := .int na) (C := RX9) (T := TX9) (N := 37) hx hb hts hin_X9 hown hK hP 0 rfl rfl 1 (by decide) (hts (.fieldLink RX9 93 "CryOrderModel" "alarms" "I") (List.mem_cons_of_mem _ (List.mem_append_left _ (List.mem_of_getElem? (i := 0) rfl)))) (fun _ h9 => h9) rfl dX9_isAlarm_3 ?_
  refine lv_iconst (v := 1) hx hb dX9_isAlarm_6 (by decide) ?_
  refine lv_isub hx hb dX9_isAlarm_7 ?_
  refine lv_topi (fun z_1 ez_1 => ?_)
  have tz_1 := sb_toInt (zx := (na).toInt) (zy := 1) ez_1 rfl (by decide)
  refine vp_callSi (zrS (As := [.int p0, .int 0, .int z_1]) (rest := []) (wc := []) ⟨hx, hb, hml, hown, hts⟩ hN hK hP hD (m_isIn l D p0 0 z_1 ) (va_cwS 3 hts gX9_isAlarm_X9_isIn rfl rfl rfl (by decide +kernel) ⟨(Nat.le_of_ble_eq_true rfl), (Nat.le_of_ble_eq_true rfl)⟩) [] [] rfl rfl (by decide) rfl hl.1 rfl (Nat.le_of_ble_eq_true rfl) dX9_isAlarm_8 ⟨(Nat.le_of_ble_eq_true rfl), (Nat.le_of_ble_eq_true rfl)⟩) (fun r_2 h_3 => ?_)
  rcases h_3 with ⟨h_3, rfl⟩ | ⟨h_3, rfl⟩
  · have h_3 : 0 ≤ (p0).toInt ∧ (p0).toInt ≤ (z_1).toInt := h_3
    exact W.zret (v := 1) hx hb hr rfl (fun t ht hW => ⟨1, rfl, Or.inl ⟨by omega, rfl⟩, ht⟩) (fun q h => by cases h) dX9_isAlarm_11
  · have h_3 : (p0).toInt < 0 ∨ (z_1).toInt < (p0).toInt := h_3
    exact W.zret (v := 0) hx hb hr rfl (fun t ht hW => ⟨0, rfl, Or.inr ⟨by omega, rfl⟩, ht⟩) (fun q h => by cases h) dX9_isAlarm_11

set_option maxHeartbeats 4000000 in
set_option maxRecDepth 100000 in
theorem m_isLive (l : Launch) (D : va_G) (h0 : Nat) (b1 : Nat) (b2 : Nat) (b3 : Nat) (b4 : Nat) (b5 : Nat) (b6 : Nat) (b7 : Nat) (b8 : Nat) (b9 : Nat) (b10 : Nat) (b11 : Nat) (b12 : Nat) (b13 : Nat) (b14 : Nat) (b15 : Nat) (b16 : Nat) (b17 : Nat) (b18 : Nat) (b19 : Nat) (b20 : Nat) (b21 : Nat) (b22 : Nat) (b23 : Nat) (b24 : Nat) (b25 : Nat) (now : Int32) (na : Int32) (nsi : Int32) (nti : Int32) (vc : Int32) (vn : Int32) (vt : Int32) (ct : Int32) (cs : Int32) (co : Int32) (nca : Int32) (ntm : Int32) (d8 : ClassId) (d11 : ClassId) (d12 : ClassId) (f8 : Nat → Int32) (f11 : Nat → Int32) (f12 : Nat → Int32) (p0 : Int32) (hp0 : 0 ≤ (p0).toInt ∧ (p0).toInt < 200) : Met l yX9_isLive wsX9_isLive ({ frames := 0, cells := 0, slots := 0, locals := 0 }) (va_Pc [.ref h0, .int p0] (wo D [(d8, .int), (d11, .boolean), (d12, .boolean)] [oC h0 9 [.int now, .int na, .int nsi, .int nti, .int vc, .int vn, .int vt, .ref b1, .ref b2, .ref b3, .ref b4, .ref b5, .ref b6, .ref b7, .ref b8, .ref b9, .ref b10, .ref b11, .ref b12, .ref b13, .ref b14, .ref b15, .ref b16, .ref b17, .ref b18, .int ct, .int cs, .int co, .ref b19, .ref b20, .ref b21, .int nca, .ref b22, .ref b23, .int ntm, .ref b24, .ref b25], aI b8 d8 200 (f8), aI b11 d11 200 (f11), aI b12 d12 200 (f12)])) (vp_Si (fun r => ((True) ∧ r = 1) ∨ ((True) ∧ r = 0))) 0 0 (fun _ => False) := by
  refine Met.ofW (cc := cX9_isLive) (maxL := 2) (ret := (some .boolean)) (by decide) rfl ?_
  intro p e s m args below meth c s₁ B hml hv
  obtain ⟨rfl, hP, hK, hD, hN⟩ := hv
  have hx := B.exec
  have hb := B.bytes
  have hr := B.returns
  have hts := atoms_spec (ws := wsX9_isLive) B.pre
  have hown : s.vm.findClass RX9 = some m.cls := findClass_of_methodNamed B.named
  have hlocks := B.notSynchronized
  have hin_X9 : ∀ w ∈ u_ws RX9 TX9 37, w ∈ wsX9_isLive := fun w h => List.mem_cons_of_mem _ (List.mem_append_right _ (h))
  have hl := lv_entry ([.ref h0, .int p0]) (n := 2) (Nat.le_of_ble_eq_true rfl)
  rw [lg_entry_eq]
  generalize (lg_sl ([.ref h0, .int p0]) ++ List.replicate (2 - (lg_sl ([.ref h0, .int p0])).length) Slot.unset).toArray = ls at hl ⊢
  have hl : lv_has ls 2 [(0, .ref h0), (1, .int p0)] := hl
  refine lv_aload_n hx hb dX9_isLive_0 rfl (lv_at hl 0 rfl) ?_
  refine va_get (D := D) (ci := 9) (v := .ref b8) (C := RX9) (T := TX9) (N := 37) hx hb hts hin_X9 hown hK hP 0 rfl rfl 14 (by decide) (hts (.fieldLink RX9 38 "CryOrderModel" "state" "[I") (List.mem_cons_of_mem _ (List.mem_append_left _ (List.mem_of_getElem? (i := 0) rfl)))) (fun _ h9 => h9) rfl dX9_isLive_1 ?_
  refine lv_iload_n hx hb dX9_isLive_4 rfl (lv_at hl 1 rfl) ?_
  refine va_iald hx hb hK hP 1 0 rfl rfl (vp_in_iff.mpr (by omega)) dX9_isLive_5 ?_
  refine lv_topi (fun z_1 ez_1 => ?_)
  refine bz_ne (zx := (z_1).toInt) (tgt := 31) hx hb dX9_isLive_6 (by decide) rfl (fun c_2 => ?_) (fun c_2 => ?_)
  · refine lv_iconst (v := 0) hx hb dX9_isLive_31 (by decide) ?_
    exact W.zret (v := 0) hx hb hr rfl (fun t ht hW => ⟨0, rfl, Or.inr ⟨trivial, rfl⟩, ht⟩) (fun q h => by cases h) dX9_isLive_32
  · refine lv_aload_n hx hb dX9_isLive_9 rfl (lv_at hl 0 rfl) ?_
    refine va_get (D := D) (ci := 9) (v := .ref b11) (C := RX9) (T := TX9) (N := 37) hx hb hts hin_X9 hown hK hP 0 rfl rfl 17 (by decide) (hts (.fieldLink RX9 47 "CryOrderModel" "isSilenced" "[Z") (List.mem_cons_of_mem _ (List.mem_append_left _ (List.mem_of_getElem? (i := 1) rfl)))) (fun _ h9 => h9) rfl dX9_isLive_10 ?_
    refine lv_iload_n hx hb dX9_isLive_13 rfl (lv_at hl 1 rfl) ?_
    refine va_zald hx hb hK hP 2 1 rfl rfl (vp_in_iff.mpr (by omega)) dX9_isLive_14 ?_
    refine lv_topi (fun z_3 ez_3 => ?_)
    refine bz_ne (zx := (z_3).toInt) (tgt := 31) hx hb dX9_isLive_15 (by decide) rfl (fun c_4 => ?_) (fun c_4 => ?_)
    · refine lv_iconst (v := 0) hx hb dX9_isLive_31 (by decide) ?_
      exact W.zret (v := 0) hx hb hr rfl (fun t ht hW => ⟨0, rfl, Or.inr ⟨trivial, rfl⟩, ht⟩) (fun q h => by cases h) dX9_isLive_32
    · refine lv_aload_n hx hb dX9_isLive_18 rfl (lv_at hl 0 rfl) ?_
      refine va_get (D := D) (ci := 9) (v := .ref b12) (C := RX9) (T := TX9) (N := 37) hx hb hts hin_X9 hown hK hP 0 rfl rfl 18 (by decide) (hts (.fieldLink RX9 51 "CryOrderModel" "isCapped" "[Z") (List.mem_cons_of_mem _ (List.mem_append_left _ (List.mem_of_getElem? (i := 2) rfl)))) (fun _ h9 => h9) rfl dX9_isLive_19 ?_
      refine lv_iload_n hx hb dX9_isLive_22 rfl (lv_at hl 1 rfl) ?_
      refine va_zald hx hb hK hP 3 2 rfl rfl (vp_in_iff.mpr (by omega)) dX9_isLive_23 ?_
      refine lv_topi (fun z_5 ez_5 => ?_)
      refine bz_ne (zx := (z_5).toInt) (tgt := 31) hx hb dX9_isLive_24 (by decide) rfl (fun c_6 => ?_) (fun c_6 => ?_)
      · refine lv_iconst (v := 0) hx hb dX9_isLive_31 (by decide) ?_
        exact W.zret (v := 0) hx hb hr rfl (fun t ht hW => ⟨0, rfl, Or.inr ⟨trivial, rfl⟩, ht⟩) (fun q h => by cases h) dX9_isLive_32
      · refine lv_iconst (v := 1) hx hb dX9_isLive_27 (by decide) ?_
        refine lv_goto (tgt := 32) hx hb dX9_isLive_28 (by decide) ?_
        exact W.zret (v := 1) hx hb hr rfl (fun t ht hW => ⟨1, rfl, Or.inl ⟨trivial, rfl⟩, ht⟩) (fun q h => by cases h) dX9_isLive_32

set_option maxHeartbeats 4000000 in
set_option maxRecDepth 100000 in
theorem ml_tieOf {p : Program} {l : Launch} {e : Env} {R : Room} {s : State} {m : MethodId} {args : Array Value} {below : List Frame} {meth : Method} {c : Code} {Q : State → Prop} {A : Nat → Prop} {cells slots : Nat} {D : va_G} {H : Heap} {locs : List Loc} {h0 : Nat} {b1 : Nat} {b2 : Nat} {b3 : Nat} {b4 : Nat} {b5 : Nat} {b6 : Nat} {b7 : Nat} {b8 : Nat} {b9 : Nat} {b10 : Nat} {b11 : Nat} {b12 : Nat} {b13 : Nat} {b14 : Nat} {b15 : Nat} {b16 : Nat} {b17 : Nat} {b18 : Nat} {b19 : Nat} {b20 : Nat} {b21 : Nat} {b22 : Nat} {b23 : Nat} {b24 : Nat} {b25 : Nat} {now : Int32} {na : Int32} {nsi : Int32} {nti : Int32} {vc : Int32} {vn : Int32} {vt : Int32} {ct : Int32} {cs : Int32} {co : Int32} {nca : Int32} {ntm : Int32} {d16 : ClassId} {d17 : ClassId} {f16 : Nat → Int32} {f17 : Nat → Int32} {p0 : Int32} {p1 : Int32} (hx : p.tables.exec = Jvm.exec) (hb : c.code = cX9_tieOf) (hts : ∀ w ∈ wsX9_tieOf, w.before args s = true) (hml : c.maxLocals = 4) (hown : s.vm.findClass RX9 = some m.cls) (hN : Nq s) (hK : va_K D vwCl [(d16, .int), (d17, .int)] s) (hP : va_P D vwCl [oC h0 9 [.int now, .int na, .int nsi, .int nti, .int vc, .int vn, .int vt, .ref b1, .ref b2, .ref b3, .ref b4, .ref b5, .ref b6, .ref b7, .ref b8, .ref b9, .ref b10, .ref b11, .ref b12, .ref b13, .ref b14, .ref b15, .ref b16, .ref b17, .ref b18, .int ct, .int cs, .int co, .ref b19, .ref b20, .ref b21, .int nca, .ref b22, .ref b23, .int ntm, .ref b24, .ref b25], aI b16 d16 60 (f16), aI b17 d17 60 (f17)] H) (hD : va_D A [oC h0 9 [.int now, .int na, .int nsi, .int nti, .int vc, .int vn, .int vt, .ref b1, .ref b2, .ref b3, .ref b4, .ref b5, .ref b6, .ref b7, .ref b8, .ref b9, .ref b10, .ref b11, .ref b12, .ref b13, .ref b14, .ref b15, .ref b16, .ref b17, .ref b18, .int ct, .int cs, .int co, .ref b19, .ref b20, .ref b21, .int nca, .ref b22, .ref b23, .int ntm, .ref b24, .ref b25], aI b16 d16 60 (f16), aI b17 d17 60 (f17)]) (hR : 0 ≤ R.frames ∧ 0 ≤ R.locals) (hcs : cells ≤ R.cells ∧ slots ≤ R.slots) (hnt : 0 ≤ (nti).toInt ∧ (nti).toInt ≤ 60) (done_50 : ∀ (k : Int32) (ls : Array Slot), (0 ≤ (k).toInt ∧ (k).toInt < (nti).toInt) → lv_has ls 4 [(3, .int k), (0, .ref h0), (1, .int p0), (2, .int p1)] → W p l e R s m args below meth c H locs cells slots Q (F0 m 50 ls [])) (done_58 : ∀ (k : Int32) (ls : Array Slot), lv_has ls 4 [(3, .int k), (0, .ref h0), (1, .int p0), (2, .int p1)] → W p l e R s m args below meth c H locs cells slots Q (F0 m 58 ls [])) : ∀ (n : Nat), ∀ (k : Int32) (ls : Array Slot), (0 ≤ (k).toInt ∧ (k).toInt ≤ 60) → ((60 - (k).toInt).toNat < n) → lv_has ls 4 [(3, .int k), (0, .ref h0), (1, .int p0), (2, .int p1)] → W p l e R s m args below meth c H locs cells slots Q (F0 m 2 ls []) := by
  have hin_X9 : ∀ w ∈ u_ws RX9 TX9 37, w ∈ wsX9_tieOf := fun w h => List.mem_cons_of_mem _ (List.mem_append_right _ (h))
  intro n
  induction n with
  | zero => intro k ls hk hmu hl; exact absurd hmu (Nat.not_lt_zero _)
  | succ n ih =>
    intro k ls hk hmu hl
    refine lv_iload_n hx hb dX9_tieOf_2 rfl (lv_at hl 0 rfl) ?_
    refine lv_aload_n hx hb dX9_tieOf_3 rfl (lv_at hl 1 rfl) ?_
    refine va_get (D := D) (ci := 9) (v := .int nti) (C := RX9) (T := TX9) (N := 37) hx hb hts hin_X9 hown hK hP 0 rfl rfl 3 (by decide) (hts (.fieldLink RX9 124 "CryOrderModel" "ties" "I") (List.mem_cons_of_mem _ (List.mem_append_left _ (List.mem_of_getElem? (i := 0) rfl)))) (fun _ h9 => h9) rfl dX9_tieOf_4 ?_
    refine bi_ge (zx := (k).toInt) (zy := (nti).toInt) (tgt := 58) hx hb dX9_tieOf_7 (by decide) rfl rfl (fun c_1 => ?_) (fun c_1 => ?_)
    · exact done_58 _ _  (lv_sub hl [0, 1, 2, 3] rfl)
    · refine lv_aload_n hx hb dX9_tieOf_10 rfl (lv_at hl 1 rfl) ?_
      refine va_get (D := D) (ci := 9) (v := .ref b16) (C := RX9) (T := TX9) (N := 37) hx hb hts hin_X9 hown hK hP 0 rfl rfl 22 (by decide) (hts (.fieldLink RX9 63 "CryOrderModel" "tieA" "[I") (List.mem_cons_of_mem _ (List.mem_append_left _ (List.mem_of_getElem? (i := 1) rfl)))) (fun _ h9 => h9) rfl dX9_tieOf_11 ?_
      refine lv_iload_n hx hb dX9_tieOf_14 rfl (lv_at hl 0 rfl) ?_
      refine va_iald hx hb hK hP 1 0 rfl rfl (vp_in_iff.mpr (by omega)) dX9_tieOf_15 ?_
      refine lv_topi (fun z_2 ez_2 => ?_)
      refine lv_iload_n hx hb dX9_tieOf_16 rfl (lv_at hl 2 rfl) ?_
      refine bi_ne (zx := (z_2).toInt) (zy := (p0).toInt) (tgt := 30) hx hb dX9_tieOf_17 (by decide) rfl rfl (fun c_3 => ?_) (fun c_3 => ?_)
      · refine lv_aload_n hx hb dX9_tieOf_30 rfl (lv_at hl 1 rfl) ?_
        refine va_get (D := D) (ci := 9) (v := .ref b16) (C := RX9) (T := TX9) (N := 37) hx hb hts hin_X9 hown hK hP 0 rfl rfl 22 (by decide) (hts (.fieldLink RX9 63 "CryOrderModel" "tieA" "[I") (List.mem_cons_of_mem _ (List.mem_append_left _ (List.mem_of_getElem? (i := 1) rfl)))) (fun _ h9 => h9) rfl dX9_tieOf_31 ?_
        refine lv_iload_n hx hb dX9_tieOf_34 rfl (lv_at hl 0 rfl) ?_
        refine va_iald hx hb hK hP 1 0 rfl rfl (vp_in_iff.mpr (by omega)) dX9_tieOf_35 ?_
        refine lv_topi (fun z_4 ez_4 => ?_)
        have qz_4 : (z_4).toInt = (z_2).toInt := by rw [ez_4, ez_2]
        refine lv_iload_n hx hb dX9_tieOf_36 rfl (lv_at hl 3 rfl) ?_
        refine bi_ne (zx := (z_4).toInt) (zy := (p1).toInt) (tgt := 52) hx hb dX9_tieOf_37 (by decide) rfl rfl (fun c_5 => ?_) (fun c_5 => ?_)
        · obtain ⟨x_6, ex_6⟩ : ∃ z : Int32, z = k + 1 := ⟨_, rfl⟩
          have tx_6 := ad_toInt (x := k) (y := 1) (z := x_6) (zx := (k).toInt) (zy := 1) ex_6 rfl (by decide)
          refine lv_iinc (v := x_6) (lv' := [(3, .int x_6), (0, .ref h0), (1, .int p0), (2, .int p1)]) hx hb dX9_tieOf_52 hl (k := 0) rfl (by rw [ex_6]; rfl) (by decide) rfl (fun ls hl => ?_)
          refine lv_goto (tgt := 2) hx hb dX9_tieOf_55 (by decide) ?_
          exact ih _ _ (by first | omega | assumption) (by omega) (lv_sub hl [0, 1, 2, 3] rfl)
        · refine lv_aload_n hx hb dX9_tieOf_40 rfl (lv_at hl 1 rfl) ?_
          refine va_get (D := D) (ci := 9) (v := .ref b17) (C := RX9) (T := TX9) (N := 37) hx hb hts hin_X9 hown hK hP 0 rfl rfl 23 (by decide) (hts (.fieldLink RX9 66 "CryOrderModel" "tieB" "[I") (List.mem_cons_of_mem _ (List.mem_append_left _ (List.mem_of_getElem? (i := 2) rfl)))) (fun _ h9 => h9) rfl dX9_tieOf_41 ?_
          refine lv_iload_n hx hb dX9_tieOf_44 rfl (lv_at hl 0 rfl) ?_
          refine va_iald hx hb hK hP 2 1 rfl rfl (vp_in_iff.mpr (by omega)) dX9_tieOf_45 ?_
          refine lv_topi (fun z_7 ez_7 => ?_)
          refine lv_iload_n hx hb dX9_tieOf_46 rfl (lv_at hl 2 rfl) ?_
          refine bi_ne (zx := (z_7).toInt) (zy := (p0).toInt) (tgt := 52) hx hb dX9_tieOf_47 (by decide) rfl rfl (fun c_8 => ?_) (fun c_8 => ?_)
          · obtain ⟨x_9, ex_9⟩ : ∃ z : Int32, z = k + 1 := ⟨_, rfl⟩
            have tx_9 := ad_toInt (x := k) (y := 1) (z := x_9) (zx := (k).toInt) (zy := 1) ex_9 rfl (by decide)
            refine lv_iinc (v := x_9) (lv' := [(3, .int x_9), (0, .ref h0), (1, .int p0), (2, .int p1)]) hx hb dX9_tieOf_52 hl (k := 0) rfl (by rw [ex_9]; rfl) (by decide) rfl (fun ls hl => ?_)
            refine lv_goto (tgt := 2) hx hb dX9_tieOf_55 (by decide) ?_
            exact ih _ _ (by first | omega | assumption) (by omega) (lv_sub hl [0, 1, 2, 3] rfl)
          · exact done_50 _ _ (by omega) (lv_sub hl [0, 1, 2, 3] rfl)
      · refine lv_aload_n hx hb dX9_tieOf_20 rfl (lv_at hl 1 rfl) ?_
        refine va_get (D := D) (ci := 9) (v := .ref b17) (C := RX9) (T := TX9) (N := 37) hx hb hts hin_X9 hown hK hP 0 rfl rfl 23 (by decide) (hts (.fieldLink RX9 66 "CryOrderModel" "tieB" "[I") (List.mem_cons_of_mem _ (List.mem_append_left _ (List.mem_of_getElem? (i := 2) rfl)))) (fun _ h9 => h9) rfl dX9_tieOf_21 ?_
        refine lv_iload_n hx hb dX9_tieOf_24 rfl (lv_at hl 0 rfl) ?_
        refine va_iald hx hb hK hP 2 1 rfl rfl (vp_in_iff.mpr (by omega)) dX9_tieOf_25 ?_
        refine lv_topi (fun z_10 ez_10 => ?_)
        refine lv_iload_n hx hb dX9_tieOf_26 rfl (lv_at hl 3 rfl) ?_
        refine bi_eq (zx := (z_10).toInt) (zy := (p1).toInt) (tgt := 50) hx hb dX9_tieOf_27 (by decide) rfl rfl (fun c_11 => ?_) (fun c_11 => ?_)
        · exact done_50 _ _ (by omega) (lv_sub hl [0, 1, 2, 3] rfl)
        · refine lv_aload_n hx hb dX9_tieOf_30 rfl (lv_at hl 1 rfl) ?_
          refine va_get (D := D) (ci := 9) (v := .ref b16) (C := RX9) (T := TX9) (N := 37) hx hb hts hin_X9 hown hK hP 0 rfl rfl 22 (by decide) (hts (.fieldLink RX9 63 "CryOrderModel" "tieA" "[I") (List.mem_cons_of_mem _ (List.mem_append_left _ (List.mem_of_getElem? (i := 1) rfl)))) (fun _ h9 => h9) rfl dX9_tieOf_31 ?_
          refine lv_iload_n hx hb dX9_tieOf_34 rfl (lv_at hl 0 rfl) ?_
          refine va_iald hx hb hK hP 1 0 rfl rfl (vp_in_iff.mpr (by omega)) dX9_tieOf_35 ?_
          refine lv_topi (fun z_12 ez_12 => ?_)
          have qz_12 : (z_12).toInt = (z_2).toInt := by rw [ez_12, ez_2]
          refine lv_iload_n hx hb dX9_tieOf_36 rfl (lv_at hl 3 rfl) ?_
          refine bi_ne (zx := (z_12).toInt) (zy := (p1).toInt) (tgt := 52) hx hb dX9_tieOf_37 (by decide) rfl rfl (fun c_13 => ?_) (fun c_13 => ?_)
          · obtain ⟨x_14, ex_14⟩ : ∃ z : Int32, z = k + 1 := ⟨_, rfl⟩
            have tx_14 := ad_toInt (x := k) (y := 1) (z := x_14) (zx := (k).toInt) (zy := 1) ex_14 rfl (by decide)
            refine lv_iinc (v := x_14) (lv' := [(3, .int x_14), (0, .ref h0), (1, .int p0), (2, .int p1)]) hx hb dX9_tieOf_52 hl (k := 0) rfl (by rw [ex_14]; rfl) (by decide) rfl (fun ls hl => ?_)
            refine lv_goto (tgt := 2) hx hb dX9_tieOf_55 (by decide) ?_
            exact ih _ _ (by first | omega | assumption) (by omega) (lv_sub hl [0, 1, 2, 3] rfl)
          · refine lv_aload_n hx hb dX9_tieOf_40 rfl (lv_at hl 1 rfl) ?_
            refine va_get (D := D) (ci := 9) (v := .ref b17) (C := RX9) (T := TX9) (N := 37) hx hb hts hin_X9 hown hK hP 0 rfl rfl 23 (by decide) (hts (.fieldLink RX9 66 "CryOrderModel" "tieB" "[I") (List.mem_cons_of_mem _ (List.mem_append_left _ (List.mem_of_getElem? (i := 2) rfl)))) (fun _ h9 => h9) rfl dX9_tieOf_41 ?_
            refine lv_iload_n hx hb dX9_tieOf_44 rfl (lv_at hl 0 rfl) ?_
            refine va_iald hx hb hK hP 2 1 rfl rfl (vp_in_iff.mpr (by omega)) dX9_tieOf_45 ?_
            refine lv_topi (fun z_15 ez_15 => ?_)
            have qz_15 : (z_15).toInt = (z_10).toInt := by rw [ez_15, ez_10]
            refine lv_iload_n hx hb dX9_tieOf_46 rfl (lv_at hl 2 rfl) ?_
            refine bi_ne (zx := (z_15).toInt) (zy := (p0).toInt) (tgt := 52) hx hb dX9_tieOf_47 (by decide) rfl rfl (fun c_16 => ?_) (fun c_16 => ?_)
            · obtain ⟨x_17, ex_17⟩ : ∃ z : Int32, z = k + 1 := ⟨_, rfl⟩
              have tx_17 := ad_toInt (x := k) (y := 1) (z := x_17) (zx := (k).toInt) (zy := 1) ex_17 rfl (by decide)
              refine lv_iinc (v := x_17) (lv' := [(3, .int x_17), (0, .ref h0), (1, .int p0), (2, .int p1)]) hx hb dX9_tieOf_52 hl (k := 0) rfl (by rw [ex_17]; rfl) (by decide) rfl (fun ls hl => ?_)
              refine lv_goto (tgt := 2) hx hb dX9_tieOf_55 (by decide) ?_
              exact ih _ _ (by first | omega | assumption) (by omega) (lv_sub hl [0, 1, 2, 3] rfl)
            · exact done_50 _ _ (by omega) (lv_sub hl [0, 1, 2, 3] rfl)
