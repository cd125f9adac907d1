set_option maxHeartbeats 4000000 in
set_option maxRecDepth 100000 in
theorem k_X8_isBelow (l : Launch) (D : va_G) (v : Int32) (w : Int32) : Met l yX8_isBelow wsX8_isBelow ({ frames := 0, cells := 0, slots := 0, locals := 0 }) (va_Pc [.int v, .int w] (wo D [] [])) (vp_Si (fun r => ((0 ≤ (v).toInt ∧ (v).toInt < (w).toInt) ∧ r = 1) ∨ (((v).toInt < 0 ∨ (w).toInt ≤ (v).toInt) ∧ r = 0))) 0 0 (fun _ => False) := by
  refine Met.ofW (cc := cX8_isBelow) (maxL := 2) (ret := (some .boolean)) (by decide) rfl ?_
  intro p e s m args below meth c s₁ B hml hv
  obtain ⟨rfl, hP, hK, hD, hN⟩ := hv
  have hx := B.exec
  have hb := B.bytes
  have hr := B.returns
  have hts := atoms_spec (ws := wsX8_isBelow) B.pre
  have hown : s.vm.findClass RX8 = some m.cls := findClass_of_methodNamed B.named
  have hlocks := B.notSynchronized
  have hl := lv_entry ([.int v, .int w]) (n := 2) (Nat.le_of_ble_eq_true rfl)
  rw [lg_entry_eq]
  generalize (lg_sl ([.int v, .int w]) ++ List.replicate (2 - (lg_sl ([.int v, .int w])).length) Slot.unset).toArray = ls at hl ⊢
  have hl : lv_has ls 2 [(0, .int v), (1, .int w)] := hl
  refine lv_iload_n hx hb dX8_isBelow_0 rfl (lv_at hl 0 rfl) ?_
  refine bz_lt (zx := (v).toInt) (tgt := 13) hx hb dX8_isBelow_1 (by decide) rfl (fun c_1 => ?_) (fun c_1 => ?_)
  · refine lv_iconst (v := 0) hx hb dX8_isBelow_13 (by decide) ?_
    exact W.zret (v := 0) hx hb hr rfl (fun t ht hW => ⟨0, rfl, Or.inr ⟨by omega, rfl⟩, ht⟩) (fun q h => by cases h) dX8_isBelow_14
  · refine lv_iload_n hx hb dX8_isBelow_4 rfl (lv_at hl 0 rfl) ?_
    refine lv_iload_n hx hb dX8_isBelow_5 rfl (lv_at hl 1 rfl) ?_
    refine bi_ge (zx := (v).toInt) (zy := (w).toInt) (tgt := 13) hx hb dX8_isBelow_6 (by decide) rfl rfl (fun c_2 => ?_) (fun c_2 => ?_)
    · refine lv_iconst (v := 0) hx hb dX8_isBelow_13 (by decide) ?_
      exact W.zret (v := 0) hx hb hr rfl (fun t ht hW => ⟨0, rfl, Or.inr ⟨by omega, rfl⟩, ht⟩) (fun q h => by cases h) dX8_isBelow_14
    · refine lv_iconst (v := 1) hx hb dX8_isBelow_9 (by decide) ?_
      refine lv_goto (tgt := 14) hx hb dX8_isBelow_10 (by decide) ?_
      exact W.zret (v := 1) hx hb hr rfl (fun t ht hW => ⟨1, rfl, Or.inl ⟨by omega, rfl⟩, ht⟩) (fun q h => by cases h) dX8_isBelow_14

set_option maxHeartbeats 4000000 in
set_option maxRecDepth 100000 in
theorem k_X9_isIn (l : Launch) (D : va_G) (v : Int32) (lo : Int32) (hi : Int32) : Met l yX9_isIn wsX9_isIn ({ frames := 0, cells := 0, slots := 0, locals := 0 }) (va_Pc [.int v, .int lo, .int hi] (wo D [] [])) (vp_Si (fun r => (((lo).toInt ≤ (v).toInt ∧ (v).toInt ≤ (hi).toInt) ∧ r = 1) ∨ (((v).toInt < (lo).toInt ∨ (hi).toInt < (v).toInt) ∧ r = 0))) 0 0 (fun _ => False) := by
  refine Met.ofW (cc := cX9_isIn) (maxL := 3) (ret := (some .boolean)) (by decide) rfl ?_
  intro p e s m args below meth c s₁ B hml hv
  obtain ⟨rfl, hP, hK, hD, hN⟩ := hv
  have hx := B.exec
  have hb := B.bytes
  have hr := B.returns
  have hts := atoms_spec (ws := wsX9_isIn) B.pre
  have hown : s.vm.findClass RX9 = some m.cls := findClass_of_methodNamed B.named
  have hlocks := B.notSynchronized
  have hl := lv_entry ([.int v, .int lo, .int hi]) (n := 3) (Nat.le_of_ble_eq_true rfl)
  rw [lg_entry_eq]
  generalize (lg_sl ([.int v, .int lo, .int hi]) ++ List.replicate (3 - (lg_sl ([.int v, .int lo, .int hi])).length) Slot.unset).toArray = ls at hl ⊢
  have hl : lv_has ls 3 [(0, .int v), (1, .int lo), (2, .int hi)] := hl
  refine lv_iload_n hx hb dX9_isIn_0 rfl (lv_at hl 0 rfl) ?_
  refine lv_iload_n hx hb dX9_isIn_1 rfl (lv_at hl 1 rfl) ?_
  refine bi_lt (zx := (v).toInt) (zy := (lo).toInt) (tgt := 14) hx hb dX9_isIn_2 (by decide) rfl rfl (fun c_1 => ?_) (fun c_1 => ?_)
  · refine lv_iconst (v := 0) hx hb dX9_isIn_14 (by decide) ?_
    exact W.zret (v := 0) hx hb hr rfl (fun t ht hW => ⟨0, rfl, Or.inr ⟨by omega, rfl⟩, ht⟩) (fun q h => by cases h) dX9_isIn_15
  · refine lv_iload_n hx hb dX9_isIn_5 rfl (lv_at hl 0 rfl) ?_
    refine lv_iload_n hx hb dX9_isIn_6 rfl (lv_at hl 2 rfl) ?_
    refine bi_gt (zx := (v).toInt) (zy := (hi).toInt) (tgt := 14) hx hb dX9_isIn_7 (by decide) rfl rfl (fun c_2 => ?_) (fun c_2 => ?_)
    · refine lv_iconst (v := 0) hx hb dX9_isIn_14 (by decide) ?_
      exact W.zret (v := 0) hx hb hr rfl (fun t ht hW => ⟨0, rfl, Or.inr ⟨by omega, rfl⟩, ht⟩) (fun q h => by cases h) dX9_isIn_15
    · refine lv_iconst (v := 1) hx hb dX9_isIn_10 (by decide) ?_
      refine lv_goto (tgt := 15) hx hb dX9_isIn_11 (by decide) ?_
      exact W.zret (v := 1) hx hb hr rfl (fun t ht hW => ⟨1, rfl, Or.inl ⟨by omega, rfl⟩, ht⟩) (fun q h => by cases h) dX9_isIn_15

set_option maxHeartbeats 4000000 in
set_option maxRecDepth 100000 in
theorem k_X9_isPlan (l : Launch) (D : va_G) (v : Int32) : Met l yX9_isPlan wsX9_isPlan ({ frames := 1, cells := 0, slots := 0, locals := 22 }) (va_Pc [.int v] (wo D [] [])) (vp_Si (fun r => ((0 ≤ (v).toInt ∧ (v).toInt ≤ 300) ∧ r = 1) ∨ (((v).toInt < 0 ∨ 300 < (v).toInt) ∧ r = 0))) 0 0 (fun _ => False) := by
  refine Met.ofW (cc := cX9_isPlan) (maxL := 1) (ret := (some .boolean)) (by decide) rfl ?_
  intro p e s m args below meth c s₁ B hml hv
  obtain ⟨rfl, hP, hK, hD, hN⟩ := hv
  have hx := B.exec
  have hb := B.bytes
  have hr := B.returns
  have hts := atoms_spec (ws := wsX9_isPlan) B.pre
  have hown : s.vm.findClass RX9 = some m.cls := findClass_of_methodNamed B.named
  have hlocks := B.notSynchronized
  have hl := lv_entry ([.int v]) (n := 1) (Nat.le_of_ble_eq_true rfl)
  rw [lg_entry_eq]
  generalize (lg_sl ([.int v]) ++ List.replicate (1 - (lg_sl ([.int v])).length) Slot.unset).toArray = ls at hl ⊢
  have hl : lv_has ls 1 [(0, .int v)] := hl
  refine lv_iload_n hx hb dX9_isPlan_0 rfl (lv_at hl 0 rfl) ?_
  refine lv_iconst (v := 0) hx hb dX9_isPlan_1 (by decide) ?_
  refine lv_sipush (v := 300) hx hb dX9_isPlan_2 (by decide) ?_
  refine vp_callSi (zrS (As := [.int v, .int 0, .int 300]) (rest := []) (wc := []) ⟨hx, hb, hml, hown, hts⟩ hN hK hP hD (k_X9_isIn l D v 0 300 ) (va_cwS 3 hts gX9_isPlan_X9_isIn rfl rfl rfl (by decide +kernel) ⟨(Nat.le_of_ble_eq_true rfl), (Nat.le_of_ble_eq_true rfl)⟩) [] [] rfl rfl (by decide) rfl hl.1 rfl (Nat.le_of_ble_eq_true rfl) dX9_isPlan_5 ⟨(Nat.le_of_ble_eq_true rfl), (Nat.le_of_ble_eq_true rfl)⟩) (fun r_1 h_2 => ?_)
  rcases h_2 with ⟨h_2, rfl⟩ | ⟨h_2, rfl⟩
  · have h_2 : 0 ≤ (v).toInt ∧ (v).toInt ≤ 300 := h_2
    exact W.zret (v := 1) hx hb hr rfl (fun t ht hW => ⟨1, rfl, Or.inl ⟨by omega, rfl⟩, ht⟩) (fun q h => by cases h) dX9_isPlan_8
  · have h_2 : (v).toInt < 0 ∨ 300 < (v).toInt := h_2
    exact W.zret (v := 0) hx hb hr rfl (fun t ht hW => ⟨0, rfl, Or.inr ⟨by omega, rfl⟩, ht⟩) (fun q h => by cases h) dX9_isPlan_8

set_option maxHeartbeats 4000000 in
set_option maxRecDepth 100000 in
theorem k_X3_markAt (l : Launch) (D : va_G) (v : Int32) (w : Int32) : Met l yX3_markAt wsX3_markAt ({ frames := 0, cells := 0, slots := 0, locals := 0 }) (va_Pc [.int v, .int w] (wo D [] [])) (vp_Si (fun r => True)) 0 0 (fun _ => False) := by
  refine Met.ofW (cc := cX3_markAt) (maxL := 2) (ret := (some .int)) (by decide) rfl ?_
  intro p e s m args below meth c s₁ B hml hv
  obtain ⟨rfl, hP, hK, hD, hN⟩ := hv
  have hx := B.exec
  have hb := B.bytes
  have hr := B.returns
  have hts := atoms_spec (ws := wsX3_markAt) B.pre
  have hown : s.vm.findClass RX3 = some m.cls := findClass_of_methodNamed B.named
  have hlocks := B.notSynchronized
  have hl := lv_entry ([.int v, .int w]) (n := 2) (Nat.le_of_ble_eq_true rfl)
  rw [lg_entry_eq]
  generalize (lg_sl ([.int v, .int w]) ++ List.replicate (2 - (lg_sl ([.int v, .int w])).length) Slot.unset).toArray = ls at hl ⊢
  have hl : lv_has ls 2 [(0, .int v), (1, .int w)] := hl
  refine lv_iload_n hx hb dX3_markAt_0 rfl (lv_at hl 0 rfl) ?_
  refine lv_iconst (v := 3) hx hb dX3_markAt_1 (by decide) ?_
  refine lv_iconst (v := 3) hx hb dX3_markAt_2 (by decide) ?_
  refine lv_iload_n hx hb dX3_markAt_3 rfl (lv_at hl 1 rfl) ?_
  refine lv_isub hx hb dX3_markAt_4 ?_
  refine lv_topi (fun z_1 ez_1 => ?_)
  refine lv_imul hx hb dX3_markAt_5 ?_
  refine lv_topi (fun z_2 ez_2 => ?_)
  refine lv_ishr hx hb dX3_markAt_6 ?_
  refine lv_topi (fun z_3 ez_3 => ?_)
  refine lv_bipush (v := 7) hx hb dX3_markAt_7 (by decide) ?_
  refine lv_iand hx hb dX3_markAt_9 ?_
  refine lv_topi (fun z_4 ez_4 => ?_)
  exact W.iret (v := z_4) hx hb hr (fun t ht hW => ⟨z_4, rfl, trivial, ht⟩) (fun q h => by cases h) dX3_markAt_10

set_option maxHeartbeats 4000000 in
set_option maxRecDepth 100000 in
theorem k_X9_isAlarm (l : Launch) (D : va_G) (h0 : Nat) (b1 : Nat) (b2 : Nat) (b3 : Nat) (b4 : Nat) (b5 : Nat) (b6 : Nat) (b7 : Nat) (b8 : Nat) (b9 : Nat) (b10 : Nat) (b11 : Nat) (b12 : Nat) (b13 : Nat) (b14 : Nat) (b15 : Nat) (b16 : Nat) (b17 : Nat) (b18 : Nat) (b19 : Nat) (b20 : Nat) (b21 : Nat) (b22 : Nat) (b23 : Nat) (b24 : Nat) (b25 : Nat) (p0 : Int32) : Met l yX9_isAlarm wsX9_isAlarm ({ frames := 1, cells := 0, slots := 0, locals := 22 }) (va_Pc [.ref h0, .int p0] (wo D [] [(h0, .inr (9, [.int 0, .int 0, .int 0, .int 0, .int 50, .int 3, .int 0, .ref b1, .ref b2, .ref b3, .ref b4, .ref b5, .ref b6, .ref b7, .ref b8, .ref b9, .ref b10, .ref b11, .ref b12, .ref b13, .ref b14, .ref b15, .ref b16, .ref b17, .ref b18, .int 0, .int 0, .int 0, .ref b19, .ref b20, .ref b21, .int 0, .ref b22, .ref b23, .int 0, .ref b24, .ref b25]))])) (vp_Si (fun r => r = 0)) 0 0 (fun _ => False) := by
  refine Met.ofW (cc := cX9_isAlarm) (maxL := 2) (ret := (some .boolean)) (by decide) rfl ?_
  intro p e s m args below meth c s₁ B hml hv
  obtain ⟨rfl, hP, hK, hD, hN⟩ := hv
  have hx := B.exec
  have hb := B.bytes
  have hr := B.returns
  have hts := atoms_spec (ws := wsX9_isAlarm) B.pre
  have hown : s.vm.findClass RX9 = some m.cls := findClass_of_methodNamed B.named
  have hlocks := B.notSynchronized
  have hin_X9 : ∀ w ∈ u_ws RX9 TX9 37, w ∈ wsX9_isAlarm := by decide +kernel
  have hl := lv_entry ([.ref h0, .int p0]) (n := 2) (Nat.le_of_ble_eq_true rfl)
  rw [lg_entry_eq]
  generalize (lg_sl ([.ref h0, .int p0]) ++ List.replicate (2 - (lg_sl ([.ref h0, .int p0])).length) Slot.unset).toArray = ls at hl ⊢
  have hl : lv_has ls 2 [(0, .ref h0), (1, .int p0)] := hl
  refine lv_iload_n hx hb dX9_isAlarm_0 rfl (lv_at hl 1 rfl) ?_
  refine lv_iconst (v := 0) hx hb dX9_isAlarm_1 (by decide) ?_
  refine lv_aload_n hx hb dX9_isAlarm_2 rfl (lv_at hl 0 rfl) ?_
  refine va_get (D := D) (ci := 9) (v := .int 0) (C := RX9) (T := TX9) (N := 37) hx hb hts hin_X9 hown hK hP 0 rfl rfl 1 (by decide) (hts (.fieldLink RX9 93 "CryOrderModel" "alarms" "I") (by decide +kernel)) (fun _ h9 => h9) rfl dX9_isAlarm_3 ?_
  refine lv_iconst (v := 1) hx hb dX9_isAlarm_6 (by decide) ?_
  refine lv_isub hx hb dX9_isAlarm_7 ?_
  refine lv_tope (z := (-1)) (by decide) ?_
  refine vp_callSi (zrS (As := [.int p0, .int 0, .int (-1)]) (rest := []) (wc := []) ⟨hx, hb, hml, hown, hts⟩ hN hK hP hD (k_X9_isIn l D p0 0 ((-1)) ) (va_cwS 3 hts gX9_isAlarm_X9_isIn rfl rfl rfl (by decide +kernel) ⟨(Nat.le_of_ble_eq_true rfl), (Nat.le_of_ble_eq_true rfl)⟩) [] [] rfl rfl (by decide) rfl hl.1 rfl (Nat.le_of_ble_eq_true rfl) dX9_isAlarm_8 ⟨(Nat.le_of_ble_eq_true rfl), (Nat.le_of_ble_eq_true rfl)⟩) (fun r_1 h_2 => ?_)
  rcases h_2 with ⟨h_2, rfl⟩ | ⟨h_2, rfl⟩
  · have h_2 : 0 ≤ (p0).toInt ∧ (p0).toInt ≤ (-1) := h_2
    exfalso; omega
  · have h_2 : (p0).toInt < 0 ∨ (-1) < (p0).toInt := h_2
    exact W.zret (v := 0) hx hb hr rfl (fun t ht hW => ⟨0, rfl, rfl, ht⟩) (fun q h => by cases h) dX9_isAlarm_11

set_option maxHeartbeats 4000000 in
set_option maxRecDepth 100000 in
theorem k_X8_alarmAt (l : Launch) (D : va_G) (h0 : Nat) (a1 : Nat) (a2 : Nat) (a3 : Nat) (a4 : Nat) (a5 : Nat) (a6 : Nat) (a7 : Nat) (p0 : Int32) : Met l yX8_alarmAt wsX8_alarmAt ({ frames := 1, cells := 0, slots := 0, locals := 21 }) (va_Pc [.ref h0, .int p0] (wo D [] [(h0, .inr (8, [.ref a1, .ref a2, .ref a3, .ref a4, .ref a5, .ref a6, .ref a7, .int 0, .int 0, .int 0, .int 50, .int 3, .int 0, .int 0]))])) (va_Sq (fun r => r = none)) 0 0 (fun _ => False) := by
  refine Met.ofW (cc := cX8_alarmAt) (maxL := 2) (ret := (some (.object "CryOrder$Alarm"))) (by decide) rfl ?_
  intro p e s m args below meth c s₁ B hml hv
  obtain ⟨rfl, hP, hK, hD, hN⟩ := hv
  have hx := B.exec
  have hb := B.bytes
  have hr := B.returns
  have hts := atoms_spec (ws := wsX8_alarmAt) B.pre
  have hown : s.vm.findClass RX8 = some m.cls := findClass_of_methodNamed B.named
  have hlocks := B.notSynchronized
  have hin_X8 : ∀ w ∈ u_ws RX8 TX8 14, w ∈ wsX8_alarmAt := by decide +kernel
  have hl := lv_entry ([.ref h0, .int p0]) (n := 2) (Nat.le_of_ble_eq_true rfl)
  rw [lg_entry_eq]
  generalize (lg_sl ([.ref h0, .int p0]) ++ List.replicate (2 - (lg_sl ([.ref h0, .int p0])).length) Slot.unset).toArray = ls at hl ⊢
  have hl : lv_has ls 2 [(0, .ref h0), (1, .int p0)] := hl
  refine lv_iload_n hx hb dX8_alarmAt_0 rfl (lv_at hl 1 rfl) ?_
  refine lv_aload_n hx hb dX8_alarmAt_1 rfl (lv_at hl 0 rfl) ?_
  refine va_get (D := D) (ci := 8) (v := .int 0) (C := RX8) (T := TX8) (N := 14) hx hb hts hin_X8 hown hK hP 0 rfl rfl 7 (by decide) (hts (.fieldLink RX8 79 "CryOrder" "alarmCount" "I") (by decide +kernel)) (fun _ h9 => h9) rfl dX8_alarmAt_2 ?_
  refine vp_callSi (zrS (As := [.int p0, .int 0]) (rest := []) (wc := []) ⟨hx, hb, hml, hown, hts⟩ hN hK hP hD (k_X8_isBelow l D p0 0 ) (va_cwS 2 hts gX8_alarmAt_X8_isBelow rfl rfl rfl (by decide +kernel) ⟨(Nat.le_of_ble_eq_true rfl), (Nat.le_of_ble_eq_true rfl)⟩) [] [] rfl rfl (by decide) rfl hl.1 rfl (Nat.le_of_ble_eq_true rfl) dX8_alarmAt_5 ⟨(Nat.le_of_ble_eq_true rfl), (Nat.le_of_ble_eq_true rfl)⟩) (fun r_1 h_2 => ?_)
  rcases h_2 with ⟨h_2, rfl⟩ | ⟨h_2, rfl⟩
  · have h_2 : 0 ≤ (p0).toInt ∧ (p0).toInt < 0 := h_2
    exfalso; omega
  · have h_2 : (p0).toInt < 0 ∨ 0 ≤ (p0).toInt := h_2
    refine lv_if_eq (tgt := 20) hx hb dX8_alarmAt_8 (by decide) (fun _ => ?_) (fun c_ => absurd c_ (by decide))
    refine lv_null hx hb dX8_alarmAt_20 ?_
    exact W.aret (v := .null) hx hb hr (Or.inl ⟨_, rfl⟩) (Or.inl rfl) (fun t ht hW => ⟨none, rfl, rfl, ht⟩) (fun q h => by cases h) dX8_alarmAt_21

set_option maxHeartbeats 4000000 in
set_option maxRecDepth 100000 in
theorem k_X8_alarmToRepeat (l : Launch) (D : va_G) (h0 : Nat) (a1 : Nat) (a2 : Nat) (a3 : Nat) (a4 : Nat) (a5 : Nat) (a6 : Nat) (a7 : Nat) (p0 : Int32) (p1 : Int32) (p2 : Int32) : Met l yX8_alarmToRepeat wsX8_alarmToRepeat ({ frames := 0, cells := 0, slots := 0, locals := 0 }) (va_Pc [.ref h0, .int p0, .int p1, .int p2] (wo D [] [(h0, .inr (8, [.ref a1, .ref a2, .ref a3, .ref a4, .ref a5, .ref a6, .ref a7, .int 0, .int 0, .int 0, .int 50, .int 3, .int 0, .int 0]))])) (va_Sq (fun r => r = none)) 0 0 (fun _ => False) := by
  refine Met.ofW (cc := cX8_alarmToRepeat) (maxL := 6) (ret := (some (.object "CryOrder$Alarm"))) (by decide) rfl ?_
  intro p e s m args below meth c s₁ B hml hv
  obtain ⟨rfl, hP, hK, hD, hN⟩ := hv
  have hx := B.exec
  have hb := B.bytes
  have hr := B.returns
  have hts := atoms_spec (ws := wsX8_alarmToRepeat) B.pre
  have hown : s.vm.findClass RX8 = some m.cls := findClass_of_methodNamed B.named
  have hlocks := B.notSynchronized
  have hin_X8 : ∀ w ∈ u_ws RX8 TX8 14, w ∈ wsX8_alarmToRepeat := by decide +kernel
  have hl := lv_entry ([.ref h0, .int p0, .int p1, .int p2]) (n := 6) (Nat.le_of_ble_eq_true rfl)
  rw [lg_entry_eq]
  generalize (lg_sl ([.ref h0, .int p0, .int p1, .int p2]) ++ List.replicate (6 - (lg_sl ([.ref h0, .int p0, .int p1, .int p2])).length) Slot.unset).toArray = ls at hl ⊢
  have hl : lv_has ls 6 [(0, .ref h0), (1, .int p0), (2, .int p1), (3, .int p2)] := hl
  refine lv_aload_n hx hb dX8_alarmToRepeat_0 rfl (lv_at hl 0 rfl) ?_
  refine va_get (D := D) (ci := 8) (v := .int 0) (C := RX8) (T := TX8) (N := 14) hx hb hts hin_X8 hown hK hP 0 rfl rfl 7 (by decide) (hts (.fieldLink RX8 79 "CryOrder" "alarmCount" "I") (by decide +kernel)) (fun _ h9 => h9) rfl dX8_alarmToRepeat_1 ?_
  refine lv_iconst (v := 1) hx hb dX8_alarmToRepeat_4 (by decide) ?_
  refine lv_isub hx hb dX8_alarmToRepeat_5 ?_
  refine lv_tope (z := (-1)) (by decide) ?_
  refine lv_istore (lv' := [(4, .int (-1)), (0, .ref h0), (1, .int p0), (2, .int p1), (3, .int p2)]) hx hb dX8_alarmToRepeat_6 hl (by decide) rfl (fun ls hl => ?_)
  refine lv_iload hx hb dX8_alarmToRepeat_8 (lv_at hl 0 rfl) ?_
  refine lv_if_lt (tgt := 81) hx hb dX8_alarmToRepeat_10 (by decide) (fun _ => ?_) (fun c_ => absurd c_ (by decide))
  refine lv_null hx hb dX8_alarmToRepeat_81 ?_
  exact W.aret (v := .null) hx hb hr (Or.inl ⟨_, rfl⟩) (Or.inl rfl) (fun t ht hW => ⟨none, rfl, rfl, ht⟩) (fun q h => by cases h) dX8_alarmToRepeat_82

set_option maxHeartbeats 4000000 in
set_option maxRecDepth 100000 in
theorem k_X8_isSilencedNow (l : Launch) (D : va_G) (h0 : Nat) (a1 : Nat) (a2 : Nat) (a3 : Nat) (a4 : Nat) (a5 : Nat) (a6 : Nat) (a7 : Nat) (p0 : Int32) : Met l yX8_isSilencedNow wsX8_isSilencedNow ({ frames := 0, cells := 0, slots := 0, locals := 0 }) (va_Pc [.ref h0, .int p0] (wo D [] [(h0, .inr (8, [.ref a1, .ref a2, .ref a3, .ref a4, .ref a5, .ref a6, .ref a7, .int 0, .int 0, .int 0, .int 50, .int 3, .int 0, .int 0]))])) (vp_Si (fun r => r = 0)) 0 0 (fun _ => False) := by
  refine Met.ofW (cc := cX8_isSilencedNow) (maxL := 3) (ret := (some .boolean)) (by decide) rfl ?_
  intro p e s m args below meth c s₁ B hml hv
  obtain ⟨rfl, hP, hK, hD, hN⟩ := hv
  have hx := B.exec
  have hb := B.bytes
  have hr := B.returns
  have hts := atoms_spec (ws := wsX8_isSilencedNow) B.pre
  have hown : s.vm.findClass RX8 = some m.cls := findClass_of_methodNamed B.named
  have hlocks := B.notSynchronized
  have hin_X8 : ∀ w ∈ u_ws RX8 TX8 14, w ∈ wsX8_isSilencedNow := by decide +kernel
  have hl := lv_entry ([.ref h0, .int p0]) (n := 3) (Nat.le_of_ble_eq_true rfl)
  rw [lg_entry_eq]
  generalize (lg_sl ([.ref h0, .int p0]) ++ List.replicate (3 - (lg_sl ([.ref h0, .int p0])).length) Slot.unset).toArray = ls at hl ⊢
  have hl : lv_has ls 3 [(0, .ref h0), (1, .int p0)] := hl
  refine lv_iconst (v := 0) hx hb dX8_isSilencedNow_0 (by decide) ?_
  refine lv_istore_n (lv' := [(2, .int 0), (0, .ref h0), (1, .int p0)]) hx hb dX8_isSilencedNow_1 rfl hl (by decide) rfl (fun ls hl => ?_)
  refine lv_iload_n hx hb dX8_isSilencedNow_2 rfl (lv_at hl 0 rfl) ?_
  refine lv_aload_n hx hb dX8_isSilencedNow_3 rfl (lv_at hl 1 rfl) ?_
  refine va_get (D := D) (ci := 8) (v := .int 0) (C := RX8) (T := TX8) (N := 14) hx hb hts hin_X8 hown hK hP 0 rfl rfl 8 (by decide) (hts (.fieldLink RX8 116 "CryOrder" "silenceCount" "I") (by decide +kernel)) (fun _ h9 => h9) rfl dX8_isSilencedNow_4 ?_
  refine lv_icmp_ge (tgt := 35) hx hb dX8_isSilencedNow_7 (by decide) (fun _ => ?_) (fun c_ => absurd c_ (by decide))
  refine lv_iconst (v := 0) hx hb dX8_isSilencedNow_35 (by decide) ?_
  exact W.zret (v := 0) hx hb hr rfl (fun t ht hW => ⟨0, rfl, rfl, ht⟩) (fun q h => by cases h) dX8_isSilencedNow_36

set_option maxHeartbeats 4000000 in
set_option maxRecDepth 100000 in
theorem k_X8_isCapFullNow (l : Launch) (D : va_G) (h0 : Nat) (a1 : Nat) (a2 : Nat) (a3 : Nat) (a4 : Nat) (a5 : Nat) (a6 : Nat) (a7 : Nat) (p0 : Int32) : Met l yX8_isCapFullNow wsX8_isCapFullNow ({ frames := 0, cells := 0, slots := 0, locals := 0 }) (va_Pc [.ref h0, .int p0] (wo D [] [(h0, .inr (8, [.ref a1, .ref a2, .ref a3, .ref a4, .ref a5, .ref a6, .ref a7, .int 0, .int 0, .int 0, .int 50, .int 3, .int 0, .int 0]))])) (vp_Si (fun r => r = 0)) 0 0 (fun _ => False) := by
  refine Met.ofW (cc := cX8_isCapFullNow) (maxL := 4) (ret := (some .boolean)) (by decide) rfl ?_
  intro p e s m args below meth c s₁ B hml hv
  obtain ⟨rfl, hP, hK, hD, hN⟩ := hv
  have hx := B.exec
  have hb := B.bytes
  have hr := B.returns
  have hts := atoms_spec (ws := wsX8_isCapFullNow) B.pre
  have hown : s.vm.findClass RX8 = some m.cls := findClass_of_methodNamed B.named
  have hlocks := B.notSynchronized
  have hin_X8 : ∀ w ∈ u_ws RX8 TX8 14, w ∈ wsX8_isCapFullNow := by decide +kernel
  have hl := lv_entry ([.ref h0, .int p0]) (n := 4) (Nat.le_of_ble_eq_true rfl)
  rw [lg_entry_eq]
  generalize (lg_sl ([.ref h0, .int p0]) ++ List.replicate (4 - (lg_sl ([.ref h0, .int p0])).length) Slot.unset).toArray = ls at hl ⊢
  have hl : lv_has ls 4 [(0, .ref h0), (1, .int p0)] := hl
  refine lv_iconst (v := 0) hx hb dX8_isCapFullNow_0 (by decide) ?_
  refine lv_istore_n (lv' := [(2, .int 0), (0, .ref h0), (1, .int p0)]) hx hb dX8_isCapFullNow_1 rfl hl (by decide) rfl (fun ls hl => ?_)
  refine lv_aload_n hx hb dX8_isCapFullNow_2 rfl (lv_at hl 1 rfl) ?_
  refine va_get (D := D) (ci := 8) (v := .int 0) (C := RX8) (T := TX8) (N := 14) hx hb hts hin_X8 hown hK hP 0 rfl rfl 7 (by decide) (hts (.fieldLink RX8 79 "CryOrder" "alarmCount" "I") (by decide +kernel)) (fun _ h9 => h9) rfl dX8_isCapFullNow_3 ?_
  refine lv_iconst (v := 1) hx hb dX8_isCapFullNow_6 (by decide) ?_
  refine lv_isub hx hb dX8_isCapFullNow_7 ?_
  refine lv_tope (z := (-1)) (by decide) ?_
  refine lv_istore_n (lv' := [(3, .int (-1)), (2, .int 0), (0, .ref h0), (1, .int p0)]) hx hb dX8_isCapFullNow_8 rfl hl (by decide) rfl (fun ls hl => ?_)
  refine lv_iload_n hx hb dX8_isCapFullNow_9 rfl (lv_at hl 0 rfl) ?_
  refine lv_if_lt (tgt := 66) hx hb dX8_isCapFullNow_10 (by decide) (fun _ => ?_) (fun c_ => absurd c_ (by decide))
  refine lv_iload_n hx hb dX8_isCapFullNow_66 rfl (lv_at hl 1 rfl) ?_
  refine lv_aload_n hx hb dX8_isCapFullNow_67 rfl (lv_at hl 2 rfl) ?_
  refine va_get (D := D) (ci := 8) (v := .int 50) (C := RX8) (T := TX8) (N := 14) hx hb hts hin_X8 hown hK hP 0 rfl rfl 10 (by decide) (hts (.fieldLink RX8 54 "CryOrder" "cap" "I") (by decide +kernel)) (fun _ h9 => h9) rfl dX8_isCapFullNow_68 ?_
  refine lv_icmp_lt (tgt := 78) hx hb dX8_isCapFullNow_71 (by decide) (fun _ => ?_) (fun c_ => absurd c_ (by decide))
  refine lv_iconst (v := 0) hx hb dX8_isCapFullNow_78 (by decide) ?_
  exact W.zret (v := 0) hx hb hr rfl (fun t ht hW => ⟨0, rfl, rfl, ht⟩) (fun q h => by cases h) dX8_isCapFullNow_79

set_option maxHeartbeats 4000000 in
set_option maxRecDepth 100000 in
theorem k_X8_casesNow (l : Launch) (D : va_G) (h0 : Nat) (a1 : Nat) (a2 : Nat) (a3 : Nat) (a4 : Nat) (a5 : Nat) (a6 : Nat) (a7 : Nat) : Met l yX8_casesNow wsX8_casesNow ({ frames := 0, cells := 0, slots := 0, locals := 0 }) (va_Pc [.ref h0] (wo D [] [(h0, .inr (8, [.ref a1, .ref a2, .ref a3, .ref a4, .ref a5, .ref a6, .ref a7, .int 0, .int 0, .int 0, .int 50, .int 3, .int 0, .int 0]))])) (va_Sq (fun r => r = some a6)) 0 0 (fun _ => False) := by
  refine Met.ofW (cc := cX8_casesNow) (maxL := 1) (ret := (some (.object "CryOrder$Cases"))) (by decide) rfl ?_
  intro p e s m args below meth c s₁ B hml hv
  obtain ⟨rfl, hP, hK, hD, hN⟩ := hv
  have hx := B.exec
  have hb := B.bytes
  have hr := B.returns
  have hts := atoms_spec (ws := wsX8_casesNow) B.pre
  have hown : s.vm.findClass RX8 = some m.cls := findClass_of_methodNamed B.named
  have hlocks := B.notSynchronized
  have hin_X8 : ∀ w ∈ u_ws RX8 TX8 14, w ∈ wsX8_casesNow := by decide +kernel
  have hl := lv_entry ([.ref h0]) (n := 1) (Nat.le_of_ble_eq_true rfl)
  rw [lg_entry_eq]
  generalize (lg_sl ([.ref h0]) ++ List.replicate (1 - (lg_sl ([.ref h0])).length) Slot.unset).toArray = ls at hl ⊢
  have hl : lv_has ls 1 [(0, .ref h0)] := hl
  refine lv_aload_n hx hb dX8_casesNow_0 rfl (lv_at hl 0 rfl) ?_
  refine va_get (D := D) (ci := 8) (v := .int 0) (C := RX8) (T := TX8) (N := 14) hx hb hts hin_X8 hown hK hP 0 rfl rfl 13 (by decide) (hts (.fieldLink RX8 113 "CryOrder" "casesAreStale" "Z") (by decide +kernel)) (fun _ h9 => h9) rfl dX8_casesNow_1 ?_
  refine lv_if_eq (tgt := 35) hx hb dX8_casesNow_4 (by decide) (fun _ => ?_) (fun c_ => absurd c_ (by decide))
  refine lv_aload_n hx hb dX8_casesNow_35 rfl (lv_at hl 0 rfl) ?_
  refine va_get (D := D) (ci := 8) (v := .ref a6) (C := RX8) (T := TX8) (N := 14) hx hb hts hin_X8 hown hK hP 0 rfl rfl 5 (by decide) (hts (.fieldLink RX8 43 "CryOrder" "cases" "LCryOrder$Cases;") (by decide +kernel)) (fun _ h9 => h9) rfl dX8_casesNow_36 ?_
  exact W.aret (v := .ref a6) hx hb hr (Or.inl ⟨_, rfl⟩) (Or.inr ⟨_, rfl⟩) (fun t ht hW => ⟨some a6, rfl, rfl, ht⟩) (fun q h => by cases h) dX8_casesNow_39

set_option maxHeartbeats 4000000 in
set_option maxRecDepth 100000 in
theorem k_X3_child (l : Launch) (D : va_G) (h0 : Nat) (vpar : Value) (vsib : Value) (x1 : Int32) (x2 : Int32) (x5 : Int32) (x6 : Int32) (x7 : Int32) (p0 : Int32) : Met l yX3_child wsX3_child ({ frames := 0, cells := 0, slots := 0, locals := 0 }) (va_Pc [.ref h0, .int p0] (wo D [] [(h0, .inr (3, [vpar, .int x1, .int x2, vsib, .null, .int x5, .int x6, .int x7]))])) (va_Sq (fun r => r = none)) 0 0 (fun _ => False) := by
  refine Met.ofW (cc := cX3_child) (maxL := 3) (ret := (some (.object "CryOrder$Node"))) (by decide) rfl ?_
  intro p e s m args below meth c s₁ B hml hv
  obtain ⟨rfl, hP, hK, hD, hN⟩ := hv
  have hx := B.exec
  have hb := B.bytes
  have hr := B.returns
  have hts := atoms_spec (ws := wsX3_child) B.pre
  have hown : s.vm.findClass RX3 = some m.cls := findClass_of_methodNamed B.named
  have hlocks := B.notSynchronized
  have hin_X3 : ∀ w ∈ u_ws RX3 TX3 8, w ∈ wsX3_child := by decide +kernel
  have hl := lv_entry ([.ref h0, .int p0]) (n := 3) (Nat.le_of_ble_eq_true rfl)
  rw [lg_entry_eq]
  generalize (lg_sl ([.ref h0, .int p0]) ++ List.replicate (3 - (lg_sl ([.ref h0, .int p0])).length) Slot.unset).toArray = ls at hl ⊢
  have hl : lv_has ls 3 [(0, .ref h0), (1, .int p0)] := hl
  refine lv_aload_n hx hb dX3_child_0 rfl (lv_at hl 0 rfl) ?_
  refine va_get (D := D) (ci := 3) (v := .null) (C := RX3) (T := TX3) (N := 8) hx hb hts hin_X3 hown hK hP 0 rfl rfl 4 (by decide) (hts (.fieldLink RX3 25 "CryOrder$Node" "firstChild" "LCryOrder$Node;") (by decide +kernel)) (fun _ h9 => h9) rfl dX3_child_1 ?_
  refine lv_astore_nN (lv' := [(2, .null), (0, .ref h0), (1, .int p0)]) hx hb dX3_child_4 rfl hl (by decide) rfl (fun ls hl => ?_)
  refine lv_aload_nN hx hb dX3_child_5 rfl (lv_at hl 0 rfl) ?_
  refine lv_ifnullN (tgt := 25) hx hb dX3_child_6 (by decide) ?_
  refine lv_aload_nN hx hb dX3_child_25 rfl (lv_at hl 0 rfl) ?_
  exact W.aret (v := .null) hx hb hr (Or.inl ⟨_, rfl⟩) (Or.inl rfl) (fun t ht hW => ⟨none, rfl, rfl, ht⟩) (fun q h => by cases h) dX3_child_26

set_option maxHeartbeats 4000000 in
set_option maxRecDepth 100000 in
theorem k_X3_find (l : Launch) (D : va_G) (h0 : Nat) (vpar : Value) (vsib : Value) (x1 : Int32) (x2 : Int32) (x5 : Int32) (x6 : Int32) (x7 : Int32) (p0 : Int32) (p1 : Int32) : Met l yX3_find wsX3_find ({ frames := 1, cells := 0, slots := 0, locals := 22 }) (va_Pc [.ref h0, .int p0, .int p1] (wo D [] [(h0, .inr (3, [vpar, .int x1, .int x2, vsib, .null, .int x5, .int x6, .int x7]))])) (va_Sq (fun r => ((p0).toInt ≤ 0 ∧ r = some h0) ∨ (0 < (p0).toInt ∧ r = none))) 0 0 (fun _ => False) := by
  refine Met.ofW (cc := cX3_find) (maxL := 5) (ret := (some (.object "CryOrder$Node"))) (by decide) rfl ?_
  intro p e s m args below meth c s₁ B hml hv
  obtain ⟨rfl, hP, hK, hD, hN⟩ := hv
  have hx := B.exec
  have hb := B.bytes
  have hr := B.returns
  have hts := atoms_spec (ws := wsX3_find) B.pre
  have hown : s.vm.findClass RX3 = some m.cls := findClass_of_methodNamed B.named
  have hlocks := B.notSynchronized
  have hl := lv_entry ([.ref h0, .int p0, .int p1]) (n := 5) (Nat.le_of_ble_eq_true rfl)
  rw [lg_entry_eq]
  generalize (lg_sl ([.ref h0, .int p0, .int p1]) ++ List.replicate (5 - (lg_sl ([.ref h0, .int p0, .int p1])).length) Slot.unset).toArray = ls at hl ⊢
  have hl : lv_has ls 5 [(0, .ref h0), (1, .int p0), (2, .int p1)] := hl
  refine lv_aload_n hx hb dX3_find_0 rfl (lv_at hl 0 rfl) ?_
  refine lv_astore_n (lv' := [(3, .ref h0), (0, .ref h0), (1, .int p0), (2, .int p1)]) hx hb dX3_find_1 rfl hl (by decide) rfl (fun ls hl => ?_)
  refine lv_iconst (v := 0) hx hb dX3_find_2 (by decide) ?_
  refine lv_istore (lv' := [(4, .int 0), (3, .ref h0), (0, .ref h0), (1, .int p0), (2, .int p1)]) hx hb dX3_find_3 hl (by decide) rfl (fun ls hl => ?_)
  refine lv_iload hx hb dX3_find_5 (lv_at hl 0 rfl) ?_
  refine lv_iload_n hx hb dX3_find_7 rfl (lv_at hl 3 rfl) ?_
  refine bi_ge (zx := 0) (zy := (p0).toInt) (tgt := 32) hx hb dX3_find_8 (by decide) (by decide) rfl (fun c_1 => ?_) (fun c_1 => ?_)
  · refine lv_aload_n hx hb dX3_find_32 rfl (lv_at hl 1 rfl) ?_
    exact W.aret (v := .ref h0) hx hb hr (Or.inl ⟨_, rfl⟩) (Or.inr ⟨_, rfl⟩) (fun t ht hW => ⟨some h0, rfl, Or.inl ⟨by omega, rfl⟩, ht⟩) (fun q h => by cases h) dX3_find_33
  · refine lv_aload_n hx hb dX3_find_11 rfl (lv_at hl 1 rfl) ?_
    refine lv_ifnull hx hb dX3_find_12 ?_
    refine lv_aload_n hx hb dX3_find_15 rfl (lv_at hl 1 rfl) ?_
    refine lv_iload_n hx hb dX3_find_16 rfl (lv_at hl 4 rfl) ?_
    refine lv_iload hx hb dX3_find_17 (lv_at hl 0 rfl) ?_
    refine vp_callSi (zrS (As := [.int p1, .int 0]) (rest := [.ref h0]) (wc := []) ⟨hx, hb, hml, hown, hts⟩ hN hK hP hD (k_X3_markAt l D p1 0 ) (va_cwS 2 hts gX3_find_X3_markAt rfl rfl rfl (by decide +kernel) ⟨(Nat.le_of_ble_eq_true rfl), (Nat.le_of_ble_eq_true rfl)⟩) [] [] rfl rfl (by decide) rfl hl.1 rfl (Nat.le_of_ble_eq_true rfl) dX3_find_19 ⟨(Nat.le_of_ble_eq_true rfl), (Nat.le_of_ble_eq_true rfl)⟩) (fun r_2 h_3 => ?_)
    refine va_csq (zrV (As := [.int r_2]) (rest := []) (wc := [(h0, .inr (3, [vpar, .int x1, .int x2, vsib, .null, .int x5, .int x6, .int x7]))]) ⟨hx, hb, hml, hown, hts⟩ hN hK hP hD (k_X3_child l D h0 vpar vsib x1 x2 x5 x6 x7 r_2 ) (cwV 1 hts gX3_find_X3_child rfl rfl rfl (by decide +kernel) ⟨(Nat.le_of_ble_eq_true rfl), (Nat.le_of_ble_eq_true rfl)⟩) [] [0] rfl rfl (by decide) 3 0 rfl rfl rfl hl.1 rfl (Nat.le_of_ble_eq_true rfl) dX3_find_22 ⟨(Nat.le_of_ble_eq_true rfl), (Nat.le_of_ble_eq_true rfl)⟩) (fun r_4 h_5 => ?_)
    subst h_5
    refine lv_topv (z := .null) rfl ?_
    refine lv_astore_nN (lv' := [(3, .null), (4, .int 0), (0, .ref h0), (1, .int p0), (2, .int p1)]) hx hb dX3_find_25 rfl hl (by decide) rfl (fun ls hl => ?_)
    refine lv_iinc (v := 1) (lv' := [(4, .int 1), (3, .null), (0, .ref h0), (1, .int p0), (2, .int p1)]) hx hb dX3_find_26 hl (k := 1) rfl (by decide) (by decide) rfl (fun ls hl => ?_)
    refine lv_goto (tgt := 5) hx hb dX3_find_29 (by decide) ?_
    refine lv_iload hx hb dX3_find_5 (lv_at hl 0 rfl) ?_
    refine lv_iload_n hx hb dX3_find_7 rfl (lv_at hl 3 rfl) ?_
    refine bi_ge (zx := 1) (zy := (p0).toInt) (tgt := 32) hx hb dX3_find_8 (by decide) (by decide) rfl (fun c_6 => ?_) (fun c_6 => ?_)
    · refine lv_aload_nN hx hb dX3_find_32 rfl (lv_at hl 1 rfl) ?_
      exact W.aret (v := .null) hx hb hr (Or.inl ⟨_, rfl⟩) (Or.inl rfl) (fun t ht hW => ⟨none, rfl, Or.inr ⟨by omega, rfl⟩, ht⟩) (fun q h => by cases h) dX3_find_33
    · refine lv_aload_nN hx hb dX3_find_11 rfl (lv_at hl 1 rfl) ?_
      refine lv_ifnullN (tgt := 32) hx hb dX3_find_12 (by decide) ?_
      refine lv_aload_nN hx hb dX3_find_32 rfl (lv_at hl 1 rfl) ?_
      exact W.aret (v := .null) hx hb hr (Or.inl ⟨_, rfl⟩) (Or.inl rfl) (fun t ht hW => ⟨none, rfl, Or.inr ⟨by omega, rfl⟩, ht⟩) (fun q h => by cases h) dX3_find_33

set_option maxHeartbeats 4000000 in
set_option maxRecDepth 100000 in
theorem k_X2_at (l : Launch) (D : va_G) (h0 : Nat) (o1 : Nat) (p0 : Int32) : Met l yX2_at wsX2_at ({ frames := 1, cells := 0, slots := 0, locals := 21 }) (va_Pc [.ref h0, .int p0] (wo D [] [(h0, .inr (2, [.ref o1, .int 0]))])) (va_Sq (fun r => r = none)) 0 0 (fun _ => False) := by
  refine Met.ofW (cc := cX2_at) (maxL := 2) (ret := (some (.object "CryOrder$Case"))) (by decide) rfl ?_
  intro p e s m args below meth c s₁ B hml hv
  obtain ⟨rfl, hP, hK, hD, hN⟩ := hv
  have hx := B.exec
  have hb := B.bytes
  have hr := B.returns
  have hts := atoms_spec (ws := wsX2_at) B.pre
  have hown : s.vm.findClass RX2 = some m.cls := findClass_of_methodNamed B.named
  have hlocks := B.notSynchronized
  have hin_X2 : ∀ w ∈ u_ws RX2 TX2 2, w ∈ wsX2_at := by decide +kernel
  have hl := lv_entry ([.ref h0, .int p0]) (n := 2) (Nat.le_of_ble_eq_true rfl)
  rw [lg_entry_eq]
  generalize (lg_sl ([.ref h0, .int p0]) ++ List.replicate (2 - (lg_sl ([.ref h0, .int p0])).length) Slot.unset).toArray = ls at hl ⊢
  have hl : lv_has ls 2 [(0, .ref h0), (1, .int p0)] := hl
  refine lv_iload_n hx hb dX2_at_0 rfl (lv_at hl 1 rfl) ?_
  refine lv_aload_n hx hb dX2_at_1 rfl (lv_at hl 0 rfl) ?_
  refine va_get (D := D) (ci := 2) (v := .int 0) (C := RX2) (T := TX2) (N := 2) hx hb hts hin_X2 hown hK hP 0 rfl rfl 1 (by decide) (hts (.fieldLink RX2 50 "CryOrder$Cases" "size" "I") (by decide +kernel)) (fun _ h9 => h9) rfl dX2_at_2 ?_
  refine vp_callSi (zrN (As := [.int p0, .int 0]) (rest := []) (wc := []) ⟨hx, hb, hml, hown, hts⟩ hN hK hP hD (k_X8_isBelow l D p0 0 ) ⟨va_cnB 2 hts gX2_at_X8_isBelow_n54 rfl rfl rfl hN.2.2.1 (hts (.initialized RX8) (by decide +kernel)) (by decide +kernel) ⟨(Nat.le_of_ble_eq_true rfl), (Nat.le_of_ble_eq_true rfl)⟩, (hts (.static yX8_isBelow) (by decide +kernel)), trivial⟩ [] [] rfl rfl (by decide) rfl hl.1 rfl (Nat.le_of_ble_eq_true rfl) dX2_at_5 ⟨(Nat.le_of_ble_eq_true rfl), (Nat.le_of_ble_eq_true rfl)⟩) (fun r_1 h_2 => ?_)
  rcases h_2 with ⟨h_2, rfl⟩ | ⟨h_2, rfl⟩
  · have h_2 : 0 ≤ (p0).toInt ∧ (p0).toInt < 0 := h_2
    exfalso; omega
  · have h_2 : (p0).toInt < 0 ∨ 0 ≤ (p0).toInt := h_2
    refine lv_if_eq (tgt := 20) hx hb dX2_at_8 (by decide) (fun _ => ?_) (fun c_ => absurd c_ (by decide))
    refine lv_null hx hb dX2_at_20 ?_
    exact W.aret (v := .null) hx hb hr (Or.inl ⟨_, rfl⟩) (Or.inl rfl) (fun t ht hW => ⟨none, rfl, rfl, ht⟩) (fun q h => by cases h) dX2_at_21

set_option maxHeartbeats 4000000 in
set_option maxRecDepth 100000 in
theorem k_X2_scoreOfAll (l : Launch) (D : va_G) (h0 : Nat) (o1 : Nat) : Met l yX2_scoreOfAll wsX2_scoreOfAll ({ frames := 0, cells := 0, slots := 0, locals := 0 }) (va_Pc [.ref h0] (wo D [] [(h0, .inr (2, [.ref o1, .int 0]))])) (vp_Si (fun r => r = 0)) 0 0 (fun _ => False) := by
  refine Met.ofW (cc := cX2_scoreOfAll) (maxL := 3) (ret := (some .int)) (by decide) rfl ?_
  intro p e s m args below meth c s₁ B hml hv
  obtain ⟨rfl, hP, hK, hD, hN⟩ := hv
  have hx := B.exec
  have hb := B.bytes
  have hr := B.returns
  have hts := atoms_spec (ws := wsX2_scoreOfAll) B.pre
  have hown : s.vm.findClass RX2 = some m.cls := findClass_of_methodNamed B.named
  have hlocks := B.notSynchronized
  have hin_X2 : ∀ w ∈ u_ws RX2 TX2 2, w ∈ wsX2_scoreOfAll := by decide +kernel
  have hl := lv_entry ([.ref h0]) (n := 3) (Nat.le_of_ble_eq_true rfl)
  rw [lg_entry_eq]
  generalize (lg_sl ([.ref h0]) ++ List.replicate (3 - (lg_sl ([.ref h0])).length) Slot.unset).toArray = ls at hl ⊢
  have hl : lv_has ls 3 [(0, .ref h0)] := hl
  refine lv_iconst (v := 0) hx hb dX2_scoreOfAll_0 (by decide) ?_
  refine lv_istore_n (lv' := [(1, .int 0), (0, .ref h0)]) hx hb dX2_scoreOfAll_1 rfl hl (by decide) rfl (fun ls hl => ?_)
  refine lv_iconst (v := 0) hx hb dX2_scoreOfAll_2 (by decide) ?_
  refine lv_istore_n (lv' := [(2, .int 0), (1, .int 0), (0, .ref h0)]) hx hb dX2_scoreOfAll_3 rfl hl (by decide) rfl (fun ls hl => ?_)
  refine lv_iload_n hx hb dX2_scoreOfAll_4 rfl (lv_at hl 0 rfl) ?_
  refine lv_aload_n hx hb dX2_scoreOfAll_5 rfl (lv_at hl 2 rfl) ?_
  refine va_get (D := D) (ci := 2) (v := .int 0) (C := RX2) (T := TX2) (N := 2) hx hb hts hin_X2 hown hK hP 0 rfl rfl 1 (by decide) (hts (.fieldLink RX2 50 "CryOrder$Cases" "size" "I") (by decide +kernel)) (fun _ h9 => h9) rfl dX2_scoreOfAll_6 ?_
  refine lv_icmp_ge (tgt := 30) hx hb dX2_scoreOfAll_9 (by decide) (fun _ => ?_) (fun c_ => absurd c_ (by decide))
  refine lv_iload_n hx hb dX2_scoreOfAll_30 rfl (lv_at hl 1 rfl) ?_
  exact W.iret (v := 0) hx hb hr (fun t ht hW => ⟨0, rfl, rfl, ht⟩) (fun q h => by cases h) dX2_scoreOfAll_31

set_option maxHeartbeats 4000000 in
set_option maxRecDepth 100000 in
theorem k_X5_at (l : Launch) (D : va_G) (h0 : Nat) (t1 : Nat) (t2 : Nat) (t3 : Nat) (t4 : Nat) (ml : Int32) (p0 : Int32) : Met l yX5_at wsX5_at ({ frames := 1, cells := 0, slots := 0, locals := 21 }) (va_Pc [.ref h0, .int p0] (wo D [] [(h0, .inr (5, [.ref t1, .ref t2, .ref t3, .ref t4, .int 0, .int 0, .int 0, .int ml]))])) (va_Sq (fun r => r = none)) 0 0 (fun _ => False) := by
  refine Met.ofW (cc := cX5_at) (maxL := 2) (ret := (some (.object "CryOrder$Case"))) (by decide) rfl ?_
  intro p e s m args below meth c s₁ B hml hv
  obtain ⟨rfl, hP, hK, hD, hN⟩ := hv
  have hx := B.exec
  have hb := B.bytes
  have hr := B.returns
  have hts := atoms_spec (ws := wsX5_at) B.pre
  have hown : s.vm.findClass RX5 = some m.cls := findClass_of_methodNamed B.named
  have hlocks := B.notSynchronized
  have hin_X5 : ∀ w ∈ u_ws RX5 TX5 8, w ∈ wsX5_at := by decide +kernel
  have hl := lv_entry ([.ref h0, .int p0]) (n := 2) (Nat.le_of_ble_eq_true rfl)
  rw [lg_entry_eq]
  generalize (lg_sl ([.ref h0, .int p0]) ++ List.replicate (2 - (lg_sl ([.ref h0, .int p0])).length) Slot.unset).toArray = ls at hl ⊢
  have hl : lv_has ls 2 [(0, .ref h0), (1, .int p0)] := hl
  refine lv_iload_n hx hb dX5_at_0 rfl (lv_at hl 1 rfl) ?_
  refine lv_aload_n hx hb dX5_at_1 rfl (lv_at hl 0 rfl) ?_
  refine va_get (D := D) (ci := 5) (v := .int 0) (C := RX5) (T := TX5) (N := 8) hx hb hts hin_X5 hown hK hP 0 rfl rfl 4 (by decide) (hts (.fieldLink RX5 27 "CryOrder$Plan" "takenCount" "I") (by decide +kernel)) (fun _ h9 => h9) rfl dX5_at_2 ?_
  refine vp_callSi (zrN (As := [.int p0, .int 0]) (rest := []) (wc := []) ⟨hx, hb, hml, hown, hts⟩ hN hK hP hD (k_X8_isBelow l D p0 0 ) ⟨va_cnB 2 hts gX5_at_X8_isBelow_n63 rfl rfl rfl hN.2.2.2.1 (hts (.initialized RX8) (by decide +kernel)) (by decide +kernel) ⟨(Nat.le_of_ble_eq_true rfl), (Nat.le_of_ble_eq_true rfl)⟩, (hts (.static yX8_isBelow) (by decide +kernel)), trivial⟩ [] [] rfl rfl (by decide) rfl hl.1 rfl (Nat.le_of_ble_eq_true rfl) dX5_at_5 ⟨(Nat.le_of_ble_eq_true rfl), (Nat.le_of_ble_eq_true rfl)⟩) (fun r_1 h_2 => ?_)
  rcases h_2 with ⟨h_2, rfl⟩ | ⟨h_2, rfl⟩
  · have h_2 : 0 ≤ (p0).toInt ∧ (p0).toInt < 0 := h_2
    exfalso; omega
  · have h_2 : (p0).toInt < 0 ∨ 0 ≤ (p0).toInt := h_2
    refine lv_if_eq (tgt := 20) hx hb dX5_at_8 (by decide) (fun _ => ?_) (fun c_ => absurd c_ (by decide))
    refine lv_null hx hb dX5_at_20 ?_
    exact W.aret (v := .null) hx hb hr (Or.inl ⟨_, rfl⟩) (Or.inl rfl) (fun t ht hW => ⟨none, rfl, rfl, ht⟩) (fun q h => by cases h) dX5_at_21

set_option maxHeartbeats 4000000 in
set_option maxRecDepth 100000 in
theorem k_X5_takeTries (l : Launch) (D : va_G) (h0 : Nat) (t1 : Nat) (t2 : Nat) (t3 : Nat) (t4 : Nat) (ml : Int32) (hc : Nat) (o1 : Nat) (p0 : Int32) : Met l yX5_takeTries wsX5_takeTries ({ frames := 0, cells := 0, slots := 0, locals := 0 }) (va_Pc [.ref h0, .ref hc, .int p0] (wo D [] [(h0, .inr (5, [.ref t1, .ref t2, .ref t3, .ref t4, .int 0, .int 0, .int 0, .int ml])), (hc, .inr (2, [.ref o1, .int 0]))])) (va_Sv (fun _ => True)) 0 0 (fun _ => False) := by
  refine Met.ofW (cc := cX5_takeTries) (maxL := 5) (ret := none) (by decide) rfl ?_
  intro p e s m args below meth c s₁ B hml hv
  obtain ⟨rfl, hP, hK, hD, hN⟩ := hv
  have hx := B.exec
  have hb := B.bytes
  have hr := B.returns
  have hts := atoms_spec (ws := wsX5_takeTries) B.pre
  have hown : s.vm.findClass RX5 = some m.cls := findClass_of_methodNamed B.named
  have hlocks := B.notSynchronized
  have hin_X2 : ∀ w ∈ u_ws RX2 TX2 2, w ∈ wsX5_takeTries := by decide +kernel
  have hl := lv_entry ([.ref h0, .ref hc, .int p0]) (n := 5) (Nat.le_of_ble_eq_true rfl)
  rw [lg_entry_eq]
  generalize (lg_sl ([.ref h0, .ref hc, .int p0]) ++ List.replicate (5 - (lg_sl ([.ref h0, .ref hc, .int p0])).length) Slot.unset).toArray = ls at hl ⊢
  have hl : lv_has ls 5 [(0, .ref h0), (1, .ref hc), (2, .int p0)] := hl
  refine lv_iconst (v := 0) hx hb dX5_takeTries_0 (by decide) ?_
  refine lv_istore_n (lv' := [(3, .int 0), (0, .ref h0), (1, .ref hc), (2, .int p0)]) hx hb dX5_takeTries_1 rfl hl (by decide) rfl (fun ls hl => ?_)
  refine lv_iload_n hx hb dX5_takeTries_2 rfl (lv_at hl 0 rfl) ?_
  refine lv_aload_n hx hb dX5_takeTries_3 rfl (lv_at hl 2 rfl) ?_
  refine va_get (D := D) (ci := 2) (v := .int 0) (C := RX2) (T := TX2) (N := 2) hx hb hts hin_X2 hown hK hP 1 rfl rfl 1 (by decide) (hts (.fieldLink RX5 74 "CryOrder$Cases" "size" "I") (by decide +kernel)) (fun _ h9 => h9) rfl dX5_takeTries_4 ?_
  refine lv_icmp_ge (tgt := 58) hx hb dX5_takeTries_7 (by decide) (fun _ => ?_) (fun c_ => absurd c_ (by decide))
  exact W.vret hx hb hr (fun t ht hW => ⟨rfl, trivial, ht⟩) (fun q h => by cases h) dX5_takeTries_58

set_option maxHeartbeats 4000000 in
set_option maxRecDepth 100000 in
theorem k_X5_fillPool (l : Launch) (D : va_G) (h0 : Nat) (t1 : Nat) (t2 : Nat) (t3 : Nat) (t4 : Nat) (ml : Int32) (hc : Nat) (o1 : Nat) : Met l yX5_fillPool wsX5_fillPool ({ frames := 0, cells := 0, slots := 0, locals := 0 }) (va_Pc [.ref h0, .ref hc] (wo D [] [(h0, .inr (5, [.ref t1, .ref t2, .ref t3, .ref t4, .int 0, .int 0, .int 0, .int ml])), (hc, .inr (2, [.ref o1, .int 0]))])) (va_Sv (fun _ => True)) 0 0 (fun _ => False) := by
  refine Met.ofW (cc := cX5_fillPool) (maxL := 3) (ret := none) (by decide) rfl ?_
  intro p e s m args below meth c s₁ B hml hv
  obtain ⟨rfl, hP, hK, hD, hN⟩ := hv
  have hx := B.exec
  have hb := B.bytes
  have hr := B.returns
  have hts := atoms_spec (ws := wsX5_fillPool) B.pre
  have hown : s.vm.findClass RX5 = some m.cls := findClass_of_methodNamed B.named
  have hlocks := B.notSynchronized
  have hin_X2 : ∀ w ∈ u_ws RX2 TX2 2, w ∈ wsX5_fillPool := by decide +kernel
  have hl := lv_entry ([.ref h0, .ref hc]) (n := 3) (Nat.le_of_ble_eq_true rfl)
  rw [lg_entry_eq]
  generalize (lg_sl ([.ref h0, .ref hc]) ++ List.replicate (3 - (lg_sl ([.ref h0, .ref hc])).length) Slot.unset).toArray = ls at hl ⊢
  have hl : lv_has ls 3 [(0, .ref h0), (1, .ref hc)] := hl
  refine lv_iconst (v := 0) hx hb dX5_fillPool_0 (by decide) ?_
  refine lv_istore_n (lv' := [(2, .int 0), (0, .ref h0), (1, .ref hc)]) hx hb dX5_fillPool_1 rfl hl (by decide) rfl (fun ls hl => ?_)
  refine lv_iload_n hx hb dX5_fillPool_2 rfl (lv_at hl 0 rfl) ?_
  refine lv_aload_n hx hb dX5_fillPool_3 rfl (lv_at hl 2 rfl) ?_
  refine va_get (D := D) (ci := 2) (v := .int 0) (C := RX2) (T := TX2) (N := 2) hx hb hts hin_X2 hown hK hP 1 rfl rfl 1 (by decide) (hts (.fieldLink RX5 74 "CryOrder$Cases" "size" "I") (by decide +kernel)) (fun _ h9 => h9) rfl dX5_fillPool_4 ?_
  refine lv_icmp_ge (tgt := 63) hx hb dX5_fillPool_7 (by decide) (fun _ => ?_) (fun c_ => absurd c_ (by decide))
  exact W.vret hx hb hr (fun t ht hW => ⟨rfl, trivial, ht⟩) (fun q h => by cases h) dX5_fillPool_63

set_option maxHeartbeats 4000000 in
set_option maxRecDepth 100000 in
theorem k_X5_takeBestOfPool (l : Launch) (D : va_G) (h0 : Nat) (t1 : Nat) (t2 : Nat) (t3 : Nat) (t4 : Nat) (ml : Int32) : Met l yX5_takeBestOfPool wsX5_takeBestOfPool ({ frames := 0, cells := 0, slots := 0, locals := 0 }) (va_Pc [.ref h0] (wo D [] [(h0, .inr (5, [.ref t1, .ref t2, .ref t3, .ref t4, .int 0, .int 0, .int 0, .int ml]))])) (va_Sv (fun _ => True)) 0 0 (fun _ => False) := by
  refine Met.ofW (cc := cX5_takeBestOfPool) (maxL := 4) (ret := none) (by decide) rfl ?_
  intro p e s m args below meth c s₁ B hml hv
  obtain ⟨rfl, hP, hK, hD, hN⟩ := hv
  have hx := B.exec
  have hb := B.bytes
  have hr := B.returns
  have hts := atoms_spec (ws := wsX5_takeBestOfPool) B.pre
  have hown : s.vm.findClass RX5 = some m.cls := findClass_of_methodNamed B.named
  have hlocks := B.notSynchronized
  have hin_X5 : ∀ w ∈ u_ws RX5 TX5 8, w ∈ wsX5_takeBestOfPool := by decide +kernel
  have hl := lv_entry ([.ref h0]) (n := 4) (Nat.le_of_ble_eq_true rfl)
  rw [lg_entry_eq]
  generalize (lg_sl ([.ref h0]) ++ List.replicate (4 - (lg_sl ([.ref h0])).length) Slot.unset).toArray = ls at hl ⊢
  have hl : lv_has ls 4 [(0, .ref h0)] := hl
  refine lv_iconst (v := 0) hx hb dX5_takeBestOfPool_0 (by decide) ?_
  refine lv_istore_n (lv' := [(1, .int 0), (0, .ref h0)]) hx hb dX5_takeBestOfPool_1 rfl hl (by decide) rfl (fun ls hl => ?_)
  refine lv_aload_n hx hb dX5_takeBestOfPool_2 rfl (lv_at hl 1 rfl) ?_
  refine va_get (D := D) (ci := 5) (v := .int ml) (C := RX5) (T := TX5) (N := 8) hx hb hts hin_X5 hown hK hP 0 rfl rfl 7 (by decide) (hts (.fieldLink RX5 46 "CryOrder$Plan" "minutesLeft" "I") (by decide +kernel)) (fun _ h9 => h9) rfl dX5_takeBestOfPool_3 ?_
  refine lv_istore_n (lv' := [(2, .int ml), (1, .int 0), (0, .ref h0)]) hx hb dX5_takeBestOfPool_6 rfl hl (by decide) rfl (fun ls hl => ?_)
  refine lv_aload_n hx hb dX5_takeBestOfPool_7 rfl (lv_at hl 2 rfl) ?_
  refine va_get (D := D) (ci := 5) (v := .int 0) (C := RX5) (T := TX5) (N := 8) hx hb hts hin_X5 hown hK hP 0 rfl rfl 5 (by decide) (hts (.fieldLink RX5 31 "CryOrder$Plan" "poolCount" "I") (by decide +kernel)) (fun _ h9 => h9) rfl dX5_takeBestOfPool_8 ?_
  refine lv_iconst (v := 1) hx hb dX5_takeBestOfPool_11 (by decide) ?_
  refine lv_isub hx hb dX5_takeBestOfPool_12 ?_
  refine lv_tope (z := (-1)) (by decide) ?_
  refine lv_istore_n (lv' := [(3, .int (-1)), (2, .int ml), (1, .int 0), (0, .ref h0)]) hx hb dX5_takeBestOfPool_13 rfl hl (by decide) rfl (fun ls hl => ?_)
  refine lv_iload_n hx hb dX5_takeBestOfPool_14 rfl (lv_at hl 0 rfl) ?_
  refine lv_if_lt (tgt := 60) hx hb dX5_takeBestOfPool_15 (by decide) (fun _ => ?_) (fun c_ => absurd c_ (by decide))
  refine lv_iconst (v := 0) hx hb dX5_takeBestOfPool_60 (by decide) ?_
  refine lv_istore_n (lv' := [(3, .int 0), (2, .int ml), (1, .int 0), (0, .ref h0)]) hx hb dX5_takeBestOfPool_61 rfl hl (by decide) rfl (fun ls hl => ?_)
  refine lv_iload_n hx hb dX5_takeBestOfPool_62 rfl (lv_at hl 0 rfl) ?_
  refine lv_aload_n hx hb dX5_takeBestOfPool_63 rfl (lv_at hl 3 rfl) ?_
  refine va_get (D := D) (ci := 5) (v := .int 0) (C := RX5) (T := TX5) (N := 8) hx hb hts hin_X5 hown hK hP 0 rfl rfl 5 (by decide) (hts (.fieldLink RX5 31 "CryOrder$Plan" "poolCount" "I") (by decide +kernel)) (fun _ h9 => h9) rfl dX5_takeBestOfPool_64 ?_
  refine lv_icmp_ge (tgt := 95) hx hb dX5_takeBestOfPool_67 (by decide) (fun _ => ?_) (fun c_ => absurd c_ (by decide))
  exact W.vret hx hb hr (fun t ht hW => ⟨rfl, trivial, ht⟩) (fun q h => by cases h) dX5_takeBestOfPool_95
