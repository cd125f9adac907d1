set_option maxHeartbeats 4000000 in
set_option maxRecDepth 100000 in
theorem m_isLiveR (l : Launch) (D : va_G) (h0 : Nat) (b1 : Nat) (b2 : Nat) (b3 : Nat) (b4 : Nat) (b5 : Nat) (b6 : Nat) (b7 : Nat) (b8 : Nat) (b9 : Nat) (b10 : Nat) (b11 : Nat) (b12 : Nat) (b13 : Nat) (b14 : Nat) (b15 : Nat) (b16 : Nat) (b17 : Nat) (b18 : Nat) (b19 : Nat) (b20 : Nat) (b21 : Nat) (b22 : Nat) (b23 : Nat) (b24 : Nat) (b25 : Nat) (now : Int32) (na : Int32) (nsi : Int32) (nti : Int32) (vc : Int32) (vn : Int32) (vt : Int32) (ct : Int32) (cs : Int32) (co : Int32) (nca : Int32) (ntm : Int32) (d8 : ClassId) (d11 : ClassId) (d12 : ClassId) (f8 : Nat → Int32) (f11 : Nat → Int32) (f12 : Nat → Int32) (p0 : Int32) (hp0 : 0 ≤ (p0).toInt ∧ (p0).toInt < 200) : Met l yX9_isLive wsX9_isLive ({ frames := 0, cells := 0, slots := 0, locals := 0 }) (va_Pc [.ref h0, .int p0] (wo D [(d8, .int), (d11, .boolean), (d12, .boolean)] [oC h0 9 [.int now, .int na, .int nsi, .int nti, .int vc, .int vn, .int vt, .ref b1, .ref b2, .ref b3, .ref b4, .ref b5, .ref b6, .ref b7, .ref b8, .ref b9, .ref b10, .ref b11, .ref b12, .ref b13, .ref b14, .ref b15, .ref b16, .ref b17, .ref b18, .int ct, .int cs, .int co, .ref b19, .ref b20, .ref b21, .int nca, .ref b22, .ref b23, .int ntm, .ref b24, .ref b25], aI b8 d8 200 (f8), aI b11 d11 200 (f11), aI b12 d12 200 (f12)])) (vp_Si (fun r => (((f8 (p0).toNatClampNeg).toInt = 0 ∧ (f11 (p0).toNatClampNeg).toInt = 0 ∧ (f12 (p0).toNatClampNeg).toInt = 0) ∧ r = 1) ∨ ((¬ ((f8 (p0).toNatClampNeg).toInt = 0 ∧ (f11 (p0).toNatClampNeg).toInt = 0 ∧ (f12 (p0).toNatClampNeg).toInt = 0)) ∧ r = 0))) 0 0 (fun _ => False) := by
  refine Met.ofW (cc := cX9_isLive) (maxL := 2) (ret := (some .boolean)) (by decide) rfl ?_
  intro p e s m args below meth c s₁ B hml hv
  obtain ⟨rfl, hP, hK, hD, hN⟩ := hv
  have hx := B.exec
  have hb := B.bytes
  have hr := B.returns
  have hts := atoms_spec (ws := wsX9_isLive) B.pre
  have hown : s.vm.findClass RX9 = some m.cls := findClass_of_methodNamed B.named
  have hlocks := B.notSynchronized
  have hin_X9 : ∀ w ∈ u_ws RX9 TX9 37, w ∈ wsX9_isLive := fun w h => List.mem_cons_of_mem _ (List.mem_append_right _ (h))
  have hl := lv_entry ([.ref h0, .int p0]) (n := 2) (Nat.le_of_ble_eq_true rfl)
  rw [lg_entry_eq]
  generalize (lg_sl ([.ref h0, .int p0]) ++ List.replicate (2 - (lg_sl ([.ref h0, .int p0])).length) Slot.unset).toArray = ls at hl ⊢
  have hl : lv_has ls 2 [(0, .ref h0), (1, .int p0)] := hl
  refine lv_aload_n hx hb dX9_isLive_0 rfl (lv_at hl 0 rfl) ?_
  refine va_get (D := D) (ci := 9) (v := .ref b8) (C := RX9) (T := TX9) (N := 37) hx hb hts hin_X9 hown hK hP 0 rfl rfl 14 (by decide) (hts (.fieldLink RX9 38 "CryOrderModel" "state" "[I") (List.mem_cons_of_mem _ (List.mem_append_left _ (List.mem_of_getElem? (i := 0) rfl)))) (fun _ h9 => h9) rfl dX9_isLive_1 ?_
  refine lv_iload_n hx hb dX9_isLive_4 rfl (lv_at hl 1 rfl) ?_
  refine va_iald hx hb hK hP 1 0 rfl rfl (vp_in_iff.mpr (by omega)) dX9_isLive_5 ?_
  refine lv_topi (fun z_1 ez_1 => ?_)
  have vz_1 : (z_1).toInt = (f8 (p0).toNatClampNeg).toInt := by rw [ez_1]
  refine bz_ne (zx := (z_1).toInt) (tgt := 31) hx hb dX9_isLive_6 (by decide) rfl (fun c_2 => ?_) (fun c_2 => ?_)
  · refine lv_iconst (v := 0) hx hb dX9_isLive_31 (by decide) ?_
    exact W.zret (v := 0) hx hb hr rfl (fun t ht hW => ⟨0, rfl, Or.inr ⟨by omega, rfl⟩, ht⟩) (fun q h => by cases h) dX9_isLive_32
  · refine lv_aload_n hx hb dX9_isLive_9 rfl (lv_at hl 0 rfl) ?_
    refine va_get (D := D) (ci := 9) (v := .ref b11) (C := RX9) (T := TX9) (N := 37) hx hb hts hin_X9 hown hK hP 0 rfl rfl 17 (by decide) (hts (.fieldLink RX9 47 "CryOrderModel" "isSilenced" "[Z") (List.mem_cons_of_mem _ (List.mem_append_left _ (List.mem_of_getElem? (i := 1) rfl)))) (fun _ h9 => h9) rfl dX9_isLive_10 ?_
    refine lv_iload_n hx hb dX9_isLive_13 rfl (lv_at hl 1 rfl) ?_
    refine va_zald hx hb hK hP 2 1 rfl rfl (vp_in_iff.mpr (by omega)) dX9_isLive_14 ?_
    refine lv_topi (fun z_3 ez_3 => ?_)
    have vz_3 : (z_3).toInt = (f11 (p0).toNatClampNeg).toInt := by rw [ez_3]
    refine bz_ne (zx := (z_3).toInt) (tgt := 31) hx hb dX9_isLive_15 (by decide) rfl (fun c_4 => ?_) (fun c_4 => ?_)
    · refine lv_iconst (v := 0) hx hb dX9_isLive_31 (by decide) ?_
      exact W.zret (v := 0) hx hb hr rfl (fun t ht hW => ⟨0, rfl, Or.inr ⟨by omega, rfl⟩, ht⟩) (fun q h => by cases h) dX9_isLive_32
    · refine lv_aload_n hx hb dX9_isLive_18 rfl (lv_at hl 0 rfl) ?_
      refine va_get (D := D) (ci := 9) (v := .ref b12) (C := RX9) (T := TX9) (N := 37) hx hb hts hin_X9 hown hK hP 0 rfl rfl 18 (by decide) (hts (.fieldLink RX9 51 "CryOrderModel" "isCapped" "[Z") (List.mem_cons_of_mem _ (List.mem_append_left _ (List.mem_of_getElem? (i := 2) rfl)))) (fun _ h9 => h9) rfl dX9_isLive_19 ?_
      refine lv_iload_n hx hb dX9_isLive_22 rfl (lv_at hl 1 rfl) ?_
      refine va_zald hx hb hK hP 3 2 rfl rfl (vp_in_iff.mpr (by omega)) dX9_isLive_23 ?_
      refine lv_topi (fun z_5 ez_5 => ?_)
      have vz_5 : (z_5).toInt = (f12 (p0).toNatClampNeg).toInt := by rw [ez_5]
      refine bz_ne (zx := (z_5).toInt) (tgt := 31) hx hb dX9_isLive_24 (by decide) rfl (fun c_6 => ?_) (fun c_6 => ?_)
      · refine lv_iconst (v := 0) hx hb dX9_isLive_31 (by decide) ?_
        exact W.zret (v := 0) hx hb hr rfl (fun t ht hW => ⟨0, rfl, Or.inr ⟨by omega, rfl⟩, ht⟩) (fun q h => by cases h) dX9_isLive_32
      · refine lv_iconst (v := 1) hx hb dX9_isLive_27 (by decide) ?_
        refine lv_goto (tgt := 32) hx hb dX9_isLive_28 (by decide) ?_
        exact W.zret (v := 1) hx hb hr rfl (fun t ht hW => ⟨1, rfl, Or.inl ⟨by omega, rfl⟩, ht⟩) (fun q h => by cases h) dX9_isLive_32
