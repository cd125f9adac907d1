set_option maxHeartbeats 4000000 in
set_option maxRecDepth 100000 in
theorem m_hangsK (l : Launch) (D : va_G) (h0 : Nat) (b1 : Nat) (b2 : Nat) (b3 : Nat) (b4 : Nat) (b5 : Nat) (b6 : Nat) (b7 : Nat) (b8 : Nat) (b9 : Nat) (b10 : Nat) (b11 : Nat) (b12 : Nat) (b13 : Nat) (b14 : Nat) (b15 : Nat) (b16 : Nat) (b17 : Nat) (b18 : Nat) (b19 : Nat) (b20 : Nat) (b21 : Nat) (b22 : Nat) (b23 : Nat) (b24 : Nat) (b25 : Nat) (now : Int32) (na : Int32) (nsi : Int32) (nti : Int32) (vc : Int32) (vn : Int32) (vt : Int32) (ct : Int32) (cs : Int32) (co : Int32) (nca : Int32) (ntm : Int32) (d16 : ClassId) (d17 : ClassId) (d18 : ClassId) (d4 : ClassId) (d1 : ClassId) (f16 : Nat → Int32) (f17 : Nat → Int32) (f18 : Nat → Int32) (f4 : Nat → Int32) (f1 : Nat → Int32) (p0 : Int32) (p1 : Int32) (V : Nat → Nat → Int) (Y : Nat → Nat → Int) (hna : 0 ≤ (na).toInt ∧ (na).toInt ≤ 200) (hnt : 0 ≤ (nti).toInt ∧ (nti).toInt ≤ 60) (hzb : ∀ k : Nat, f18 k = 0 ∨ f18 k = 1) (hmt : mtA f16 f17 (nti).toInt Y) (hmj : mqA f18 (nti).toInt Y 2) (hp01 : 0 ≤ (p0).toInt ∧ (p0).toInt < (p1).toInt ∧ (p1).toInt < (na).toInt) (hCb : ∀ i : Nat, (i : Int) < (na).toInt → 0 ≤ V i 1 ∧ V i 1 ≤ 10000) (hMb : ∀ i j : Nat, i ≤ j → (j : Int) < (na).toInt → V i 1 ≤ V j 1) (hA4 : mqA f4 (na).toInt V 3) (hA1 : mqA f1 (na).toInt V 1) : Met l yX9_hangs wsX9_hangs ({ frames := 1, cells := 0, slots := 0, locals := 23 }) (va_Pc [.ref h0, .int p0, .int p1] (wo D [(d16, .int), (d17, .int), (d18, .boolean), (d4, .int), (d1, .int)] [oC h0 9 [.int now, .int na, .int nsi, .int nti, .int vc, .int vn, .int vt, .ref b1, .ref b2, .ref b3, .ref b4, .ref b5, .ref b6, .ref b7, .ref b8, .ref b9, .ref b10, .ref b11, .ref b12, .ref b13, .ref b14, .ref b15, .ref b16, .ref b17, .ref b18, .int ct, .int cs, .int co, .ref b19, .ref b20, .ref b21, .int nca, .ref b22, .ref b23, .int ntm, .ref b24, .ref b25], aI b16 d16 60 (f16), aI b17 d17 60 (f17), aI b18 d18 60 (f18), aI b4 d4 200 (f4), aI b1 d1 200 (f1)])) (vp_Si (fun r => ((hgC V Y (nti).toInt.toNat (p0 : Int32).toNatClampNeg (p1 : Int32).toNatClampNeg) ∧ r = 1) ∨ ((¬ hgC V Y (nti).toInt.toNat (p0 : Int32).toNatClampNeg (p1 : Int32).toNatClampNeg) ∧ r = 0))) 0 0 (fun _ => False) := by
  refine Met.ofW (cc := cX9_hangs) (maxL := 4) (ret := (some .boolean)) (by decide) rfl ?_
  intro p e s m args below meth c s₁ B hml hv
  obtain ⟨rfl, hP, hK, hD, hN⟩ := hv
  have hx := B.exec
  have hb := B.bytes
  have hr := B.returns
  have hts := atoms_spec (ws := wsX9_hangs) B.pre
  have hown : s.vm.findClass RX9 = some m.cls := findClass_of_methodNamed B.named
  have hlocks := B.notSynchronized
  have hin_X9 : ∀ w ∈ u_ws RX9 TX9 37, w ∈ wsX9_hangs := fun w h => List.mem_cons_of_mem _ (List.mem_append_right _ (h))
  have hl := lv_entry ([.ref h0, .int p0, .int p1]) (n := 4) (Nat.le_of_ble_eq_true rfl)
  rw [lg_entry_eq]
  generalize (lg_sl ([.ref h0, .int p0, .int p1]) ++ List.replicate (4 - (lg_sl ([.ref h0, .int p0, .int p1])).length) Slot.unset).toArray = ls at hl ⊢
  have hl : lv_has ls 4 [(0, .ref h0), (1, .int p0), (2, .int p1)] := hl
  refine lv_aload_n hx hb dX9_hangs_0 rfl (lv_at hl 0 rfl) ?_
  refine lv_iload_n hx hb dX9_hangs_1 rfl (lv_at hl 1 rfl) ?_
  refine lv_iload_n hx hb dX9_hangs_2 rfl (lv_at hl 2 rfl) ?_
  refine vp_callSi (zrV (As := [.int p0, .int p1]) (rest := []) (wc := [oC h0 9 [.int now, .int na, .int nsi, .int nti, .int vc, .int vn, .int vt, .ref b1, .ref b2, .ref b3, .ref b4, .ref b5, .ref b6, .ref b7, .ref b8, .ref b9, .ref b10, .ref b11, .ref b12, .ref b13, .ref b14, .ref b15, .ref b16, .ref b17, .ref b18, .int ct, .int cs, .int co, .ref b19, .ref b20, .ref b21, .int nca, .ref b22, .ref b23, .int ntm, .ref b24, .ref b25], aI b16 d16 60 (f16), aI b17 d17 60 (f17)]) ⟨hx, hb, hml, hown, hts⟩ hN hK hP hD (m_tieOfR l D h0 b1 b2 b3 b4 b5 b6 b7 b8 b9 b10 b11 b12 b13 b14 b15 b16 b17 b18 b19 b20 b21 b22 b23 b24 b25 now na nsi nti vc vn vt ct cs co nca ntm d16 d17 ((f16)) ((f17)) p0 p1 (by first | omega | assumption | decide)) (cwV 2 hts gX9_hangs_X9_tieOf rfl rfl rfl (by decide +kernel) ⟨(Nat.le_of_ble_eq_true rfl), (Nat.le_of_ble_eq_true rfl)⟩) [0, 1] [0, 1, 2] rfl rfl (by decide) 9 0 rfl rfl rfl hl.1 rfl (Nat.le_of_ble_eq_true rfl) dX9_hangs_3 ⟨(Nat.le_of_ble_eq_true rfl), (Nat.le_of_ble_eq_true rfl)⟩) (fun r_1 h_2 => ?_)
  have h_2 : ((r_1).toInt = -1 ∨ (0 ≤ (r_1).toInt ∧ (r_1).toInt < (nti).toInt)) ∧ toS (f16) (f17) (p0).toInt (p1).toInt (nti).toInt (r_1).toInt := h_2
  refine lv_istore_n (lv' := [(3, .int r_1), (0, .ref h0), (1, .int p0), (2, .int p1)]) hx hb dX9_hangs_6 rfl hl (by decide) rfl (fun ls hl => ?_)
  have hq0 := tnc_eq (i := p0) (by omega)
  have hq1 := tnc_eq (i := p1) (by omega)
  have hmo := hMb (p0 : Int32).toNatClampNeg (p1 : Int32).toNatClampNeg (by omega) (by omega)
  refine lv_iload_n hx hb dX9_hangs_7 rfl (lv_at hl 0 rfl) ?_
  refine lv_iconst (v := (-1)) hx hb dX9_hangs_8 (by decide) ?_
  refine bi_eq (zx := (r_1).toInt) (zy := (-1)) (tgt := 19) hx hb dX9_hangs_9 (by decide) rfl (by decide) (fun c_3 => ?_) (fun c_3 => ?_)
  · refine lv_aload_n hx hb dX9_hangs_19 rfl (lv_at hl 1 rfl) ?_
    refine va_get (D := D) (ci := 9) (v := .ref b4) (C := RX9) (T := TX9) (N := 37) hx hb hts hin_X9 hown hK hP 0 rfl rfl 10 (by decide) (hts (.fieldLink RX9 26 "CryOrderModel" "thing" "[I") (List.mem_cons_of_mem _ (List.mem_append_left _ (List.mem_of_getElem? (i := 1) rfl)))) (fun _ h9 => h9) rfl dX9_hangs_20 ?_
    refine lv_iload_n hx hb dX9_hangs_23 rfl (lv_at hl 2 rfl) ?_
    refine va_iald hx hb hK hP 4 3 rfl rfl (vp_in_iff.mpr (by omega)) dX9_hangs_24 ?_
    refine lv_topi (fun z_4 ez_4 => ?_)
    have vz_4 := hA4.get ez_4 (by omega)
    refine lv_aload_n hx hb dX9_hangs_25 rfl (lv_at hl 1 rfl) ?_
    refine va_get (D := D) (ci := 9) (v := .ref b4) (C := RX9) (T := TX9) (N := 37) hx hb hts hin_X9 hown hK hP 0 rfl rfl 10 (by decide) (hts (.fieldLink RX9 26 "CryOrderModel" "thing" "[I") (List.mem_cons_of_mem _ (List.mem_append_left _ (List.mem_of_getElem? (i := 1) rfl)))) (fun _ h9 => h9) rfl dX9_hangs_26 ?_
    refine lv_iload_n hx hb dX9_hangs_29 rfl (lv_at hl 3 rfl) ?_
    refine va_iald hx hb hK hP 4 3 rfl rfl (vp_in_iff.mpr (by omega)) dX9_hangs_30 ?_
    refine lv_topi (fun z_5 ez_5 => ?_)
    have vz_5 := hA4.get ez_5 (by omega)
    refine bi_ne (zx := (z_4).toInt) (zy := (z_5).toInt) (tgt := 59) hx hb dX9_hangs_31 (by decide) rfl rfl (fun c_6 => ?_) (fun c_6 => ?_)
    · refine lv_iconst (v := 0) hx hb dX9_hangs_59 (by decide) ?_
      exact W.zret (v := 0) hx hb hr rfl (fun t ht hW => ⟨0, rfl, (by have hf9 := toS_none hmt (show toS f16 f17 (p0).toInt (p1).toInt (nti).toInt (-1) by rw [← show (r_1).toInt = -1 by omega]; exact h_2.2) (by omega); unfold hgC; rw [hq0, hq1]; exact Or.inr ⟨fun w9 => by rcases w9 with ⟨k9, e9, n9⟩ | ⟨e9, n8, n9⟩; (rw [hf9] at e9; cases e9); omega, rfl⟩), ht⟩) (fun q h => by cases h) dX9_hangs_60
    · refine lv_aload_n hx hb dX9_hangs_34 rfl (lv_at hl 1 rfl) ?_
      refine va_get (D := D) (ci := 9) (v := .ref b1) (C := RX9) (T := TX9) (N := 37) hx hb hts hin_X9 hown hK hP 0 rfl rfl 7 (by decide) (hts (.fieldLink RX9 16 "CryOrderModel" "came" "[I") (List.mem_cons_of_mem _ (List.mem_append_left _ (List.mem_of_getElem? (i := 2) rfl)))) (fun _ h9 => h9) rfl dX9_hangs_35 ?_
      refine lv_iload_n hx hb dX9_hangs_38 rfl (lv_at hl 2 rfl) ?_
      refine va_iald hx hb hK hP 5 4 rfl rfl (vp_in_iff.mpr (by omega)) dX9_hangs_39 ?_
      refine lv_topi (fun z_7 ez_7 => ?_)
      have hBz_7 := hCb (p0 : Int32).toNatClampNeg (by have h9 := tnc_eq (i := p0) (by omega); omega)
      have vz_7 := hA1.get ez_7 (by omega)
      refine lv_aload_n hx hb dX9_hangs_40 rfl (lv_at hl 1 rfl) ?_
      refine va_get (D := D) (ci := 9) (v := .ref b1) (C := RX9) (T := TX9) (N := 37) hx hb hts hin_X9 hown hK hP 0 rfl rfl 7 (by decide) (hts (.fieldLink RX9 16 "CryOrderModel" "came" "[I") (List.mem_cons_of_mem _ (List.mem_append_left _ (List.mem_of_getElem? (i := 2) rfl)))) (fun _ h9 => h9) rfl dX9_hangs_41 ?_
      refine lv_iload_n hx hb dX9_hangs_44 rfl (lv_at hl 3 rfl) ?_
      refine va_iald hx hb hK hP 5 4 rfl rfl (vp_in_iff.mpr (by omega)) dX9_hangs_45 ?_
      refine lv_topi (fun z_8 ez_8 => ?_)
      have hBz_8 := hCb (p1 : Int32).toNatClampNeg (by have h9 := tnc_eq (i := p1) (by omega); omega)
      have vz_8 := hA1.get ez_8 (by omega)
      refine lv_isub hx hb dX9_hangs_46 ?_
      refine lv_topi (fun z_9 ez_9 => ?_)
      have tz_9 := sb_toInt (zx := (z_7).toInt) (zy := (z_8).toInt) ez_9 rfl rfl
      refine va_mabs hx hb (by rw [hml]; exact hl.1.symm) hown (hts (.methodLink RX9 147 Lib.Math.abs.name) (List.mem_cons_of_mem _ (List.mem_append_left _ (List.mem_of_getElem? (i := 3) rfl)))) (hts (.static Lib.Math.abs.name) (List.mem_cons_of_mem _ (List.mem_append_left _ (List.mem_of_getElem? (i := 4) rfl)))) (hts (.initialized "java/lang/Math") (List.mem_cons_of_mem _ (List.mem_append_left _ (List.mem_of_getElem? (i := 5) rfl)))) (hts (.code Lib.Math.abs.name Lib.Math.abs.code 1 (some .int)) (List.mem_cons_of_mem _ (List.mem_append_left _ (List.mem_of_getElem? (i := 6) rfl)))) (Nat.le_of_ble_eq_true rfl) (Nat.le_of_ble_eq_true rfl) (Nat.le_of_ble_eq_true rfl) (Nat.le_of_ble_eq_true rfl) dX9_hangs_47 ?_
      refine lv_topi (fun z_10 ez_10 => ?_)
      have hab := ab_toInt ez_10 (by omega)
      refine lv_bipush (v := 20) hx hb dX9_hangs_50 (by decide) ?_
      refine bi_gt (zx := (z_10).toInt) (zy := 20) (tgt := 59) hx hb dX9_hangs_52 (by decide) rfl (by decide) (fun c_11 => ?_) (fun c_11 => ?_)
      · refine lv_iconst (v := 0) hx hb dX9_hangs_59 (by decide) ?_
        exact W.zret (v := 0) hx hb hr rfl (fun t ht hW => ⟨0, rfl, (by have hf9 := toS_none hmt (show toS f16 f17 (p0).toInt (p1).toInt (nti).toInt (-1) by rw [← show (r_1).toInt = -1 by omega]; exact h_2.2) (by omega); unfold hgC; rw [hq0, hq1]; exact Or.inr ⟨fun w9 => by rcases w9 with ⟨k9, e9, n9⟩ | ⟨e9, n8, n9⟩; (rw [hf9] at e9; cases e9); omega, rfl⟩), ht⟩) (fun q h => by cases h) dX9_hangs_60
      · refine lv_iconst (v := 1) hx hb dX9_hangs_55 (by decide) ?_
        refine lv_goto (tgt := 60) hx hb dX9_hangs_56 (by decide) ?_
        exact W.zret (v := 1) hx hb hr rfl (fun t ht hW => ⟨1, rfl, (by have hf9 := toS_none hmt (show toS f16 f17 (p0).toInt (p1).toInt (nti).toInt (-1) by rw [← show (r_1).toInt = -1 by omega]; exact h_2.2) (by omega); unfold hgC; rw [hq0, hq1]; exact Or.inl ⟨Or.inr ⟨hf9, by omega, by omega⟩, rfl⟩), ht⟩) (fun q h => by cases h) dX9_hangs_60
  · refine lv_aload_n hx hb dX9_hangs_12 rfl (lv_at hl 1 rfl) ?_
    refine va_get (D := D) (ci := 9) (v := .ref b18) (C := RX9) (T := TX9) (N := 37) hx hb hts hin_X9 hown hK hP 0 rfl rfl 24 (by decide) (hts (.fieldLink RX9 69 "CryOrderModel" "isJoined" "[Z") (List.mem_cons_of_mem _ (List.mem_append_left _ (List.mem_of_getElem? (i := 0) rfl)))) (fun _ h9 => h9) rfl dX9_hangs_13 ?_
    refine lv_iload_n hx hb dX9_hangs_16 rfl (lv_at hl 0 rfl) ?_
    refine va_zald hx hb hK hP 3 2 rfl rfl (vp_in_iff.mpr (by omega)) dX9_hangs_17 ?_
    refine lv_topi (fun z_12 ez_12 => ?_)
    exact W.zret (v := z_12) hx hb hr (nar_zb ez_12 hzb) (fun t ht hW => ⟨z_12, rfl, (by have hf9 := toS_some hmt h_2.2 (by omega); have hv9 := hmj.get ez_12 (by omega); rw [show (r_1 : Int32).toNatClampNeg = (r_1).toInt.toNat from rfl] at hv9; unfold hgC; rw [hq0, hq1]; rcases (show z_12 = 0 ∨ z_12 = 1 by rw [ez_12]; exact hzb _) with q9 | q9; (rw [q9] at hv9; exact Or.inr ⟨fun w9 => by rcases w9 with ⟨k9, e9, n9⟩ | ⟨e9, _⟩; (rw [hf9] at e9; cases e9; exact n9 hv9.symm); (rw [hf9] at e9; cases e9), q9⟩); (rw [q9] at hv9; exact Or.inl ⟨Or.inl ⟨_, hf9, fun w9 => by rw [← hv9] at w9; exact absurd w9 (by decide)⟩, q9⟩)), ht⟩) (fun q h => by cases h) dX9_hangs_18
