set_option maxHeartbeats 4000000 in
set_option maxRecDepth 100000 in
theorem c_X1_minutes2 (l : Launch) (D : va_G) (X0 : va_W) (L : List Nat) (K : Nat → Nat × Nat) (f : Nat → va_E) (S : Int) (tys : List (ClassId × FieldType)) (a : Nat) (hI : cqI S L K f) (ha : cqIs L K 1 a) (hSb : S ≤ 1000000) : Met l yX1_minutes wsX1_minutes ({ frames := 0, cells := 0, slots := 0, locals := 0 }) (va_Pc [.ref a] (wo D tys (X0 ++ va_pl L f))) (vp_Si (fun r => 5 ≤ (r).toInt ∧ (r).toInt ≤ 5 + 2 * S ∧ (r).toInt = 5 + 2 * cqZ (f a))) 0 0 (fun _ => False) := by
  refine Met.ofW (cc := cX1_minutes) (maxL := 1) (ret := (some .int)) (by decide) rfl ?_
  intro p e s m args below meth c s₁ B hml hv
  obtain ⟨rfl, hP, hK, hD, hN⟩ := hv
  have hx := B.exec
  have hb := B.bytes
  have hr := B.returns
  have hts := atoms_spec (ws := wsX1_minutes) B.pre
  have hown : s.vm.findClass RX1 = some m.cls := findClass_of_methodNamed B.named
  have hlocks := B.notSynchronized
  have hin_X1 : ∀ w ∈ u_ws RX1 TX1 4, w ∈ wsX1_minutes := by decide +kernel
  have hl := lv_entry ([.ref a]) (n := 1) (Nat.le_of_ble_eq_true rfl)
  rw [lg_entry_eq]
  generalize (lg_sl ([.ref a]) ++ List.replicate (1 - (lg_sl ([.ref a])).length) Slot.unset).toArray = ls at hl ⊢
  have hl : lv_has ls 1 [(0, .ref a)] := hl
  refine lv_iconst (v := 5) hx hb dX1_minutes_0 (by decide) ?_
  refine lv_iconst (v := 2) hx hb dX1_minutes_1 (by decide) ?_
  refine lv_aload_n hx hb dX1_minutes_2 rfl (lv_at hl 0 rfl) ?_
  obtain ⟨cn_1, sz_1, sc_1, li_1, hf_1, hs0_1, hs1_1⟩ := hI.opC ha
  refine pl_get (D := D) (ci := 1) (v := .int sz_1) (C := RX1) (T := TX1) (N := 4) hx hb hts hin_X1 hown hK hP ha.1 hf_1 rfl 1 (by decide) (hts (.fieldLink RX1 13 "CryOrder$Case" "size" "I") (by decide +kernel)) (fun _ h9 => h9) rfl dX1_minutes_3 ?_
  refine lv_imul hx hb dX1_minutes_6 ?_
  refine lv_topi (fun z_2 ez_2 => ?_)
  have tz_2 := ml_toInt (zx := 2) (zy := (sz_1).toInt) ez_2 (by decide) rfl
  refine lv_iadd hx hb dX1_minutes_7 ?_
  refine lv_topi (fun z_3 ez_3 => ?_)
  have tz_3 := ad_toInt (zx := 5) (zy := (z_2).toInt) ez_3 (by decide) rfl
  exact W.iret (v := z_3) hx hb hr (fun t ht hW => ⟨z_3, rfl, (by have h9 : cqZ (f a) = (sz_1).toInt := (by rw [hf_1]; rfl); omega), ht⟩) (fun q h => by cases h) dX1_minutes_8

set_option maxHeartbeats 4000000 in
set_option maxRecDepth 100000 in
theorem c_X5_at (l : Launch) (D : va_G) (xo : Nat) (ro : Nat) (tI : Nat) (cS : Nat) (pN : Nat) (a1 : Nat) (a2 : Nat) (a3 : Nat) (a4 : Nat) (a5 : Nat) (a6 : Nat) (a7 : Nat) (a8 : Nat) (a9 : Nat) (e1 : ClassId) (e2 : ClassId) (e3 : ClassId) (e4 : ClassId) (e5 : ClassId) (e6 : ClassId) (e7 : ClassId) (e8 : ClassId) (e9 : ClassId) (na : Int32) (ns : Int32) (nw : Int32) (cp : Int32) (le : Int32) (tr : Int32) (sl : Int32) (tz : Int32) (cz : Int32) (q1 : Int32) (q2 : Int32) (q3 : Int32) (q4 : Int32) (g1 : Nat → Option Nat) (g2 : Nat → Option Nat) (g3 : Nat → Option Nat) (g4 : Nat → Option Nat) (g5 : Nat → Option Nat) (g6 : Nat → Option Nat) (g7 : Nat → Option Nat) (y8 : Nat → Int32) (y9 : Nat → Int32) (L : List Nat) (K : Nat → Nat × Nat) (f : Nat → va_E) (S : Int) (v : Int32) (hI : cqI S L K f) (hq1 : 0 ≤ (q1).toInt ∧ (q1).toInt ≤ 17) (jq1 : cqJ L K 1 (q1).toInt g6) : Met l yX5_at wsX5_at ({ frames := 1, cells := 0, slots := 0, locals := 21 }) (va_Pc [.ref pN, .int v] (wo D [(e1, .object RX0), (e2, .object RX0), (e3, .object RX6), (e4, .object RX4), (e5, .object RX1), (e6, .object RX1), (e7, .object RX1), (e8, .int), (e9, .int)] ([(xo, .inr (8, [.ref a1, .ref a2, .ref a3, .ref ro, .ref tI, .ref cS, .ref pN, .int na, .int ns, .int nw, .int cp, .int le, .int tr, .int sl])), (a1, .inl (e1, 200, .inr (.inr (.inr (.inr (g1)))))), (a2, .inl (e2, 40, .inr (.inr (.inr (.inr (g2)))))), (a3, .inl (e3, 30, .inr (.inr (.inr (.inr (g3)))))), (tI, .inr (7, [.ref a4, .int tz])), (a4, .inl (e4, 60, .inr (.inr (.inr (.inr (g4)))))), (cS, .inr (2, [.ref a5, .int cz])), (a5, .inl (e5, 200, .inr (.inr (.inr (.inr (g5)))))), (pN, .inr (5, [.ref a6, .ref a7, .ref a8, .ref a9, .int q1, .int q2, .int q3, .int q4])), (a6, .inl (e6, 17, .inr (.inr (.inr (.inr (g6)))))), (a7, .inl (e7, 12, .inr (.inr (.inr (.inr (g7)))))), (a8, .inl (e8, 301, .inl (y8))), (a9, .inl (e9, 301, .inl (y9)))] ++ va_pl L f))) (va_Sq (fun r => cqOp L K 1 r)) 0 0 (fun _ => False) := by
  refine Met.ofW (cc := cX5_at) (maxL := 2) (ret := (some (.object "CryOrder$Case"))) (by decide) rfl ?_
  intro p e s m args below meth c s₁ B hml hv
  obtain ⟨rfl, hP, hK, hD, hN⟩ := hv
  have hx := B.exec
  have hb := B.bytes
  have hr := B.returns
  have hts := atoms_spec (ws := wsX5_at) B.pre
  have hown : s.vm.findClass RX5 = some m.cls := findClass_of_methodNamed B.named
  have hlocks := B.notSynchronized
  have hin_X5 : ∀ w ∈ u_ws RX5 TX5 8, w ∈ wsX5_at := by decide +kernel
  have hl := lv_entry ([.ref pN, .int v]) (n := 2) (Nat.le_of_ble_eq_true rfl)
  rw [lg_entry_eq]
  generalize (lg_sl ([.ref pN, .int v]) ++ List.replicate (2 - (lg_sl ([.ref pN, .int v])).length) Slot.unset).toArray = ls at hl ⊢
  have hl : lv_has ls 2 [(0, .ref pN), (1, .int v)] := hl
  refine lv_iload_n hx hb dX5_at_0 rfl (lv_at hl 1 rfl) ?_
  refine lv_aload_n hx hb dX5_at_1 rfl (lv_at hl 0 rfl) ?_
  refine va_get (D := D) (ci := 5) (v := .int q1) (C := RX5) (T := TX5) (N := 8) hx hb hts hin_X5 hown hK hP 8 rfl rfl 4 (by decide) (hts (.fieldLink RX5 27 "CryOrder$Plan" "takenCount" "I") (by decide +kernel)) (fun _ h9 => h9) rfl dX5_at_2 ?_
  refine vp_callSi (zrN (As := [.int v, .int q1]) (rest := []) (wc := []) ⟨hx, hb, hml, hown, hts⟩ hN hK hP hD (c_X8_isBelow l D v q1 ) ⟨va_cnB 2 hts gX5_at_X8_isBelow_n63 rfl rfl rfl hN.2.2.2.1 (hts (.initialized RX8) (by decide +kernel)) (by decide +kernel) ⟨(Nat.le_of_ble_eq_true rfl), (Nat.le_of_ble_eq_true rfl)⟩, (hts (.static yX8_isBelow) (by decide +kernel)), trivial⟩ [] [] rfl rfl (by decide) rfl hl.1 rfl (Nat.le_of_ble_eq_true rfl) dX5_at_5 ⟨(Nat.le_of_ble_eq_true rfl), (Nat.le_of_ble_eq_true rfl)⟩) (fun r_1 h_2 => ?_)
  rcases h_2 with ⟨h_2, rfl⟩ | ⟨h_2, rfl⟩
  · have h_2 : 0 ≤ (v).toInt ∧ (v).toInt < (q1).toInt := h_2
    refine lv_if_eq (tgt := 20) hx hb dX5_at_8 (by decide) (fun c_ => absurd c_ (by decide)) (fun _ => ?_)
    refine lv_aload_n hx hb dX5_at_11 rfl (lv_at hl 0 rfl) ?_
    refine va_get (D := D) (ci := 5) (v := .ref a6) (C := RX5) (T := TX5) (N := 8) hx hb hts hin_X5 hown hK hP 8 rfl rfl 0 (by decide) (hts (.fieldLink RX5 11 "CryOrder$Plan" "taken" "[LCryOrder$Case;") (by decide +kernel)) (fun _ h9 => h9) rfl dX5_at_12 ?_
    refine lv_iload_n hx hb dX5_at_15 rfl (lv_at hl 1 rfl) ?_
    refine va_aldq hx hb hK hP 9 5 rfl rfl (vp_in_iff.mpr (by omega)) dX5_at_16 ?_
    obtain ⟨b_3, eb_3, ib_3⟩ := cqJ.get (i := (v : Int32)) jq1 (by first | omega | decide) (by first | omega | decide)
    refine lv_topv (z := .ref b_3) (congrArg va_rf eb_3) ?_
    refine lv_goto (tgt := 21) hx hb dX5_at_17 (by decide) ?_
    exact W.aret (v := .ref b_3) hx hb hr (Or.inl ⟨_, rfl⟩) (Or.inr ⟨_, rfl⟩) (fun t ht hW => ⟨(some b_3), rfl, (cqOp.some ib_3), ht⟩) (fun q h => by cases h) dX5_at_21
  · have h_2 : (v).toInt < 0 ∨ (q1).toInt ≤ (v).toInt := h_2
    refine lv_if_eq (tgt := 20) hx hb dX5_at_8 (by decide) (fun _ => ?_) (fun c_ => absurd c_ (by decide))
    refine lv_null hx hb dX5_at_20 ?_
    exact W.aret (v := .null) hx hb hr (Or.inl ⟨_, rfl⟩) (Or.inl rfl) (fun t ht hW => ⟨none, rfl, cqOp.none, ht⟩) (fun q h => by cases h) dX5_at_21
