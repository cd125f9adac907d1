set_option maxHeartbeats 4000000 in
set_option maxRecDepth 100000 in
theorem c_X8_countK (l : Launch) (D : va_G) (sz : Nat) (xo : Nat) (ro : Nat) (tI : Nat) (cS : Nat) (pN : Nat) (a1 : Nat) (a2 : Nat) (a3 : Nat) (a4 : Nat) (a5 : Nat) (a6 : Nat) (a7 : Nat) (a8 : Nat) (a9 : Nat) (e1 : ClassId) (e2 : ClassId) (e3 : ClassId) (e4 : ClassId) (e5 : ClassId) (e6 : ClassId) (e7 : ClassId) (e8 : ClassId) (e9 : ClassId) (na : Int32) (ns : Int32) (nw : Int32) (cp : Int32) (le : Int32) (tr : Int32) (sl : Int32) (tz : Int32) (cz : Int32) (q1 : Int32) (q2 : Int32) (q3 : Int32) (q4 : Int32) (g1 : Nat → Option Nat) (g2 : Nat → Option Nat) (g3 : Nat → Option Nat) (g4 : Nat → Option Nat) (g5 : Nat → Option Nat) (g6 : Nat → Option Nat) (g7 : Nat → Option Nat) (y8 : Nat → Int32) (y9 : Nat → Int32) (L : List Nat) (K : Nat → Nat × Nat) (f : Nat → va_E) (S : Int) (v : Int32) (V : Nat → Nat → Int) (Y : Nat → Nat → Int) (Nd : Nat → Int → Option Nat) (hI : cqI S L K f) (hna : 0 ≤ (na).toInt ∧ (na).toInt ≤ 200) (hns : 0 ≤ (ns).toInt ∧ (ns).toInt ≤ 30) (htz : 0 ≤ (tz).toInt ∧ (tz).toInt ≤ 60) (hcz : 0 ≤ (cz).toInt ∧ (cz).toInt ≤ 200) (j1 : cqJA L K (na).toInt g1) (j2 : cqJL L K ((na).toInt.toNat) g2) (j3 : cqJ L K 6 (ns).toInt g3) (j4 : cqJ L K 4 (tz).toInt g4) (j5 : cqJ L K 1 (cz).toInt g5) (hro : cqIs L K 3 ro) (hSb : 0 ≤ S ∧ S ≤ 500000) (hj9 : jN L K (na).toInt.toNat g1) (hV : cqV f g1 (na).toInt V) (hY : cqW f g4 (tz).toInt Y) (hS9 : tS f g1 g2 V (na).toInt.toNat) (hTR : tR L K f ro Nd V (na).toInt.toNat) (hA9 : tA f g1 Nd V (na).toInt.toNat) (hM : ∀ i j : Nat, i ≤ j → (j : Int) < (na).toInt → V i 1 ≤ V j 1) (hCm : ∀ i : Nat, (i : Int) < (na).toInt → 0 ≤ V i 1 ∧ V i 1 ≤ 10000) (hwo9 : ∀ i : Nat, (i : Int) < (na).toInt → 0 ≤ V i 5 ∧ V i 5 ≤ 100) (hyo : yOK Y (na).toInt.toNat (tz).toInt.toNat) (htc : tC L K f g1 (na).toInt.toNat) (hft : (sl).toInt = 0 → kFit V Y (na).toInt.toNat (tz).toInt.toNat (le).toInt f g1 g5 (cz).toInt.toNat) : Met l yX8_count wsX8_count ({ frames := 6, cells := 0, slots := 0, locals := 128 }) (va_Pc [.ref xo, .int v] (wz sz D [(e1, .object RX0), (e2, .object RX0), (e3, .object RX6), (e4, .object RX4), (e5, .object RX1), (e6, .object RX1), (e7, .object RX1), (e8, .int), (e9, .int)] ([oC xo 8 [.ref a1, .ref a2, .ref a3, .ref ro, .ref tI, .ref cS, .ref pN, .int na, .int ns, .int nw, .int cp, .int le, .int tr, .int sl], aR a1 e1 200 (g1), aR a2 e2 40 (g2), aR a3 e3 30 (g3), oC tI 7 [.ref a4, .int tz], aR a4 e4 60 (g4), oC cS 2 [.ref a5, .int cz], aR a5 e5 200 (g5), oC pN 5 [.ref a6, .ref a7, .ref a8, .ref a9, .int q1, .int q2, .int q3, .int q4], aR a6 e6 17 (g6), aR a7 e7 12 (g7), aI a8 e8 301 (y8), aI a9 e9 301 (y9)] ++ va_pl L f))) (va_Qi (fun (r : Int32) (_ : Unit) => (r).toInt = ctX V Y (na).toInt.toNat (tz).toInt.toNat (le).toInt (nw).toInt (ns).toInt (v).toInt) (fun _ t => ∃ (f9 : Nat → va_E), ∃ (cz9 : Int32), ∃ (g59 : Nat → Option Nat), ∃ (sl9 : Int32), (wp D [] (va_A ([oC xo 8 [.ref a1, .ref a2, .ref a3, .ref ro, .ref tI, .ref cS, .ref pN, .int na, .int ns, .int nw, .int cp, .int le, .int tr, .int sl], aR a1 e1 200 (g1), aR a2 e2 40 (g2), aR a3 e3 30 (g3), oC tI 7 [.ref a4, .int tz], aR a4 e4 60 (g4), oC cS 2 [.ref a5, .int cz], aR a5 e5 200 (g5), oC pN 5 [.ref a6, .ref a7, .ref a8, .ref a9, .int q1, .int q2, .int q3, .int q4], aR a6 e6 17 (g6), aR a7 e7 12 (g7), aI a8 e8 301 (y8), aI a9 e9 301 (y9)] ++ va_pl L f) sz) ([oC xo 8 [.ref a1, .ref a2, .ref a3, .ref ro, .ref tI, .ref cS, .ref pN, .int na, .int ns, .int nw, .int cp, .int le, .int tr, .int sl9], aR a1 e1 200 (g1), aR a2 e2 40 (g2), aR a3 e3 30 (g3), oC tI 7 [.ref a4, .int tz], aR a4 e4 60 (g4), oC cS 2 [.ref a5, .int cz9], aR a5 e5 200 (g59), oC pN 5 [.ref a6, .ref a7, .ref a8, .ref a9, .int q1, .int q2, .int q3, .int q4], aR a6 e6 17 (g6), aR a7 e7 12 (g7), aI a8 e8 301 (y8), aI a9 e9 301 (y9)] ++ va_pl L f9) t ∧ (cqI (S + 200) L K f9) ∧ (0 ≤ (cz9).toInt ∧ (cz9).toInt ≤ 200) ∧ (cqJ L K 1 (cz9).toInt g59) ∧ (cqT [(0, 16), (1, 1), (1, 2), (1, 3)] L K f f9) ∧ (tC L K f9 g1 (na).toInt.toNat) ∧ ((sl9).toInt = 0 → kFit V Y (na).toInt.toNat (tz).toInt.toNat (le).toInt f9 g1 g59 (cz9).toInt.toNat))) (va_A ([oC xo 8 [.ref a1, .ref a2, .ref a3, .ref ro, .ref tI, .ref cS, .ref pN, .int na, .int ns, .int nw, .int cp, .int le, .int tr, .int sl], aR a1 e1 200 (g1), aR a2 e2 40 (g2), aR a3 e3 30 (g3), oC tI 7 [.ref a4, .int tz], aR a4 e4 60 (g4), oC cS 2 [.ref a5, .int cz], aR a5 e5 200 (g5), oC pN 5 [.ref a6, .ref a7, .ref a8, .ref a9, .int q1, .int q2, .int q3, .int q4], aR a6 e6 17 (g6), aR a7 e7 12 (g7), aI a8 e8 301 (y8), aI a9 e9 301 (y9)] ++ va_pl L f) sz)) 0 0 (va_A ([oC xo 8 [.ref a1, .ref a2, .ref a3, .ref ro, .ref tI, .ref cS, .ref pN, .int na, .int ns, .int nw, .int cp, .int le, .int tr, .int sl], aR a1 e1 200 (g1), aR a2 e2 40 (g2), aR a3 e3 30 (g3), oC tI 7 [.ref a4, .int tz], aR a4 e4 60 (g4), oC cS 2 [.ref a5, .int cz], aR a5 e5 200 (g5), oC pN 5 [.ref a6, .ref a7, .ref a8, .ref a9, .int q1, .int q2, .int q3, .int q4], aR a6 e6 17 (g6), aR a7 e7 12 (g7), aI a8 e8 301 (y8), aI a9 e9 301 (y9)] ++ va_pl L f) sz) := by
  refine Met.ofW (cc := cX8_count) (maxL := 2) (ret := (some .int)) (by decide) rfl ?_
  intro p e s m args below meth c s₁ B hml hv
  obtain ⟨rfl, hsz, hP, hK, hD0, hN⟩ := hv
  have hx := B.exec
  have hb := B.bytes
  have hr := B.returns
  have hts := atoms_spec (ws := wsX8_count) B.pre
  have hown : s.vm.findClass RX8 = some m.cls := findClass_of_methodNamed B.named
  have hlocks := B.notSynchronized
  subst hsz
  have hD := hD0.self (sz := s.heap.size)
  generalize hAe : va_A ([oC xo 8 [.ref a1, .ref a2, .ref a3, .ref ro, .ref tI, .ref cS, .ref pN, .int na, .int ns, .int nw, .int cp, .int le, .int tr, .int sl], aR a1 e1 200 (g1), aR a2 e2 40 (g2), aR a3 e3 30 (g3), oC tI 7 [.ref a4, .int tz], aR a4 e4 60 (g4), oC cS 2 [.ref a5, .int cz], aR a5 e5 200 (g5), oC pN 5 [.ref a6, .ref a7, .ref a8, .ref a9, .int q1, .int q2, .int q3, .int q4], aR a6 e6 17 (g6), aR a7 e7 12 (g7), aI a8 e8 301 (y8), aI a9 e9 301 (y9)] ++ va_pl L f) s.heap.size = A at hD ⊢
  have hA : ∀ q : Nat, s.heap.size ≤ q → A q := fun q h => by rw [← hAe]; exact Or.inr h
  have hS : va_S A s.heap s.heap [] := va_S.rf
  have hin_X2 : ∀ w ∈ u_ws RX2 TX2 2, w ∈ wsX8_count := fun w h => List.mem_cons_of_mem _ (List.mem_append_left _ (List.mem_append_left _ (List.mem_append_left _ (List.mem_append_left _ (List.mem_append_right _ (h))))))
  have hin_X3 : ∀ w ∈ u_ws RX3 TX3 8, w ∈ wsX8_count := fun w h => List.mem_cons_of_mem _ (List.mem_append_left _ (List.mem_append_left _ (List.mem_append_left _ (List.mem_append_left _ (List.mem_append_left _ (List.mem_append_right _ (h)))))))
  have hin_X7 : ∀ w ∈ u_ws RX7 TX7 2, w ∈ wsX8_count := fun w h => List.mem_cons_of_mem _ (List.mem_append_left _ (List.mem_append_left _ (List.mem_append_left _ (List.mem_append_right _ (h)))))
  have hin_X8 : ∀ w ∈ u_ws RX8 TX8 14, w ∈ wsX8_count := fun w h => List.mem_cons_of_mem _ (List.mem_append_left _ (List.mem_append_left _ (List.mem_append_left _ (List.mem_append_left _ (List.mem_append_left _ (List.mem_append_left _ (List.mem_append_right _ (h))))))))
  have hl := lv_entry ([.ref xo, .int v]) (n := 2) (Nat.le_of_ble_eq_true rfl)
  rw [lg_entry_eq]
  generalize (lg_sl ([.ref xo, .int v]) ++ List.replicate (2 - (lg_sl ([.ref xo, .int v])).length) Slot.unset).toArray = ls at hl ⊢
  have hl : lv_has ls 2 [(0, .ref xo), (1, .int v)] := hl
  have hT0 : cqT [(0, 16), (1, 1), (1, 2), (1, 3)] L K f f := cqT.rf
  have hG0 : cqG L K L K := cqG.rf
  refine lv_iload_n hx hb dX8_count_0 rfl (lv_at hl 1 rfl) ?_
  rcases (show (v).toInt = 0 ∨ (v).toInt = 1 ∨ (v).toInt = 2 ∨ (v).toInt = 3 ∨ (v).toInt = 4 ∨ (v).toInt = 5 ∨ ((v).toInt < 0 ∨ 5 < (v).toInt) by omega) with c_1 | c_1 | c_1 | c_1 | c_1 | c_1 | c_1
  · refine lv_tableIn (tgt := 40) hx hb dX8_count_1 (by omega) (by omega) (by rw [c_1]; rfl) (by decide) ?_
    refine lv_aload_n hx hb dX8_count_40 rfl (lv_at hl 0 rfl) ?_
    refine va_get (D := D) (ci := 8) (v := .int nw) (C := RX8) (T := TX8) (N := 14) hx hb hts hin_X8 hown hK hP 0 rfl rfl 9 (by decide) (hts (.fieldLink RX8 61 "CryOrder" "now" "I") (List.mem_cons_of_mem _ (List.mem_append_left _ (List.mem_append_left _ (List.mem_append_left _ (List.mem_append_left _ (List.mem_append_left _ (List.mem_append_left _ (List.mem_append_left _ (List.mem_append_left _ (List.mem_of_getElem? (i := 0) rfl))))))))))) (fun _ h9 => h9) rfl dX8_count_41 ?_
    refine W.widen (k := 0) (n := 0) (Nat.le_of_ble_eq_true rfl) (Nat.le_of_ble_eq_true rfl) ?_
    exact W.iret (v := nw) hx hb hr (fun t ht hW => ⟨⟨nw, (), rfl, (by unfold ctX; rw [if_pos (by omega)]; try omega), f, cz, g5, sl, ⟨by rw [ht]; exact hP, va_K.moved hW.alike (hK.sub (tys' := []) [] rfl), hD⟩, (hI.more (by omega)), (by first | omega | assumption | decide | (have h3 : (0 : Int32).toInt = 0 := rfl; omega) | (have h3 : (0 : Int32).toInt = 0 := rfl; have h4 : (1 : Int32).toInt = 1 := rfl; have h5 : (-1 : Int32).toInt = -1 := rfl; omega)), j5, cqT.rf, htc, hft⟩, hS.F ht⟩) hS.2.2 dX8_count_44
  · refine lv_tableIn (tgt := 45) hx hb dX8_count_1 (by omega) (by omega) (by rw [c_1]; rfl) (by decide) ?_
    refine lv_aload_n hx hb dX8_count_45 rfl (lv_at hl 0 rfl) ?_
    refine va_get (D := D) (ci := 8) (v := .int na) (C := RX8) (T := TX8) (N := 14) hx hb hts hin_X8 hown hK hP 0 rfl rfl 7 (by decide) (hts (.fieldLink RX8 79 "CryOrder" "alarmCount" "I") (List.mem_cons_of_mem _ (List.mem_append_left _ (List.mem_append_left _ (List.mem_append_left _ (List.mem_append_left _ (List.mem_append_left _ (List.mem_append_left _ (List.mem_append_left _ (List.mem_append_left _ (List.mem_of_getElem? (i := 1) rfl))))))))))) (fun _ h9 => h9) rfl dX8_count_46 ?_
    refine W.widen (k := 0) (n := 0) (Nat.le_of_ble_eq_true rfl) (Nat.le_of_ble_eq_true rfl) ?_
    exact W.iret (v := na) hx hb hr (fun t ht hW => ⟨⟨na, (), rfl, (by unfold ctX; rw [if_neg (by omega), if_pos (by omega)]; try omega), f, cz, g5, sl, ⟨by rw [ht]; exact hP, va_K.moved hW.alike (hK.sub (tys' := []) [] rfl), hD⟩, (hI.more (by omega)), (by first | omega | assumption | decide | (have h3 : (0 : Int32).toInt = 0 := rfl; omega) | (have h3 : (0 : Int32).toInt = 0 := rfl; have h4 : (1 : Int32).toInt = 1 := rfl; have h5 : (-1 : Int32).toInt = -1 := rfl; omega)), j5, cqT.rf, htc, hft⟩, hS.F ht⟩) hS.2.2 dX8_count_49
  · refine lv_tableIn (tgt := 50) hx hb dX8_count_1 (by omega) (by omega) (by rw [c_1]; rfl) (by decide) ?_
    refine lv_aload_n hx hb dX8_count_50 rfl (lv_at hl 0 rfl) ?_
    refine va_get (D := D) (ci := 8) (v := .ref ro) (C := RX8) (T := TX8) (N := 14) hx hb hts hin_X8 hown hK hP 0 rfl rfl 3 (by decide) (hts (.fieldLink RX8 29 "CryOrder" "root" "LCryOrder$Node;") (List.mem_cons_of_mem _ (List.mem_append_left _ (List.mem_append_left _ (List.mem_append_left _ (List.mem_append_left _ (List.mem_append_left _ (List.mem_append_left _ (List.mem_append_left _ (List.mem_append_left _ (List.mem_of_getElem? (i := 2) rfl))))))))))) (fun _ h9 => h9) rfl dX8_count_51 ?_
    obtain ⟨pa_2, de_2, ma_2, sb_2, fc_2, tu_2, sd_2, op_2, hf_2, hpa_2, hsb_2, hfc_2⟩ := hI.opN hro
    have F1hf_2 : cqF (f ro) 1 = (de_2).toInt := by rw [hf_2]; rfl
    have F2hf_2 : cqF (f ro) 2 = (ma_2).toInt := by rw [hf_2]; rfl
    have F5hf_2 : cqF (f ro) 5 = (tu_2).toInt := by rw [hf_2]; rfl
    have F6hf_2 : cqF (f ro) 6 = (sd_2).toInt := by rw [hf_2]; rfl
    have F7hf_2 : cqF (f ro) 7 = (op_2).toInt := by rw [hf_2]; rfl
    refine pl_get (D := D) (ci := 3) (v := .int op_2) (C := RX3) (T := TX3) (N := 8) hx hb hts hin_X3 hown hK hP hro.1 hf_2 rfl 7 (by decide) (hts (.fieldLink RX8 201 "CryOrder$Node" "open" "I") (List.mem_cons_of_mem _ (List.mem_append_left _ (List.mem_append_left _ (List.mem_append_left _ (List.mem_append_left _ (List.mem_append_left _ (List.mem_append_left _ (List.mem_append_left _ (List.mem_append_left _ (List.mem_of_getElem? (i := 3) rfl))))))))))) (fun _ h9 => h9) rfl dX8_count_54 ?_
    refine W.widen (k := 0) (n := 0) (Nat.le_of_ble_eq_true rfl) (Nat.le_of_ble_eq_true rfl) ?_
    exact W.iret (v := op_2) hx hb hr (fun t ht hW => ⟨⟨op_2, (), rfl, (by unfold ctX; rw [if_neg (by omega), if_neg (by omega), if_pos (by omega)]; have h9 := (hTR.2.1 _ _ ro hTR.1).2.2.2 7 (by decide); have h8 : cqF (f ro) 7 = (op_2).toInt := (by rw [hf_2]; rfl); exact h8.symm.trans h9), f, cz, g5, sl, ⟨by rw [ht]; exact hP, va_K.moved hW.alike (hK.sub (tys' := []) [] rfl), hD⟩, (hI.more (by omega)), (by first | omega | assumption | decide | (have h3 : (0 : Int32).toInt = 0 := rfl; omega) | (have h3 : (0 : Int32).toInt = 0 := rfl; have h4 : (1 : Int32).toInt = 1 := rfl; have h5 : (-1 : Int32).toInt = -1 := rfl; omega)), j5, cqT.rf, htc, hft⟩, hS.F ht⟩) hS.2.2 dX8_count_57
  · refine lv_tableIn (tgt := 58) hx hb dX8_count_1 (by omega) (by omega) (by rw [c_1]; rfl) (by decide) ?_
    refine lv_aload_n hx hb dX8_count_58 rfl (lv_at hl 0 rfl) ?_
    refine va_callr (wwV (mc := 0) (ms := 0) (As := []) (rest := []) ⟨hx, hb, hml, hown, hts⟩ hN hK hP hD (c_X8_casesNowK l D s.heap.size xo ro tI cS pN a1 a2 a3 a4 a5 a6 a7 a8 a9 e1 e2 e3 e4 e5 e6 e7 e8 e9 na ns nw cp le tr sl tz cz q1 q2 q3 q4 g1 g2 g3 g4 g5 g6 g7 y8 y9 L K f S V Y Nd hI (by first | omega | assumption | decide | (have h3 : (0 : Int32).toInt = 0 := rfl; omega) | (have h3 : (0 : Int32).toInt = 0 := rfl; have h4 : (1 : Int32).toInt = 1 := rfl; have h5 : (-1 : Int32).toInt = -1 := rfl; omega)) j1 (by first | omega | assumption | decide | (have h3 : (0 : Int32).toInt = 0 := rfl; omega) | (have h3 : (0 : Int32).toInt = 0 := rfl; have h4 : (1 : Int32).toInt = 1 := rfl; have h5 : (-1 : Int32).toInt = -1 := rfl; omega)) j4 (by first | omega | assumption | decide | (have h3 : (0 : Int32).toInt = 0 := rfl; omega) | (have h3 : (0 : Int32).toInt = 0 := rfl; have h4 : (1 : Int32).toInt = 1 := rfl; have h5 : (-1 : Int32).toInt = -1 := rfl; omega)) j5 (by first | omega | assumption | decide | (have h3 : (0 : Int32).toInt = 0 := rfl; omega) | (have h3 : (0 : Int32).toInt = 0 := rfl; have h4 : (1 : Int32).toInt = 1 := rfl; have h5 : (-1 : Int32).toInt = -1 := rfl; omega)) hj9 hV hY hS9 hTR hA9 hM hCm hwo9 hyo htc hft) (cwV 0 hts gX8_count_X8_casesNow rfl rfl rfl (by decide +kernel) ⟨(Nat.le_of_ble_eq_true rfl), (Nat.le_of_ble_eq_true rfl)⟩) 8 rfl ⟨0, _, rfl⟩ rfl hl.1 rfl (Nat.le_of_ble_eq_true rfl) dX8_count_59 ⟨(Nat.le_of_ble_eq_true rfl), (Nat.le_of_ble_eq_true rfl)⟩) hS (fun q _ h => wfree hD hS hA q h) (wfree hD hS hA) (fun u q_4 t H_3 locs1 ht hvm hw hB hz1 hk1 hS1 => ?_)
    obtain ⟨f_5, cz_6, g_7, sl_8, hB, h_9a, h_9b, h_9c, h_9d, h_9e, h_9f, h_9g, h_9h⟩ := hB
    obtain ⟨hP, hD⟩ := wj hB ht (wfree hD hS hA)
    have hS := hS1
    have h_9a : cqI (S + 200) L K f_5 := h_9a
    have h_9b : 0 ≤ (cz_6).toInt ∧ (cz_6).toInt ≤ 200 := h_9b
    have h_9c : cqJ L K 1 (cz_6).toInt g_7 := h_9c
    have h_9d : q_4 = cS := h_9d
    have h_9e : cqT [(0, 16), (1, 1), (1, 2), (1, 3)] L K f f_5 := h_9e
    have h_9f : tC L K f_5 g1 (na).toInt.toNat := h_9f
    have h_9g : kFit V Y (na).toInt.toNat (tz).toInt.toNat (le).toInt f_5 g1 g_7 (cz_6).toInt.toNat := h_9g
    have h_9h : (sl_8).toInt = 0 := h_9h
    have hI : cqI (S + 200) L K f_5 := h_9a
    have hT_10 := hT0.thenG hG0 (h_9e.weak (by decide))
    have hP : va_P D vwCl ([oC xo 8 [.ref a1, .ref a2, .ref a3, .ref ro, .ref tI, .ref cS, .ref pN, .int na, .int ns, .int nw, .int cp, .int le, .int tr, .int sl_8], aR a1 e1 200 (g1), aR a2 e2 40 (g2), aR a3 e3 30 (g3), oC tI 7 [.ref a4, .int tz], aR a4 e4 60 (g4), oC cS 2 [.ref a5, .int cz_6], aR a5 e5 200 (g_7), oC pN 5 [.ref a6, .ref a7, .ref a8, .ref a9, .int q1, .int q2, .int q3, .int q4], aR a6 e6 17 (g6), aR a7 e7 12 (g7), aI a8 e8 301 (y8), aI a9 e9 301 (y9)] ++ va_pl L f_5) H_3 := hP
    have hD : va_D A ([oC xo 8 [.ref a1, .ref a2, .ref a3, .ref ro, .ref tI, .ref cS, .ref pN, .int na, .int ns, .int nw, .int cp, .int le, .int tr, .int sl_8], aR a1 e1 200 (g1), aR a2 e2 40 (g2), aR a3 e3 30 (g3), oC tI 7 [.ref a4, .int tz], aR a4 e4 60 (g4), oC cS 2 [.ref a5, .int cz_6], aR a5 e5 200 (g_7), oC pN 5 [.ref a6, .ref a7, .ref a8, .ref a9, .int q1, .int q2, .int q3, .int q4], aR a6 e6 17 (g6), aR a7 e7 12 (g7), aI a8 e8 301 (y8), aI a9 e9 301 (y9)] ++ va_pl L f_5) := hD
    refine lv_topv (z := .ref cS) (congrArg Value.ref h_9d) ?_
    obtain ⟨c9, u9, eq9, lab9, cs9, cz9, oq9⟩ := kFit.full h_9g
    have hVc := hV.fr j1 h_9e (by decide)
    refine va_get (D := D) (ci := 2) (v := .int cz_6) (C := RX2) (T := TX2) (N := 2) hx hb hts hin_X2 hown hK hP 6 rfl rfl 1 (by decide) (hts (.fieldLink RX8 271 "CryOrder$Cases" "size" "I") (List.mem_cons_of_mem _ (List.mem_append_left _ (List.mem_append_left _ (List.mem_append_left _ (List.mem_append_left _ (List.mem_append_left _ (List.mem_append_left _ (List.mem_append_left _ (List.mem_append_left _ (List.mem_of_getElem? (i := 4) rfl))))))))))) (fun _ h9 => h9) rfl dX8_count_62 ?_
    refine W.widen (k := 0) (n := 0) (Nat.le_of_ble_eq_true rfl) (Nat.le_of_ble_eq_true rfl) ?_
    exact W.iret (v := cz_6) hx hb hr (fun t ht hW => ⟨⟨cz_6, (), rfl, (by unfold ctX; rw [if_neg (by omega), if_neg (by omega), if_neg (by omega), if_pos (by omega)]; try omega), f_5, cz_6, g_7, sl_8, ⟨by rw [ht]; exact hP, va_K.moved hW.alike (hK.sub (tys' := []) [] rfl), hD⟩, (hI.more (by omega)), (by first | omega | assumption | decide | (have h3 : (0 : Int32).toInt = 0 := rfl; omega) | (have h3 : (0 : Int32).toInt = 0 := rfl; have h4 : (1 : Int32).toInt = 1 := rfl; have h5 : (-1 : Int32).toInt = -1 := rfl; omega)), h_9c, h_9e, h_9f, (fun _ => h_9g)⟩, hS.F ht⟩) hS.2.2 dX8_count_65
  · refine lv_tableIn (tgt := 66) hx hb dX8_count_1 (by omega) (by omega) (by rw [c_1]; rfl) (by decide) ?_
    refine lv_aload_n hx hb dX8_count_66 rfl (lv_at hl 0 rfl) ?_
    refine va_get (D := D) (ci := 8) (v := .int ns) (C := RX8) (T := TX8) (N := 14) hx hb hts hin_X8 hown hK hP 0 rfl rfl 8 (by decide) (hts (.fieldLink RX8 116 "CryOrder" "silenceCount" "I") (List.mem_cons_of_mem _ (List.mem_append_left _ (List.mem_append_left _ (List.mem_append_left _ (List.mem_append_left _ (List.mem_append_left _ (List.mem_append_left _ (List.mem_append_left _ (List.mem_append_left _ (List.mem_of_getElem? (i := 5) rfl))))))))))) (fun _ h9 => h9) rfl dX8_count_67 ?_
    refine W.widen (k := 0) (n := 0) (Nat.le_of_ble_eq_true rfl) (Nat.le_of_ble_eq_true rfl) ?_
    exact W.iret (v := ns) hx hb hr (fun t ht hW => ⟨⟨ns, (), rfl, (by unfold ctX; rw [if_neg (by omega), if_neg (by omega), if_neg (by omega), if_neg (by omega), if_pos (by omega)]; try omega), f, cz, g5, sl, ⟨by rw [ht]; exact hP, va_K.moved hW.alike (hK.sub (tys' := []) [] rfl), hD⟩, (hI.more (by omega)), (by first | omega | assumption | decide | (have h3 : (0 : Int32).toInt = 0 := rfl; omega) | (have h3 : (0 : Int32).toInt = 0 := rfl; have h4 : (1 : Int32).toInt = 1 := rfl; have h5 : (-1 : Int32).toInt = -1 := rfl; omega)), j5, cqT.rf, htc, hft⟩, hS.F ht⟩) hS.2.2 dX8_count_70
  · refine lv_tableIn (tgt := 71) hx hb dX8_count_1 (by omega) (by omega) (by rw [c_1]; rfl) (by decide) ?_
    refine lv_aload_n hx hb dX8_count_71 rfl (lv_at hl 0 rfl) ?_
    refine va_get (D := D) (ci := 8) (v := .ref tI) (C := RX8) (T := TX8) (N := 14) hx hb hts hin_X8 hown hK hP 0 rfl rfl 4 (by decide) (hts (.fieldLink RX8 36 "CryOrder" "ties" "LCryOrder$Ties;") (List.mem_cons_of_mem _ (List.mem_append_left _ (List.mem_append_left _ (List.mem_append_left _ (List.mem_append_left _ (List.mem_append_left _ (List.mem_append_left _ (List.mem_append_left _ (List.mem_append_left _ (List.mem_of_getElem? (i := 6) rfl))))))))))) (fun _ h9 => h9) rfl dX8_count_72 ?_
    refine va_get (D := D) (ci := 7) (v := .int tz) (C := RX7) (T := TX7) (N := 2) hx hb hts hin_X7 hown hK hP 4 rfl rfl 1 (by decide) (hts (.fieldLink RX8 272 "CryOrder$Ties" "size" "I") (List.mem_cons_of_mem _ (List.mem_append_left _ (List.mem_append_left _ (List.mem_append_left _ (List.mem_append_left _ (List.mem_append_left _ (List.mem_append_left _ (List.mem_append_left _ (List.mem_append_left _ (List.mem_of_getElem? (i := 7) rfl))))))))))) (fun _ h9 => h9) rfl dX8_count_75 ?_
    refine W.widen (k := 0) (n := 0) (Nat.le_of_ble_eq_true rfl) (Nat.le_of_ble_eq_true rfl) ?_
    exact W.iret (v := tz) hx hb hr (fun t ht hW => ⟨⟨tz, (), rfl, (by unfold ctX; rw [if_neg (by omega), if_neg (by omega), if_neg (by omega), if_neg (by omega), if_neg (by omega), if_pos (by omega)]; try omega), f, cz, g5, sl, ⟨by rw [ht]; exact hP, va_K.moved hW.alike (hK.sub (tys' := []) [] rfl), hD⟩, (hI.more (by omega)), (by first | omega | assumption | decide | (have h3 : (0 : Int32).toInt = 0 := rfl; omega) | (have h3 : (0 : Int32).toInt = 0 := rfl; have h4 : (1 : Int32).toInt = 1 := rfl; have h5 : (-1 : Int32).toInt = -1 := rfl; omega)), j5, cqT.rf, htc, hft⟩, hS.F ht⟩) hS.2.2 dX8_count_78
  · refine lv_tableOut (tgt := 79) hx hb dX8_count_1 (by omega) (by decide) ?_
    refine lv_iconst (v := (-1)) hx hb dX8_count_79 (by decide) ?_
    refine W.widen (k := 0) (n := 0) (Nat.le_of_ble_eq_true rfl) (Nat.le_of_ble_eq_true rfl) ?_
    exact W.iret (v := (-1)) hx hb hr (fun t ht hW => ⟨⟨(-1), (), rfl, (by unfold ctX; rw [if_neg (by omega), if_neg (by omega), if_neg (by omega), if_neg (by omega), if_neg (by omega), if_neg (by omega)]; try rfl), f, cz, g5, sl, ⟨by rw [ht]; exact hP, va_K.moved hW.alike (hK.sub (tys' := []) [] rfl), hD⟩, (hI.more (by omega)), (by first | omega | assumption | decide | (have h3 : (0 : Int32).toInt = 0 := rfl; omega) | (have h3 : (0 : Int32).toInt = 0 := rfl; have h4 : (1 : Int32).toInt = 1 := rfl; have h5 : (-1 : Int32).toInt = -1 := rfl; omega)), j5, cqT.rf, htc, hft⟩, hS.F ht⟩) hS.2.2 dX8_count_80

set_option maxHeartbeats 4000000 in
set_option maxRecDepth 100000 in
theorem c_X0_verdictsK (l : Launch) (D : va_G) (X0 : va_W) (L : List Nat) (K : Nat → Nat × Nat) (f : Nat → va_E) (S : Int) (tys : List (ClassId × FieldType)) (a : Nat) (hI : cqI S L K f) (ha : cqIs L K 0 a) : Met l yX0_verdicts wsX0_verdicts ({ frames := 1, cells := 0, slots := 0, locals := 20 }) (va_Pc [.ref a] (wo D tys (X0 ++ va_pl L f))) (vp_Si (fun r => (r).toInt = vdI (cqF (f a) 13) (cqF (f a) 14))) 0 0 (fun _ => False) := by
  refine Met.ofW (cc := cX0_verdicts) (maxL := 1) (ret := (some .int)) (by decide) rfl ?_
  intro p e s m args below meth c s₁ B hml hv
  obtain ⟨rfl, hP, hK, hD, hN⟩ := hv
  have hx := B.exec
  have hb := B.bytes
  have hr := B.returns
  have hts := atoms_spec (ws := wsX0_verdicts) B.pre
  have hown : s.vm.findClass RX0 = some m.cls := findClass_of_methodNamed B.named
  have hlocks := B.notSynchronized
  have hin_X0 : ∀ w ∈ u_ws RX0 TX0 17, w ∈ wsX0_verdicts := fun w h => List.mem_cons_of_mem _ (List.mem_append_right _ (h))
  have hl := lv_entry ([.ref a]) (n := 1) (Nat.le_of_ble_eq_true rfl)
  rw [lg_entry_eq]
  generalize (lg_sl ([.ref a]) ++ List.replicate (1 - (lg_sl ([.ref a])).length) Slot.unset).toArray = ls at hl ⊢
  have hl : lv_has ls 1 [(0, .ref a)] := hl
  refine lv_aload_n hx hb dX0_verdicts_0 rfl (lv_at hl 0 rfl) ?_
  obtain ⟨nu_1, ca_1, so_1, th_1, ma_1, wo_1, lf_1, ld_1, si_1, cp_1, he_1, re_1, sv_1, lt_1, lF_1, sn_1, ab_1, hf_1, hnu_1, hlf_1, hld_1, hsi_1, hcp_1, hsn_1, hab_1⟩ := hI.opA ha
  have F1hf_1 : cqF (f a) 1 = (ca_1).toInt := by rw [hf_1]; rfl
  have F2hf_1 : cqF (f a) 2 = (so_1).toInt := by rw [hf_1]; rfl
  have F3hf_1 : cqF (f a) 3 = (th_1).toInt := by rw [hf_1]; rfl
  have F4hf_1 : cqF (f a) 4 = (ma_1).toInt := by rw [hf_1]; rfl
  have F5hf_1 : cqF (f a) 5 = (wo_1).toInt := by rw [hf_1]; rfl
  have F8hf_1 : cqF (f a) 8 = (si_1).toInt := by rw [hf_1]; rfl
  have F9hf_1 : cqF (f a) 9 = (cp_1).toInt := by rw [hf_1]; rfl
  have F11hf_1 : cqF (f a) 11 = (re_1).toInt := by rw [hf_1]; rfl
  have F12hf_1 : cqF (f a) 12 = (sv_1).toInt := by rw [hf_1]; rfl
  have F13hf_1 : cqF (f a) 13 = (lt_1).toInt := by rw [hf_1]; rfl
  have F14hf_1 : cqF (f a) 14 = (lF_1).toInt := by rw [hf_1]; rfl
  refine pl_get (D := D) (ci := 0) (v := .int lt_1) (C := RX0) (T := TX0) (N := 17) hx hb hts hin_X0 hown hK hP ha.1 hf_1 rfl 13 (by decide) (hts (.fieldLink RX0 66 "CryOrder$Alarm" "lookersForTrue" "I") (List.mem_cons_of_mem _ (List.mem_append_left _ (List.mem_of_getElem? (i := 0) rfl)))) (fun _ h9 => h9) rfl dX0_verdicts_1 ?_
  refine lv_aload_n hx hb dX0_verdicts_4 rfl (lv_at hl 0 rfl) ?_
  refine pl_get (D := D) (ci := 0) (v := .int lF_1) (C := RX0) (T := TX0) (N := 17) hx hb hts hin_X0 hown hK hP ha.1 hf_1 rfl 14 (by decide) (hts (.fieldLink RX0 69 "CryOrder$Alarm" "lookersForFalse" "I") (List.mem_cons_of_mem _ (List.mem_append_left _ (List.mem_of_getElem? (i := 1) rfl)))) (fun _ h9 => h9) rfl dX0_verdicts_5 ?_
  refine lv_ior hx hb dX0_verdicts_8 ?_
  refine lv_topi (fun z_2 ez_2 => ?_)
  refine vp_callSi (zrS (As := [.int z_2]) (rest := []) (wc := []) ⟨hx, hb, hml, hown, hts⟩ hN hK hP hD (c_bitCountR l D z_2 ) (va_cwS 1 hts gX0_verdicts_J6_bitCount_0f7a4 rfl rfl rfl (by decide +kernel) ⟨(Nat.le_of_ble_eq_true rfl), (Nat.le_of_ble_eq_true rfl)⟩) [] [] rfl rfl (by decide) rfl hl.1 rfl (Nat.le_of_ble_eq_true rfl) dX0_verdicts_9 ⟨(Nat.le_of_ble_eq_true rfl), (Nat.le_of_ble_eq_true rfl)⟩) (fun r_3 h_4 => ?_)
  have h_4 : (r_3).toInt = bcI (z_2).toInt := h_4
  exact W.iret (v := r_3) hx hb hr (fun t ht hW => ⟨r_3, rfl, (by refine h_4.trans ?_; rw [ez_2]; show _ = bcI (Int32.ofInt _ ||| Int32.ofInt _).toInt; rw [F13hf_1, F14hf_1, Int32.ofInt_toInt, Int32.ofInt_toInt]), ht⟩) (fun q h => by cases h) dX0_verdicts_12
