set_option maxHeartbeats 4000000 in
set_option maxRecDepth 100000 in
theorem c_X8_toldK (l : Launch) (D : va_G) (sz : Nat) (xo : Nat) (ro : Nat) (tI : Nat) (cS : Nat) (pN : Nat) (a1 : Nat) (a2 : Nat) (a3 : Nat) (a4 : Nat) (a5 : Nat) (a6 : Nat) (a7 : Nat) (a8 : Nat) (a9 : Nat) (e1 : ClassId) (e2 : ClassId) (e3 : ClassId) (e4 : ClassId) (e5 : ClassId) (e6 : ClassId) (e7 : ClassId) (e8 : ClassId) (e9 : ClassId) (na : Int32) (ns : Int32) (nw : Int32) (cp : Int32) (le : Int32) (tr : Int32) (sl : Int32) (tz : Int32) (cz : Int32) (q1 : Int32) (q2 : Int32) (q3 : Int32) (q4 : Int32) (g1 : Nat → Option Nat) (g2 : Nat → Option Nat) (g3 : Nat → Option Nat) (g4 : Nat → Option Nat) (g5 : Nat → Option Nat) (g6 : Nat → Option Nat) (g7 : Nat → Option Nat) (y8 : Nat → Int32) (y9 : Nat → Int32) (L : List Nat) (K : Nat → Nat × Nat) (f : Nat → va_E) (S : Int) (v : Int32) (w : Int32) (V : Nat → Nat → Int) (Y : Nat → Nat → Int) (Nd : Nat → Int → Option Nat) (hI : cqI S L K f) (hna : 0 ≤ (na).toInt ∧ (na).toInt ≤ 200) (hns : 0 ≤ (ns).toInt ∧ (ns).toInt ≤ 30) (htz : 0 ≤ (tz).toInt ∧ (tz).toInt ≤ 60) (hcz : 0 ≤ (cz).toInt ∧ (cz).toInt ≤ 200) (j1 : cqJA L K (na).toInt g1) (j2 : cqJL L K ((na).toInt.toNat) g2) (j3 : cqJ L K 6 (ns).toInt g3) (j4 : cqJ L K 4 (tz).toInt g4) (j5 : cqJ L K 1 (cz).toInt g5) (hro : cqIs L K 3 ro) (hSb : 0 ≤ S ∧ S ≤ 500000) (hj9 : jN L K (na).toInt.toNat g1) (hV : cqV f g1 (na).toInt V) (hY : cqW f g4 (tz).toInt Y) (hS9 : tS f g1 g2 V (na).toInt.toNat) (hTR : tR L K f ro Nd V (na).toInt.toNat) (hA9 : tA f g1 Nd V (na).toInt.toNat) (hM : ∀ i j : Nat, i ≤ j → (j : Int) < (na).toInt → V i 1 ≤ V j 1) (hCm : ∀ i : Nat, (i : Int) < (na).toInt → 0 ≤ V i 1 ∧ V i 1 ≤ 10000) (hwo9 : ∀ i : Nat, (i : Int) < (na).toInt → 0 ≤ V i 5 ∧ V i 5 ≤ 100) (hyo : yOK Y (na).toInt.toNat (tz).toInt.toNat) (htc : tC L K f g1 (na).toInt.toNat) (hft : (sl).toInt = 0 → kFit V Y (na).toInt.toNat (tz).toInt.toNat (le).toInt f g1 g5 (cz).toInt.toNat) : Met l yX8_told wsX8_told ({ frames := 7, cells := 0, slots := 0, locals := 149 }) (va_Pc [.ref xo, .int v, .int w] (wz sz D [(e1, .object RX0), (e2, .object RX0), (e3, .object RX6), (e4, .object RX4), (e5, .object RX1), (e6, .object RX1), (e7, .object RX1), (e8, .int), (e9, .int)] ([oC xo 8 [.ref a1, .ref a2, .ref a3, .ref ro, .ref tI, .ref cS, .ref pN, .int na, .int ns, .int nw, .int cp, .int le, .int tr, .int sl], aR a1 e1 200 (g1), aR a2 e2 40 (g2), aR a3 e3 30 (g3), oC tI 7 [.ref a4, .int tz], aR a4 e4 60 (g4), oC cS 2 [.ref a5, .int cz], aR a5 e5 200 (g5), oC pN 5 [.ref a6, .ref a7, .ref a8, .ref a9, .int q1, .int q2, .int q3, .int q4], aR a6 e6 17 (g6), aR a7 e7 12 (g7), aI a8 e8 301 (y8), aI a9 e9 301 (y9)] ++ va_pl L f))) (va_Qi (fun (r : Int32) (_ : Unit) => (r).toInt = toX V Y (na).toInt.toNat (tz).toInt.toNat (le).toInt (v).toInt (w).toInt) (fun _ t => ∃ (f9 : Nat → va_E), ∃ (cz9 : Int32), ∃ (g59 : Nat → Option Nat), ∃ (sl9 : Int32), (wp D [] (va_A ([oC xo 8 [.ref a1, .ref a2, .ref a3, .ref ro, .ref tI, .ref cS, .ref pN, .int na, .int ns, .int nw, .int cp, .int le, .int tr, .int sl], aR a1 e1 200 (g1), aR a2 e2 40 (g2), aR a3 e3 30 (g3), oC tI 7 [.ref a4, .int tz], aR a4 e4 60 (g4), oC cS 2 [.ref a5, .int cz], aR a5 e5 200 (g5), oC pN 5 [.ref a6, .ref a7, .ref a8, .ref a9, .int q1, .int q2, .int q3, .int q4], aR a6 e6 17 (g6), aR a7 e7 12 (g7), aI a8 e8 301 (y8), aI a9 e9 301 (y9)] ++ va_pl L f) sz) ([oC xo 8 [.ref a1, .ref a2, .ref a3, .ref ro, .ref tI, .ref cS, .ref pN, .int na, .int ns, .int nw, .int cp, .int le, .int tr, .int sl9], aR a1 e1 200 (g1), aR a2 e2 40 (g2), aR a3 e3 30 (g3), oC tI 7 [.ref a4, .int tz], aR a4 e4 60 (g4), oC cS 2 [.ref a5, .int cz9], aR a5 e5 200 (g59), oC pN 5 [.ref a6, .ref a7, .ref a8, .ref a9, .int q1, .int q2, .int q3, .int q4], aR a6 e6 17 (g6), aR a7 e7 12 (g7), aI a8 e8 301 (y8), aI a9 e9 301 (y9)] ++ va_pl L f9) t ∧ (cqI (S + 200) L K f9) ∧ (0 ≤ (cz9).toInt ∧ (cz9).toInt ≤ 200) ∧ (cqJ L K 1 (cz9).toInt g59) ∧ (cqT [(0, 16), (1, 1), (1, 2), (1, 3)] L K f f9) ∧ (tC L K f9 g1 (na).toInt.toNat) ∧ ((sl9).toInt = 0 → kFit V Y (na).toInt.toNat (tz).toInt.toNat (le).toInt f9 g1 g59 (cz9).toInt.toNat))) (va_A ([oC xo 8 [.ref a1, .ref a2, .ref a3, .ref ro, .ref tI, .ref cS, .ref pN, .int na, .int ns, .int nw, .int cp, .int le, .int tr, .int sl], aR a1 e1 200 (g1), aR a2 e2 40 (g2), aR a3 e3 30 (g3), oC tI 7 [.ref a4, .int tz], aR a4 e4 60 (g4), oC cS 2 [.ref a5, .int cz], aR a5 e5 200 (g5), oC pN 5 [.ref a6, .ref a7, .ref a8, .ref a9, .int q1, .int q2, .int q3, .int q4], aR a6 e6 17 (g6), aR a7 e7 12 (g7), aI a8 e8 301 (y8), aI a9 e9 301 (y9)] ++ va_pl L f) sz)) 0 0 (va_A ([oC xo 8 [.ref a1, .ref a2, .ref a3, .ref ro, .ref tI, .ref cS, .ref pN, .int na, .int ns, .int nw, .int cp, .int le, .int tr, .int sl], aR a1 e1 200 (g1), aR a2 e2 40 (g2), aR a3 e3 30 (g3), oC tI 7 [.ref a4, .int tz], aR a4 e4 60 (g4), oC cS 2 [.ref a5, .int cz], aR a5 e5 200 (g5), oC pN 5 [.ref a6, .ref a7, .ref a8, .ref a9, .int q1, .int q2, .int q3, .int q4], aR a6 e6 17 (g6), aR a7 e7 12 (g7), aI a8 e8 301 (y8), aI a9 e9 301 (y9)] ++ va_pl L f) sz) := by
  refine Met.ofW (cc := cX8_told) (maxL := 4) (ret := (some .int)) (by decide) rfl ?_
  intro p e s m args below meth c s₁ B hml hv
  obtain ⟨rfl, hsz, hP, hK, hD0, hN⟩ := hv
  have hx := B.exec
  have hb := B.bytes
  have hr := B.returns
  have hts := atoms_spec (ws := wsX8_told) B.pre
  have hown : s.vm.findClass RX8 = some m.cls := findClass_of_methodNamed B.named
  have hlocks := B.notSynchronized
  subst hsz
  have hD := hD0.self (sz := s.heap.size)
  generalize hAe : va_A ([oC xo 8 [.ref a1, .ref a2, .ref a3, .ref ro, .ref tI, .ref cS, .ref pN, .int na, .int ns, .int nw, .int cp, .int le, .int tr, .int sl], aR a1 e1 200 (g1), aR a2 e2 40 (g2), aR a3 e3 30 (g3), oC tI 7 [.ref a4, .int tz], aR a4 e4 60 (g4), oC cS 2 [.ref a5, .int cz], aR a5 e5 200 (g5), oC pN 5 [.ref a6, .ref a7, .ref a8, .ref a9, .int q1, .int q2, .int q3, .int q4], aR a6 e6 17 (g6), aR a7 e7 12 (g7), aI a8 e8 301 (y8), aI a9 e9 301 (y9)] ++ va_pl L f) s.heap.size = A at hD ⊢
  have hA : ∀ q : Nat, s.heap.size ≤ q → A q := fun q h => by rw [← hAe]; exact Or.inr h
  have hS : va_S A s.heap s.heap [] := va_S.rf
  have hin_X0 : ∀ w ∈ u_ws RX0 TX0 17, w ∈ wsX8_told := fun w h => List.mem_cons_of_mem _ (List.mem_append_left _ (List.mem_append_left _ (List.mem_append_left _ (List.mem_append_left _ (List.mem_append_left _ (List.mem_append_left _ (List.mem_append_right _ (h))))))))
  have hin_X3 : ∀ w ∈ u_ws RX3 TX3 8, w ∈ wsX8_told := fun w h => List.mem_cons_of_mem _ (List.mem_append_left _ (List.mem_append_left _ (List.mem_append_left _ (List.mem_append_left _ (List.mem_append_right _ (h))))))
  have hin_X8 : ∀ w ∈ u_ws RX8 TX8 14, w ∈ wsX8_told := fun w h => List.mem_cons_of_mem _ (List.mem_append_left _ (List.mem_append_left _ (List.mem_append_left _ (List.mem_append_left _ (List.mem_append_left _ (List.mem_append_right _ (h)))))))
  have hl := lv_entry ([.ref xo, .int v, .int w]) (n := 4) (Nat.le_of_ble_eq_true rfl)
  rw [lg_entry_eq]
  generalize (lg_sl ([.ref xo, .int v, .int w]) ++ List.replicate (4 - (lg_sl ([.ref xo, .int v, .int w])).length) Slot.unset).toArray = ls at hl ⊢
  have hl : lv_has ls 4 [(0, .ref xo), (1, .int v), (2, .int w)] := hl
  have hT0 : cqT [(0, 16), (1, 1), (1, 2), (1, 3)] L K f f := cqT.rf
  have hG0 : cqG L K L K := cqG.rf
  refine lv_aload_n hx hb dX8_told_0 rfl (lv_at hl 0 rfl) ?_
  refine lv_iload_n hx hb dX8_told_1 rfl (lv_at hl 1 rfl) ?_
  refine va_csq (wrV (As := [.int v]) (rest := []) ⟨hx, hb, hml, hown, hts⟩ hN hK hP hD (c_X8_alarmAtR l D xo ro tI cS pN a1 a2 a3 a4 a5 a6 a7 a8 a9 e1 e2 e3 e4 e5 e6 e7 e8 e9 na ns nw cp le tr sl tz cz q1 q2 q3 q4 g1 g2 g3 g4 g5 g6 g7 y8 y9 L K f S v hI (by first | omega | assumption | decide | (have h3 : (0 : Int32).toInt = 0 := rfl; omega) | (have h3 : (0 : Int32).toInt = 0 := rfl; have h4 : (1 : Int32).toInt = 1 := rfl; have h5 : (-1 : Int32).toInt = -1 := rfl; omega)) j1) (cwV 1 hts gX8_told_X8_alarmAt rfl rfl rfl (by decide +kernel) ⟨(Nat.le_of_ble_eq_true rfl), (Nat.le_of_ble_eq_true rfl)⟩) 8 rfl ⟨0, _, rfl⟩ rfl hl.1 rfl (Nat.le_of_ble_eq_true rfl) dX8_told_2 ⟨(Nat.le_of_ble_eq_true rfl), (Nat.le_of_ble_eq_true rfl)⟩) (fun r_1 h_2 => ?_)
  obtain ⟨h_2, xh_2⟩ := h_2
  have h_2 : cqOp L K 0 r_1 := h_2
  have xh_2 : atS (na).toInt (v).toInt (v).toInt.toNat g1 r_1 := xh_2
  refine q_astore_n (r := r_1) (lv' := [(3, va_rf r_1), (0, .ref xo), (1, .int v), (2, .int w)]) hx hb dX8_told_5 rfl hl (by decide) rfl (fun ls hl => ?_)
  refine q_aload_n hx hb dX8_told_6 rfl (lv_at hl 0 rfl) ?_
  rcases r_1 with _ | b_3
  · have hl : lv_has ls 4 [(3, .null), (0, .ref xo), (1, .int v), (2, .int w)] := hl
    refine lv_ifnonnullN hx hb dX8_told_7 ?_
    refine lv_iconst (v := (-1)) hx hb dX8_told_10 (by decide) ?_
    refine W.widen (k := 0) (n := 0) (Nat.le_of_ble_eq_true rfl) (Nat.le_of_ble_eq_true rfl) ?_
    exact W.iret (v := (-1)) hx hb hr (fun t ht hW => ⟨⟨(-1), (), rfl, (by have h9 := xh_2.2 rfl; unfold toX; rw [if_neg (by omega)]; rfl), f, cz, g5, sl, ⟨by rw [ht]; exact hP, va_K.moved hW.alike (hK.sub (tys' := []) [] rfl), hD⟩, (hI.more (by omega)), (by first | omega | assumption | decide | (have h3 : (0 : Int32).toInt = 0 := rfl; omega) | (have h3 : (0 : Int32).toInt = 0 := rfl; have h4 : (1 : Int32).toInt = 1 := rfl; have h5 : (-1 : Int32).toInt = -1 := rfl; omega)), j5, cqT.rf, htc, hft⟩, hS.F ht⟩) hS.2.2 dX8_told_11
  · have hl : lv_has ls 4 [(3, .ref b_3), (0, .ref xo), (1, .int v), (2, .int w)] := hl
    have is_4 := h_2 b_3 rfl
    refine lv_ifnonnull (tgt := 12) hx hb dX8_told_7 (by decide) ?_
    obtain ⟨hx9, hx8⟩ := xh_2.1 _ rfl
    have hlf0 := tA_lf hA9 hV (by omega) (by omega) hx8
    have V1 := hV _ (by omega) b_3 hx8 1 (by decide)
    have V2 := hV _ (by omega) b_3 hx8 2 (by decide)
    have V3 := hV _ (by omega) b_3 hx8 3 (by decide)
    have V4 := hV _ (by omega) b_3 hx8 4 (by decide)
    have V5 := hV _ (by omega) b_3 hx8 5 (by decide)
    have V8 := hV _ (by omega) b_3 hx8 8 (by decide)
    have V9 := hV _ (by omega) b_3 hx8 9 (by decide)
    have V11 := hV _ (by omega) b_3 hx8 11 (by decide)
    have V12 := hV _ (by omega) b_3 hx8 12 (by decide)
    have V13 := hV _ (by omega) b_3 hx8 13 (by decide)
    have V14 := hV _ (by omega) b_3 hx8 14 (by decide)
    refine lv_iload_n hx hb dX8_told_12 rfl (lv_at hl 3 rfl) ?_
    rcases (show (w).toInt = 0 ∨ (w).toInt = 1 ∨ (w).toInt = 2 ∨ (w).toInt = 3 ∨ (w).toInt = 4 ∨ (w).toInt = 5 ∨ (w).toInt = 6 ∨ (w).toInt = 7 ∨ (w).toInt = 8 ∨ (w).toInt = 9 ∨ (w).toInt = 10 ∨ (w).toInt = 11 ∨ (w).toInt = 12 ∨ ((w).toInt < 0 ∨ 12 < (w).toInt) by omega) with c_5 | c_5 | c_5 | c_5 | c_5 | c_5 | c_5 | c_5 | c_5 | c_5 | c_5 | c_5 | c_5 | c_5
    · refine lv_tableIn (tgt := 80) hx hb dX8_told_13 (by omega) (by omega) (by rw [c_5]; rfl) (by decide) ?_
      refine lv_aload_n hx hb dX8_told_80 rfl (lv_at hl 0 rfl) ?_
      obtain ⟨nu_6, ca_6, so_6, th_6, ma_6, wo_6, lf_6, ld_6, si_6, cp_6, he_6, re_6, sv_6, lt_6, lF_6, sn_6, ab_6, hf_6, hnu_6, hlf_6, hld_6, hsi_6, hcp_6, hsn_6, hab_6⟩ := hI.opA is_4
      have F1hf_6 : cqF (f b_3) 1 = (ca_6).toInt := by rw [hf_6]; rfl
      have F2hf_6 : cqF (f b_3) 2 = (so_6).toInt := by rw [hf_6]; rfl
      have F3hf_6 : cqF (f b_3) 3 = (th_6).toInt := by rw [hf_6]; rfl
      have F4hf_6 : cqF (f b_3) 4 = (ma_6).toInt := by rw [hf_6]; rfl
      have F5hf_6 : cqF (f b_3) 5 = (wo_6).toInt := by rw [hf_6]; rfl
      have F8hf_6 : cqF (f b_3) 8 = (si_6).toInt := by rw [hf_6]; rfl
      have F9hf_6 : cqF (f b_3) 9 = (cp_6).toInt := by rw [hf_6]; rfl
      have F11hf_6 : cqF (f b_3) 11 = (re_6).toInt := by rw [hf_6]; rfl
      have F12hf_6 : cqF (f b_3) 12 = (sv_6).toInt := by rw [hf_6]; rfl
      have F13hf_6 : cqF (f b_3) 13 = (lt_6).toInt := by rw [hf_6]; rfl
      have F14hf_6 : cqF (f b_3) 14 = (lF_6).toInt := by rw [hf_6]; rfl
      refine pl_get (D := D) (ci := 0) (v := .int ca_6) (C := RX0) (T := TX0) (N := 17) hx hb hts hin_X0 hown hK hP is_4.1 hf_6 rfl 1 (by decide) (hts (.fieldLink RX8 148 "CryOrder$Alarm" "came" "I") (List.mem_cons_of_mem _ (List.mem_append_left _ (List.mem_append_left _ (List.mem_append_left _ (List.mem_append_left _ (List.mem_append_left _ (List.mem_append_left _ (List.mem_append_left _ (List.mem_append_left _ (List.mem_of_getElem? (i := 0) rfl))))))))))) (fun _ h9 => h9) rfl dX8_told_81 ?_
      refine W.widen (k := 0) (n := 0) (Nat.le_of_ble_eq_true rfl) (Nat.le_of_ble_eq_true rfl) ?_
      exact W.iret (v := ca_6) hx hb hr (fun t ht hW => ⟨⟨ca_6, (), rfl, (by unfold toX; rw [if_pos (by omega), if_pos (by omega)]; try omega), f, cz, g5, sl, ⟨by rw [ht]; exact hP, va_K.moved hW.alike (hK.sub (tys' := []) [] rfl), hD⟩, (hI.more (by omega)), (by first | omega | assumption | decide | (have h3 : (0 : Int32).toInt = 0 := rfl; omega) | (have h3 : (0 : Int32).toInt = 0 := rfl; have h4 : (1 : Int32).toInt = 1 := rfl; have h5 : (-1 : Int32).toInt = -1 := rfl; omega)), j5, cqT.rf, htc, hft⟩, hS.F ht⟩) hS.2.2 dX8_told_84
    · refine lv_tableIn (tgt := 85) hx hb dX8_told_13 (by omega) (by omega) (by rw [c_5]; rfl) (by decide) ?_
      refine lv_aload_n hx hb dX8_told_85 rfl (lv_at hl 0 rfl) ?_
      obtain ⟨nu_7, ca_7, so_7, th_7, ma_7, wo_7, lf_7, ld_7, si_7, cp_7, he_7, re_7, sv_7, lt_7, lF_7, sn_7, ab_7, hf_7, hnu_7, hlf_7, hld_7, hsi_7, hcp_7, hsn_7, hab_7⟩ := hI.opA is_4
      have F1hf_7 : cqF (f b_3) 1 = (ca_7).toInt := by rw [hf_7]; rfl
      have F2hf_7 : cqF (f b_3) 2 = (so_7).toInt := by rw [hf_7]; rfl
      have F3hf_7 : cqF (f b_3) 3 = (th_7).toInt := by rw [hf_7]; rfl
      have F4hf_7 : cqF (f b_3) 4 = (ma_7).toInt := by rw [hf_7]; rfl
      have F5hf_7 : cqF (f b_3) 5 = (wo_7).toInt := by rw [hf_7]; rfl
      have F8hf_7 : cqF (f b_3) 8 = (si_7).toInt := by rw [hf_7]; rfl
      have F9hf_7 : cqF (f b_3) 9 = (cp_7).toInt := by rw [hf_7]; rfl
      have F11hf_7 : cqF (f b_3) 11 = (re_7).toInt := by rw [hf_7]; rfl
      have F12hf_7 : cqF (f b_3) 12 = (sv_7).toInt := by rw [hf_7]; rfl
      have F13hf_7 : cqF (f b_3) 13 = (lt_7).toInt := by rw [hf_7]; rfl
      have F14hf_7 : cqF (f b_3) 14 = (lF_7).toInt := by rw [hf_7]; rfl
      refine pl_get (D := D) (ci := 0) (v := .int so_7) (C := RX0) (T := TX0) (N := 17) hx hb hts hin_X0 hown hK hP is_4.1 hf_7 rfl 2 (by decide) (hts (.fieldLink RX8 151 "CryOrder$Alarm" "source" "I") (List.mem_cons_of_mem _ (List.mem_append_left _ (List.mem_append_left _ (List.mem_append_left _ (List.mem_append_left _ (List.mem_append_left _ (List.mem_append_left _ (List.mem_append_left _ (List.mem_append_left _ (List.mem_of_getElem? (i := 1) rfl))))))))))) (fun _ h9 => h9) rfl dX8_told_86 ?_
      refine W.widen (k := 0) (n := 0) (Nat.le_of_ble_eq_true rfl) (Nat.le_of_ble_eq_true rfl) ?_
      exact W.iret (v := so_7) hx hb hr (fun t ht hW => ⟨⟨so_7, (), rfl, (by unfold toX; rw [if_pos (by omega), if_neg (by omega), if_pos (by omega)]; try omega), f, cz, g5, sl, ⟨by rw [ht]; exact hP, va_K.moved hW.alike (hK.sub (tys' := []) [] rfl), hD⟩, (hI.more (by omega)), (by first | omega | assumption | decide | (have h3 : (0 : Int32).toInt = 0 := rfl; omega) | (have h3 : (0 : Int32).toInt = 0 := rfl; have h4 : (1 : Int32).toInt = 1 := rfl; have h5 : (-1 : Int32).toInt = -1 := rfl; omega)), j5, cqT.rf, htc, hft⟩, hS.F ht⟩) hS.2.2 dX8_told_89
    · refine lv_tableIn (tgt := 90) hx hb dX8_told_13 (by omega) (by omega) (by rw [c_5]; rfl) (by decide) ?_
      refine lv_aload_n hx hb dX8_told_90 rfl (lv_at hl 0 rfl) ?_
      obtain ⟨nu_8, ca_8, so_8, th_8, ma_8, wo_8, lf_8, ld_8, si_8, cp_8, he_8, re_8, sv_8, lt_8, lF_8, sn_8, ab_8, hf_8, hnu_8, hlf_8, hld_8, hsi_8, hcp_8, hsn_8, hab_8⟩ := hI.opA is_4
      have F1hf_8 : cqF (f b_3) 1 = (ca_8).toInt := by rw [hf_8]; rfl
      have F2hf_8 : cqF (f b_3) 2 = (so_8).toInt := by rw [hf_8]; rfl
      have F3hf_8 : cqF (f b_3) 3 = (th_8).toInt := by rw [hf_8]; rfl
      have F4hf_8 : cqF (f b_3) 4 = (ma_8).toInt := by rw [hf_8]; rfl
      have F5hf_8 : cqF (f b_3) 5 = (wo_8).toInt := by rw [hf_8]; rfl
      have F8hf_8 : cqF (f b_3) 8 = (si_8).toInt := by rw [hf_8]; rfl
      have F9hf_8 : cqF (f b_3) 9 = (cp_8).toInt := by rw [hf_8]; rfl
      have F11hf_8 : cqF (f b_3) 11 = (re_8).toInt := by rw [hf_8]; rfl
      have F12hf_8 : cqF (f b_3) 12 = (sv_8).toInt := by rw [hf_8]; rfl
      have F13hf_8 : cqF (f b_3) 13 = (lt_8).toInt := by rw [hf_8]; rfl
      have F14hf_8 : cqF (f b_3) 14 = (lF_8).toInt := by rw [hf_8]; rfl
      refine pl_get (D := D) (ci := 0) (v := .int th_8) (C := RX0) (T := TX0) (N := 17) hx hb hts hin_X0 hown hK hP is_4.1 hf_8 rfl 3 (by decide) (hts (.fieldLink RX8 154 "CryOrder$Alarm" "thing" "I") (List.mem_cons_of_mem _ (List.mem_append_left _ (List.mem_append_left _ (List.mem_append_left _ (List.mem_append_left _ (List.mem_append_left _ (List.mem_append_left _ (List.mem_append_left _ (List.mem_append_left _ (List.mem_of_getElem? (i := 2) rfl))))))))))) (fun _ h9 => h9) rfl dX8_told_91 ?_
      refine W.widen (k := 0) (n := 0) (Nat.le_of_ble_eq_true rfl) (Nat.le_of_ble_eq_true rfl) ?_
      exact W.iret (v := th_8) hx hb hr (fun t ht hW => ⟨⟨th_8, (), rfl, (by unfold toX; rw [if_pos (by omega), if_neg (by omega), if_neg (by omega), if_pos (by omega)]; try omega), f, cz, g5, sl, ⟨by rw [ht]; exact hP, va_K.moved hW.alike (hK.sub (tys' := []) [] rfl), hD⟩, (hI.more (by omega)), (by first | omega | assumption | decide | (have h3 : (0 : Int32).toInt = 0 := rfl; omega) | (have h3 : (0 : Int32).toInt = 0 := rfl; have h4 : (1 : Int32).toInt = 1 := rfl; have h5 : (-1 : Int32).toInt = -1 := rfl; omega)), j5, cqT.rf, htc, hft⟩, hS.F ht⟩) hS.2.2 dX8_told_94
    · refine lv_tableIn (tgt := 95) hx hb dX8_told_13 (by omega) (by omega) (by rw [c_5]; rfl) (by decide) ?_
      refine lv_aload_n hx hb dX8_told_95 rfl (lv_at hl 0 rfl) ?_
      obtain ⟨nu_9, ca_9, so_9, th_9, ma_9, wo_9, lf_9, ld_9, si_9, cp_9, he_9, re_9, sv_9, lt_9, lF_9, sn_9, ab_9, hf_9, hnu_9, hlf_9, hld_9, hsi_9, hcp_9, hsn_9, hab_9⟩ := hI.opA is_4
      have F1hf_9 : cqF (f b_3) 1 = (ca_9).toInt := by rw [hf_9]; rfl
      have F2hf_9 : cqF (f b_3) 2 = (so_9).toInt := by rw [hf_9]; rfl
      have F3hf_9 : cqF (f b_3) 3 = (th_9).toInt := by rw [hf_9]; rfl
      have F4hf_9 : cqF (f b_3) 4 = (ma_9).toInt := by rw [hf_9]; rfl
      have F5hf_9 : cqF (f b_3) 5 = (wo_9).toInt := by rw [hf_9]; rfl
      have F8hf_9 : cqF (f b_3) 8 = (si_9).toInt := by rw [hf_9]; rfl
      have F9hf_9 : cqF (f b_3) 9 = (cp_9).toInt := by rw [hf_9]; rfl
      have F11hf_9 : cqF (f b_3) 11 = (re_9).toInt := by rw [hf_9]; rfl
      have F12hf_9 : cqF (f b_3) 12 = (sv_9).toInt := by rw [hf_9]; rfl
      have F13hf_9 : cqF (f b_3) 13 = (lt_9).toInt := by rw [hf_9]; rfl
      have F14hf_9 : cqF (f b_3) 14 = (lF_9).toInt := by rw [hf_9]; rfl
      refine pl_get (D := D) (ci := 0) (v := .int ma_9) (C := RX0) (T := TX0) (N := 17) hx hb hts hin_X0 hown hK hP is_4.1 hf_9 rfl 4 (by decide) (hts (.fieldLink RX8 157 "CryOrder$Alarm" "marks" "I") (List.mem_cons_of_mem _ (List.mem_append_left _ (List.mem_append_left _ (List.mem_append_left _ (List.mem_append_left _ (List.mem_append_left _ (List.mem_append_left _ (List.mem_append_left _ (List.mem_append_left _ (List.mem_of_getElem? (i := 3) rfl))))))))))) (fun _ h9 => h9) rfl dX8_told_96 ?_
      refine W.widen (k := 0) (n := 0) (Nat.le_of_ble_eq_true rfl) (Nat.le_of_ble_eq_true rfl) ?_
      exact W.iret (v := ma_9) hx hb hr (fun t ht hW => ⟨⟨ma_9, (), rfl, (by unfold toX; rw [if_pos (by omega), if_neg (by omega), if_neg (by omega), if_neg (by omega), if_pos (by omega)]; try omega), f, cz, g5, sl, ⟨by rw [ht]; exact hP, va_K.moved hW.alike (hK.sub (tys' := []) [] rfl), hD⟩, (hI.more (by omega)), (by first | omega | assumption | decide | (have h3 : (0 : Int32).toInt = 0 := rfl; omega) | (have h3 : (0 : Int32).toInt = 0 := rfl; have h4 : (1 : Int32).toInt = 1 := rfl; have h5 : (-1 : Int32).toInt = -1 := rfl; omega)), j5, cqT.rf, htc, hft⟩, hS.F ht⟩) hS.2.2 dX8_told_99
    · refine lv_tableIn (tgt := 100) hx hb dX8_told_13 (by omega) (by omega) (by rw [c_5]; rfl) (by decide) ?_
      refine lv_aload_n hx hb dX8_told_100 rfl (lv_at hl 0 rfl) ?_
      obtain ⟨nu_10, ca_10, so_10, th_10, ma_10, wo_10, lf_10, ld_10, si_10, cp_10, he_10, re_10, sv_10, lt_10, lF_10, sn_10, ab_10, hf_10, hnu_10, hlf_10, hld_10, hsi_10, hcp_10, hsn_10, hab_10⟩ := hI.opA is_4
      have F1hf_10 : cqF (f b_3) 1 = (ca_10).toInt := by rw [hf_10]; rfl
      have F2hf_10 : cqF (f b_3) 2 = (so_10).toInt := by rw [hf_10]; rfl
      have F3hf_10 : cqF (f b_3) 3 = (th_10).toInt := by rw [hf_10]; rfl
      have F4hf_10 : cqF (f b_3) 4 = (ma_10).toInt := by rw [hf_10]; rfl
      have F5hf_10 : cqF (f b_3) 5 = (wo_10).toInt := by rw [hf_10]; rfl
      have F8hf_10 : cqF (f b_3) 8 = (si_10).toInt := by rw [hf_10]; rfl
      have F9hf_10 : cqF (f b_3) 9 = (cp_10).toInt := by rw [hf_10]; rfl
      have F11hf_10 : cqF (f b_3) 11 = (re_10).toInt := by rw [hf_10]; rfl
      have F12hf_10 : cqF (f b_3) 12 = (sv_10).toInt := by rw [hf_10]; rfl
      have F13hf_10 : cqF (f b_3) 13 = (lt_10).toInt := by rw [hf_10]; rfl
      have F14hf_10 : cqF (f b_3) 14 = (lF_10).toInt := by rw [hf_10]; rfl
      refine pl_get (D := D) (ci := 0) (v := .int wo_10) (C := RX0) (T := TX0) (N := 17) hx hb hts hin_X0 hown hK hP is_4.1 hf_10 rfl 5 (by decide) (hts (.fieldLink RX8 160 "CryOrder$Alarm" "worth" "I") (List.mem_cons_of_mem _ (List.mem_append_left _ (List.mem_append_left _ (List.mem_append_left _ (List.mem_append_left _ (List.mem_append_left _ (List.mem_append_left _ (List.mem_append_left _ (List.mem_append_left _ (List.mem_of_getElem? (i := 4) rfl))))))))))) (fun _ h9 => h9) rfl dX8_told_101 ?_
      refine W.widen (k := 0) (n := 0) (Nat.le_of_ble_eq_true rfl) (Nat.le_of_ble_eq_true rfl) ?_
      exact W.iret (v := wo_10) hx hb hr (fun t ht hW => ⟨⟨wo_10, (), rfl, (by unfold toX; rw [if_pos (by omega), if_neg (by omega), if_neg (by omega), if_neg (by omega), if_neg (by omega), if_pos (by omega)]; try omega), f, cz, g5, sl, ⟨by rw [ht]; exact hP, va_K.moved hW.alike (hK.sub (tys' := []) [] rfl), hD⟩, (hI.more (by omega)), (by first | omega | assumption | decide | (have h3 : (0 : Int32).toInt = 0 := rfl; omega) | (have h3 : (0 : Int32).toInt = 0 := rfl; have h4 : (1 : Int32).toInt = 1 := rfl; have h5 : (-1 : Int32).toInt = -1 := rfl; omega)), j5, cqT.rf, htc, hft⟩, hS.F ht⟩) hS.2.2 dX8_told_104
    · refine lv_tableIn (tgt := 105) hx hb dX8_told_13 (by omega) (by omega) (by rw [c_5]; rfl) (by decide) ?_
      refine lv_aload_n hx hb dX8_told_105 rfl (lv_at hl 0 rfl) ?_
      obtain ⟨nu_11, ca_11, so_11, th_11, ma_11, wo_11, lf_11, ld_11, si_11, cp_11, he_11, re_11, sv_11, lt_11, lF_11, sn_11, ab_11, hf_11, hnu_11, hlf_11, hld_11, hsi_11, hcp_11, hsn_11, hab_11⟩ := hI.opA is_4
      have F1hf_11 : cqF (f b_3) 1 = (ca_11).toInt := by rw [hf_11]; rfl
      have F2hf_11 : cqF (f b_3) 2 = (so_11).toInt := by rw [hf_11]; rfl
      have F3hf_11 : cqF (f b_3) 3 = (th_11).toInt := by rw [hf_11]; rfl
      have F4hf_11 : cqF (f b_3) 4 = (ma_11).toInt := by rw [hf_11]; rfl
      have F5hf_11 : cqF (f b_3) 5 = (wo_11).toInt := by rw [hf_11]; rfl
      have F8hf_11 : cqF (f b_3) 8 = (si_11).toInt := by rw [hf_11]; rfl
      have F9hf_11 : cqF (f b_3) 9 = (cp_11).toInt := by rw [hf_11]; rfl
      have F11hf_11 : cqF (f b_3) 11 = (re_11).toInt := by rw [hf_11]; rfl
      have F12hf_11 : cqF (f b_3) 12 = (sv_11).toInt := by rw [hf_11]; rfl
      have F13hf_11 : cqF (f b_3) 13 = (lt_11).toInt := by rw [hf_11]; rfl
      have F14hf_11 : cqF (f b_3) 14 = (lF_11).toInt := by rw [hf_11]; rfl
      refine pl_get (D := D) (ci := 0) (v := .int re_11) (C := RX0) (T := TX0) (N := 17) hx hb hts hin_X0 hown hK hP is_4.1 hf_11 rfl 11 (by decide) (hts (.fieldLink RX8 163 "CryOrder$Alarm" "repeats" "I") (List.mem_cons_of_mem _ (List.mem_append_left _ (List.mem_append_left _ (List.mem_append_left _ (List.mem_append_left _ (List.mem_append_left _ (List.mem_append_left _ (List.mem_append_left _ (List.mem_append_left _ (List.mem_of_getElem? (i := 5) rfl))))))))))) (fun _ h9 => h9) rfl dX8_told_106 ?_
      refine W.widen (k := 0) (n := 0) (Nat.le_of_ble_eq_true rfl) (Nat.le_of_ble_eq_true rfl) ?_
      exact W.iret (v := re_11) hx hb hr (fun t ht hW => ⟨⟨re_11, (), rfl, (by unfold toX; rw [if_pos (by omega), if_neg (by omega), if_neg (by omega), if_neg (by omega), if_neg (by omega), if_neg (by omega), if_pos (by omega)]; try omega), f, cz, g5, sl, ⟨by rw [ht]; exact hP, va_K.moved hW.alike (hK.sub (tys' := []) [] rfl), hD⟩, (hI.more (by omega)), (by first | omega | assumption | decide | (have h3 : (0 : Int32).toInt = 0 := rfl; omega) | (have h3 : (0 : Int32).toInt = 0 := rfl; have h4 : (1 : Int32).toInt = 1 := rfl; have h5 : (-1 : Int32).toInt = -1 := rfl; omega)), j5, cqT.rf, htc, hft⟩, hS.F ht⟩) hS.2.2 dX8_told_109
    · refine lv_tableIn (tgt := 110) hx hb dX8_told_13 (by omega) (by omega) (by rw [c_5]; rfl) (by decide) ?_
      refine lv_aload_n hx hb dX8_told_110 rfl (lv_at hl 0 rfl) ?_
      obtain ⟨nu_12, ca_12, so_12, th_12, ma_12, wo_12, lf_12, ld_12, si_12, cp_12, he_12, re_12, sv_12, lt_12, lF_12, sn_12, ab_12, hf_12, hnu_12, hlf_12, hld_12, hsi_12, hcp_12, hsn_12, hab_12⟩ := hI.opA is_4
      have F1hf_12 : cqF (f b_3) 1 = (ca_12).toInt := by rw [hf_12]; rfl
      have F2hf_12 : cqF (f b_3) 2 = (so_12).toInt := by rw [hf_12]; rfl
      have F3hf_12 : cqF (f b_3) 3 = (th_12).toInt := by rw [hf_12]; rfl
      have F4hf_12 : cqF (f b_3) 4 = (ma_12).toInt := by rw [hf_12]; rfl
      have F5hf_12 : cqF (f b_3) 5 = (wo_12).toInt := by rw [hf_12]; rfl
      have F8hf_12 : cqF (f b_3) 8 = (si_12).toInt := by rw [hf_12]; rfl
      have F9hf_12 : cqF (f b_3) 9 = (cp_12).toInt := by rw [hf_12]; rfl
      have F11hf_12 : cqF (f b_3) 11 = (re_12).toInt := by rw [hf_12]; rfl
      have F12hf_12 : cqF (f b_3) 12 = (sv_12).toInt := by rw [hf_12]; rfl
      have F13hf_12 : cqF (f b_3) 13 = (lt_12).toInt := by rw [hf_12]; rfl
      have F14hf_12 : cqF (f b_3) 14 = (lF_12).toInt := by rw [hf_12]; rfl
      refine pl_get (D := D) (ci := 0) (v := .int sv_12) (C := RX0) (T := TX0) (N := 17) hx hb hts hin_X0 hown hK hP is_4.1 hf_12 rfl 12 (by decide) (hts (.fieldLink RX8 166 "CryOrder$Alarm" "state" "I") (List.mem_cons_of_mem _ (List.mem_append_left _ (List.mem_append_left _ (List.mem_append_left _ (List.mem_append_left _ (List.mem_append_left _ (List.mem_append_left _ (List.mem_append_left _ (List.mem_append_left _ (List.mem_of_getElem? (i := 6) rfl))))))))))) (fun _ h9 => h9) rfl dX8_told_111 ?_
      refine W.widen (k := 0) (n := 0) (Nat.le_of_ble_eq_true rfl) (Nat.le_of_ble_eq_true rfl) ?_
      exact W.iret (v := sv_12) hx hb hr (fun t ht hW => ⟨⟨sv_12, (), rfl, (by unfold toX; rw [if_pos (by omega), if_neg (by omega), if_neg (by omega), if_neg (by omega), if_neg (by omega), if_neg (by omega), if_neg (by omega), if_pos (by omega)]; try omega), f, cz, g5, sl, ⟨by rw [ht]; exact hP, va_K.moved hW.alike (hK.sub (tys' := []) [] rfl), hD⟩, (hI.more (by omega)), (by first | omega | assumption | decide | (have h3 : (0 : Int32).toInt = 0 := rfl; omega) | (have h3 : (0 : Int32).toInt = 0 := rfl; have h4 : (1 : Int32).toInt = 1 := rfl; have h5 : (-1 : Int32).toInt = -1 := rfl; omega)), j5, cqT.rf, htc, hft⟩, hS.F ht⟩) hS.2.2 dX8_told_114
    · refine lv_tableIn (tgt := 115) hx hb dX8_told_13 (by omega) (by omega) (by rw [c_5]; rfl) (by decide) ?_
      refine lv_aload_n hx hb dX8_told_115 rfl (lv_at hl 0 rfl) ?_
      obtain ⟨nu_13, ca_13, so_13, th_13, ma_13, wo_13, lf_13, ld_13, si_13, cp_13, he_13, re_13, sv_13, lt_13, lF_13, sn_13, ab_13, hf_13, hnu_13, hlf_13, hld_13, hsi_13, hcp_13, hsn_13, hab_13⟩ := hI.opA is_4
      have F1hf_13 : cqF (f b_3) 1 = (ca_13).toInt := by rw [hf_13]; rfl
      have F2hf_13 : cqF (f b_3) 2 = (so_13).toInt := by rw [hf_13]; rfl
      have F3hf_13 : cqF (f b_3) 3 = (th_13).toInt := by rw [hf_13]; rfl
      have F4hf_13 : cqF (f b_3) 4 = (ma_13).toInt := by rw [hf_13]; rfl
      have F5hf_13 : cqF (f b_3) 5 = (wo_13).toInt := by rw [hf_13]; rfl
      have F8hf_13 : cqF (f b_3) 8 = (si_13).toInt := by rw [hf_13]; rfl
      have F9hf_13 : cqF (f b_3) 9 = (cp_13).toInt := by rw [hf_13]; rfl
      have F11hf_13 : cqF (f b_3) 11 = (re_13).toInt := by rw [hf_13]; rfl
      have F12hf_13 : cqF (f b_3) 12 = (sv_13).toInt := by rw [hf_13]; rfl
      have F13hf_13 : cqF (f b_3) 13 = (lt_13).toInt := by rw [hf_13]; rfl
      have F14hf_13 : cqF (f b_3) 14 = (lF_13).toInt := by rw [hf_13]; rfl
      refine pl_get (D := D) (ci := 0) (v := .int si_13) (C := RX0) (T := TX0) (N := 17) hx hb hts hin_X0 hown hK hP is_4.1 hf_13 rfl 8 (by decide) (hts (.fieldLink RX8 93 "CryOrder$Alarm" "silenced" "Z") (List.mem_cons_of_mem _ (List.mem_append_left _ (List.mem_append_left _ (List.mem_append_left _ (List.mem_append_left _ (List.mem_append_left _ (List.mem_append_left _ (List.mem_append_left _ (List.mem_append_left _ (List.mem_of_getElem? (i := 7) rfl))))))))))) (fun _ h9 => h9) rfl dX8_told_116 ?_
      refine vp_callSi (zrS (As := [.int si_13]) (rest := []) (wc := []) ⟨hx, hb, hml, hown, hts⟩ hN hK hP hD (c_oneIfR l D si_13 ) (va_cwS 1 hts gX8_told_X8_oneIf rfl rfl rfl (by decide +kernel) ⟨(Nat.le_of_ble_eq_true rfl), (Nat.le_of_ble_eq_true rfl)⟩) [] [] rfl rfl (by decide) rfl hl.1 rfl (Nat.le_of_ble_eq_true rfl) dX8_told_119 ⟨(Nat.le_of_ble_eq_true rfl), (Nat.le_of_ble_eq_true rfl)⟩) (fun r_14 h_15 => ?_)
      have h_15 : ((si_13).toInt = 0 ∧ (r_14).toInt = 0) ∨ (¬ (si_13).toInt = 0 ∧ (r_14).toInt = 1) := h_15
      refine W.widen (k := 0) (n := 0) (Nat.le_of_ble_eq_true rfl) (Nat.le_of_ble_eq_true rfl) ?_
      exact W.iret (v := r_14) hx hb hr (fun t ht hW => ⟨⟨r_14, (), rfl, (by unfold toX; rw [if_pos (by omega), if_neg (by omega), if_neg (by omega), if_neg (by omega), if_neg (by omega), if_neg (by omega), if_neg (by omega), if_neg (by omega), if_pos (by omega)]; split <;> omega), f, cz, g5, sl, ⟨by rw [ht]; exact hP, va_K.moved hW.alike (hK.sub (tys' := []) [] rfl), hD⟩, (hI.more (by omega)), (by first | omega | assumption | decide | (have h3 : (0 : Int32).toInt = 0 := rfl; omega) | (have h3 : (0 : Int32).toInt = 0 := rfl; have h4 : (1 : Int32).toInt = 1 := rfl; have h5 : (-1 : Int32).toInt = -1 := rfl; omega)), j5, cqT.rf, htc, hft⟩, hS.F ht⟩) hS.2.2 dX8_told_122
    · refine lv_tableIn (tgt := 123) hx hb dX8_told_13 (by omega) (by omega) (by rw [c_5]; rfl) (by decide) ?_
      refine lv_aload_n hx hb dX8_told_123 rfl (lv_at hl 0 rfl) ?_
      obtain ⟨nu_16, ca_16, so_16, th_16, ma_16, wo_16, lf_16, ld_16, si_16, cp_16, he_16, re_16, sv_16, lt_16, lF_16, sn_16, ab_16, hf_16, hnu_16, hlf_16, hld_16, hsi_16, hcp_16, hsn_16, hab_16⟩ := hI.opA is_4
      have F1hf_16 : cqF (f b_3) 1 = (ca_16).toInt := by rw [hf_16]; rfl
      have F2hf_16 : cqF (f b_3) 2 = (so_16).toInt := by rw [hf_16]; rfl
      have F3hf_16 : cqF (f b_3) 3 = (th_16).toInt := by rw [hf_16]; rfl
      have F4hf_16 : cqF (f b_3) 4 = (ma_16).toInt := by rw [hf_16]; rfl
      have F5hf_16 : cqF (f b_3) 5 = (wo_16).toInt := by rw [hf_16]; rfl
      have F8hf_16 : cqF (f b_3) 8 = (si_16).toInt := by rw [hf_16]; rfl
      have F9hf_16 : cqF (f b_3) 9 = (cp_16).toInt := by rw [hf_16]; rfl
      have F11hf_16 : cqF (f b_3) 11 = (re_16).toInt := by rw [hf_16]; rfl
      have F12hf_16 : cqF (f b_3) 12 = (sv_16).toInt := by rw [hf_16]; rfl
      have F13hf_16 : cqF (f b_3) 13 = (lt_16).toInt := by rw [hf_16]; rfl
      have F14hf_16 : cqF (f b_3) 14 = (lF_16).toInt := by rw [hf_16]; rfl
      refine pl_get (D := D) (ci := 0) (v := .int cp_16) (C := RX0) (T := TX0) (N := 17) hx hb hts hin_X0 hown hK hP is_4.1 hf_16 rfl 9 (by decide) (hts (.fieldLink RX8 100 "CryOrder$Alarm" "capped" "Z") (List.mem_cons_of_mem _ (List.mem_append_left _ (List.mem_append_left _ (List.mem_append_left _ (List.mem_append_left _ (List.mem_append_left _ (List.mem_append_left _ (List.mem_append_left _ (List.mem_append_left _ (List.mem_of_getElem? (i := 8) rfl))))))))))) (fun _ h9 => h9) rfl dX8_told_124 ?_
      refine vp_callSi (zrS (As := [.int cp_16]) (rest := []) (wc := []) ⟨hx, hb, hml, hown, hts⟩ hN hK hP hD (c_oneIfR l D cp_16 ) (va_cwS 1 hts gX8_told_X8_oneIf rfl rfl rfl (by decide +kernel) ⟨(Nat.le_of_ble_eq_true rfl), (Nat.le_of_ble_eq_true rfl)⟩) [] [] rfl rfl (by decide) rfl hl.1 rfl (Nat.le_of_ble_eq_true rfl) dX8_told_127 ⟨(Nat.le_of_ble_eq_true rfl), (Nat.le_of_ble_eq_true rfl)⟩) (fun r_17 h_18 => ?_)
      have h_18 : ((cp_16).toInt = 0 ∧ (r_17).toInt = 0) ∨ (¬ (cp_16).toInt = 0 ∧ (r_17).toInt = 1) := h_18
      refine W.widen (k := 0) (n := 0) (Nat.le_of_ble_eq_true rfl) (Nat.le_of_ble_eq_true rfl) ?_
      exact W.iret (v := r_17) hx hb hr (fun t ht hW => ⟨⟨r_17, (), rfl, (by unfold toX; rw [if_pos (by omega), if_neg (by omega), if_neg (by omega), if_neg (by omega), if_neg (by omega), if_neg (by omega), if_neg (by omega), if_neg (by omega), if_neg (by omega), if_pos (by omega)]; split <;> omega), f, cz, g5, sl, ⟨by rw [ht]; exact hP, va_K.moved hW.alike (hK.sub (tys' := []) [] rfl), hD⟩, (hI.more (by omega)), (by first | omega | assumption | decide | (have h3 : (0 : Int32).toInt = 0 := rfl; omega) | (have h3 : (0 : Int32).toInt = 0 := rfl; have h4 : (1 : Int32).toInt = 1 := rfl; have h5 : (-1 : Int32).toInt = -1 := rfl; omega)), j5, cqT.rf, htc, hft⟩, hS.F ht⟩) hS.2.2 dX8_told_130
    · refine lv_tableIn (tgt := 131) hx hb dX8_told_13 (by omega) (by omega) (by rw [c_5]; rfl) (by decide) ?_
      refine lv_aload_n hx hb dX8_told_131 rfl (lv_at hl 0 rfl) ?_
      refine lv_aload_n hx hb dX8_told_132 rfl (lv_at hl 1 rfl) ?_
      refine va_get (D := D) (ci := 8) (v := .int le) (C := RX8) (T := TX8) (N := 14) hx hb hts hin_X8 hown hK hP 0 rfl rfl 11 (by decide) (hts (.fieldLink RX8 58 "CryOrder" "leastSettled" "I") (List.mem_cons_of_mem _ (List.mem_append_left _ (List.mem_append_left _ (List.mem_append_left _ (List.mem_append_left _ (List.mem_append_left _ (List.mem_append_left _ (List.mem_append_left _ (List.mem_append_left _ (List.mem_of_getElem? (i := 9) rfl))))))))))) (fun _ h9 => h9) rfl dX8_told_133 ?_
      refine vp_callSi (wrV (As := [.int le]) (rest := []) ⟨hx, hb, hml, hown, hts⟩ hN hK hP hD (c_X0_scoreR l D [oC xo 8 [.ref a1, .ref a2, .ref a3, .ref ro, .ref tI, .ref cS, .ref pN, .int na, .int ns, .int nw, .int cp, .int le, .int tr, .int sl], aR a1 e1 200 (g1), aR a2 e2 40 (g2), aR a3 e3 30 (g3), oC tI 7 [.ref a4, .int tz], aR a4 e4 60 (g4), oC cS 2 [.ref a5, .int cz], aR a5 e5 200 (g5), oC pN 5 [.ref a6, .ref a7, .ref a8, .ref a9, .int q1, .int q2, .int q3, .int q4], aR a6 e6 17 (g6), aR a7 e7 12 (g7), aI a8 e8 301 (y8), aI a9 e9 301 (y9)] L K f S [(e1, .object RX0), (e2, .object RX0), (e3, .object RX6), (e4, .object RX4), (e5, .object RX1), (e6, .object RX1), (e7, .object RX1), (e8, .int), (e9, .int)] b_3 le ro Nd V ((na).toInt.toNat) hI is_4 hTR hlf0 (by have h9 := hwo9 (v).toInt.toNat (by omega); omega) (by omega)) (cwV 1 hts gX8_told_X0_score rfl rfl rfl (by decide +kernel) ⟨(Nat.le_of_ble_eq_true rfl), (Nat.le_of_ble_eq_true rfl)⟩) 0 rfl (cq_rcA (X := [oC xo 8 [.ref a1, .ref a2, .ref a3, .ref ro, .ref tI, .ref cS, .ref pN, .int na, .int ns, .int nw, .int cp, .int le, .int tr, .int sl], aR a1 e1 200 (g1), aR a2 e2 40 (g2), aR a3 e3 30 (g3), oC tI 7 [.ref a4, .int tz], aR a4 e4 60 (g4), oC cS 2 [.ref a5, .int cz], aR a5 e5 200 (g5), oC pN 5 [.ref a6, .ref a7, .ref a8, .ref a9, .int q1, .int q2, .int q3, .int q4], aR a6 e6 17 (g6), aR a7 e7 12 (g7), aI a8 e8 301 (y8), aI a9 e9 301 (y9)]) hI is_4) rfl hl.1 rfl (Nat.le_of_ble_eq_true rfl) dX8_told_136 ⟨(Nat.le_of_ble_eq_true rfl), (Nat.le_of_ble_eq_true rfl)⟩) (fun r_19 h_20 => ?_)
      have h_20 : (r_19).toInt = scX V (na).toInt.toNat (le).toInt (cqF (f b_3) 4) (cqF (f b_3) 5) := h_20
      refine W.widen (k := 0) (n := 0) (Nat.le_of_ble_eq_true rfl) (Nat.le_of_ble_eq_true rfl) ?_
      exact W.iret (v := r_19) hx hb hr (fun t ht hW => ⟨⟨r_19, (), rfl, (by unfold toX; rw [if_pos (by omega), if_neg (by omega), if_neg (by omega), if_neg (by omega), if_neg (by omega), if_neg (by omega), if_neg (by omega), if_neg (by omega), if_neg (by omega), if_neg (by omega), if_pos (by omega)]; refine h_20.trans ?_; rw [V4, V5]; rfl), f, cz, g5, sl, ⟨by rw [ht]; exact hP, va_K.moved hW.alike (hK.sub (tys' := []) [] rfl), hD⟩, (hI.more (by omega)), (by first | omega | assumption | decide | (have h3 : (0 : Int32).toInt = 0 := rfl; omega) | (have h3 : (0 : Int32).toInt = 0 := rfl; have h4 : (1 : Int32).toInt = 1 := rfl; have h5 : (-1 : Int32).toInt = -1 := rfl; omega)), j5, cqT.rf, htc, hft⟩, hS.F ht⟩) hS.2.2 dX8_told_139
    · refine lv_tableIn (tgt := 140) hx hb dX8_told_13 (by omega) (by omega) (by rw [c_5]; rfl) (by decide) ?_
      refine lv_aload_n hx hb dX8_told_140 rfl (lv_at hl 0 rfl) ?_
      refine lv_aload_n hx hb dX8_told_141 rfl (lv_at hl 1 rfl) ?_
      refine va_get (D := D) (ci := 8) (v := .int le) (C := RX8) (T := TX8) (N := 14) hx hb hts hin_X8 hown hK hP 0 rfl rfl 11 (by decide) (hts (.fieldLink RX8 58 "CryOrder" "leastSettled" "I") (List.mem_cons_of_mem _ (List.mem_append_left _ (List.mem_append_left _ (List.mem_append_left _ (List.mem_append_left _ (List.mem_append_left _ (List.mem_append_left _ (List.mem_append_left _ (List.mem_append_left _ (List.mem_of_getElem? (i := 9) rfl))))))))))) (fun _ h9 => h9) rfl dX8_told_142 ?_
      refine va_csq (wrV (As := [.int le]) (rest := []) ⟨hx, hb, hml, hown, hts⟩ hN hK hP hD (c_X0_nodeForR l D [oC xo 8 [.ref a1, .ref a2, .ref a3, .ref ro, .ref tI, .ref cS, .ref pN, .int na, .int ns, .int nw, .int cp, .int le, .int tr, .int sl], aR a1 e1 200 (g1), aR a2 e2 40 (g2), aR a3 e3 30 (g3), oC tI 7 [.ref a4, .int tz], aR a4 e4 60 (g4), oC cS 2 [.ref a5, .int cz], aR a5 e5 200 (g5), oC pN 5 [.ref a6, .ref a7, .ref a8, .ref a9, .int q1, .int q2, .int q3, .int q4], aR a6 e6 17 (g6), aR a7 e7 12 (g7), aI a8 e8 301 (y8), aI a9 e9 301 (y9)] L K f S [(e1, .object RX0), (e2, .object RX0), (e3, .object RX6), (e4, .object RX4), (e5, .object RX1), (e6, .object RX1), (e7, .object RX1), (e8, .int), (e9, .int)] b_3 le ro Nd V ((na).toInt.toNat) hI is_4 hTR hlf0) (cwV 1 hts gX8_told_X0_nodeFor rfl rfl rfl (by decide +kernel) ⟨(Nat.le_of_ble_eq_true rfl), (Nat.le_of_ble_eq_true rfl)⟩) 0 rfl (cq_rcA (X := [oC xo 8 [.ref a1, .ref a2, .ref a3, .ref ro, .ref tI, .ref cS, .ref pN, .int na, .int ns, .int nw, .int cp, .int le, .int tr, .int sl], aR a1 e1 200 (g1), aR a2 e2 40 (g2), aR a3 e3 30 (g3), oC tI 7 [.ref a4, .int tz], aR a4 e4 60 (g4), oC cS 2 [.ref a5, .int cz], aR a5 e5 200 (g5), oC pN 5 [.ref a6, .ref a7, .ref a8, .ref a9, .int q1, .int q2, .int q3, .int q4], aR a6 e6 17 (g6), aR a7 e7 12 (g7), aI a8 e8 301 (y8), aI a9 e9 301 (y9)]) hI is_4) rfl hl.1 rfl (Nat.le_of_ble_eq_true rfl) dX8_told_145 ⟨(Nat.le_of_ble_eq_true rfl), (Nat.le_of_ble_eq_true rfl)⟩) (fun r_21 h_22 => ?_)
      obtain ⟨b_23, rfl, is_24, h_25⟩ := h_22
      have h_25 : Nd (dpF V (na).toInt.toNat (cqF (f b_3) 4) (le).toInt 4) (pfx (dpF V (na).toInt.toNat (cqF (f b_3) 4) (le).toInt 4) (cqF (f b_3) 4)) = some b_23 := h_25
      refine lv_topv (z := .ref b_23) rfl ?_
      obtain ⟨pa_26, de_26, ma_26, sb_26, fc_26, tu_26, sd_26, op_26, hf_26, hpa_26, hsb_26, hfc_26⟩ := hI.opN is_24
      have F1hf_26 : cqF (f b_23) 1 = (de_26).toInt := by rw [hf_26]; rfl
      have F2hf_26 : cqF (f b_23) 2 = (ma_26).toInt := by rw [hf_26]; rfl
      have F5hf_26 : cqF (f b_23) 5 = (tu_26).toInt := by rw [hf_26]; rfl
      have F6hf_26 : cqF (f b_23) 6 = (sd_26).toInt := by rw [hf_26]; rfl
      have F7hf_26 : cqF (f b_23) 7 = (op_26).toInt := by rw [hf_26]; rfl
      refine pl_get (D := D) (ci := 3) (v := .int de_26) (C := RX3) (T := TX3) (N := 8) hx hb hts hin_X3 hown hK hP is_24.1 hf_26 rfl 1 (by decide) (hts (.fieldLink RX8 180 "CryOrder$Node" "depth" "I") (List.mem_cons_of_mem _ (List.mem_append_left _ (List.mem_append_left _ (List.mem_append_left _ (List.mem_append_left _ (List.mem_append_left _ (List.mem_append_left _ (List.mem_append_left _ (List.mem_append_left _ (List.mem_of_getElem? (i := 10) rfl))))))))))) (fun _ h9 => h9) rfl dX8_told_148 ?_
      refine W.widen (k := 0) (n := 0) (Nat.le_of_ble_eq_true rfl) (Nat.le_of_ble_eq_true rfl) ?_
      exact W.iret (v := de_26) hx hb hr (fun t ht hW => ⟨⟨de_26, (), rfl, (by unfold toX; rw [if_pos (by omega), if_neg (by omega), if_neg (by omega), if_neg (by omega), if_neg (by omega), if_neg (by omega), if_neg (by omega), if_neg (by omega), if_neg (by omega), if_neg (by omega), if_neg (by omega), if_pos (by omega)]; have h9 := (hTR.2.1 _ _ b_23 h_25).2.2.1; rw [V4] at h9; have h8 : cqF (f b_23) 1 = (de_26).toInt := (by rw [hf_26]; rfl); omega), f, cz, g5, sl, ⟨by rw [ht]; exact hP, va_K.moved hW.alike (hK.sub (tys' := []) [] rfl), hD⟩, (hI.more (by omega)), (by first | omega | assumption | decide | (have h3 : (0 : Int32).toInt = 0 := rfl; omega) | (have h3 : (0 : Int32).toInt = 0 := rfl; have h4 : (1 : Int32).toInt = 1 := rfl; have h5 : (-1 : Int32).toInt = -1 := rfl; omega)), j5, cqT.rf, htc, hft⟩, hS.F ht⟩) hS.2.2 dX8_told_151
    · refine lv_tableIn (tgt := 152) hx hb dX8_told_13 (by omega) (by omega) (by rw [c_5]; rfl) (by decide) ?_
      refine lv_aload_n hx hb dX8_told_152 rfl (lv_at hl 0 rfl) ?_
      refine vp_callSi (wrV (As := []) (rest := []) ⟨hx, hb, hml, hown, hts⟩ hN hK hP hD (c_X0_verdictsK l D [oC xo 8 [.ref a1, .ref a2, .ref a3, .ref ro, .ref tI, .ref cS, .ref pN, .int na, .int ns, .int nw, .int cp, .int le, .int tr, .int sl], aR a1 e1 200 (g1), aR a2 e2 40 (g2), aR a3 e3 30 (g3), oC tI 7 [.ref a4, .int tz], aR a4 e4 60 (g4), oC cS 2 [.ref a5, .int cz], aR a5 e5 200 (g5), oC pN 5 [.ref a6, .ref a7, .ref a8, .ref a9, .int q1, .int q2, .int q3, .int q4], aR a6 e6 17 (g6), aR a7 e7 12 (g7), aI a8 e8 301 (y8), aI a9 e9 301 (y9)] L K f S [(e1, .object RX0), (e2, .object RX0), (e3, .object RX6), (e4, .object RX4), (e5, .object RX1), (e6, .object RX1), (e7, .object RX1), (e8, .int), (e9, .int)] b_3 hI is_4) (cwV 0 hts gX8_told_X0_verdicts rfl rfl rfl (by decide +kernel) ⟨(Nat.le_of_ble_eq_true rfl), (Nat.le_of_ble_eq_true rfl)⟩) 0 rfl (cq_rcA (X := [oC xo 8 [.ref a1, .ref a2, .ref a3, .ref ro, .ref tI, .ref cS, .ref pN, .int na, .int ns, .int nw, .int cp, .int le, .int tr, .int sl], aR a1 e1 200 (g1), aR a2 e2 40 (g2), aR a3 e3 30 (g3), oC tI 7 [.ref a4, .int tz], aR a4 e4 60 (g4), oC cS 2 [.ref a5, .int cz], aR a5 e5 200 (g5), oC pN 5 [.ref a6, .ref a7, .ref a8, .ref a9, .int q1, .int q2, .int q3, .int q4], aR a6 e6 17 (g6), aR a7 e7 12 (g7), aI a8 e8 301 (y8), aI a9 e9 301 (y9)]) hI is_4) rfl hl.1 rfl (Nat.le_of_ble_eq_true rfl) dX8_told_153 ⟨(Nat.le_of_ble_eq_true rfl), (Nat.le_of_ble_eq_true rfl)⟩) (fun r_27 h_28 => ?_)
      have h_28 : (r_27).toInt = vdI (cqF (f b_3) 13) (cqF (f b_3) 14) := h_28
      refine W.widen (k := 0) (n := 0) (Nat.le_of_ble_eq_true rfl) (Nat.le_of_ble_eq_true rfl) ?_
      exact W.iret (v := r_27) hx hb hr (fun t ht hW => ⟨⟨r_27, (), rfl, (by unfold toX; rw [if_pos (by omega), if_neg (by omega), if_neg (by omega), if_neg (by omega), if_neg (by omega), if_neg (by omega), if_neg (by omega), if_neg (by omega), if_neg (by omega), if_neg (by omega), if_neg (by omega), if_neg (by omega), if_pos (by omega)]; refine h_28.trans ?_; rw [V13, V14]), f, cz, g5, sl, ⟨by rw [ht]; exact hP, va_K.moved hW.alike (hK.sub (tys' := []) [] rfl), hD⟩, (hI.more (by omega)), (by first | omega | assumption | decide | (have h3 : (0 : Int32).toInt = 0 := rfl; omega) | (have h3 : (0 : Int32).toInt = 0 := rfl; have h4 : (1 : Int32).toInt = 1 := rfl; have h5 : (-1 : Int32).toInt = -1 := rfl; omega)), j5, cqT.rf, htc, hft⟩, hS.F ht⟩) hS.2.2 dX8_told_156
    · refine lv_tableIn (tgt := 157) hx hb dX8_told_13 (by omega) (by omega) (by rw [c_5]; rfl) (by decide) ?_
      refine lv_aload_n hx hb dX8_told_157 rfl (lv_at hl 1 rfl) ?_
      refine lv_aload_n hx hb dX8_told_158 rfl (lv_at hl 0 rfl) ?_
      refine va_calli (wwV (mc := 0) (ms := 0) (As := [.ref b_3]) (rest := []) ⟨hx, hb, hml, hown, hts⟩ hN hK hP hD (c_X8_caseNumberOfK l D s.heap.size xo ro tI cS pN a1 a2 a3 a4 a5 a6 a7 a8 a9 e1 e2 e3 e4 e5 e6 e7 e8 e9 na ns nw cp le tr sl tz cz q1 q2 q3 q4 g1 g2 g3 g4 g5 g6 g7 y8 y9 L K f S b_3 ((v).toInt.toNat) V Y Nd hI (by first | omega | assumption | decide | (have h3 : (0 : Int32).toInt = 0 := rfl; omega) | (have h3 : (0 : Int32).toInt = 0 := rfl; have h4 : (1 : Int32).toInt = 1 := rfl; have h5 : (-1 : Int32).toInt = -1 := rfl; omega)) j1 (by first | omega | assumption | decide | (have h3 : (0 : Int32).toInt = 0 := rfl; omega) | (have h3 : (0 : Int32).toInt = 0 := rfl; have h4 : (1 : Int32).toInt = 1 := rfl; have h5 : (-1 : Int32).toInt = -1 := rfl; omega)) j4 (by first | omega | assumption | decide | (have h3 : (0 : Int32).toInt = 0 := rfl; omega) | (have h3 : (0 : Int32).toInt = 0 := rfl; have h4 : (1 : Int32).toInt = 1 := rfl; have h5 : (-1 : Int32).toInt = -1 := rfl; omega)) j5 (by first | omega | assumption | decide | (have h3 : (0 : Int32).toInt = 0 := rfl; omega) | (have h3 : (0 : Int32).toInt = 0 := rfl; have h4 : (1 : Int32).toInt = 1 := rfl; have h5 : (-1 : Int32).toInt = -1 := rfl; omega)) hj9 hV hY hS9 hTR hA9 hM hCm hwo9 hyo htc hft is_4 ⟨by omega, hx8⟩) (cwV 1 hts gX8_told_X8_caseNumberOf rfl rfl rfl (by decide +kernel) ⟨(Nat.le_of_ble_eq_true rfl), (Nat.le_of_ble_eq_true rfl)⟩) 8 rfl ⟨0, _, rfl⟩ rfl hl.1 rfl (Nat.le_of_ble_eq_true rfl) dX8_told_159 ⟨(Nat.le_of_ble_eq_true rfl), (Nat.le_of_ble_eq_true rfl)⟩) hS (fun q _ h => wfree hD hS hA q h) (wfree hD hS hA) (fun r_30 u t H_29 locs1 ht hvm hw hB hz1 hk1 hS1 => ?_)
      obtain ⟨f_31, cz_32, g_33, sl_34, hB, h_35a, h_35b, h_35c, h_35d, h_35e, h_35f, h_35g⟩ := hB
      obtain ⟨hP, hD⟩ := wj hB ht (wfree hD hS hA)
      have hS := hS1
      have h_35a : cqI (S + 200) L K f_31 := h_35a
      have h_35b : 0 ≤ (cz_32).toInt ∧ (cz_32).toInt ≤ 200 := h_35b
      have h_35c : cqJ L K 1 (cz_32).toInt g_33 := h_35c
      have h_35d : cqT [(0, 16), (1, 1), (1, 2), (1, 3)] L K f f_31 := h_35d
      have h_35e : tC L K f_31 g1 (na).toInt.toNat := h_35e
      have h_35f : kFit V Y (na).toInt.toNat (tz).toInt.toNat (le).toInt f_31 g1 g_33 (cz_32).toInt.toNat := h_35f
      have h_35g : (sl_34).toInt = 0 := h_35g
      have hI : cqI (S + 200) L K f_31 := h_35a
      have hT_36 := hT0.thenG hG0 (h_35d.weak (by decide))
      have hP : va_P D vwCl ([oC xo 8 [.ref a1, .ref a2, .ref a3, .ref ro, .ref tI, .ref cS, .ref pN, .int na, .int ns, .int nw, .int cp, .int le, .int tr, .int sl_34], aR a1 e1 200 (g1), aR a2 e2 40 (g2), aR a3 e3 30 (g3), oC tI 7 [.ref a4, .int tz], aR a4 e4 60 (g4), oC cS 2 [.ref a5, .int cz_32], aR a5 e5 200 (g_33), oC pN 5 [.ref a6, .ref a7, .ref a8, .ref a9, .int q1, .int q2, .int q3, .int q4], aR a6 e6 17 (g6), aR a7 e7 12 (g7), aI a8 e8 301 (y8), aI a9 e9 301 (y9)] ++ va_pl L f_31) H_29 := hP
      have hD : va_D A ([oC xo 8 [.ref a1, .ref a2, .ref a3, .ref ro, .ref tI, .ref cS, .ref pN, .int na, .int ns, .int nw, .int cp, .int le, .int tr, .int sl_34], aR a1 e1 200 (g1), aR a2 e2 40 (g2), aR a3 e3 30 (g3), oC tI 7 [.ref a4, .int tz], aR a4 e4 60 (g4), oC cS 2 [.ref a5, .int cz_32], aR a5 e5 200 (g_33), oC pN 5 [.ref a6, .ref a7, .ref a8, .ref a9, .int q1, .int q2, .int q3, .int q4], aR a6 e6 17 (g6), aR a7 e7 12 (g7), aI a8 e8 301 (y8), aI a9 e9 301 (y9)] ++ va_pl L f_31) := hD
      have hr_30 : (r_30).toInt = cnX V Y (na).toInt.toNat (tz).toInt.toNat (v).toInt.toNat := hw
      refine W.widen (k := 0) (n := 0) (Nat.le_of_ble_eq_true rfl) (Nat.le_of_ble_eq_true rfl) ?_
      exact W.iret (v := r_30) hx hb hr (fun t ht hW => ⟨⟨r_30, (), rfl, (by unfold toX; rw [if_pos (by omega), if_neg (by omega), if_neg (by omega), if_neg (by omega), if_neg (by omega), if_neg (by omega), if_neg (by omega), if_neg (by omega), if_neg (by omega), if_neg (by omega), if_neg (by omega), if_neg (by omega), if_neg (by omega), if_pos (by omega)]; exact hr_30), f_31, cz_32, g_33, sl_34, ⟨by rw [ht]; exact hP, va_K.moved hW.alike (hK.sub (tys' := []) [] rfl), hD⟩, (hI.more (by omega)), (by first | omega | assumption | decide | (have h3 : (0 : Int32).toInt = 0 := rfl; omega) | (have h3 : (0 : Int32).toInt = 0 := rfl; have h4 : (1 : Int32).toInt = 1 := rfl; have h5 : (-1 : Int32).toInt = -1 := rfl; omega)), h_35c, h_35d, h_35e, (fun _ => h_35f)⟩, hS.F ht⟩) hS.2.2 dX8_told_162
    · refine lv_tableOut (tgt := 163) hx hb dX8_told_13 (by omega) (by decide) ?_
      refine lv_iconst (v := (-1)) hx hb dX8_told_163 (by decide) ?_
      refine W.widen (k := 0) (n := 0) (Nat.le_of_ble_eq_true rfl) (Nat.le_of_ble_eq_true rfl) ?_
      exact W.iret (v := (-1)) hx hb hr (fun t ht hW => ⟨⟨(-1), (), rfl, (by unfold toX; rw [if_pos (by omega), if_neg (by omega), if_neg (by omega), if_neg (by omega), if_neg (by omega), if_neg (by omega), if_neg (by omega), if_neg (by omega), if_neg (by omega), if_neg (by omega), if_neg (by omega), if_neg (by omega), if_neg (by omega), if_neg (by omega)]; try rfl), f, cz, g5, sl, ⟨by rw [ht]; exact hP, va_K.moved hW.alike (hK.sub (tys' := []) [] rfl), hD⟩, (hI.more (by omega)), (by first | omega | assumption | decide | (have h3 : (0 : Int32).toInt = 0 := rfl; omega) | (have h3 : (0 : Int32).toInt = 0 := rfl; have h4 : (1 : Int32).toInt = 1 := rfl; have h5 : (-1 : Int32).toInt = -1 := rfl; omega)), j5, cqT.rf, htc, hft⟩, hS.F ht⟩) hS.2.2 dX8_told_164
