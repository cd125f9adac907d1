set_option maxHeartbeats 4000000 in
set_option maxRecDepth 100000 in
theorem c_X8_tieR (l : Launch) (D : va_G) (sz : Nat) (xo : Nat) (ro : Nat) (tI : Nat) (cS : Nat) (pN : Nat) (a1 : Nat) (a2 : Nat) (a3 : Nat) (a4 : Nat) (a5 : Nat) (a6 : Nat) (a7 : Nat) (a8 : Nat) (a9 : Nat) (e1 : ClassId) (e2 : ClassId) (e3 : ClassId) (e4 : ClassId) (e5 : ClassId) (e6 : ClassId) (e7 : ClassId) (e8 : ClassId) (e9 : ClassId) (na : Int32) (ns : Int32) (nw : Int32) (cp : Int32) (le : Int32) (tr : Int32) (sl : Int32) (tz : Int32) (cz : Int32) (q1 : Int32) (q2 : Int32) (q3 : Int32) (q4 : Int32) (g1 : Nat → Option Nat) (g2 : Nat → Option Nat) (g3 : Nat → Option Nat) (g4 : Nat → Option Nat) (g5 : Nat → Option Nat) (g6 : Nat → Option Nat) (g7 : Nat → Option Nat) (y8 : Nat → Int32) (y9 : Nat → Int32) (L : List Nat) (K : Nat → Nat × Nat) (f : Nat → va_E) (S : Int) (v0 : Int32) (v : Int32) (w : Int32) (Y : Nat → Nat → Int) (hI : cqI S L K f) (hna : 0 ≤ (na).toInt ∧ (na).toInt ≤ 200) (hns : 0 ≤ (ns).toInt ∧ (ns).toInt ≤ 30) (htz : 0 ≤ (tz).toInt ∧ (tz).toInt ≤ 60) (hcz : 0 ≤ (cz).toInt ∧ (cz).toInt ≤ 200) (j1 : cqJA L K (na).toInt g1) (j2 : cqJL L K ((na).toInt.toNat) g2) (j3 : cqJ L K 6 (ns).toInt g3) (j4 : cqJ L K 4 (tz).toInt g4) (j5 : cqJ L K 1 (cz).toInt g5) (hro : cqIs L K 3 ro) (hSb : 0 ≤ S ∧ S ≤ 500000) (hw0 : w = 0 ∨ w = 1) (hY : cqW f g4 (tz).toInt Y) (hij : cqIj g4 (tz).toInt) : Met l yX8_tie wsX8_tie ({ frames := 3, cells := 1, slots := 3, locals := 63 }) (va_Pc [.ref xo, .int v0, .int v, .int w] (wz sz D [(e1, .object RX0), (e2, .object RX0), (e3, .object RX6), (e4, .object RX4), (e5, .object RX1), (e6, .object RX1), (e7, .object RX1), (e8, .int), (e9, .int)] ([oC xo 8 [.ref a1, .ref a2, .ref a3, .ref ro, .ref tI, .ref cS, .ref pN, .int na, .int ns, .int nw, .int cp, .int le, .int tr, .int sl], aR a1 e1 200 (g1), aR a2 e2 40 (g2), aR a3 e3 30 (g3), oC tI 7 [.ref a4, .int tz], aR a4 e4 60 (g4), oC cS 2 [.ref a5, .int cz], aR a5 e5 200 (g5), oC pN 5 [.ref a6, .ref a7, .ref a8, .ref a9, .int q1, .int q2, .int q3, .int q4], aR a6 e6 17 (g6), aR a7 e7 12 (g7), aI a8 e8 301 (y8), aI a9 e9 301 (y9)] ++ va_pl L f))) (va_Qi (fun (r : Int32) (_ : Unit) => (r).toInt = (tiX Y (na).toInt (tz).toInt (v0).toInt (v).toInt (w).toInt).1) (fun _ t => ∃ (L9 : List Nat), ∃ (K9 : Nat → Nat × Nat), ∃ (f9 : Nat → va_E), ∃ (tz9 : Int32), ∃ (g49 : Nat → Option Nat), ∃ (sl9 : Int32), (wp D [] (va_A ([oC xo 8 [.ref a1, .ref a2, .ref a3, .ref ro, .ref tI, .ref cS, .ref pN, .int na, .int ns, .int nw, .int cp, .int le, .int tr, .int sl], aR a1 e1 200 (g1), aR a2 e2 40 (g2), aR a3 e3 30 (g3), oC tI 7 [.ref a4, .int tz], aR a4 e4 60 (g4), oC cS 2 [.ref a5, .int cz], aR a5 e5 200 (g5), oC pN 5 [.ref a6, .ref a7, .ref a8, .ref a9, .int q1, .int q2, .int q3, .int q4], aR a6 e6 17 (g6), aR a7 e7 12 (g7), aI a8 e8 301 (y8), aI a9 e9 301 (y9)] ++ va_pl L f) sz) ([oC xo 8 [.ref a1, .ref a2, .ref a3, .ref ro, .ref tI, .ref cS, .ref pN, .int na, .int ns, .int nw, .int cp, .int le, .int tr, .int sl9], aR a1 e1 200 (g1), aR a2 e2 40 (g2), aR a3 e3 30 (g3), oC tI 7 [.ref a4, .int tz9], aR a4 e4 60 (g49), oC cS 2 [.ref a5, .int cz], aR a5 e5 200 (g5), oC pN 5 [.ref a6, .ref a7, .ref a8, .ref a9, .int q1, .int q2, .int q3, .int q4], aR a6 e6 17 (g6), aR a7 e7 12 (g7), aI a8 e8 301 (y8), aI a9 e9 301 (y9)] ++ va_pl L9 f9) t ∧ (cqG L K L9 K9) ∧ (cqI S L9 K9 f9) ∧ (0 ≤ (tz9).toInt ∧ (tz9).toInt ≤ 60) ∧ (cqJ L9 K9 4 (tz9).toInt g49) ∧ (cqT [(4, 2)] L K f f9) ∧ ((tz9).toInt = (tiX Y (na).toInt (tz).toInt (v0).toInt (v).toInt (w).toInt).2.1) ∧ (cqW f9 g49 (tz9).toInt (tiX Y (na).toInt (tz).toInt (v0).toInt (v).toInt (w).toInt).2.2) ∧ (cqIj g49 (tz9).toInt))) (va_A ([oC xo 8 [.ref a1, .ref a2, .ref a3, .ref ro, .ref tI, .ref cS, .ref pN, .int na, .int ns, .int nw, .int cp, .int le, .int tr, .int sl], aR a1 e1 200 (g1), aR a2 e2 40 (g2), aR a3 e3 30 (g3), oC tI 7 [.ref a4, .int tz], aR a4 e4 60 (g4), oC cS 2 [.ref a5, .int cz], aR a5 e5 200 (g5), oC pN 5 [.ref a6, .ref a7, .ref a8, .ref a9, .int q1, .int q2, .int q3, .int q4], aR a6 e6 17 (g6), aR a7 e7 12 (g7), aI a8 e8 301 (y8), aI a9 e9 301 (y9)] ++ va_pl L f) sz)) 1 3 (va_A ([oC xo 8 [.ref a1, .ref a2, .ref a3, .ref ro, .ref tI, .ref cS, .ref pN, .int na, .int ns, .int nw, .int cp, .int le, .int tr, .int sl], aR a1 e1 200 (g1), aR a2 e2 40 (g2), aR a3 e3 30 (g3), oC tI 7 [.ref a4, .int tz], aR a4 e4 60 (g4), oC cS 2 [.ref a5, .int cz], aR a5 e5 200 (g5), oC pN 5 [.ref a6, .ref a7, .ref a8, .ref a9, .int q1, .int q2, .int q3, .int q4], aR a6 e6 17 (g6), aR a7 e7 12 (g7), aI a8 e8 301 (y8), aI a9 e9 301 (y9)] ++ va_pl L f) sz) := by
  refine Met.ofW (cc := cX8_tie) (maxL := 4) (ret := (some .boolean)) (by decide) rfl ?_
  intro p e s m args below meth c s₁ B hml hv
  obtain ⟨rfl, hsz, hP, hK, hD0, hN⟩ := hv
  have hx := B.exec
  have hb := B.bytes
  have hr := B.returns
  have hts := atoms_spec (ws := wsX8_tie) B.pre
  have hown : s.vm.findClass RX8 = some m.cls := findClass_of_methodNamed B.named
  have hlocks := B.notSynchronized
  subst hsz
  have hD := hD0.self (sz := s.heap.size)
  generalize hAe : va_A ([oC xo 8 [.ref a1, .ref a2, .ref a3, .ref ro, .ref tI, .ref cS, .ref pN, .int na, .int ns, .int nw, .int cp, .int le, .int tr, .int sl], aR a1 e1 200 (g1), aR a2 e2 40 (g2), aR a3 e3 30 (g3), oC tI 7 [.ref a4, .int tz], aR a4 e4 60 (g4), oC cS 2 [.ref a5, .int cz], aR a5 e5 200 (g5), oC pN 5 [.ref a6, .ref a7, .ref a8, .ref a9, .int q1, .int q2, .int q3, .int q4], aR a6 e6 17 (g6), aR a7 e7 12 (g7), aI a8 e8 301 (y8), aI a9 e9 301 (y9)] ++ va_pl L f) s.heap.size = A at hD ⊢
  have hA : ∀ q : Nat, s.heap.size ≤ q → A q := fun q h => by rw [← hAe]; exact Or.inr h
  have hS : va_S A s.heap s.heap [] := va_S.rf
  have hin_X8 : ∀ w ∈ u_ws RX8 TX8 14, w ∈ wsX8_tie := by decide +kernel
  have hl := lv_entry ([.ref xo, .int v0, .int v, .int w]) (n := 4) (Nat.le_of_ble_eq_true rfl)
  rw [lg_entry_eq]
  generalize (lg_sl ([.ref xo, .int v0, .int v, .int w]) ++ List.replicate (4 - (lg_sl ([.ref xo, .int v0, .int v, .int w])).length) Slot.unset).toArray = ls at hl ⊢
  have hl : lv_has ls 4 [(0, .ref xo), (1, .int v0), (2, .int v), (3, .int w)] := hl
  have hT0 : cqT [(4, 2)] L K f f := cqT.rf
  have hG0 : cqG L K L K := cqG.rf
  refine lv_iload_n hx hb dX8_tie_0 rfl (lv_at hl 1 rfl) ?_
  refine lv_iload_n hx hb dX8_tie_1 rfl (lv_at hl 2 rfl) ?_
  refine bi_eq (zx := (v0).toInt) (zy := (v).toInt) (tgt := 27) hx hb dX8_tie_2 (by decide) rfl rfl (fun c_1 => ?_) (fun c_1 => ?_)
  · refine lv_iconst (v := 0) hx hb dX8_tie_27 (by decide) ?_
    have hal : (0 : Int) = (tiX Y (na).toInt (tz).toInt (v0).toInt (v).toInt (w).toInt).1 ∧ (tz).toInt = (tiX Y (na).toInt (tz).toInt (v0).toInt (v).toInt (w).toInt).2.1 ∧ cqW f g4 (tz).toInt (tiX Y (na).toInt (tz).toInt (v0).toInt (v).toInt (w).toInt).2.2 ∧ cqIj g4 (tz).toInt := by rw [tiX_no (by unfold tiOK; omega)]; exact ⟨rfl, rfl, hY, hij⟩
    refine W.widen (k := 1) (n := 3) (Nat.le_of_ble_eq_true rfl) (Nat.le_of_ble_eq_true rfl) ?_
    exact W.zret (v := 0) hx hb hr rfl (fun t ht hW => ⟨⟨0, (), rfl, ((show (0 : Int32).toInt = 0 by decide).trans hal.1), L, K, f, tz, g4, sl, ⟨by rw [ht]; exact hP, va_K.moved hW.alike (hK.sub (tys' := []) [] rfl), hD⟩, cqG.rf, hI, (by first | omega | assumption | decide | (have h3 : (0 : Int32).toInt = 0 := rfl; omega) | (have h3 : (0 : Int32).toInt = 0 := rfl; have h4 : (1 : Int32).toInt = 1 := rfl; have h5 : (-1 : Int32).toInt = -1 := rfl; omega)), j4, hT0, hal.2.1, hal.2.2.1, hal.2.2.2⟩, hS.F ht⟩) hS.2.2 dX8_tie_28
  · refine lv_iload_n hx hb dX8_tie_5 rfl (lv_at hl 1 rfl) ?_
    refine lv_aload_n hx hb dX8_tie_6 rfl (lv_at hl 0 rfl) ?_
    refine va_get (D := D) (ci := 8) (v := .int na) (C := RX8) (T := TX8) (N := 14) hx hb hts hin_X8 hown hK hP 0 rfl rfl 7 (by decide) (hts (.fieldLink RX8 79 "CryOrder" "alarmCount" "I") (by decide +kernel)) (fun _ h9 => h9) rfl dX8_tie_7 ?_
    refine vp_callSi (zrS (As := [.int v0, .int na]) (rest := []) (wc := []) ⟨hx, hb, hml, hown, hts⟩ hN hK hP hD (c_X8_isBelow l D v0 na ) (va_cwS 2 hts gX8_tie_X8_isBelow rfl rfl rfl (by decide +kernel) ⟨(Nat.le_of_ble_eq_true rfl), (Nat.le_of_ble_eq_true rfl)⟩) [] [] rfl rfl (by decide) rfl hl.1 rfl (Nat.le_of_ble_eq_true rfl) dX8_tie_10 ⟨(Nat.le_of_ble_eq_true rfl), (Nat.le_of_ble_eq_true rfl)⟩) (fun r_2 h_3 => ?_)
    rcases h_3 with ⟨h_3, rfl⟩ | ⟨h_3, rfl⟩
    · have h_3 : 0 ≤ (v0).toInt ∧ (v0).toInt < (na).toInt := h_3
      refine lv_if_eq (tgt := 27) hx hb dX8_tie_13 (by decide) (fun c_ => absurd c_ (by decide)) (fun _ => ?_)
      refine lv_iload_n hx hb dX8_tie_16 rfl (lv_at hl 2 rfl) ?_
      refine lv_aload_n hx hb dX8_tie_17 rfl (lv_at hl 0 rfl) ?_
      refine va_get (D := D) (ci := 8) (v := .int na) (C := RX8) (T := TX8) (N := 14) hx hb hts hin_X8 hown hK hP 0 rfl rfl 7 (by decide) (hts (.fieldLink RX8 79 "CryOrder" "alarmCount" "I") (by decide +kernel)) (fun _ h9 => h9) rfl dX8_tie_18 ?_
      refine vp_callSi (zrS (As := [.int v, .int na]) (rest := []) (wc := []) ⟨hx, hb, hml, hown, hts⟩ hN hK hP hD (c_X8_isBelow l D v na ) (va_cwS 2 hts gX8_tie_X8_isBelow rfl rfl rfl (by decide +kernel) ⟨(Nat.le_of_ble_eq_true rfl), (Nat.le_of_ble_eq_true rfl)⟩) [] [] rfl rfl (by decide) rfl hl.1 rfl (Nat.le_of_ble_eq_true rfl) dX8_tie_21 ⟨(Nat.le_of_ble_eq_true rfl), (Nat.le_of_ble_eq_true rfl)⟩) (fun r_4 h_5 => ?_)
      rcases h_5 with ⟨h_5, rfl⟩ | ⟨h_5, rfl⟩
      · have h_5 : 0 ≤ (v).toInt ∧ (v).toInt < (na).toInt := h_5
        refine lv_if_ne (tgt := 29) hx hb dX8_tie_24 (by decide) (fun _ => ?_) (fun c_ => absurd c_ (by decide))
        refine lv_aload_n hx hb dX8_tie_29 rfl (lv_at hl 0 rfl) ?_
        refine va_get (D := D) (ci := 8) (v := .ref tI) (C := RX8) (T := TX8) (N := 14) hx hb hts hin_X8 hown hK hP 0 rfl rfl 4 (by decide) (hts (.fieldLink RX8 36 "CryOrder" "ties" "LCryOrder$Ties;") (by decide +kernel)) (fun _ h9 => h9) rfl dX8_tie_30 ?_
        refine lv_iload_n hx hb dX8_tie_33 rfl (lv_at hl 1 rfl) ?_
        refine lv_iload_n hx hb dX8_tie_34 rfl (lv_at hl 2 rfl) ?_
        refine lv_iload_n hx hb dX8_tie_35 rfl (lv_at hl 3 rfl) ?_
        refine va_calli (wwV (mc := 1) (ms := 3) (As := [.int v0, .int v, .int w]) (rest := []) ⟨hx, hb, hml, hown, hts⟩ hN hK hP hD (c_X7_tellR l D s.heap.size xo ro tI cS pN a1 a2 a3 a4 a5 a6 a7 a8 a9 e1 e2 e3 e4 e5 e6 e7 e8 e9 na ns nw cp le tr sl tz cz q1 q2 q3 q4 g1 g2 g3 g4 g5 g6 g7 y8 y9 L K f S v0 v w Y hI (by first | omega | assumption | decide | (have h3 : (0 : Int32).toInt = 0 := rfl; omega) | (have h3 : (0 : Int32).toInt = 0 := rfl; have h4 : (1 : Int32).toInt = 1 := rfl; have h5 : (-1 : Int32).toInt = -1 := rfl; omega)) j4 hw0 (by first | omega | assumption | decide | (have h3 : (0 : Int32).toInt = 0 := rfl; omega) | (have h3 : (0 : Int32).toInt = 0 := rfl; have h4 : (1 : Int32).toInt = 1 := rfl; have h5 : (-1 : Int32).toInt = -1 := rfl; omega)) (by first | omega | assumption | decide | (have h3 : (0 : Int32).toInt = 0 := rfl; omega) | (have h3 : (0 : Int32).toInt = 0 := rfl; have h4 : (1 : Int32).toInt = 1 := rfl; have h5 : (-1 : Int32).toInt = -1 := rfl; omega))) (cwV 3 hts gX8_tie_X7_tell rfl rfl rfl (by decide +kernel) ⟨(Nat.le_of_ble_eq_true rfl), (Nat.le_of_ble_eq_true rfl)⟩) 7 rfl ⟨4, _, rfl⟩ rfl hl.1 rfl (Nat.le_of_ble_eq_true rfl) dX8_tie_36 ⟨(Nat.le_of_ble_eq_true rfl), (Nat.le_of_ble_eq_true rfl)⟩) hS (fun q _ h => wfree hD hS hA q h) (wfree hD hS hA) (fun r_7 u t H_6 locs1 ht hvm hw hB hz1 hk1 hS1 => ?_)
        obtain ⟨L_8, K_9, f_10, tz_11, g_12, hB, h_13a, h_13b, h_13c, h_13d, h_13e, h_13f, h_13g, h_13h⟩ := hB
        obtain ⟨hP, hD⟩ := wj hB ht (wfree hD hS hA)
        have hS := hS1
        have h_13a : cqG L K L_8 K_9 := h_13a
        have u_14 : cqIs L_8 K_9 3 ro := hro.up h_13a
        have ku_14 := hro.key h_13a
        have u_15 : cqJA L_8 K_9 (na).toInt g1 := j1.up h_13a
        have u_16 : cqJL L_8 K_9 ((na).toInt.toNat) g2 := j2.up h_13a
        have u_17 : cqJ L_8 K_9 6 (ns).toInt g3 := j3.up h_13a
        have u_18 : cqJ L_8 K_9 4 (tz).toInt g4 := j4.up h_13a
        have u_19 : cqJ L_8 K_9 1 (cz).toInt g5 := j5.up h_13a
        have hG_20 := hG0.trans h_13a
        have h_13b : cqI S L_8 K_9 f_10 := h_13b
        have h_13c : 0 ≤ (tz_11).toInt ∧ (tz_11).toInt ≤ 60 := h_13c
        have h_13d : cqJ L_8 K_9 4 (tz_11).toInt g_12 := h_13d
        have h_13e : cqT [(4, 2)] L K f f_10 := h_13e
        have h_13f : (tz_11).toInt = (teX Y (tz).toInt (v0).toInt (v).toInt (w).toInt).2.1 := h_13f
        have h_13g : cqW f_10 g_12 (tz_11).toInt (teX Y (tz).toInt (v0).toInt (v).toInt (w).toInt).2.2 := h_13g
        have h_13h : cqIj g_12 (tz_11).toInt := h_13h
        have hI : cqI S L_8 K_9 f_10 := h_13b
        have hT_21 := hT0.thenG hG0 (h_13e.weak (by decide))
        have hP : va_P D vwCl ([oC xo 8 [.ref a1, .ref a2, .ref a3, .ref ro, .ref tI, .ref cS, .ref pN, .int na, .int ns, .int nw, .int cp, .int le, .int tr, .int sl], aR a1 e1 200 (g1), aR a2 e2 40 (g2), aR a3 e3 30 (g3), oC tI 7 [.ref a4, .int tz_11], aR a4 e4 60 (g_12), oC cS 2 [.ref a5, .int cz], aR a5 e5 200 (g5), oC pN 5 [.ref a6, .ref a7, .ref a8, .ref a9, .int q1, .int q2, .int q3, .int q4], aR a6 e6 17 (g6), aR a7 e7 12 (g7), aI a8 e8 301 (y8), aI a9 e9 301 (y9)] ++ va_pl L_8 f_10) H_6 := hP
        have hD : va_D A ([oC xo 8 [.ref a1, .ref a2, .ref a3, .ref ro, .ref tI, .ref cS, .ref pN, .int na, .int ns, .int nw, .int cp, .int le, .int tr, .int sl], aR a1 e1 200 (g1), aR a2 e2 40 (g2), aR a3 e3 30 (g3), oC tI 7 [.ref a4, .int tz_11], aR a4 e4 60 (g_12), oC cS 2 [.ref a5, .int cz], aR a5 e5 200 (g5), oC pN 5 [.ref a6, .ref a7, .ref a8, .ref a9, .int q1, .int q2, .int q3, .int q4], aR a6 e6 17 (g6), aR a7 e7 12 (g7), aI a8 e8 301 (y8), aI a9 e9 301 (y9)] ++ va_pl L_8 f_10) := hD
        have hr_7 : (r_7).toInt = (teX Y (tz).toInt (v0).toInt (v).toInt (w).toInt).1 := hw
        refine bz_ne (zx := (r_7).toInt) (tgt := 44) hx hb dX8_tie_39 (by decide) rfl (fun c_22 => ?_) (fun c_22 => ?_)
        · refine lv_aload_n hx hb dX8_tie_44 rfl (lv_at hl 0 rfl) ?_
          refine lv_iconst (v := 1) hx hb dX8_tie_45 (by decide) ?_
          refine va_put (D := D) (ci := 8) (v := .int 1) (ty := .boolean) (C := RX8) (T := TX8) (N := 14) hx hb hts hin_X8 tyX8 tyX8_ok nmX8 hown hK hP hD hS 0 rfl rfl 13 (by decide) (hts (.fieldLink RX8 113 "CryOrder" "casesAreStale" "Z") (by decide +kernel)) (fun _ h9 => h9) rfl (by decide +kernel) rfl rfl (Nat.le_of_ble_eq_true rfl) dX8_tie_46 (fun H_23 locs hP hD hS => ?_)
          have hP : va_P D vwCl ([oC xo 8 [.ref a1, .ref a2, .ref a3, .ref ro, .ref tI, .ref cS, .ref pN, .int na, .int ns, .int nw, .int cp, .int le, .int tr, .int 1], aR a1 e1 200 (g1), aR a2 e2 40 (g2), aR a3 e3 30 (g3), oC tI 7 [.ref a4, .int tz_11], aR a4 e4 60 (g_12), oC cS 2 [.ref a5, .int cz], aR a5 e5 200 (g5), oC pN 5 [.ref a6, .ref a7, .ref a8, .ref a9, .int q1, .int q2, .int q3, .int q4], aR a6 e6 17 (g6), aR a7 e7 12 (g7), aI a8 e8 301 (y8), aI a9 e9 301 (y9)] ++ va_pl L_8 f_10) H_23 := hP
          have hD : va_D A ([oC xo 8 [.ref a1, .ref a2, .ref a3, .ref ro, .ref tI, .ref cS, .ref pN, .int na, .int ns, .int nw, .int cp, .int le, .int tr, .int 1], aR a1 e1 200 (g1), aR a2 e2 40 (g2), aR a3 e3 30 (g3), oC tI 7 [.ref a4, .int tz_11], aR a4 e4 60 (g_12), oC cS 2 [.ref a5, .int cz], aR a5 e5 200 (g5), oC pN 5 [.ref a6, .ref a7, .ref a8, .ref a9, .int q1, .int q2, .int q3, .int q4], aR a6 e6 17 (g6), aR a7 e7 12 (g7), aI a8 e8 301 (y8), aI a9 e9 301 (y9)] ++ va_pl L_8 f_10) := hD
          refine lv_iconst (v := 1) hx hb dX8_tie_49 (by decide) ?_
          have h01 := te01 (Y := Y) (tz := (tz).toInt) (a := (v0).toInt) (b := (v).toInt) (w := (w).toInt)
          have hal : (1 : Int) = (tiX Y (na).toInt (tz).toInt (v0).toInt (v).toInt (w).toInt).1 ∧ (tz_11).toInt = (tiX Y (na).toInt (tz).toInt (v0).toInt (v).toInt (w).toInt).2.1 ∧ cqW f_10 g_12 (tz_11).toInt (tiX Y (na).toInt (tz).toInt (v0).toInt (v).toInt (w).toInt).2.2 ∧ cqIj g_12 (tz_11).toInt := by rw [tiX_yes (by unfold tiOK; omega)]; exact ⟨by omega, h_13f, h_13g, h_13h⟩
          refine W.widen (k := 1) (n := 3) (Nat.le_of_ble_eq_true rfl) (Nat.le_of_ble_eq_true rfl) ?_
          exact W.zret (v := 1) hx hb hr rfl (fun t ht hW => ⟨⟨1, (), rfl, ((show (1 : Int32).toInt = 1 by decide).trans hal.1), L_8, K_9, f_10, tz_11, g_12, 1, ⟨by rw [ht]; exact hP, va_K.moved hW.alike (hK.sub (tys' := []) [] rfl), hD⟩, hG_20, hI, (by first | omega | assumption | decide | (have h3 : (0 : Int32).toInt = 0 := rfl; omega) | (have h3 : (0 : Int32).toInt = 0 := rfl; have h4 : (1 : Int32).toInt = 1 := rfl; have h5 : (-1 : Int32).toInt = -1 := rfl; omega)), h_13d, hT_21, hal.2.1, hal.2.2.1, hal.2.2.2⟩, hS.F ht⟩) hS.2.2 dX8_tie_50
        · refine lv_iconst (v := 0) hx hb dX8_tie_42 (by decide) ?_
          have h01 := te01 (Y := Y) (tz := (tz).toInt) (a := (v0).toInt) (b := (v).toInt) (w := (w).toInt)
          have hal : (0 : Int) = (tiX Y (na).toInt (tz).toInt (v0).toInt (v).toInt (w).toInt).1 ∧ (tz_11).toInt = (tiX Y (na).toInt (tz).toInt (v0).toInt (v).toInt (w).toInt).2.1 ∧ cqW f_10 g_12 (tz_11).toInt (tiX Y (na).toInt (tz).toInt (v0).toInt (v).toInt (w).toInt).2.2 ∧ cqIj g_12 (tz_11).toInt := by rw [tiX_yes (by unfold tiOK; omega)]; exact ⟨by omega, h_13f, h_13g, h_13h⟩
          refine W.widen (k := 1) (n := 3) (Nat.le_of_ble_eq_true rfl) (Nat.le_of_ble_eq_true rfl) ?_
          exact W.zret (v := 0) hx hb hr rfl (fun t ht hW => ⟨⟨0, (), rfl, ((show (0 : Int32).toInt = 0 by decide).trans hal.1), L_8, K_9, f_10, tz_11, g_12, sl, ⟨by rw [ht]; exact hP, va_K.moved hW.alike (hK.sub (tys' := []) [] rfl), hD⟩, hG_20, hI, (by first | omega | assumption | decide | (have h3 : (0 : Int32).toInt = 0 := rfl; omega) | (have h3 : (0 : Int32).toInt = 0 := rfl; have h4 : (1 : Int32).toInt = 1 := rfl; have h5 : (-1 : Int32).toInt = -1 := rfl; omega)), h_13d, hT_21, hal.2.1, hal.2.2.1, hal.2.2.2⟩, hS.F ht⟩) hS.2.2 dX8_tie_43
      · have h_5 : (v).toInt < 0 ∨ (na).toInt ≤ (v).toInt := h_5
        refine lv_if_ne (tgt := 29) hx hb dX8_tie_24 (by decide) (fun c_ => absurd c_ (by decide)) (fun _ => ?_)
        refine lv_iconst (v := 0) hx hb dX8_tie_27 (by decide) ?_
        have hal : (0 : Int) = (tiX Y (na).toInt (tz).toInt (v0).toInt (v).toInt (w).toInt).1 ∧ (tz).toInt = (tiX Y (na).toInt (tz).toInt (v0).toInt (v).toInt (w).toInt).2.1 ∧ cqW f g4 (tz).toInt (tiX Y (na).toInt (tz).toInt (v0).toInt (v).toInt (w).toInt).2.2 ∧ cqIj g4 (tz).toInt := by rw [tiX_no (by unfold tiOK; omega)]; exact ⟨rfl, rfl, hY, hij⟩
        refine W.widen (k := 1) (n := 3) (Nat.le_of_ble_eq_true rfl) (Nat.le_of_ble_eq_true rfl) ?_
        exact W.zret (v := 0) hx hb hr rfl (fun t ht hW => ⟨⟨0, (), rfl, ((show (0 : Int32).toInt = 0 by decide).trans hal.1), L, K, f, tz, g4, sl, ⟨by rw [ht]; exact hP, va_K.moved hW.alike (hK.sub (tys' := []) [] rfl), hD⟩, cqG.rf, hI, (by first | omega | assumption | decide | (have h3 : (0 : Int32).toInt = 0 := rfl; omega) | (have h3 : (0 : Int32).toInt = 0 := rfl; have h4 : (1 : Int32).toInt = 1 := rfl; have h5 : (-1 : Int32).toInt = -1 := rfl; omega)), j4, hT0, hal.2.1, hal.2.2.1, hal.2.2.2⟩, hS.F ht⟩) hS.2.2 dX8_tie_28
    · have h_3 : (v0).toInt < 0 ∨ (na).toInt ≤ (v0).toInt := h_3
      refine lv_if_eq (tgt := 27) hx hb dX8_tie_13 (by decide) (fun _ => ?_) (fun c_ => absurd c_ (by decide))
      refine lv_iconst (v := 0) hx hb dX8_tie_27 (by decide) ?_
      have hal : (0 : Int) = (tiX Y (na).toInt (tz).toInt (v0).toInt (v).toInt (w).toInt).1 ∧ (tz).toInt = (tiX Y (na).toInt (tz).toInt (v0).toInt (v).toInt (w).toInt).2.1 ∧ cqW f g4 (tz).toInt (tiX Y (na).toInt (tz).toInt (v0).toInt (v).toInt (w).toInt).2.2 ∧ cqIj g4 (tz).toInt := by rw [tiX_no (by unfold tiOK; omega)]; exact ⟨rfl, rfl, hY, hij⟩
      refine W.widen (k := 1) (n := 3) (Nat.le_of_ble_eq_true rfl) (Nat.le_of_ble_eq_true rfl) ?_
      exact W.zret (v := 0) hx hb hr rfl (fun t ht hW => ⟨⟨0, (), rfl, ((show (0 : Int32).toInt = 0 by decide).trans hal.1), L, K, f, tz, g4, sl, ⟨by rw [ht]; exact hP, va_K.moved hW.alike (hK.sub (tys' := []) [] rfl), hD⟩, cqG.rf, hI, (by first | omega | assumption | decide | (have h3 : (0 : Int32).toInt = 0 := rfl; omega) | (have h3 : (0 : Int32).toInt = 0 := rfl; have h4 : (1 : Int32).toInt = 1 := rfl; have h5 : (-1 : Int32).toInt = -1 := rfl; omega)), j4, hT0, hal.2.1, hal.2.2.1, hal.2.2.2⟩, hS.F ht⟩) hS.2.2 dX8_tie_28
