set_option maxHeartbeats 4000000 in
set_option maxRecDepth 100000 in
theorem c_X2_atK (l : Launch) (D : va_G) (xo : Nat) (ro : Nat) (tI : Nat) (cS : Nat) (pN : Nat) (a1 : Nat) (a2 : Nat) (a3 : Nat) (a4 : Nat) (a5 : Nat) (a6 : Nat) (a7 : Nat) (a8 : Nat) (a9 : Nat) (e1 : ClassId) (e2 : ClassId) (e3 : ClassId) (e4 : ClassId) (e5 : ClassId) (e6 : ClassId) (e7 : ClassId) (e8 : ClassId) (e9 : ClassId) (na : Int32) (ns : Int32) (nw : Int32) (cp : Int32) (le : Int32) (tr : Int32) (sl : Int32) (tz : Int32) (cz : Int32) (q1 : Int32) (q2 : Int32) (q3 : Int32) (q4 : Int32) (g1 : Nat → Option Nat) (g2 : Nat → Option Nat) (g3 : Nat → Option Nat) (g4 : Nat → Option Nat) (g5 : Nat → Option Nat) (g6 : Nat → Option Nat) (g7 : Nat → Option Nat) (y8 : Nat → Int32) (y9 : Nat → Int32) (L : List Nat) (K : Nat → Nat × Nat) (f : Nat → va_E) (S : Int) (v : Int32) (hI : cqI S L K f) (hcz : 0 ≤ (cz).toInt ∧ (cz).toInt ≤ 200) (j5 : cqJ L K 1 (cz).toInt g5) : Met l yX2_at wsX2_at ({ frames := 1, cells := 0, slots := 0, locals := 21 }) (va_Pc [.ref cS, .int v] (wo D [(e1, .object RX0), (e2, .object RX0), (e3, .object RX6), (e4, .object RX4), (e5, .object RX1), (e6, .object RX1), (e7, .object RX1), (e8, .int), (e9, .int)] ([oC xo 8 [.ref a1, .ref a2, .ref a3, .ref ro, .ref tI, .ref cS, .ref pN, .int na, .int ns, .int nw, .int cp, .int le, .int tr, .int sl], aR a1 e1 200 (g1), aR a2 e2 40 (g2), aR a3 e3 30 (g3), oC tI 7 [.ref a4, .int tz], aR a4 e4 60 (g4), oC cS 2 [.ref a5, .int cz], aR a5 e5 200 (g5), oC pN 5 [.ref a6, .ref a7, .ref a8, .ref a9, .int q1, .int q2, .int q3, .int q4], aR a6 e6 17 (g6), aR a7 e7 12 (g7), aI a8 e8 301 (y8), aI a9 e9 301 (y9)] ++ va_pl L f))) (va_Sq (fun r => cqOp L K 1 r ∧ atS (cz).toInt (v).toInt (v).toInt.toNat g5 r)) 0 0 (fun _ => False) := by
  refine Met.ofW (cc := cX2_at) (maxL := 2) (ret := (some (.object "CryOrder$Case"))) (by decide) rfl ?_
  intro p e s m args below meth c s₁ B hml hv
  obtain ⟨rfl, hP, hK, hD, hN⟩ := hv
  have hx := B.exec
  have hb := B.bytes
  have hr := B.returns
  have hts := atoms_spec (ws := wsX2_at) B.pre
  have hown : s.vm.findClass RX2 = some m.cls := findClass_of_methodNamed B.named
  have hlocks := B.notSynchronized
  have hin_X2 : ∀ w ∈ u_ws RX2 TX2 2, w ∈ wsX2_at := fun w h => List.mem_cons_of_mem _ (List.mem_append_right _ (h))
  have hl := lv_entry ([.ref cS, .int v]) (n := 2) (Nat.le_of_ble_eq_true rfl)
  rw [lg_entry_eq]
  generalize (lg_sl ([.ref cS, .int v]) ++ List.replicate (2 - (lg_sl ([.ref cS, .int v])).length) Slot.unset).toArray = ls at hl ⊢
  have hl : lv_has ls 2 [(0, .ref cS), (1, .int v)] := hl
  refine lv_iload_n hx hb dX2_at_0 rfl (lv_at hl 1 rfl) ?_
  refine lv_aload_n hx hb dX2_at_1 rfl (lv_at hl 0 rfl) ?_
  refine va_get (D := D) (ci := 2) (v := .int cz) (C := RX2) (T := TX2) (N := 2) hx hb hts hin_X2 hown hK hP 6 rfl rfl 1 (by decide) (hts (.fieldLink RX2 50 "CryOrder$Cases" "size" "I") (List.mem_cons_of_mem _ (List.mem_append_left _ (List.mem_of_getElem? (i := 0) rfl)))) (fun _ h9 => h9) rfl dX2_at_2 ?_
  refine vp_callSi (zrN (As := [.int v, .int cz]) (rest := []) (wc := []) ⟨hx, hb, hml, hown, hts⟩ hN hK hP hD (c_X8_isBelow l D v cz ) ⟨va_cnB 2 hts gX2_at_X8_isBelow_n54 rfl rfl rfl hN.2.2.1 (hts (.initialized RX8) (List.mem_cons_of_mem _ (List.mem_append_left _ (List.mem_of_getElem? (i := 3) rfl)))) (by decide +kernel) ⟨(Nat.le_of_ble_eq_true rfl), (Nat.le_of_ble_eq_true rfl)⟩, (hts (.static yX8_isBelow) (List.mem_cons_of_mem _ (List.mem_append_left _ (List.mem_of_getElem? (i := 2) rfl)))), trivial⟩ [] [] rfl rfl (by decide) rfl hl.1 rfl (Nat.le_of_ble_eq_true rfl) dX2_at_5 ⟨(Nat.le_of_ble_eq_true rfl), (Nat.le_of_ble_eq_true rfl)⟩) (fun r_1 h_2 => ?_)
  rcases h_2 with ⟨h_2, rfl⟩ | ⟨h_2, rfl⟩
  · have h_2 : 0 ≤ (v).toInt ∧ (v).toInt < (cz).toInt := h_2
    refine lv_if_eq (tgt := 20) hx hb dX2_at_8 (by decide) (fun c_ => absurd c_ (by decide)) (fun _ => ?_)
    refine lv_aload_n hx hb dX2_at_11 rfl (lv_at hl 0 rfl) ?_
    refine va_get (D := D) (ci := 2) (v := .ref a5) (C := RX2) (T := TX2) (N := 2) hx hb hts hin_X2 hown hK hP 6 rfl rfl 0 (by decide) (hts (.fieldLink RX2 11 "CryOrder$Cases" "ordered" "[LCryOrder$Case;") (List.mem_cons_of_mem _ (List.mem_append_left _ (List.mem_of_getElem? (i := 1) rfl)))) (fun _ h9 => h9) rfl dX2_at_12 ?_
    refine lv_iload_n hx hb dX2_at_15 rfl (lv_at hl 1 rfl) ?_
    refine va_aldq hx hb hK hP 7 4 rfl rfl (vp_in_iff.mpr (by omega)) dX2_at_16 ?_
    obtain ⟨b_3, eb_3, ib_3⟩ := cqJ.get (i := (v : Int32)) j5 (by first | omega | decide) (by first | omega | decide)
    refine lv_topv (z := .ref b_3) (congrArg va_rf eb_3) ?_
    refine lv_goto (tgt := 21) hx hb dX2_at_17 (by decide) ?_
    exact W.aret (v := .ref b_3) hx hb hr (Or.inl ⟨_, rfl⟩) (Or.inr ⟨_, rfl⟩) (fun t ht hW => ⟨(some b_3), rfl, ⟨cqOp.some ib_3, fun b9 h9 => (by cases h9; exact ⟨by omega, eb_3⟩), fun h9 => (by cases h9)⟩, ht⟩) (fun q h => by cases h) dX2_at_21
  · have h_2 : (v).toInt < 0 ∨ (cz).toInt ≤ (v).toInt := h_2
    refine lv_if_eq (tgt := 20) hx hb dX2_at_8 (by decide) (fun _ => ?_) (fun c_ => absurd c_ (by decide))
    refine lv_null hx hb dX2_at_20 ?_
    exact W.aret (v := .null) hx hb hr (Or.inl ⟨_, rfl⟩) (Or.inl rfl) (fun t ht hW => ⟨none, rfl, ⟨cqOp.none, fun b9 h9 => (by cases h9), fun _ h9 => (by omega)⟩, ht⟩) (fun q h => by cases h) dX2_at_21

set_option maxHeartbeats 4000000 in
set_option maxRecDepth 100000 in
theorem c_X8_orderK (l : Launch) (D : va_G) (sz : Nat) (xo : Nat) (ro : Nat) (tI : Nat) (cS : Nat) (pN : Nat) (a1 : Nat) (a2 : Nat) (a3 : Nat) (a4 : Nat) (a5 : Nat) (a6 : Nat) (a7 : Nat) (a8 : Nat) (a9 : Nat) (e1 : ClassId) (e2 : ClassId) (e3 : ClassId) (e4 : ClassId) (e5 : ClassId) (e6 : ClassId) (e7 : ClassId) (e8 : ClassId) (e9 : ClassId) (na : Int32) (ns : Int32) (nw : Int32) (cp : Int32) (le : Int32) (tr : Int32) (sl : Int32) (tz : Int32) (cz : Int32) (q1 : Int32) (q2 : Int32) (q3 : Int32) (q4 : Int32) (g1 : Nat → Option Nat) (g2 : Nat → Option Nat) (g3 : Nat → Option Nat) (g4 : Nat → Option Nat) (g5 : Nat → Option Nat) (g6 : Nat → Option Nat) (g7 : Nat → Option Nat) (y8 : Nat → Int32) (y9 : Nat → Int32) (L : List Nat) (K : Nat → Nat × Nat) (f : Nat → va_E) (S : Int) (v : Int32) (V : Nat → Nat → Int) (Y : Nat → Nat → Int) (Nd : Nat → Int → Option Nat) (hI : cqI S L K f) (hna : 0 ≤ (na).toInt ∧ (na).toInt ≤ 200) (hns : 0 ≤ (ns).toInt ∧ (ns).toInt ≤ 30) (htz : 0 ≤ (tz).toInt ∧ (tz).toInt ≤ 60) (hcz : 0 ≤ (cz).toInt ∧ (cz).toInt ≤ 200) (j1 : cqJA L K (na).toInt g1) (j2 : cqJL L K ((na).toInt.toNat) g2) (j3 : cqJ L K 6 (ns).toInt g3) (j4 : cqJ L K 4 (tz).toInt g4) (j5 : cqJ L K 1 (cz).toInt g5) (hro : cqIs L K 3 ro) (hSb : 0 ≤ S ∧ S ≤ 500000) (hj9 : jN L K (na).toInt.toNat g1) (hV : cqV f g1 (na).toInt V) (hY : cqW f g4 (tz).toInt Y) (hS9 : tS f g1 g2 V (na).toInt.toNat) (hTR : tR L K f ro Nd V (na).toInt.toNat) (hA9 : tA f g1 Nd V (na).toInt.toNat) (hM : ∀ i j : Nat, i ≤ j → (j : Int) < (na).toInt → V i 1 ≤ V j 1) (hCm : ∀ i : Nat, (i : Int) < (na).toInt → 0 ≤ V i 1 ∧ V i 1 ≤ 10000) (hwo9 : ∀ i : Nat, (i : Int) < (na).toInt → 0 ≤ V i 5 ∧ V i 5 ≤ 100) (hyo : yOK Y (na).toInt.toNat (tz).toInt.toNat) (htc : tC L K f g1 (na).toInt.toNat) (hft : (sl).toInt = 0 → kFit V Y (na).toInt.toNat (tz).toInt.toNat (le).toInt f g1 g5 (cz).toInt.toNat) : Met l yX8_order wsX8_order ({ frames := 6, cells := 0, slots := 0, locals := 128 }) (va_Pc [.ref xo, .int v] (wz sz D [(e1, .object RX0), (e2, .object RX0), (e3, .object RX6), (e4, .object RX4), (e5, .object RX1), (e6, .object RX1), (e7, .object RX1), (e8, .int), (e9, .int)] ([oC xo 8 [.ref a1, .ref a2, .ref a3, .ref ro, .ref tI, .ref cS, .ref pN, .int na, .int ns, .int nw, .int cp, .int le, .int tr, .int sl], aR a1 e1 200 (g1), aR a2 e2 40 (g2), aR a3 e3 30 (g3), oC tI 7 [.ref a4, .int tz], aR a4 e4 60 (g4), oC cS 2 [.ref a5, .int cz], aR a5 e5 200 (g5), oC pN 5 [.ref a6, .ref a7, .ref a8, .ref a9, .int q1, .int q2, .int q3, .int q4], aR a6 e6 17 (g6), aR a7 e7 12 (g7), aI a8 e8 301 (y8), aI a9 e9 301 (y9)] ++ va_pl L f))) (va_Qi (fun (r : Int32) (_ : Unit) => (r).toInt = odrX V Y (na).toInt.toNat (tz).toInt.toNat (le).toInt (v).toInt) (fun _ t => ∃ (f9 : Nat → va_E), ∃ (cz9 : Int32), ∃ (g59 : Nat → Option Nat), ∃ (sl9 : Int32), (wp D [] (va_A ([oC xo 8 [.ref a1, .ref a2, .ref a3, .ref ro, .ref tI, .ref cS, .ref pN, .int na, .int ns, .int nw, .int cp, .int le, .int tr, .int sl], aR a1 e1 200 (g1), aR a2 e2 40 (g2), aR a3 e3 30 (g3), oC tI 7 [.ref a4, .int tz], aR a4 e4 60 (g4), oC cS 2 [.ref a5, .int cz], aR a5 e5 200 (g5), oC pN 5 [.ref a6, .ref a7, .ref a8, .ref a9, .int q1, .int q2, .int q3, .int q4], aR a6 e6 17 (g6), aR a7 e7 12 (g7), aI a8 e8 301 (y8), aI a9 e9 301 (y9)] ++ va_pl L f) sz) ([oC xo 8 [.ref a1, .ref a2, .ref a3, .ref ro, .ref tI, .ref cS, .ref pN, .int na, .int ns, .int nw, .int cp, .int le, .int tr, .int sl9], aR a1 e1 200 (g1), aR a2 e2 40 (g2), aR a3 e3 30 (g3), oC tI 7 [.ref a4, .int tz], aR a4 e4 60 (g4), oC cS 2 [.ref a5, .int cz9], aR a5 e5 200 (g59), oC pN 5 [.ref a6, .ref a7, .ref a8, .ref a9, .int q1, .int q2, .int q3, .int q4], aR a6 e6 17 (g6), aR a7 e7 12 (g7), aI a8 e8 301 (y8), aI a9 e9 301 (y9)] ++ va_pl L f9) t ∧ (cqI (S + 200) L K f9) ∧ (0 ≤ (cz9).toInt ∧ (cz9).toInt ≤ 200) ∧ (cqJ L K 1 (cz9).toInt g59) ∧ (cqT [(0, 16), (1, 1), (1, 2), (1, 3)] L K f f9) ∧ (tC L K f9 g1 (na).toInt.toNat) ∧ ((sl9).toInt = 0 → kFit V Y (na).toInt.toNat (tz).toInt.toNat (le).toInt f9 g1 g59 (cz9).toInt.toNat))) (va_A ([oC xo 8 [.ref a1, .ref a2, .ref a3, .ref ro, .ref tI, .ref cS, .ref pN, .int na, .int ns, .int nw, .int cp, .int le, .int tr, .int sl], aR a1 e1 200 (g1), aR a2 e2 40 (g2), aR a3 e3 30 (g3), oC tI 7 [.ref a4, .int tz], aR a4 e4 60 (g4), oC cS 2 [.ref a5, .int cz], aR a5 e5 200 (g5), oC pN 5 [.ref a6, .ref a7, .ref a8, .ref a9, .int q1, .int q2, .int q3, .int q4], aR a6 e6 17 (g6), aR a7 e7 12 (g7), aI a8 e8 301 (y8), aI a9 e9 301 (y9)] ++ va_pl L f) sz)) 0 0 (va_A ([oC xo 8 [.ref a1, .ref a2, .ref a3, .ref ro, .ref tI, .ref cS, .ref pN, .int na, .int ns, .int nw, .int cp, .int le, .int tr, .int sl], aR a1 e1 200 (g1), aR a2 e2 40 (g2), aR a3 e3 30 (g3), oC tI 7 [.ref a4, .int tz], aR a4 e4 60 (g4), oC cS 2 [.ref a5, .int cz], aR a5 e5 200 (g5), oC pN 5 [.ref a6, .ref a7, .ref a8, .ref a9, .int q1, .int q2, .int q3, .int q4], aR a6 e6 17 (g6), aR a7 e7 12 (g7), aI a8 e8 301 (y8), aI a9 e9 301 (y9)] ++ va_pl L f) sz) := by
  refine Met.ofW (cc := cX8_order) (maxL := 3) (ret := (some .int)) (by decide) rfl ?_
  intro p e s m args below meth c s₁ B hml hv
  obtain ⟨rfl, hsz, hP, hK, hD0, hN⟩ := hv
  have hx := B.exec
  have hb := B.bytes
  have hr := B.returns
  have hts := atoms_spec (ws := wsX8_order) B.pre
  have hown : s.vm.findClass RX8 = some m.cls := findClass_of_methodNamed B.named
  have hlocks := B.notSynchronized
  subst hsz
  have hD := hD0.self (sz := s.heap.size)
  generalize hAe : va_A ([oC xo 8 [.ref a1, .ref a2, .ref a3, .ref ro, .ref tI, .ref cS, .ref pN, .int na, .int ns, .int nw, .int cp, .int le, .int tr, .int sl], aR a1 e1 200 (g1), aR a2 e2 40 (g2), aR a3 e3 30 (g3), oC tI 7 [.ref a4, .int tz], aR a4 e4 60 (g4), oC cS 2 [.ref a5, .int cz], aR a5 e5 200 (g5), oC pN 5 [.ref a6, .ref a7, .ref a8, .ref a9, .int q1, .int q2, .int q3, .int q4], aR a6 e6 17 (g6), aR a7 e7 12 (g7), aI a8 e8 301 (y8), aI a9 e9 301 (y9)] ++ va_pl L f) s.heap.size = A at hD ⊢
  have hA : ∀ q : Nat, s.heap.size ≤ q → A q := fun q h => by rw [← hAe]; exact Or.inr h
  have hS : va_S A s.heap s.heap [] := va_S.rf
  have hin_X1 : ∀ w ∈ u_ws RX1 TX1 4, w ∈ wsX8_order := fun w h => List.mem_cons_of_mem _ (List.mem_append_left _ (List.mem_append_left _ (List.mem_append_left _ (List.mem_append_left _ (List.mem_append_left _ (List.mem_append_left _ (List.mem_append_right _ (h))))))))
  have hl := lv_entry ([.ref xo, .int v]) (n := 3) (Nat.le_of_ble_eq_true rfl)
  rw [lg_entry_eq]
  generalize (lg_sl ([.ref xo, .int v]) ++ List.replicate (3 - (lg_sl ([.ref xo, .int v])).length) Slot.unset).toArray = ls at hl ⊢
  have hl : lv_has ls 3 [(0, .ref xo), (1, .int v)] := hl
  have hT0 : cqT [(0, 16), (1, 1), (1, 2), (1, 3)] L K f f := cqT.rf
  have hG0 : cqG L K L K := cqG.rf
  refine lv_aload_n hx hb dX8_order_0 rfl (lv_at hl 0 rfl) ?_
  refine va_callr (wwV (mc := 0) (ms := 0) (As := []) (rest := []) ⟨hx, hb, hml, hown, hts⟩ hN hK hP hD (c_X8_casesNowK l D s.heap.size xo ro tI cS pN a1 a2 a3 a4 a5 a6 a7 a8 a9 e1 e2 e3 e4 e5 e6 e7 e8 e9 na ns nw cp le tr sl tz cz q1 q2 q3 q4 g1 g2 g3 g4 g5 g6 g7 y8 y9 L K f S V Y Nd hI (by first | omega | assumption | decide | (have h3 : (0 : Int32).toInt = 0 := rfl; omega) | (have h3 : (0 : Int32).toInt = 0 := rfl; have h4 : (1 : Int32).toInt = 1 := rfl; have h5 : (-1 : Int32).toInt = -1 := rfl; omega)) j1 (by first | omega | assumption | decide | (have h3 : (0 : Int32).toInt = 0 := rfl; omega) | (have h3 : (0 : Int32).toInt = 0 := rfl; have h4 : (1 : Int32).toInt = 1 := rfl; have h5 : (-1 : Int32).toInt = -1 := rfl; omega)) j4 (by first | omega | assumption | decide | (have h3 : (0 : Int32).toInt = 0 := rfl; omega) | (have h3 : (0 : Int32).toInt = 0 := rfl; have h4 : (1 : Int32).toInt = 1 := rfl; have h5 : (-1 : Int32).toInt = -1 := rfl; omega)) j5 (by first | omega | assumption | decide | (have h3 : (0 : Int32).toInt = 0 := rfl; omega) | (have h3 : (0 : Int32).toInt = 0 := rfl; have h4 : (1 : Int32).toInt = 1 := rfl; have h5 : (-1 : Int32).toInt = -1 := rfl; omega)) hj9 hV hY hS9 hTR hA9 hM hCm hwo9 hyo htc hft) (cwV 0 hts gX8_order_X8_casesNow rfl rfl rfl (by decide +kernel) ⟨(Nat.le_of_ble_eq_true rfl), (Nat.le_of_ble_eq_true rfl)⟩) 8 rfl ⟨0, _, rfl⟩ rfl hl.1 rfl (Nat.le_of_ble_eq_true rfl) dX8_order_1 ⟨(Nat.le_of_ble_eq_true rfl), (Nat.le_of_ble_eq_true rfl)⟩) hS (fun q _ h => wfree hD hS hA q h) (wfree hD hS hA) (fun u q_2 t H_1 locs1 ht hvm hw hB hz1 hk1 hS1 => ?_)
  obtain ⟨f_3, cz_4, g_5, sl_6, hB, h_7a, h_7b, h_7c, h_7d, h_7e, h_7f, h_7g, h_7h⟩ := hB
  obtain ⟨hP, hD⟩ := wj hB ht (wfree hD hS hA)
  have hS := hS1
  have h_7a : cqI (S + 200) L K f_3 := h_7a
  have h_7b : 0 ≤ (cz_4).toInt ∧ (cz_4).toInt ≤ 200 := h_7b
  have h_7c : cqJ L K 1 (cz_4).toInt g_5 := h_7c
  have h_7d : q_2 = cS := h_7d
  have h_7e : cqT [(0, 16), (1, 1), (1, 2), (1, 3)] L K f f_3 := h_7e
  have h_7f : tC L K f_3 g1 (na).toInt.toNat := h_7f
  have h_7g : kFit V Y (na).toInt.toNat (tz).toInt.toNat (le).toInt f_3 g1 g_5 (cz_4).toInt.toNat := h_7g
  have h_7h : (sl_6).toInt = 0 := h_7h
  have hI : cqI (S + 200) L K f_3 := h_7a
  have hT_8 := hT0.thenG hG0 (h_7e.weak (by decide))
  have hP : va_P D vwCl ([oC xo 8 [.ref a1, .ref a2, .ref a3, .ref ro, .ref tI, .ref cS, .ref pN, .int na, .int ns, .int nw, .int cp, .int le, .int tr, .int sl_6], aR a1 e1 200 (g1), aR a2 e2 40 (g2), aR a3 e3 30 (g3), oC tI 7 [.ref a4, .int tz], aR a4 e4 60 (g4), oC cS 2 [.ref a5, .int cz_4], aR a5 e5 200 (g_5), oC pN 5 [.ref a6, .ref a7, .ref a8, .ref a9, .int q1, .int q2, .int q3, .int q4], aR a6 e6 17 (g6), aR a7 e7 12 (g7), aI a8 e8 301 (y8), aI a9 e9 301 (y9)] ++ va_pl L f_3) H_1 := hP
  have hD : va_D A ([oC xo 8 [.ref a1, .ref a2, .ref a3, .ref ro, .ref tI, .ref cS, .ref pN, .int na, .int ns, .int nw, .int cp, .int le, .int tr, .int sl_6], aR a1 e1 200 (g1), aR a2 e2 40 (g2), aR a3 e3 30 (g3), oC tI 7 [.ref a4, .int tz], aR a4 e4 60 (g4), oC cS 2 [.ref a5, .int cz_4], aR a5 e5 200 (g_5), oC pN 5 [.ref a6, .ref a7, .ref a8, .ref a9, .int q1, .int q2, .int q3, .int q4], aR a6 e6 17 (g6), aR a7 e7 12 (g7), aI a8 e8 301 (y8), aI a9 e9 301 (y9)] ++ va_pl L f_3) := hD
  refine lv_topv (z := .ref cS) (congrArg Value.ref h_7d) ?_
  obtain ⟨c9, u9, eq9, lab9, cs9, cz9, oq9⟩ := kFit.full h_7g
  have hVc := hV.fr j1 h_7e (by decide)
  refine lv_iload_n hx hb dX8_order_4 rfl (lv_at hl 1 rfl) ?_
  refine va_csq (wrV (As := [.int v]) (rest := []) ⟨hx, hb, hml, hown, hts⟩ hN hK hP hD (c_X2_atK l D xo ro tI cS pN a1 a2 a3 a4 a5 a6 a7 a8 a9 e1 e2 e3 e4 e5 e6 e7 e8 e9 na ns nw cp le tr sl_6 tz cz_4 q1 q2 q3 q4 g1 g2 g3 g4 g_5 g6 g7 y8 y9 L K f_3 (S + 200) v hI (by first | omega | assumption | decide | (have h3 : (0 : Int32).toInt = 0 := rfl; omega) | (have h3 : (0 : Int32).toInt = 0 := rfl; have h4 : (1 : Int32).toInt = 1 := rfl; have h5 : (-1 : Int32).toInt = -1 := rfl; omega)) h_7c) (cwV 1 hts gX8_order_X2_at rfl rfl rfl (by decide +kernel) ⟨(Nat.le_of_ble_eq_true rfl), (Nat.le_of_ble_eq_true rfl)⟩) 2 rfl ⟨6, _, rfl⟩ rfl hl.1 rfl (Nat.le_of_ble_eq_true rfl) dX8_order_5 ⟨(Nat.le_of_ble_eq_true rfl), (Nat.le_of_ble_eq_true rfl)⟩) (fun r_9 h_10 => ?_)
  obtain ⟨h_10, xh_10⟩ := h_10
  have h_10 : cqOp L K 1 r_9 := h_10
  have xh_10 : atS (cz_4).toInt (v).toInt (v).toInt.toNat g_5 r_9 := xh_10
  refine q_astore_n (r := r_9) (lv' := [(2, va_rf r_9), (0, .ref xo), (1, .int v)]) hx hb dX8_order_8 rfl hl (by decide) rfl (fun ls hl => ?_)
  refine q_aload_n hx hb dX8_order_9 rfl (lv_at hl 0 rfl) ?_
  rcases r_9 with _ | b_11
  · have hl : lv_has ls 3 [(2, .null), (0, .ref xo), (1, .int v)] := hl
    refine lv_ifnonnullN hx hb dX8_order_10 ?_
    refine lv_iconst (v := (-1)) hx hb dX8_order_13 (by decide) ?_
    refine lv_goto (tgt := 21) hx hb dX8_order_14 (by decide) ?_
    refine W.widen (k := 0) (n := 0) (Nat.le_of_ble_eq_true rfl) (Nat.le_of_ble_eq_true rfl) ?_
    exact W.iret (v := (-1)) hx hb hr (fun t ht hW => ⟨⟨(-1), (), rfl, (by have h9 := xh_10.2 rfl; unfold odrX; rw [← cz9, if_neg (by omega)]; rfl), f_3, cz_4, g_5, sl_6, ⟨by rw [ht]; exact hP, va_K.moved hW.alike (hK.sub (tys' := []) [] rfl), hD⟩, (hI.more (by omega)), (by first | omega | assumption | decide | (have h3 : (0 : Int32).toInt = 0 := rfl; omega) | (have h3 : (0 : Int32).toInt = 0 := rfl; have h4 : (1 : Int32).toInt = 1 := rfl; have h5 : (-1 : Int32).toInt = -1 := rfl; omega)), h_7c, h_7e, h_7f, (fun _ => h_7g)⟩, hS.F ht⟩) hS.2.2 dX8_order_21
  · have hl : lv_has ls 3 [(2, .ref b_11), (0, .ref xo), (1, .int v)] := hl
    have is_12 := h_10 b_11 rfl
    refine lv_ifnonnull (tgt := 17) hx hb dX8_order_10 (by decide) ?_
    refine lv_aload_n hx hb dX8_order_17 rfl (lv_at hl 0 rfl) ?_
    obtain ⟨cn_13, sz_13, sc_13, li_13, hf_13, hs0_13, hs1_13⟩ := hI.opC is_12
    have F0hf_13 : cqF (f_3 b_11) 0 = (cn_13).toInt := by rw [hf_13]; rfl
    have F1hf_13 : cqF (f_3 b_11) 1 = (sz_13).toInt := by rw [hf_13]; rfl
    have F2hf_13 : cqF (f_3 b_11) 2 = (sc_13).toInt := by rw [hf_13]; rfl
    have F3hf_13 : cqF (f_3 b_11) 3 = (li_13).toInt := by rw [hf_13]; rfl
    refine pl_get (D := D) (ci := 1) (v := .int cn_13) (C := RX1) (T := TX1) (N := 4) hx hb hts hin_X1 hown hK hP is_12.1 hf_13 rfl 0 (by decide) (hts (.fieldLink RX8 222 "CryOrder$Case" "number" "I") (List.mem_cons_of_mem _ (List.mem_append_left _ (List.mem_append_left _ (List.mem_append_left _ (List.mem_append_left _ (List.mem_append_left _ (List.mem_append_left _ (List.mem_append_left _ (List.mem_append_left _ (List.mem_of_getElem? (i := 0) rfl))))))))))) (fun _ h9 => h9) rfl dX8_order_18 ?_
    refine W.widen (k := 0) (n := 0) (Nat.le_of_ble_eq_true rfl) (Nat.le_of_ble_eq_true rfl) ?_
    exact W.iret (v := cn_13) hx hb hr (fun t ht hW => ⟨⟨cn_13, (), rfl, (by obtain ⟨h9, h8⟩ := xh_10.1 _ rfl; obtain ⟨d9, ⟨b9, l1, l2⟩, l3⟩ := oq9 (v).toInt.toNat (by omega); have l4 : b_11 = d9 := Option.some.inj (h8.symm.trans l3); rw [← l4] at l2; have l5 := (h_7f.at (orS_mem (na).toInt.toNat (v).toInt.toNat (by show _ < (orX V Y (na).toInt.toNat (tz).toInt.toNat (le).toInt).2; omega)).1 l1 l2).2; have l6 : cqF (f_3 b_11) 0 = (cn_13).toInt := (by rw [hf_13]; rfl); unfold odrX; rw [← cz9, if_pos (by omega), ← l6]; exact l5), f_3, cz_4, g_5, sl_6, ⟨by rw [ht]; exact hP, va_K.moved hW.alike (hK.sub (tys' := []) [] rfl), hD⟩, (hI.more (by omega)), (by first | omega | assumption | decide | (have h3 : (0 : Int32).toInt = 0 := rfl; omega) | (have h3 : (0 : Int32).toInt = 0 := rfl; have h4 : (1 : Int32).toInt = 1 := rfl; have h5 : (-1 : Int32).toInt = -1 := rfl; omega)), h_7c, h_7e, h_7f, (fun _ => h_7g)⟩, hS.F ht⟩) hS.2.2 dX8_order_21
