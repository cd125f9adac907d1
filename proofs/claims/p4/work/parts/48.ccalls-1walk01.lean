set_option maxHeartbeats 4000000 in
set_option maxRecDepth 100000 in
theorem c_X8_set (l : Launch) (D : va_G) (sz : Nat) (xo : Nat) (ro : Nat) (tI : Nat) (cS : Nat) (pN : Nat) (a1 : Nat) (a2 : Nat) (a3 : Nat) (a4 : Nat) (a5 : Nat) (a6 : Nat) (a7 : Nat) (a8 : Nat) (a9 : Nat) (e1 : ClassId) (e2 : ClassId) (e3 : ClassId) (e4 : ClassId) (e5 : ClassId) (e6 : ClassId) (e7 : ClassId) (e8 : ClassId) (e9 : ClassId) (na : Int32) (ns : Int32) (nw : Int32) (cp : Int32) (le : Int32) (tr : Int32) (sl : Int32) (tz : Int32) (cz : Int32) (q1 : Int32) (q2 : Int32) (q3 : Int32) (q4 : Int32) (g1 : Nat → Option Nat) (g2 : Nat → Option Nat) (g3 : Nat → Option Nat) (g4 : Nat → Option Nat) (g5 : Nat → Option Nat) (g6 : Nat → Option Nat) (g7 : Nat → Option Nat) (y8 : Nat → Int32) (y9 : Nat → Int32) (L : List Nat) (K : Nat → Nat × Nat) (f : Nat → va_E) (S : Int) (v : Int32) (w : Int32) (hI : cqI S L K f) (hna : 0 ≤ (na).toInt ∧ (na).toInt ≤ 200) (hns : 0 ≤ (ns).toInt ∧ (ns).toInt ≤ 30) (htz : 0 ≤ (tz).toInt ∧ (tz).toInt ≤ 60) (hcz : 0 ≤ (cz).toInt ∧ (cz).toInt ≤ 200) (j1 : cqJA L K (na).toInt g1) (j2 : cqJL L K ((na).toInt.toNat) g2) (j3 : cqJ L K 6 (ns).toInt g3) (j4 : cqJ L K 4 (tz).toInt g4) (j5 : cqJ L K 1 (cz).toInt g5) (hro : cqIs L K 3 ro) (hSb : 0 ≤ S ∧ S ≤ 500000) : Met l yX8_set wsX8_set ({ frames := 0, cells := 0, slots := 0, locals := 0 }) (va_Pc [.ref xo, .int v, .int w] (wz sz D [(e1, .object RX0), (e2, .object RX0), (e3, .object RX6), (e4, .object RX4), (e5, .object RX1), (e6, .object RX1), (e7, .object RX1), (e8, .int), (e9, .int)] ([oC xo 8 [.ref a1, .ref a2, .ref a3, .ref ro, .ref tI, .ref cS, .ref pN, .int na, .int ns, .int nw, .int cp, .int le, .int tr, .int sl], aR a1 e1 200 (g1), aR a2 e2 40 (g2), aR a3 e3 30 (g3), oC tI 7 [.ref a4, .int tz], aR a4 e4 60 (g4), oC cS 2 [.ref a5, .int cz], aR a5 e5 200 (g5), oC pN 5 [.ref a6, .ref a7, .ref a8, .ref a9, .int q1, .int q2, .int q3, .int q4], aR a6 e6 17 (g6), aR a7 e7 12 (g7), aI a8 e8 301 (y8), aI a9 e9 301 (y9)] ++ va_pl L f))) (va_Qi (fun (r : Int32) (_ : Unit) => r = F_set v w) (fun _ t => ∃ (cp9 : Int32), ∃ (le9 : Int32), ∃ (tr9 : Int32), ∃ (sl9 : Int32), wp D [] (va_A ([oC xo 8 [.ref a1, .ref a2, .ref a3, .ref ro, .ref tI, .ref cS, .ref pN, .int na, .int ns, .int nw, .int cp, .int le, .int tr, .int sl], aR a1 e1 200 (g1), aR a2 e2 40 (g2), aR a3 e3 30 (g3), oC tI 7 [.ref a4, .int tz], aR a4 e4 60 (g4), oC cS 2 [.ref a5, .int cz], aR a5 e5 200 (g5), oC pN 5 [.ref a6, .ref a7, .ref a8, .ref a9, .int q1, .int q2, .int q3, .int q4], aR a6 e6 17 (g6), aR a7 e7 12 (g7), aI a8 e8 301 (y8), aI a9 e9 301 (y9)] ++ va_pl L f) sz) ([oC xo 8 [.ref a1, .ref a2, .ref a3, .ref ro, .ref tI, .ref cS, .ref pN, .int na, .int ns, .int nw, .int cp9, .int le9, .int tr9, .int sl9], aR a1 e1 200 (g1), aR a2 e2 40 (g2), aR a3 e3 30 (g3), oC tI 7 [.ref a4, .int tz], aR a4 e4 60 (g4), oC cS 2 [.ref a5, .int cz], aR a5 e5 200 (g5), oC pN 5 [.ref a6, .ref a7, .ref a8, .ref a9, .int q1, .int q2, .int q3, .int q4], aR a6 e6 17 (g6), aR a7 e7 12 (g7), aI a8 e8 301 (y8), aI a9 e9 301 (y9)] ++ va_pl L f) t) (va_A ([oC xo 8 [.ref a1, .ref a2, .ref a3, .ref ro, .ref tI, .ref cS, .ref pN, .int na, .int ns, .int nw, .int cp, .int le, .int tr, .int sl], aR a1 e1 200 (g1), aR a2 e2 40 (g2), aR a3 e3 30 (g3), oC tI 7 [.ref a4, .int tz], aR a4 e4 60 (g4), oC cS 2 [.ref a5, .int cz], aR a5 e5 200 (g5), oC pN 5 [.ref a6, .ref a7, .ref a8, .ref a9, .int q1, .int q2, .int q3, .int q4], aR a6 e6 17 (g6), aR a7 e7 12 (g7), aI a8 e8 301 (y8), aI a9 e9 301 (y9)] ++ va_pl L f) sz)) 0 0 (va_A ([oC xo 8 [.ref a1, .ref a2, .ref a3, .ref ro, .ref tI, .ref cS, .ref pN, .int na, .int ns, .int nw, .int cp, .int le, .int tr, .int sl], aR a1 e1 200 (g1), aR a2 e2 40 (g2), aR a3 e3 30 (g3), oC tI 7 [.ref a4, .int tz], aR a4 e4 60 (g4), oC cS 2 [.ref a5, .int cz], aR a5 e5 200 (g5), oC pN 5 [.ref a6, .ref a7, .ref a8, .ref a9, .int q1, .int q2, .int q3, .int q4], aR a6 e6 17 (g6), aR a7 e7 12 (g7), aI a8 e8 301 (y8), aI a9 e9 301 (y9)] ++ va_pl L f) sz) := by
  refine Met.ofW (cc := cX8_set) (maxL := 3) (ret := (some .boolean)) (by decide) rfl ?_
  intro p e s m args below meth c s₁ B hml hv
  obtain ⟨rfl, hsz, hP, hK, hD0, hN⟩ := hv
  have hx := B.exec
  have hb := B.bytes
  have hr := B.returns
  have hts := atoms_spec (ws := wsX8_set) B.pre
  have hown : s.vm.findClass RX8 = some m.cls := findClass_of_methodNamed B.named
  have hlocks := B.notSynchronized
  subst hsz
  have hD := hD0.self (sz := s.heap.size)
  generalize hAe : va_A ([oC xo 8 [.ref a1, .ref a2, .ref a3, .ref ro, .ref tI, .ref cS, .ref pN, .int na, .int ns, .int nw, .int cp, .int le, .int tr, .int sl], aR a1 e1 200 (g1), aR a2 e2 40 (g2), aR a3 e3 30 (g3), oC tI 7 [.ref a4, .int tz], aR a4 e4 60 (g4), oC cS 2 [.ref a5, .int cz], aR a5 e5 200 (g5), oC pN 5 [.ref a6, .ref a7, .ref a8, .ref a9, .int q1, .int q2, .int q3, .int q4], aR a6 e6 17 (g6), aR a7 e7 12 (g7), aI a8 e8 301 (y8), aI a9 e9 301 (y9)] ++ va_pl L f) s.heap.size = A at hD ⊢
  have hA : ∀ q : Nat, s.heap.size ≤ q → A q := fun q h => by rw [← hAe]; exact Or.inr h
  have hS : va_S A s.heap s.heap [] := va_S.rf
  have hin_X8 : ∀ w ∈ u_ws RX8 TX8 14, w ∈ wsX8_set := by decide +kernel
  have hl := lv_entry ([.ref xo, .int v, .int w]) (n := 3) (Nat.le_of_ble_eq_true rfl)
  rw [lg_entry_eq]
  generalize (lg_sl ([.ref xo, .int v, .int w]) ++ List.replicate (3 - (lg_sl ([.ref xo, .int v, .int w])).length) Slot.unset).toArray = ls at hl ⊢
  have hl : lv_has ls 3 [(0, .ref xo), (1, .int v), (2, .int w)] := hl
  refine lv_iload_n hx hb dX8_set_0 rfl (lv_at hl 1 rfl) ?_
  refine bz_ne (zx := (v).toInt) (tgt := 22) hx hb dX8_set_1 (by decide) rfl (fun c_1 => ?_) (fun c_1 => ?_)
  · refine lv_iload_n hx hb dX8_set_22 rfl (lv_at hl 1 rfl) ?_
    refine lv_iconst (v := 1) hx hb dX8_set_23 (by decide) ?_
    refine bi_ne (zx := (v).toInt) (zy := 1) (tgt := 50) hx hb dX8_set_24 (by decide) rfl (by decide) (fun c_2 => ?_) (fun c_2 => ?_)
    · refine lv_iload_n hx hb dX8_set_50 rfl (lv_at hl 1 rfl) ?_
      refine lv_iconst (v := 2) hx hb dX8_set_51 (by decide) ?_
      refine bi_ne (zx := (v).toInt) (zy := 2) (tgt := 71) hx hb dX8_set_52 (by decide) rfl (by decide) (fun c_3 => ?_) (fun c_3 => ?_)
      · refine lv_iconst (v := 0) hx hb dX8_set_71 (by decide) ?_
        refine W.widen (k := 0) (n := 0) (Nat.le_of_ble_eq_true rfl) (Nat.le_of_ble_eq_true rfl) ?_
        exact W.zret (v := 0) hx hb hr rfl (fun t ht hW => ⟨⟨0, (), rfl, (by unfold F_set; first | exact (if_pos (by omega)).symm | exact (if_neg (by omega)).symm), cp, le, tr, sl, by rw [ht]; exact hP, va_K.moved hW.alike (hK.sub (tys' := []) [] rfl), hD⟩, hS.F ht⟩) hS.2.2 dX8_set_72
      · refine lv_iload_n hx hb dX8_set_55 rfl (lv_at hl 2 rfl) ?_
        refine bz_lt (zx := (w).toInt) (tgt := 71) hx hb dX8_set_56 (by decide) rfl (fun c_4 => ?_) (fun c_4 => ?_)
        · refine lv_iconst (v := 0) hx hb dX8_set_71 (by decide) ?_
          refine W.widen (k := 0) (n := 0) (Nat.le_of_ble_eq_true rfl) (Nat.le_of_ble_eq_true rfl) ?_
          exact W.zret (v := 0) hx hb hr rfl (fun t ht hW => ⟨⟨0, (), rfl, (by unfold F_set; first | exact (if_pos (by omega)).symm | exact (if_neg (by omega)).symm), cp, le, tr, sl, by rw [ht]; exact hP, va_K.moved hW.alike (hK.sub (tys' := []) [] rfl), hD⟩, hS.F ht⟩) hS.2.2 dX8_set_72
        · refine lv_iload_n hx hb dX8_set_59 rfl (lv_at hl 2 rfl) ?_
          refine lv_iconst (v := 5) hx hb dX8_set_60 (by decide) ?_
          refine bi_gt (zx := (w).toInt) (zy := 5) (tgt := 71) hx hb dX8_set_61 (by decide) rfl (by decide) (fun c_5 => ?_) (fun c_5 => ?_)
          · refine lv_iconst (v := 0) hx hb dX8_set_71 (by decide) ?_
            refine W.widen (k := 0) (n := 0) (Nat.le_of_ble_eq_true rfl) (Nat.le_of_ble_eq_true rfl) ?_
            exact W.zret (v := 0) hx hb hr rfl (fun t ht hW => ⟨⟨0, (), rfl, (by unfold F_set; first | exact (if_pos (by omega)).symm | exact (if_neg (by omega)).symm), cp, le, tr, sl, by rw [ht]; exact hP, va_K.moved hW.alike (hK.sub (tys' := []) [] rfl), hD⟩, hS.F ht⟩) hS.2.2 dX8_set_72
          · refine lv_aload_n hx hb dX8_set_64 rfl (lv_at hl 0 rfl) ?_
            refine lv_iload_n hx hb dX8_set_65 rfl (lv_at hl 2 rfl) ?_
            refine va_put (D := D) (ci := 8) (v := .int w) (ty := .int) (C := RX8) (T := TX8) (N := 14) hx hb hts hin_X8 tyX8 tyX8_ok nmX8 hown hK hP hD hS 0 rfl rfl 12 (by decide) (hts (.fieldLink RX8 122 "CryOrder" "tries" "I") (by decide +kernel)) (fun _ h9 => h9) rfl (by decide +kernel) rfl rfl (Nat.le_of_ble_eq_true rfl) dX8_set_66 (fun H_6 locs hP hD hS => ?_)
            have hP : va_P D vwCl ([oC xo 8 [.ref a1, .ref a2, .ref a3, .ref ro, .ref tI, .ref cS, .ref pN, .int na, .int ns, .int nw, .int cp, .int le, .int w, .int sl], aR a1 e1 200 (g1), aR a2 e2 40 (g2), aR a3 e3 30 (g3), oC tI 7 [.ref a4, .int tz], aR a4 e4 60 (g4), oC cS 2 [.ref a5, .int cz], aR a5 e5 200 (g5), oC pN 5 [.ref a6, .ref a7, .ref a8, .ref a9, .int q1, .int q2, .int q3, .int q4], aR a6 e6 17 (g6), aR a7 e7 12 (g7), aI a8 e8 301 (y8), aI a9 e9 301 (y9)] ++ va_pl L f) H_6 := hP
            have hD : va_D A ([oC xo 8 [.ref a1, .ref a2, .ref a3, .ref ro, .ref tI, .ref cS, .ref pN, .int na, .int ns, .int nw, .int cp, .int le, .int w, .int sl], aR a1 e1 200 (g1), aR a2 e2 40 (g2), aR a3 e3 30 (g3), oC tI 7 [.ref a4, .int tz], aR a4 e4 60 (g4), oC cS 2 [.ref a5, .int cz], aR a5 e5 200 (g5), oC pN 5 [.ref a6, .ref a7, .ref a8, .ref a9, .int q1, .int q2, .int q3, .int q4], aR a6 e6 17 (g6), aR a7 e7 12 (g7), aI a8 e8 301 (y8), aI a9 e9 301 (y9)] ++ va_pl L f) := hD
            refine lv_iconst (v := 1) hx hb dX8_set_69 (by decide) ?_
            refine W.widen (k := 0) (n := 0) (Nat.le_of_ble_eq_true rfl) (Nat.le_of_ble_eq_true rfl) ?_
            exact W.zret (v := 1) hx hb hr rfl (fun t ht hW => ⟨⟨1, (), rfl, (by unfold F_set; first | exact (if_pos (by omega)).symm | exact (if_neg (by omega)).symm), cp, le, w, sl, by rw [ht]; exact hP, va_K.moved hW.alike (hK.sub (tys' := []) [] rfl), hD⟩, hS.F ht⟩) hS.2.2 dX8_set_70
    · refine lv_iload_n hx hb dX8_set_27 rfl (lv_at hl 2 rfl) ?_
      refine lv_iconst (v := 1) hx hb dX8_set_28 (by decide) ?_
      refine bi_lt (zx := (w).toInt) (zy := 1) (tgt := 50) hx hb dX8_set_29 (by decide) rfl (by decide) (fun c_7 => ?_) (fun c_7 => ?_)
      · refine lv_iload_n hx hb dX8_set_50 rfl (lv_at hl 1 rfl) ?_
        refine lv_iconst (v := 2) hx hb dX8_set_51 (by decide) ?_
        refine bi_ne (zx := (v).toInt) (zy := 2) (tgt := 71) hx hb dX8_set_52 (by decide) rfl (by decide) (fun c_8 => ?_) (fun c_8 => ?_)
        · refine lv_iconst (v := 0) hx hb dX8_set_71 (by decide) ?_
          refine W.widen (k := 0) (n := 0) (Nat.le_of_ble_eq_true rfl) (Nat.le_of_ble_eq_true rfl) ?_
          exact W.zret (v := 0) hx hb hr rfl (fun t ht hW => ⟨⟨0, (), rfl, (by unfold F_set; first | exact (if_pos (by omega)).symm | exact (if_neg (by omega)).symm), cp, le, tr, sl, by rw [ht]; exact hP, va_K.moved hW.alike (hK.sub (tys' := []) [] rfl), hD⟩, hS.F ht⟩) hS.2.2 dX8_set_72
        · refine lv_iload_n hx hb dX8_set_55 rfl (lv_at hl 2 rfl) ?_
          refine bz_lt (zx := (w).toInt) (tgt := 71) hx hb dX8_set_56 (by decide) rfl (fun c_9 => ?_) (fun c_9 => ?_)
          · refine lv_iconst (v := 0) hx hb dX8_set_71 (by decide) ?_
            refine W.widen (k := 0) (n := 0) (Nat.le_of_ble_eq_true rfl) (Nat.le_of_ble_eq_true rfl) ?_
            exact W.zret (v := 0) hx hb hr rfl (fun t ht hW => ⟨⟨0, (), rfl, (by unfold F_set; first | exact (if_pos (by omega)).symm | exact (if_neg (by omega)).symm), cp, le, tr, sl, by rw [ht]; exact hP, va_K.moved hW.alike (hK.sub (tys' := []) [] rfl), hD⟩, hS.F ht⟩) hS.2.2 dX8_set_72
          · refine lv_iload_n hx hb dX8_set_59 rfl (lv_at hl 2 rfl) ?_
            refine lv_iconst (v := 5) hx hb dX8_set_60 (by decide) ?_
            refine bi_gt (zx := (w).toInt) (zy := 5) (tgt := 71) hx hb dX8_set_61 (by decide) rfl (by decide) (fun c_10 => ?_) (fun c_10 => ?_)
            · refine lv_iconst (v := 0) hx hb dX8_set_71 (by decide) ?_
              refine W.widen (k := 0) (n := 0) (Nat.le_of_ble_eq_true rfl) (Nat.le_of_ble_eq_true rfl) ?_
              exact W.zret (v := 0) hx hb hr rfl (fun t ht hW => ⟨⟨0, (), rfl, (by unfold F_set; first | exact (if_pos (by omega)).symm | exact (if_neg (by omega)).symm), cp, le, tr, sl, by rw [ht]; exact hP, va_K.moved hW.alike (hK.sub (tys' := []) [] rfl), hD⟩, hS.F ht⟩) hS.2.2 dX8_set_72
            · refine lv_aload_n hx hb dX8_set_64 rfl (lv_at hl 0 rfl) ?_
              refine lv_iload_n hx hb dX8_set_65 rfl (lv_at hl 2 rfl) ?_
              refine va_put (D := D) (ci := 8) (v := .int w) (ty := .int) (C := RX8) (T := TX8) (N := 14) hx hb hts hin_X8 tyX8 tyX8_ok nmX8 hown hK hP hD hS 0 rfl rfl 12 (by decide) (hts (.fieldLink RX8 122 "CryOrder" "tries" "I") (by decide +kernel)) (fun _ h9 => h9) rfl (by decide +kernel) rfl rfl (Nat.le_of_ble_eq_true rfl) dX8_set_66 (fun H_11 locs hP hD hS => ?_)
              have hP : va_P D vwCl ([oC xo 8 [.ref a1, .ref a2, .ref a3, .ref ro, .ref tI, .ref cS, .ref pN, .int na, .int ns, .int nw, .int cp, .int le, .int w, .int sl], aR a1 e1 200 (g1), aR a2 e2 40 (g2), aR a3 e3 30 (g3), oC tI 7 [.ref a4, .int tz], aR a4 e4 60 (g4), oC cS 2 [.ref a5, .int cz], aR a5 e5 200 (g5), oC pN 5 [.ref a6, .ref a7, .ref a8, .ref a9, .int q1, .int q2, .int q3, .int q4], aR a6 e6 17 (g6), aR a7 e7 12 (g7), aI a8 e8 301 (y8), aI a9 e9 301 (y9)] ++ va_pl L f) H_11 := hP
              have hD : va_D A ([oC xo 8 [.ref a1, .ref a2, .ref a3, .ref ro, .ref tI, .ref cS, .ref pN, .int na, .int ns, .int nw, .int cp, .int le, .int w, .int sl], aR a1 e1 200 (g1), aR a2 e2 40 (g2), aR a3 e3 30 (g3), oC tI 7 [.ref a4, .int tz], aR a4 e4 60 (g4), oC cS 2 [.ref a5, .int cz], aR a5 e5 200 (g5), oC pN 5 [.ref a6, .ref a7, .ref a8, .ref a9, .int q1, .int q2, .int q3, .int q4], aR a6 e6 17 (g6), aR a7 e7 12 (g7), aI a8 e8 301 (y8), aI a9 e9 301 (y9)] ++ va_pl L f) := hD
              refine lv_iconst (v := 1) hx hb dX8_set_69 (by decide) ?_
              refine W.widen (k := 0) (n := 0) (Nat.le_of_ble_eq_true rfl) (Nat.le_of_ble_eq_true rfl) ?_
              exact W.zret (v := 1) hx hb hr rfl (fun t ht hW => ⟨⟨1, (), rfl, (by unfold F_set; first | exact (if_pos (by omega)).symm | exact (if_neg (by omega)).symm), cp, le, w, sl, by rw [ht]; exact hP, va_K.moved hW.alike (hK.sub (tys' := []) [] rfl), hD⟩, hS.F ht⟩) hS.2.2 dX8_set_70
      · refine lv_iload_n hx hb dX8_set_32 rfl (lv_at hl 2 rfl) ?_
        refine lv_bipush (v := 20) hx hb dX8_set_33 (by decide) ?_
        refine bi_gt (zx := (w).toInt) (zy := 20) (tgt := 50) hx hb dX8_set_35 (by decide) rfl (by decide) (fun c_12 => ?_) (fun c_12 => ?_)
        · refine lv_iload_n hx hb dX8_set_50 rfl (lv_at hl 1 rfl) ?_
          refine lv_iconst (v := 2) hx hb dX8_set_51 (by decide) ?_
          refine bi_ne (zx := (v).toInt) (zy := 2) (tgt := 71) hx hb dX8_set_52 (by decide) rfl (by decide) (fun c_13 => ?_) (fun c_13 => ?_)
          · refine lv_iconst (v := 0) hx hb dX8_set_71 (by decide) ?_
            refine W.widen (k := 0) (n := 0) (Nat.le_of_ble_eq_true rfl) (Nat.le_of_ble_eq_true rfl) ?_
            exact W.zret (v := 0) hx hb hr rfl (fun t ht hW => ⟨⟨0, (), rfl, (by unfold F_set; first | exact (if_pos (by omega)).symm | exact (if_neg (by omega)).symm), cp, le, tr, sl, by rw [ht]; exact hP, va_K.moved hW.alike (hK.sub (tys' := []) [] rfl), hD⟩, hS.F ht⟩) hS.2.2 dX8_set_72
          · refine lv_iload_n hx hb dX8_set_55 rfl (lv_at hl 2 rfl) ?_
            refine bz_lt (zx := (w).toInt) (tgt := 71) hx hb dX8_set_56 (by decide) rfl (fun c_14 => ?_) (fun c_14 => ?_)
            · refine lv_iconst (v := 0) hx hb dX8_set_71 (by decide) ?_
              refine W.widen (k := 0) (n := 0) (Nat.le_of_ble_eq_true rfl) (Nat.le_of_ble_eq_true rfl) ?_
              exact W.zret (v := 0) hx hb hr rfl (fun t ht hW => ⟨⟨0, (), rfl, (by unfold F_set; first | exact (if_pos (by omega)).symm | exact (if_neg (by omega)).symm), cp, le, tr, sl, by rw [ht]; exact hP, va_K.moved hW.alike (hK.sub (tys' := []) [] rfl), hD⟩, hS.F ht⟩) hS.2.2 dX8_set_72
            · refine lv_iload_n hx hb dX8_set_59 rfl (lv_at hl 2 rfl) ?_
              refine lv_iconst (v := 5) hx hb dX8_set_60 (by decide) ?_
              refine bi_gt (zx := (w).toInt) (zy := 5) (tgt := 71) hx hb dX8_set_61 (by decide) rfl (by decide) (fun c_15 => ?_) (fun c_15 => ?_)
              · refine lv_iconst (v := 0) hx hb dX8_set_71 (by decide) ?_
                refine W.widen (k := 0) (n := 0) (Nat.le_of_ble_eq_true rfl) (Nat.le_of_ble_eq_true rfl) ?_
                exact W.zret (v := 0) hx hb hr rfl (fun t ht hW => ⟨⟨0, (), rfl, (by unfold F_set; first | exact (if_pos (by omega)).symm | exact (if_neg (by omega)).symm), cp, le, tr, sl, by rw [ht]; exact hP, va_K.moved hW.alike (hK.sub (tys' := []) [] rfl), hD⟩, hS.F ht⟩) hS.2.2 dX8_set_72
              · refine lv_aload_n hx hb dX8_set_64 rfl (lv_at hl 0 rfl) ?_
                refine lv_iload_n hx hb dX8_set_65 rfl (lv_at hl 2 rfl) ?_
                refine va_put (D := D) (ci := 8) (v := .int w) (ty := .int) (C := RX8) (T := TX8) (N := 14) hx hb hts hin_X8 tyX8 tyX8_ok nmX8 hown hK hP hD hS 0 rfl rfl 12 (by decide) (hts (.fieldLink RX8 122 "CryOrder" "tries" "I") (by decide +kernel)) (fun _ h9 => h9) rfl (by decide +kernel) rfl rfl (Nat.le_of_ble_eq_true rfl) dX8_set_66 (fun H_16 locs hP hD hS => ?_)
                have hP : va_P D vwCl ([oC xo 8 [.ref a1, .ref a2, .ref a3, .ref ro, .ref tI, .ref cS, .ref pN, .int na, .int ns, .int nw, .int cp, .int le, .int w, .int sl], aR a1 e1 200 (g1), aR a2 e2 40 (g2), aR a3 e3 30 (g3), oC tI 7 [.ref a4, .int tz], aR a4 e4 60 (g4), oC cS 2 [.ref a5, .int cz], aR a5 e5 200 (g5), oC pN 5 [.ref a6, .ref a7, .ref a8, .ref a9, .int q1, .int q2, .int q3, .int q4], aR a6 e6 17 (g6), aR a7 e7 12 (g7), aI a8 e8 301 (y8), aI a9 e9 301 (y9)] ++ va_pl L f) H_16 := hP
                have hD : va_D A ([oC xo 8 [.ref a1, .ref a2, .ref a3, .ref ro, .ref tI, .ref cS, .ref pN, .int na, .int ns, .int nw, .int cp, .int le, .int w, .int sl], aR a1 e1 200 (g1), aR a2 e2 40 (g2), aR a3 e3 30 (g3), oC tI 7 [.ref a4, .int tz], aR a4 e4 60 (g4), oC cS 2 [.ref a5, .int cz], aR a5 e5 200 (g5), oC pN 5 [.ref a6, .ref a7, .ref a8, .ref a9, .int q1, .int q2, .int q3, .int q4], aR a6 e6 17 (g6), aR a7 e7 12 (g7), aI a8 e8 301 (y8), aI a9 e9 301 (y9)] ++ va_pl L f) := hD
                refine lv_iconst (v := 1) hx hb dX8_set_69 (by decide) ?_
                refine W.widen (k := 0) (n := 0) (Nat.le_of_ble_eq_true rfl) (Nat.le_of_ble_eq_true rfl) ?_
                exact W.zret (v := 1) hx hb hr rfl (fun t ht hW => ⟨⟨1, (), rfl, (by unfold F_set; first | exact (if_pos (by omega)).symm | exact (if_neg (by omega)).symm), cp, le, w, sl, by rw [ht]; exact hP, va_K.moved hW.alike (hK.sub (tys' := []) [] rfl), hD⟩, hS.F ht⟩) hS.2.2 dX8_set_70
        · refine lv_aload_n hx hb dX8_set_38 rfl (lv_at hl 0 rfl) ?_
          refine lv_iload_n hx hb dX8_set_39 rfl (lv_at hl 2 rfl) ?_
          refine va_put (D := D) (ci := 8) (v := .int w) (ty := .int) (C := RX8) (T := TX8) (N := 14) hx hb hts hin_X8 tyX8 tyX8_ok nmX8 hown hK hP hD hS 0 rfl rfl 11 (by decide) (hts (.fieldLink RX8 58 "CryOrder" "leastSettled" "I") (by decide +kernel)) (fun _ h9 => h9) rfl (by decide +kernel) rfl rfl (Nat.le_of_ble_eq_true rfl) dX8_set_40 (fun H_17 locs hP hD hS => ?_)
          have hP : va_P D vwCl ([oC xo 8 [.ref a1, .ref a2, .ref a3, .ref ro, .ref tI, .ref cS, .ref pN, .int na, .int ns, .int nw, .int cp, .int w, .int tr, .int sl], aR a1 e1 200 (g1), aR a2 e2 40 (g2), aR a3 e3 30 (g3), oC tI 7 [.ref a4, .int tz], aR a4 e4 60 (g4), oC cS 2 [.ref a5, .int cz], aR a5 e5 200 (g5), oC pN 5 [.ref a6, .ref a7, .ref a8, .ref a9, .int q1, .int q2, .int q3, .int q4], aR a6 e6 17 (g6), aR a7 e7 12 (g7), aI a8 e8 301 (y8), aI a9 e9 301 (y9)] ++ va_pl L f) H_17 := hP
          have hD : va_D A ([oC xo 8 [.ref a1, .ref a2, .ref a3, .ref ro, .ref tI, .ref cS, .ref pN, .int na, .int ns, .int nw, .int cp, .int w, .int tr, .int sl], aR a1 e1 200 (g1), aR a2 e2 40 (g2), aR a3 e3 30 (g3), oC tI 7 [.ref a4, .int tz], aR a4 e4 60 (g4), oC cS 2 [.ref a5, .int cz], aR a5 e5 200 (g5), oC pN 5 [.ref a6, .ref a7, .ref a8, .ref a9, .int q1, .int q2, .int q3, .int q4], aR a6 e6 17 (g6), aR a7 e7 12 (g7), aI a8 e8 301 (y8), aI a9 e9 301 (y9)] ++ va_pl L f) := hD
          refine lv_aload_n hx hb dX8_set_43 rfl (lv_at hl 0 rfl) ?_
          refine lv_iconst (v := 1) hx hb dX8_set_44 (by decide) ?_
          refine va_put (D := D) (ci := 8) (v := .int 1) (ty := .boolean) (C := RX8) (T := TX8) (N := 14) hx hb hts hin_X8 tyX8 tyX8_ok nmX8 hown hK hP hD hS 0 rfl rfl 13 (by decide) (hts (.fieldLink RX8 113 "CryOrder" "casesAreStale" "Z") (by decide +kernel)) (fun _ h9 => h9) rfl (by decide +kernel) rfl rfl (Nat.le_of_ble_eq_true rfl) dX8_set_45 (fun H_18 locs hP hD hS => ?_)
          have hP : va_P D vwCl ([oC xo 8 [.ref a1, .ref a2, .ref a3, .ref ro, .ref tI, .ref cS, .ref pN, .int na, .int ns, .int nw, .int cp, .int w, .int tr, .int 1], aR a1 e1 200 (g1), aR a2 e2 40 (g2), aR a3 e3 30 (g3), oC tI 7 [.ref a4, .int tz], aR a4 e4 60 (g4), oC cS 2 [.ref a5, .int cz], aR a5 e5 200 (g5), oC pN 5 [.ref a6, .ref a7, .ref a8, .ref a9, .int q1, .int q2, .int q3, .int q4], aR a6 e6 17 (g6), aR a7 e7 12 (g7), aI a8 e8 301 (y8), aI a9 e9 301 (y9)] ++ va_pl L f) H_18 := hP
          have hD : va_D A ([oC xo 8 [.ref a1, .ref a2, .ref a3, .ref ro, .ref tI, .ref cS, .ref pN, .int na, .int ns, .int nw, .int cp, .int w, .int tr, .int 1], aR a1 e1 200 (g1), aR a2 e2 40 (g2), aR a3 e3 30 (g3), oC tI 7 [.ref a4, .int tz], aR a4 e4 60 (g4), oC cS 2 [.ref a5, .int cz], aR a5 e5 200 (g5), oC pN 5 [.ref a6, .ref a7, .ref a8, .ref a9, .int q1, .int q2, .int q3, .int q4], aR a6 e6 17 (g6), aR a7 e7 12 (g7), aI a8 e8 301 (y8), aI a9 e9 301 (y9)] ++ va_pl L f) := hD
          refine lv_iconst (v := 1) hx hb dX8_set_48 (by decide) ?_
          refine W.widen (k := 0) (n := 0) (Nat.le_of_ble_eq_true rfl) (Nat.le_of_ble_eq_true rfl) ?_
          exact W.zret (v := 1) hx hb hr rfl (fun t ht hW => ⟨⟨1, (), rfl, (by unfold F_set; first | exact (if_pos (by omega)).symm | exact (if_neg (by omega)).symm), cp, w, tr, 1, by rw [ht]; exact hP, va_K.moved hW.alike (hK.sub (tys' := []) [] rfl), hD⟩, hS.F ht⟩) hS.2.2 dX8_set_49
  · refine lv_iload_n hx hb dX8_set_4 rfl (lv_at hl 2 rfl) ?_
    refine lv_iconst (v := 1) hx hb dX8_set_5 (by decide) ?_
    refine bi_lt (zx := (w).toInt) (zy := 1) (tgt := 22) hx hb dX8_set_6 (by decide) rfl (by decide) (fun c_19 => ?_) (fun c_19 => ?_)
    · refine lv_iload_n hx hb dX8_set_22 rfl (lv_at hl 1 rfl) ?_
      refine lv_iconst (v := 1) hx hb dX8_set_23 (by decide) ?_
      refine bi_ne (zx := (v).toInt) (zy := 1) (tgt := 50) hx hb dX8_set_24 (by decide) rfl (by decide) (fun c_20 => ?_) (fun c_20 => ?_)
      · refine lv_iload_n hx hb dX8_set_50 rfl (lv_at hl 1 rfl) ?_
        refine lv_iconst (v := 2) hx hb dX8_set_51 (by decide) ?_
        refine bi_ne (zx := (v).toInt) (zy := 2) (tgt := 71) hx hb dX8_set_52 (by decide) rfl (by decide) (fun c_21 => ?_) (fun c_21 => ?_)
        · refine lv_iconst (v := 0) hx hb dX8_set_71 (by decide) ?_
          refine W.widen (k := 0) (n := 0) (Nat.le_of_ble_eq_true rfl) (Nat.le_of_ble_eq_true rfl) ?_
          exact W.zret (v := 0) hx hb hr rfl (fun t ht hW => ⟨⟨0, (), rfl, (by unfold F_set; first | exact (if_pos (by omega)).symm | exact (if_neg (by omega)).symm), cp, le, tr, sl, by rw [ht]; exact hP, va_K.moved hW.alike (hK.sub (tys' := []) [] rfl), hD⟩, hS.F ht⟩) hS.2.2 dX8_set_72
        · refine lv_iload_n hx hb dX8_set_55 rfl (lv_at hl 2 rfl) ?_
          refine bz_lt (zx := (w).toInt) (tgt := 71) hx hb dX8_set_56 (by decide) rfl (fun c_22 => ?_) (fun c_22 => ?_)
          · refine lv_iconst (v := 0) hx hb dX8_set_71 (by decide) ?_
            refine W.widen (k := 0) (n := 0) (Nat.le_of_ble_eq_true rfl) (Nat.le_of_ble_eq_true rfl) ?_
            exact W.zret (v := 0) hx hb hr rfl (fun t ht hW => ⟨⟨0, (), rfl, (by unfold F_set; first | exact (if_pos (by omega)).symm | exact (if_neg (by omega)).symm), cp, le, tr, sl, by rw [ht]; exact hP, va_K.moved hW.alike (hK.sub (tys' := []) [] rfl), hD⟩, hS.F ht⟩) hS.2.2 dX8_set_72
          · refine lv_iload_n hx hb dX8_set_59 rfl (lv_at hl 2 rfl) ?_
            refine lv_iconst (v := 5) hx hb dX8_set_60 (by decide) ?_
            refine bi_gt (zx := (w).toInt) (zy := 5) (tgt := 71) hx hb dX8_set_61 (by decide) rfl (by decide) (fun c_23 => ?_) (fun c_23 => ?_)
            · refine lv_iconst (v := 0) hx hb dX8_set_71 (by decide) ?_
              refine W.widen (k := 0) (n := 0) (Nat.le_of_ble_eq_true rfl) (Nat.le_of_ble_eq_true rfl) ?_
              exact W.zret (v := 0) hx hb hr rfl (fun t ht hW => ⟨⟨0, (), rfl, (by unfold F_set; first | exact (if_pos (by omega)).symm | exact (if_neg (by omega)).symm), cp, le, tr, sl, by rw [ht]; exact hP, va_K.moved hW.alike (hK.sub (tys' := []) [] rfl), hD⟩, hS.F ht⟩) hS.2.2 dX8_set_72
            · refine lv_aload_n hx hb dX8_set_64 rfl (lv_at hl 0 rfl) ?_
              refine lv_iload_n hx hb dX8_set_65 rfl (lv_at hl 2 rfl) ?_
              refine va_put (D := D) (ci := 8) (v := .int w) (ty := .int) (C := RX8) (T := TX8) (N := 14) hx hb hts hin_X8 tyX8 tyX8_ok nmX8 hown hK hP hD hS 0 rfl rfl 12 (by decide) (hts (.fieldLink RX8 122 "CryOrder" "tries" "I") (by decide +kernel)) (fun _ h9 => h9) rfl (by decide +kernel) rfl rfl (Nat.le_of_ble_eq_true rfl) dX8_set_66 (fun H_24 locs hP hD hS => ?_)
              have hP : va_P D vwCl ([oC xo 8 [.ref a1, .ref a2, .ref a3, .ref ro, .ref tI, .ref cS, .ref pN, .int na, .int ns, .int nw, .int cp, .int le, .int w, .int sl], aR a1 e1 200 (g1), aR a2 e2 40 (g2), aR a3 e3 30 (g3), oC tI 7 [.ref a4, .int tz], aR a4 e4 60 (g4), oC cS 2 [.ref a5, .int cz], aR a5 e5 200 (g5), oC pN 5 [.ref a6, .ref a7, .ref a8, .ref a9, .int q1, .int q2, .int q3, .int q4], aR a6 e6 17 (g6), aR a7 e7 12 (g7), aI a8 e8 301 (y8), aI a9 e9 301 (y9)] ++ va_pl L f) H_24 := hP
              have hD : va_D A ([oC xo 8 [.ref a1, .ref a2, .ref a3, .ref ro, .ref tI, .ref cS, .ref pN, .int na, .int ns, .int nw, .int cp, .int le, .int w, .int sl], aR a1 e1 200 (g1), aR a2 e2 40 (g2), aR a3 e3 30 (g3), oC tI 7 [.ref a4, .int tz], aR a4 e4 60 (g4), oC cS 2 [.ref a5, .int cz], aR a5 e5 200 (g5), oC pN 5 [.ref a6, .ref a7, .ref a8, .ref a9, .int q1, .int q2, .int q3, .int q4], aR a6 e6 17 (g6), aR a7 e7 12 (g7), aI a8 e8 301 (y8), aI a9 e9 301 (y9)] ++ va_pl L f) := hD
              refine lv_iconst (v := 1) hx hb dX8_set_69 (by decide) ?_
              refine W.widen (k := 0) (n := 0) (Nat.le_of_ble_eq_true rfl) (Nat.le_of_ble_eq_true rfl) ?_
              exact W.zret (v := 1) hx hb hr rfl (fun t ht hW => ⟨⟨1, (), rfl, (by unfold F_set; first | exact (if_pos (by omega)).symm | exact (if_neg (by omega)).symm), cp, le, w, sl, by rw [ht]; exact hP, va_K.moved hW.alike (hK.sub (tys' := []) [] rfl), hD⟩, hS.F ht⟩) hS.2.2 dX8_set_70
      · refine lv_iload_n hx hb dX8_set_27 rfl (lv_at hl 2 rfl) ?_
        refine lv_iconst (v := 1) hx hb dX8_set_28 (by decide) ?_
        refine bi_lt (zx := (w).toInt) (zy := 1) (tgt := 50) hx hb dX8_set_29 (by decide) rfl (by decide) (fun c_25 => ?_) (fun c_25 => ?_)
        · refine lv_iload_n hx hb dX8_set_50 rfl (lv_at hl 1 rfl) ?_
          refine lv_iconst (v := 2) hx hb dX8_set_51 (by decide) ?_
          refine bi_ne (zx := (v).toInt) (zy := 2) (tgt := 71) hx hb dX8_set_52 (by decide) rfl (by decide) (fun c_26 => ?_) (fun c_26 => ?_)
          · refine lv_iconst (v := 0) hx hb dX8_set_71 (by decide) ?_
            refine W.widen (k := 0) (n := 0) (Nat.le_of_ble_eq_true rfl) (Nat.le_of_ble_eq_true rfl) ?_
            exact W.zret (v := 0) hx hb hr rfl (fun t ht hW => ⟨⟨0, (), rfl, (by unfold F_set; first | exact (if_pos (by omega)).symm | exact (if_neg (by omega)).symm), cp, le, tr, sl, by rw [ht]; exact hP, va_K.moved hW.alike (hK.sub (tys' := []) [] rfl), hD⟩, hS.F ht⟩) hS.2.2 dX8_set_72
          · refine lv_iload_n hx hb dX8_set_55 rfl (lv_at hl 2 rfl) ?_
            refine bz_lt (zx := (w).toInt) (tgt := 71) hx hb dX8_set_56 (by decide) rfl (fun c_27 => ?_) (fun c_27 => ?_)
            · refine lv_iconst (v := 0) hx hb dX8_set_71 (by decide) ?_
              refine W.widen (k := 0) (n := 0) (Nat.le_of_ble_eq_true rfl) (Nat.le_of_ble_eq_true rfl) ?_
              exact W.zret (v := 0) hx hb hr rfl (fun t ht hW => ⟨⟨0, (), rfl, (by unfold F_set; first | exact (if_pos (by omega)).symm | exact (if_neg (by omega)).symm), cp, le, tr, sl, by rw [ht]; exact hP, va_K.moved hW.alike (hK.sub (tys' := []) [] rfl), hD⟩, hS.F ht⟩) hS.2.2 dX8_set_72
            · refine lv_iload_n hx hb dX8_set_59 rfl (lv_at hl 2 rfl) ?_
              refine lv_iconst (v := 5) hx hb dX8_set_60 (by decide) ?_
              refine bi_gt (zx := (w).toInt) (zy := 5) (tgt := 71) hx hb dX8_set_61 (by decide) rfl (by decide) (fun c_28 => ?_) (fun c_28 => ?_)
              · refine lv_iconst (v := 0) hx hb dX8_set_71 (by decide) ?_
                refine W.widen (k := 0) (n := 0) (Nat.le_of_ble_eq_true rfl) (Nat.le_of_ble_eq_true rfl) ?_
                exact W.zret (v := 0) hx hb hr rfl (fun t ht hW => ⟨⟨0, (), rfl, (by unfold F_set; first | exact (if_pos (by omega)).symm | exact (if_neg (by omega)).symm), cp, le, tr, sl, by rw [ht]; exact hP, va_K.moved hW.alike (hK.sub (tys' := []) [] rfl), hD⟩, hS.F ht⟩) hS.2.2 dX8_set_72
              · refine lv_aload_n hx hb dX8_set_64 rfl (lv_at hl 0 rfl) ?_
                refine lv_iload_n hx hb dX8_set_65 rfl (lv_at hl 2 rfl) ?_
                refine va_put (D := D) (ci := 8) (v := .int w) (ty := .int) (C := RX8) (T := TX8) (N := 14) hx hb hts hin_X8 tyX8 tyX8_ok nmX8 hown hK hP hD hS 0 rfl rfl 12 (by decide) (hts (.fieldLink RX8 122 "CryOrder" "tries" "I") (by decide +kernel)) (fun _ h9 => h9) rfl (by decide +kernel) rfl rfl (Nat.le_of_ble_eq_true rfl) dX8_set_66 (fun H_29 locs hP hD hS => ?_)
                have hP : va_P D vwCl ([oC xo 8 [.ref a1, .ref a2, .ref a3, .ref ro, .ref tI, .ref cS, .ref pN, .int na, .int ns, .int nw, .int cp, .int le, .int w, .int sl], aR a1 e1 200 (g1), aR a2 e2 40 (g2), aR a3 e3 30 (g3), oC tI 7 [.ref a4, .int tz], aR a4 e4 60 (g4), oC cS 2 [.ref a5, .int cz], aR a5 e5 200 (g5), oC pN 5 [.ref a6, .ref a7, .ref a8, .ref a9, .int q1, .int q2, .int q3, .int q4], aR a6 e6 17 (g6), aR a7 e7 12 (g7), aI a8 e8 301 (y8), aI a9 e9 301 (y9)] ++ va_pl L f) H_29 := hP
                have hD : va_D A ([oC xo 8 [.ref a1, .ref a2, .ref a3, .ref ro, .ref tI, .ref cS, .ref pN, .int na, .int ns, .int nw, .int cp, .int le, .int w, .int sl], aR a1 e1 200 (g1), aR a2 e2 40 (g2), aR a3 e3 30 (g3), oC tI 7 [.ref a4, .int tz], aR a4 e4 60 (g4), oC cS 2 [.ref a5, .int cz], aR a5 e5 200 (g5), oC pN 5 [.ref a6, .ref a7, .ref a8, .ref a9, .int q1, .int q2, .int q3, .int q4], aR a6 e6 17 (g6), aR a7 e7 12 (g7), aI a8 e8 301 (y8), aI a9 e9 301 (y9)] ++ va_pl L f) := hD
                refine lv_iconst (v := 1) hx hb dX8_set_69 (by decide) ?_
                refine W.widen (k := 0) (n := 0) (Nat.le_of_ble_eq_true rfl) (Nat.le_of_ble_eq_true rfl) ?_
                exact W.zret (v := 1) hx hb hr rfl (fun t ht hW => ⟨⟨1, (), rfl, (by unfold F_set; first | exact (if_pos (by omega)).symm | exact (if_neg (by omega)).symm), cp, le, w, sl, by rw [ht]; exact hP, va_K.moved hW.alike (hK.sub (tys' := []) [] rfl), hD⟩, hS.F ht⟩) hS.2.2 dX8_set_70
        · refine lv_iload_n hx hb dX8_set_32 rfl (lv_at hl 2 rfl) ?_
          refine lv_bipush (v := 20) hx hb dX8_set_33 (by decide) ?_
          refine bi_gt (zx := (w).toInt) (zy := 20) (tgt := 50) hx hb dX8_set_35 (by decide) rfl (by decide) (fun c_30 => ?_) (fun c_30 => ?_)
          · refine lv_iload_n hx hb dX8_set_50 rfl (lv_at hl 1 rfl) ?_
            refine lv_iconst (v := 2) hx hb dX8_set_51 (by decide) ?_
            refine bi_ne (zx := (v).toInt) (zy := 2) (tgt := 71) hx hb dX8_set_52 (by decide) rfl (by decide) (fun c_31 => ?_) (fun c_31 => ?_)
            · refine lv_iconst (v := 0) hx hb dX8_set_71 (by decide) ?_
              refine W.widen (k := 0) (n := 0) (Nat.le_of_ble_eq_true rfl) (Nat.le_of_ble_eq_true rfl) ?_
              exact W.zret (v := 0) hx hb hr rfl (fun t ht hW => ⟨⟨0, (), rfl, (by unfold F_set; first | exact (if_pos (by omega)).symm | exact (if_neg (by omega)).symm), cp, le, tr, sl, by rw [ht]; exact hP, va_K.moved hW.alike (hK.sub (tys' := []) [] rfl), hD⟩, hS.F ht⟩) hS.2.2 dX8_set_72
            · refine lv_iload_n hx hb dX8_set_55 rfl (lv_at hl 2 rfl) ?_
              refine bz_lt (zx := (w).toInt) (tgt := 71) hx hb dX8_set_56 (by decide) rfl (fun c_32 => ?_) (fun c_32 => ?_)
              · refine lv_iconst (v := 0) hx hb dX8_set_71 (by decide) ?_
                refine W.widen (k := 0) (n := 0) (Nat.le_of_ble_eq_true rfl) (Nat.le_of_ble_eq_true rfl) ?_
                exact W.zret (v := 0) hx hb hr rfl (fun t ht hW => ⟨⟨0, (), rfl, (by unfold F_set; first | exact (if_pos (by omega)).symm | exact (if_neg (by omega)).symm), cp, le, tr, sl, by rw [ht]; exact hP, va_K.moved hW.alike (hK.sub (tys' := []) [] rfl), hD⟩, hS.F ht⟩) hS.2.2 dX8_set_72
              · refine lv_iload_n hx hb dX8_set_59 rfl (lv_at hl 2 rfl) ?_
                refine lv_iconst (v := 5) hx hb dX8_set_60 (by decide) ?_
                refine bi_gt (zx := (w).toInt) (zy := 5) (tgt := 71) hx hb dX8_set_61 (by decide) rfl (by decide) (fun c_33 => ?_) (fun c_33 => ?_)
                · refine lv_iconst (v := 0) hx hb dX8_set_71 (by decide) ?_
                  refine W.widen (k := 0) (n := 0) (Nat.le_of_ble_eq_true rfl) (Nat.le_of_ble_eq_true rfl) ?_
                  exact W.zret (v := 0) hx hb hr rfl (fun t ht hW => ⟨⟨0, (), rfl, (by unfold F_set; first | exact (if_pos (by omega)).symm | exact (if_neg (by omega)).symm), cp, le, tr, sl, by rw [ht]; exact hP, va_K.moved hW.alike (hK.sub (tys' := []) [] rfl), hD⟩, hS.F ht⟩) hS.2.2 dX8_set_72
                · refine lv_aload_n hx hb dX8_set_64 rfl (lv_at hl 0 rfl) ?_
                  refine lv_iload_n hx hb dX8_set_65 rfl (lv_at hl 2 rfl) ?_
                  refine va_put (D := D) (ci := 8) (v := .int w) (ty := .int) (C := RX8) (T := TX8) (N := 14) hx hb hts hin_X8 tyX8 tyX8_ok nmX8 hown hK hP hD hS 0 rfl rfl 12 (by decide) (hts (.fieldLink RX8 122 "CryOrder" "tries" "I") (by decide +kernel)) (fun _ h9 => h9) rfl (by decide +kernel) rfl rfl (Nat.le_of_ble_eq_true rfl) dX8_set_66 (fun H_34 locs hP hD hS => ?_)
                  have hP : va_P D vwCl ([oC xo 8 [.ref a1, .ref a2, .ref a3, .ref ro, .ref tI, .ref cS, .ref pN, .int na, .int ns, .int nw, .int cp, .int le, .int w, .int sl], aR a1 e1 200 (g1), aR a2 e2 40 (g2), aR a3 e3 30 (g3), oC tI 7 [.ref a4, .int tz], aR a4 e4 60 (g4), oC cS 2 [.ref a5, .int cz], aR a5 e5 200 (g5), oC pN 5 [.ref a6, .ref a7, .ref a8, .ref a9, .int q1, .int q2, .int q3, .int q4], aR a6 e6 17 (g6), aR a7 e7 12 (g7), aI a8 e8 301 (y8), aI a9 e9 301 (y9)] ++ va_pl L f) H_34 := hP
                  have hD : va_D A ([oC xo 8 [.ref a1, .ref a2, .ref a3, .ref ro, .ref tI, .ref cS, .ref pN, .int na, .int ns, .int nw, .int cp, .int le, .int w, .int sl], aR a1 e1 200 (g1), aR a2 e2 40 (g2), aR a3 e3 30 (g3), oC tI 7 [.ref a4, .int tz], aR a4 e4 60 (g4), oC cS 2 [.ref a5, .int cz], aR a5 e5 200 (g5), oC pN 5 [.ref a6, .ref a7, .ref a8, .ref a9, .int q1, .int q2, .int q3, .int q4], aR a6 e6 17 (g6), aR a7 e7 12 (g7), aI a8 e8 301 (y8), aI a9 e9 301 (y9)] ++ va_pl L f) := hD
                  refine lv_iconst (v := 1) hx hb dX8_set_69 (by decide) ?_
                  refine W.widen (k := 0) (n := 0) (Nat.le_of_ble_eq_true rfl) (Nat.le_of_ble_eq_true rfl) ?_
                  exact W.zret (v := 1) hx hb hr rfl (fun t ht hW => ⟨⟨1, (), rfl, (by unfold F_set; first | exact (if_pos (by omega)).symm | exact (if_neg (by omega)).symm), cp, le, w, sl, by rw [ht]; exact hP, va_K.moved hW.alike (hK.sub (tys' := []) [] rfl), hD⟩, hS.F ht⟩) hS.2.2 dX8_set_70
          · refine lv_aload_n hx hb dX8_set_38 rfl (lv_at hl 0 rfl) ?_
            refine lv_iload_n hx hb dX8_set_39 rfl (lv_at hl 2 rfl) ?_
            refine va_put (D := D) (ci := 8) (v := .int w) (ty := .int) (C := RX8) (T := TX8) (N := 14) hx hb hts hin_X8 tyX8 tyX8_ok nmX8 hown hK hP hD hS 0 rfl rfl 11 (by decide) (hts (.fieldLink RX8 58 "CryOrder" "leastSettled" "I") (by decide +kernel)) (fun _ h9 => h9) rfl (by decide +kernel) rfl rfl (Nat.le_of_ble_eq_true rfl) dX8_set_40 (fun H_35 locs hP hD hS => ?_)
            have hP : va_P D vwCl ([oC xo 8 [.ref a1, .ref a2, .ref a3, .ref ro, .ref tI, .ref cS, .ref pN, .int na, .int ns, .int nw, .int cp, .int w, .int tr, .int sl], aR a1 e1 200 (g1), aR a2 e2 40 (g2), aR a3 e3 30 (g3), oC tI 7 [.ref a4, .int tz], aR a4 e4 60 (g4), oC cS 2 [.ref a5, .int cz], aR a5 e5 200 (g5), oC pN 5 [.ref a6, .ref a7, .ref a8, .ref a9, .int q1, .int q2, .int q3, .int q4], aR a6 e6 17 (g6), aR a7 e7 12 (g7), aI a8 e8 301 (y8), aI a9 e9 301 (y9)] ++ va_pl L f) H_35 := hP
            have hD : va_D A ([oC xo 8 [.ref a1, .ref a2, .ref a3, .ref ro, .ref tI, .ref cS, .ref pN, .int na, .int ns, .int nw, .int cp, .int w, .int tr, .int sl], aR a1 e1 200 (g1), aR a2 e2 40 (g2), aR a3 e3 30 (g3), oC tI 7 [.ref a4, .int tz], aR a4 e4 60 (g4), oC cS 2 [.ref a5, .int cz], aR a5 e5 200 (g5), oC pN 5 [.ref a6, .ref a7, .ref a8, .ref a9, .int q1, .int q2, .int q3, .int q4], aR a6 e6 17 (g6), aR a7 e7 12 (g7), aI a8 e8 301 (y8), aI a9 e9 301 (y9)] ++ va_pl L f) := hD
            refine lv_aload_n hx hb dX8_set_43 rfl (lv_at hl 0 rfl) ?_
            refine lv_iconst (v := 1) hx hb dX8_set_44 (by decide) ?_
            refine va_put (D := D) (ci := 8) (v := .int 1) (ty := .boolean) (C := RX8) (T := TX8) (N := 14) hx hb hts hin_X8 tyX8 tyX8_ok nmX8 hown hK hP hD hS 0 rfl rfl 13 (by decide) (hts (.fieldLink RX8 113 "CryOrder" "casesAreStale" "Z") (by decide +kernel)) (fun _ h9 => h9) rfl (by decide +kernel) rfl rfl (Nat.le_of_ble_eq_true rfl) dX8_set_45 (fun H_36 locs hP hD hS => ?_)
            have hP : va_P D vwCl ([oC xo 8 [.ref a1, .ref a2, .ref a3, .ref ro, .ref tI, .ref cS, .ref pN, .int na, .int ns, .int nw, .int cp, .int w, .int tr, .int 1], aR a1 e1 200 (g1), aR a2 e2 40 (g2), aR a3 e3 30 (g3), oC tI 7 [.ref a4, .int tz], aR a4 e4 60 (g4), oC cS 2 [.ref a5, .int cz], aR a5 e5 200 (g5), oC pN 5 [.ref a6, .ref a7, .ref a8, .ref a9, .int q1, .int q2, .int q3, .int q4], aR a6 e6 17 (g6), aR a7 e7 12 (g7), aI a8 e8 301 (y8), aI a9 e9 301 (y9)] ++ va_pl L f) H_36 := hP
            have hD : va_D A ([oC xo 8 [.ref a1, .ref a2, .ref a3, .ref ro, .ref tI, .ref cS, .ref pN, .int na, .int ns, .int nw, .int cp, .int w, .int tr, .int 1], aR a1 e1 200 (g1), aR a2 e2 40 (g2), aR a3 e3 30 (g3), oC tI 7 [.ref a4, .int tz], aR a4 e4 60 (g4), oC cS 2 [.ref a5, .int cz], aR a5 e5 200 (g5), oC pN 5 [.ref a6, .ref a7, .ref a8, .ref a9, .int q1, .int q2, .int q3, .int q4], aR a6 e6 17 (g6), aR a7 e7 12 (g7), aI a8 e8 301 (y8), aI a9 e9 301 (y9)] ++ va_pl L f) := hD
            refine lv_iconst (v := 1) hx hb dX8_set_48 (by decide) ?_
            refine W.widen (k := 0) (n := 0) (Nat.le_of_ble_eq_true rfl) (Nat.le_of_ble_eq_true rfl) ?_
            exact W.zret (v := 1) hx hb hr rfl (fun t ht hW => ⟨⟨1, (), rfl, (by unfold F_set; first | exact (if_pos (by omega)).symm | exact (if_neg (by omega)).symm), cp, w, tr, 1, by rw [ht]; exact hP, va_K.moved hW.alike (hK.sub (tys' := []) [] rfl), hD⟩, hS.F ht⟩) hS.2.2 dX8_set_49
    · refine lv_iload_n hx hb dX8_set_9 rfl (lv_at hl 2 rfl) ?_
      refine lv_bipush (v := 50) hx hb dX8_set_10 (by decide) ?_
      refine bi_gt (zx := (w).toInt) (zy := 50) (tgt := 22) hx hb dX8_set_12 (by decide) rfl (by decide) (fun c_37 => ?_) (fun c_37 => ?_)
      · refine lv_iload_n hx hb dX8_set_22 rfl (lv_at hl 1 rfl) ?_
        refine lv_iconst (v := 1) hx hb dX8_set_23 (by decide) ?_
        refine bi_ne (zx := (v).toInt) (zy := 1) (tgt := 50) hx hb dX8_set_24 (by decide) rfl (by decide) (fun c_38 => ?_) (fun c_38 => ?_)
        · refine lv_iload_n hx hb dX8_set_50 rfl (lv_at hl 1 rfl) ?_
          refine lv_iconst (v := 2) hx hb dX8_set_51 (by decide) ?_
          refine bi_ne (zx := (v).toInt) (zy := 2) (tgt := 71) hx hb dX8_set_52 (by decide) rfl (by decide) (fun c_39 => ?_) (fun c_39 => ?_)
          · refine lv_iconst (v := 0) hx hb dX8_set_71 (by decide) ?_
            refine W.widen (k := 0) (n := 0) (Nat.le_of_ble_eq_true rfl) (Nat.le_of_ble_eq_true rfl) ?_
            exact W.zret (v := 0) hx hb hr rfl (fun t ht hW => ⟨⟨0, (), rfl, (by unfold F_set; first | exact (if_pos (by omega)).symm | exact (if_neg (by omega)).symm), cp, le, tr, sl, by rw [ht]; exact hP, va_K.moved hW.alike (hK.sub (tys' := []) [] rfl), hD⟩, hS.F ht⟩) hS.2.2 dX8_set_72
          · refine lv_iload_n hx hb dX8_set_55 rfl (lv_at hl 2 rfl) ?_
            refine bz_lt (zx := (w).toInt) (tgt := 71) hx hb dX8_set_56 (by decide) rfl (fun c_40 => ?_) (fun c_40 => ?_)
            · refine lv_iconst (v := 0) hx hb dX8_set_71 (by decide) ?_
              refine W.widen (k := 0) (n := 0) (Nat.le_of_ble_eq_true rfl) (Nat.le_of_ble_eq_true rfl) ?_
              exact W.zret (v := 0) hx hb hr rfl (fun t ht hW => ⟨⟨0, (), rfl, (by unfold F_set; first | exact (if_pos (by omega)).symm | exact (if_neg (by omega)).symm), cp, le, tr, sl, by rw [ht]; exact hP, va_K.moved hW.alike (hK.sub (tys' := []) [] rfl), hD⟩, hS.F ht⟩) hS.2.2 dX8_set_72
            · refine lv_iload_n hx hb dX8_set_59 rfl (lv_at hl 2 rfl) ?_
              refine lv_iconst (v := 5) hx hb dX8_set_60 (by decide) ?_
              refine bi_gt (zx := (w).toInt) (zy := 5) (tgt := 71) hx hb dX8_set_61 (by decide) rfl (by decide) (fun c_41 => ?_) (fun c_41 => ?_)
              · refine lv_iconst (v := 0) hx hb dX8_set_71 (by decide) ?_
                refine W.widen (k := 0) (n := 0) (Nat.le_of_ble_eq_true rfl) (Nat.le_of_ble_eq_true rfl) ?_
                exact W.zret (v := 0) hx hb hr rfl (fun t ht hW => ⟨⟨0, (), rfl, (by unfold F_set; first | exact (if_pos (by omega)).symm | exact (if_neg (by omega)).symm), cp, le, tr, sl, by rw [ht]; exact hP, va_K.moved hW.alike (hK.sub (tys' := []) [] rfl), hD⟩, hS.F ht⟩) hS.2.2 dX8_set_72
              · refine lv_aload_n hx hb dX8_set_64 rfl (lv_at hl 0 rfl) ?_
                refine lv_iload_n hx hb dX8_set_65 rfl (lv_at hl 2 rfl) ?_
                refine va_put (D := D) (ci := 8) (v := .int w) (ty := .int) (C := RX8) (T := TX8) (N := 14) hx hb hts hin_X8 tyX8 tyX8_ok nmX8 hown hK hP hD hS 0 rfl rfl 12 (by decide) (hts (.fieldLink RX8 122 "CryOrder" "tries" "I") (by decide +kernel)) (fun _ h9 => h9) rfl (by decide +kernel) rfl rfl (Nat.le_of_ble_eq_true rfl) dX8_set_66 (fun H_42 locs hP hD hS => ?_)
                have hP : va_P D vwCl ([oC xo 8 [.ref a1, .ref a2, .ref a3, .ref ro, .ref tI, .ref cS, .ref pN, .int na, .int ns, .int nw, .int cp, .int le, .int w, .int sl], aR a1 e1 200 (g1), aR a2 e2 40 (g2), aR a3 e3 30 (g3), oC tI 7 [.ref a4, .int tz], aR a4 e4 60 (g4), oC cS 2 [.ref a5, .int cz], aR a5 e5 200 (g5), oC pN 5 [.ref a6, .ref a7, .ref a8, .ref a9, .int q1, .int q2, .int q3, .int q4], aR a6 e6 17 (g6), aR a7 e7 12 (g7), aI a8 e8 301 (y8), aI a9 e9 301 (y9)] ++ va_pl L f) H_42 := hP
                have hD : va_D A ([oC xo 8 [.ref a1, .ref a2, .ref a3, .ref ro, .ref tI, .ref cS, .ref pN, .int na, .int ns, .int nw, .int cp, .int le, .int w, .int sl], aR a1 e1 200 (g1), aR a2 e2 40 (g2), aR a3 e3 30 (g3), oC tI 7 [.ref a4, .int tz], aR a4 e4 60 (g4), oC cS 2 [.ref a5, .int cz], aR a5 e5 200 (g5), oC pN 5 [.ref a6, .ref a7, .ref a8, .ref a9, .int q1, .int q2, .int q3, .int q4], aR a6 e6 17 (g6), aR a7 e7 12 (g7), aI a8 e8 301 (y8), aI a9 e9 301 (y9)] ++ va_pl L f) := hD
                refine lv_iconst (v := 1) hx hb dX8_set_69 (by decide) ?_
                refine W.widen (k := 0) (n := 0) (Nat.le_of_ble_eq_true rfl) (Nat.le_of_ble_eq_true rfl) ?_
                exact W.zret (v := 1) hx hb hr rfl (fun t ht hW => ⟨⟨1, (), rfl, (by unfold F_set; first | exact (if_pos (by omega)).symm | exact (if_neg (by omega)).symm), cp, le, w, sl, by rw [ht]; exact hP, va_K.moved hW.alike (hK.sub (tys' := []) [] rfl), hD⟩, hS.F ht⟩) hS.2.2 dX8_set_70
        · refine lv_iload_n hx hb dX8_set_27 rfl (lv_at hl 2 rfl) ?_
          refine lv_iconst (v := 1) hx hb dX8_set_28 (by decide) ?_
          refine bi_lt (zx := (w).toInt) (zy := 1) (tgt := 50) hx hb dX8_set_29 (by decide) rfl (by decide) (fun c_43 => ?_) (fun c_43 => ?_)
          · refine lv_iload_n hx hb dX8_set_50 rfl (lv_at hl 1 rfl) ?_
            refine lv_iconst (v := 2) hx hb dX8_set_51 (by decide) ?_
            refine bi_ne (zx := (v).toInt) (zy := 2) (tgt := 71) hx hb dX8_set_52 (by decide) rfl (by decide) (fun c_44 => ?_) (fun c_44 => ?_)
            · refine lv_iconst (v := 0) hx hb dX8_set_71 (by decide) ?_
              refine W.widen (k := 0) (n := 0) (Nat.le_of_ble_eq_true rfl) (Nat.le_of_ble_eq_true rfl) ?_
              exact W.zret (v := 0) hx hb hr rfl (fun t ht hW => ⟨⟨0, (), rfl, (by unfold F_set; first | exact (if_pos (by omega)).symm | exact (if_neg (by omega)).symm), cp, le, tr, sl, by rw [ht]; exact hP, va_K.moved hW.alike (hK.sub (tys' := []) [] rfl), hD⟩, hS.F ht⟩) hS.2.2 dX8_set_72
            · refine lv_iload_n hx hb dX8_set_55 rfl (lv_at hl 2 rfl) ?_
              refine bz_lt (zx := (w).toInt) (tgt := 71) hx hb dX8_set_56 (by decide) rfl (fun c_45 => ?_) (fun c_45 => ?_)
              · refine lv_iconst (v := 0) hx hb dX8_set_71 (by decide) ?_
                refine W.widen (k := 0) (n := 0) (Nat.le_of_ble_eq_true rfl) (Nat.le_of_ble_eq_true rfl) ?_
                exact W.zret (v := 0) hx hb hr rfl (fun t ht hW => ⟨⟨0, (), rfl, (by unfold F_set; first | exact (if_pos (by omega)).symm | exact (if_neg (by omega)).symm), cp, le, tr, sl, by rw [ht]; exact hP, va_K.moved hW.alike (hK.sub (tys' := []) [] rfl), hD⟩, hS.F ht⟩) hS.2.2 dX8_set_72
              · refine lv_iload_n hx hb dX8_set_59 rfl (lv_at hl 2 rfl) ?_
                refine lv_iconst (v := 5) hx hb dX8_set_60 (by decide) ?_
                refine bi_gt (zx := (w).toInt) (zy := 5) (tgt := 71) hx hb dX8_set_61 (by decide) rfl (by decide) (fun c_46 => ?_) (fun c_46 => ?_)
                · refine lv_iconst (v := 0) hx hb dX8_set_71 (by decide) ?_
                  refine W.widen (k := 0) (n := 0) (Nat.le_of_ble_eq_true rfl) (Nat.le_of_ble_eq_true rfl) ?_
                  exact W.zret (v := 0) hx hb hr rfl (fun t ht hW => ⟨⟨0, (), rfl, (by unfold F_set; first | exact (if_pos (by omega)).symm | exact (if_neg (by omega)).symm), cp, le, tr, sl, by rw [ht]; exact hP, va_K.moved hW.alike (hK.sub (tys' := []) [] rfl), hD⟩, hS.F ht⟩) hS.2.2 dX8_set_72
                · refine lv_aload_n hx hb dX8_set_64 rfl (lv_at hl 0 rfl) ?_
                  refine lv_iload_n hx hb dX8_set_65 rfl (lv_at hl 2 rfl) ?_
                  refine va_put (D := D) (ci := 8) (v := .int w) (ty := .int) (C := RX8) (T := TX8) (N := 14) hx hb hts hin_X8 tyX8 tyX8_ok nmX8 hown hK hP hD hS 0 rfl rfl 12 (by decide) (hts (.fieldLink RX8 122 "CryOrder" "tries" "I") (by decide +kernel)) (fun _ h9 => h9) rfl (by decide +kernel) rfl rfl (Nat.le_of_ble_eq_true rfl) dX8_set_66 (fun H_47 locs hP hD hS => ?_)
                  have hP : va_P D vwCl ([oC xo 8 [.ref a1, .ref a2, .ref a3, .ref ro, .ref tI, .ref cS, .ref pN, .int na, .int ns, .int nw, .int cp, .int le, .int w, .int sl], aR a1 e1 200 (g1), aR a2 e2 40 (g2), aR a3 e3 30 (g3), oC tI 7 [.ref a4, .int tz], aR a4 e4 60 (g4), oC cS 2 [.ref a5, .int cz], aR a5 e5 200 (g5), oC pN 5 [.ref a6, .ref a7, .ref a8, .ref a9, .int q1, .int q2, .int q3, .int q4], aR a6 e6 17 (g6), aR a7 e7 12 (g7), aI a8 e8 301 (y8), aI a9 e9 301 (y9)] ++ va_pl L f) H_47 := hP
                  have hD : va_D A ([oC xo 8 [.ref a1, .ref a2, .ref a3, .ref ro, .ref tI, .ref cS, .ref pN, .int na, .int ns, .int nw, .int cp, .int le, .int w, .int sl], aR a1 e1 200 (g1), aR a2 e2 40 (g2), aR a3 e3 30 (g3), oC tI 7 [.ref a4, .int tz], aR a4 e4 60 (g4), oC cS 2 [.ref a5, .int cz], aR a5 e5 200 (g5), oC pN 5 [.ref a6, .ref a7, .ref a8, .ref a9, .int q1, .int q2, .int q3, .int q4], aR a6 e6 17 (g6), aR a7 e7 12 (g7), aI a8 e8 301 (y8), aI a9 e9 301 (y9)] ++ va_pl L f) := hD
                  refine lv_iconst (v := 1) hx hb dX8_set_69 (by decide) ?_
                  refine W.widen (k := 0) (n := 0) (Nat.le_of_ble_eq_true rfl) (Nat.le_of_ble_eq_true rfl) ?_
                  exact W.zret (v := 1) hx hb hr rfl (fun t ht hW => ⟨⟨1, (), rfl, (by unfold F_set; first | exact (if_pos (by omega)).symm | exact (if_neg (by omega)).symm), cp, le, w, sl, by rw [ht]; exact hP, va_K.moved hW.alike (hK.sub (tys' := []) [] rfl), hD⟩, hS.F ht⟩) hS.2.2 dX8_set_70
          · refine lv_iload_n hx hb dX8_set_32 rfl (lv_at hl 2 rfl) ?_
            refine lv_bipush (v := 20) hx hb dX8_set_33 (by decide) ?_
            refine bi_gt (zx := (w).toInt) (zy := 20) (tgt := 50) hx hb dX8_set_35 (by decide) rfl (by decide) (fun c_48 => ?_) (fun c_48 => ?_)
            · refine lv_iload_n hx hb dX8_set_50 rfl (lv_at hl 1 rfl) ?_
              refine lv_iconst (v := 2) hx hb dX8_set_51 (by decide) ?_
              refine bi_ne (zx := (v).toInt) (zy := 2) (tgt := 71) hx hb dX8_set_52 (by decide) rfl (by decide) (fun c_49 => ?_) (fun c_49 => ?_)
              · refine lv_iconst (v := 0) hx hb dX8_set_71 (by decide) ?_
                refine W.widen (k := 0) (n := 0) (Nat.le_of_ble_eq_true rfl) (Nat.le_of_ble_eq_true rfl) ?_
                exact W.zret (v := 0) hx hb hr rfl (fun t ht hW => ⟨⟨0, (), rfl, (by unfold F_set; first | exact (if_pos (by omega)).symm | exact (if_neg (by omega)).symm), cp, le, tr, sl, by rw [ht]; exact hP, va_K.moved hW.alike (hK.sub (tys' := []) [] rfl), hD⟩, hS.F ht⟩) hS.2.2 dX8_set_72
              · refine lv_iload_n hx hb dX8_set_55 rfl (lv_at hl 2 rfl) ?_
                refine bz_lt (zx := (w).toInt) (tgt := 71) hx hb dX8_set_56 (by decide) rfl (fun c_50 => ?_) (fun c_50 => ?_)
                · refine lv_iconst (v := 0) hx hb dX8_set_71 (by decide) ?_
                  refine W.widen (k := 0) (n := 0) (Nat.le_of_ble_eq_true rfl) (Nat.le_of_ble_eq_true rfl) ?_
                  exact W.zret (v := 0) hx hb hr rfl (fun t ht hW => ⟨⟨0, (), rfl, (by unfold F_set; first | exact (if_pos (by omega)).symm | exact (if_neg (by omega)).symm), cp, le, tr, sl, by rw [ht]; exact hP, va_K.moved hW.alike (hK.sub (tys' := []) [] rfl), hD⟩, hS.F ht⟩) hS.2.2 dX8_set_72
                · refine lv_iload_n hx hb dX8_set_59 rfl (lv_at hl 2 rfl) ?_
                  refine lv_iconst (v := 5) hx hb dX8_set_60 (by decide) ?_
                  refine bi_gt (zx := (w).toInt) (zy := 5) (tgt := 71) hx hb dX8_set_61 (by decide) rfl (by decide) (fun c_51 => ?_) (fun c_51 => ?_)
                  · refine lv_iconst (v := 0) hx hb dX8_set_71 (by decide) ?_
                    refine W.widen (k := 0) (n := 0) (Nat.le_of_ble_eq_true rfl) (Nat.le_of_ble_eq_true rfl) ?_
                    exact W.zret (v := 0) hx hb hr rfl (fun t ht hW => ⟨⟨0, (), rfl, (by unfold F_set; first | exact (if_pos (by omega)).symm | exact (if_neg (by omega)).symm), cp, le, tr, sl, by rw [ht]; exact hP, va_K.moved hW.alike (hK.sub (tys' := []) [] rfl), hD⟩, hS.F ht⟩) hS.2.2 dX8_set_72
                  · refine lv_aload_n hx hb dX8_set_64 rfl (lv_at hl 0 rfl) ?_
                    refine lv_iload_n hx hb dX8_set_65 rfl (lv_at hl 2 rfl) ?_
                    refine va_put (D := D) (ci := 8) (v := .int w) (ty := .int) (C := RX8) (T := TX8) (N := 14) hx hb hts hin_X8 tyX8 tyX8_ok nmX8 hown hK hP hD hS 0 rfl rfl 12 (by decide) (hts (.fieldLink RX8 122 "CryOrder" "tries" "I") (by decide +kernel)) (fun _ h9 => h9) rfl (by decide +kernel) rfl rfl (Nat.le_of_ble_eq_true rfl) dX8_set_66 (fun H_52 locs hP hD hS => ?_)
                    have hP : va_P D vwCl ([oC xo 8 [.ref a1, .ref a2, .ref a3, .ref ro, .ref tI, .ref cS, .ref pN, .int na, .int ns, .int nw, .int cp, .int le, .int w, .int sl], aR a1 e1 200 (g1), aR a2 e2 40 (g2), aR a3 e3 30 (g3), oC tI 7 [.ref a4, .int tz], aR a4 e4 60 (g4), oC cS 2 [.ref a5, .int cz], aR a5 e5 200 (g5), oC pN 5 [.ref a6, .ref a7, .ref a8, .ref a9, .int q1, .int q2, .int q3, .int q4], aR a6 e6 17 (g6), aR a7 e7 12 (g7), aI a8 e8 301 (y8), aI a9 e9 301 (y9)] ++ va_pl L f) H_52 := hP
                    have hD : va_D A ([oC xo 8 [.ref a1, .ref a2, .ref a3, .ref ro, .ref tI, .ref cS, .ref pN, .int na, .int ns, .int nw, .int cp, .int le, .int w, .int sl], aR a1 e1 200 (g1), aR a2 e2 40 (g2), aR a3 e3 30 (g3), oC tI 7 [.ref a4, .int tz], aR a4 e4 60 (g4), oC cS 2 [.ref a5, .int cz], aR a5 e5 200 (g5), oC pN 5 [.ref a6, .ref a7, .ref a8, .ref a9, .int q1, .int q2, .int q3, .int q4], aR a6 e6 17 (g6), aR a7 e7 12 (g7), aI a8 e8 301 (y8), aI a9 e9 301 (y9)] ++ va_pl L f) := hD
                    refine lv_iconst (v := 1) hx hb dX8_set_69 (by decide) ?_
                    refine W.widen (k := 0) (n := 0) (Nat.le_of_ble_eq_true rfl) (Nat.le_of_ble_eq_true rfl) ?_
                    exact W.zret (v := 1) hx hb hr rfl (fun t ht hW => ⟨⟨1, (), rfl, (by unfold F_set; first | exact (if_pos (by omega)).symm | exact (if_neg (by omega)).symm), cp, le, w, sl, by rw [ht]; exact hP, va_K.moved hW.alike (hK.sub (tys' := []) [] rfl), hD⟩, hS.F ht⟩) hS.2.2 dX8_set_70
            · refine lv_aload_n hx hb dX8_set_38 rfl (lv_at hl 0 rfl) ?_
              refine lv_iload_n hx hb dX8_set_39 rfl (lv_at hl 2 rfl) ?_
              refine va_put (D := D) (ci := 8) (v := .int w) (ty := .int) (C := RX8) (T := TX8) (N := 14) hx hb hts hin_X8 tyX8 tyX8_ok nmX8 hown hK hP hD hS 0 rfl rfl 11 (by decide) (hts (.fieldLink RX8 58 "CryOrder" "leastSettled" "I") (by decide +kernel)) (fun _ h9 => h9) rfl (by decide +kernel) rfl rfl (Nat.le_of_ble_eq_true rfl) dX8_set_40 (fun H_53 locs hP hD hS => ?_)
              have hP : va_P D vwCl ([oC xo 8 [.ref a1, .ref a2, .ref a3, .ref ro, .ref tI, .ref cS, .ref pN, .int na, .int ns, .int nw, .int cp, .int w, .int tr, .int sl], aR a1 e1 200 (g1), aR a2 e2 40 (g2), aR a3 e3 30 (g3), oC tI 7 [.ref a4, .int tz], aR a4 e4 60 (g4), oC cS 2 [.ref a5, .int cz], aR a5 e5 200 (g5), oC pN 5 [.ref a6, .ref a7, .ref a8, .ref a9, .int q1, .int q2, .int q3, .int q4], aR a6 e6 17 (g6), aR a7 e7 12 (g7), aI a8 e8 301 (y8), aI a9 e9 301 (y9)] ++ va_pl L f) H_53 := hP
              have hD : va_D A ([oC xo 8 [.ref a1, .ref a2, .ref a3, .ref ro, .ref tI, .ref cS, .ref pN, .int na, .int ns, .int nw, .int cp, .int w, .int tr, .int sl], aR a1 e1 200 (g1), aR a2 e2 40 (g2), aR a3 e3 30 (g3), oC tI 7 [.ref a4, .int tz], aR a4 e4 60 (g4), oC cS 2 [.ref a5, .int cz], aR a5 e5 200 (g5), oC pN 5 [.ref a6, .ref a7, .ref a8, .ref a9, .int q1, .int q2, .int q3, .int q4], aR a6 e6 17 (g6), aR a7 e7 12 (g7), aI a8 e8 301 (y8), aI a9 e9 301 (y9)] ++ va_pl L f) := hD
              refine lv_aload_n hx hb dX8_set_43 rfl (lv_at hl 0 rfl) ?_
              refine lv_iconst (v := 1) hx hb dX8_set_44 (by decide) ?_
              refine va_put (D := D) (ci := 8) (v := .int 1) (ty := .boolean) (C := RX8) (T := TX8) (N := 14) hx hb hts hin_X8 tyX8 tyX8_ok nmX8 hown hK hP hD hS 0 rfl rfl 13 (by decide) (hts (.fieldLink RX8 113 "CryOrder" "casesAreStale" "Z") (by decide +kernel)) (fun _ h9 => h9) rfl (by decide +kernel) rfl rfl (Nat.le_of_ble_eq_true rfl) dX8_set_45 (fun H_54 locs hP hD hS => ?_)
              have hP : va_P D vwCl ([oC xo 8 [.ref a1, .ref a2, .ref a3, .ref ro, .ref tI, .ref cS, .ref pN, .int na, .int ns, .int nw, .int cp, .int w, .int tr, .int 1], aR a1 e1 200 (g1), aR a2 e2 40 (g2), aR a3 e3 30 (g3), oC tI 7 [.ref a4, .int tz], aR a4 e4 60 (g4), oC cS 2 [.ref a5, .int cz], aR a5 e5 200 (g5), oC pN 5 [.ref a6, .ref a7, .ref a8, .ref a9, .int q1, .int q2, .int q3, .int q4], aR a6 e6 17 (g6), aR a7 e7 12 (g7), aI a8 e8 301 (y8), aI a9 e9 301 (y9)] ++ va_pl L f) H_54 := hP
              have hD : va_D A ([oC xo 8 [.ref a1, .ref a2, .ref a3, .ref ro, .ref tI, .ref cS, .ref pN, .int na, .int ns, .int nw, .int cp, .int w, .int tr, .int 1], aR a1 e1 200 (g1), aR a2 e2 40 (g2), aR a3 e3 30 (g3), oC tI 7 [.ref a4, .int tz], aR a4 e4 60 (g4), oC cS 2 [.ref a5, .int cz], aR a5 e5 200 (g5), oC pN 5 [.ref a6, .ref a7, .ref a8, .ref a9, .int q1, .int q2, .int q3, .int q4], aR a6 e6 17 (g6), aR a7 e7 12 (g7), aI a8 e8 301 (y8), aI a9 e9 301 (y9)] ++ va_pl L f) := hD
              refine lv_iconst (v := 1) hx hb dX8_set_48 (by decide) ?_
              refine W.widen (k := 0) (n := 0) (Nat.le_of_ble_eq_true rfl) (Nat.le_of_ble_eq_true rfl) ?_
              exact W.zret (v := 1) hx hb hr rfl (fun t ht hW => ⟨⟨1, (), rfl, (by unfold F_set; first | exact (if_pos (by omega)).symm | exact (if_neg (by omega)).symm), cp, w, tr, 1, by rw [ht]; exact hP, va_K.moved hW.alike (hK.sub (tys' := []) [] rfl), hD⟩, hS.F ht⟩) hS.2.2 dX8_set_49
      · refine lv_aload_n hx hb dX8_set_15 rfl (lv_at hl 0 rfl) ?_
        refine lv_iload_n hx hb dX8_set_16 rfl (lv_at hl 2 rfl) ?_
        refine va_put (D := D) (ci := 8) (v := .int w) (ty := .int) (C := RX8) (T := TX8) (N := 14) hx hb hts hin_X8 tyX8 tyX8_ok nmX8 hown hK hP hD hS 0 rfl rfl 10 (by decide) (hts (.fieldLink RX8 54 "CryOrder" "cap" "I") (by decide +kernel)) (fun _ h9 => h9) rfl (by decide +kernel) rfl rfl (Nat.le_of_ble_eq_true rfl) dX8_set_17 (fun H_55 locs hP hD hS => ?_)
        have hP : va_P D vwCl ([oC xo 8 [.ref a1, .ref a2, .ref a3, .ref ro, .ref tI, .ref cS, .ref pN, .int na, .int ns, .int nw, .int w, .int le, .int tr, .int sl], aR a1 e1 200 (g1), aR a2 e2 40 (g2), aR a3 e3 30 (g3), oC tI 7 [.ref a4, .int tz], aR a4 e4 60 (g4), oC cS 2 [.ref a5, .int cz], aR a5 e5 200 (g5), oC pN 5 [.ref a6, .ref a7, .ref a8, .ref a9, .int q1, .int q2, .int q3, .int q4], aR a6 e6 17 (g6), aR a7 e7 12 (g7), aI a8 e8 301 (y8), aI a9 e9 301 (y9)] ++ va_pl L f) H_55 := hP
        have hD : va_D A ([oC xo 8 [.ref a1, .ref a2, .ref a3, .ref ro, .ref tI, .ref cS, .ref pN, .int na, .int ns, .int nw, .int w, .int le, .int tr, .int sl], aR a1 e1 200 (g1), aR a2 e2 40 (g2), aR a3 e3 30 (g3), oC tI 7 [.ref a4, .int tz], aR a4 e4 60 (g4), oC cS 2 [.ref a5, .int cz], aR a5 e5 200 (g5), oC pN 5 [.ref a6, .ref a7, .ref a8, .ref a9, .int q1, .int q2, .int q3, .int q4], aR a6 e6 17 (g6), aR a7 e7 12 (g7), aI a8 e8 301 (y8), aI a9 e9 301 (y9)] ++ va_pl L f) := hD
        refine lv_iconst (v := 1) hx hb dX8_set_20 (by decide) ?_
        refine W.widen (k := 0) (n := 0) (Nat.le_of_ble_eq_true rfl) (Nat.le_of_ble_eq_true rfl) ?_
        exact W.zret (v := 1) hx hb hr rfl (fun t ht hW => ⟨⟨1, (), rfl, (by unfold F_set; first | exact (if_pos (by omega)).symm | exact (if_neg (by omega)).symm), w, le, tr, sl, by rw [ht]; exact hP, va_K.moved hW.alike (hK.sub (tys' := []) [] rfl), hD⟩, hS.F ht⟩) hS.2.2 dX8_set_21
