set_option maxHeartbeats 4000000 in
set_option maxRecDepth 100000 in
theorem c_X8_verdictR (l : Launch) (D : va_G) (sz : Nat) (xo : Nat) (ro : Nat) (tI : Nat) (cS : Nat) (pN : Nat) (a1 : Nat) (a2 : Nat) (a3 : Nat) (a4 : Nat) (a5 : Nat) (a6 : Nat) (a7 : Nat) (a8 : Nat) (a9 : Nat) (e1 : ClassId) (e2 : ClassId) (e3 : ClassId) (e4 : ClassId) (e5 : ClassId) (e6 : ClassId) (e7 : ClassId) (e8 : ClassId) (e9 : ClassId) (na : Int32) (ns : Int32) (nw : Int32) (cp : Int32) (le : Int32) (tr : Int32) (sl : Int32) (tz : Int32) (cz : Int32) (q1 : Int32) (q2 : Int32) (q3 : Int32) (q4 : Int32) (g1 : Nat → Option Nat) (g2 : Nat → Option Nat) (g3 : Nat → Option Nat) (g4 : Nat → Option Nat) (g5 : Nat → Option Nat) (g6 : Nat → Option Nat) (g7 : Nat → Option Nat) (y8 : Nat → Int32) (y9 : Nat → Int32) (L : List Nat) (K : Nat → Nat × Nat) (f : Nat → va_E) (S : Int) (v0 : Int32) (v : Int32) (w : Int32) (V : Nat → Nat → Int) (hI : cqI S L K f) (hna : 0 ≤ (na).toInt ∧ (na).toInt ≤ 200) (hns : 0 ≤ (ns).toInt ∧ (ns).toInt ≤ 30) (htz : 0 ≤ (tz).toInt ∧ (tz).toInt ≤ 60) (hcz : 0 ≤ (cz).toInt ∧ (cz).toInt ≤ 200) (j1 : cqJA L K (na).toInt g1) (j2 : cqJL L K ((na).toInt.toNat) g2) (j3 : cqJ L K 6 (ns).toInt g3) (j4 : cqJ L K 4 (tz).toInt g4) (j5 : cqJ L K 1 (cz).toInt g5) (hro : cqIs L K 3 ro) (hSb : 0 ≤ S ∧ S ≤ 500000) (hV : cqV f g1 (na).toInt V) : Met l yX8_verdict wsX8_verdict ({ frames := 2, cells := 0, slots := 0, locals := 42 }) (va_Pc [.ref xo, .int v0, .int v, .int w] (wz sz D [(e1, .object RX0), (e2, .object RX0), (e3, .object RX6), (e4, .object RX4), (e5, .object RX1), (e6, .object RX1), (e7, .object RX1), (e8, .int), (e9, .int)] ([oC xo 8 [.ref a1, .ref a2, .ref a3, .ref ro, .ref tI, .ref cS, .ref pN, .int na, .int ns, .int nw, .int cp, .int le, .int tr, .int sl], aR a1 e1 200 (g1), aR a2 e2 40 (g2), aR a3 e3 30 (g3), oC tI 7 [.ref a4, .int tz], aR a4 e4 60 (g4), oC cS 2 [.ref a5, .int cz], aR a5 e5 200 (g5), oC pN 5 [.ref a6, .ref a7, .ref a8, .ref a9, .int q1, .int q2, .int q3, .int q4], aR a6 e6 17 (g6), aR a7 e7 12 (g7), aI a8 e8 301 (y8), aI a9 e9 301 (y9)] ++ va_pl L f))) (va_Qi (fun (r : Int32) (_ : Unit) => (r).toInt = (veX V (na).toInt (v0).toInt v w).1) (fun _ t => ∃ (f9 : Nat → va_E), ∃ (sl9 : Int32), (wp D [] (va_A ([oC xo 8 [.ref a1, .ref a2, .ref a3, .ref ro, .ref tI, .ref cS, .ref pN, .int na, .int ns, .int nw, .int cp, .int le, .int tr, .int sl], aR a1 e1 200 (g1), aR a2 e2 40 (g2), aR a3 e3 30 (g3), oC tI 7 [.ref a4, .int tz], aR a4 e4 60 (g4), oC cS 2 [.ref a5, .int cz], aR a5 e5 200 (g5), oC pN 5 [.ref a6, .ref a7, .ref a8, .ref a9, .int q1, .int q2, .int q3, .int q4], aR a6 e6 17 (g6), aR a7 e7 12 (g7), aI a8 e8 301 (y8), aI a9 e9 301 (y9)] ++ va_pl L f) sz) ([oC xo 8 [.ref a1, .ref a2, .ref a3, .ref ro, .ref tI, .ref cS, .ref pN, .int na, .int ns, .int nw, .int cp, .int le, .int tr, .int sl9], aR a1 e1 200 (g1), aR a2 e2 40 (g2), aR a3 e3 30 (g3), oC tI 7 [.ref a4, .int tz], aR a4 e4 60 (g4), oC cS 2 [.ref a5, .int cz], aR a5 e5 200 (g5), oC pN 5 [.ref a6, .ref a7, .ref a8, .ref a9, .int q1, .int q2, .int q3, .int q4], aR a6 e6 17 (g6), aR a7 e7 12 (g7), aI a8 e8 301 (y8), aI a9 e9 301 (y9)] ++ va_pl L f9) t ∧ (cqI S L K f9) ∧ (cqT [(0, 12), (0, 13), (0, 14), (3, 5), (3, 6), (3, 7)] L K f f9) ∧ (cqV f9 g1 (na).toInt (veX V (na).toInt (v0).toInt v w).2))) (va_A ([oC xo 8 [.ref a1, .ref a2, .ref a3, .ref ro, .ref tI, .ref cS, .ref pN, .int na, .int ns, .int nw, .int cp, .int le, .int tr, .int sl], aR a1 e1 200 (g1), aR a2 e2 40 (g2), aR a3 e3 30 (g3), oC tI 7 [.ref a4, .int tz], aR a4 e4 60 (g4), oC cS 2 [.ref a5, .int cz], aR a5 e5 200 (g5), oC pN 5 [.ref a6, .ref a7, .ref a8, .ref a9, .int q1, .int q2, .int q3, .int q4], aR a6 e6 17 (g6), aR a7 e7 12 (g7), aI a8 e8 301 (y8), aI a9 e9 301 (y9)] ++ va_pl L f) sz)) 0 0 (va_A ([oC xo 8 [.ref a1, .ref a2, .ref a3, .ref ro, .ref tI, .ref cS, .ref pN, .int na, .int ns, .int nw, .int cp, .int le, .int tr, .int sl], aR a1 e1 200 (g1), aR a2 e2 40 (g2), aR a3 e3 30 (g3), oC tI 7 [.ref a4, .int tz], aR a4 e4 60 (g4), oC cS 2 [.ref a5, .int cz], aR a5 e5 200 (g5), oC pN 5 [.ref a6, .ref a7, .ref a8, .ref a9, .int q1, .int q2, .int q3, .int q4], aR a6 e6 17 (g6), aR a7 e7 12 (g7), aI a8 e8 301 (y8), aI a9 e9 301 (y9)] ++ va_pl L f) sz) := by
  refine Met.ofW (cc := cX8_verdict) (maxL := 5) (ret := (some .int)) (by decide) rfl ?_
  intro p e s m args below meth c s₁ B hml hv
  obtain ⟨rfl, hsz, hP, hK, hD0, hN⟩ := hv
  have hx := B.exec
  have hb := B.bytes
  have hr := B.returns
  have hts := atoms_spec (ws := wsX8_verdict) B.pre
  have hown : s.vm.findClass RX8 = some m.cls := findClass_of_methodNamed B.named
  have hlocks := B.notSynchronized
  subst hsz
  have hD := hD0.self (sz := s.heap.size)
  generalize hAe : va_A ([oC xo 8 [.ref a1, .ref a2, .ref a3, .ref ro, .ref tI, .ref cS, .ref pN, .int na, .int ns, .int nw, .int cp, .int le, .int tr, .int sl], aR a1 e1 200 (g1), aR a2 e2 40 (g2), aR a3 e3 30 (g3), oC tI 7 [.ref a4, .int tz], aR a4 e4 60 (g4), oC cS 2 [.ref a5, .int cz], aR a5 e5 200 (g5), oC pN 5 [.ref a6, .ref a7, .ref a8, .ref a9, .int q1, .int q2, .int q3, .int q4], aR a6 e6 17 (g6), aR a7 e7 12 (g7), aI a8 e8 301 (y8), aI a9 e9 301 (y9)] ++ va_pl L f) s.heap.size = A at hD ⊢
  have hA : ∀ q : Nat, s.heap.size ≤ q → A q := fun q h => by rw [← hAe]; exact Or.inr h
  have hS : va_S A s.heap s.heap [] := va_S.rf
  have hin_X0 : ∀ w ∈ u_ws RX0 TX0 17, w ∈ wsX8_verdict := fun w h => List.mem_cons_of_mem _ (List.mem_append_left _ (List.mem_append_left _ (List.mem_append_right _ (h))))
  have hin_X8 : ∀ w ∈ u_ws RX8 TX8 14, w ∈ wsX8_verdict := fun w h => List.mem_cons_of_mem _ (List.mem_append_left _ (List.mem_append_right _ (h)))
  have hl := lv_entry ([.ref xo, .int v0, .int v, .int w]) (n := 5) (Nat.le_of_ble_eq_true rfl)
  rw [lg_entry_eq]
  generalize (lg_sl ([.ref xo, .int v0, .int v, .int w]) ++ List.replicate (5 - (lg_sl ([.ref xo, .int v0, .int v, .int w])).length) Slot.unset).toArray = ls at hl ⊢
  have hl : lv_has ls 5 [(0, .ref xo), (1, .int v0), (2, .int v), (3, .int w)] := hl
  have hT0 : cqT [(0, 12), (0, 13), (0, 14), (3, 5), (3, 6), (3, 7)] L K f f := cqT.rf
  have hG0 : cqG L K L K := cqG.rf
  refine lv_aload_n hx hb dX8_verdict_0 rfl (lv_at hl 0 rfl) ?_
  refine lv_iload_n hx hb dX8_verdict_1 rfl (lv_at hl 1 rfl) ?_
  refine va_csq (wrV (As := [.int v0]) (rest := []) ⟨hx, hb, hml, hown, hts⟩ hN hK hP hD (c_X8_alarmAtR l D xo ro tI cS pN a1 a2 a3 a4 a5 a6 a7 a8 a9 e1 e2 e3 e4 e5 e6 e7 e8 e9 na ns nw cp le tr sl tz cz q1 q2 q3 q4 g1 g2 g3 g4 g5 g6 g7 y8 y9 L K f S v0 hI (by first | omega | assumption | decide | (have h3 : (0 : Int32).toInt = 0 := rfl; omega) | (have h3 : (0 : Int32).toInt = 0 := rfl; have h4 : (1 : Int32).toInt = 1 := rfl; have h5 : (-1 : Int32).toInt = -1 := rfl; omega)) j1) (cwV 1 hts gX8_verdict_X8_alarmAt rfl rfl rfl (by decide +kernel) ⟨(Nat.le_of_ble_eq_true rfl), (Nat.le_of_ble_eq_true rfl)⟩) 8 rfl ⟨0, _, rfl⟩ rfl hl.1 rfl (Nat.le_of_ble_eq_true rfl) dX8_verdict_2 ⟨(Nat.le_of_ble_eq_true rfl), (Nat.le_of_ble_eq_true rfl)⟩) (fun r_1 h_2 => ?_)
  obtain ⟨h_2, xh_2⟩ := h_2
  have h_2 : cqOp L K 0 r_1 := h_2
  have xh_2 : atS (na).toInt (v0).toInt (v0).toInt.toNat g1 r_1 := xh_2
  refine q_astore (r := r_1) (lv' := [(4, va_rf r_1), (0, .ref xo), (1, .int v0), (2, .int v), (3, .int w)]) hx hb dX8_verdict_5 hl (by decide) rfl (fun ls hl => ?_)
  refine q_aload hx hb dX8_verdict_7 (lv_at hl 0 rfl) ?_
  rcases r_1 with _ | b_3
  · have hl : lv_has ls 5 [(4, .null), (0, .ref xo), (1, .int v0), (2, .int v), (3, .int w)] := hl
    refine lv_ifnullN (tgt := 38) hx hb dX8_verdict_9 (by decide) ?_
    refine lv_iconst (v := (-1)) hx hb dX8_verdict_38 (by decide) ?_
    have h9 := xh_2.2 rfl
    have hal := ve_no (v := v) (w := w) (fun ok => h9 ok.1) hV
    refine W.widen (k := 0) (n := 0) (Nat.le_of_ble_eq_true rfl) (Nat.le_of_ble_eq_true rfl) ?_
    exact W.iret (v := (-1)) hx hb hr (fun t ht hW => ⟨⟨(-1), (), rfl, ((show ((-1) : Int32).toInt = (-1) by decide).trans hal.1), f, sl, ⟨by rw [ht]; exact hP, va_K.moved hW.alike (hK.sub (tys' := []) [] rfl), hD⟩, hI, hT0, hal.2⟩, hS.F ht⟩) hS.2.2 dX8_verdict_39
  · have hl : lv_has ls 5 [(4, .ref b_3), (0, .ref xo), (1, .int v0), (2, .int v), (3, .int w)] := hl
    have is_4 := h_2 b_3 rfl
    refine lv_ifnull hx hb dX8_verdict_9 ?_
    refine lv_iload_n hx hb dX8_verdict_12 rfl (lv_at hl 3 rfl) ?_
    refine lv_bipush (v := 10) hx hb dX8_verdict_13 (by decide) ?_
    refine vp_callSi (zrS (As := [.int v, .int 10]) (rest := []) (wc := []) ⟨hx, hb, hml, hown, hts⟩ hN hK hP hD (c_X8_isBelow l D v 10 ) (va_cwS 2 hts gX8_verdict_X8_isBelow rfl rfl rfl (by decide +kernel) ⟨(Nat.le_of_ble_eq_true rfl), (Nat.le_of_ble_eq_true rfl)⟩) [] [] rfl rfl (by decide) rfl hl.1 rfl (Nat.le_of_ble_eq_true rfl) dX8_verdict_15 ⟨(Nat.le_of_ble_eq_true rfl), (Nat.le_of_ble_eq_true rfl)⟩) (fun r_5 h_6 => ?_)
    rcases h_6 with ⟨h_6, rfl⟩ | ⟨h_6, rfl⟩
    · have h_6 : 0 ≤ (v).toInt ∧ (v).toInt < 10 := h_6
      refine lv_if_eq (tgt := 38) hx hb dX8_verdict_18 (by decide) (fun c_ => absurd c_ (by decide)) (fun _ => ?_)
      refine lv_aload hx hb dX8_verdict_21 (lv_at hl 0 rfl) ?_
      refine vp_callSi (wrV (As := []) (rest := []) ⟨hx, hb, hml, hown, hts⟩ hN hK hP hD (c_X0_isOpenR l D [oC xo 8 [.ref a1, .ref a2, .ref a3, .ref ro, .ref tI, .ref cS, .ref pN, .int na, .int ns, .int nw, .int cp, .int le, .int tr, .int sl], aR a1 e1 200 (g1), aR a2 e2 40 (g2), aR a3 e3 30 (g3), oC tI 7 [.ref a4, .int tz], aR a4 e4 60 (g4), oC cS 2 [.ref a5, .int cz], aR a5 e5 200 (g5), oC pN 5 [.ref a6, .ref a7, .ref a8, .ref a9, .int q1, .int q2, .int q3, .int q4], aR a6 e6 17 (g6), aR a7 e7 12 (g7), aI a8 e8 301 (y8), aI a9 e9 301 (y9)] L K f S [(e1, .object RX0), (e2, .object RX0), (e3, .object RX6), (e4, .object RX4), (e5, .object RX1), (e6, .object RX1), (e7, .object RX1), (e8, .int), (e9, .int)] b_3 hI is_4) (cwV 0 hts gX8_verdict_X0_isOpen rfl rfl rfl (by decide +kernel) ⟨(Nat.le_of_ble_eq_true rfl), (Nat.le_of_ble_eq_true rfl)⟩) 0 rfl (cq_rcA (X := [oC xo 8 [.ref a1, .ref a2, .ref a3, .ref ro, .ref tI, .ref cS, .ref pN, .int na, .int ns, .int nw, .int cp, .int le, .int tr, .int sl], aR a1 e1 200 (g1), aR a2 e2 40 (g2), aR a3 e3 30 (g3), oC tI 7 [.ref a4, .int tz], aR a4 e4 60 (g4), oC cS 2 [.ref a5, .int cz], aR a5 e5 200 (g5), oC pN 5 [.ref a6, .ref a7, .ref a8, .ref a9, .int q1, .int q2, .int q3, .int q4], aR a6 e6 17 (g6), aR a7 e7 12 (g7), aI a8 e8 301 (y8), aI a9 e9 301 (y9)]) hI is_4) rfl hl.1 rfl (Nat.le_of_ble_eq_true rfl) dX8_verdict_23 ⟨(Nat.le_of_ble_eq_true rfl), (Nat.le_of_ble_eq_true rfl)⟩) (fun r_7 h_8 => ?_)
      rcases h_8 with ⟨h_8, rfl⟩ | ⟨h_8, rfl⟩
      · have h_8 : cqF (f b_3) 12 = 0 := h_8
        refine lv_if_eq (tgt := 38) hx hb dX8_verdict_26 (by decide) (fun c_ => absurd c_ (by decide)) (fun _ => ?_)
        refine lv_aload hx hb dX8_verdict_29 (lv_at hl 0 rfl) ?_
        refine lv_iload_n hx hb dX8_verdict_31 rfl (lv_at hl 3 rfl) ?_
        refine vp_callSi (wrV (As := [.int v]) (rest := []) ⟨hx, hb, hml, hown, hts⟩ hN hK hP hD (c_X0_hasHeardR l D [oC xo 8 [.ref a1, .ref a2, .ref a3, .ref ro, .ref tI, .ref cS, .ref pN, .int na, .int ns, .int nw, .int cp, .int le, .int tr, .int sl], aR a1 e1 200 (g1), aR a2 e2 40 (g2), aR a3 e3 30 (g3), oC tI 7 [.ref a4, .int tz], aR a4 e4 60 (g4), oC cS 2 [.ref a5, .int cz], aR a5 e5 200 (g5), oC pN 5 [.ref a6, .ref a7, .ref a8, .ref a9, .int q1, .int q2, .int q3, .int q4], aR a6 e6 17 (g6), aR a7 e7 12 (g7), aI a8 e8 301 (y8), aI a9 e9 301 (y9)] L K f S [(e1, .object RX0), (e2, .object RX0), (e3, .object RX6), (e4, .object RX4), (e5, .object RX1), (e6, .object RX1), (e7, .object RX1), (e8, .int), (e9, .int)] b_3 v hI is_4) (cwV 1 hts gX8_verdict_X0_hasHeard rfl rfl rfl (by decide +kernel) ⟨(Nat.le_of_ble_eq_true rfl), (Nat.le_of_ble_eq_true rfl)⟩) 0 rfl (cq_rcA (X := [oC xo 8 [.ref a1, .ref a2, .ref a3, .ref ro, .ref tI, .ref cS, .ref pN, .int na, .int ns, .int nw, .int cp, .int le, .int tr, .int sl], aR a1 e1 200 (g1), aR a2 e2 40 (g2), aR a3 e3 30 (g3), oC tI 7 [.ref a4, .int tz], aR a4 e4 60 (g4), oC cS 2 [.ref a5, .int cz], aR a5 e5 200 (g5), oC pN 5 [.ref a6, .ref a7, .ref a8, .ref a9, .int q1, .int q2, .int q3, .int q4], aR a6 e6 17 (g6), aR a7 e7 12 (g7), aI a8 e8 301 (y8), aI a9 e9 301 (y9)]) hI is_4) rfl hl.1 rfl (Nat.le_of_ble_eq_true rfl) dX8_verdict_32 ⟨(Nat.le_of_ble_eq_true rfl), (Nat.le_of_ble_eq_true rfl)⟩) (fun r_9 h_10 => ?_)
        rcases h_10 with ⟨h_10, rfl⟩ | ⟨h_10, rfl⟩
        · have h_10 : hhC (cqF (f b_3) 13) (cqF (f b_3) 14) v := h_10
          refine lv_if_eq (tgt := 40) hx hb dX8_verdict_35 (by decide) (fun c_ => absurd c_ (by decide)) (fun _ => ?_)
          refine lv_iconst (v := (-1)) hx hb dX8_verdict_38 (by decide) ?_
          obtain ⟨hx9, hx8⟩ := xh_2.1 _ rfl
          have V12 := hV _ (by omega) b_3 hx8 12 (by decide)
          have V13 := hV _ (by omega) b_3 hx8 13 (by decide)
          have V14 := hV _ (by omega) b_3 hx8 14 (by decide)
          have hal := ve_no (V := V) (v0 := (v0).toInt) (v := v) (w := w) (fun ok => by obtain ⟨o1, o2, o3, o4⟩ := ok; rw [← V13, ← V14] at o4; exact o4 h_10) hV
          refine W.widen (k := 0) (n := 0) (Nat.le_of_ble_eq_true rfl) (Nat.le_of_ble_eq_true rfl) ?_
          exact W.iret (v := (-1)) hx hb hr (fun t ht hW => ⟨⟨(-1), (), rfl, ((show ((-1) : Int32).toInt = (-1) by decide).trans hal.1), f, sl, ⟨by rw [ht]; exact hP, va_K.moved hW.alike (hK.sub (tys' := []) [] rfl), hD⟩, hI, hT0, hal.2⟩, hS.F ht⟩) hS.2.2 dX8_verdict_39
        · have h_10 : ¬ hhC (cqF (f b_3) 13) (cqF (f b_3) 14) v := h_10
          refine lv_if_eq (tgt := 40) hx hb dX8_verdict_35 (by decide) (fun _ => ?_) (fun c_ => absurd c_ (by decide))
          refine lv_aload hx hb dX8_verdict_40 (lv_at hl 0 rfl) ?_
          refine lv_iload_n hx hb dX8_verdict_42 rfl (lv_at hl 3 rfl) ?_
          refine lv_iload_n hx hb dX8_verdict_43 rfl (lv_at hl 4 rfl) ?_
          refine va_callv (wwV (mc := 0) (ms := 0) (As := [.int v, .int w]) (rest := []) ⟨hx, hb, hml, hown, hts⟩ hN hK hP hD (c_X0_hearF l D s.heap.size [oC xo 8 [.ref a1, .ref a2, .ref a3, .ref ro, .ref tI, .ref cS, .ref pN, .int na, .int ns, .int nw, .int cp, .int le, .int tr, .int sl], aR a1 e1 200 (g1), aR a2 e2 40 (g2), aR a3 e3 30 (g3), oC tI 7 [.ref a4, .int tz], aR a4 e4 60 (g4), oC cS 2 [.ref a5, .int cz], aR a5 e5 200 (g5), oC pN 5 [.ref a6, .ref a7, .ref a8, .ref a9, .int q1, .int q2, .int q3, .int q4], aR a6 e6 17 (g6), aR a7 e7 12 (g7), aI a8 e8 301 (y8), aI a9 e9 301 (y9)] L K f S [(e1, .object RX0), (e2, .object RX0), (e3, .object RX6), (e4, .object RX4), (e5, .object RX1), (e6, .object RX1), (e7, .object RX1), (e8, .int), (e9, .int)] b_3 v w hI is_4) (cwV 2 hts gX8_verdict_X0_hear rfl rfl rfl (by decide +kernel) ⟨(Nat.le_of_ble_eq_true rfl), (Nat.le_of_ble_eq_true rfl)⟩) 0 rfl (cq_rcA (X := [oC xo 8 [.ref a1, .ref a2, .ref a3, .ref ro, .ref tI, .ref cS, .ref pN, .int na, .int ns, .int nw, .int cp, .int le, .int tr, .int sl], aR a1 e1 200 (g1), aR a2 e2 40 (g2), aR a3 e3 30 (g3), oC tI 7 [.ref a4, .int tz], aR a4 e4 60 (g4), oC cS 2 [.ref a5, .int cz], aR a5 e5 200 (g5), oC pN 5 [.ref a6, .ref a7, .ref a8, .ref a9, .int q1, .int q2, .int q3, .int q4], aR a6 e6 17 (g6), aR a7 e7 12 (g7), aI a8 e8 301 (y8), aI a9 e9 301 (y9)]) hI is_4) rfl hl.1 rfl (Nat.le_of_ble_eq_true rfl) dX8_verdict_44 ⟨(Nat.le_of_ble_eq_true rfl), (Nat.le_of_ble_eq_true rfl)⟩) hS (fun q _ h => wfree hD hS hA q h) (wfree hD hS hA) (fun u t H_11 locs1 ht hvm hw hB hz1 hk1 hS1 => ?_)
          obtain ⟨f_12, hB, h_13a, h_13b, h_13c, h_13d, h_13e, h_13f⟩ := hB
          obtain ⟨hP, hD⟩ := wj hB ht (wfree hD hS hA)
          have hS := hS1
          have h_13a : cqI S L K f_12 := h_13a
          have h_13b : cqT [(0, 12), (0, 13), (0, 14)] L K f f_12 := h_13b
          have h_13c : cqO b_3 f f_12 := h_13c
          have h_13d : cqF (f_12 b_3) 13 = heT (cqF (f b_3) 13) v w := h_13d
          have h_13e : cqF (f_12 b_3) 14 = heF (cqF (f b_3) 14) v w := h_13e
          have h_13f : cqF (f_12 b_3) 12 = heS (cqF (f_12 b_3) 13) (cqF (f_12 b_3) 14) (cqF (f b_3) 12) := h_13f
          have hI : cqI S L K f_12 := h_13a
          have hT_14 := hT0.thenG hG0 (h_13b.weak (by decide))
          have hP : va_P D vwCl ([oC xo 8 [.ref a1, .ref a2, .ref a3, .ref ro, .ref tI, .ref cS, .ref pN, .int na, .int ns, .int nw, .int cp, .int le, .int tr, .int sl], aR a1 e1 200 (g1), aR a2 e2 40 (g2), aR a3 e3 30 (g3), oC tI 7 [.ref a4, .int tz], aR a4 e4 60 (g4), oC cS 2 [.ref a5, .int cz], aR a5 e5 200 (g5), oC pN 5 [.ref a6, .ref a7, .ref a8, .ref a9, .int q1, .int q2, .int q3, .int q4], aR a6 e6 17 (g6), aR a7 e7 12 (g7), aI a8 e8 301 (y8), aI a9 e9 301 (y9)] ++ va_pl L f_12) H_11 := hP
          have hD : va_D A ([oC xo 8 [.ref a1, .ref a2, .ref a3, .ref ro, .ref tI, .ref cS, .ref pN, .int na, .int ns, .int nw, .int cp, .int le, .int tr, .int sl], aR a1 e1 200 (g1), aR a2 e2 40 (g2), aR a3 e3 30 (g3), oC tI 7 [.ref a4, .int tz], aR a4 e4 60 (g4), oC cS 2 [.ref a5, .int cz], aR a5 e5 200 (g5), oC pN 5 [.ref a6, .ref a7, .ref a8, .ref a9, .int q1, .int q2, .int q3, .int q4], aR a6 e6 17 (g6), aR a7 e7 12 (g7), aI a8 e8 301 (y8), aI a9 e9 301 (y9)] ++ va_pl L f_12) := hD
          refine lv_aload hx hb dX8_verdict_47 (lv_at hl 0 rfl) ?_
          refine vp_callSi (wrV (As := []) (rest := []) ⟨hx, hb, hml, hown, hts⟩ hN hK hP hD (c_X0_isOpenR l D [oC xo 8 [.ref a1, .ref a2, .ref a3, .ref ro, .ref tI, .ref cS, .ref pN, .int na, .int ns, .int nw, .int cp, .int le, .int tr, .int sl], aR a1 e1 200 (g1), aR a2 e2 40 (g2), aR a3 e3 30 (g3), oC tI 7 [.ref a4, .int tz], aR a4 e4 60 (g4), oC cS 2 [.ref a5, .int cz], aR a5 e5 200 (g5), oC pN 5 [.ref a6, .ref a7, .ref a8, .ref a9, .int q1, .int q2, .int q3, .int q4], aR a6 e6 17 (g6), aR a7 e7 12 (g7), aI a8 e8 301 (y8), aI a9 e9 301 (y9)] L K f_12 S [(e1, .object RX0), (e2, .object RX0), (e3, .object RX6), (e4, .object RX4), (e5, .object RX1), (e6, .object RX1), (e7, .object RX1), (e8, .int), (e9, .int)] b_3 hI is_4) (cwV 0 hts gX8_verdict_X0_isOpen rfl rfl rfl (by decide +kernel) ⟨(Nat.le_of_ble_eq_true rfl), (Nat.le_of_ble_eq_true rfl)⟩) 0 rfl (cq_rcA (X := [oC xo 8 [.ref a1, .ref a2, .ref a3, .ref ro, .ref tI, .ref cS, .ref pN, .int na, .int ns, .int nw, .int cp, .int le, .int tr, .int sl], aR a1 e1 200 (g1), aR a2 e2 40 (g2), aR a3 e3 30 (g3), oC tI 7 [.ref a4, .int tz], aR a4 e4 60 (g4), oC cS 2 [.ref a5, .int cz], aR a5 e5 200 (g5), oC pN 5 [.ref a6, .ref a7, .ref a8, .ref a9, .int q1, .int q2, .int q3, .int q4], aR a6 e6 17 (g6), aR a7 e7 12 (g7), aI a8 e8 301 (y8), aI a9 e9 301 (y9)]) hI is_4) rfl hl.1 rfl (Nat.le_of_ble_eq_true rfl) dX8_verdict_49 ⟨(Nat.le_of_ble_eq_true rfl), (Nat.le_of_ble_eq_true rfl)⟩) (fun r_15 h_16 => ?_)
          rcases h_16 with ⟨h_16, rfl⟩ | ⟨h_16, rfl⟩
          · have h_16 : cqF (f_12 b_3) 12 = 0 := h_16
            refine lv_if_eq (tgt := 57) hx hb dX8_verdict_52 (by decide) (fun c_ => absurd c_ (by decide)) (fun _ => ?_)
            refine lv_iconst (v := 0) hx hb dX8_verdict_55 (by decide) ?_
            have hal := ve_yes (w := w) (r := 0) xh_2 hV j1 (by omega) h_8 h_10 h_13c h_13b h_13d h_13e h_13f (cqT.rf (X := [])) (by decide) (Or.inl ⟨h_16, rfl⟩)
            refine W.widen (k := 0) (n := 0) (Nat.le_of_ble_eq_true rfl) (Nat.le_of_ble_eq_true rfl) ?_
            exact W.iret (v := 0) hx hb hr (fun t ht hW => ⟨⟨0, (), rfl, ((show (0 : Int32).toInt = 0 by decide).trans hal.1), f_12, sl, ⟨by rw [ht]; exact hP, va_K.moved hW.alike (hK.sub (tys' := []) [] rfl), hD⟩, hI, hT_14, hal.2⟩, hS.F ht⟩) hS.2.2 dX8_verdict_56
          · have h_16 : ¬ cqF (f_12 b_3) 12 = 0 := h_16
            refine lv_if_eq (tgt := 57) hx hb dX8_verdict_52 (by decide) (fun _ => ?_) (fun c_ => absurd c_ (by decide))
            refine lv_aload hx hb dX8_verdict_57 (lv_at hl 0 rfl) ?_
            obtain ⟨nu_17, ca_17, so_17, th_17, ma_17, wo_17, lf_17, ld_17, si_17, cp_17, he_17, re_17, sv_17, lt_17, lF_17, sn_17, ab_17, hf_17, hnu_17, hlf_17, hld_17, hsi_17, hcp_17, hsn_17, hab_17⟩ := hI.opA is_4
            have F2hf_17 : cqF (f_12 b_3) 2 = (so_17).toInt := by rw [hf_17]; rfl
            have F3hf_17 : cqF (f_12 b_3) 3 = (th_17).toInt := by rw [hf_17]; rfl
            have F4hf_17 : cqF (f_12 b_3) 4 = (ma_17).toInt := by rw [hf_17]; rfl
            have F8hf_17 : cqF (f_12 b_3) 8 = (si_17).toInt := by rw [hf_17]; rfl
            have F9hf_17 : cqF (f_12 b_3) 9 = (cp_17).toInt := by rw [hf_17]; rfl
            have F10hf_17 : cqF (f_12 b_3) 10 = (he_17).toInt := by rw [hf_17]; rfl
            have F12hf_17 : cqF (f_12 b_3) 12 = (sv_17).toInt := by rw [hf_17]; rfl
            have F13hf_17 : cqF (f_12 b_3) 13 = (lt_17).toInt := by rw [hf_17]; rfl
            have F14hf_17 : cqF (f_12 b_3) 14 = (lF_17).toInt := by rw [hf_17]; rfl
            refine pl_get (D := D) (ci := 0) (v := .ref lf_17) (C := RX0) (T := TX0) (N := 17) hx hb hts hin_X0 hown hK hP is_4.1 hf_17 rfl 6 (by decide) (hts (.fieldLink RX8 103 "CryOrder$Alarm" "leaf" "LCryOrder$Node;") (List.mem_cons_of_mem _ (List.mem_append_left _ (List.mem_append_left _ (List.mem_append_left _ (List.mem_append_left _ (List.mem_of_getElem? (i := 0) rfl))))))) (fun _ h9 => h9) rfl dX8_verdict_59 ?_
            refine lv_iload_n hx hb dX8_verdict_62 rfl (lv_at hl 4 rfl) ?_
            refine va_callv (wwV (mc := 0) (ms := 0) (As := [.int w]) (rest := []) ⟨hx, hb, hml, hown, hts⟩ hN hK hP hD (c_X3_settleF l D H_11.size [oC xo 8 [.ref a1, .ref a2, .ref a3, .ref ro, .ref tI, .ref cS, .ref pN, .int na, .int ns, .int nw, .int cp, .int le, .int tr, .int sl], aR a1 e1 200 (g1), aR a2 e2 40 (g2), aR a3 e3 30 (g3), oC tI 7 [.ref a4, .int tz], aR a4 e4 60 (g4), oC cS 2 [.ref a5, .int cz], aR a5 e5 200 (g5), oC pN 5 [.ref a6, .ref a7, .ref a8, .ref a9, .int q1, .int q2, .int q3, .int q4], aR a6 e6 17 (g6), aR a7 e7 12 (g7), aI a8 e8 301 (y8), aI a9 e9 301 (y9)] L K f_12 S [(e1, .object RX0), (e2, .object RX0), (e3, .object RX6), (e4, .object RX4), (e5, .object RX1), (e6, .object RX1), (e7, .object RX1), (e8, .int), (e9, .int)] lf_17 w hI hlf_17) (cwV 1 hts gX8_verdict_X3_settle rfl rfl rfl (by decide +kernel) ⟨(Nat.le_of_ble_eq_true rfl), (Nat.le_of_ble_eq_true rfl)⟩) 3 rfl (cq_rcN (X := [oC xo 8 [.ref a1, .ref a2, .ref a3, .ref ro, .ref tI, .ref cS, .ref pN, .int na, .int ns, .int nw, .int cp, .int le, .int tr, .int sl], aR a1 e1 200 (g1), aR a2 e2 40 (g2), aR a3 e3 30 (g3), oC tI 7 [.ref a4, .int tz], aR a4 e4 60 (g4), oC cS 2 [.ref a5, .int cz], aR a5 e5 200 (g5), oC pN 5 [.ref a6, .ref a7, .ref a8, .ref a9, .int q1, .int q2, .int q3, .int q4], aR a6 e6 17 (g6), aR a7 e7 12 (g7), aI a8 e8 301 (y8), aI a9 e9 301 (y9)]) hI hlf_17) rfl hl.1 rfl (Nat.le_of_ble_eq_true rfl) dX8_verdict_63 ⟨(Nat.le_of_ble_eq_true rfl), (Nat.le_of_ble_eq_true rfl)⟩) hS (fun q _ h => wfree hD hS hA q h) (wfree hD hS hA) (fun u t H_18 locs1 ht hvm hw hB hz1 hk1 hS1 => ?_)
            obtain ⟨f_19, hB, h_20a, h_20b⟩ := hB
            obtain ⟨hP, hD⟩ := wj hB ht (wfree hD hS hA)
            have hS := hS1
            have h_20a : cqI S L K f_19 := h_20a
            have h_20b : cqT [(3, 5), (3, 6), (3, 7)] L K f_12 f_19 := h_20b
            have hI : cqI S L K f_19 := h_20a
            have hT_21 := hT_14.thenG hG0 (h_20b.weak (by decide))
            have hP : va_P D vwCl ([oC xo 8 [.ref a1, .ref a2, .ref a3, .ref ro, .ref tI, .ref cS, .ref pN, .int na, .int ns, .int nw, .int cp, .int le, .int tr, .int sl], aR a1 e1 200 (g1), aR a2 e2 40 (g2), aR a3 e3 30 (g3), oC tI 7 [.ref a4, .int tz], aR a4 e4 60 (g4), oC cS 2 [.ref a5, .int cz], aR a5 e5 200 (g5), oC pN 5 [.ref a6, .ref a7, .ref a8, .ref a9, .int q1, .int q2, .int q3, .int q4], aR a6 e6 17 (g6), aR a7 e7 12 (g7), aI a8 e8 301 (y8), aI a9 e9 301 (y9)] ++ va_pl L f_19) H_18 := hP
            have hD : va_D A ([oC xo 8 [.ref a1, .ref a2, .ref a3, .ref ro, .ref tI, .ref cS, .ref pN, .int na, .int ns, .int nw, .int cp, .int le, .int tr, .int sl], aR a1 e1 200 (g1), aR a2 e2 40 (g2), aR a3 e3 30 (g3), oC tI 7 [.ref a4, .int tz], aR a4 e4 60 (g4), oC cS 2 [.ref a5, .int cz], aR a5 e5 200 (g5), oC pN 5 [.ref a6, .ref a7, .ref a8, .ref a9, .int q1, .int q2, .int q3, .int q4], aR a6 e6 17 (g6), aR a7 e7 12 (g7), aI a8 e8 301 (y8), aI a9 e9 301 (y9)] ++ va_pl L f_19) := hD
            refine lv_aload_n hx hb dX8_verdict_66 rfl (lv_at hl 1 rfl) ?_
            refine lv_iconst (v := 1) hx hb dX8_verdict_67 (by decide) ?_
            refine va_put (D := D) (ci := 8) (v := .int 1) (ty := .boolean) (C := RX8) (T := TX8) (N := 14) hx hb hts hin_X8 tyX8 tyX8_ok nmX8 hown hK hP hD hS 0 rfl rfl 13 (by decide) (hts (.fieldLink RX8 113 "CryOrder" "casesAreStale" "Z") (List.mem_cons_of_mem _ (List.mem_append_left _ (List.mem_append_left _ (List.mem_append_left _ (List.mem_append_left _ (List.mem_of_getElem? (i := 1) rfl))))))) (fun _ h9 => h9) rfl (by decide +kernel) rfl rfl (Nat.le_of_ble_eq_true rfl) dX8_verdict_68 (fun H_22 locs hP hD hS => ?_)
            have hP : va_P D vwCl ([oC xo 8 [.ref a1, .ref a2, .ref a3, .ref ro, .ref tI, .ref cS, .ref pN, .int na, .int ns, .int nw, .int cp, .int le, .int tr, .int 1], aR a1 e1 200 (g1), aR a2 e2 40 (g2), aR a3 e3 30 (g3), oC tI 7 [.ref a4, .int tz], aR a4 e4 60 (g4), oC cS 2 [.ref a5, .int cz], aR a5 e5 200 (g5), oC pN 5 [.ref a6, .ref a7, .ref a8, .ref a9, .int q1, .int q2, .int q3, .int q4], aR a6 e6 17 (g6), aR a7 e7 12 (g7), aI a8 e8 301 (y8), aI a9 e9 301 (y9)] ++ va_pl L f_19) H_22 := hP
            have hD : va_D A ([oC xo 8 [.ref a1, .ref a2, .ref a3, .ref ro, .ref tI, .ref cS, .ref pN, .int na, .int ns, .int nw, .int cp, .int le, .int tr, .int 1], aR a1 e1 200 (g1), aR a2 e2 40 (g2), aR a3 e3 30 (g3), oC tI 7 [.ref a4, .int tz], aR a4 e4 60 (g4), oC cS 2 [.ref a5, .int cz], aR a5 e5 200 (g5), oC pN 5 [.ref a6, .ref a7, .ref a8, .ref a9, .int q1, .int q2, .int q3, .int q4], aR a6 e6 17 (g6), aR a7 e7 12 (g7), aI a8 e8 301 (y8), aI a9 e9 301 (y9)] ++ va_pl L f_19) := hD
            refine lv_iconst (v := 1) hx hb dX8_verdict_71 (by decide) ?_
            have hal := ve_yes (w := w) (r := 1) xh_2 hV j1 (by omega) h_8 h_10 h_13c h_13b h_13d h_13e h_13f h_20b (by decide) (Or.inr ⟨h_16, rfl⟩)
            refine W.widen (k := 0) (n := 0) (Nat.le_of_ble_eq_true rfl) (Nat.le_of_ble_eq_true rfl) ?_
            exact W.iret (v := 1) hx hb hr (fun t ht hW => ⟨⟨1, (), rfl, ((show (1 : Int32).toInt = 1 by decide).trans hal.1), f_19, 1, ⟨by rw [ht]; exact hP, va_K.moved hW.alike (hK.sub (tys' := []) [] rfl), hD⟩, hI, hT_21, hal.2⟩, hS.F ht⟩) hS.2.2 dX8_verdict_72
      · have h_8 : ¬ cqF (f b_3) 12 = 0 := h_8
        refine lv_if_eq (tgt := 38) hx hb dX8_verdict_26 (by decide) (fun _ => ?_) (fun c_ => absurd c_ (by decide))
        refine lv_iconst (v := (-1)) hx hb dX8_verdict_38 (by decide) ?_
        obtain ⟨hx9, hx8⟩ := xh_2.1 _ rfl
        have V12 := hV _ (by omega) b_3 hx8 12 (by decide)
        have V13 := hV _ (by omega) b_3 hx8 13 (by decide)
        have V14 := hV _ (by omega) b_3 hx8 14 (by decide)
        have hal := ve_no (V := V) (v0 := (v0).toInt) (v := v) (w := w) (fun ok => by obtain ⟨o1, o2, o3, o4⟩ := ok; exact h_8 (V12.trans o3)) hV
        refine W.widen (k := 0) (n := 0) (Nat.le_of_ble_eq_true rfl) (Nat.le_of_ble_eq_true rfl) ?_
        exact W.iret (v := (-1)) hx hb hr (fun t ht hW => ⟨⟨(-1), (), rfl, ((show ((-1) : Int32).toInt = (-1) by decide).trans hal.1), f, sl, ⟨by rw [ht]; exact hP, va_K.moved hW.alike (hK.sub (tys' := []) [] rfl), hD⟩, hI, hT0, hal.2⟩, hS.F ht⟩) hS.2.2 dX8_verdict_39
    · have h_6 : (v).toInt < 0 ∨ 10 ≤ (v).toInt := h_6
      refine lv_if_eq (tgt := 38) hx hb dX8_verdict_18 (by decide) (fun _ => ?_) (fun c_ => absurd c_ (by decide))
      refine lv_iconst (v := (-1)) hx hb dX8_verdict_38 (by decide) ?_
      obtain ⟨hx9, hx8⟩ := xh_2.1 _ rfl
      have V12 := hV _ (by omega) b_3 hx8 12 (by decide)
      have V13 := hV _ (by omega) b_3 hx8 13 (by decide)
      have V14 := hV _ (by omega) b_3 hx8 14 (by decide)
      have hal := ve_no (V := V) (v0 := (v0).toInt) (v := v) (w := w) (fun ok => by obtain ⟨o1, o2, o3, o4⟩ := ok; omega) hV
      refine W.widen (k := 0) (n := 0) (Nat.le_of_ble_eq_true rfl) (Nat.le_of_ble_eq_true rfl) ?_
      exact W.iret (v := (-1)) hx hb hr (fun t ht hW => ⟨⟨(-1), (), rfl, ((show ((-1) : Int32).toInt = (-1) by decide).trans hal.1), f, sl, ⟨by rw [ht]; exact hP, va_K.moved hW.alike (hK.sub (tys' := []) [] rfl), hD⟩, hI, hT0, hal.2⟩, hS.F ht⟩) hS.2.2 dX8_verdict_39
