set_option maxHeartbeats 4000000 in
set_option maxRecDepth 100000 in
theorem c_X7_tellR (l : Launch) (D : va_G) (sz : Nat) (xo : Nat) (ro : Nat) (tI : Nat) (cS : Nat) (pN : Nat) (a1 : Nat) (a2 : Nat) (a3 : Nat) (a4 : Nat) (a5 : Nat) (a6 : Nat) (a7 : Nat) (a8 : Nat) (a9 : Nat) (e1 : ClassId) (e2 : ClassId) (e3 : ClassId) (e4 : ClassId) (e5 : ClassId) (e6 : ClassId) (e7 : ClassId) (e8 : ClassId) (e9 : ClassId) (na : Int32) (ns : Int32) (nw : Int32) (cp : Int32) (le : Int32) (tr : Int32) (sl : Int32) (tz : Int32) (cz : Int32) (q1 : Int32) (q2 : Int32) (q3 : Int32) (q4 : Int32) (g1 : Nat → Option Nat) (g2 : Nat → Option Nat) (g3 : Nat → Option Nat) (g4 : Nat → Option Nat) (g5 : Nat → Option Nat) (g6 : Nat → Option Nat) (g7 : Nat → Option Nat) (y8 : Nat → Int32) (y9 : Nat → Int32) (L : List Nat) (K : Nat → Nat × Nat) (f : Nat → va_E) (S : Int) (u0 : Int32) (v : Int32) (w : Int32) (Y : Nat → Nat → Int) (hI : cqI S L K f) (htz : 0 ≤ (tz).toInt ∧ (tz).toInt ≤ 60) (j4 : cqJ L K 4 (tz).toInt g4) (hw0 : w = 0 ∨ w = 1) (hY : cqW f g4 (tz).toInt Y) (hij : cqIj g4 (tz).toInt) : Met l yX7_tell wsX7_tell ({ frames := 2, cells := 1, slots := 3, locals := 38 }) (va_Pc [.ref tI, .int u0, .int v, .int w] (wz sz D [(e1, .object RX0), (e2, .object RX0), (e3, .object RX6), (e4, .object RX4), (e5, .object RX1), (e6, .object RX1), (e7, .object RX1), (e8, .int), (e9, .int)] ([oC xo 8 [.ref a1, .ref a2, .ref a3, .ref ro, .ref tI, .ref cS, .ref pN, .int na, .int ns, .int nw, .int cp, .int le, .int tr, .int sl], aR a1 e1 200 (g1), aR a2 e2 40 (g2), aR a3 e3 30 (g3), oC tI 7 [.ref a4, .int tz], aR a4 e4 60 (g4), oC cS 2 [.ref a5, .int cz], aR a5 e5 200 (g5), oC pN 5 [.ref a6, .ref a7, .ref a8, .ref a9, .int q1, .int q2, .int q3, .int q4], aR a6 e6 17 (g6), aR a7 e7 12 (g7), aI a8 e8 301 (y8), aI a9 e9 301 (y9)] ++ va_pl L f))) (va_Qi (fun (r : Int32) (_ : Unit) => (r).toInt = (teX Y (tz).toInt (u0).toInt (v).toInt (w).toInt).1) (fun _ t => ∃ (L9 : List Nat), ∃ (K9 : Nat → Nat × Nat), ∃ (f9 : Nat → va_E), ∃ (tz9 : Int32), ∃ (g49 : Nat → Option Nat), (wp D [] (va_A ([oC xo 8 [.ref a1, .ref a2, .ref a3, .ref ro, .ref tI, .ref cS, .ref pN, .int na, .int ns, .int nw, .int cp, .int le, .int tr, .int sl], aR a1 e1 200 (g1), aR a2 e2 40 (g2), aR a3 e3 30 (g3), oC tI 7 [.ref a4, .int tz], aR a4 e4 60 (g4), oC cS 2 [.ref a5, .int cz], aR a5 e5 200 (g5), oC pN 5 [.ref a6, .ref a7, .ref a8, .ref a9, .int q1, .int q2, .int q3, .int q4], aR a6 e6 17 (g6), aR a7 e7 12 (g7), aI a8 e8 301 (y8), aI a9 e9 301 (y9)] ++ va_pl L f) sz) ([oC xo 8 [.ref a1, .ref a2, .ref a3, .ref ro, .ref tI, .ref cS, .ref pN, .int na, .int ns, .int nw, .int cp, .int le, .int tr, .int sl], aR a1 e1 200 (g1), aR a2 e2 40 (g2), aR a3 e3 30 (g3), oC tI 7 [.ref a4, .int tz9], aR a4 e4 60 (g49), oC cS 2 [.ref a5, .int cz], aR a5 e5 200 (g5), oC pN 5 [.ref a6, .ref a7, .ref a8, .ref a9, .int q1, .int q2, .int q3, .int q4], aR a6 e6 17 (g6), aR a7 e7 12 (g7), aI a8 e8 301 (y8), aI a9 e9 301 (y9)] ++ va_pl L9 f9) t ∧ (cqG L K L9 K9) ∧ (cqI S L9 K9 f9) ∧ (0 ≤ (tz9).toInt ∧ (tz9).toInt ≤ 60) ∧ (cqJ L9 K9 4 (tz9).toInt g49) ∧ (cqT [(4, 2)] L K f f9) ∧ ((tz9).toInt = (teX Y (tz).toInt (u0).toInt (v).toInt (w).toInt).2.1) ∧ (cqW f9 g49 (tz9).toInt (teX Y (tz).toInt (u0).toInt (v).toInt (w).toInt).2.2) ∧ (cqIj g49 (tz9).toInt))) (va_A ([oC xo 8 [.ref a1, .ref a2, .ref a3, .ref ro, .ref tI, .ref cS, .ref pN, .int na, .int ns, .int nw, .int cp, .int le, .int tr, .int sl], aR a1 e1 200 (g1), aR a2 e2 40 (g2), aR a3 e3 30 (g3), oC tI 7 [.ref a4, .int tz], aR a4 e4 60 (g4), oC cS 2 [.ref a5, .int cz], aR a5 e5 200 (g5), oC pN 5 [.ref a6, .ref a7, .ref a8, .ref a9, .int q1, .int q2, .int q3, .int q4], aR a6 e6 17 (g6), aR a7 e7 12 (g7), aI a8 e8 301 (y8), aI a9 e9 301 (y9)] ++ va_pl L f) sz)) 1 3 (va_A ([oC xo 8 [.ref a1, .ref a2, .ref a3, .ref ro, .ref tI, .ref cS, .ref pN, .int na, .int ns, .int nw, .int cp, .int le, .int tr, .int sl], aR a1 e1 200 (g1), aR a2 e2 40 (g2), aR a3 e3 30 (g3), oC tI 7 [.ref a4, .int tz], aR a4 e4 60 (g4), oC cS 2 [.ref a5, .int cz], aR a5 e5 200 (g5), oC pN 5 [.ref a6, .ref a7, .ref a8, .ref a9, .int q1, .int q2, .int q3, .int q4], aR a6 e6 17 (g6), aR a7 e7 12 (g7), aI a8 e8 301 (y8), aI a9 e9 301 (y9)] ++ va_pl L f) sz) := by
  refine Met.ofW (cc := cX7_tell) (maxL := 6) (ret := (some .boolean)) (by decide) rfl ?_
  intro p e s m args below meth c s₁ B hml hv
  obtain ⟨rfl, hsz, hP, hK, hD0, hN⟩ := hv
  have hx := B.exec
  have hb := B.bytes
  have hr := B.returns
  have hts := atoms_spec (ws := wsX7_tell) B.pre
  have hown : s.vm.findClass RX7 = some m.cls := findClass_of_methodNamed B.named
  have hlocks := B.notSynchronized
  subst hsz
  have hD := hD0.self (sz := s.heap.size)
  generalize hAe : va_A ([oC xo 8 [.ref a1, .ref a2, .ref a3, .ref ro, .ref tI, .ref cS, .ref pN, .int na, .int ns, .int nw, .int cp, .int le, .int tr, .int sl], aR a1 e1 200 (g1), aR a2 e2 40 (g2), aR a3 e3 30 (g3), oC tI 7 [.ref a4, .int tz], aR a4 e4 60 (g4), oC cS 2 [.ref a5, .int cz], aR a5 e5 200 (g5), oC pN 5 [.ref a6, .ref a7, .ref a8, .ref a9, .int q1, .int q2, .int q3, .int q4], aR a6 e6 17 (g6), aR a7 e7 12 (g7), aI a8 e8 301 (y8), aI a9 e9 301 (y9)] ++ va_pl L f) s.heap.size = A at hD ⊢
  have hA : ∀ q : Nat, s.heap.size ≤ q → A q := fun q h => by rw [← hAe]; exact Or.inr h
  have hS : va_S A s.heap s.heap [] := va_S.rf
  have hin_X4 : ∀ w ∈ u_ws RX4 TX4 3, w ∈ wsX7_tell := by decide +kernel
  have hin_X7 : ∀ w ∈ u_ws RX7 TX7 2, w ∈ wsX7_tell := by decide +kernel
  have hl := lv_entry ([.ref tI, .int u0, .int v, .int w]) (n := 6) (Nat.le_of_ble_eq_true rfl)
  rw [lg_entry_eq]
  generalize (lg_sl ([.ref tI, .int u0, .int v, .int w]) ++ List.replicate (6 - (lg_sl ([.ref tI, .int u0, .int v, .int w])).length) Slot.unset).toArray = ls at hl ⊢
  have hl : lv_has ls 6 [(0, .ref tI), (1, .int u0), (2, .int v), (3, .int w)] := hl
  have hT0 : cqT [(4, 2)] L K f f := cqT.rf
  have hG0 : cqG L K L K := cqG.rf
  refine lv_aload_n hx hb dX7_tell_0 rfl (lv_at hl 0 rfl) ?_
  refine lv_iload_n hx hb dX7_tell_1 rfl (lv_at hl 1 rfl) ?_
  refine lv_iload_n hx hb dX7_tell_2 rfl (lv_at hl 2 rfl) ?_
  refine va_csq (wrV (As := [.int u0, .int v]) (rest := []) ⟨hx, hb, hml, hown, hts⟩ hN hK hP hD (c_X7_findR l D xo ro tI cS pN a1 a2 a3 a4 a5 a6 a7 a8 a9 e1 e2 e3 e4 e5 e6 e7 e8 e9 na ns nw cp le tr sl tz cz q1 q2 q3 q4 g1 g2 g3 g4 g5 g6 g7 y8 y9 L K f S u0 v Y hI (by first | omega | assumption | decide | (have h3 : (0 : Int32).toInt = 0 := rfl; omega) | (have h3 : (0 : Int32).toInt = 0 := rfl; have h4 : (1 : Int32).toInt = 1 := rfl; have h5 : (-1 : Int32).toInt = -1 := rfl; omega)) j4 (by first | omega | assumption | decide | (have h3 : (0 : Int32).toInt = 0 := rfl; omega) | (have h3 : (0 : Int32).toInt = 0 := rfl; have h4 : (1 : Int32).toInt = 1 := rfl; have h5 : (-1 : Int32).toInt = -1 := rfl; omega))) (cwV 2 hts gX7_tell_X7_find rfl rfl rfl (by decide +kernel) ⟨(Nat.le_of_ble_eq_true rfl), (Nat.le_of_ble_eq_true rfl)⟩) 7 rfl ⟨4, _, rfl⟩ rfl hl.1 rfl (Nat.le_of_ble_eq_true rfl) dX7_tell_3 ⟨(Nat.le_of_ble_eq_true rfl), (Nat.le_of_ble_eq_true rfl)⟩) (fun r_1 h_2 => ?_)
  obtain ⟨h_2, xh_2⟩ := h_2
  have h_2 : cqOp L K 4 r_1 := h_2
  have xh_2 : fdS Y (u0).toInt (v).toInt (tz).toInt.toNat g4 r_1 := xh_2
  refine q_astore (r := r_1) (lv' := [(4, va_rf r_1), (0, .ref tI), (1, .int u0), (2, .int v), (3, .int w)]) hx hb dX7_tell_6 hl (by decide) rfl (fun ls hl => ?_)
  refine q_aload hx hb dX7_tell_8 (lv_at hl 0 rfl) ?_
  rcases r_1 with _ | b_3
  · have hl : lv_has ls 6 [(4, .null), (0, .ref tI), (1, .int u0), (2, .int v), (3, .int w)] := hl
    refine lv_ifnullN (tgt := 38) hx hb dX7_tell_10 (by decide) ?_
    refine lv_aload_n hx hb dX7_tell_38 rfl (lv_at hl 1 rfl) ?_
    refine va_get (D := D) (ci := 7) (v := .int tz) (C := RX7) (T := TX7) (N := 2) hx hb hts hin_X7 hown hK hP 4 rfl rfl 1 (by decide) (hts (.fieldLink RX7 26 "CryOrder$Ties" "size" "I") (by decide +kernel)) (fun _ h9 => h9) rfl dX7_tell_39 ?_
    refine lv_bipush (v := 60) hx hb dX7_tell_42 (by decide) ?_
    refine bi_lt (zx := (tz).toInt) (zy := 60) (tgt := 49) hx hb dX7_tell_44 (by decide) rfl (by decide) (fun c_4 => ?_) (fun c_4 => ?_)
    · refine lv_aload_n hx hb dX7_tell_49 rfl (lv_at hl 1 rfl) ?_
      refine va_get (D := D) (ci := 7) (v := .ref a4) (C := RX7) (T := TX7) (N := 2) hx hb hts hin_X7 hown hK hP 4 rfl rfl 0 (by decide) (hts (.fieldLink RX7 11 "CryOrder$Ties" "pairs" "[LCryOrder$Pair;") (by decide +kernel)) (fun _ h9 => h9) rfl dX7_tell_50 ?_
      refine lv_aload_n hx hb dX7_tell_53 rfl (lv_at hl 1 rfl) ?_
      refine va_get (D := D) (ci := 7) (v := .int tz) (C := RX7) (T := TX7) (N := 2) hx hb hts hin_X7 hown hK hP 4 rfl rfl 1 (by decide) (hts (.fieldLink RX7 26 "CryOrder$Ties" "size" "I") (by decide +kernel)) (fun _ h9 => h9) rfl dX7_tell_54 ?_
      refine va_new (ci := 4) (fs := [.int 0, .int 0, .int 0]) (C := RX4) (T := TX4) (N := 3) hx hb hts hin_X4 tyX4 tyX4_ok hown (hts (.classLink RX7 9 RX4) (by decide +kernel)) (hts (.instantiable RX4 3) (by decide +kernel)) (hts (.initialized RX4) (by decide +kernel)) hK hP hD hS hA rfl dfX4 (Nat.le_of_ble_eq_true rfl) (Nat.le_of_ble_eq_true rfl) dX7_tell_57 (fun q_5 H_6 hP hD hS => ?_)
      have hP : va_P D vwCl ([oC q_5 4 [.int 0, .int 0, .int 0], oC xo 8 [.ref a1, .ref a2, .ref a3, .ref ro, .ref tI, .ref cS, .ref pN, .int na, .int ns, .int nw, .int cp, .int le, .int tr, .int sl], aR a1 e1 200 (g1), aR a2 e2 40 (g2), aR a3 e3 30 (g3), oC tI 7 [.ref a4, .int tz], aR a4 e4 60 (g4), oC cS 2 [.ref a5, .int cz], aR a5 e5 200 (g5), oC pN 5 [.ref a6, .ref a7, .ref a8, .ref a9, .int q1, .int q2, .int q3, .int q4], aR a6 e6 17 (g6), aR a7 e7 12 (g7), aI a8 e8 301 (y8), aI a9 e9 301 (y9)] ++ va_pl L f) H_6 := rotP hP
      have hD : va_D A ([oC q_5 4 [.int 0, .int 0, .int 0], oC xo 8 [.ref a1, .ref a2, .ref a3, .ref ro, .ref tI, .ref cS, .ref pN, .int na, .int ns, .int nw, .int cp, .int le, .int tr, .int sl], aR a1 e1 200 (g1), aR a2 e2 40 (g2), aR a3 e3 30 (g3), oC tI 7 [.ref a4, .int tz], aR a4 e4 60 (g4), oC cS 2 [.ref a5, .int cz], aR a5 e5 200 (g5), oC pN 5 [.ref a6, .ref a7, .ref a8, .ref a9, .int q1, .int q2, .int q3, .int q4], aR a6 e6 17 (g6), aR a7 e7 12 (g7), aI a8 e8 301 (y8), aI a9 e9 301 (y9)] ++ va_pl L f) := rotD hD
      refine lv_dup hx hb dX7_tell_60 rfl ?_
      refine lv_iload_n hx hb dX7_tell_61 rfl (lv_at hl 2 rfl) ?_
      refine lv_iload_n hx hb dX7_tell_62 rfl (lv_at hl 3 rfl) ?_
      refine va_mmin hx hb (by rw [hml]; exact hl.1.symm) hown (hts (.methodLink RX7 17 Lib.Math.min.name) (by decide +kernel)) (hts (.static Lib.Math.min.name) (by decide +kernel)) (hts (.initialized "java/lang/Math") (by decide +kernel)) (hts (.code Lib.Math.min.name Lib.Math.min.code 2 (some .int)) (by decide +kernel)) (Nat.le_of_ble_eq_true rfl) (Nat.le_of_ble_eq_true rfl) (Nat.le_of_ble_eq_true rfl) (Nat.le_of_ble_eq_true rfl) dX7_tell_63 ?_
      refine lv_topi (fun z_7 ez_7 => ?_)
      have tz_7 := mn_toInt (zx := (u0).toInt) (zy := (v).toInt) ez_7 rfl rfl
      refine lv_iload_n hx hb dX7_tell_66 rfl (lv_at hl 2 rfl) ?_
      refine lv_iload_n hx hb dX7_tell_67 rfl (lv_at hl 3 rfl) ?_
      refine va_mmax hx hb (by rw [hml]; exact hl.1.symm) hown (hts (.methodLink RX7 23 Lib.Math.max.name) (by decide +kernel)) (hts (.static Lib.Math.max.name) (by decide +kernel)) (hts (.initialized "java/lang/Math") (by decide +kernel)) (hts (.code Lib.Math.max.name Lib.Math.max.code 2 (some .int)) (by decide +kernel)) (Nat.le_of_ble_eq_true rfl) (Nat.le_of_ble_eq_true rfl) (Nat.le_of_ble_eq_true rfl) (Nat.le_of_ble_eq_true rfl) dX7_tell_68 ?_
      refine lv_topi (fun z_8 ez_8 => ?_)
      have tz_8 := mx_toInt (zx := (u0).toInt) (zy := (v).toInt) ez_8 rfl rfl
      refine lv_iload_n hx hb dX7_tell_71 rfl (lv_at hl 4 rfl) ?_
      refine va_callv (wwI (mc := 0) (ms := 0) (As := [.int z_7, .int z_8, .int w]) (rest := [.ref q_5, .int tz, .ref a4]) ⟨hx, hb, hml, hown, hts⟩ hN hK hP hD (c_X4_init l D H_6.size [oC xo 8 [.ref a1, .ref a2, .ref a3, .ref ro, .ref tI, .ref cS, .ref pN, .int na, .int ns, .int nw, .int cp, .int le, .int tr, .int sl], aR a1 e1 200 (g1), aR a2 e2 40 (g2), aR a3 e3 30 (g3), oC tI 7 [.ref a4, .int tz], aR a4 e4 60 (g4), oC cS 2 [.ref a5, .int cz], aR a5 e5 200 (g5), oC pN 5 [.ref a6, .ref a7, .ref a8, .ref a9, .int q1, .int q2, .int q3, .int q4], aR a6 e6 17 (g6), aR a7 e7 12 (g7), aI a8 e8 301 (y8), aI a9 e9 301 (y9)] L K f S [(e1, .object RX0), (e2, .object RX0), (e3, .object RX6), (e4, .object RX4), (e5, .object RX1), (e6, .object RX1), (e7, .object RX1), (e8, .int), (e9, .int)] q_5 z_7 z_8 w hI hw0) (cwI 3 hts gX7_tell_X4_init rfl rfl rfl (hts (.initialized RX4) (by decide +kernel)) (hts (.methodLink RX7 44 yX4_init) (by decide +kernel)) (hts (.instanceMethod yX4_init) (by decide +kernel)) rfl (by decide +kernel) ⟨(Nat.le_of_ble_eq_true rfl), (Nat.le_of_ble_eq_true rfl)⟩) rfl hl.1 rfl (Nat.le_of_ble_eq_true rfl) dX7_tell_72 ⟨(Nat.le_of_ble_eq_true rfl), (Nat.le_of_ble_eq_true rfl)⟩) hS (fun q _ h => wfree hD hS hA q h) (wfree hD hS hA) (fun u t H_9 locs1 ht hvm hw hB hz1 hk1 hS1 => ?_)
      obtain ⟨hP, hD⟩ := wj hB ht (wfree hD hS hA)
      have hS := hS1
      have hP : va_P D vwCl ([oC q_5 4 [.int z_7, .int z_8, .int w], oC xo 8 [.ref a1, .ref a2, .ref a3, .ref ro, .ref tI, .ref cS, .ref pN, .int na, .int ns, .int nw, .int cp, .int le, .int tr, .int sl], aR a1 e1 200 (g1), aR a2 e2 40 (g2), aR a3 e3 30 (g3), oC tI 7 [.ref a4, .int tz], aR a4 e4 60 (g4), oC cS 2 [.ref a5, .int cz], aR a5 e5 200 (g5), oC pN 5 [.ref a6, .ref a7, .ref a8, .ref a9, .int q1, .int q2, .int q3, .int q4], aR a6 e6 17 (g6), aR a7 e7 12 (g7), aI a8 e8 301 (y8), aI a9 e9 301 (y9)] ++ va_pl L f) H_9 := hP
      have hD : va_D A ([oC q_5 4 [.int z_7, .int z_8, .int w], oC xo 8 [.ref a1, .ref a2, .ref a3, .ref ro, .ref tI, .ref cS, .ref pN, .int na, .int ns, .int nw, .int cp, .int le, .int tr, .int sl], aR a1 e1 200 (g1), aR a2 e2 40 (g2), aR a3 e3 30 (g3), oC tI 7 [.ref a4, .int tz], aR a4 e4 60 (g4), oC cS 2 [.ref a5, .int cz], aR a5 e5 200 (g5), oC pN 5 [.ref a6, .ref a7, .ref a8, .ref a9, .int q1, .int q2, .int q3, .int q4], aR a6 e6 17 (g6), aR a7 e7 12 (g7), aI a8 e8 301 (y8), aI a9 e9 301 (y9)] ++ va_pl L f) := hD
      obtain ⟨L_11, K_12, f_13, hG_14, hI, hP, hD, is_15, qis_15, nis_15, ris_15⟩ := nwPT hI hP hD
      have hT_16 := hT0.grow hG0 qis_15
      have ois_15 := cqG.out hG0 nis_15
      have u_17 : cqJ L_11 K_12 4 (tz).toInt g4 := j4.up hG_14
      have hG_18 := hG0.trans hG_14
      have ris_15 : f_13 q_5 = .inr (4, [.int z_7, .int z_8, .int w]) := ris_15
      obtain ⟨kh_20, fsh_20, h_20⟩ := cq_rcP (X := [oC xo 8 [.ref a1, .ref a2, .ref a3, .ref ro, .ref tI, .ref cS, .ref pN, .int na, .int ns, .int nw, .int cp, .int le, .int tr, .int sl], aR a1 e1 200 (g1), aR a2 e2 40 (g2), aR a3 e3 30 (g3), oC tI 7 [.ref a4, .int tz], aR a4 e4 60 (g4), oC cS 2 [.ref a5, .int cz], aR a5 e5 200 (g5), oC pN 5 [.ref a6, .ref a7, .ref a8, .ref a9, .int q1, .int q2, .int q3, .int q4], aR a6 e6 17 (g6), aR a7 e7 12 (g7), aI a8 e8 301 (y8), aI a9 e9 301 (y9)]) hI is_15
      refine va_astq hx hb hK hP hD hS 5 3 kh_20 4 rfl rfl h_20 rfl (vp_in_iff.mpr (by omega)) dX7_tell_75 (fun H_19 locs hP hD hS => ?_)
      obtain ⟨g_21, eg_21⟩ : ∃ g : Nat → Option Nat, g = va_up (g4) (tz : Int32).toNatClampNeg (some q_5) := ⟨_, rfl⟩
      have hP : va_P D vwCl ([oC xo 8 [.ref a1, .ref a2, .ref a3, .ref ro, .ref tI, .ref cS, .ref pN, .int na, .int ns, .int nw, .int cp, .int le, .int tr, .int sl], aR a1 e1 200 (g1), aR a2 e2 40 (g2), aR a3 e3 30 (g3), oC tI 7 [.ref a4, .int tz], aR a4 e4 60 (g_21), oC cS 2 [.ref a5, .int cz], aR a5 e5 200 (g5), oC pN 5 [.ref a6, .ref a7, .ref a8, .ref a9, .int q1, .int q2, .int q3, .int q4], aR a6 e6 17 (g6), aR a7 e7 12 (g7), aI a8 e8 301 (y8), aI a9 e9 301 (y9)] ++ va_pl L_11 f_13) H_19 := by rw [eg_21]; exact hP
      have hD : va_D A ([oC xo 8 [.ref a1, .ref a2, .ref a3, .ref ro, .ref tI, .ref cS, .ref pN, .int na, .int ns, .int nw, .int cp, .int le, .int tr, .int sl], aR a1 e1 200 (g1), aR a2 e2 40 (g2), aR a3 e3 30 (g3), oC tI 7 [.ref a4, .int tz], aR a4 e4 60 (g_21), oC cS 2 [.ref a5, .int cz], aR a5 e5 200 (g5), oC pN 5 [.ref a6, .ref a7, .ref a8, .ref a9, .int q1, .int q2, .int q3, .int q4], aR a6 e6 17 (g6), aR a7 e7 12 (g7), aI a8 e8 301 (y8), aI a9 e9 301 (y9)] ++ va_pl L_11 f_13) := by rw [eg_21]; exact hD
      have h_22 : cqJ L_11 K_12 4 ((tz).toInt + 1) g_21 := u_17.set (by omega) is_15 eg_21 (Or.inr ⟨rfl, by omega⟩)
      refine lv_aload_n hx hb dX7_tell_76 rfl (lv_at hl 1 rfl) ?_
      refine lv_dup hx hb dX7_tell_77 rfl ?_
      refine va_get (D := D) (ci := 7) (v := .int tz) (C := RX7) (T := TX7) (N := 2) hx hb hts hin_X7 hown hK hP 4 rfl rfl 1 (by decide) (hts (.fieldLink RX7 26 "CryOrder$Ties" "size" "I") (by decide +kernel)) (fun _ h9 => h9) rfl dX7_tell_78 ?_
      refine lv_iconst (v := 1) hx hb dX7_tell_81 (by decide) ?_
      refine lv_iadd hx hb dX7_tell_82 ?_
      refine lv_topi (fun z_23 ez_23 => ?_)
      have tz_23 := ad_toInt (zx := (tz).toInt) (zy := 1) ez_23 rfl (by decide)
      refine va_put (D := D) (ci := 7) (v := .int z_23) (ty := .int) (C := RX7) (T := TX7) (N := 2) hx hb hts hin_X7 tyX7 tyX7_ok nmX7 hown hK hP hD hS 4 rfl rfl 1 (by decide) (hts (.fieldLink RX7 26 "CryOrder$Ties" "size" "I") (by decide +kernel)) (fun _ h9 => h9) rfl (by decide +kernel) rfl rfl (Nat.le_of_ble_eq_true rfl) dX7_tell_83 (fun H_24 locs hP hD hS => ?_)
      have hP : va_P D vwCl ([oC xo 8 [.ref a1, .ref a2, .ref a3, .ref ro, .ref tI, .ref cS, .ref pN, .int na, .int ns, .int nw, .int cp, .int le, .int tr, .int sl], aR a1 e1 200 (g1), aR a2 e2 40 (g2), aR a3 e3 30 (g3), oC tI 7 [.ref a4, .int z_23], aR a4 e4 60 (g_21), oC cS 2 [.ref a5, .int cz], aR a5 e5 200 (g5), oC pN 5 [.ref a6, .ref a7, .ref a8, .ref a9, .int q1, .int q2, .int q3, .int q4], aR a6 e6 17 (g6), aR a7 e7 12 (g7), aI a8 e8 301 (y8), aI a9 e9 301 (y9)] ++ va_pl L_11 f_13) H_24 := hP
      have hD : va_D A ([oC xo 8 [.ref a1, .ref a2, .ref a3, .ref ro, .ref tI, .ref cS, .ref pN, .int na, .int ns, .int nw, .int cp, .int le, .int tr, .int sl], aR a1 e1 200 (g1), aR a2 e2 40 (g2), aR a3 e3 30 (g3), oC tI 7 [.ref a4, .int z_23], aR a4 e4 60 (g_21), oC cS 2 [.ref a5, .int cz], aR a5 e5 200 (g5), oC pN 5 [.ref a6, .ref a7, .ref a8, .ref a9, .int q1, .int q2, .int q3, .int q4], aR a6 e6 17 (g6), aR a7 e7 12 (g7), aI a8 e8 301 (y8), aI a9 e9 301 (y9)] ++ va_pl L_11 f_13) := hD
      refine lv_iconst (v := 1) hx hb dX7_tell_86 (by decide) ?_
      have hal := te_new (tz9 := (z_23).toInt) xh_2 (by omega) hY hij j4 (cqT.grow (X := []) cqT.rf cqG.rf qis_15) (by decide) ois_15 eg_21 rfl (by omega) ris_15 (by omega) (by omega) rfl (by omega)
      refine W.widen (k := 1) (n := 3) (Nat.le_of_ble_eq_true rfl) (Nat.le_of_ble_eq_true rfl) ?_
      exact W.zret (v := 1) hx hb hr rfl (fun t ht hW => ⟨⟨1, (), rfl, ((show (1 : Int32).toInt = 1 by decide).trans hal.1), L_11, K_12, f_13, z_23, g_21, ⟨by rw [ht]; exact hP, va_K.moved hW.alike (hK.sub (tys' := []) [] rfl), hD⟩, hG_18, (hI.more (by omega)), (by first | omega | assumption | decide | (have h3 : (0 : Int32).toInt = 0 := rfl; omega) | (have h3 : (0 : Int32).toInt = 0 := rfl; have h4 : (1 : Int32).toInt = 1 := rfl; have h5 : (-1 : Int32).toInt = -1 := rfl; omega)), (cqJ.less h_22 (by omega)), hT_16, hal.2.1, hal.2.2.1, hal.2.2.2⟩, hS.F ht⟩) hS.2.2 dX7_tell_87
    · refine lv_iconst (v := 0) hx hb dX7_tell_47 (by decide) ?_
      have hal := te_full (w := (w).toInt) xh_2 (by omega) hY hij
      refine W.widen (k := 1) (n := 3) (Nat.le_of_ble_eq_true rfl) (Nat.le_of_ble_eq_true rfl) ?_
      exact W.zret (v := 0) hx hb hr rfl (fun t ht hW => ⟨⟨0, (), rfl, ((show (0 : Int32).toInt = 0 by decide).trans hal.1), L, K, f, tz, g4, ⟨by rw [ht]; exact hP, va_K.moved hW.alike (hK.sub (tys' := []) [] rfl), hD⟩, cqG.rf, (hI.more (by omega)), (by first | omega | assumption | decide | (have h3 : (0 : Int32).toInt = 0 := rfl; omega) | (have h3 : (0 : Int32).toInt = 0 := rfl; have h4 : (1 : Int32).toInt = 1 := rfl; have h5 : (-1 : Int32).toInt = -1 := rfl; omega)), (cqJ.less j4 (by omega)), hT0, hal.2.1, hal.2.2.1, hal.2.2.2⟩, hS.F ht⟩) hS.2.2 dX7_tell_48
  · have hl : lv_has ls 6 [(4, .ref b_3), (0, .ref tI), (1, .int u0), (2, .int v), (3, .int w)] := hl
    have is_25 := h_2 b_3 rfl
    refine lv_ifnull hx hb dX7_tell_10 ?_
    refine lv_aload hx hb dX7_tell_13 (lv_at hl 0 rfl) ?_
    obtain ⟨lo_26, gr_26, jo_26, hf_26⟩ := hI.opP is_25
    have hqhf_26 := hf_26
    have F0hf_26 : cqF (f b_3) 0 = (lo_26).toInt := by rw [hf_26]; rfl
    have F1hf_26 : cqF (f b_3) 1 = (gr_26).toInt := by rw [hf_26]; rfl
    have F2hf_26 : cqF (f b_3) 2 = (jo_26).toInt := by rw [hf_26]; rfl
    refine pl_get (D := D) (ci := 4) (v := .int jo_26) (C := RX4) (T := TX4) (N := 3) hx hb hts hin_X4 hown hK hP is_25.1 hf_26 rfl 2 (by decide) (hts (.fieldLink RX7 40 "CryOrder$Pair" "joined" "Z") (by decide +kernel)) (fun _ h9 => h9) rfl dX7_tell_15 ?_
    refine lv_iload_n hx hb dX7_tell_18 rfl (lv_at hl 4 rfl) ?_
    refine bi_eq (zx := (jo_26).toInt) (zy := (w).toInt) (tgt := 26) hx hb dX7_tell_19 (by decide) rfl rfl (fun c_27 => ?_) (fun c_27 => ?_)
    · refine lv_iconst (v := 0) hx hb dX7_tell_26 (by decide) ?_
      refine lv_istore (lv' := [(5, .int 0), (4, .ref b_3), (0, .ref tI), (1, .int u0), (2, .int v), (3, .int w)]) hx hb dX7_tell_27 hl (by decide) rfl (fun ls hl => ?_)
      refine lv_aload hx hb dX7_tell_29 (lv_at hl 1 rfl) ?_
      refine lv_iload_n hx hb dX7_tell_31 rfl (lv_at hl 5 rfl) ?_
      refine pl_put (D := D) (ci := 4) (v := .int w) (ty := .boolean) (C := RX4) (T := TX4) (N := 3) hx hb hts hin_X4 tyX4 tyX4_ok nmX4 hown hK hP hD hS is_25.1 hf_26 rfl 2 (by decide) (hts (.fieldLink RX7 40 "CryOrder$Pair" "joined" "Z") (by decide +kernel)) (fun _ h9 => h9) rfl (by decide +kernel) (by rcases hw0 with h9 | h9 <;> (rw [h9]; rfl)) (by rcases hw0 with h9 | h9 <;> (rw [h9]; rfl)) (Nat.le_of_ble_eq_true rfl) dX7_tell_32 (fun H_28 locs hP hD hS => ?_)
      obtain ⟨f_29, ef_29⟩ : ∃ g, g = va_up f b_3 (.inr (4, [.int lo_26, .int gr_26, .int w])) := ⟨_, rfl⟩
      have hP : va_P D vwCl ([oC xo 8 [.ref a1, .ref a2, .ref a3, .ref ro, .ref tI, .ref cS, .ref pN, .int na, .int ns, .int nw, .int cp, .int le, .int tr, .int sl], aR a1 e1 200 (g1), aR a2 e2 40 (g2), aR a3 e3 30 (g3), oC tI 7 [.ref a4, .int tz], aR a4 e4 60 (g4), oC cS 2 [.ref a5, .int cz], aR a5 e5 200 (g5), oC pN 5 [.ref a6, .ref a7, .ref a8, .ref a9, .int q1, .int q2, .int q3, .int q4], aR a6 e6 17 (g6), aR a7 e7 12 (g7), aI a8 e8 301 (y8), aI a9 e9 301 (y9)] ++ va_pl L f_29) H_28 := by rw [ef_29]; exact hP
      have hD : va_D A ([oC xo 8 [.ref a1, .ref a2, .ref a3, .ref ro, .ref tI, .ref cS, .ref pN, .int na, .int ns, .int nw, .int cp, .int le, .int tr, .int sl], aR a1 e1 200 (g1), aR a2 e2 40 (g2), aR a3 e3 30 (g3), oC tI 7 [.ref a4, .int tz], aR a4 e4 60 (g4), oC cS 2 [.ref a5, .int cz], aR a5 e5 200 (g5), oC pN 5 [.ref a6, .ref a7, .ref a8, .ref a9, .int q1, .int q2, .int q3, .int q4], aR a6 e6 17 (g6), aR a7 e7 12 (g7), aI a8 e8 301 (y8), aI a9 e9 301 (y9)] ++ va_pl L f_29) := by rw [ef_29]; exact hD
      have hI : cqI S L K f_29 := hI.ptP is_25 ef_29 ⟨_, _, _, rfl⟩
      have hT_30 := hT0.put (k := 2) hG0 is_25 ef_29 (.int w) hf_26 rfl (by decide)
      have hf_26 : f_29 b_3 = .inr (4, [.int lo_26, .int gr_26, .int w]) := cq_same ef_29
      refine lv_iload hx hb dX7_tell_35 (lv_at hl 0 rfl) ?_
      have h9a : cqF (f b_3) 2 = (jo_26).toInt := by rw [hqhf_26]; rfl
      have hal := te_known (w := (w).toInt) (r := 0) xh_2 hY hij (cqO.rf.put ef_29) (by rw [hf_26, hqhf_26]; rfl) (by rw [hf_26, hqhf_26]; rfl) (by rw [hf_26]; rfl) (by omega)
      refine W.widen (k := 1) (n := 3) (Nat.le_of_ble_eq_true rfl) (Nat.le_of_ble_eq_true rfl) ?_
      exact W.zret (v := 0) hx hb hr rfl (fun t ht hW => ⟨⟨0, (), rfl, ((show (0 : Int32).toInt = 0 by decide).trans hal.1), L, K, f_29, tz, g4, ⟨by rw [ht]; exact hP, va_K.moved hW.alike (hK.sub (tys' := []) [] rfl), hD⟩, cqG.rf, (hI.more (by omega)), (by first | omega | assumption | decide | (have h3 : (0 : Int32).toInt = 0 := rfl; omega) | (have h3 : (0 : Int32).toInt = 0 := rfl; have h4 : (1 : Int32).toInt = 1 := rfl; have h5 : (-1 : Int32).toInt = -1 := rfl; omega)), (cqJ.less j4 (by omega)), hT_30, hal.2.1, hal.2.2.1, hal.2.2.2⟩, hS.F ht⟩) hS.2.2 dX7_tell_37
    · refine lv_iconst (v := 1) hx hb dX7_tell_22 (by decide) ?_
      refine lv_goto (tgt := 27) hx hb dX7_tell_23 (by decide) ?_
      refine lv_istore (lv' := [(5, .int 1), (4, .ref b_3), (0, .ref tI), (1, .int u0), (2, .int v), (3, .int w)]) hx hb dX7_tell_27 hl (by decide) rfl (fun ls hl => ?_)
      refine lv_aload hx hb dX7_tell_29 (lv_at hl 1 rfl) ?_
      refine lv_iload_n hx hb dX7_tell_31 rfl (lv_at hl 5 rfl) ?_
      refine pl_put (D := D) (ci := 4) (v := .int w) (ty := .boolean) (C := RX4) (T := TX4) (N := 3) hx hb hts hin_X4 tyX4 tyX4_ok nmX4 hown hK hP hD hS is_25.1 hf_26 rfl 2 (by decide) (hts (.fieldLink RX7 40 "CryOrder$Pair" "joined" "Z") (by decide +kernel)) (fun _ h9 => h9) rfl (by decide +kernel) (by rcases hw0 with h9 | h9 <;> (rw [h9]; rfl)) (by rcases hw0 with h9 | h9 <;> (rw [h9]; rfl)) (Nat.le_of_ble_eq_true rfl) dX7_tell_32 (fun H_31 locs hP hD hS => ?_)
      obtain ⟨f_32, ef_32⟩ : ∃ g, g = va_up f b_3 (.inr (4, [.int lo_26, .int gr_26, .int w])) := ⟨_, rfl⟩
      have hP : va_P D vwCl ([oC xo 8 [.ref a1, .ref a2, .ref a3, .ref ro, .ref tI, .ref cS, .ref pN, .int na, .int ns, .int nw, .int cp, .int le, .int tr, .int sl], aR a1 e1 200 (g1), aR a2 e2 40 (g2), aR a3 e3 30 (g3), oC tI 7 [.ref a4, .int tz], aR a4 e4 60 (g4), oC cS 2 [.ref a5, .int cz], aR a5 e5 200 (g5), oC pN 5 [.ref a6, .ref a7, .ref a8, .ref a9, .int q1, .int q2, .int q3, .int q4], aR a6 e6 17 (g6), aR a7 e7 12 (g7), aI a8 e8 301 (y8), aI a9 e9 301 (y9)] ++ va_pl L f_32) H_31 := by rw [ef_32]; exact hP
      have hD : va_D A ([oC xo 8 [.ref a1, .ref a2, .ref a3, .ref ro, .ref tI, .ref cS, .ref pN, .int na, .int ns, .int nw, .int cp, .int le, .int tr, .int sl], aR a1 e1 200 (g1), aR a2 e2 40 (g2), aR a3 e3 30 (g3), oC tI 7 [.ref a4, .int tz], aR a4 e4 60 (g4), oC cS 2 [.ref a5, .int cz], aR a5 e5 200 (g5), oC pN 5 [.ref a6, .ref a7, .ref a8, .ref a9, .int q1, .int q2, .int q3, .int q4], aR a6 e6 17 (g6), aR a7 e7 12 (g7), aI a8 e8 301 (y8), aI a9 e9 301 (y9)] ++ va_pl L f_32) := by rw [ef_32]; exact hD
      have hI : cqI S L K f_32 := hI.ptP is_25 ef_32 ⟨_, _, _, rfl⟩
      have hT_33 := hT0.put (k := 2) hG0 is_25 ef_32 (.int w) hf_26 rfl (by decide)
      have hf_26 : f_32 b_3 = .inr (4, [.int lo_26, .int gr_26, .int w]) := cq_same ef_32
      refine lv_iload hx hb dX7_tell_35 (lv_at hl 0 rfl) ?_
      have h9a : cqF (f b_3) 2 = (jo_26).toInt := by rw [hqhf_26]; rfl
      have hal := te_known (w := (w).toInt) (r := 1) xh_2 hY hij (cqO.rf.put ef_32) (by rw [hf_26, hqhf_26]; rfl) (by rw [hf_26, hqhf_26]; rfl) (by rw [hf_26]; rfl) (by omega)
      refine W.widen (k := 1) (n := 3) (Nat.le_of_ble_eq_true rfl) (Nat.le_of_ble_eq_true rfl) ?_
      exact W.zret (v := 1) hx hb hr rfl (fun t ht hW => ⟨⟨1, (), rfl, ((show (1 : Int32).toInt = 1 by decide).trans hal.1), L, K, f_32, tz, g4, ⟨by rw [ht]; exact hP, va_K.moved hW.alike (hK.sub (tys' := []) [] rfl), hD⟩, cqG.rf, (hI.more (by omega)), (by first | omega | assumption | decide | (have h3 : (0 : Int32).toInt = 0 := rfl; omega) | (have h3 : (0 : Int32).toInt = 0 := rfl; have h4 : (1 : Int32).toInt = 1 := rfl; have h5 : (-1 : Int32).toInt = -1 := rfl; omega)), (cqJ.less j4 (by omega)), hT_33, hal.2.1, hal.2.2.1, hal.2.2.2⟩, hS.F ht⟩) hS.2.2 dX7_tell_37
