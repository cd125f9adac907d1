set_option maxHeartbeats 4000000 in
set_option maxRecDepth 100000 in
theorem c_X7_findR (l : Launch) (D : va_G) (xo : Nat) (ro : Nat) (tI : Nat) (cS : Nat) (pN : Nat) (a1 : Nat) (a2 : Nat) (a3 : Nat) (a4 : Nat) (a5 : Nat) (a6 : Nat) (a7 : Nat) (a8 : Nat) (a9 : Nat) (e1 : ClassId) (e2 : ClassId) (e3 : ClassId) (e4 : ClassId) (e5 : ClassId) (e6 : ClassId) (e7 : ClassId) (e8 : ClassId) (e9 : ClassId) (na : Int32) (ns : Int32) (nw : Int32) (cp : Int32) (le : Int32) (tr : Int32) (sl : Int32) (tz : Int32) (cz : Int32) (q1 : Int32) (q2 : Int32) (q3 : Int32) (q4 : Int32) (g1 : Nat → Option Nat) (g2 : Nat → Option Nat) (g3 : Nat → Option Nat) (g4 : Nat → Option Nat) (g5 : Nat → Option Nat) (g6 : Nat → Option Nat) (g7 : Nat → Option Nat) (y8 : Nat → Int32) (y9 : Nat → Int32) (L : List Nat) (K : Nat → Nat × Nat) (f : Nat → va_E) (S : Int) (v : Int32) (w : Int32) (Y : Nat → Nat → Int) (hI : cqI S L K f) (htz : 0 ≤ (tz).toInt ∧ (tz).toInt ≤ 60) (j4 : cqJ L K 4 (tz).toInt g4) (hY : cqW f g4 (tz).toInt Y) : Met l yX7_find wsX7_find ({ frames := 1, cells := 0, slots := 0, locals := 13 }) (va_Pc [.ref tI, .int v, .int w] (wo D [(e1, .object RX0), (e2, .object RX0), (e3, .object RX6), (e4, .object RX4), (e5, .object RX1), (e6, .object RX1), (e7, .object RX1), (e8, .int), (e9, .int)] ([oC xo 8 [.ref a1, .ref a2, .ref a3, .ref ro, .ref tI, .ref cS, .ref pN, .int na, .int ns, .int nw, .int cp, .int le, .int tr, .int sl], aR a1 e1 200 (g1), aR a2 e2 40 (g2), aR a3 e3 30 (g3), oC tI 7 [.ref a4, .int tz], aR a4 e4 60 (g4), oC cS 2 [.ref a5, .int cz], aR a5 e5 200 (g5), oC pN 5 [.ref a6, .ref a7, .ref a8, .ref a9, .int q1, .int q2, .int q3, .int q4], aR a6 e6 17 (g6), aR a7 e7 12 (g7), aI a8 e8 301 (y8), aI a9 e9 301 (y9)] ++ va_pl L f))) (va_Sq (fun r => cqOp L K 4 r ∧ fdS Y (v).toInt (w).toInt (tz).toInt.toNat g4 r)) 0 0 (fun _ => False) := by
  refine Met.ofW (cc := cX7_find) (maxL := 6) (ret := (some (.object "CryOrder$Pair"))) (by decide) rfl ?_
  intro p e s m args below meth c s₁ B hml hv
  obtain ⟨rfl, hP, hK, hD, hN⟩ := hv
  have hx := B.exec
  have hb := B.bytes
  have hr := B.returns
  have hts := atoms_spec (ws := wsX7_find) B.pre
  have hown : s.vm.findClass RX7 = some m.cls := findClass_of_methodNamed B.named
  have hlocks := B.notSynchronized
  have hin_X7 : ∀ w ∈ u_ws RX7 TX7 2, w ∈ wsX7_find := by decide +kernel
  have hl := lv_entry ([.ref tI, .int v, .int w]) (n := 6) (Nat.le_of_ble_eq_true rfl)
  rw [lg_entry_eq]
  generalize (lg_sl ([.ref tI, .int v, .int w]) ++ List.replicate (6 - (lg_sl ([.ref tI, .int v, .int w])).length) Slot.unset).toArray = ls at hl ⊢
  have hl : lv_has ls 6 [(0, .ref tI), (1, .int v), (2, .int w)] := hl
  refine lv_iload_n hx hb dX7_find_0 rfl (lv_at hl 1 rfl) ?_
  refine lv_iload_n hx hb dX7_find_1 rfl (lv_at hl 2 rfl) ?_
  refine va_mmin hx hb (by rw [hml]; exact hl.1.symm) hown (hts (.methodLink RX7 17 Lib.Math.min.name) (by decide +kernel)) (hts (.static Lib.Math.min.name) (by decide +kernel)) (hts (.initialized "java/lang/Math") (by decide +kernel)) (hts (.code Lib.Math.min.name Lib.Math.min.code 2 (some .int)) (by decide +kernel)) (Nat.le_of_ble_eq_true rfl) (Nat.le_of_ble_eq_true rfl) (Nat.le_of_ble_eq_true rfl) (Nat.le_of_ble_eq_true rfl) dX7_find_2 ?_
  refine lv_topi (fun z_1 ez_1 => ?_)
  have tz_1 := mn_toInt (zx := (v).toInt) (zy := (w).toInt) ez_1 rfl rfl
  refine lv_istore_n (lv' := [(3, .int z_1), (0, .ref tI), (1, .int v), (2, .int w)]) hx hb dX7_find_5 rfl hl (by decide) rfl (fun ls hl => ?_)
  refine lv_iload_n hx hb dX7_find_6 rfl (lv_at hl 2 rfl) ?_
  refine lv_iload_n hx hb dX7_find_7 rfl (lv_at hl 3 rfl) ?_
  refine va_mmax hx hb (by rw [hml]; exact hl.1.symm) hown (hts (.methodLink RX7 23 Lib.Math.max.name) (by decide +kernel)) (hts (.static Lib.Math.max.name) (by decide +kernel)) (hts (.initialized "java/lang/Math") (by decide +kernel)) (hts (.code Lib.Math.max.name Lib.Math.max.code 2 (some .int)) (by decide +kernel)) (Nat.le_of_ble_eq_true rfl) (Nat.le_of_ble_eq_true rfl) (Nat.le_of_ble_eq_true rfl) (Nat.le_of_ble_eq_true rfl) dX7_find_8 ?_
  refine lv_topi (fun z_2 ez_2 => ?_)
  have tz_2 := mx_toInt (zx := (v).toInt) (zy := (w).toInt) ez_2 rfl rfl
  refine lv_istore (lv' := [(4, .int z_2), (3, .int z_1), (0, .ref tI), (1, .int v), (2, .int w)]) hx hb dX7_find_11 hl (by decide) rfl (fun ls hl => ?_)
  refine lv_iconst (v := 0) hx hb dX7_find_13 (by decide) ?_
  refine lv_istore (lv' := [(5, .int 0), (4, .int z_2), (3, .int z_1), (0, .ref tI), (1, .int v), (2, .int w)]) hx hb dX7_find_14 hl (by decide) rfl (fun ls hl => ?_)
  refine rl_tfind hx hb hts hml hown hN hK hP hD ⟨(Nat.le_of_ble_eq_true rfl), (Nat.le_of_ble_eq_true rfl)⟩ ⟨(Nat.le_of_ble_eq_true rfl), (Nat.le_of_ble_eq_true rfl)⟩ hI (by first | omega | assumption | decide | (have h3 : (0 : Int32).toInt = 0 := rfl; omega) | (have h3 : (0 : Int32).toInt = 0 := rfl; have h4 : (1 : Int32).toInt = 1 := rfl; have h5 : (-1 : Int32).toInt = -1 := rfl; omega)) j4 (by first | omega | assumption | decide | (have h3 : (0 : Int32).toInt = 0 := rfl; omega) | (have h3 : (0 : Int32).toInt = 0 := rfl; have h4 : (1 : Int32).toInt = 1 := rfl; have h5 : (-1 : Int32).toInt = -1 := rfl; omega)) (by first | omega | assumption | decide | (have h3 : (0 : Int32).toInt = 0 := rfl; omega) | (have h3 : (0 : Int32).toInt = 0 := rfl; have h4 : (1 : Int32).toInt = 1 := rfl; have h5 : (-1 : Int32).toInt = -1 := rfl; omega)) (fun k_3 ls h_5 h_6 hl => ?_) (fun k_7 ls h_9 hl => ?_) _ 0 _ (by first | omega | assumption | decide | (have h3 : (0 : Int32).toInt = 0 := rfl; omega) | (have h3 : (0 : Int32).toInt = 0 := rfl; have h4 : (1 : Int32).toInt = 1 := rfl; have h5 : (-1 : Int32).toInt = -1 := rfl; omega)) (fun i hi => absurd hi (by have h3 : (0 : Int32).toInt = 0 := rfl; omega)) (Nat.lt_succ_self _) (lv_sub hl [0, 1, 2, 3, 4, 5] rfl)
  · have h_5 : 0 ≤ (k_3).toInt ∧ (k_3).toInt < (tz).toInt := h_5
    have h_6 : fdF Y (v).toInt (w).toInt (tz).toInt.toNat = some (k_3 : Int32).toNatClampNeg := h_6
    refine lv_aload_n hx hb dX7_find_54 rfl (lv_at hl 3 rfl) ?_
    refine va_get (D := D) (ci := 7) (v := .ref a4) (C := RX7) (T := TX7) (N := 2) hx hb hts hin_X7 hown hK hP 4 rfl rfl 0 (by decide) (hts (.fieldLink RX7 11 "CryOrder$Ties" "pairs" "[LCryOrder$Pair;") (by decide +kernel)) (fun _ h9 => h9) rfl dX7_find_55 ?_
    refine lv_iload hx hb dX7_find_58 (lv_at hl 0 rfl) ?_
    refine va_aldq hx hb hK hP 5 3 rfl rfl (vp_in_iff.mpr (by omega)) dX7_find_60 ?_
    obtain ⟨b_10, eb_10, ib_10⟩ := cqJ.get (i := (k_3 : Int32)) j4 (by first | omega | decide) (by first | omega | decide)
    refine lv_topv (z := .ref b_10) (congrArg va_rf eb_10) ?_
    have hzb_10 := tnc_eq (i := k_3) (by omega)
    have V0b_10 := hY (k_3 : Int32).toNatClampNeg (by omega) b_10 eb_10 0 (by decide)
    have V1b_10 := hY (k_3 : Int32).toNatClampNeg (by omega) b_10 eb_10 1 (by decide)
    have V2b_10 := hY (k_3 : Int32).toNatClampNeg (by omega) b_10 eb_10 2 (by decide)
    exact W.aret (v := .ref b_10) hx hb hr (Or.inl ⟨_, rfl⟩) (Or.inr ⟨_, rfl⟩) (fun t ht hW => ⟨(some b_10), rfl, ⟨cqOp.some ib_10, fun b9 h9 => (by cases h9; exact ⟨_, h_6, eb_10⟩), fun h9 => (by cases h9)⟩, ht⟩) (fun q h => by cases h) dX7_find_61
  · have h_9 : fdF Y (v).toInt (w).toInt (tz).toInt.toNat = none := h_9
    refine lv_null hx hb dX7_find_68 ?_
    exact W.aret (v := .null) hx hb hr (Or.inl ⟨_, rfl⟩) (Or.inl rfl) (fun t ht hW => ⟨none, rfl, ⟨cqOp.none, fun b9 h9 => (by cases h9), fun _ => h_9⟩, ht⟩) (fun q h => by cases h) dX7_find_69
