set_option maxHeartbeats 4000000 in
set_option maxRecDepth 100000 in
theorem pl_best1 {p : Program} {l : Launch} {e : Env} {R : Room} {s : State} {m : MethodId} {args : Array Value} {below : List Frame} {meth : Method} {c : Code} {Q : State → Prop} {A : Nat → Prop} {cells slots : Nat} {D : va_G} {H : Heap} {locs : List Loc} {xo : Nat} {ro : Nat} {tI : Nat} {cS : Nat} {pN : Nat} {a1 : Nat} {a2 : Nat} {a3 : Nat} {a4 : Nat} {a5 : Nat} {a6 : Nat} {a7 : Nat} {a8 : Nat} {a9 : Nat} {e1 : ClassId} {e2 : ClassId} {e3 : ClassId} {e4 : ClassId} {e5 : ClassId} {e6 : ClassId} {e7 : ClassId} {e8 : ClassId} {e9 : ClassId} {na : Int32} {ns : Int32} {nw : Int32} {cp : Int32} {le : Int32} {tr : Int32} {sl : Int32} {tz : Int32} {cz : Int32} {q1 : Int32} {q2 : Int32} {q3 : Int32} {q4 : Int32} {g1 : Nat → Option Nat} {g2 : Nat → Option Nat} {g3 : Nat → Option Nat} {g4 : Nat → Option Nat} {g5 : Nat → Option Nat} {g6 : Nat → Option Nat} {g7 : Nat → Option Nat} {y8 : Nat → Int32} {y9 : Nat → Int32} {L : List Nat} {K : Nat → Nat × Nat} {f : Nat → va_E} {S : Int} {Wt : Nat → Nat → Int} {pl : Nat → Nat} (hx : p.tables.exec = Jvm.exec) (hb : c.code = cX5_takeBestOfPool) (hts : ∀ w ∈ wsX5_takeBestOfPool, w.before args s = true) (hml : c.maxLocals = 4) (hown : s.vm.findClass RX5 = some m.cls) (hN : Nq s) (hK : va_K D vwCl [(e1, .object RX0), (e2, .object RX0), (e3, .object RX6), (e4, .object RX4), (e5, .object RX1), (e6, .object RX1), (e7, .object RX1), (e8, .int), (e9, .int)] s) (hP : va_P D vwCl ([oC xo 8 [.ref a1, .ref a2, .ref a3, .ref ro, .ref tI, .ref cS, .ref pN, .int na, .int ns, .int nw, .int cp, .int le, .int tr, .int sl], aR a1 e1 200 (g1), aR a2 e2 40 (g2), aR a3 e3 30 (g3), oC tI 7 [.ref a4, .int tz], aR a4 e4 60 (g4), oC cS 2 [.ref a5, .int cz], aR a5 e5 200 (g5), oC pN 5 [.ref a6, .ref a7, .ref a8, .ref a9, .int q1, .int q2, .int q3, .int q4], aR a6 e6 17 (g6), aR a7 e7 12 (g7), aI a8 e8 301 (y8), aI a9 e9 301 (y9)] ++ va_pl L f) H) (hD : va_D A ([oC xo 8 [.ref a1, .ref a2, .ref a3, .ref ro, .ref tI, .ref cS, .ref pN, .int na, .int ns, .int nw, .int cp, .int le, .int tr, .int sl], aR a1 e1 200 (g1), aR a2 e2 40 (g2), aR a3 e3 30 (g3), oC tI 7 [.ref a4, .int tz], aR a4 e4 60 (g4), oC cS 2 [.ref a5, .int cz], aR a5 e5 200 (g5), oC pN 5 [.ref a6, .ref a7, .ref a8, .ref a9, .int q1, .int q2, .int q3, .int q4], aR a6 e6 17 (g6), aR a7 e7 12 (g7), aI a8 e8 301 (y8), aI a9 e9 301 (y9)] ++ va_pl L f)) (hR : 1 ≤ R.frames ∧ 20 ≤ R.locals) (hcs : cells ≤ R.cells ∧ slots ≤ R.slots) (hI : cqI S L K f) (hSb : 0 ≤ S ∧ S ≤ 500000) (htc : tC L K f g1 (na).toInt.toNat) (hcS : cqCs f g1 (na).toInt.toNat Wt) (hwb : wbW Wt (na).toInt.toNat) (hq2 : 0 ≤ (q2).toInt ∧ (q2).toInt ≤ 12) (jq2 : cqJ L K 1 (q2).toInt g7) (ho7 : oQ f g1 g7 pl (q2).toInt.toNat) (hpl : ∀ i, i < (q2).toInt.toNat → pl i < (na).toInt.toNat) (hq4 : 0 ≤ (q4).toInt ∧ (q4).toInt ≤ 300) (hkp : kpF (fun i => (mnW Wt (pl i)).toNat) (fun i => scW Wt (pl i)) y8 y9 (q4).toInt.toNat (q2).toInt.toNat) (done_60 : ∀ (lf : Int32) (cH : Int32) (ls : Array Slot), ((cH).toInt.toNat = kpC (fun i => (mnW Wt (pl i)).toNat) (fun i => scW Wt (pl i)) (q2).toInt.toNat (q4).toInt.toNat ∧ 0 ≤ (cH).toInt) → lv_has ls 4 [(2, .int lf), (1, .int cH), (0, .ref pN)] → W p l e R s m args below meth c H locs cells slots Q (F0 m 60 ls [])) : ∀ (n : Nat), ∀ (k : Int32) (lf : Int32) (cH : Int32) (ls : Array Slot), (-1 ≤ (k).toInt ∧ (k).toInt < (q2).toInt) → (0 ≤ (lf).toInt ∧ (lf).toInt ≤ (q4).toInt) → (tbI (fun i => (mnW Wt (pl i)).toNat) (fun i => scW Wt (pl i)) (q2).toInt.toNat (q4).toInt.toNat ((k).toInt + 1).toNat (lf : Int32).toNatClampNeg cH) → (((k).toInt + 1).toNat < n) → lv_has ls 4 [(3, .int k), (2, .int lf), (1, .int cH), (0, .ref pN)] → W p l e R s m args below meth c H locs cells slots Q (F0 m 14 ls []) := by
  have hin_X5 : ∀ w ∈ u_ws RX5 TX5 8, w ∈ wsX5_takeBestOfPool := fun w h => List.mem_cons_of_mem _ (List.mem_append_left _ (List.mem_append_right _ (h)))
  intro n
  induction n with
  | zero => intro k lf cH ls hk hlf htb hmu hl; exact absurd hmu (Nat.not_lt_zero _)
  | succ n ih =>
    intro k lf cH ls hk hlf htb hmu hl
    refine lv_iload_n hx hb dX5_takeBestOfPool_14 rfl (lv_at hl 0 rfl) ?_
    refine bz_lt (zx := (k).toInt) (tgt := 60) hx hb dX5_takeBestOfPool_15 (by decide) rfl (fun c_1 => ?_) (fun c_1 => ?_)
    · exact done_60 lf cH _ (by rw [show ((k).toInt + 1).toNat = 0 by omega] at htb; exact ⟨htb.end, htb.1⟩) (lv_sub hl [1, 2, 3] rfl)
    · refine lv_iload_n hx hb dX5_takeBestOfPool_18 rfl (lv_at hl 1 rfl) ?_
      refine bz_lt (zx := (lf).toInt) (tgt := 54) hx hb dX5_takeBestOfPool_19 (by decide) rfl (fun c_2 => ?_) (fun c_2 => ?_)
      · obtain ⟨x_3, ex_3⟩ : ∃ z : Int32, z = k + (-1) := ⟨_, rfl⟩
        have tx_3 := ad_toInt (x := k) (y := (-1)) (z := x_3) (zx := (k).toInt) (zy := (-1)) ex_3 rfl (by decide)
        refine lv_iinc (v := x_3) (lv' := [(3, .int x_3), (2, .int lf), (1, .int cH), (0, .ref pN)]) hx hb dX5_takeBestOfPool_54 hl (k := 0) rfl (by rw [ex_3]; rfl) (by decide) rfl (fun ls hl => ?_)
        refine lv_goto (tgt := 14) hx hb dX5_takeBestOfPool_57 (by decide) ?_
        exact ih x_3 lf cH _ (by exfalso; omega) (by exfalso; omega) (by exfalso; omega) (by omega) (lv_sub hl [0, 1, 2, 3] rfl)
      · refine lv_aload_n hx hb dX5_takeBestOfPool_22 rfl (lv_at hl 3 rfl) ?_
        refine va_get (D := D) (ci := 5) (v := .ref a9) (C := RX5) (T := TX5) (N := 8) hx hb hts hin_X5 hown hK hP 8 rfl rfl 3 (by decide) (hts (.fieldLink RX5 24 "CryOrder$Plan" "needed" "[I") (List.mem_cons_of_mem _ (List.mem_append_left _ (List.mem_append_left _ (List.mem_of_getElem? (i := 2) rfl))))) (fun _ h9 => h9) rfl dX5_takeBestOfPool_23 ?_
        refine lv_iload_n hx hb dX5_takeBestOfPool_26 rfl (lv_at hl 1 rfl) ?_
        refine va_iald hx hb hK hP 12 8 rfl rfl (vp_in_iff.mpr (by omega)) dX5_takeBestOfPool_27 ?_
        refine lv_topi (fun z_4 ez_4 => ?_)
        have hql := tnc_eq (i := lf) (by omega)
        have hqk := tnc_eq (i := k) (by omega)
        have hnd := (hkp (lf : Int32).toNatClampNeg (by omega)).2
        have hwi : (fun i => (mnW Wt (pl i)).toNat) (k : Int32).toNatClampNeg = (mnW Wt (pl (k : Int32).toNatClampNeg)).toNat := rfl
        refine lv_iload_n hx hb dX5_takeBestOfPool_28 rfl (lv_at hl 0 rfl) ?_
        refine lv_ishr hx hb dX5_takeBestOfPool_29 ?_
        refine lv_topi (fun z_5 ez_5 => ?_)
        refine lv_iconst (v := 1) hx hb dX5_takeBestOfPool_30 (by decide) ?_
        refine lv_iand hx hb dX5_takeBestOfPool_31 ?_
        refine lv_topi (fun z_6 ez_6 => ?_)
        have tz_6 := an1_toInt ez_6
        have hbt : (z_6).toInt = (((z_4).toInt.toNat / 2 ^ (k : Int32).toNatClampNeg % 2 : Nat) : Int) := bt_of ez_5 ez_6 (by omega) (by rw [ez_4]; exact hnd.1)
        have hbk : (z_6).toInt = 1 ↔ kpN (fun i => (mnW Wt (pl i)).toNat) (fun i => scW Wt (pl i)) (k : Int32).toNatClampNeg (lf : Int32).toNatClampNeg := Iff.trans (by rw [hbt, ez_4]; exact ⟨fun q => Int.ofNat.inj q, fun q => congrArg Int.ofNat q⟩) (hnd.2.2 (k : Int32).toNatClampNeg (by omega))
        refine lv_iconst (v := 1) hx hb dX5_takeBestOfPool_32 (by decide) ?_
        refine bi_ne (zx := (z_6).toInt) (zy := 1) (tgt := 54) hx hb dX5_takeBestOfPool_33 (by decide) rfl (by decide) (fun c_7 => ?_) (fun c_7 => ?_)
        · obtain ⟨x_8, ex_8⟩ : ∃ z : Int32, z = k + (-1) := ⟨_, rfl⟩
          have tx_8 := ad_toInt (x := k) (y := (-1)) (z := x_8) (zx := (k).toInt) (zy := (-1)) ex_8 rfl (by decide)
          refine lv_iinc (v := x_8) (lv' := [(3, .int x_8), (2, .int lf), (1, .int cH), (0, .ref pN)]) hx hb dX5_takeBestOfPool_54 hl (k := 0) rfl (by rw [ex_8]; rfl) (by decide) rfl (fun ls hl => ?_)
          refine lv_goto (tgt := 14) hx hb dX5_takeBestOfPool_57 (by decide) ?_
          exact ih x_8 lf cH _ (by first | omega | assumption | decide | (have h3 : (0 : Int32).toInt = 0 := rfl; omega) | (have h3 : (0 : Int32).toInt = 0 := rfl; have h4 : (1 : Int32).toInt = 1 := rfl; have h5 : (-1 : Int32).toInt = -1 := rfl; omega)) (by first | omega | assumption | decide | (have h3 : (0 : Int32).toInt = 0 := rfl; omega) | (have h3 : (0 : Int32).toInt = 0 := rfl; have h4 : (1 : Int32).toInt = 1 := rfl; have h5 : (-1 : Int32).toInt = -1 := rfl; omega)) (by rw [show ((x_8).toInt + 1).toNat = (k : Int32).toNatClampNeg by omega]; exact tbI.skip (i := (k : Int32).toNatClampNeg) (by rw [show (k : Int32).toNatClampNeg + 1 = ((k).toInt + 1).toNat by omega]; exact htb) (fun q9 => by have h9 := hbk.mpr q9; omega)) (by omega) (lv_sub hl [0, 1, 2, 3] rfl)
        · have hkn := hbk.mp (by omega)
          have hk1 := hkn.1
          rw [hwi] at hk1
          refine lv_iload_n hx hb dX5_takeBestOfPool_36 rfl (lv_at hl 2 rfl) ?_
          refine lv_iconst (v := 1) hx hb dX5_takeBestOfPool_37 (by decide) ?_
          refine lv_iload_n hx hb dX5_takeBestOfPool_38 rfl (lv_at hl 0 rfl) ?_
          refine lv_ishl hx hb dX5_takeBestOfPool_39 ?_
          refine lv_topi (fun z_9 ez_9 => ?_)
          refine lv_ior hx hb dX5_takeBestOfPool_40 ?_
          refine lv_topi (fun z_10 ez_10 => ?_)
          refine lv_istore_n (lv' := [(1, .int z_10), (3, .int k), (2, .int lf), (0, .ref pN)]) hx hb dX5_takeBestOfPool_41 rfl hl (by decide) rfl (fun ls hl => ?_)
          refine lv_iload_n hx hb dX5_takeBestOfPool_42 rfl (lv_at hl 2 rfl) ?_
          refine lv_aload_n hx hb dX5_takeBestOfPool_43 rfl (lv_at hl 3 rfl) ?_
          refine va_get (D := D) (ci := 5) (v := .ref a7) (C := RX5) (T := TX5) (N := 8) hx hb hts hin_X5 hown hK hP 8 rfl rfl 1 (by decide) (hts (.fieldLink RX5 17 "CryOrder$Plan" "pool" "[LCryOrder$Case;") (List.mem_cons_of_mem _ (List.mem_append_left _ (List.mem_append_left _ (List.mem_of_getElem? (i := 3) rfl))))) (fun _ h9 => h9) rfl dX5_takeBestOfPool_44 ?_
          refine lv_iload_n hx hb dX5_takeBestOfPool_47 rfl (lv_at hl 1 rfl) ?_
          refine va_aldq hx hb hK hP 10 6 rfl rfl (vp_in_iff.mpr (by omega)) dX5_takeBestOfPool_48 ?_
          obtain ⟨b_11, eb_11, ib_11⟩ := cqJ.get (i := (k : Int32)) jq2 (by first | omega | decide) (by first | omega | decide)
          refine lv_topv (z := .ref b_11) (congrArg va_rf eb_11) ?_
          have hzk := tnc_eq (i := k) (by omega)
          have hlk := ho7.get (j := (k : Int32).toNatClampNeg) (by omega) eb_11
          have hpk := hpl (k : Int32).toNatClampNeg (by omega)
          have B1 : cqF (f b_11) 1 = Wt (pl (k : Int32).toNatClampNeg) 1 := hlk.F hcS hpk 1 (by decide)
          have B2 : cqF (f b_11) 2 = Wt (pl (k : Int32).toNatClampNeg) 2 := hlk.F hcS hpk 2 (by decide)
          have hwk := hwb _ hpk
          have hmn : mnW Wt (pl (k : Int32).toNatClampNeg) = 5 + 2 * Wt (pl (k : Int32).toNatClampNeg) 1 := rfl
          have hsn : scW Wt (pl (k : Int32).toNatClampNeg) = Wt (pl (k : Int32).toNatClampNeg) 2 := rfl
          refine vp_callSi (wrV (As := []) (rest := [.int lf]) ⟨hx, hb, hml, hown, hts⟩ hN hK hP hD (c_X1_minutesP l D [oC xo 8 [.ref a1, .ref a2, .ref a3, .ref ro, .ref tI, .ref cS, .ref pN, .int na, .int ns, .int nw, .int cp, .int le, .int tr, .int sl], aR a1 e1 200 (g1), aR a2 e2 40 (g2), aR a3 e3 30 (g3), oC tI 7 [.ref a4, .int tz], aR a4 e4 60 (g4), oC cS 2 [.ref a5, .int cz], aR a5 e5 200 (g5), oC pN 5 [.ref a6, .ref a7, .ref a8, .ref a9, .int q1, .int q2, .int q3, .int q4], aR a6 e6 17 (g6), aR a7 e7 12 (g7), aI a8 e8 301 (y8), aI a9 e9 301 (y9)] L K f S [(e1, .object RX0), (e2, .object RX0), (e3, .object RX6), (e4, .object RX4), (e5, .object RX1), (e6, .object RX1), (e7, .object RX1), (e8, .int), (e9, .int)] b_11 hI ib_11 (by first | omega | assumption | decide | (have h3 : (0 : Int32).toInt = 0 := rfl; omega) | (have h3 : (0 : Int32).toInt = 0 := rfl; have h4 : (1 : Int32).toInt = 1 := rfl; have h5 : (-1 : Int32).toInt = -1 := rfl; omega))) (cwV 0 hts gX5_takeBestOfPool_X1_minutes rfl rfl rfl (by decide +kernel) ⟨Nat.le_trans (m := 1) (Nat.le_of_ble_eq_true rfl) hR.1, Nat.le_trans (m := 20) (Nat.le_of_ble_eq_true rfl) hR.2⟩) 1 rfl (cq_rcC (X := [oC xo 8 [.ref a1, .ref a2, .ref a3, .ref ro, .ref tI, .ref cS, .ref pN, .int na, .int ns, .int nw, .int cp, .int le, .int tr, .int sl], aR a1 e1 200 (g1), aR a2 e2 40 (g2), aR a3 e3 30 (g3), oC tI 7 [.ref a4, .int tz], aR a4 e4 60 (g4), oC cS 2 [.ref a5, .int cz], aR a5 e5 200 (g5), oC pN 5 [.ref a6, .ref a7, .ref a8, .ref a9, .int q1, .int q2, .int q3, .int q4], aR a6 e6 17 (g6), aR a7 e7 12 (g7), aI a8 e8 301 (y8), aI a9 e9 301 (y9)]) hI ib_11) rfl hl.1 rfl (Nat.le_of_ble_eq_true rfl) dX5_takeBestOfPool_49 ⟨hcs.1, hcs.2⟩) (fun r_12 h_13 => ?_)
          have h_13 : 5 ≤ (r_12).toInt ∧ (r_12).toInt ≤ 5 + 2 * S ∧ (r_12).toInt = 5 + 2 * cqF (f b_11) 1 := h_13
          refine lv_isub hx hb dX5_takeBestOfPool_52 ?_
          refine lv_topi (fun z_14 ez_14 => ?_)
          have tz_14 := sb_toInt (zx := (lf).toInt) (zy := (r_12).toInt) ez_14 rfl rfl
          refine lv_istore_n (lv' := [(2, .int z_14), (1, .int z_10), (3, .int k), (0, .ref pN)]) hx hb dX5_takeBestOfPool_53 rfl hl (by decide) rfl (fun ls hl => ?_)
          obtain ⟨x_15, ex_15⟩ : ∃ z : Int32, z = k + (-1) := ⟨_, rfl⟩
          have tx_15 := ad_toInt (x := k) (y := (-1)) (z := x_15) (zx := (k).toInt) (zy := (-1)) ex_15 rfl (by decide)
          refine lv_iinc (v := x_15) (lv' := [(3, .int x_15), (2, .int z_14), (1, .int z_10), (0, .ref pN)]) hx hb dX5_takeBestOfPool_54 hl (k := 2) rfl (by rw [ex_15]; rfl) (by decide) rfl (fun ls hl => ?_)
          refine lv_goto (tgt := 14) hx hb dX5_takeBestOfPool_57 (by decide) ?_
          exact ih x_15 z_14 z_10 _ (by first | omega | assumption | decide | (have h3 : (0 : Int32).toInt = 0 := rfl; omega) | (have h3 : (0 : Int32).toInt = 0 := rfl; have h4 : (1 : Int32).toInt = 1 := rfl; have h5 : (-1 : Int32).toInt = -1 := rfl; omega)) (by first | omega | assumption | decide | (have h3 : (0 : Int32).toInt = 0 := rfl; omega) | (have h3 : (0 : Int32).toInt = 0 := rfl; have h4 : (1 : Int32).toInt = 1 := rfl; have h5 : (-1 : Int32).toInt = -1 := rfl; omega)) (by rw [show ((x_15).toInt + 1).toNat = (k : Int32).toNatClampNeg by omega]; exact tbI.put (i := (k : Int32).toNatClampNeg) (k := k) (by rw [show (k : Int32).toNatClampNeg + 1 = ((k).toInt + 1).toNat by omega]; exact htb) hkn ez_9 ez_10 (by omega) (by omega) (by omega) (by have h8 := tnc_eq (i := z_14) (by omega); first | omega | (rw [hwi]; omega))) (by omega) (lv_sub hl [0, 1, 2, 3] rfl)
