set_option maxHeartbeats 4000000 in
set_option maxRecDepth 100000 in
theorem kl_member {p : Program} {l : Launch} {e : Env} {R : Room} {s : State} {m : MethodId} {args : Array Value} {below : List Frame} {meth : Method} {c : Code} {Q : State → Prop} {A : Nat → Prop} {cells slots : Nat} {D : va_G} {H : Heap} {locs : List Loc} {xo : Nat} {ro : Nat} {tI : Nat} {cS : Nat} {pN : Nat} {a1 : Nat} {a2 : Nat} {a3 : Nat} {a4 : Nat} {a5 : Nat} {a6 : Nat} {a7 : Nat} {a8 : Nat} {a9 : Nat} {e1 : ClassId} {e2 : ClassId} {e3 : ClassId} {e4 : ClassId} {e5 : ClassId} {e6 : ClassId} {e7 : ClassId} {e8 : ClassId} {e9 : ClassId} {na : Int32} {ns : Int32} {nw : Int32} {cp : Int32} {le : Int32} {tr : Int32} {sl : Int32} {tz : Int32} {cz : Int32} {q1 : Int32} {q2 : Int32} {q3 : Int32} {q4 : Int32} {g1 : Nat → Option Nat} {g2 : Nat → Option Nat} {g3 : Nat → Option Nat} {g4 : Nat → Option Nat} {g5 : Nat → Option Nat} {g6 : Nat → Option Nat} {g7 : Nat → Option Nat} {y8 : Nat → Int32} {y9 : Nat → Int32} {L : List Nat} {K : Nat → Nat × Nat} {f : Nat → va_E} {S : Int} {b : Nat} {ii : Nat} {v : Int32} {V : Nat → Nat → Int} {cc : Nat → Nat} (hx : p.tables.exec = Jvm.exec) (hb : c.code = cX8_memberOf) (hts : ∀ w ∈ wsX8_memberOf, w.before args s = true) (hml : c.maxLocals = 6) (hown : s.vm.findClass RX8 = some m.cls) (hN : Nq s) (hK : va_K D vwCl [(e1, .object RX0), (e2, .object RX0), (e3, .object RX6), (e4, .object RX4), (e5, .object RX1), (e6, .object RX1), (e7, .object RX1), (e8, .int), (e9, .int)] s) (hP : va_P D vwCl ([oC xo 8 [.ref a1, .ref a2, .ref a3, .ref ro, .ref tI, .ref cS, .ref pN, .int na, .int ns, .int nw, .int cp, .int le, .int tr, .int sl], aR a1 e1 200 (g1), aR a2 e2 40 (g2), aR a3 e3 30 (g3), oC tI 7 [.ref a4, .int tz], aR a4 e4 60 (g4), oC cS 2 [.ref a5, .int cz], aR a5 e5 200 (g5), oC pN 5 [.ref a6, .ref a7, .ref a8, .ref a9, .int q1, .int q2, .int q3, .int q4], aR a6 e6 17 (g6), aR a7 e7 12 (g7), aI a8 e8 301 (y8), aI a9 e9 301 (y9)] ++ va_pl L f) H) (hD : va_D A ([oC xo 8 [.ref a1, .ref a2, .ref a3, .ref ro, .ref tI, .ref cS, .ref pN, .int na, .int ns, .int nw, .int cp, .int le, .int tr, .int sl], aR a1 e1 200 (g1), aR a2 e2 40 (g2), aR a3 e3 30 (g3), oC tI 7 [.ref a4, .int tz], aR a4 e4 60 (g4), oC cS 2 [.ref a5, .int cz], aR a5 e5 200 (g5), oC pN 5 [.ref a6, .ref a7, .ref a8, .ref a9, .int q1, .int q2, .int q3, .int q4], aR a6 e6 17 (g6), aR a7 e7 12 (g7), aI a8 e8 301 (y8), aI a9 e9 301 (y9)] ++ va_pl L f)) (hR : 2 ≤ R.frames ∧ 40 ≤ R.locals) (hcs : cells ≤ R.cells ∧ slots ≤ R.slots) (hI : cqI S L K f) (hna : 0 ≤ (na).toInt ∧ (na).toInt ≤ 200) (j1 : cqJA L K (na).toInt g1) (hj9 : jN L K (na).toInt.toNat g1) (hV : cqV f g1 (na).toInt V) (hu9 : aU f g1 (na).toInt.toNat cc) (hi9 : ii < (na).toInt.toNat ∧ g1 ii = some b) (hv0 : 0 ≤ (v).toInt ∧ (v).toInt ≤ 2147483637) (done_47 : ∀ (k : Int32) (u : Int32) (ea : Nat) (ls : Array Slot), (cqIs L K 0 ea) → (g1 (k : Int32).toNatClampNeg = some ea ∧ mbF (inC V cc (na).toInt.toNat ii) (v).toInt (na).toInt.toNat = ((k : Int32).toNatClampNeg : Int)) → (0 ≤ (k).toInt ∧ (k).toInt < (na).toInt) → lv_has ls 6 [(5, .ref ea), (4, .int k), (3, .int u), (0, .ref xo), (1, .ref b), (2, .int v)] → W p l e R s m args below meth c H locs cells slots Q (F0 m 47 ls [])) (done_62 : ∀ (k : Int32) (u : Int32) (ls : Array Slot), (mbF (inC V cc (na).toInt.toNat ii) (v).toInt (na).toInt.toNat = -1) → lv_has ls 6 [(4, .int k), (3, .int u), (0, .ref xo), (1, .ref b), (2, .int v)] → W p l e R s m args below meth c H locs cells slots Q (F0 m 62 ls [])) : ∀ (n : Nat), ∀ (k : Int32) (u : Int32) (ls : Array Slot), ((ii : Int) ≤ (k).toInt ∧ (k).toInt ≤ (na).toInt) → ((u).toInt = (v).toInt - ctF (inC V cc (na).toInt.toNat ii) (k : Int32).toNatClampNeg) → (∀ i, i < (k : Int32).toNatClampNeg → ¬ (inC V cc (na).toInt.toNat ii i ∧ ctF (inC V cc (na).toInt.toNat ii) i = (v).toInt)) → ((200 - (k).toInt).toNat < n) → lv_has ls 6 [(4, .int k), (3, .int u), (0, .ref xo), (1, .ref b), (2, .int v)] → W p l e R s m args below meth c H locs cells slots Q (F0 m 8 ls []) := by
  have hin_X8 : ∀ w ∈ u_ws RX8 TX8 14, w ∈ wsX8_memberOf := fun w h => List.mem_cons_of_mem _ (List.mem_append_right _ (h))
  intro n
  induction n with
  | zero => intro k u ls hk hu hno hmu hl; exact absurd hmu (Nat.not_lt_zero _)
  | succ n ih =>
    intro k u ls hk hu hno hmu hl
    refine lv_iload hx hb dX8_memberOf_8 (lv_at hl 0 rfl) ?_
    refine lv_aload_n hx hb dX8_memberOf_10 rfl (lv_at hl 2 rfl) ?_
    refine va_get (D := D) (ci := 8) (v := .int na) (C := RX8) (T := TX8) (N := 14) hx hb hts hin_X8 hown hK hP 0 rfl rfl 7 (by decide) (hts (.fieldLink RX8 79 "CryOrder" "alarmCount" "I") (List.mem_cons_of_mem _ (List.mem_append_left _ (List.mem_append_left _ (List.mem_of_getElem? (i := 1) rfl))))) (fun _ h9 => h9) rfl dX8_memberOf_11 ?_
    refine bi_ge (zx := (k).toInt) (zy := (na).toInt) (tgt := 62) hx hb dX8_memberOf_14 (by decide) rfl rfl (fun c_1 => ?_) (fun c_1 => ?_)
    · exact done_62 k u _ (mbF_no (na).toInt.toNat (fun i hi => hno i (by have h9 := tnc_eq (i := k) (by omega); omega))) (lv_sub hl [0, 1, 2, 3, 4] rfl)
    · refine lv_aload_n hx hb dX8_memberOf_17 rfl (lv_at hl 2 rfl) ?_
      refine va_get (D := D) (ci := 8) (v := .ref a1) (C := RX8) (T := TX8) (N := 14) hx hb hts hin_X8 hown hK hP 0 rfl rfl 0 (by decide) (hts (.fieldLink RX8 11 "CryOrder" "alarms" "[LCryOrder$Alarm;") (List.mem_cons_of_mem _ (List.mem_append_left _ (List.mem_append_left _ (List.mem_of_getElem? (i := 2) rfl))))) (fun _ h9 => h9) rfl dX8_memberOf_18 ?_
      refine lv_iload hx hb dX8_memberOf_21 (lv_at hl 0 rfl) ?_
      refine va_aldq hx hb hK hP 1 0 rfl rfl (vp_in_iff.mpr (by omega)) dX8_memberOf_23 ?_
      obtain ⟨b_2, eb_2, ib_2, kb_2⟩ := cqJA.get (i := (k : Int32)) j1 (by first | omega | decide) (by first | omega | decide)
      refine lv_topv (z := .ref b_2) (congrArg va_rf eb_2) ?_
      have hzk := tnc_eq (i := k) (by omega)
      have hxk : (k : Int32).toNatClampNeg < (na).toInt.toNat ∧ g1 (k : Int32).toNatClampNeg = some b_2 := ⟨by omega, eb_2⟩
      have hrk := ctF_rng (C := inC V cc (na).toInt.toNat ii) (k : Int32).toNatClampNeg
      have hin := hi9.1
      have V8 := hV (k : Int32).toNatClampNeg (by omega) b_2 eb_2 8 (by decide)
      have V9 := hV (k : Int32).toNatClampNeg (by omega) b_2 eb_2 9 (by decide)
      have V12 := hV (k : Int32).toNatClampNeg (by omega) b_2 eb_2 12 (by decide)
      refine lv_astore (lv' := [(5, .ref b_2), (4, .int k), (3, .int u), (0, .ref xo), (1, .ref b), (2, .int v)]) hx hb dX8_memberOf_24 hl (by decide) rfl (fun ls hl => ?_)
      refine lv_aload hx hb dX8_memberOf_26 (lv_at hl 0 rfl) ?_
      refine vp_callSi (wrV (As := []) (rest := []) ⟨hx, hb, hml, hown, hts⟩ hN hK hP hD (c_X0_isLiveR l D [oC xo 8 [.ref a1, .ref a2, .ref a3, .ref ro, .ref tI, .ref cS, .ref pN, .int na, .int ns, .int nw, .int cp, .int le, .int tr, .int sl], aR a1 e1 200 (g1), aR a2 e2 40 (g2), aR a3 e3 30 (g3), oC tI 7 [.ref a4, .int tz], aR a4 e4 60 (g4), oC cS 2 [.ref a5, .int cz], aR a5 e5 200 (g5), oC pN 5 [.ref a6, .ref a7, .ref a8, .ref a9, .int q1, .int q2, .int q3, .int q4], aR a6 e6 17 (g6), aR a7 e7 12 (g7), aI a8 e8 301 (y8), aI a9 e9 301 (y9)] L K f S [(e1, .object RX0), (e2, .object RX0), (e3, .object RX6), (e4, .object RX4), (e5, .object RX1), (e6, .object RX1), (e7, .object RX1), (e8, .int), (e9, .int)] b_2 hI ib_2) (cwV 0 hts gX8_memberOf_X0_isLive rfl rfl rfl (by decide +kernel) ⟨Nat.le_trans (m := 2) (Nat.le_of_ble_eq_true rfl) hR.1, Nat.le_trans (m := 40) (Nat.le_of_ble_eq_true rfl) hR.2⟩) 0 rfl (cq_rcA (X := [oC xo 8 [.ref a1, .ref a2, .ref a3, .ref ro, .ref tI, .ref cS, .ref pN, .int na, .int ns, .int nw, .int cp, .int le, .int tr, .int sl], aR a1 e1 200 (g1), aR a2 e2 40 (g2), aR a3 e3 30 (g3), oC tI 7 [.ref a4, .int tz], aR a4 e4 60 (g4), oC cS 2 [.ref a5, .int cz], aR a5 e5 200 (g5), oC pN 5 [.ref a6, .ref a7, .ref a8, .ref a9, .int q1, .int q2, .int q3, .int q4], aR a6 e6 17 (g6), aR a7 e7 12 (g7), aI a8 e8 301 (y8), aI a9 e9 301 (y9)]) hI ib_2) rfl hl.1 rfl (Nat.le_of_ble_eq_true rfl) dX8_memberOf_28 ⟨hcs.1, hcs.2⟩) (fun r_3 h_4 => ?_)
      rcases h_4 with ⟨h_4, rfl⟩ | ⟨h_4, rfl⟩
      · have h_4 : cqF (f b_2) 12 = 0 ∧ cqF (f b_2) 8 = 0 ∧ cqF (f b_2) 9 = 0 := h_4
        refine lv_if_eq (tgt := 56) hx hb dX8_memberOf_31 (by decide) (fun c_ => absurd c_ (by decide)) (fun _ => ?_)
        refine lv_aload hx hb dX8_memberOf_34 (lv_at hl 0 rfl) ?_
        refine va_csq (wrV (As := []) (rest := []) ⟨hx, hb, hml, hown, hts⟩ hN hK hP hD (c_X0_headK l D [oC xo 8 [.ref a1, .ref a2, .ref a3, .ref ro, .ref tI, .ref cS, .ref pN, .int na, .int ns, .int nw, .int cp, .int le, .int tr, .int sl], aR a1 e1 200 (g1), aR a2 e2 40 (g2), aR a3 e3 30 (g3), oC tI 7 [.ref a4, .int tz], aR a4 e4 60 (g4), oC cS 2 [.ref a5, .int cz], aR a5 e5 200 (g5), oC pN 5 [.ref a6, .ref a7, .ref a8, .ref a9, .int q1, .int q2, .int q3, .int q4], aR a6 e6 17 (g6), aR a7 e7 12 (g7), aI a8 e8 301 (y8), aI a9 e9 301 (y9)] L K f S [(e1, .object RX0), (e2, .object RX0), (e3, .object RX6), (e4, .object RX4), (e5, .object RX1), (e6, .object RX1), (e7, .object RX1), (e8, .int), (e9, .int)] b_2 g1 ((na).toInt.toNat) cc ((k : Int32).toNatClampNeg) hI ib_2 hj9 hu9 hxk) (cwV 0 hts gX8_memberOf_X0_head rfl rfl rfl (by decide +kernel) ⟨Nat.le_trans (m := 2) (Nat.le_of_ble_eq_true rfl) hR.1, Nat.le_trans (m := 40) (Nat.le_of_ble_eq_true rfl) hR.2⟩) 0 rfl (cq_rcA (X := [oC xo 8 [.ref a1, .ref a2, .ref a3, .ref ro, .ref tI, .ref cS, .ref pN, .int na, .int ns, .int nw, .int cp, .int le, .int tr, .int sl], aR a1 e1 200 (g1), aR a2 e2 40 (g2), aR a3 e3 30 (g3), oC tI 7 [.ref a4, .int tz], aR a4 e4 60 (g4), oC cS 2 [.ref a5, .int cz], aR a5 e5 200 (g5), oC pN 5 [.ref a6, .ref a7, .ref a8, .ref a9, .int q1, .int q2, .int q3, .int q4], aR a6 e6 17 (g6), aR a7 e7 12 (g7), aI a8 e8 301 (y8), aI a9 e9 301 (y9)]) hI ib_2) rfl hl.1 rfl (Nat.le_of_ble_eq_true rfl) dX8_memberOf_36 ⟨hcs.1, hcs.2⟩) (fun r_5 h_6 => ?_)
        obtain ⟨b_7, rfl, is_8, h_9, h_10, h_11⟩ := h_6
        have h_9 : g1 (cc (k : Int32).toNatClampNeg) = some b_7 := h_9
        have h_10 : cc (cc (k : Int32).toNatClampNeg) = cc (k : Int32).toNatClampNeg := h_10
        have h_11 : cc (k : Int32).toNatClampNeg ≤ (k : Int32).toNatClampNeg := h_11
        refine lv_topv (z := .ref b_7) rfl ?_
        have hx_12 : cc (k : Int32).toNatClampNeg < (na).toInt.toNat ∧ g1 (cc (k : Int32).toNatClampNeg) = some b_7 := ⟨Nat.lt_of_le_of_lt h_11 hxk.1, h_9⟩
        have khx_12 := (hj9.key hx_12.1 hx_12.2).2
        refine lv_aload_n hx hb dX8_memberOf_39 rfl (lv_at hl 4 rfl) ?_
        refine lv_acmp_ne (rx := (some b_7)) (ry := (some b)) (tgt := 56) hx hb dX8_memberOf_40 (by decide) (fun c_13 => ?_) (fun c_13 => ?_)
        · obtain ⟨x_14, ex_14⟩ : ∃ z : Int32, z = k + 1 := ⟨_, rfl⟩
          have tx_14 := ad_toInt (x := k) (y := 1) (z := x_14) (zx := (k).toInt) (zy := 1) ex_14 rfl (by decide)
          refine lv_iinc (v := x_14) (lv' := [(4, .int x_14), (5, .ref b_2), (3, .int u), (0, .ref xo), (1, .ref b), (2, .int v)]) hx hb dX8_memberOf_56 hl (k := 1) rfl (by rw [ex_14]; rfl) (by decide) rfl (fun ls hl => ?_)
          refine lv_goto (tgt := 8) hx hb dX8_memberOf_59 (by decide) ?_
          exact ih x_14 u _ (by first | omega | assumption | decide | (have h3 : (0 : Int32).toInt = 0 := rfl; omega) | (have h3 : (0 : Int32).toInt = 0 := rfl; have h4 : (1 : Int32).toInt = 1 := rfl; have h5 : (-1 : Int32).toInt = -1 := rfl; omega)) (by rw [(show (x_14 : Int32).toNatClampNeg = (k : Int32).toNatClampNeg + 1 by have h9 := tnc_eq (i := k) (by omega); have h8 := tnc_eq (i := x_14) (by omega); omega)]; rw [ctF_skip (C := inC V cc (na).toInt.toNat ii) (fun q9 => c_13 (by have h9 := hx_12.2; rw [q9.2, hi9.2] at h9; exact h9.symm))]; omega) (by rw [(show (x_14 : Int32).toNatClampNeg = (k : Int32).toNatClampNeg + 1 by have h9 := tnc_eq (i := k) (by omega); have h8 := tnc_eq (i := x_14) (by omega); omega)]; intro i hi; rcases Nat.lt_or_eq_of_le (Nat.le_of_lt_succ hi) with q8 | q8; (exact hno i q8); (rw [q8]; exact fun q9 => (fun q9 => c_13 (by have h9 := hx_12.2; rw [q9.2, hi9.2] at h9; exact h9.symm)) q9.1)) (by omega) (lv_sub hl [0, 2, 3, 4, 5] rfl)
        · refine lv_iload_n hx hb dX8_memberOf_43 rfl (lv_at hl 2 rfl) ?_
          refine bz_ne (zx := (u).toInt) (tgt := 53) hx hb dX8_memberOf_44 (by decide) rfl (fun c_15 => ?_) (fun c_15 => ?_)
          · obtain ⟨x_16, ex_16⟩ : ∃ z : Int32, z = u + (-1) := ⟨_, rfl⟩
            have tx_16 := ad_toInt (x := u) (y := (-1)) (z := x_16) (zx := (u).toInt) (zy := (-1)) ex_16 rfl (by decide)
            refine lv_iinc (v := x_16) (lv' := [(3, .int x_16), (5, .ref b_2), (4, .int k), (0, .ref xo), (1, .ref b), (2, .int v)]) hx hb dX8_memberOf_53 hl (k := 2) rfl (by rw [ex_16]; rfl) (by decide) rfl (fun ls hl => ?_)
            obtain ⟨x_17, ex_17⟩ : ∃ z : Int32, z = k + 1 := ⟨_, rfl⟩
            have tx_17 := ad_toInt (x := k) (y := 1) (z := x_17) (zx := (k).toInt) (zy := 1) ex_17 rfl (by decide)
            refine lv_iinc (v := x_17) (lv' := [(4, .int x_17), (3, .int x_16), (5, .ref b_2), (0, .ref xo), (1, .ref b), (2, .int v)]) hx hb dX8_memberOf_56 hl (k := 2) rfl (by rw [ex_17]; rfl) (by decide) rfl (fun ls hl => ?_)
            refine lv_goto (tgt := 8) hx hb dX8_memberOf_59 (by decide) ?_
            exact ih x_17 x_16 _ (by first | omega | assumption | decide | (have h3 : (0 : Int32).toInt = 0 := rfl; omega) | (have h3 : (0 : Int32).toInt = 0 := rfl; have h4 : (1 : Int32).toInt = 1 := rfl; have h5 : (-1 : Int32).toInt = -1 := rfl; omega)) (by rw [(show (x_17 : Int32).toNatClampNeg = (k : Int32).toNatClampNeg + 1 by have h9 := tnc_eq (i := k) (by omega); have h8 := tnc_eq (i := x_17) (by omega); omega)]; rw [ctF_hit (C := inC V cc (na).toInt.toNat ii) ⟨⟨by omega, by omega, by omega, by omega⟩, (hj9.inj hx_12.1 hi9.1 (hx_12.2.trans c_13) hi9.2)⟩]; omega) (by rw [(show (x_17 : Int32).toNatClampNeg = (k : Int32).toNatClampNeg + 1 by have h9 := tnc_eq (i := k) (by omega); have h8 := tnc_eq (i := x_17) (by omega); omega)]; intro i hi; rcases Nat.lt_or_eq_of_le (Nat.le_of_lt_succ hi) with q8 | q8; (exact hno i q8); (rw [q8]; exact fun q9 => by have h9 := q9.2; omega)) (by omega) (lv_sub hl [0, 1, 3, 4, 5] rfl)
          · exact done_47 k u b_2 _ ib_2 ⟨hxk.2, mbF_at (na).toInt.toNat (C := inC V cc (na).toInt.toNat ii) ⟨⟨by omega, by omega, by omega, by omega⟩, (hj9.inj hx_12.1 hi9.1 (hx_12.2.trans c_13) hi9.2)⟩ (by omega) hxk.1⟩ (by first | omega | assumption | decide | (have h3 : (0 : Int32).toInt = 0 := rfl; omega) | (have h3 : (0 : Int32).toInt = 0 := rfl; have h4 : (1 : Int32).toInt = 1 := rfl; have h5 : (-1 : Int32).toInt = -1 := rfl; omega)) (lv_sub hl [0, 1, 2, 3, 4, 5] rfl)
      · have h_4 : ¬ (cqF (f b_2) 12 = 0 ∧ cqF (f b_2) 8 = 0 ∧ cqF (f b_2) 9 = 0) := h_4
        refine lv_if_eq (tgt := 56) hx hb dX8_memberOf_31 (by decide) (fun _ => ?_) (fun c_ => absurd c_ (by decide))
        obtain ⟨x_18, ex_18⟩ : ∃ z : Int32, z = k + 1 := ⟨_, rfl⟩
        have tx_18 := ad_toInt (x := k) (y := 1) (z := x_18) (zx := (k).toInt) (zy := 1) ex_18 rfl (by decide)
        refine lv_iinc (v := x_18) (lv' := [(4, .int x_18), (5, .ref b_2), (3, .int u), (0, .ref xo), (1, .ref b), (2, .int v)]) hx hb dX8_memberOf_56 hl (k := 1) rfl (by rw [ex_18]; rfl) (by decide) rfl (fun ls hl => ?_)
        refine lv_goto (tgt := 8) hx hb dX8_memberOf_59 (by decide) ?_
        exact ih x_18 u _ (by first | omega | assumption | decide | (have h3 : (0 : Int32).toInt = 0 := rfl; omega) | (have h3 : (0 : Int32).toInt = 0 := rfl; have h4 : (1 : Int32).toInt = 1 := rfl; have h5 : (-1 : Int32).toInt = -1 := rfl; omega)) (by rw [(show (x_18 : Int32).toNatClampNeg = (k : Int32).toNatClampNeg + 1 by have h9 := tnc_eq (i := k) (by omega); have h8 := tnc_eq (i := x_18) (by omega); omega)]; rw [ctF_skip (C := inC V cc (na).toInt.toNat ii) (fun q9 => by have h9 := q9.1.2; omega)]; omega) (by rw [(show (x_18 : Int32).toNatClampNeg = (k : Int32).toNatClampNeg + 1 by have h9 := tnc_eq (i := k) (by omega); have h8 := tnc_eq (i := x_18) (by omega); omega)]; intro i hi; rcases Nat.lt_or_eq_of_le (Nat.le_of_lt_succ hi) with q8 | q8; (exact hno i q8); (rw [q8]; exact fun q9 => (fun q9 => by have h9 := q9.1.2; omega) q9.1)) (by omega) (lv_sub hl [0, 2, 3, 4, 5] rfl)

set_option maxHeartbeats 4000000 in
set_option maxRecDepth 100000 in
theorem c_X8_memberOfK (l : Launch) (D : va_G) (xo : Nat) (ro : Nat) (tI : Nat) (cS : Nat) (pN : Nat) (a1 : Nat) (a2 : Nat) (a3 : Nat) (a4 : Nat) (a5 : Nat) (a6 : Nat) (a7 : Nat) (a8 : Nat) (a9 : Nat) (e1 : ClassId) (e2 : ClassId) (e3 : ClassId) (e4 : ClassId) (e5 : ClassId) (e6 : ClassId) (e7 : ClassId) (e8 : ClassId) (e9 : ClassId) (na : Int32) (ns : Int32) (nw : Int32) (cp : Int32) (le : Int32) (tr : Int32) (sl : Int32) (tz : Int32) (cz : Int32) (q1 : Int32) (q2 : Int32) (q3 : Int32) (q4 : Int32) (g1 : Nat → Option Nat) (g2 : Nat → Option Nat) (g3 : Nat → Option Nat) (g4 : Nat → Option Nat) (g5 : Nat → Option Nat) (g6 : Nat → Option Nat) (g7 : Nat → Option Nat) (y8 : Nat → Int32) (y9 : Nat → Int32) (L : List Nat) (K : Nat → Nat × Nat) (f : Nat → va_E) (S : Int) (b : Nat) (ii : Nat) (v : Int32) (V : Nat → Nat → Int) (cc : Nat → Nat) (hI : cqI S L K f) (hna : 0 ≤ (na).toInt ∧ (na).toInt ≤ 200) (j1 : cqJA L K (na).toInt g1) (hb2 : cqIs L K 0 b) (hj9 : jN L K (na).toInt.toNat g1) (hV : cqV f g1 (na).toInt V) (hu9 : aU f g1 (na).toInt.toNat cc) (hi9 : ii < (na).toInt.toNat ∧ g1 ii = some b) (hv0 : 0 ≤ (v).toInt ∧ (v).toInt ≤ 2147483637) : Met l yX8_memberOf wsX8_memberOf ({ frames := 2, cells := 0, slots := 0, locals := 40 }) (va_Pc [.ref xo, .ref b, .int v] (wo D [(e1, .object RX0), (e2, .object RX0), (e3, .object RX6), (e4, .object RX4), (e5, .object RX1), (e6, .object RX1), (e7, .object RX1), (e8, .int), (e9, .int)] ([oC xo 8 [.ref a1, .ref a2, .ref a3, .ref ro, .ref tI, .ref cS, .ref pN, .int na, .int ns, .int nw, .int cp, .int le, .int tr, .int sl], aR a1 e1 200 (g1), aR a2 e2 40 (g2), aR a3 e3 30 (g3), oC tI 7 [.ref a4, .int tz], aR a4 e4 60 (g4), oC cS 2 [.ref a5, .int cz], aR a5 e5 200 (g5), oC pN 5 [.ref a6, .ref a7, .ref a8, .ref a9, .int q1, .int q2, .int q3, .int q4], aR a6 e6 17 (g6), aR a7 e7 12 (g7), aI a8 e8 301 (y8), aI a9 e9 301 (y9)] ++ va_pl L f))) (vp_Si (fun r => (r).toInt = mbF (inC V cc (na).toInt.toNat ii) (v).toInt (na).toInt.toNat)) 0 0 (fun _ => False) := by
  refine Met.ofW (cc := cX8_memberOf) (maxL := 6) (ret := (some .int)) (by decide) rfl ?_
  intro p e s m args below meth c s₁ B hml hv
  obtain ⟨rfl, hP, hK, hD, hN⟩ := hv
  have hx := B.exec
  have hb := B.bytes
  have hr := B.returns
  have hts := atoms_spec (ws := wsX8_memberOf) B.pre
  have hown : s.vm.findClass RX8 = some m.cls := findClass_of_methodNamed B.named
  have hlocks := B.notSynchronized
  have hin_X0 : ∀ w ∈ u_ws RX0 TX0 17, w ∈ wsX8_memberOf := fun w h => List.mem_cons_of_mem _ (List.mem_append_left _ (List.mem_append_right _ (h)))
  have hl := lv_entry ([.ref xo, .ref b, .int v]) (n := 6) (Nat.le_of_ble_eq_true rfl)
  rw [lg_entry_eq]
  generalize (lg_sl ([.ref xo, .ref b, .int v]) ++ List.replicate (6 - (lg_sl ([.ref xo, .ref b, .int v])).length) Slot.unset).toArray = ls at hl ⊢
  have hl : lv_has ls 6 [(0, .ref xo), (1, .ref b), (2, .int v)] := hl
  refine lv_iload_n hx hb dX8_memberOf_0 rfl (lv_at hl 2 rfl) ?_
  refine lv_istore_n (lv' := [(3, .int v), (0, .ref xo), (1, .ref b), (2, .int v)]) hx hb dX8_memberOf_1 rfl hl (by decide) rfl (fun ls hl => ?_)
  refine lv_aload_n hx hb dX8_memberOf_2 rfl (lv_at hl 2 rfl) ?_
  obtain ⟨nu_1, ca_1, so_1, th_1, ma_1, wo_1, lf_1, ld_1, si_1, cp_1, he_1, re_1, sv_1, lt_1, lF_1, sn_1, ab_1, hf_1, hnu_1, hlf_1, hld_1, hsi_1, hcp_1, hsn_1, hab_1⟩ := hI.opA hb2
  have F2hf_1 : cqF (f b) 2 = (so_1).toInt := by rw [hf_1]; rfl
  have F3hf_1 : cqF (f b) 3 = (th_1).toInt := by rw [hf_1]; rfl
  have F4hf_1 : cqF (f b) 4 = (ma_1).toInt := by rw [hf_1]; rfl
  have F8hf_1 : cqF (f b) 8 = (si_1).toInt := by rw [hf_1]; rfl
  have F9hf_1 : cqF (f b) 9 = (cp_1).toInt := by rw [hf_1]; rfl
  have F10hf_1 : cqF (f b) 10 = (he_1).toInt := by rw [hf_1]; rfl
  have F12hf_1 : cqF (f b) 12 = (sv_1).toInt := by rw [hf_1]; rfl
  have F13hf_1 : cqF (f b) 13 = (lt_1).toInt := by rw [hf_1]; rfl
  have F14hf_1 : cqF (f b) 14 = (lF_1).toInt := by rw [hf_1]; rfl
  have F1hf_1 : cqF (f b) 1 = (ca_1).toInt := by rw [hf_1]; rfl
  have F5hf_1 : cqF (f b) 5 = (wo_1).toInt := by rw [hf_1]; rfl
  refine pl_get (D := D) (ci := 0) (v := .int nu_1) (C := RX0) (T := TX0) (N := 17) hx hb hts hin_X0 hown hK hP hb2.1 hf_1 rfl 0 (by decide) (hts (.fieldLink RX8 76 "CryOrder$Alarm" "number" "I") (List.mem_cons_of_mem _ (List.mem_append_left _ (List.mem_append_left _ (List.mem_of_getElem? (i := 0) rfl))))) (fun _ h9 => h9) rfl dX8_memberOf_3 ?_
  refine lv_istore (lv' := [(4, .int nu_1), (3, .int v), (0, .ref xo), (1, .ref b), (2, .int v)]) hx hb dX8_memberOf_6 hl (by decide) rfl (fun ls hl => ?_)
  have hkb := (hj9.key hi9.1 hi9.2).2
  have hin := hi9.1
  have hnb : (nu_1).toInt = ((K b).2 : Int) := hnu_1
  have hzb := tnc_eq (i := nu_1) (by omega)
  have hzi : (nu_1 : Int32).toNatClampNeg = ii := by omega
  have hlow : ∀ i, i < ii → ¬ inC V cc (na).toInt.toNat ii i := fun i hi q9 => by have h9 := hu9.lei hj9 i (by omega); have h8 := q9.2; omega
  refine kl_member hx hb hts hml hown hN hK hP hD ⟨(Nat.le_of_ble_eq_true rfl), (Nat.le_of_ble_eq_true rfl)⟩ ⟨(Nat.le_of_ble_eq_true rfl), (Nat.le_of_ble_eq_true rfl)⟩ hI (by first | omega | assumption | decide | (have h3 : (0 : Int32).toInt = 0 := rfl; omega) | (have h3 : (0 : Int32).toInt = 0 := rfl; have h4 : (1 : Int32).toInt = 1 := rfl; have h5 : (-1 : Int32).toInt = -1 := rfl; omega)) j1 (by first | omega | assumption | decide | (have h3 : (0 : Int32).toInt = 0 := rfl; omega) | (have h3 : (0 : Int32).toInt = 0 := rfl; have h4 : (1 : Int32).toInt = 1 := rfl; have h5 : (-1 : Int32).toInt = -1 := rfl; omega)) (by first | omega | assumption | decide | (have h3 : (0 : Int32).toInt = 0 := rfl; omega) | (have h3 : (0 : Int32).toInt = 0 := rfl; have h4 : (1 : Int32).toInt = 1 := rfl; have h5 : (-1 : Int32).toInt = -1 := rfl; omega)) (by first | omega | assumption | decide | (have h3 : (0 : Int32).toInt = 0 := rfl; omega) | (have h3 : (0 : Int32).toInt = 0 := rfl; have h4 : (1 : Int32).toInt = 1 := rfl; have h5 : (-1 : Int32).toInt = -1 := rfl; omega)) (by first | omega | assumption | decide | (have h3 : (0 : Int32).toInt = 0 := rfl; omega) | (have h3 : (0 : Int32).toInt = 0 := rfl; have h4 : (1 : Int32).toInt = 1 := rfl; have h5 : (-1 : Int32).toInt = -1 := rfl; omega)) (by first | omega | assumption | decide | (have h3 : (0 : Int32).toInt = 0 := rfl; omega) | (have h3 : (0 : Int32).toInt = 0 := rfl; have h4 : (1 : Int32).toInt = 1 := rfl; have h5 : (-1 : Int32).toInt = -1 := rfl; omega)) (fun k_2 u_3 ea_4 ls h_6 h_7 h_8 hl => ?_) (fun k_9 u_10 ls h_12 hl => ?_) _ nu_1 v _ (by omega) (by rw [hzi, ctF_none ii hlow]; omega) (by rw [hzi]; exact fun i hi q9 => hlow i hi q9.1) (Nat.lt_succ_self _) (lv_sub hl [0, 1, 2, 3, 4] rfl)
  · have h_6 : cqIs L K 0 ea_4 := h_6
    have h_7 : g1 (k_2 : Int32).toNatClampNeg = some ea_4 ∧ mbF (inC V cc (na).toInt.toNat ii) (v).toInt (na).toInt.toNat = ((k_2 : Int32).toNatClampNeg : Int) := h_7
    have h_8 : 0 ≤ (k_2).toInt ∧ (k_2).toInt < (na).toInt := h_8
    refine lv_aload hx hb dX8_memberOf_47 (lv_at hl 0 rfl) ?_
    obtain ⟨nu_13, ca_13, so_13, th_13, ma_13, wo_13, lf_13, ld_13, si_13, cp_13, he_13, re_13, sv_13, lt_13, lF_13, sn_13, ab_13, hf_13, hnu_13, hlf_13, hld_13, hsi_13, hcp_13, hsn_13, hab_13⟩ := hI.opA h_6
    have F2hf_13 : cqF (f ea_4) 2 = (so_13).toInt := by rw [hf_13]; rfl
    have F3hf_13 : cqF (f ea_4) 3 = (th_13).toInt := by rw [hf_13]; rfl
    have F4hf_13 : cqF (f ea_4) 4 = (ma_13).toInt := by rw [hf_13]; rfl
    have F8hf_13 : cqF (f ea_4) 8 = (si_13).toInt := by rw [hf_13]; rfl
    have F9hf_13 : cqF (f ea_4) 9 = (cp_13).toInt := by rw [hf_13]; rfl
    have F10hf_13 : cqF (f ea_4) 10 = (he_13).toInt := by rw [hf_13]; rfl
    have F12hf_13 : cqF (f ea_4) 12 = (sv_13).toInt := by rw [hf_13]; rfl
    have F13hf_13 : cqF (f ea_4) 13 = (lt_13).toInt := by rw [hf_13]; rfl
    have F14hf_13 : cqF (f ea_4) 14 = (lF_13).toInt := by rw [hf_13]; rfl
    have F1hf_13 : cqF (f ea_4) 1 = (ca_13).toInt := by rw [hf_13]; rfl
    have F5hf_13 : cqF (f ea_4) 5 = (wo_13).toInt := by rw [hf_13]; rfl
    refine pl_get (D := D) (ci := 0) (v := .int nu_13) (C := RX0) (T := TX0) (N := 17) hx hb hts hin_X0 hown hK hP h_6.1 hf_13 rfl 0 (by decide) (hts (.fieldLink RX8 76 "CryOrder$Alarm" "number" "I") (List.mem_cons_of_mem _ (List.mem_append_left _ (List.mem_append_left _ (List.mem_of_getElem? (i := 0) rfl))))) (fun _ h9 => h9) rfl dX8_memberOf_49 ?_
    exact W.iret (v := nu_13) hx hb hr (fun t ht hW => ⟨nu_13, rfl, (by have h9 := tnc_eq (i := k_2) (by omega); have h8 := (hj9.key (by omega) h_7.1).2; have h7 : (nu_13).toInt = ((K ea_4).2 : Int) := hnu_13; rw [h_7.2]; omega), ht⟩) (fun q h => by cases h) dX8_memberOf_52
  · have h_12 : mbF (inC V cc (na).toInt.toNat ii) (v).toInt (na).toInt.toNat = -1 := h_12
    refine lv_iconst (v := (-1)) hx hb dX8_memberOf_62 (by decide) ?_
    exact W.iret (v := (-1)) hx hb hr (fun t ht hW => ⟨(-1), rfl, (by rw [h_12]; rfl), ht⟩) (fun q h => by cases h) dX8_memberOf_63
