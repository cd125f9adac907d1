set_option maxHeartbeats 4000000 in
set_option maxRecDepth 100000 in
theorem cl_member {p : Program} {l : Launch} {e : Env} {R : Room} {s : State} {m : MethodId} {args : Array Value} {below : List Frame} {meth : Method} {c : Code} {Q : State → Prop} {A : Nat → Prop} {cells slots : Nat} {D : va_G} {H : Heap} {locs : List Loc} {xo : Nat} {ro : Nat} {tI : Nat} {cS : Nat} {pN : Nat} {a1 : Nat} {a2 : Nat} {a3 : Nat} {a4 : Nat} {a5 : Nat} {a6 : Nat} {a7 : Nat} {a8 : Nat} {a9 : Nat} {e1 : ClassId} {e2 : ClassId} {e3 : ClassId} {e4 : ClassId} {e5 : ClassId} {e6 : ClassId} {e7 : ClassId} {e8 : ClassId} {e9 : ClassId} {na : Int32} {ns : Int32} {nw : Int32} {cp : Int32} {le : Int32} {tr : Int32} {sl : Int32} {tz : Int32} {cz : Int32} {q1 : Int32} {q2 : Int32} {q3 : Int32} {q4 : Int32} {g1 : Nat → Option Nat} {g2 : Nat → Option Nat} {g3 : Nat → Option Nat} {g4 : Nat → Option Nat} {g5 : Nat → Option Nat} {g6 : Nat → Option Nat} {g7 : Nat → Option Nat} {y8 : Nat → Int32} {y9 : Nat → Int32} {L : List Nat} {K : Nat → Nat × Nat} {f : Nat → va_E} {S : Int} {b : Nat} {v : Int32} (hx : p.tables.exec = Jvm.exec) (hb : c.code = cX8_memberOf) (hts : ∀ w ∈ wsX8_memberOf, w.before args s = true) (hml : c.maxLocals = 6) (hown : s.vm.findClass RX8 = some m.cls) (hN : Nq s) (hK : va_K D vwCl [(e1, .object RX0), (e2, .object RX0), (e3, .object RX6), (e4, .object RX4), (e5, .object RX1), (e6, .object RX1), (e7, .object RX1), (e8, .int), (e9, .int)] s) (hP : va_P D vwCl ([oC xo 8 [.ref a1, .ref a2, .ref a3, .ref ro, .ref tI, .ref cS, .ref pN, .int na, .int ns, .int nw, .int cp, .int le, .int tr, .int sl], aR a1 e1 200 (g1), aR a2 e2 40 (g2), aR a3 e3 30 (g3), oC tI 7 [.ref a4, .int tz], aR a4 e4 60 (g4), oC cS 2 [.ref a5, .int cz], aR a5 e5 200 (g5), oC pN 5 [.ref a6, .ref a7, .ref a8, .ref a9, .int q1, .int q2, .int q3, .int q4], aR a6 e6 17 (g6), aR a7 e7 12 (g7), aI a8 e8 301 (y8), aI a9 e9 301 (y9)] ++ va_pl L f) H) (hD : va_D A ([oC xo 8 [.ref a1, .ref a2, .ref a3, .ref ro, .ref tI, .ref cS, .ref pN, .int na, .int ns, .int nw, .int cp, .int le, .int tr, .int sl], aR a1 e1 200 (g1), aR a2 e2 40 (g2), aR a3 e3 30 (g3), oC tI 7 [.ref a4, .int tz], aR a4 e4 60 (g4), oC cS 2 [.ref a5, .int cz], aR a5 e5 200 (g5), oC pN 5 [.ref a6, .ref a7, .ref a8, .ref a9, .int q1, .int q2, .int q3, .int q4], aR a6 e6 17 (g6), aR a7 e7 12 (g7), aI a8 e8 301 (y8), aI a9 e9 301 (y9)] ++ va_pl L f)) (hR : 2 ≤ R.frames ∧ 40 ≤ R.locals) (hcs : cells ≤ R.cells ∧ slots ≤ R.slots) (hI : cqI S L K f) (hna : 0 ≤ (na).toInt ∧ (na).toInt ≤ 200) (j1 : cqJA L K (na).toInt g1) (done_47 : ∀ (k : Int32) (u : Int32) (ea : Nat) (ls : Array Slot), (cqIs L K 0 ea) → lv_has ls 6 [(5, .ref ea), (4, .int k), (3, .int u), (0, .ref xo), (1, .ref b), (2, .int v)] → W p l e R s m args below meth c H locs cells slots Q (F0 m 47 ls [])) (done_62 : ∀ (k : Int32) (u : Int32) (ls : Array Slot), lv_has ls 6 [(4, .int k), (3, .int u), (0, .ref xo), (1, .ref b), (2, .int v)] → W p l e R s m args below meth c H locs cells slots Q (F0 m 62 ls [])) : ∀ (n : Nat), ∀ (k : Int32) (u : Int32) (ls : Array Slot), (0 ≤ (k).toInt) → ((200 - (k).toInt).toNat < n) → lv_has ls 6 [(4, .int k), (3, .int u), (0, .ref xo), (1, .ref b), (2, .int v)] → W p l e R s m args below meth c H locs cells slots Q (F0 m 8 ls []) := by
  have hin_X8 : ∀ w ∈ u_ws RX8 TX8 14, w ∈ wsX8_memberOf := by decide +kernel
  intro n
  induction n with
  | zero => intro k u ls hk hmu hl; exact absurd hmu (Nat.not_lt_zero _)
  | succ n ih =>
    intro k u ls hk hmu hl
    refine lv_iload hx hb dX8_memberOf_8 (lv_at hl 0 rfl) ?_
    refine lv_aload_n hx hb dX8_memberOf_10 rfl (lv_at hl 2 rfl) ?_
    refine va_get (D := D) (ci := 8) (v := .int na) (C := RX8) (T := TX8) (N := 14) hx hb hts hin_X8 hown hK hP 0 rfl rfl 7 (by decide) (hts (.fieldLink RX8 79 "CryOrder" "alarmCount" "I") (by decide +kernel)) (fun _ h9 => h9) rfl dX8_memberOf_11 ?_
    refine bi_ge (zx := (k).toInt) (zy := (na).toInt) (tgt := 62) hx hb dX8_memberOf_14 (by decide) rfl rfl (fun c_1 => ?_) (fun c_1 => ?_)
    · exact done_62 k u _  (lv_sub hl [0, 1, 2, 3, 4] rfl)
    · refine lv_aload_n hx hb dX8_memberOf_17 rfl (lv_at hl 2 rfl) ?_
      refine va_get (D := D) (ci := 8) (v := .ref a1) (C := RX8) (T := TX8) (N := 14) hx hb hts hin_X8 hown hK hP 0 rfl rfl 0 (by decide) (hts (.fieldLink RX8 11 "CryOrder" "alarms" "[LCryOrder$Alarm;") (by decide +kernel)) (fun _ h9 => h9) rfl dX8_memberOf_18 ?_
      refine lv_iload hx hb dX8_memberOf_21 (lv_at hl 0 rfl) ?_
      refine va_aldq hx hb hK hP 1 0 rfl rfl (vp_in_iff.mpr (by omega)) dX8_memberOf_23 ?_
      obtain ⟨b_2, eb_2, ib_2, kb_2⟩ := cqJA.get (i := (k : Int32)) j1 (by first | omega | decide) (by first | omega | decide)
      refine lv_topv (z := .ref b_2) (congrArg va_rf eb_2) ?_
      refine lv_astore (lv' := [(5, .ref b_2), (4, .int k), (3, .int u), (0, .ref xo), (1, .ref b), (2, .int v)]) hx hb dX8_memberOf_24 hl (by decide) rfl (fun ls hl => ?_)
      refine lv_aload hx hb dX8_memberOf_26 (lv_at hl 0 rfl) ?_
      refine vp_callSi (wrV (As := []) (rest := []) ⟨hx, hb, hml, hown, hts⟩ hN hK hP hD (c_X0_isLiveR l D [oC xo 8 [.ref a1, .ref a2, .ref a3, .ref ro, .ref tI, .ref cS, .ref pN, .int na, .int ns, .int nw, .int cp, .int le, .int tr, .int sl], aR a1 e1 200 (g1), aR a2 e2 40 (g2), aR a3 e3 30 (g3), oC tI 7 [.ref a4, .int tz], aR a4 e4 60 (g4), oC cS 2 [.ref a5, .int cz], aR a5 e5 200 (g5), oC pN 5 [.ref a6, .ref a7, .ref a8, .ref a9, .int q1, .int q2, .int q3, .int q4], aR a6 e6 17 (g6), aR a7 e7 12 (g7), aI a8 e8 301 (y8), aI a9 e9 301 (y9)] L K f S [(e1, .object RX0), (e2, .object RX0), (e3, .object RX6), (e4, .object RX4), (e5, .object RX1), (e6, .object RX1), (e7, .object RX1), (e8, .int), (e9, .int)] b_2 hI ib_2) (cwV 0 hts gX8_memberOf_X0_isLive rfl rfl rfl (by decide +kernel) ⟨Nat.le_trans (m := 2) (Nat.le_of_ble_eq_true rfl) hR.1, Nat.le_trans (m := 40) (Nat.le_of_ble_eq_true rfl) hR.2⟩) 0 rfl (cq_rcA (X := [oC xo 8 [.ref a1, .ref a2, .ref a3, .ref ro, .ref tI, .ref cS, .ref pN, .int na, .int ns, .int nw, .int cp, .int le, .int tr, .int sl], aR a1 e1 200 (g1), aR a2 e2 40 (g2), aR a3 e3 30 (g3), oC tI 7 [.ref a4, .int tz], aR a4 e4 60 (g4), oC cS 2 [.ref a5, .int cz], aR a5 e5 200 (g5), oC pN 5 [.ref a6, .ref a7, .ref a8, .ref a9, .int q1, .int q2, .int q3, .int q4], aR a6 e6 17 (g6), aR a7 e7 12 (g7), aI a8 e8 301 (y8), aI a9 e9 301 (y9)]) hI ib_2) rfl hl.1 rfl (Nat.le_of_ble_eq_true rfl) dX8_memberOf_28 ⟨hcs.1, hcs.2⟩) (fun r_3 h_4 => ?_)
      rcases h_4 with ⟨h_4, rfl⟩ | ⟨h_4, rfl⟩
      · have h_4 : cqF (f b_2) 12 = 0 ∧ cqF (f b_2) 8 = 0 ∧ cqF (f b_2) 9 = 0 := h_4
        refine lv_if_eq (tgt := 56) hx hb dX8_memberOf_31 (by decide) (fun c_ => absurd c_ (by decide)) (fun _ => ?_)
        refine lv_aload hx hb dX8_memberOf_34 (lv_at hl 0 rfl) ?_
        refine va_csq (wrV (As := []) (rest := []) ⟨hx, hb, hml, hown, hts⟩ hN hK hP hD (c_X0_head l D [oC xo 8 [.ref a1, .ref a2, .ref a3, .ref ro, .ref tI, .ref cS, .ref pN, .int na, .int ns, .int nw, .int cp, .int le, .int tr, .int sl], aR a1 e1 200 (g1), aR a2 e2 40 (g2), aR a3 e3 30 (g3), oC tI 7 [.ref a4, .int tz], aR a4 e4 60 (g4), oC cS 2 [.ref a5, .int cz], aR a5 e5 200 (g5), oC pN 5 [.ref a6, .ref a7, .ref a8, .ref a9, .int q1, .int q2, .int q3, .int q4], aR a6 e6 17 (g6), aR a7 e7 12 (g7), aI a8 e8 301 (y8), aI a9 e9 301 (y9)] L K f S [(e1, .object RX0), (e2, .object RX0), (e3, .object RX6), (e4, .object RX4), (e5, .object RX1), (e6, .object RX1), (e7, .object RX1), (e8, .int), (e9, .int)] b_2 hI ib_2) (cwV 0 hts gX8_memberOf_X0_head rfl rfl rfl (by decide +kernel) ⟨Nat.le_trans (m := 2) (Nat.le_of_ble_eq_true rfl) hR.1, Nat.le_trans (m := 40) (Nat.le_of_ble_eq_true rfl) hR.2⟩) 0 rfl (cq_rcA (X := [oC xo 8 [.ref a1, .ref a2, .ref a3, .ref ro, .ref tI, .ref cS, .ref pN, .int na, .int ns, .int nw, .int cp, .int le, .int tr, .int sl], aR a1 e1 200 (g1), aR a2 e2 40 (g2), aR a3 e3 30 (g3), oC tI 7 [.ref a4, .int tz], aR a4 e4 60 (g4), oC cS 2 [.ref a5, .int cz], aR a5 e5 200 (g5), oC pN 5 [.ref a6, .ref a7, .ref a8, .ref a9, .int q1, .int q2, .int q3, .int q4], aR a6 e6 17 (g6), aR a7 e7 12 (g7), aI a8 e8 301 (y8), aI a9 e9 301 (y9)]) hI ib_2) rfl hl.1 rfl (Nat.le_of_ble_eq_true rfl) dX8_memberOf_36 ⟨hcs.1, hcs.2⟩) (fun r_5 h_6 => ?_)
        obtain ⟨b_7, rfl, is_8⟩ := h_6
        refine lv_topv (z := .ref b_7) rfl ?_
        refine lv_aload_n hx hb dX8_memberOf_39 rfl (lv_at hl 4 rfl) ?_
        refine lv_acmp_ne (rx := (some b_7)) (ry := (some b)) (tgt := 56) hx hb dX8_memberOf_40 (by decide) (fun c_9 => ?_) (fun c_9 => ?_)
        · obtain ⟨x_10, ex_10⟩ : ∃ z : Int32, z = k + 1 := ⟨_, rfl⟩
          have tx_10 := ad_toInt (x := k) (y := 1) (z := x_10) (zx := (k).toInt) (zy := 1) ex_10 rfl (by decide)
          refine lv_iinc (v := x_10) (lv' := [(4, .int x_10), (5, .ref b_2), (3, .int u), (0, .ref xo), (1, .ref b), (2, .int v)]) hx hb dX8_memberOf_56 hl (k := 1) rfl (by rw [ex_10]; rfl) (by decide) rfl (fun ls hl => ?_)
          refine lv_goto (tgt := 8) hx hb dX8_memberOf_59 (by decide) ?_
          exact ih x_10 u _ (by first | omega | assumption | decide | (have h3 : (0 : Int32).toInt = 0 := rfl; omega) | (have h3 : (0 : Int32).toInt = 0 := rfl; have h4 : (1 : Int32).toInt = 1 := rfl; have h5 : (-1 : Int32).toInt = -1 := rfl; omega)) (by omega) (lv_sub hl [0, 2, 3, 4, 5] rfl)
        · refine lv_iload_n hx hb dX8_memberOf_43 rfl (lv_at hl 2 rfl) ?_
          refine bz_ne (zx := (u).toInt) (tgt := 53) hx hb dX8_memberOf_44 (by decide) rfl (fun c_11 => ?_) (fun c_11 => ?_)
          · obtain ⟨x_12, ex_12⟩ : ∃ z : Int32, z = u + (-1) := ⟨_, rfl⟩
            have tx_12 := ad_toInt (x := u) (y := (-1)) (z := x_12) (zx := (u).toInt) (zy := (-1)) ex_12 rfl (by decide)
            refine lv_iinc (v := x_12) (lv' := [(3, .int x_12), (5, .ref b_2), (4, .int k), (0, .ref xo), (1, .ref b), (2, .int v)]) hx hb dX8_memberOf_53 hl (k := 2) rfl (by rw [ex_12]; rfl) (by decide) rfl (fun ls hl => ?_)
            obtain ⟨x_13, ex_13⟩ : ∃ z : Int32, z = k + 1 := ⟨_, rfl⟩
            have tx_13 := ad_toInt (x := k) (y := 1) (z := x_13) (zx := (k).toInt) (zy := 1) ex_13 rfl (by decide)
            refine lv_iinc (v := x_13) (lv' := [(4, .int x_13), (3, .int x_12), (5, .ref b_2), (0, .ref xo), (1, .ref b), (2, .int v)]) hx hb dX8_memberOf_56 hl (k := 2) rfl (by rw [ex_13]; rfl) (by decide) rfl (fun ls hl => ?_)
            refine lv_goto (tgt := 8) hx hb dX8_memberOf_59 (by decide) ?_
            exact ih x_13 x_12 _ (by first | omega | assumption | decide | (have h3 : (0 : Int32).toInt = 0 := rfl; omega) | (have h3 : (0 : Int32).toInt = 0 := rfl; have h4 : (1 : Int32).toInt = 1 := rfl; have h5 : (-1 : Int32).toInt = -1 := rfl; omega)) (by omega) (lv_sub hl [0, 1, 3, 4, 5] rfl)
          · exact done_47 k u b_2 _ ib_2 (lv_sub hl [0, 1, 2, 3, 4, 5] rfl)
      · have h_4 : ¬ (cqF (f b_2) 12 = 0 ∧ cqF (f b_2) 8 = 0 ∧ cqF (f b_2) 9 = 0) := h_4
        refine lv_if_eq (tgt := 56) hx hb dX8_memberOf_31 (by decide) (fun _ => ?_) (fun c_ => absurd c_ (by decide))
        obtain ⟨x_14, ex_14⟩ : ∃ z : Int32, z = k + 1 := ⟨_, rfl⟩
        have tx_14 := ad_toInt (x := k) (y := 1) (z := x_14) (zx := (k).toInt) (zy := 1) ex_14 rfl (by decide)
        refine lv_iinc (v := x_14) (lv' := [(4, .int x_14), (5, .ref b_2), (3, .int u), (0, .ref xo), (1, .ref b), (2, .int v)]) hx hb dX8_memberOf_56 hl (k := 1) rfl (by rw [ex_14]; rfl) (by decide) rfl (fun ls hl => ?_)
        refine lv_goto (tgt := 8) hx hb dX8_memberOf_59 (by decide) ?_
        exact ih x_14 u _ (by first | omega | assumption | decide | (have h3 : (0 : Int32).toInt = 0 := rfl; omega) | (have h3 : (0 : Int32).toInt = 0 := rfl; have h4 : (1 : Int32).toInt = 1 := rfl; have h5 : (-1 : Int32).toInt = -1 := rfl; omega)) (by omega) (lv_sub hl [0, 2, 3, 4, 5] rfl)

set_option maxHeartbeats 4000000 in
set_option maxRecDepth 100000 in
theorem c_X8_memberOf (l : Launch) (D : va_G) (xo : Nat) (ro : Nat) (tI : Nat) (cS : Nat) (pN : Nat) (a1 : Nat) (a2 : Nat) (a3 : Nat) (a4 : Nat) (a5 : Nat) (a6 : Nat) (a7 : Nat) (a8 : Nat) (a9 : Nat) (e1 : ClassId) (e2 : ClassId) (e3 : ClassId) (e4 : ClassId) (e5 : ClassId) (e6 : ClassId) (e7 : ClassId) (e8 : ClassId) (e9 : ClassId) (na : Int32) (ns : Int32) (nw : Int32) (cp : Int32) (le : Int32) (tr : Int32) (sl : Int32) (tz : Int32) (cz : Int32) (q1 : Int32) (q2 : Int32) (q3 : Int32) (q4 : Int32) (g1 : Nat → Option Nat) (g2 : Nat → Option Nat) (g3 : Nat → Option Nat) (g4 : Nat → Option Nat) (g5 : Nat → Option Nat) (g6 : Nat → Option Nat) (g7 : Nat → Option Nat) (y8 : Nat → Int32) (y9 : Nat → Int32) (L : List Nat) (K : Nat → Nat × Nat) (f : Nat → va_E) (S : Int) (b : Nat) (v : Int32) (hI : cqI S L K f) (hna : 0 ≤ (na).toInt ∧ (na).toInt ≤ 200) (j1 : cqJA L K (na).toInt g1) (hb2 : cqIs L K 0 b) : Met l yX8_memberOf wsX8_memberOf ({ frames := 2, cells := 0, slots := 0, locals := 40 }) (va_Pc [.ref xo, .ref b, .int v] (wo D [(e1, .object RX0), (e2, .object RX0), (e3, .object RX6), (e4, .object RX4), (e5, .object RX1), (e6, .object RX1), (e7, .object RX1), (e8, .int), (e9, .int)] ([oC xo 8 [.ref a1, .ref a2, .ref a3, .ref ro, .ref tI, .ref cS, .ref pN, .int na, .int ns, .int nw, .int cp, .int le, .int tr, .int sl], aR a1 e1 200 (g1), aR a2 e2 40 (g2), aR a3 e3 30 (g3), oC tI 7 [.ref a4, .int tz], aR a4 e4 60 (g4), oC cS 2 [.ref a5, .int cz], aR a5 e5 200 (g5), oC pN 5 [.ref a6, .ref a7, .ref a8, .ref a9, .int q1, .int q2, .int q3, .int q4], aR a6 e6 17 (g6), aR a7 e7 12 (g7), aI a8 e8 301 (y8), aI a9 e9 301 (y9)] ++ va_pl L f))) (vp_Si (fun r => True)) 0 0 (fun _ => False) := by
  refine Met.ofW (cc := cX8_memberOf) (maxL := 6) (ret := (some .int)) (by decide) rfl ?_
  intro p e s m args below meth c s₁ B hml hv
  obtain ⟨rfl, hP, hK, hD, hN⟩ := hv
  have hx := B.exec
  have hb := B.bytes
  have hr := B.returns
  have hts := atoms_spec (ws := wsX8_memberOf) B.pre
  have hown : s.vm.findClass RX8 = some m.cls := findClass_of_methodNamed B.named
  have hlocks := B.notSynchronized
  have hin_X0 : ∀ w ∈ u_ws RX0 TX0 17, w ∈ wsX8_memberOf := by decide +kernel
  have hl := lv_entry ([.ref xo, .ref b, .int v]) (n := 6) (Nat.le_of_ble_eq_true rfl)
  rw [lg_entry_eq]
  generalize (lg_sl ([.ref xo, .ref b, .int v]) ++ List.replicate (6 - (lg_sl ([.ref xo, .ref b, .int v])).length) Slot.unset).toArray = ls at hl ⊢
  have hl : lv_has ls 6 [(0, .ref xo), (1, .ref b), (2, .int v)] := hl
  refine lv_iload_n hx hb dX8_memberOf_0 rfl (lv_at hl 2 rfl) ?_
  refine lv_istore_n (lv' := [(3, .int v), (0, .ref xo), (1, .ref b), (2, .int v)]) hx hb dX8_memberOf_1 rfl hl (by decide) rfl (fun ls hl => ?_)
  refine lv_aload_n hx hb dX8_memberOf_2 rfl (lv_at hl 2 rfl) ?_
  obtain ⟨nu_1, ca_1, so_1, th_1, ma_1, wo_1, lf_1, ld_1, si_1, cp_1, he_1, re_1, sv_1, lt_1, lF_1, sn_1, ab_1, hf_1, hnu_1, hlf_1, hld_1, hsi_1, hcp_1, hsn_1, hab_1⟩ := hI.opA hb2
  refine pl_get (D := D) (ci := 0) (v := .int nu_1) (C := RX0) (T := TX0) (N := 17) hx hb hts hin_X0 hown hK hP hb2.1 hf_1 rfl 0 (by decide) (hts (.fieldLink RX8 76 "CryOrder$Alarm" "number" "I") (by decide +kernel)) (fun _ h9 => h9) rfl dX8_memberOf_3 ?_
  refine lv_istore (lv' := [(4, .int nu_1), (3, .int v), (0, .ref xo), (1, .ref b), (2, .int v)]) hx hb dX8_memberOf_6 hl (by decide) rfl (fun ls hl => ?_)
  refine cl_member hx hb hts hml hown hN hK hP hD ⟨(Nat.le_of_ble_eq_true rfl), (Nat.le_of_ble_eq_true rfl)⟩ ⟨(Nat.le_of_ble_eq_true rfl), (Nat.le_of_ble_eq_true rfl)⟩ hI (by first | omega | assumption | decide | (have h3 : (0 : Int32).toInt = 0 := rfl; omega) | (have h3 : (0 : Int32).toInt = 0 := rfl; have h4 : (1 : Int32).toInt = 1 := rfl; have h5 : (-1 : Int32).toInt = -1 := rfl; omega)) j1 (fun k_2 u_3 ea_4 ls h_6 hl => ?_) (fun k_7 u_8 ls  hl => ?_) _ nu_1 v _ (by first | omega | assumption | decide | (have h3 : (0 : Int32).toInt = 0 := rfl; omega) | (have h3 : (0 : Int32).toInt = 0 := rfl; have h4 : (1 : Int32).toInt = 1 := rfl; have h5 : (-1 : Int32).toInt = -1 := rfl; omega)) (Nat.lt_succ_self _) (lv_sub hl [0, 1, 2, 3, 4] rfl)
  · have h_6 : cqIs L K 0 ea_4 := h_6
    refine lv_aload hx hb dX8_memberOf_47 (lv_at hl 0 rfl) ?_
    obtain ⟨nu_10, ca_10, so_10, th_10, ma_10, wo_10, lf_10, ld_10, si_10, cp_10, he_10, re_10, sv_10, lt_10, lF_10, sn_10, ab_10, hf_10, hnu_10, hlf_10, hld_10, hsi_10, hcp_10, hsn_10, hab_10⟩ := hI.opA h_6
    refine pl_get (D := D) (ci := 0) (v := .int nu_10) (C := RX0) (T := TX0) (N := 17) hx hb hts hin_X0 hown hK hP h_6.1 hf_10 rfl 0 (by decide) (hts (.fieldLink RX8 76 "CryOrder$Alarm" "number" "I") (by decide +kernel)) (fun _ h9 => h9) rfl dX8_memberOf_49 ?_
    exact W.iret (v := nu_10) hx hb hr (fun t ht hW => ⟨nu_10, rfl, trivial, ht⟩) (fun q h => by cases h) dX8_memberOf_52
  · skip
    refine lv_iconst (v := (-1)) hx hb dX8_memberOf_62 (by decide) ?_
    exact W.iret (v := (-1)) hx hb hr (fun t ht hW => ⟨(-1), rfl, trivial, ht⟩) (fun q h => by cases h) dX8_memberOf_63
