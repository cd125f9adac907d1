set_option maxHeartbeats 4000000 in
set_option maxRecDepth 100000 in
theorem c_X2_at (l : Launch) (D : va_G) (xo : Nat) (ro : Nat) (tI : Nat) (cS : Nat) (pN : Nat) (a1 : Nat) (a2 : Nat) (a3 : Nat) (a4 : Nat) (a5 : Nat) (a6 : Nat) (a7 : Nat) (a8 : Nat) (a9 : Nat) (e1 : ClassId) (e2 : ClassId) (e3 : ClassId) (e4 : ClassId) (e5 : ClassId) (e6 : ClassId) (e7 : ClassId) (e8 : ClassId) (e9 : ClassId) (na : Int32) (ns : Int32) (nw : Int32) (cp : Int32) (le : Int32) (tr : Int32) (sl : Int32) (tz : Int32) (cz : Int32) (q1 : Int32) (q2 : Int32) (q3 : Int32) (q4 : Int32) (g1 : Nat → Option Nat) (g2 : Nat → Option Nat) (g3 : Nat → Option Nat) (g4 : Nat → Option Nat) (g5 : Nat → Option Nat) (g6 : Nat → Option Nat) (g7 : Nat → Option Nat) (y8 : Nat → Int32) (y9 : Nat → Int32) (L : List Nat) (K : Nat → Nat × Nat) (f : Nat → va_E) (S : Int) (v : Int32) (hI : cqI S L K f) (hcz : 0 ≤ (cz).toInt ∧ (cz).toInt ≤ 200) (j5 : cqJ L K 1 (cz).toInt g5) : Met l yX2_at wsX2_at ({ frames := 1, cells := 0, slots := 0, locals := 21 }) (va_Pc [.ref cS, .int v] (wo D [(e1, .object RX0), (e2, .object RX0), (e3, .object RX6), (e4, .object RX4), (e5, .object RX1), (e6, .object RX1), (e7, .object RX1), (e8, .int), (e9, .int)] ([oC xo 8 [.ref a1, .ref a2, .ref a3, .ref ro, .ref tI, .ref cS, .ref pN, .int na, .int ns, .int nw, .int cp, .int le, .int tr, .int sl], aR a1 e1 200 (g1), aR a2 e2 40 (g2), aR a3 e3 30 (g3), oC tI 7 [.ref a4, .int tz], aR a4 e4 60 (g4), oC cS 2 [.ref a5, .int cz], aR a5 e5 200 (g5), oC pN 5 [.ref a6, .ref a7, .ref a8, .ref a9, .int q1, .int q2, .int q3, .int q4], aR a6 e6 17 (g6), aR a7 e7 12 (g7), aI a8 e8 301 (y8), aI a9 e9 301 (y9)] ++ va_pl L f))) (va_Sq (fun r => cqOp L K 1 r)) 0 0 (fun _ => False) := by
  refine Met.ofW (cc := cX2_at) (maxL := 2) (ret := (some (.object "CryOrder$Case"))) (by decide) rfl ?_
  intro p e s m args below meth c s₁ B hml hv
  obtain ⟨rfl, hP, hK, hD, hN⟩ := hv
  have hx := B.exec
  have hb := B.bytes
  have hr := B.returns
  have hts := atoms_spec (ws := wsX2_at) B.pre
  have hown : s.vm.findClass RX2 = some m.cls := findClass_of_methodNamed B.named
  have hlocks := B.notSynchronized
  have hin_X2 : ∀ w ∈ u_ws RX2 TX2 2, w ∈ wsX2_at := fun w h => List.mem_cons_of_mem _ (List.mem_append_right _ (h))
  have hl := lv_entry ([.ref cS, .int v]) (n := 2) (Nat.le_of_ble_eq_true rfl)
  rw [lg_entry_eq]
  generalize (lg_sl ([.ref cS, .int v]) ++ List.replicate (2 - (lg_sl ([.ref cS, .int v])).length) Slot.unset).toArray = ls at hl ⊢
  have hl : lv_has ls 2 [(0, .ref cS), (1, .int v)] := hl
  refine lv_iload_n hx hb dX2_at_0 rfl (lv_at hl 1 rfl) ?_
  refine lv_aload_n hx hb dX2_at_1 rfl (lv_at hl 0 rfl) ?_
  refine va_get (D := D) (ci := 2) (v := .int cz) (C := RX2) (T := TX2) (N := 2) hx hb hts hin_X2 hown hK hP 6 rfl rfl 1 (by decide) (hts (.fieldLink RX2 50 "CryOrder$Cases" "size" "I") (List.mem_cons_of_mem _ (List.mem_append_left _ (List.mem_of_getElem? (i := 0) rfl)))) (fun _ h9 => h9) rfl dX2_at_2 ?_
  refine vp_callSi (zrN (As := [.int v, .int cz]) (rest := []) (wc := []) ⟨hx, hb, hml, hown, hts⟩ hN hK hP hD (c_X8_isBelow l D v cz ) ⟨va_cnB 2 hts gX2_at_X8_isBelow_n54 rfl rfl rfl hN.2.2.1 (hts (.initialized RX8) (List.mem_cons_of_mem _ (List.mem_append_left _ (List.mem_of_getElem? (i := 3) rfl)))) (by decide +kernel) ⟨(Nat.le_of_ble_eq_true rfl), (Nat.le_of_ble_eq_true rfl)⟩, (hts (.static yX8_isBelow) (List.mem_cons_of_mem _ (List.mem_append_left _ (List.mem_of_getElem? (i := 2) rfl)))), trivial⟩ [] [] rfl rfl (by decide) rfl hl.1 rfl (Nat.le_of_ble_eq_true rfl) dX2_at_5 ⟨(Nat.le_of_ble_eq_true rfl), (Nat.le_of_ble_eq_true rfl)⟩) (fun r_1 h_2 => ?_)
  rcases h_2 with ⟨h_2, rfl⟩ | ⟨h_2, rfl⟩
  · have h_2 : 0 ≤ (v).toInt ∧ (v).toInt < (cz).toInt := h_2
    refine lv_if_eq (tgt := 20) hx hb dX2_at_8 (by decide) (fun c_ => absurd c_ (by decide)) (fun _ => ?_)
    refine lv_aload_n hx hb dX2_at_11 rfl (lv_at hl 0 rfl) ?_
    refine va_get (D := D) (ci := 2) (v := .ref a5) (C := RX2) (T := TX2) (N := 2) hx hb hts hin_X2 hown hK hP 6 rfl rfl 0 (by decide) (hts (.fieldLink RX2 11 "CryOrder$Cases" "ordered" "[LCryOrder$Case;") (List.mem_cons_of_mem _ (List.mem_append_left _ (List.mem_of_getElem? (i := 1) rfl)))) (fun _ h9 => h9) rfl dX2_at_12 ?_
    refine lv_iload_n hx hb dX2_at_15 rfl (lv_at hl 1 rfl) ?_
    refine va_aldq hx hb hK hP 7 4 rfl rfl (vp_in_iff.mpr (by omega)) dX2_at_16 ?_
    obtain ⟨b_3, eb_3, ib_3⟩ := cqJ.get (i := (v : Int32)) j5 (by first | omega | decide) (by first | omega | decide)
    refine lv_topv (z := .ref b_3) (congrArg va_rf eb_3) ?_
    refine lv_goto (tgt := 21) hx hb dX2_at_17 (by decide) ?_
    exact W.aret (v := .ref b_3) hx hb hr (Or.inl ⟨_, rfl⟩) (Or.inr ⟨_, rfl⟩) (fun t ht hW => ⟨(some b_3), rfl, (cqOp.some ib_3), ht⟩) (fun q h => by cases h) dX2_at_21
  · have h_2 : (v).toInt < 0 ∨ (cz).toInt ≤ (v).toInt := h_2
    refine lv_if_eq (tgt := 20) hx hb dX2_at_8 (by decide) (fun _ => ?_) (fun c_ => absurd c_ (by decide))
    refine lv_null hx hb dX2_at_20 ?_
    exact W.aret (v := .null) hx hb hr (Or.inl ⟨_, rfl⟩) (Or.inl rfl) (fun t ht hW => ⟨none, rfl, cqOp.none, ht⟩) (fun q h => by cases h) dX2_at_21

set_option maxHeartbeats 4000000 in
set_option maxRecDepth 100000 in
theorem cl_scoreOfAll {p : Program} {l : Launch} {e : Env} {R : Room} {s : State} {m : MethodId} {args : Array Value} {below : List Frame} {meth : Method} {c : Code} {Q : State → Prop} {A : Nat → Prop} {cells slots : Nat} {D : va_G} {H : Heap} {locs : List Loc} {xo : Nat} {ro : Nat} {tI : Nat} {cS : Nat} {pN : Nat} {a1 : Nat} {a2 : Nat} {a3 : Nat} {a4 : Nat} {a5 : Nat} {a6 : Nat} {a7 : Nat} {a8 : Nat} {a9 : Nat} {e1 : ClassId} {e2 : ClassId} {e3 : ClassId} {e4 : ClassId} {e5 : ClassId} {e6 : ClassId} {e7 : ClassId} {e8 : ClassId} {e9 : ClassId} {na : Int32} {ns : Int32} {nw : Int32} {cp : Int32} {le : Int32} {tr : Int32} {sl : Int32} {tz : Int32} {cz : Int32} {q1 : Int32} {q2 : Int32} {q3 : Int32} {q4 : Int32} {g1 : Nat → Option Nat} {g2 : Nat → Option Nat} {g3 : Nat → Option Nat} {g4 : Nat → Option Nat} {g5 : Nat → Option Nat} {g6 : Nat → Option Nat} {g7 : Nat → Option Nat} {y8 : Nat → Int32} {y9 : Nat → Int32} {L : List Nat} {K : Nat → Nat × Nat} {f : Nat → va_E} {S : Int} (hx : p.tables.exec = Jvm.exec) (hb : c.code = cX2_scoreOfAll) (hts : ∀ w ∈ wsX2_scoreOfAll, w.before args s = true) (hml : c.maxLocals = 3) (hown : s.vm.findClass RX2 = some m.cls) (hN : Nq s) (hK : va_K D vwCl [(e1, .object RX0), (e2, .object RX0), (e3, .object RX6), (e4, .object RX4), (e5, .object RX1), (e6, .object RX1), (e7, .object RX1), (e8, .int), (e9, .int)] s) (hP : va_P D vwCl ([oC xo 8 [.ref a1, .ref a2, .ref a3, .ref ro, .ref tI, .ref cS, .ref pN, .int na, .int ns, .int nw, .int cp, .int le, .int tr, .int sl], aR a1 e1 200 (g1), aR a2 e2 40 (g2), aR a3 e3 30 (g3), oC tI 7 [.ref a4, .int tz], aR a4 e4 60 (g4), oC cS 2 [.ref a5, .int cz], aR a5 e5 200 (g5), oC pN 5 [.ref a6, .ref a7, .ref a8, .ref a9, .int q1, .int q2, .int q3, .int q4], aR a6 e6 17 (g6), aR a7 e7 12 (g7), aI a8 e8 301 (y8), aI a9 e9 301 (y9)] ++ va_pl L f) H) (hD : va_D A ([oC xo 8 [.ref a1, .ref a2, .ref a3, .ref ro, .ref tI, .ref cS, .ref pN, .int na, .int ns, .int nw, .int cp, .int le, .int tr, .int sl], aR a1 e1 200 (g1), aR a2 e2 40 (g2), aR a3 e3 30 (g3), oC tI 7 [.ref a4, .int tz], aR a4 e4 60 (g4), oC cS 2 [.ref a5, .int cz], aR a5 e5 200 (g5), oC pN 5 [.ref a6, .ref a7, .ref a8, .ref a9, .int q1, .int q2, .int q3, .int q4], aR a6 e6 17 (g6), aR a7 e7 12 (g7), aI a8 e8 301 (y8), aI a9 e9 301 (y9)] ++ va_pl L f)) (hR : 0 ≤ R.frames ∧ 0 ≤ R.locals) (hcs : cells ≤ R.cells ∧ slots ≤ R.slots) (hI : cqI S L K f) (hcz : 0 ≤ (cz).toInt ∧ (cz).toInt ≤ 200) (j5 : cqJ L K 1 (cz).toInt g5) (done_30 : ∀ (k : Int32) (u : Int32) (ls : Array Slot), lv_has ls 3 [(2, .int k), (1, .int u), (0, .ref cS)] → W p l e R s m args below meth c H locs cells slots Q (F0 m 30 ls [])) : ∀ (n : Nat), ∀ (k : Int32) (u : Int32) (ls : Array Slot), (0 ≤ (k).toInt) → ((200 - (k).toInt).toNat < n) → lv_has ls 3 [(2, .int k), (1, .int u), (0, .ref cS)] → W p l e R s m args below meth c H locs cells slots Q (F0 m 4 ls []) := by
  have hin_X1 : ∀ w ∈ u_ws RX1 TX1 4, w ∈ wsX2_scoreOfAll := fun w h => List.mem_cons_of_mem _ (List.mem_append_right _ (h))
  have hin_X2 : ∀ w ∈ u_ws RX2 TX2 2, w ∈ wsX2_scoreOfAll := fun w h => List.mem_cons_of_mem _ (List.mem_append_left _ (List.mem_append_right _ (h)))
  intro n
  induction n with
  | zero => intro k u ls hk hmu hl; exact absurd hmu (Nat.not_lt_zero _)
  | succ n ih =>
    intro k u ls hk hmu hl
    refine lv_iload_n hx hb dX2_scoreOfAll_4 rfl (lv_at hl 0 rfl) ?_
    refine lv_aload_n hx hb dX2_scoreOfAll_5 rfl (lv_at hl 2 rfl) ?_
    refine va_get (D := D) (ci := 2) (v := .int cz) (C := RX2) (T := TX2) (N := 2) hx hb hts hin_X2 hown hK hP 6 rfl rfl 1 (by decide) (hts (.fieldLink RX2 50 "CryOrder$Cases" "size" "I") (List.mem_cons_of_mem _ (List.mem_append_left _ (List.mem_append_left _ (List.mem_of_getElem? (i := 0) rfl))))) (fun _ h9 => h9) rfl dX2_scoreOfAll_6 ?_
    refine bi_ge (zx := (k).toInt) (zy := (cz).toInt) (tgt := 30) hx hb dX2_scoreOfAll_9 (by decide) rfl rfl (fun c_1 => ?_) (fun c_1 => ?_)
    · exact done_30 k u _  (lv_sub hl [0, 1, 2] rfl)
    · refine lv_iload_n hx hb dX2_scoreOfAll_12 rfl (lv_at hl 1 rfl) ?_
      refine lv_aload_n hx hb dX2_scoreOfAll_13 rfl (lv_at hl 2 rfl) ?_
      refine va_get (D := D) (ci := 2) (v := .ref a5) (C := RX2) (T := TX2) (N := 2) hx hb hts hin_X2 hown hK hP 6 rfl rfl 0 (by decide) (hts (.fieldLink RX2 11 "CryOrder$Cases" "ordered" "[LCryOrder$Case;") (List.mem_cons_of_mem _ (List.mem_append_left _ (List.mem_append_left _ (List.mem_of_getElem? (i := 1) rfl))))) (fun _ h9 => h9) rfl dX2_scoreOfAll_14 ?_
      refine lv_iload_n hx hb dX2_scoreOfAll_17 rfl (lv_at hl 0 rfl) ?_
      refine va_aldq hx hb hK hP 7 4 rfl rfl (vp_in_iff.mpr (by omega)) dX2_scoreOfAll_18 ?_
      obtain ⟨b_2, eb_2, ib_2⟩ := cqJ.get (i := (k : Int32)) j5 (by first | omega | decide) (by first | omega | decide)
      refine lv_topv (z := .ref b_2) (congrArg va_rf eb_2) ?_
      obtain ⟨cn_3, sz_3, sc_3, li_3, hf_3, hs0_3, hs1_3⟩ := hI.opC ib_2
      refine pl_get (D := D) (ci := 1) (v := .int sc_3) (C := RX1) (T := TX1) (N := 4) hx hb hts hin_X1 hown hK hP ib_2.1 hf_3 rfl 2 (by decide) (hts (.fieldLink RX2 58 "CryOrder$Case" "score" "I") (List.mem_cons_of_mem _ (List.mem_append_left _ (List.mem_append_left _ (List.mem_of_getElem? (i := 2) rfl))))) (fun _ h9 => h9) rfl dX2_scoreOfAll_19 ?_
      refine lv_iadd hx hb dX2_scoreOfAll_22 ?_
      refine lv_topi (fun z_4 ez_4 => ?_)
      have tz_4 := ad_toInt (zx := (u).toInt) (zy := (sc_3).toInt) ez_4 rfl rfl
      refine lv_istore_n (lv' := [(1, .int z_4), (2, .int k), (0, .ref cS)]) hx hb dX2_scoreOfAll_23 rfl hl (by decide) rfl (fun ls hl => ?_)
      obtain ⟨x_5, ex_5⟩ : ∃ z : Int32, z = k + 1 := ⟨_, rfl⟩
      have tx_5 := ad_toInt (x := k) (y := 1) (z := x_5) (zx := (k).toInt) (zy := 1) ex_5 rfl (by decide)
      refine lv_iinc (v := x_5) (lv' := [(2, .int x_5), (1, .int z_4), (0, .ref cS)]) hx hb dX2_scoreOfAll_24 hl (k := 1) rfl (by rw [ex_5]; rfl) (by decide) rfl (fun ls hl => ?_)
      refine lv_goto (tgt := 4) hx hb dX2_scoreOfAll_27 (by decide) ?_
      exact ih x_5 z_4 _ (by first | omega | assumption | decide | (have h3 : (0 : Int32).toInt = 0 := rfl; omega) | (have h3 : (0 : Int32).toInt = 0 := rfl; have h4 : (1 : Int32).toInt = 1 := rfl; have h5 : (-1 : Int32).toInt = -1 := rfl; omega)) (by omega) (lv_sub hl [0, 1, 2] rfl)

set_option maxHeartbeats 4000000 in
set_option maxRecDepth 100000 in
theorem c_X2_scoreOfAll (l : Launch) (D : va_G) (xo : Nat) (ro : Nat) (tI : Nat) (cS : Nat) (pN : Nat) (a1 : Nat) (a2 : Nat) (a3 : Nat) (a4 : Nat) (a5 : Nat) (a6 : Nat) (a7 : Nat) (a8 : Nat) (a9 : Nat) (e1 : ClassId) (e2 : ClassId) (e3 : ClassId) (e4 : ClassId) (e5 : ClassId) (e6 : ClassId) (e7 : ClassId) (e8 : ClassId) (e9 : ClassId) (na : Int32) (ns : Int32) (nw : Int32) (cp : Int32) (le : Int32) (tr : Int32) (sl : Int32) (tz : Int32) (cz : Int32) (q1 : Int32) (q2 : Int32) (q3 : Int32) (q4 : Int32) (g1 : Nat → Option Nat) (g2 : Nat → Option Nat) (g3 : Nat → Option Nat) (g4 : Nat → Option Nat) (g5 : Nat → Option Nat) (g6 : Nat → Option Nat) (g7 : Nat → Option Nat) (y8 : Nat → Int32) (y9 : Nat → Int32) (L : List Nat) (K : Nat → Nat × Nat) (f : Nat → va_E) (S : Int) (hI : cqI S L K f) (hcz : 0 ≤ (cz).toInt ∧ (cz).toInt ≤ 200) (j5 : cqJ L K 1 (cz).toInt g5) : Met l yX2_scoreOfAll wsX2_scoreOfAll ({ frames := 0, cells := 0, slots := 0, locals := 0 }) (va_Pc [.ref cS] (wo D [(e1, .object RX0), (e2, .object RX0), (e3, .object RX6), (e4, .object RX4), (e5, .object RX1), (e6, .object RX1), (e7, .object RX1), (e8, .int), (e9, .int)] ([oC xo 8 [.ref a1, .ref a2, .ref a3, .ref ro, .ref tI, .ref cS, .ref pN, .int na, .int ns, .int nw, .int cp, .int le, .int tr, .int sl], aR a1 e1 200 (g1), aR a2 e2 40 (g2), aR a3 e3 30 (g3), oC tI 7 [.ref a4, .int tz], aR a4 e4 60 (g4), oC cS 2 [.ref a5, .int cz], aR a5 e5 200 (g5), oC pN 5 [.ref a6, .ref a7, .ref a8, .ref a9, .int q1, .int q2, .int q3, .int q4], aR a6 e6 17 (g6), aR a7 e7 12 (g7), aI a8 e8 301 (y8), aI a9 e9 301 (y9)] ++ va_pl L f))) (vp_Si (fun r => True)) 0 0 (fun _ => False) := by
  refine Met.ofW (cc := cX2_scoreOfAll) (maxL := 3) (ret := (some .int)) (by decide) rfl ?_
  intro p e s m args below meth c s₁ B hml hv
  obtain ⟨rfl, hP, hK, hD, hN⟩ := hv
  have hx := B.exec
  have hb := B.bytes
  have hr := B.returns
  have hts := atoms_spec (ws := wsX2_scoreOfAll) B.pre
  have hown : s.vm.findClass RX2 = some m.cls := findClass_of_methodNamed B.named
  have hlocks := B.notSynchronized
  have hl := lv_entry ([.ref cS]) (n := 3) (Nat.le_of_ble_eq_true rfl)
  rw [lg_entry_eq]
  generalize (lg_sl ([.ref cS]) ++ List.replicate (3 - (lg_sl ([.ref cS])).length) Slot.unset).toArray = ls at hl ⊢
  have hl : lv_has ls 3 [(0, .ref cS)] := hl
  refine lv_iconst (v := 0) hx hb dX2_scoreOfAll_0 (by decide) ?_
  refine lv_istore_n (lv' := [(1, .int 0), (0, .ref cS)]) hx hb dX2_scoreOfAll_1 rfl hl (by decide) rfl (fun ls hl => ?_)
  refine lv_iconst (v := 0) hx hb dX2_scoreOfAll_2 (by decide) ?_
  refine lv_istore_n (lv' := [(2, .int 0), (1, .int 0), (0, .ref cS)]) hx hb dX2_scoreOfAll_3 rfl hl (by decide) rfl (fun ls hl => ?_)
  refine cl_scoreOfAll hx hb hts hml hown hN hK hP hD ⟨(Nat.le_of_ble_eq_true rfl), (Nat.le_of_ble_eq_true rfl)⟩ ⟨(Nat.le_of_ble_eq_true rfl), (Nat.le_of_ble_eq_true rfl)⟩ hI (by first | omega | assumption | decide | (have h3 : (0 : Int32).toInt = 0 := rfl; omega) | (have h3 : (0 : Int32).toInt = 0 := rfl; have h4 : (1 : Int32).toInt = 1 := rfl; have h5 : (-1 : Int32).toInt = -1 := rfl; omega)) j5 (fun k_1 u_2 ls  hl => ?_) _ 0 0 _ (by first | omega | assumption | decide | (have h3 : (0 : Int32).toInt = 0 := rfl; omega) | (have h3 : (0 : Int32).toInt = 0 := rfl; have h4 : (1 : Int32).toInt = 1 := rfl; have h5 : (-1 : Int32).toInt = -1 := rfl; omega)) (Nat.lt_succ_self _) (lv_sub hl [0, 1, 2] rfl)
  skip
  refine lv_iload_n hx hb dX2_scoreOfAll_30 rfl (lv_at hl 1 rfl) ?_
  exact W.iret (v := u_2) hx hb hr (fun t ht hW => ⟨u_2, rfl, trivial, ht⟩) (fun q h => by cases h) dX2_scoreOfAll_31
