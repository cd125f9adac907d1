set_option maxHeartbeats 4000000 in
set_option maxRecDepth 100000 in
theorem rl_silenced {p : Program} {l : Launch} {e : Env} {R : Room} {s : State} {m : MethodId} {args : Array Value} {below : List Frame} {meth : Method} {c : Code} {Q : State → Prop} {A : Nat → Prop} {cells slots : Nat} {D : va_G} {H : Heap} {locs : List Loc} {xo : Nat} {ro : Nat} {tI : Nat} {cS : Nat} {pN : Nat} {a1 : Nat} {a2 : Nat} {a3 : Nat} {a4 : Nat} {a5 : Nat} {a6 : Nat} {a7 : Nat} {a8 : Nat} {a9 : Nat} {e1 : ClassId} {e2 : ClassId} {e3 : ClassId} {e4 : ClassId} {e5 : ClassId} {e6 : ClassId} {e7 : ClassId} {e8 : ClassId} {e9 : ClassId} {na : Int32} {ns : Int32} {nw : Int32} {cp : Int32} {le : Int32} {tr : Int32} {sl : Int32} {tz : Int32} {cz : Int32} {q1 : Int32} {q2 : Int32} {q3 : Int32} {q4 : Int32} {g1 : Nat → Option Nat} {g2 : Nat → Option Nat} {g3 : Nat → Option Nat} {g4 : Nat → Option Nat} {g5 : Nat → Option Nat} {g6 : Nat → Option Nat} {g7 : Nat → Option Nat} {y8 : Nat → Int32} {y9 : Nat → Int32} {L : List Nat} {K : Nat → Nat × Nat} {f : Nat → va_E} {S : Int} {v : Int32} {U : Nat → Nat → Int} (hx : p.tables.exec = Jvm.exec) (hb : c.code = cX8_isSilencedNow) (hts : ∀ w ∈ wsX8_isSilencedNow, w.before args s = true) (hml : c.maxLocals = 3) (hown : s.vm.findClass RX8 = some m.cls) (hN : Nq s) (hK : va_K D vwCl [(e1, .object RX0), (e2, .object RX0), (e3, .object RX6), (e4, .object RX4), (e5, .object RX1), (e6, .object RX1), (e7, .object RX1), (e8, .int), (e9, .int)] s) (hP : va_P D vwCl ([oC xo 8 [.ref a1, .ref a2, .ref a3, .ref ro, .ref tI, .ref cS, .ref pN, .int na, .int ns, .int nw, .int cp, .int le, .int tr, .int sl], aR a1 e1 200 (g1), aR a2 e2 40 (g2), aR a3 e3 30 (g3), oC tI 7 [.ref a4, .int tz], aR a4 e4 60 (g4), oC cS 2 [.ref a5, .int cz], aR a5 e5 200 (g5), oC pN 5 [.ref a6, .ref a7, .ref a8, .ref a9, .int q1, .int q2, .int q3, .int q4], aR a6 e6 17 (g6), aR a7 e7 12 (g7), aI a8 e8 301 (y8), aI a9 e9 301 (y9)] ++ va_pl L f) H) (hD : va_D A ([oC xo 8 [.ref a1, .ref a2, .ref a3, .ref ro, .ref tI, .ref cS, .ref pN, .int na, .int ns, .int nw, .int cp, .int le, .int tr, .int sl], aR a1 e1 200 (g1), aR a2 e2 40 (g2), aR a3 e3 30 (g3), oC tI 7 [.ref a4, .int tz], aR a4 e4 60 (g4), oC cS 2 [.ref a5, .int cz], aR a5 e5 200 (g5), oC pN 5 [.ref a6, .ref a7, .ref a8, .ref a9, .int q1, .int q2, .int q3, .int q4], aR a6 e6 17 (g6), aR a7 e7 12 (g7), aI a8 e8 301 (y8), aI a9 e9 301 (y9)] ++ va_pl L f)) (hR : 1 ≤ R.frames ∧ 22 ≤ R.locals) (hcs : cells ≤ R.cells ∧ slots ≤ R.slots) (hI : cqI S L K f) (hns : 0 ≤ (ns).toInt ∧ (ns).toInt ≤ 30) (j3 : cqJ L K 6 (ns).toInt g3) (hU : cqW f g3 (ns).toInt U) (done_27 : ∀ (k : Int32) (ls : Array Slot), (∃ i : Nat, (i : Int) < (ns).toInt ∧ siC U (v).toInt (nw).toInt i) → lv_has ls 3 [(2, .int k), (0, .ref xo), (1, .int v)] → W p l e R s m args below meth c H locs cells slots Q (F0 m 27 ls [])) (done_35 : ∀ (k : Int32) (ls : Array Slot), (¬ ∃ i : Nat, (i : Int) < (ns).toInt ∧ siC U (v).toInt (nw).toInt i) → lv_has ls 3 [(2, .int k), (0, .ref xo), (1, .int v)] → W p l e R s m args below meth c H locs cells slots Q (F0 m 35 ls [])) : ∀ (n : Nat), ∀ (k : Int32) (ls : Array Slot), (0 ≤ (k).toInt) → (∀ i : Nat, (i : Int) < (k).toInt → ¬ siC U (v).toInt (nw).toInt i) → ((30 - (k).toInt).toNat < n) → lv_has ls 3 [(2, .int k), (0, .ref xo), (1, .int v)] → W p l e R s m args below meth c H locs cells slots Q (F0 m 2 ls []) := by
  have hin_X8 : ∀ w ∈ u_ws RX8 TX8 14, w ∈ wsX8_isSilencedNow := fun w h => List.mem_cons_of_mem _ (List.mem_append_left _ (List.mem_append_right _ (h)))
  intro n
  induction n with
  | zero => intro k ls hk hno hmu hl; exact absurd hmu (Nat.not_lt_zero _)
  | succ n ih =>
    intro k ls hk hno hmu hl
    refine lv_iload_n hx hb dX8_isSilencedNow_2 rfl (lv_at hl 0 rfl) ?_
    refine lv_aload_n hx hb dX8_isSilencedNow_3 rfl (lv_at hl 1 rfl) ?_
    refine va_get (D := D) (ci := 8) (v := .int ns) (C := RX8) (T := TX8) (N := 14) hx hb hts hin_X8 hown hK hP 0 rfl rfl 8 (by decide) (hts (.fieldLink RX8 116 "CryOrder" "silenceCount" "I") (List.mem_cons_of_mem _ (List.mem_append_left _ (List.mem_append_left _ (List.mem_of_getElem? (i := 0) rfl))))) (fun _ h9 => h9) rfl dX8_isSilencedNow_4 ?_
    refine bi_ge (zx := (k).toInt) (zy := (ns).toInt) (tgt := 35) hx hb dX8_isSilencedNow_7 (by decide) rfl rfl (fun c_1 => ?_) (fun c_1 => ?_)
    · exact done_35 k _ (fun h9 => by obtain ⟨i, h8, h9⟩ := h9; exact hno i (by omega) h9) (lv_sub hl [0, 1, 2] rfl)
    · refine lv_aload_n hx hb dX8_isSilencedNow_10 rfl (lv_at hl 1 rfl) ?_
      refine va_get (D := D) (ci := 8) (v := .ref a3) (C := RX8) (T := TX8) (N := 14) hx hb hts hin_X8 hown hK hP 0 rfl rfl 2 (by decide) (hts (.fieldLink RX8 20 "CryOrder" "silences" "[LCryOrder$Silence;") (List.mem_cons_of_mem _ (List.mem_append_left _ (List.mem_append_left _ (List.mem_of_getElem? (i := 1) rfl))))) (fun _ h9 => h9) rfl dX8_isSilencedNow_11 ?_
      refine lv_iload_n hx hb dX8_isSilencedNow_14 rfl (lv_at hl 0 rfl) ?_
      refine va_aldq hx hb hK hP 3 2 rfl rfl (vp_in_iff.mpr (by omega)) dX8_isSilencedNow_15 ?_
      obtain ⟨b_2, eb_2, ib_2⟩ := cqJ.get (i := (k : Int32)) j3 (by first | omega | decide) (by first | omega | decide)
      refine lv_topv (z := .ref b_2) (congrArg va_rf eb_2) ?_
      have hzb_2 := tnc_eq (i := k) (by omega)
      have V0b_2 := hU (k : Int32).toNatClampNeg (by omega) b_2 eb_2 0 (by decide)
      have V1b_2 := hU (k : Int32).toNatClampNeg (by omega) b_2 eb_2 1 (by decide)
      have V2b_2 := hU (k : Int32).toNatClampNeg (by omega) b_2 eb_2 2 (by decide)
      refine lv_iload_n hx hb dX8_isSilencedNow_16 rfl (lv_at hl 2 rfl) ?_
      refine lv_aload_n hx hb dX8_isSilencedNow_17 rfl (lv_at hl 1 rfl) ?_
      refine va_get (D := D) (ci := 8) (v := .int nw) (C := RX8) (T := TX8) (N := 14) hx hb hts hin_X8 hown hK hP 0 rfl rfl 9 (by decide) (hts (.fieldLink RX8 61 "CryOrder" "now" "I") (List.mem_cons_of_mem _ (List.mem_append_left _ (List.mem_append_left _ (List.mem_of_getElem? (i := 2) rfl))))) (fun _ h9 => h9) rfl dX8_isSilencedNow_18 ?_
      refine vp_callSi (wrV (As := [.int v, .int nw]) (rest := []) ⟨hx, hb, hml, hown, hts⟩ hN hK hP hD (c_X6_coversR l D [oC xo 8 [.ref a1, .ref a2, .ref a3, .ref ro, .ref tI, .ref cS, .ref pN, .int na, .int ns, .int nw, .int cp, .int le, .int tr, .int sl], aR a1 e1 200 (g1), aR a2 e2 40 (g2), aR a3 e3 30 (g3), oC tI 7 [.ref a4, .int tz], aR a4 e4 60 (g4), oC cS 2 [.ref a5, .int cz], aR a5 e5 200 (g5), oC pN 5 [.ref a6, .ref a7, .ref a8, .ref a9, .int q1, .int q2, .int q3, .int q4], aR a6 e6 17 (g6), aR a7 e7 12 (g7), aI a8 e8 301 (y8), aI a9 e9 301 (y9)] L K f S [(e1, .object RX0), (e2, .object RX0), (e3, .object RX6), (e4, .object RX4), (e5, .object RX1), (e6, .object RX1), (e7, .object RX1), (e8, .int), (e9, .int)] b_2 v nw hI ib_2) (cwV 2 hts gX8_isSilencedNow_X6_covers rfl rfl rfl (by decide +kernel) ⟨Nat.le_trans (m := 1) (Nat.le_of_ble_eq_true rfl) hR.1, Nat.le_trans (m := 22) (Nat.le_of_ble_eq_true rfl) hR.2⟩) 6 rfl (cq_rcS (X := [oC xo 8 [.ref a1, .ref a2, .ref a3, .ref ro, .ref tI, .ref cS, .ref pN, .int na, .int ns, .int nw, .int cp, .int le, .int tr, .int sl], aR a1 e1 200 (g1), aR a2 e2 40 (g2), aR a3 e3 30 (g3), oC tI 7 [.ref a4, .int tz], aR a4 e4 60 (g4), oC cS 2 [.ref a5, .int cz], aR a5 e5 200 (g5), oC pN 5 [.ref a6, .ref a7, .ref a8, .ref a9, .int q1, .int q2, .int q3, .int q4], aR a6 e6 17 (g6), aR a7 e7 12 (g7), aI a8 e8 301 (y8), aI a9 e9 301 (y9)]) hI ib_2) rfl hl.1 rfl (Nat.le_of_ble_eq_true rfl) dX8_isSilencedNow_21 ⟨hcs.1, hcs.2⟩) (fun r_3 h_4 => ?_)
      rcases h_4 with ⟨h_4, rfl⟩ | ⟨h_4, rfl⟩
      · have h_4 : (v).toInt = cqF (f b_2) 0 ∧ cqF (f b_2) 1 ≤ (nw).toInt ∧ (nw).toInt ≤ cqF (f b_2) 2 := h_4
        refine lv_if_eq (tgt := 29) hx hb dX8_isSilencedNow_24 (by decide) (fun c_ => absurd c_ (by decide)) (fun _ => ?_)
        exact done_27 k _ ⟨(k : Int32).toNatClampNeg, by omega, by unfold siC; omega⟩ (lv_sub hl [0, 1, 2] rfl)
      · have h_4 : ¬ ((v).toInt = cqF (f b_2) 0 ∧ cqF (f b_2) 1 ≤ (nw).toInt ∧ (nw).toInt ≤ cqF (f b_2) 2) := h_4
        refine lv_if_eq (tgt := 29) hx hb dX8_isSilencedNow_24 (by decide) (fun _ => ?_) (fun c_ => absurd c_ (by decide))
        obtain ⟨x_5, ex_5⟩ : ∃ z : Int32, z = k + 1 := ⟨_, rfl⟩
        have tx_5 := ad_toInt (x := k) (y := 1) (z := x_5) (zx := (k).toInt) (zy := 1) ex_5 rfl (by decide)
        refine lv_iinc (v := x_5) (lv' := [(2, .int x_5), (0, .ref xo), (1, .int v)]) hx hb dX8_isSilencedNow_29 hl (k := 0) rfl (by rw [ex_5]; rfl) (by decide) rfl (fun ls hl => ?_)
        refine lv_goto (tgt := 2) hx hb dX8_isSilencedNow_32 (by decide) ?_
        exact ih x_5 _ (by first | omega | assumption | decide | (have h3 : (0 : Int32).toInt = 0 := rfl; omega) | (have h3 : (0 : Int32).toInt = 0 := rfl; have h4 : (1 : Int32).toInt = 1 := rfl; have h5 : (-1 : Int32).toInt = -1 := rfl; omega)) (fun i hi => (show (i : Int) < (k).toInt ∨ i = (k : Int32).toNatClampNeg by omega).elim (hno i) (fun e9 => by rw [e9]; intro h9; unfold siC at h9; omega)) (by omega) (lv_sub hl [0, 1, 2] rfl)

set_option maxHeartbeats 4000000 in
set_option maxRecDepth 100000 in
theorem c_X8_isSilencedNowR (l : Launch) (D : va_G) (xo : Nat) (ro : Nat) (tI : Nat) (cS : Nat) (pN : Nat) (a1 : Nat) (a2 : Nat) (a3 : Nat) (a4 : Nat) (a5 : Nat) (a6 : Nat) (a7 : Nat) (a8 : Nat) (a9 : Nat) (e1 : ClassId) (e2 : ClassId) (e3 : ClassId) (e4 : ClassId) (e5 : ClassId) (e6 : ClassId) (e7 : ClassId) (e8 : ClassId) (e9 : ClassId) (na : Int32) (ns : Int32) (nw : Int32) (cp : Int32) (le : Int32) (tr : Int32) (sl : Int32) (tz : Int32) (cz : Int32) (q1 : Int32) (q2 : Int32) (q3 : Int32) (q4 : Int32) (g1 : Nat → Option Nat) (g2 : Nat → Option Nat) (g3 : Nat → Option Nat) (g4 : Nat → Option Nat) (g5 : Nat → Option Nat) (g6 : Nat → Option Nat) (g7 : Nat → Option Nat) (y8 : Nat → Int32) (y9 : Nat → Int32) (L : List Nat) (K : Nat → Nat × Nat) (f : Nat → va_E) (S : Int) (v : Int32) (U : Nat → Nat → Int) (hI : cqI S L K f) (hns : 0 ≤ (ns).toInt ∧ (ns).toInt ≤ 30) (j3 : cqJ L K 6 (ns).toInt g3) (hU : cqW f g3 (ns).toInt U) : Met l yX8_isSilencedNow wsX8_isSilencedNow ({ frames := 1, cells := 0, slots := 0, locals := 22 }) (va_Pc [.ref xo, .int v] (wo D [(e1, .object RX0), (e2, .object RX0), (e3, .object RX6), (e4, .object RX4), (e5, .object RX1), (e6, .object RX1), (e7, .object RX1), (e8, .int), (e9, .int)] ([oC xo 8 [.ref a1, .ref a2, .ref a3, .ref ro, .ref tI, .ref cS, .ref pN, .int na, .int ns, .int nw, .int cp, .int le, .int tr, .int sl], aR a1 e1 200 (g1), aR a2 e2 40 (g2), aR a3 e3 30 (g3), oC tI 7 [.ref a4, .int tz], aR a4 e4 60 (g4), oC cS 2 [.ref a5, .int cz], aR a5 e5 200 (g5), oC pN 5 [.ref a6, .ref a7, .ref a8, .ref a9, .int q1, .int q2, .int q3, .int q4], aR a6 e6 17 (g6), aR a7 e7 12 (g7), aI a8 e8 301 (y8), aI a9 e9 301 (y9)] ++ va_pl L f))) (vp_Si (fun r => ((∃ i : Nat, (i : Int) < (ns).toInt ∧ siC U (v).toInt (nw).toInt i) ∧ r = 1) ∨ ((¬ ∃ i : Nat, (i : Int) < (ns).toInt ∧ siC U (v).toInt (nw).toInt i) ∧ r = 0))) 0 0 (fun _ => False) := by
  refine Met.ofW (cc := cX8_isSilencedNow) (maxL := 3) (ret := (some .boolean)) (by decide) rfl ?_
  intro p e s m args below meth c s₁ B hml hv
  obtain ⟨rfl, hP, hK, hD, hN⟩ := hv
  have hx := B.exec
  have hb := B.bytes
  have hr := B.returns
  have hts := atoms_spec (ws := wsX8_isSilencedNow) B.pre
  have hown : s.vm.findClass RX8 = some m.cls := findClass_of_methodNamed B.named
  have hlocks := B.notSynchronized
  have hl := lv_entry ([.ref xo, .int v]) (n := 3) (Nat.le_of_ble_eq_true rfl)
  rw [lg_entry_eq]
  generalize (lg_sl ([.ref xo, .int v]) ++ List.replicate (3 - (lg_sl ([.ref xo, .int v])).length) Slot.unset).toArray = ls at hl ⊢
  have hl : lv_has ls 3 [(0, .ref xo), (1, .int v)] := hl
  refine lv_iconst (v := 0) hx hb dX8_isSilencedNow_0 (by decide) ?_
  refine lv_istore_n (lv' := [(2, .int 0), (0, .ref xo), (1, .int v)]) hx hb dX8_isSilencedNow_1 rfl hl (by decide) rfl (fun ls hl => ?_)
  refine rl_silenced hx hb hts hml hown hN hK hP hD ⟨(Nat.le_of_ble_eq_true rfl), (Nat.le_of_ble_eq_true rfl)⟩ ⟨(Nat.le_of_ble_eq_true rfl), (Nat.le_of_ble_eq_true rfl)⟩ hI (by first | omega | assumption | decide | (have h3 : (0 : Int32).toInt = 0 := rfl; omega) | (have h3 : (0 : Int32).toInt = 0 := rfl; have h4 : (1 : Int32).toInt = 1 := rfl; have h5 : (-1 : Int32).toInt = -1 := rfl; omega)) j3 (by first | omega | assumption | decide | (have h3 : (0 : Int32).toInt = 0 := rfl; omega) | (have h3 : (0 : Int32).toInt = 0 := rfl; have h4 : (1 : Int32).toInt = 1 := rfl; have h5 : (-1 : Int32).toInt = -1 := rfl; omega)) (fun k_1 ls h_3 hl => ?_) (fun k_4 ls h_6 hl => ?_) _ 0 _ (by first | omega | assumption | decide | (have h3 : (0 : Int32).toInt = 0 := rfl; omega) | (have h3 : (0 : Int32).toInt = 0 := rfl; have h4 : (1 : Int32).toInt = 1 := rfl; have h5 : (-1 : Int32).toInt = -1 := rfl; omega)) (fun i hi => absurd hi (by have h3 : (0 : Int32).toInt = 0 := rfl; omega)) (Nat.lt_succ_self _) (lv_sub hl [0, 1, 2] rfl)
  · have h_3 : ∃ i : Nat, (i : Int) < (ns).toInt ∧ siC U (v).toInt (nw).toInt i := h_3
    refine lv_iconst (v := 1) hx hb dX8_isSilencedNow_27 (by decide) ?_
    exact W.zret (v := 1) hx hb hr rfl (fun t ht hW => ⟨1, rfl, Or.inl ⟨h_3, rfl⟩, ht⟩) (fun q h => by cases h) dX8_isSilencedNow_28
  · have h_6 : ¬ ∃ i : Nat, (i : Int) < (ns).toInt ∧ siC U (v).toInt (nw).toInt i := h_6
    refine lv_iconst (v := 0) hx hb dX8_isSilencedNow_35 (by decide) ?_
    exact W.zret (v := 0) hx hb hr rfl (fun t ht hW => ⟨0, rfl, Or.inr ⟨h_6, rfl⟩, ht⟩) (fun q h => by cases h) dX8_isSilencedNow_36

set_option maxHeartbeats 4000000 in
set_option maxRecDepth 100000 in
theorem rl_capfull {p : Program} {l : Launch} {e : Env} {R : Room} {s : State} {m : MethodId} {args : Array Value} {below : List Frame} {meth : Method} {c : Code} {Q : State → Prop} {A : Nat → Prop} {cells slots : Nat} {D : va_G} {H : Heap} {locs : List Loc} {xo : Nat} {ro : Nat} {tI : Nat} {cS : Nat} {pN : Nat} {a1 : Nat} {a2 : Nat} {a3 : Nat} {a4 : Nat} {a5 : Nat} {a6 : Nat} {a7 : Nat} {a8 : Nat} {a9 : Nat} {e1 : ClassId} {e2 : ClassId} {e3 : ClassId} {e4 : ClassId} {e5 : ClassId} {e6 : ClassId} {e7 : ClassId} {e8 : ClassId} {e9 : ClassId} {na : Int32} {ns : Int32} {nw : Int32} {cp : Int32} {le : Int32} {tr : Int32} {sl : Int32} {tz : Int32} {cz : Int32} {q1 : Int32} {q2 : Int32} {q3 : Int32} {q4 : Int32} {g1 : Nat → Option Nat} {g2 : Nat → Option Nat} {g3 : Nat → Option Nat} {g4 : Nat → Option Nat} {g5 : Nat → Option Nat} {g6 : Nat → Option Nat} {g7 : Nat → Option Nat} {y8 : Nat → Int32} {y9 : Nat → Int32} {L : List Nat} {K : Nat → Nat × Nat} {f : Nat → va_E} {S : Int} {v : Int32} {V : Nat → Nat → Int} {c9 : Int} (hx : p.tables.exec = Jvm.exec) (hb : c.code = cX8_isCapFullNow) (hts : ∀ w ∈ wsX8_isCapFullNow, w.before args s = true) (hml : c.maxLocals = 4) (hown : s.vm.findClass RX8 = some m.cls) (hN : Nq s) (hK : va_K D vwCl [(e1, .object RX0), (e2, .object RX0), (e3, .object RX6), (e4, .object RX4), (e5, .object RX1), (e6, .object RX1), (e7, .object RX1), (e8, .int), (e9, .int)] s) (hP : va_P D vwCl ([oC xo 8 [.ref a1, .ref a2, .ref a3, .ref ro, .ref tI, .ref cS, .ref pN, .int na, .int ns, .int nw, .int cp, .int le, .int tr, .int sl], aR a1 e1 200 (g1), aR a2 e2 40 (g2), aR a3 e3 30 (g3), oC tI 7 [.ref a4, .int tz], aR a4 e4 60 (g4), oC cS 2 [.ref a5, .int cz], aR a5 e5 200 (g5), oC pN 5 [.ref a6, .ref a7, .ref a8, .ref a9, .int q1, .int q2, .int q3, .int q4], aR a6 e6 17 (g6), aR a7 e7 12 (g7), aI a8 e8 301 (y8), aI a9 e9 301 (y9)] ++ va_pl L f) H) (hD : va_D A ([oC xo 8 [.ref a1, .ref a2, .ref a3, .ref ro, .ref tI, .ref cS, .ref pN, .int na, .int ns, .int nw, .int cp, .int le, .int tr, .int sl], aR a1 e1 200 (g1), aR a2 e2 40 (g2), aR a3 e3 30 (g3), oC tI 7 [.ref a4, .int tz], aR a4 e4 60 (g4), oC cS 2 [.ref a5, .int cz], aR a5 e5 200 (g5), oC pN 5 [.ref a6, .ref a7, .ref a8, .ref a9, .int q1, .int q2, .int q3, .int q4], aR a6 e6 17 (g6), aR a7 e7 12 (g7), aI a8 e8 301 (y8), aI a9 e9 301 (y9)] ++ va_pl L f)) (hR : 1 ≤ R.frames ∧ 20 ≤ R.locals) (hcs : cells ≤ R.cells ∧ slots ≤ R.slots) (hI : cqI S L K f) (hna : 0 ≤ (na).toInt ∧ (na).toInt ≤ 200) (j1 : cqJA L K (na).toInt g1) (hV : cqV f g1 (na).toInt V) (hM : ∀ i j : Nat, i ≤ j → (j : Int) < (na).toInt → V i 1 ≤ V j 1) (hCm : ∀ i : Nat, (i : Int) < (na).toInt → 0 ≤ V i 1 ∧ V i 1 ≤ 10000) (hnw : 0 ≤ (nw).toInt ∧ (nw).toInt ≤ 10000) (done_66 : ∀ (k : Int32) (u0 : Int32) (ls : Array Slot), ((u0).toInt = c9) → lv_has ls 4 [(3, .int k), (2, .int u0), (0, .ref xo), (1, .int v)] → W p l e R s m args below meth c H locs cells slots Q (F0 m 66 ls [])) : ∀ (n : Nat), ∀ (k : Int32) (u0 : Int32) (ls : Array Slot), (-1 ≤ (k).toInt ∧ (k).toInt < (na).toInt) → (0 ≤ (u0).toInt ∧ (u0).toInt + (k).toInt ≤ 200) → ((u0).toInt + cpF V (v).toInt (nw).toInt ((k).toInt + 1).toNat = c9) → (((k).toInt + 1).toNat < n) → lv_has ls 4 [(3, .int k), (2, .int u0), (0, .ref xo), (1, .int v)] → W p l e R s m args below meth c H locs cells slots Q (F0 m 9 ls []) := by
  have hin_X0 : ∀ w ∈ u_ws RX0 TX0 17, w ∈ wsX8_isCapFullNow := fun w h => List.mem_cons_of_mem _ (List.mem_append_right _ (h))
  have hin_X8 : ∀ w ∈ u_ws RX8 TX8 14, w ∈ wsX8_isCapFullNow := fun w h => List.mem_cons_of_mem _ (List.mem_append_left _ (List.mem_append_right _ (h)))
  intro n
  induction n with
  | zero => intro k u0 ls hk hu0 hcp hmu hl; exact absurd hmu (Nat.not_lt_zero _)
  | succ n ih =>
    intro k u0 ls hk hu0 hcp hmu hl
    refine lv_iload_n hx hb dX8_isCapFullNow_9 rfl (lv_at hl 0 rfl) ?_
    refine bz_lt (zx := (k).toInt) (tgt := 66) hx hb dX8_isCapFullNow_10 (by decide) rfl (fun c_1 => ?_) (fun c_1 => ?_)
    · exact done_66 k u0 _ (cpF_stop hcp hM (by omega) (by omega)) (lv_sub hl [0, 1, 2, 3] rfl)
    · refine lv_aload_n hx hb dX8_isCapFullNow_13 rfl (lv_at hl 2 rfl) ?_
      refine va_get (D := D) (ci := 8) (v := .int nw) (C := RX8) (T := TX8) (N := 14) hx hb hts hin_X8 hown hK hP 0 rfl rfl 9 (by decide) (hts (.fieldLink RX8 61 "CryOrder" "now" "I") (List.mem_cons_of_mem _ (List.mem_append_left _ (List.mem_append_left _ (List.mem_of_getElem? (i := 1) rfl))))) (fun _ h9 => h9) rfl dX8_isCapFullNow_14 ?_
      refine lv_aload_n hx hb dX8_isCapFullNow_17 rfl (lv_at hl 2 rfl) ?_
      refine va_get (D := D) (ci := 8) (v := .ref a1) (C := RX8) (T := TX8) (N := 14) hx hb hts hin_X8 hown hK hP 0 rfl rfl 0 (by decide) (hts (.fieldLink RX8 11 "CryOrder" "alarms" "[LCryOrder$Alarm;") (List.mem_cons_of_mem _ (List.mem_append_left _ (List.mem_append_left _ (List.mem_of_getElem? (i := 2) rfl))))) (fun _ h9 => h9) rfl dX8_isCapFullNow_18 ?_
      refine lv_iload_n hx hb dX8_isCapFullNow_21 rfl (lv_at hl 0 rfl) ?_
      refine va_aldq hx hb hK hP 1 0 rfl rfl (vp_in_iff.mpr (by omega)) dX8_isCapFullNow_22 ?_
      obtain ⟨b_2, eb_2, ib_2, kb_2⟩ := cqJA.get (i := (k : Int32)) j1 (by first | omega | decide) (by first | omega | decide)
      refine lv_topv (z := .ref b_2) (congrArg va_rf eb_2) ?_
      have hzb_2 := tnc_eq (i := k) (by omega)
      have hBb_2 := hCm (k : Int32).toNatClampNeg (by omega)
      have V1b_2 := hV (k : Int32).toNatClampNeg (by omega) b_2 eb_2 1 (by decide)
      have V2b_2 := hV (k : Int32).toNatClampNeg (by omega) b_2 eb_2 2 (by decide)
      have V8b_2 := hV (k : Int32).toNatClampNeg (by omega) b_2 eb_2 8 (by decide)
      have V9b_2 := hV (k : Int32).toNatClampNeg (by omega) b_2 eb_2 9 (by decide)
      obtain ⟨nu_3, ca_3, so_3, th_3, ma_3, wo_3, lf_3, ld_3, si_3, cp_3, he_3, re_3, sv_3, lt_3, lF_3, sn_3, ab_3, hf_3, hnu_3, hlf_3, hld_3, hsi_3, hcp_3, hsn_3, hab_3⟩ := hI.opA ib_2
      have F1hf_3 : cqF (f b_2) 1 = (ca_3).toInt := by rw [hf_3]; rfl
      have F2hf_3 : cqF (f b_2) 2 = (so_3).toInt := by rw [hf_3]; rfl
      have F8hf_3 : cqF (f b_2) 8 = (si_3).toInt := by rw [hf_3]; rfl
      have F9hf_3 : cqF (f b_2) 9 = (cp_3).toInt := by rw [hf_3]; rfl
      refine pl_get (D := D) (ci := 0) (v := .int ca_3) (C := RX0) (T := TX0) (N := 17) hx hb hts hin_X0 hown hK hP ib_2.1 hf_3 rfl 1 (by decide) (hts (.fieldLink RX8 148 "CryOrder$Alarm" "came" "I") (List.mem_cons_of_mem _ (List.mem_append_left _ (List.mem_append_left _ (List.mem_of_getElem? (i := 3) rfl))))) (fun _ h9 => h9) rfl dX8_isCapFullNow_23 ?_
      refine lv_isub hx hb dX8_isCapFullNow_26 ?_
      refine lv_topi (fun z_4 ez_4 => ?_)
      have tz_4 := sb_toInt (zx := (nw).toInt) (zy := (ca_3).toInt) ez_4 rfl rfl
      refine lv_bipush (v := 9) hx hb dX8_isCapFullNow_27 (by decide) ?_
      refine bi_gt (zx := (z_4).toInt) (zy := 9) (tgt := 66) hx hb dX8_isCapFullNow_29 (by decide) rfl (by decide) (fun c_5 => ?_) (fun c_5 => ?_)
      · exact done_66 k u0 _ (cpF_stop hcp hM (by omega) (by omega)) (lv_sub hl [0, 1, 2, 3] rfl)
      · refine lv_aload_n hx hb dX8_isCapFullNow_32 rfl (lv_at hl 2 rfl) ?_
        refine va_get (D := D) (ci := 8) (v := .ref a1) (C := RX8) (T := TX8) (N := 14) hx hb hts hin_X8 hown hK hP 0 rfl rfl 0 (by decide) (hts (.fieldLink RX8 11 "CryOrder" "alarms" "[LCryOrder$Alarm;") (List.mem_cons_of_mem _ (List.mem_append_left _ (List.mem_append_left _ (List.mem_of_getElem? (i := 2) rfl))))) (fun _ h9 => h9) rfl dX8_isCapFullNow_33 ?_
        refine lv_iload_n hx hb dX8_isCapFullNow_36 rfl (lv_at hl 0 rfl) ?_
        refine va_aldq hx hb hK hP 1 0 rfl rfl (vp_in_iff.mpr (by omega)) dX8_isCapFullNow_37 ?_
        refine lv_topv (z := .ref b_2) (congrArg va_rf eb_2) ?_
        refine pl_get (D := D) (ci := 0) (v := .int so_3) (C := RX0) (T := TX0) (N := 17) hx hb hts hin_X0 hown hK hP ib_2.1 hf_3 rfl 2 (by decide) (hts (.fieldLink RX8 151 "CryOrder$Alarm" "source" "I") (List.mem_cons_of_mem _ (List.mem_append_left _ (List.mem_append_left _ (List.mem_of_getElem? (i := 4) rfl))))) (fun _ h9 => h9) rfl dX8_isCapFullNow_38 ?_
        refine lv_iload_n hx hb dX8_isCapFullNow_41 rfl (lv_at hl 3 rfl) ?_
        refine bi_ne (zx := (so_3).toInt) (zy := (v).toInt) (tgt := 60) hx hb dX8_isCapFullNow_42 (by decide) rfl rfl (fun c_6 => ?_) (fun c_6 => ?_)
        · obtain ⟨x_7, ex_7⟩ : ∃ z : Int32, z = k + (-1) := ⟨_, rfl⟩
          have tx_7 := ad_toInt (x := k) (y := (-1)) (z := x_7) (zx := (k).toInt) (zy := (-1)) ex_7 rfl (by decide)
          refine lv_iinc (v := x_7) (lv' := [(3, .int x_7), (2, .int u0), (0, .ref xo), (1, .int v)]) hx hb dX8_isCapFullNow_60 hl (k := 0) rfl (by rw [ex_7]; rfl) (by decide) rfl (fun ls hl => ?_)
          refine lv_goto (tgt := 9) hx hb dX8_isCapFullNow_63 (by decide) ?_
          exact ih x_7 u0 _ (by first | omega | assumption | decide | (have h3 : (0 : Int32).toInt = 0 := rfl; omega) | (have h3 : (0 : Int32).toInt = 0 := rfl; have h4 : (1 : Int32).toInt = 1 := rfl; have h5 : (-1 : Int32).toInt = -1 := rfl; omega)) (by first | omega | assumption | decide | (have h3 : (0 : Int32).toInt = 0 := rfl; omega) | (have h3 : (0 : Int32).toInt = 0 := rfl; have h4 : (1 : Int32).toInt = 1 := rfl; have h5 : (-1 : Int32).toInt = -1 := rfl; omega)) (cpF_dnS hcp (by omega) (by omega) (fun h9 => by unfold cpC at h9; omega)) (by omega) (lv_sub hl [0, 1, 2, 3] rfl)
        · refine lv_aload_n hx hb dX8_isCapFullNow_45 rfl (lv_at hl 2 rfl) ?_
          refine va_get (D := D) (ci := 8) (v := .ref a1) (C := RX8) (T := TX8) (N := 14) hx hb hts hin_X8 hown hK hP 0 rfl rfl 0 (by decide) (hts (.fieldLink RX8 11 "CryOrder" "alarms" "[LCryOrder$Alarm;") (List.mem_cons_of_mem _ (List.mem_append_left _ (List.mem_append_left _ (List.mem_of_getElem? (i := 2) rfl))))) (fun _ h9 => h9) rfl dX8_isCapFullNow_46 ?_
          refine lv_iload_n hx hb dX8_isCapFullNow_49 rfl (lv_at hl 0 rfl) ?_
          refine va_aldq hx hb hK hP 1 0 rfl rfl (vp_in_iff.mpr (by omega)) dX8_isCapFullNow_50 ?_
          refine lv_topv (z := .ref b_2) (congrArg va_rf eb_2) ?_
          refine vp_callSi (wrV (As := []) (rest := []) ⟨hx, hb, hml, hown, hts⟩ hN hK hP hD (c_X0_isHushedR l D [oC xo 8 [.ref a1, .ref a2, .ref a3, .ref ro, .ref tI, .ref cS, .ref pN, .int na, .int ns, .int nw, .int cp, .int le, .int tr, .int sl], aR a1 e1 200 (g1), aR a2 e2 40 (g2), aR a3 e3 30 (g3), oC tI 7 [.ref a4, .int tz], aR a4 e4 60 (g4), oC cS 2 [.ref a5, .int cz], aR a5 e5 200 (g5), oC pN 5 [.ref a6, .ref a7, .ref a8, .ref a9, .int q1, .int q2, .int q3, .int q4], aR a6 e6 17 (g6), aR a7 e7 12 (g7), aI a8 e8 301 (y8), aI a9 e9 301 (y9)] L K f S [(e1, .object RX0), (e2, .object RX0), (e3, .object RX6), (e4, .object RX4), (e5, .object RX1), (e6, .object RX1), (e7, .object RX1), (e8, .int), (e9, .int)] b_2 hI ib_2) (cwV 0 hts gX8_isCapFullNow_X0_isHushed rfl rfl rfl (by decide +kernel) ⟨Nat.le_trans (m := 1) (Nat.le_of_ble_eq_true rfl) hR.1, Nat.le_trans (m := 20) (Nat.le_of_ble_eq_true rfl) hR.2⟩) 0 rfl (cq_rcA (X := [oC xo 8 [.ref a1, .ref a2, .ref a3, .ref ro, .ref tI, .ref cS, .ref pN, .int na, .int ns, .int nw, .int cp, .int le, .int tr, .int sl], aR a1 e1 200 (g1), aR a2 e2 40 (g2), aR a3 e3 30 (g3), oC tI 7 [.ref a4, .int tz], aR a4 e4 60 (g4), oC cS 2 [.ref a5, .int cz], aR a5 e5 200 (g5), oC pN 5 [.ref a6, .ref a7, .ref a8, .ref a9, .int q1, .int q2, .int q3, .int q4], aR a6 e6 17 (g6), aR a7 e7 12 (g7), aI a8 e8 301 (y8), aI a9 e9 301 (y9)]) hI ib_2) rfl hl.1 rfl (Nat.le_of_ble_eq_true rfl) dX8_isCapFullNow_51 ⟨hcs.1, hcs.2⟩) (fun r_8 h_9 => ?_)
          rcases h_9 with ⟨h_9, rfl⟩ | ⟨h_9, rfl⟩
          · have h_9 : ¬ (cqF (f b_2) 8 = 0 ∧ cqF (f b_2) 9 = 0) := h_9
            refine lv_if_ne (tgt := 60) hx hb dX8_isCapFullNow_54 (by decide) (fun _ => ?_) (fun c_ => absurd c_ (by decide))
            obtain ⟨x_10, ex_10⟩ : ∃ z : Int32, z = k + (-1) := ⟨_, rfl⟩
            have tx_10 := ad_toInt (x := k) (y := (-1)) (z := x_10) (zx := (k).toInt) (zy := (-1)) ex_10 rfl (by decide)
            refine lv_iinc (v := x_10) (lv' := [(3, .int x_10), (2, .int u0), (0, .ref xo), (1, .int v)]) hx hb dX8_isCapFullNow_60 hl (k := 0) rfl (by rw [ex_10]; rfl) (by decide) rfl (fun ls hl => ?_)
            refine lv_goto (tgt := 9) hx hb dX8_isCapFullNow_63 (by decide) ?_
            exact ih x_10 u0 _ (by first | omega | assumption | decide | (have h3 : (0 : Int32).toInt = 0 := rfl; omega) | (have h3 : (0 : Int32).toInt = 0 := rfl; have h4 : (1 : Int32).toInt = 1 := rfl; have h5 : (-1 : Int32).toInt = -1 := rfl; omega)) (by first | omega | assumption | decide | (have h3 : (0 : Int32).toInt = 0 := rfl; omega) | (have h3 : (0 : Int32).toInt = 0 := rfl; have h4 : (1 : Int32).toInt = 1 := rfl; have h5 : (-1 : Int32).toInt = -1 := rfl; omega)) (cpF_dnS hcp (by omega) (by omega) (fun h9 => by unfold cpC at h9; omega)) (by omega) (lv_sub hl [0, 1, 2, 3] rfl)
          · have h_9 : cqF (f b_2) 8 = 0 ∧ cqF (f b_2) 9 = 0 := h_9
            refine lv_if_ne (tgt := 60) hx hb dX8_isCapFullNow_54 (by decide) (fun c_ => absurd c_ (by decide)) (fun _ => ?_)
            obtain ⟨x_11, ex_11⟩ : ∃ z : Int32, z = u0 + 1 := ⟨_, rfl⟩
            have tx_11 := ad_toInt (x := u0) (y := 1) (z := x_11) (zx := (u0).toInt) (zy := 1) ex_11 rfl (by decide)
            refine lv_iinc (v := x_11) (lv' := [(2, .int x_11), (3, .int k), (0, .ref xo), (1, .int v)]) hx hb dX8_isCapFullNow_57 hl (k := 1) rfl (by rw [ex_11]; rfl) (by decide) rfl (fun ls hl => ?_)
            obtain ⟨x_12, ex_12⟩ : ∃ z : Int32, z = k + (-1) := ⟨_, rfl⟩
            have tx_12 := ad_toInt (x := k) (y := (-1)) (z := x_12) (zx := (k).toInt) (zy := (-1)) ex_12 rfl (by decide)
            refine lv_iinc (v := x_12) (lv' := [(3, .int x_12), (2, .int x_11), (0, .ref xo), (1, .int v)]) hx hb dX8_isCapFullNow_60 hl (k := 1) rfl (by rw [ex_12]; rfl) (by decide) rfl (fun ls hl => ?_)
            refine lv_goto (tgt := 9) hx hb dX8_isCapFullNow_63 (by decide) ?_
            exact ih x_12 x_11 _ (by first | omega | assumption | decide | (have h3 : (0 : Int32).toInt = 0 := rfl; omega) | (have h3 : (0 : Int32).toInt = 0 := rfl; have h4 : (1 : Int32).toInt = 1 := rfl; have h5 : (-1 : Int32).toInt = -1 := rfl; omega)) (by first | omega | assumption | decide | (have h3 : (0 : Int32).toInt = 0 := rfl; omega) | (have h3 : (0 : Int32).toInt = 0 := rfl; have h4 : (1 : Int32).toInt = 1 := rfl; have h5 : (-1 : Int32).toInt = -1 := rfl; omega)) (cpF_dnH hcp (by omega) (by omega) (by omega) (by unfold cpC; omega)) (by omega) (lv_sub hl [0, 1, 2, 3] rfl)
