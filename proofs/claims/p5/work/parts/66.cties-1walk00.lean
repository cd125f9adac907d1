set_option maxHeartbeats 4000000 in
set_option maxRecDepth 100000 in
theorem cl_tfind {p : Program} {l : Launch} {e : Env} {R : Room} {s : State} {m : MethodId} {args : Array Value} {below : List Frame} {meth : Method} {c : Code} {Q : State → Prop} {A : Nat → Prop} {cells slots : Nat} {D : va_G} {H : Heap} {locs : List Loc} {xo : Nat} {ro : Nat} {tI : Nat} {cS : Nat} {pN : Nat} {a1 : Nat} {a2 : Nat} {a3 : Nat} {a4 : Nat} {a5 : Nat} {a6 : Nat} {a7 : Nat} {a8 : Nat} {a9 : Nat} {e1 : ClassId} {e2 : ClassId} {e3 : ClassId} {e4 : ClassId} {e5 : ClassId} {e6 : ClassId} {e7 : ClassId} {e8 : ClassId} {e9 : ClassId} {na : Int32} {ns : Int32} {nw : Int32} {cp : Int32} {le : Int32} {tr : Int32} {sl : Int32} {tz : Int32} {cz : Int32} {q1 : Int32} {q2 : Int32} {q3 : Int32} {q4 : Int32} {g1 : Nat → Option Nat} {g2 : Nat → Option Nat} {g3 : Nat → Option Nat} {g4 : Nat → Option Nat} {g5 : Nat → Option Nat} {g6 : Nat → Option Nat} {g7 : Nat → Option Nat} {y8 : Nat → Int32} {y9 : Nat → Int32} {L : List Nat} {K : Nat → Nat × Nat} {f : Nat → va_E} {S : Int} {u1 : Int32} {u2 : Int32} {v : Int32} {w : Int32} (hx : p.tables.exec = Jvm.exec) (hb : c.code = cX7_find) (hts : ∀ w ∈ wsX7_find, w.before args s = true) (hml : c.maxLocals = 6) (hown : s.vm.findClass RX7 = some m.cls) (hN : Nq s) (hK : va_K D vwCl [(e1, .object RX0), (e2, .object RX0), (e3, .object RX6), (e4, .object RX4), (e5, .object RX1), (e6, .object RX1), (e7, .object RX1), (e8, .int), (e9, .int)] s) (hP : va_P D vwCl ([oC xo 8 [.ref a1, .ref a2, .ref a3, .ref ro, .ref tI, .ref cS, .ref pN, .int na, .int ns, .int nw, .int cp, .int le, .int tr, .int sl], aR a1 e1 200 (g1), aR a2 e2 40 (g2), aR a3 e3 30 (g3), oC tI 7 [.ref a4, .int tz], aR a4 e4 60 (g4), oC cS 2 [.ref a5, .int cz], aR a5 e5 200 (g5), oC pN 5 [.ref a6, .ref a7, .ref a8, .ref a9, .int q1, .int q2, .int q3, .int q4], aR a6 e6 17 (g6), aR a7 e7 12 (g7), aI a8 e8 301 (y8), aI a9 e9 301 (y9)] ++ va_pl L f) H) (hD : va_D A ([oC xo 8 [.ref a1, .ref a2, .ref a3, .ref ro, .ref tI, .ref cS, .ref pN, .int na, .int ns, .int nw, .int cp, .int le, .int tr, .int sl], aR a1 e1 200 (g1), aR a2 e2 40 (g2), aR a3 e3 30 (g3), oC tI 7 [.ref a4, .int tz], aR a4 e4 60 (g4), oC cS 2 [.ref a5, .int cz], aR a5 e5 200 (g5), oC pN 5 [.ref a6, .ref a7, .ref a8, .ref a9, .int q1, .int q2, .int q3, .int q4], aR a6 e6 17 (g6), aR a7 e7 12 (g7), aI a8 e8 301 (y8), aI a9 e9 301 (y9)] ++ va_pl L f)) (hR : 0 ≤ R.frames ∧ 0 ≤ R.locals) (hcs : cells ≤ R.cells ∧ slots ≤ R.slots) (hI : cqI S L K f) (htz : 0 ≤ (tz).toInt ∧ (tz).toInt ≤ 60) (j4 : cqJ L K 4 (tz).toInt g4) (done_54 : ∀ (k : Int32) (ls : Array Slot), (0 ≤ (k).toInt ∧ (k).toInt < (tz).toInt) → lv_has ls 6 [(5, .int k), (4, .int u2), (3, .int u1), (0, .ref tI), (1, .int v), (2, .int w)] → W p l e R s m args below meth c H locs cells slots Q (F0 m 54 ls [])) (done_68 : ∀ (k : Int32) (ls : Array Slot), lv_has ls 6 [(5, .int k), (4, .int u2), (3, .int u1), (0, .ref tI), (1, .int v), (2, .int w)] → W p l e R s m args below meth c H locs cells slots Q (F0 m 68 ls [])) : ∀ (n : Nat), ∀ (k : Int32) (ls : Array Slot), (0 ≤ (k).toInt) → ((60 - (k).toInt).toNat < n) → lv_has ls 6 [(5, .int k), (4, .int u2), (3, .int u1), (0, .ref tI), (1, .int v), (2, .int w)] → W p l e R s m args below meth c H locs cells slots Q (F0 m 16 ls []) := by
  have hin_X4 : ∀ w ∈ u_ws RX4 TX4 3, w ∈ wsX7_find := fun w h => List.mem_cons_of_mem _ (List.mem_append_right _ (h))
  have hin_X7 : ∀ w ∈ u_ws RX7 TX7 2, w ∈ wsX7_find := fun w h => List.mem_cons_of_mem _ (List.mem_append_left _ (List.mem_append_right _ (h)))
  intro n
  induction n with
  | zero => intro k ls hk hmu hl; exact absurd hmu (Nat.not_lt_zero _)
  | succ n ih =>
    intro k ls hk hmu hl
    refine lv_iload hx hb dX7_find_16 (lv_at hl 0 rfl) ?_
    refine lv_aload_n hx hb dX7_find_18 rfl (lv_at hl 3 rfl) ?_
    refine va_get (D := D) (ci := 7) (v := .int tz) (C := RX7) (T := TX7) (N := 2) hx hb hts hin_X7 hown hK hP 4 rfl rfl 1 (by decide) (hts (.fieldLink RX7 26 "CryOrder$Ties" "size" "I") (List.mem_cons_of_mem _ (List.mem_append_left _ (List.mem_append_left _ (List.mem_of_getElem? (i := 7) rfl))))) (fun _ h9 => h9) rfl dX7_find_19 ?_
    refine bi_ge (zx := (k).toInt) (zy := (tz).toInt) (tgt := 68) hx hb dX7_find_22 (by decide) rfl rfl (fun c_1 => ?_) (fun c_1 => ?_)
    · exact done_68 k _  (lv_sub hl [0, 1, 2, 3, 4, 5] rfl)
    · refine lv_aload_n hx hb dX7_find_25 rfl (lv_at hl 3 rfl) ?_
      refine va_get (D := D) (ci := 7) (v := .ref a4) (C := RX7) (T := TX7) (N := 2) hx hb hts hin_X7 hown hK hP 4 rfl rfl 0 (by decide) (hts (.fieldLink RX7 11 "CryOrder$Ties" "pairs" "[LCryOrder$Pair;") (List.mem_cons_of_mem _ (List.mem_append_left _ (List.mem_append_left _ (List.mem_of_getElem? (i := 8) rfl))))) (fun _ h9 => h9) rfl dX7_find_26 ?_
      refine lv_iload hx hb dX7_find_29 (lv_at hl 0 rfl) ?_
      refine va_aldq hx hb hK hP 5 3 rfl rfl (vp_in_iff.mpr (by omega)) dX7_find_31 ?_
      obtain ⟨b_2, eb_2, ib_2⟩ := cqJ.get (i := (k : Int32)) j4 (by first | omega | decide) (by first | omega | decide)
      refine lv_topv (z := .ref b_2) (congrArg va_rf eb_2) ?_
      obtain ⟨lo_3, gr_3, jo_3, hf_3⟩ := hI.opP ib_2
      refine pl_get (D := D) (ci := 4) (v := .int lo_3) (C := RX4) (T := TX4) (N := 3) hx hb hts hin_X4 hown hK hP ib_2.1 hf_3 rfl 0 (by decide) (hts (.fieldLink RX7 30 "CryOrder$Pair" "lesser" "I") (List.mem_cons_of_mem _ (List.mem_append_left _ (List.mem_append_left _ (List.mem_of_getElem? (i := 9) rfl))))) (fun _ h9 => h9) rfl dX7_find_32 ?_
      refine lv_iload_n hx hb dX7_find_35 rfl (lv_at hl 2 rfl) ?_
      refine bi_ne (zx := (lo_3).toInt) (zy := (u1).toInt) (tgt := 62) hx hb dX7_find_36 (by decide) rfl rfl (fun c_4 => ?_) (fun c_4 => ?_)
      · obtain ⟨x_5, ex_5⟩ : ∃ z : Int32, z = k + 1 := ⟨_, rfl⟩
        have tx_5 := ad_toInt (x := k) (y := 1) (z := x_5) (zx := (k).toInt) (zy := 1) ex_5 rfl (by decide)
        refine lv_iinc (v := x_5) (lv' := [(5, .int x_5), (4, .int u2), (3, .int u1), (0, .ref tI), (1, .int v), (2, .int w)]) hx hb dX7_find_62 hl (k := 0) rfl (by rw [ex_5]; rfl) (by decide) rfl (fun ls hl => ?_)
        refine lv_goto (tgt := 16) hx hb dX7_find_65 (by decide) ?_
        exact ih x_5 _ (by first | omega | assumption | decide | (have h3 : (0 : Int32).toInt = 0 := rfl; omega) | (have h3 : (0 : Int32).toInt = 0 := rfl; have h4 : (1 : Int32).toInt = 1 := rfl; have h5 : (-1 : Int32).toInt = -1 := rfl; omega)) (by omega) (lv_sub hl [0, 1, 2, 3, 4, 5] rfl)
      · refine lv_aload_n hx hb dX7_find_39 rfl (lv_at hl 3 rfl) ?_
        refine va_get (D := D) (ci := 7) (v := .ref a4) (C := RX7) (T := TX7) (N := 2) hx hb hts hin_X7 hown hK hP 4 rfl rfl 0 (by decide) (hts (.fieldLink RX7 11 "CryOrder$Ties" "pairs" "[LCryOrder$Pair;") (List.mem_cons_of_mem _ (List.mem_append_left _ (List.mem_append_left _ (List.mem_of_getElem? (i := 8) rfl))))) (fun _ h9 => h9) rfl dX7_find_40 ?_
        refine lv_iload hx hb dX7_find_43 (lv_at hl 0 rfl) ?_
        refine va_aldq hx hb hK hP 5 3 rfl rfl (vp_in_iff.mpr (by omega)) dX7_find_45 ?_
        refine lv_topv (z := .ref b_2) (congrArg va_rf eb_2) ?_
        refine pl_get (D := D) (ci := 4) (v := .int gr_3) (C := RX4) (T := TX4) (N := 3) hx hb hts hin_X4 hown hK hP ib_2.1 hf_3 rfl 1 (by decide) (hts (.fieldLink RX7 33 "CryOrder$Pair" "greater" "I") (List.mem_cons_of_mem _ (List.mem_append_left _ (List.mem_append_left _ (List.mem_of_getElem? (i := 10) rfl))))) (fun _ h9 => h9) rfl dX7_find_46 ?_
        refine lv_iload hx hb dX7_find_49 (lv_at hl 1 rfl) ?_
        refine bi_ne (zx := (gr_3).toInt) (zy := (u2).toInt) (tgt := 62) hx hb dX7_find_51 (by decide) rfl rfl (fun c_6 => ?_) (fun c_6 => ?_)
        · obtain ⟨x_7, ex_7⟩ : ∃ z : Int32, z = k + 1 := ⟨_, rfl⟩
          have tx_7 := ad_toInt (x := k) (y := 1) (z := x_7) (zx := (k).toInt) (zy := 1) ex_7 rfl (by decide)
          refine lv_iinc (v := x_7) (lv' := [(5, .int x_7), (4, .int u2), (3, .int u1), (0, .ref tI), (1, .int v), (2, .int w)]) hx hb dX7_find_62 hl (k := 0) rfl (by rw [ex_7]; rfl) (by decide) rfl (fun ls hl => ?_)
          refine lv_goto (tgt := 16) hx hb dX7_find_65 (by decide) ?_
          exact ih x_7 _ (by first | omega | assumption | decide | (have h3 : (0 : Int32).toInt = 0 := rfl; omega) | (have h3 : (0 : Int32).toInt = 0 := rfl; have h4 : (1 : Int32).toInt = 1 := rfl; have h5 : (-1 : Int32).toInt = -1 := rfl; omega)) (by omega) (lv_sub hl [0, 1, 2, 3, 4, 5] rfl)
        · exact done_54 k _ (by first | omega | assumption | decide | (have h3 : (0 : Int32).toInt = 0 := rfl; omega) | (have h3 : (0 : Int32).toInt = 0 := rfl; have h4 : (1 : Int32).toInt = 1 := rfl; have h5 : (-1 : Int32).toInt = -1 := rfl; omega)) (lv_sub hl [0, 1, 2, 3, 4, 5] rfl)

set_option maxHeartbeats 4000000 in
set_option maxRecDepth 100000 in
theorem c_X7_find (l : Launch) (D : va_G) (xo : Nat) (ro : Nat) (tI : Nat) (cS : Nat) (pN : Nat) (a1 : Nat) (a2 : Nat) (a3 : Nat) (a4 : Nat) (a5 : Nat) (a6 : Nat) (a7 : Nat) (a8 : Nat) (a9 : Nat) (e1 : ClassId) (e2 : ClassId) (e3 : ClassId) (e4 : ClassId) (e5 : ClassId) (e6 : ClassId) (e7 : ClassId) (e8 : ClassId) (e9 : ClassId) (na : Int32) (ns : Int32) (nw : Int32) (cp : Int32) (le : Int32) (tr : Int32) (sl : Int32) (tz : Int32) (cz : Int32) (q1 : Int32) (q2 : Int32) (q3 : Int32) (q4 : Int32) (g1 : Nat → Option Nat) (g2 : Nat → Option Nat) (g3 : Nat → Option Nat) (g4 : Nat → Option Nat) (g5 : Nat → Option Nat) (g6 : Nat → Option Nat) (g7 : Nat → Option Nat) (y8 : Nat → Int32) (y9 : Nat → Int32) (L : List Nat) (K : Nat → Nat × Nat) (f : Nat → va_E) (S : Int) (v : Int32) (w : Int32) (hI : cqI S L K f) (htz : 0 ≤ (tz).toInt ∧ (tz).toInt ≤ 60) (j4 : cqJ L K 4 (tz).toInt g4) : Met l yX7_find wsX7_find ({ frames := 1, cells := 0, slots := 0, locals := 13 }) (va_Pc [.ref tI, .int v, .int w] (wo D [(e1, .object RX0), (e2, .object RX0), (e3, .object RX6), (e4, .object RX4), (e5, .object RX1), (e6, .object RX1), (e7, .object RX1), (e8, .int), (e9, .int)] ([oC xo 8 [.ref a1, .ref a2, .ref a3, .ref ro, .ref tI, .ref cS, .ref pN, .int na, .int ns, .int nw, .int cp, .int le, .int tr, .int sl], aR a1 e1 200 (g1), aR a2 e2 40 (g2), aR a3 e3 30 (g3), oC tI 7 [.ref a4, .int tz], aR a4 e4 60 (g4), oC cS 2 [.ref a5, .int cz], aR a5 e5 200 (g5), oC pN 5 [.ref a6, .ref a7, .ref a8, .ref a9, .int q1, .int q2, .int q3, .int q4], aR a6 e6 17 (g6), aR a7 e7 12 (g7), aI a8 e8 301 (y8), aI a9 e9 301 (y9)] ++ va_pl L f))) (va_Sq (fun r => cqOp L K 4 r)) 0 0 (fun _ => False) := by
  refine Met.ofW (cc := cX7_find) (maxL := 6) (ret := (some (.object "CryOrder$Pair"))) (by decide) rfl ?_
  intro p e s m args below meth c s₁ B hml hv
  obtain ⟨rfl, hP, hK, hD, hN⟩ := hv
  have hx := B.exec
  have hb := B.bytes
  have hr := B.returns
  have hts := atoms_spec (ws := wsX7_find) B.pre
  have hown : s.vm.findClass RX7 = some m.cls := findClass_of_methodNamed B.named
  have hlocks := B.notSynchronized
  have hin_X7 : ∀ w ∈ u_ws RX7 TX7 2, w ∈ wsX7_find := fun w h => List.mem_cons_of_mem _ (List.mem_append_left _ (List.mem_append_right _ (h)))
  have hl := lv_entry ([.ref tI, .int v, .int w]) (n := 6) (Nat.le_of_ble_eq_true rfl)
  rw [lg_entry_eq]
  generalize (lg_sl ([.ref tI, .int v, .int w]) ++ List.replicate (6 - (lg_sl ([.ref tI, .int v, .int w])).length) Slot.unset).toArray = ls at hl ⊢
  have hl : lv_has ls 6 [(0, .ref tI), (1, .int v), (2, .int w)] := hl
  refine lv_iload_n hx hb dX7_find_0 rfl (lv_at hl 1 rfl) ?_
  refine lv_iload_n hx hb dX7_find_1 rfl (lv_at hl 2 rfl) ?_
  refine va_mmin hx hb (by rw [hml]; exact hl.1.symm) hown (hts (.methodLink RX7 17 Lib.Math.min.name) (List.mem_cons_of_mem _ (List.mem_append_left _ (List.mem_append_left _ (List.mem_of_getElem? (i := 0) rfl))))) (hts (.static Lib.Math.min.name) (List.mem_cons_of_mem _ (List.mem_append_left _ (List.mem_append_left _ (List.mem_of_getElem? (i := 1) rfl))))) (hts (.initialized "java/lang/Math") (List.mem_cons_of_mem _ (List.mem_append_left _ (List.mem_append_left _ (List.mem_of_getElem? (i := 2) rfl))))) (hts (.code Lib.Math.min.name Lib.Math.min.code 2 (some .int)) (List.mem_cons_of_mem _ (List.mem_append_left _ (List.mem_append_left _ (List.mem_of_getElem? (i := 3) rfl))))) (Nat.le_of_ble_eq_true rfl) (Nat.le_of_ble_eq_true rfl) (Nat.le_of_ble_eq_true rfl) (Nat.le_of_ble_eq_true rfl) dX7_find_2 ?_
  refine lv_topi (fun z_1 ez_1 => ?_)
  have tz_1 := mn_toInt (zx := (v).toInt) (zy := (w).toInt) ez_1 rfl rfl
  refine lv_istore_n (lv' := [(3, .int z_1), (0, .ref tI), (1, .int v), (2, .int w)]) hx hb dX7_find_5 rfl hl (by decide) rfl (fun ls hl => ?_)
  refine lv_iload_n hx hb dX7_find_6 rfl (lv_at hl 2 rfl) ?_
  refine lv_iload_n hx hb dX7_find_7 rfl (lv_at hl 3 rfl) ?_
  refine va_mmax hx hb (by rw [hml]; exact hl.1.symm) hown (hts (.methodLink RX7 23 Lib.Math.max.name) (List.mem_cons_of_mem _ (List.mem_append_left _ (List.mem_append_left _ (List.mem_of_getElem? (i := 4) rfl))))) (hts (.static Lib.Math.max.name) (List.mem_cons_of_mem _ (List.mem_append_left _ (List.mem_append_left _ (List.mem_of_getElem? (i := 5) rfl))))) (hts (.initialized "java/lang/Math") (List.mem_cons_of_mem _ (List.mem_append_left _ (List.mem_append_left _ (List.mem_of_getElem? (i := 2) rfl))))) (hts (.code Lib.Math.max.name Lib.Math.max.code 2 (some .int)) (List.mem_cons_of_mem _ (List.mem_append_left _ (List.mem_append_left _ (List.mem_of_getElem? (i := 6) rfl))))) (Nat.le_of_ble_eq_true rfl) (Nat.le_of_ble_eq_true rfl) (Nat.le_of_ble_eq_true rfl) (Nat.le_of_ble_eq_true rfl) dX7_find_8 ?_
  refine lv_topi (fun z_2 ez_2 => ?_)
  have tz_2 := mx_toInt (zx := (v).toInt) (zy := (w).toInt) ez_2 rfl rfl
  refine lv_istore (lv' := [(4, .int z_2), (3, .int z_1), (0, .ref tI), (1, .int v), (2, .int w)]) hx hb dX7_find_11 hl (by decide) rfl (fun ls hl => ?_)
  refine lv_iconst (v := 0) hx hb dX7_find_13 (by decide) ?_
  refine lv_istore (lv' := [(5, .int 0), (4, .int z_2), (3, .int z_1), (0, .ref tI), (1, .int v), (2, .int w)]) hx hb dX7_find_14 hl (by decide) rfl (fun ls hl => ?_)
  refine cl_tfind hx hb hts hml hown hN hK hP hD ⟨(Nat.le_of_ble_eq_true rfl), (Nat.le_of_ble_eq_true rfl)⟩ ⟨(Nat.le_of_ble_eq_true rfl), (Nat.le_of_ble_eq_true rfl)⟩ hI (by first | omega | assumption | decide | (have h3 : (0 : Int32).toInt = 0 := rfl; omega) | (have h3 : (0 : Int32).toInt = 0 := rfl; have h4 : (1 : Int32).toInt = 1 := rfl; have h5 : (-1 : Int32).toInt = -1 := rfl; omega)) j4 (fun k_3 ls h_5 hl => ?_) (fun k_6 ls  hl => ?_) _ 0 _ (by first | omega | assumption | decide | (have h3 : (0 : Int32).toInt = 0 := rfl; omega) | (have h3 : (0 : Int32).toInt = 0 := rfl; have h4 : (1 : Int32).toInt = 1 := rfl; have h5 : (-1 : Int32).toInt = -1 := rfl; omega)) (Nat.lt_succ_self _) (lv_sub hl [0, 1, 2, 3, 4, 5] rfl)
  · have h_5 : 0 ≤ (k_3).toInt ∧ (k_3).toInt < (tz).toInt := h_5
    refine lv_aload_n hx hb dX7_find_54 rfl (lv_at hl 3 rfl) ?_
    refine va_get (D := D) (ci := 7) (v := .ref a4) (C := RX7) (T := TX7) (N := 2) hx hb hts hin_X7 hown hK hP 4 rfl rfl 0 (by decide) (hts (.fieldLink RX7 11 "CryOrder$Ties" "pairs" "[LCryOrder$Pair;") (List.mem_cons_of_mem _ (List.mem_append_left _ (List.mem_append_left _ (List.mem_of_getElem? (i := 8) rfl))))) (fun _ h9 => h9) rfl dX7_find_55 ?_
    refine lv_iload hx hb dX7_find_58 (lv_at hl 0 rfl) ?_
    refine va_aldq hx hb hK hP 5 3 rfl rfl (vp_in_iff.mpr (by omega)) dX7_find_60 ?_
    obtain ⟨b_8, eb_8, ib_8⟩ := cqJ.get (i := (k_3 : Int32)) j4 (by first | omega | decide) (by first | omega | decide)
    refine lv_topv (z := .ref b_8) (congrArg va_rf eb_8) ?_
    exact W.aret (v := .ref b_8) hx hb hr (Or.inl ⟨_, rfl⟩) (Or.inr ⟨_, rfl⟩) (fun t ht hW => ⟨(some b_8), rfl, (cqOp.some ib_8), ht⟩) (fun q h => by cases h) dX7_find_61
  · skip
    refine lv_null hx hb dX7_find_68 ?_
    exact W.aret (v := .null) hx hb hr (Or.inl ⟨_, rfl⟩) (Or.inl rfl) (fun t ht hW => ⟨none, rfl, cqOp.none, ht⟩) (fun q h => by cases h) dX7_find_69

set_option maxHeartbeats 4000000 in
set_option maxRecDepth 100000 in
theorem c_X7_isParted (l : Launch) (D : va_G) (xo : Nat) (ro : Nat) (tI : Nat) (cS : Nat) (pN : Nat) (a1 : Nat) (a2 : Nat) (a3 : Nat) (a4 : Nat) (a5 : Nat) (a6 : Nat) (a7 : Nat) (a8 : Nat) (a9 : Nat) (e1 : ClassId) (e2 : ClassId) (e3 : ClassId) (e4 : ClassId) (e5 : ClassId) (e6 : ClassId) (e7 : ClassId) (e8 : ClassId) (e9 : ClassId) (na : Int32) (ns : Int32) (nw : Int32) (cp : Int32) (le : Int32) (tr : Int32) (sl : Int32) (tz : Int32) (cz : Int32) (q1 : Int32) (q2 : Int32) (q3 : Int32) (q4 : Int32) (g1 : Nat → Option Nat) (g2 : Nat → Option Nat) (g3 : Nat → Option Nat) (g4 : Nat → Option Nat) (g5 : Nat → Option Nat) (g6 : Nat → Option Nat) (g7 : Nat → Option Nat) (y8 : Nat → Int32) (y9 : Nat → Int32) (L : List Nat) (K : Nat → Nat × Nat) (f : Nat → va_E) (S : Int) (v : Int32) (w : Int32) (hI : cqI S L K f) (htz : 0 ≤ (tz).toInt ∧ (tz).toInt ≤ 60) (j4 : cqJ L K 4 (tz).toInt g4) : Met l yX7_isParted wsX7_isParted ({ frames := 2, cells := 0, slots := 0, locals := 38 }) (va_Pc [.ref tI, .int v, .int w] (wo D [(e1, .object RX0), (e2, .object RX0), (e3, .object RX6), (e4, .object RX4), (e5, .object RX1), (e6, .object RX1), (e7, .object RX1), (e8, .int), (e9, .int)] ([oC xo 8 [.ref a1, .ref a2, .ref a3, .ref ro, .ref tI, .ref cS, .ref pN, .int na, .int ns, .int nw, .int cp, .int le, .int tr, .int sl], aR a1 e1 200 (g1), aR a2 e2 40 (g2), aR a3 e3 30 (g3), oC tI 7 [.ref a4, .int tz], aR a4 e4 60 (g4), oC cS 2 [.ref a5, .int cz], aR a5 e5 200 (g5), oC pN 5 [.ref a6, .ref a7, .ref a8, .ref a9, .int q1, .int q2, .int q3, .int q4], aR a6 e6 17 (g6), aR a7 e7 12 (g7), aI a8 e8 301 (y8), aI a9 e9 301 (y9)] ++ va_pl L f))) (vp_Si (fun r => ((True) ∧ r = 1) ∨ ((True) ∧ r = 0))) 0 0 (fun _ => False) := by
  refine Met.ofW (cc := cX7_isParted) (maxL := 4) (ret := (some .boolean)) (by decide) rfl ?_
  intro p e s m args below meth c s₁ B hml hv
  obtain ⟨rfl, hP, hK, hD, hN⟩ := hv
  have hx := B.exec
  have hb := B.bytes
  have hr := B.returns
  have hts := atoms_spec (ws := wsX7_isParted) B.pre
  have hown : s.vm.findClass RX7 = some m.cls := findClass_of_methodNamed B.named
  have hlocks := B.notSynchronized
  have hin_X4 : ∀ w ∈ u_ws RX4 TX4 3, w ∈ wsX7_isParted := fun w h => List.mem_cons_of_mem _ (List.mem_append_left _ (List.mem_append_right _ (h)))
  have hl := lv_entry ([.ref tI, .int v, .int w]) (n := 4) (Nat.le_of_ble_eq_true rfl)
  rw [lg_entry_eq]
  generalize (lg_sl ([.ref tI, .int v, .int w]) ++ List.replicate (4 - (lg_sl ([.ref tI, .int v, .int w])).length) Slot.unset).toArray = ls at hl ⊢
  have hl : lv_has ls 4 [(0, .ref tI), (1, .int v), (2, .int w)] := hl
  refine lv_aload_n hx hb dX7_isParted_0 rfl (lv_at hl 0 rfl) ?_
  refine lv_iload_n hx hb dX7_isParted_1 rfl (lv_at hl 1 rfl) ?_
  refine lv_iload_n hx hb dX7_isParted_2 rfl (lv_at hl 2 rfl) ?_
  refine va_csq (wrV (As := [.int v, .int w]) (rest := []) ⟨hx, hb, hml, hown, hts⟩ hN hK hP hD (c_X7_find l D xo ro tI cS pN a1 a2 a3 a4 a5 a6 a7 a8 a9 e1 e2 e3 e4 e5 e6 e7 e8 e9 na ns nw cp le tr sl tz cz q1 q2 q3 q4 g1 g2 g3 g4 g5 g6 g7 y8 y9 L K f S v w hI (by first | omega | assumption | decide | (have h3 : (0 : Int32).toInt = 0 := rfl; omega) | (have h3 : (0 : Int32).toInt = 0 := rfl; have h4 : (1 : Int32).toInt = 1 := rfl; have h5 : (-1 : Int32).toInt = -1 := rfl; omega)) j4) (cwV 2 hts gX7_isParted_X7_find rfl rfl rfl (by decide +kernel) ⟨(Nat.le_of_ble_eq_true rfl), (Nat.le_of_ble_eq_true rfl)⟩) 7 rfl ⟨4, _, rfl⟩ rfl hl.1 rfl (Nat.le_of_ble_eq_true rfl) dX7_isParted_3 ⟨(Nat.le_of_ble_eq_true rfl), (Nat.le_of_ble_eq_true rfl)⟩) (fun r_1 h_2 => ?_)
  have h_2 : cqOp L K 4 r_1 := h_2
  refine q_astore_n (r := r_1) (lv' := [(3, va_rf r_1), (0, .ref tI), (1, .int v), (2, .int w)]) hx hb dX7_isParted_6 rfl hl (by decide) rfl (fun ls hl => ?_)
  refine q_aload_n hx hb dX7_isParted_7 rfl (lv_at hl 0 rfl) ?_
  rcases r_1 with _ | b_3
  · have hl : lv_has ls 4 [(3, .null), (0, .ref tI), (1, .int v), (2, .int w)] := hl
    refine lv_ifnullN (tgt := 22) hx hb dX7_isParted_8 (by decide) ?_
    refine lv_iconst (v := 0) hx hb dX7_isParted_22 (by decide) ?_
    exact W.zret (v := 0) hx hb hr rfl (fun t ht hW => ⟨0, rfl, Or.inr ⟨trivial, rfl⟩, ht⟩) (fun q h => by cases h) dX7_isParted_23
  · have hl : lv_has ls 4 [(3, .ref b_3), (0, .ref tI), (1, .int v), (2, .int w)] := hl
    have is_4 := h_2 b_3 rfl
    refine lv_ifnull hx hb dX7_isParted_8 ?_
    refine lv_aload_n hx hb dX7_isParted_11 rfl (lv_at hl 0 rfl) ?_
    obtain ⟨lo_5, gr_5, jo_5, hf_5⟩ := hI.opP is_4
    refine pl_get (D := D) (ci := 4) (v := .int jo_5) (C := RX4) (T := TX4) (N := 3) hx hb hts hin_X4 hown hK hP is_4.1 hf_5 rfl 2 (by decide) (hts (.fieldLink RX7 40 "CryOrder$Pair" "joined" "Z") (List.mem_cons_of_mem _ (List.mem_append_left _ (List.mem_append_left _ (List.mem_of_getElem? (i := 0) rfl))))) (fun _ h9 => h9) rfl dX7_isParted_12 ?_
    refine bz_ne (zx := (jo_5).toInt) (tgt := 22) hx hb dX7_isParted_15 (by decide) rfl (fun c_6 => ?_) (fun c_6 => ?_)
    · refine lv_iconst (v := 0) hx hb dX7_isParted_22 (by decide) ?_
      exact W.zret (v := 0) hx hb hr rfl (fun t ht hW => ⟨0, rfl, Or.inr ⟨trivial, rfl⟩, ht⟩) (fun q h => by cases h) dX7_isParted_23
    · refine lv_iconst (v := 1) hx hb dX7_isParted_18 (by decide) ?_
      refine lv_goto (tgt := 23) hx hb dX7_isParted_19 (by decide) ?_
      exact W.zret (v := 1) hx hb hr rfl (fun t ht hW => ⟨1, rfl, Or.inl ⟨trivial, rfl⟩, ht⟩) (fun q h => by cases h) dX7_isParted_23
