set_option maxHeartbeats 4000000 in
set_option maxRecDepth 100000 in
theorem c_X8_isCapFullNowR (l : Launch) (D : va_G) (xo : Nat) (ro : Nat) (tI : Nat) (cS : Nat) (pN : Nat) (a1 : Nat) (a2 : Nat) (a3 : Nat) (a4 : Nat) (a5 : Nat) (a6 : Nat) (a7 : Nat) (a8 : Nat) (a9 : Nat) (e1 : ClassId) (e2 : ClassId) (e3 : ClassId) (e4 : ClassId) (e5 : ClassId) (e6 : ClassId) (e7 : ClassId) (e8 : ClassId) (e9 : ClassId) (na : Int32) (ns : Int32) (nw : Int32) (cp : Int32) (le : Int32) (tr : Int32) (sl : Int32) (tz : Int32) (cz : Int32) (q1 : Int32) (q2 : Int32) (q3 : Int32) (q4 : Int32) (g1 : Nat → Option Nat) (g2 : Nat → Option Nat) (g3 : Nat → Option Nat) (g4 : Nat → Option Nat) (g5 : Nat → Option Nat) (g6 : Nat → Option Nat) (g7 : Nat → Option Nat) (y8 : Nat → Int32) (y9 : Nat → Int32) (L : List Nat) (K : Nat → Nat × Nat) (f : Nat → va_E) (S : Int) (v : Int32) (V : Nat → Nat → Int) (hI : cqI S L K f) (hna : 0 ≤ (na).toInt ∧ (na).toInt ≤ 200) (j1 : cqJA L K (na).toInt g1) (hV : cqV f g1 (na).toInt V) (hM : ∀ i j : Nat, i ≤ j → (j : Int) < (na).toInt → V i 1 ≤ V j 1) (hCm : ∀ i : Nat, (i : Int) < (na).toInt → 0 ≤ V i 1 ∧ V i 1 ≤ 10000) (hnw : 0 ≤ (nw).toInt ∧ (nw).toInt ≤ 10000) : Met l yX8_isCapFullNow wsX8_isCapFullNow ({ frames := 1, cells := 0, slots := 0, locals := 20 }) (va_Pc [.ref xo, .int v] (wo D [(e1, .object RX0), (e2, .object RX0), (e3, .object RX6), (e4, .object RX4), (e5, .object RX1), (e6, .object RX1), (e7, .object RX1), (e8, .int), (e9, .int)] ([oC xo 8 [.ref a1, .ref a2, .ref a3, .ref ro, .ref tI, .ref cS, .ref pN, .int na, .int ns, .int nw, .int cp, .int le, .int tr, .int sl], aR a1 e1 200 (g1), aR a2 e2 40 (g2), aR a3 e3 30 (g3), oC tI 7 [.ref a4, .int tz], aR a4 e4 60 (g4), oC cS 2 [.ref a5, .int cz], aR a5 e5 200 (g5), oC pN 5 [.ref a6, .ref a7, .ref a8, .ref a9, .int q1, .int q2, .int q3, .int q4], aR a6 e6 17 (g6), aR a7 e7 12 (g7), aI a8 e8 301 (y8), aI a9 e9 301 (y9)] ++ va_pl L f))) (vp_Si (fun r => (((cp).toInt ≤ cpF V (v).toInt (nw).toInt (na).toInt.toNat) ∧ r = 1) ∨ ((¬ (cp).toInt ≤ cpF V (v).toInt (nw).toInt (na).toInt.toNat) ∧ r = 0))) 0 0 (fun _ => False) := by
  refine Met.ofW (cc := cX8_isCapFullNow) (maxL := 4) (ret := (some .boolean)) (by decide) rfl ?_
  intro p e s m args below meth c s₁ B hml hv
  obtain ⟨rfl, hP, hK, hD, hN⟩ := hv
  have hx := B.exec
  have hb := B.bytes
  have hr := B.returns
  have hts := atoms_spec (ws := wsX8_isCapFullNow) B.pre
  have hown : s.vm.findClass RX8 = some m.cls := findClass_of_methodNamed B.named
  have hlocks := B.notSynchronized
  have hin_X8 : ∀ w ∈ u_ws RX8 TX8 14, w ∈ wsX8_isCapFullNow := fun w h => List.mem_cons_of_mem _ (List.mem_append_left _ (List.mem_append_right _ (h)))
  have hl := lv_entry ([.ref xo, .int v]) (n := 4) (Nat.le_of_ble_eq_true rfl)
  rw [lg_entry_eq]
  generalize (lg_sl ([.ref xo, .int v]) ++ List.replicate (4 - (lg_sl ([.ref xo, .int v])).length) Slot.unset).toArray = ls at hl ⊢
  have hl : lv_has ls 4 [(0, .ref xo), (1, .int v)] := hl
  refine lv_iconst (v := 0) hx hb dX8_isCapFullNow_0 (by decide) ?_
  refine lv_istore_n (lv' := [(2, .int 0), (0, .ref xo), (1, .int v)]) hx hb dX8_isCapFullNow_1 rfl hl (by decide) rfl (fun ls hl => ?_)
  refine lv_aload_n hx hb dX8_isCapFullNow_2 rfl (lv_at hl 1 rfl) ?_
  refine va_get (D := D) (ci := 8) (v := .int na) (C := RX8) (T := TX8) (N := 14) hx hb hts hin_X8 hown hK hP 0 rfl rfl 7 (by decide) (hts (.fieldLink RX8 79 "CryOrder" "alarmCount" "I") (List.mem_cons_of_mem _ (List.mem_append_left _ (List.mem_append_left _ (List.mem_of_getElem? (i := 0) rfl))))) (fun _ h9 => h9) rfl dX8_isCapFullNow_3 ?_
  refine lv_iconst (v := 1) hx hb dX8_isCapFullNow_6 (by decide) ?_
  refine lv_isub hx hb dX8_isCapFullNow_7 ?_
  refine lv_topi (fun z_1 ez_1 => ?_)
  have tz_1 := sb_toInt (zx := (na).toInt) (zy := 1) ez_1 rfl (by decide)
  refine lv_istore_n (lv' := [(3, .int z_1), (2, .int 0), (0, .ref xo), (1, .int v)]) hx hb dX8_isCapFullNow_8 rfl hl (by decide) rfl (fun ls hl => ?_)
  refine rl_capfull hx hb hts hml hown hN hK hP hD ⟨(Nat.le_of_ble_eq_true rfl), (Nat.le_of_ble_eq_true rfl)⟩ ⟨(Nat.le_of_ble_eq_true rfl), (Nat.le_of_ble_eq_true rfl)⟩ hI (by first | omega | assumption | decide | (have h3 : (0 : Int32).toInt = 0 := rfl; omega) | (have h3 : (0 : Int32).toInt = 0 := rfl; have h4 : (1 : Int32).toInt = 1 := rfl; have h5 : (-1 : Int32).toInt = -1 := rfl; omega)) j1 (by first | omega | assumption | decide | (have h3 : (0 : Int32).toInt = 0 := rfl; omega) | (have h3 : (0 : Int32).toInt = 0 := rfl; have h4 : (1 : Int32).toInt = 1 := rfl; have h5 : (-1 : Int32).toInt = -1 := rfl; omega)) (by first | omega | assumption | decide | (have h3 : (0 : Int32).toInt = 0 := rfl; omega) | (have h3 : (0 : Int32).toInt = 0 := rfl; have h4 : (1 : Int32).toInt = 1 := rfl; have h5 : (-1 : Int32).toInt = -1 := rfl; omega)) (by first | omega | assumption | decide | (have h3 : (0 : Int32).toInt = 0 := rfl; omega) | (have h3 : (0 : Int32).toInt = 0 := rfl; have h4 : (1 : Int32).toInt = 1 := rfl; have h5 : (-1 : Int32).toInt = -1 := rfl; omega)) (by first | omega | assumption | decide | (have h3 : (0 : Int32).toInt = 0 := rfl; omega) | (have h3 : (0 : Int32).toInt = 0 := rfl; have h4 : (1 : Int32).toInt = 1 := rfl; have h5 : (-1 : Int32).toInt = -1 := rfl; omega)) (fun k_2 u_3 ls h_5 hl => ?_) _ z_1 0 _ (by first | omega | assumption | decide | (have h3 : (0 : Int32).toInt = 0 := rfl; omega) | (have h3 : (0 : Int32).toInt = 0 := rfl; have h4 : (1 : Int32).toInt = 1 := rfl; have h5 : (-1 : Int32).toInt = -1 := rfl; omega)) (by first | omega | assumption | decide | (have h3 : (0 : Int32).toInt = 0 := rfl; omega) | (have h3 : (0 : Int32).toInt = 0 := rfl; have h4 : (1 : Int32).toInt = 1 := rfl; have h5 : (-1 : Int32).toInt = -1 := rfl; omega)) (show (0 : Int32).toInt + cpF V (v).toInt (nw).toInt _ = cpF V (v).toInt (nw).toInt (na).toInt.toNat by rw [show ((z_1).toInt + 1).toNat = (na).toInt.toNat by omega]; exact Int.zero_add _) (Nat.lt_succ_self _) (lv_sub hl [0, 1, 2, 3] rfl)
  have h_5 : (u_3).toInt = (cpF V (v).toInt (nw).toInt (na).toInt.toNat) := h_5
  refine lv_iload_n hx hb dX8_isCapFullNow_66 rfl (lv_at hl 1 rfl) ?_
  refine lv_aload_n hx hb dX8_isCapFullNow_67 rfl (lv_at hl 2 rfl) ?_
  refine va_get (D := D) (ci := 8) (v := .int cp) (C := RX8) (T := TX8) (N := 14) hx hb hts hin_X8 hown hK hP 0 rfl rfl 10 (by decide) (hts (.fieldLink RX8 54 "CryOrder" "cap" "I") (List.mem_cons_of_mem _ (List.mem_append_left _ (List.mem_append_left _ (List.mem_of_getElem? (i := 5) rfl))))) (fun _ h9 => h9) rfl dX8_isCapFullNow_68 ?_
  refine bi_lt (zx := (u_3).toInt) (zy := (cp).toInt) (tgt := 78) hx hb dX8_isCapFullNow_71 (by decide) rfl rfl (fun c_6 => ?_) (fun c_6 => ?_)
  · refine lv_iconst (v := 0) hx hb dX8_isCapFullNow_78 (by decide) ?_
    exact W.zret (v := 0) hx hb hr rfl (fun t ht hW => ⟨0, rfl, Or.inr ⟨by omega, rfl⟩, ht⟩) (fun q h => by cases h) dX8_isCapFullNow_79
  · refine lv_iconst (v := 1) hx hb dX8_isCapFullNow_74 (by decide) ?_
    refine lv_goto (tgt := 79) hx hb dX8_isCapFullNow_75 (by decide) ?_
    exact W.zret (v := 1) hx hb hr rfl (fun t ht hW => ⟨1, rfl, Or.inl ⟨by omega, rfl⟩, ht⟩) (fun q h => by cases h) dX8_isCapFullNow_79
