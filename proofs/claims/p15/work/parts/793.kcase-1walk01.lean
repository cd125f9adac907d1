set_option maxHeartbeats 4000000 in
set_option maxRecDepth 100000 in
theorem c_X7_isPartedK (l : Launch) (D : va_G) (xo : Nat) (ro : Nat) (tI : Nat) (cS : Nat) (pN : Nat) (a1 : Nat) (a2 : Nat) (a3 : Nat) (a4 : Nat) (a5 : Nat) (a6 : Nat) (a7 : Nat) (a8 : Nat) (a9 : Nat) (e1 : ClassId) (e2 : ClassId) (e3 : ClassId) (e4 : ClassId) (e5 : ClassId) (e6 : ClassId) (e7 : ClassId) (e8 : ClassId) (e9 : ClassId) (na : Int32) (ns : Int32) (nw : Int32) (cp : Int32) (le : Int32) (tr : Int32) (sl : Int32) (tz : Int32) (cz : Int32) (q1 : Int32) (q2 : Int32) (q3 : Int32) (q4 : Int32) (g1 : Nat → Option Nat) (g2 : Nat → Option Nat) (g3 : Nat → Option Nat) (g4 : Nat → Option Nat) (g5 : Nat → Option Nat) (g6 : Nat → Option Nat) (g7 : Nat → Option Nat) (y8 : Nat → Int32) (y9 : Nat → Int32) (L : List Nat) (K : Nat → Nat × Nat) (f : Nat → va_E) (S : Int) (v : Int32) (w : Int32) (Y : Nat → Nat → Int) (hI : cqI S L K f) (htz : 0 ≤ (tz).toInt ∧ (tz).toInt ≤ 60) (j4 : cqJ L K 4 (tz).toInt g4) (hY : cqW f g4 (tz).toInt Y) : Met l yX7_isParted wsX7_isParted ({ frames := 2, cells := 0, slots := 0, locals := 38 }) (va_Pc [.ref tI, .int v, .int w] (wo D [(e1, .object RX0), (e2, .object RX0), (e3, .object RX6), (e4, .object RX4), (e5, .object RX1), (e6, .object RX1), (e7, .object RX1), (e8, .int), (e9, .int)] ([oC xo 8 [.ref a1, .ref a2, .ref a3, .ref ro, .ref tI, .ref cS, .ref pN, .int na, .int ns, .int nw, .int cp, .int le, .int tr, .int sl], aR a1 e1 200 (g1), aR a2 e2 40 (g2), aR a3 e3 30 (g3), oC tI 7 [.ref a4, .int tz], aR a4 e4 60 (g4), oC cS 2 [.ref a5, .int cz], aR a5 e5 200 (g5), oC pN 5 [.ref a6, .ref a7, .ref a8, .ref a9, .int q1, .int q2, .int q3, .int q4], aR a6 e6 17 (g6), aR a7 e7 12 (g7), aI a8 e8 301 (y8), aI a9 e9 301 (y9)] ++ va_pl L f))) (vp_Si (fun r => ((∃ k, fdF Y (v).toInt (w).toInt (tz).toInt.toNat = some k ∧ Y k 2 = 0) ∧ r = 1) ∨ ((¬ (∃ k, fdF Y (v).toInt (w).toInt (tz).toInt.toNat = some k ∧ Y k 2 = 0)) ∧ r = 0))) 0 0 (fun _ => False) := by
  refine Met.ofW (cc := cX7_isParted) (maxL := 4) (ret := (some .boolean)) (by decide) rfl ?_
  intro p e s m args below meth c s₁ B hml hv
  obtain ⟨rfl, hP, hK, hD, hN⟩ := hv
  have hx := B.exec
  have hb := B.bytes
  have hr := B.returns
  have hts := atoms_spec (ws := wsX7_isParted) B.pre
  have hown : s.vm.findClass RX7 = some m.cls := findClass_of_methodNamed B.named
  have hlocks := B.notSynchronized
  have hin_X4 : ∀ w ∈ u_ws RX4 TX4 3, w ∈ wsX7_isParted := fun w h => List.mem_cons_of_mem _ (List.mem_append_left _ (List.mem_append_right _ (h)))
  have hl := lv_entry ([.ref tI, .int v, .int w]) (n := 4) (Nat.le_of_ble_eq_true rfl)
  rw [lg_entry_eq]
  generalize (lg_sl ([.ref tI, .int v, .int w]) ++ List.replicate (4 - (lg_sl ([.ref tI, .int v, .int w])).length) Slot.unset).toArray = ls at hl ⊢
  have hl : lv_has ls 4 [(0, .ref tI), (1, .int v), (2, .int w)] := hl
  refine lv_aload_n hx hb dX7_isParted_0 rfl (lv_at hl 0 rfl) ?_
  refine lv_iload_n hx hb dX7_isParted_1 rfl (lv_at hl 1 rfl) ?_
  refine lv_iload_n hx hb dX7_isParted_2 rfl (lv_at hl 2 rfl) ?_
  refine va_csq (wrV (As := [.int v, .int w]) (rest := []) ⟨hx, hb, hml, hown, hts⟩ hN hK hP hD (c_X7_findR l D xo ro tI cS pN a1 a2 a3 a4 a5 a6 a7 a8 a9 e1 e2 e3 e4 e5 e6 e7 e8 e9 na ns nw cp le tr sl tz cz q1 q2 q3 q4 g1 g2 g3 g4 g5 g6 g7 y8 y9 L K f S v w Y hI (by first | omega | assumption | decide | (have h3 : (0 : Int32).toInt = 0 := rfl; omega) | (have h3 : (0 : Int32).toInt = 0 := rfl; have h4 : (1 : Int32).toInt = 1 := rfl; have h5 : (-1 : Int32).toInt = -1 := rfl; omega)) j4 (by first | omega | assumption | decide | (have h3 : (0 : Int32).toInt = 0 := rfl; omega) | (have h3 : (0 : Int32).toInt = 0 := rfl; have h4 : (1 : Int32).toInt = 1 := rfl; have h5 : (-1 : Int32).toInt = -1 := rfl; omega))) (cwV 2 hts gX7_isParted_X7_find rfl rfl rfl (by decide +kernel) ⟨(Nat.le_of_ble_eq_true rfl), (Nat.le_of_ble_eq_true rfl)⟩) 7 rfl ⟨4, _, rfl⟩ rfl hl.1 rfl (Nat.le_of_ble_eq_true rfl) dX7_isParted_3 ⟨(Nat.le_of_ble_eq_true rfl), (Nat.le_of_ble_eq_true rfl)⟩) (fun r_1 h_2 => ?_)
  obtain ⟨h_2, xh_2⟩ := h_2
  have h_2 : cqOp L K 4 r_1 := h_2
  have xh_2 : fdS Y (v).toInt (w).toInt (tz).toInt.toNat g4 r_1 := xh_2
  refine q_astore_n (r := r_1) (lv' := [(3, va_rf r_1), (0, .ref tI), (1, .int v), (2, .int w)]) hx hb dX7_isParted_6 rfl hl (by decide) rfl (fun ls hl => ?_)
  refine q_aload_n hx hb dX7_isParted_7 rfl (lv_at hl 0 rfl) ?_
  rcases r_1 with _ | b_3
  · have hl : lv_has ls 4 [(3, .null), (0, .ref tI), (1, .int v), (2, .int w)] := hl
    refine lv_ifnullN (tgt := 22) hx hb dX7_isParted_8 (by decide) ?_
    refine lv_iconst (v := 0) hx hb dX7_isParted_22 (by decide) ?_
    exact W.zret (v := 0) hx hb hr rfl (fun t ht hW => ⟨0, rfl, (Or.inr ⟨fun ⟨k9, h8, h7⟩ => (by rw [xh_2.2 rfl] at h8; cases h8), rfl⟩), ht⟩) (fun q h => by cases h) dX7_isParted_23
  · have hl : lv_has ls 4 [(3, .ref b_3), (0, .ref tI), (1, .int v), (2, .int w)] := hl
    have is_4 := h_2 b_3 rfl
    refine lv_ifnull hx hb dX7_isParted_8 ?_
    refine lv_aload_n hx hb dX7_isParted_11 rfl (lv_at hl 0 rfl) ?_
    obtain ⟨lo_5, gr_5, jo_5, hf_5⟩ := hI.opP is_4
    have hqhf_5 := hf_5
    have F0hf_5 : cqF (f b_3) 0 = (lo_5).toInt := by rw [hf_5]; rfl
    have F1hf_5 : cqF (f b_3) 1 = (gr_5).toInt := by rw [hf_5]; rfl
    have F2hf_5 : cqF (f b_3) 2 = (jo_5).toInt := by rw [hf_5]; rfl
    refine pl_get (D := D) (ci := 4) (v := .int jo_5) (C := RX4) (T := TX4) (N := 3) hx hb hts hin_X4 hown hK hP is_4.1 hf_5 rfl 2 (by decide) (hts (.fieldLink RX7 40 "CryOrder$Pair" "joined" "Z") (List.mem_cons_of_mem _ (List.mem_append_left _ (List.mem_append_left _ (List.mem_of_getElem? (i := 0) rfl))))) (fun _ h9 => h9) rfl dX7_isParted_12 ?_
    refine bz_ne (zx := (jo_5).toInt) (tgt := 22) hx hb dX7_isParted_15 (by decide) rfl (fun c_6 => ?_) (fun c_6 => ?_)
    · refine lv_iconst (v := 0) hx hb dX7_isParted_22 (by decide) ?_
      exact W.zret (v := 0) hx hb hr rfl (fun t ht hW => ⟨0, rfl, (by obtain ⟨i9, h8, h7⟩ := xh_2.1 _ rfl; have h6 := fdF_spec _ h8; have h5 := hY i9 (by omega) b_3 h7 2 (by decide); have h4 : cqF (f b_3) 2 = (jo_5).toInt := (by rw [hf_5]; rfl); exact Or.inr ⟨fun ⟨k9, q8, q7⟩ => (by rw [h8] at q8; cases q8; omega), rfl⟩), ht⟩) (fun q h => by cases h) dX7_isParted_23
    · refine lv_iconst (v := 1) hx hb dX7_isParted_18 (by decide) ?_
      refine lv_goto (tgt := 23) hx hb dX7_isParted_19 (by decide) ?_
      exact W.zret (v := 1) hx hb hr rfl (fun t ht hW => ⟨1, rfl, (by obtain ⟨i9, h8, h7⟩ := xh_2.1 _ rfl; have h6 := fdF_spec _ h8; have h5 := hY i9 (by omega) b_3 h7 2 (by decide); have h4 : cqF (f b_3) 2 = (jo_5).toInt := (by rw [hf_5]; rfl); exact Or.inl ⟨⟨i9, h8, by omega⟩, rfl⟩), ht⟩) (fun q h => by cases h) dX7_isParted_23
