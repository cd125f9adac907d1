set_option maxHeartbeats 8000000 in
set_option maxRecDepth 100000 in
theorem law_loop {p : Program} {l : Launch} {e : Env} {s : State} {m : MethodId} {below : List Frame} {meth : Method} {c : Code} {b L : Nat} {xs : Nat → Int32} {A : Nat → Prop} {D : va_G} {xo h9 : Nat} {tC tM : List (ClassId × FieldType)} (C0 : lw_At p s m meth c b L xs) (hN : Nq s) (hA : ∀ q : Nat, s.heap.size ≤ q → A q) (hAf : ∀ q : Nat, A q → s.heap.size ≤ q) (hKC : va_K D vwCl tC s) (hKM : va_K D vwCl tM s) (hL : L ≤ 2560) : ∀ (n : Nat) (t : Nat) (S : Int) (az : aS) (i : Int32) (wC wM : va_W) (H : Heap) (locs : List Loc) (ls : Array Slot) (cells slots : Nat), cST S az tC xo wC → mST az tM h9 wM → vOK az → va_P D vwCl (wC ++ wM) H → va_D A (wC ++ wM) → va_S A s.heap H locs → lv_has ls 4 [(3, .int i), (2, .ref h9), (1, .ref xo), (0, .ref b)] → (i.toInt = 5 * (t : Int) ∧ t ≤ 512 ∧ 0 ≤ S ∧ S ≤ 200 * (t : Int) ∧ cells ≤ 40 + 6 * t ∧ slots ≤ 20000 + 53 * t) → 513 - t < n → W p l e room_1 s m #[Value.ref b] below meth c H locs cells slots (lw_Z below #[Value.ref b] s) (F0 m 18 ls []) := by
  obtain ⟨hx, hb, hr, hml, hown, hts, hX, hbl, hlocks, hgv⟩ := id C0
  have hb : c.code = cL_law := hb
  have hbA : ¬ A b := fun q => absurd (hAf b q) (Nat.not_le.mpr hbl)
  have eL : (Int32.ofNat L).toInt = (L : Int) := nI_toInt (by omega)
  intro n
  induction n with
  | zero => intro t S az i wC wM H locs ls cells slots hC hM ok hP hD hS hl hq hmu; exact absurd hmu (Nat.not_lt_zero _)
  | succ n ih =>
    intro t S az i wC wM H locs ls cells slots hC hM ok hP hD hS hl hq hmu
    refine lv_iload_n hx hb dL_law_18 rfl (lv_at hl 0 rfl) ?_
    refine lv_aload_n hx hb dL_law_19 rfl (lv_at hl 3 rfl) ?_
    refine va_slen hx hb hX hbl hbA hS dL_law_20 ?_
    refine lv_iconst (v := 5) hx hb dL_law_21 (by decide) ?_
    refine lv_isub hx hb dL_law_22 ?_
    refine lv_topi (fun z ez => ?_)
    have tz := sb_toInt (zx := (L : Int)) (zy := 5) ez eL (by decide)
    refine bi_gt (zx := i.toInt) (zy := z.toInt) (tgt := 698) hx hb dL_law_23 (by decide) rfl rfl (fun c1 => ?_) (fun c1 => ?_)
    · refine lv_iconst (v := 1) hx hb dL_law_698 (by decide) ?_
      refine va_forget (fun q hq => hAf _ (hS.2.2 q hq)) ?_
      refine W.widen (k := 600000) (n := 7302250) (by omega) (by omega) ?_
      exact lw_ret hx hb hr hlocks dL_law_699
    · refine lv_aload_n hx hb dL_law_26 rfl (lv_at hl 3 rfl) ?_
      refine lv_iload_n hx hb dL_law_27 rfl (lv_at hl 0 rfl) ?_
      refine va_sld hx hb hX hbl hbA hS (vp_in_iff.mpr (by omega)) dL_law_28 ?_
      refine lv_bipush (v := 15) hx hb dL_law_29 (by decide) ?_
      refine lv_iand hx hb dL_law_31 ?_
      obtain ⟨j, hj, ej⟩ := pk_andE (xs i.toNatClampNeg) (m := 15) 4 (by decide)
      refine lv_tope (z := nI j) ej ?_
      have hj : j < 16 := hj
      have t5 := ad_toInt (x := i) (y := 5) (z := i + 5) (zx := i.toInt) (zy := 5) rfl rfl (by decide)
      have next : ∀ (az : aS) (wC wM : va_W) (H : Heap) (locs : List Loc) (ls : Array Slot) (cells9 slots9 : Nat), cST (S + 200) az tC xo wC → mST az tM h9 wM → vOK az → va_P D vwCl (wC ++ wM) H → va_D A (wC ++ wM) → va_S A s.heap H locs → lv_has ls 4 [(3, .int i), (2, .ref h9), (1, .ref xo), (0, .ref b)] → cells9 ≤ cells + 6 → slots9 ≤ slots + 53 → W p l e room_1 s m #[Value.ref b] below meth c H locs cells9 slots9 (lw_Z below #[Value.ref b] s) (F0 m 692 ls []) := by
        intro az wC wM H locs ls cells9 slots9 hC hM ok hP hD hS hl h1 h2
        refine lv_iinc (v := i + 5) (lv' := [(3, .int (i + 5)), (2, .ref h9), (1, .ref xo), (0, .ref b)]) hx hb dL_law_692 hl (k := 0) rfl rfl (by decide) rfl (fun ls hl => ?_)
        refine lv_goto (tgt := 18) hx hb dL_law_695 (by decide) ?_
        exact ih (t + 1) (S + 200) az (i + 5) wC wM H locs ls cells9 slots9 hC hM ok hP hD hS hl ⟨by omega, by omega, by omega, by omega, by omega, by omega⟩ (by omega)
      rcases (show j = 0 ∨ j = 1 ∨ j = 2 ∨ j = 3 ∨ j = 4 ∨ j = 5 ∨ j = 6 ∨ j = 7 ∨ j = 8 ∨ j = 9 ∨ j = 10 ∨ j = 11 ∨ j = 12 ∨ j = 13 ∨ j = 14 ∨ j = 15 by omega) with rfl | rfl | rfl | rfl | rfl | rfl | rfl | rfl | rfl | rfl | rfl | rfl | rfl | rfl | rfl | rfl
      · refine lv_tableIn (tgt := 112) hx hb dL_law_32 (by decide) (by decide) rfl (by decide) ?_
        exact law_c0 C0 hN hA hAf hKC hKM hC hM ok (by omega) hP hD hS hl (by omega) (by omega) next
      · refine lv_tableIn (tgt := 135) hx hb dL_law_32 (by decide) (by decide) rfl (by decide) ?_
        exact law_c1 C0 hN hA hAf hKC hKM hC hM ok (by omega) hP hD hS hl (by omega) (by omega) next
      · refine lv_tableIn (tgt := 188) hx hb dL_law_32 (by decide) (by decide) rfl (by decide) ?_
        exact law_c2 C0 hN hA hAf hKC hKM hC hM ok (by omega) hP hD hS hl (by omega) (by omega) next
      · refine lv_tableIn (tgt := 231) hx hb dL_law_32 (by decide) (by decide) rfl (by decide) ?_
        exact law_c3 C0 hN hA hAf hKC hKM hC hM ok (by omega) hP hD hS hl (by omega) (by omega) next
      · refine lv_tableIn (tgt := 264) hx hb dL_law_32 (by decide) (by decide) rfl (by decide) ?_
        exact law_c4 C0 hN hA hAf hKC hKM hC hM ok (by omega) hP hD hS hl (by omega) (by omega) next
      · refine lv_tableIn (tgt := 323) hx hb dL_law_32 (by decide) (by decide) rfl (by decide) ?_
        exact law_c5 C0 hN hA hAf hKC hKM hC hM ok (by omega) hP hD hS hl (by omega) (by omega) next
      · refine lv_tableIn (tgt := 382) hx hb dL_law_32 (by decide) (by decide) rfl (by decide) ?_
        exact law_c6 C0 hN hA hAf hKC hKM hC hM ok (by omega) hP hD hS hl (by omega) (by omega) next
      · refine lv_tableIn (tgt := 415) hx hb dL_law_32 (by decide) (by decide) rfl (by decide) ?_
        exact law_c7 C0 hN hA hAf hKC hKM hC hM ok (by omega) hP hD hS hl (by omega) (by omega) next
      · refine lv_tableIn (tgt := 458) hx hb dL_law_32 (by decide) (by decide) rfl (by decide) ?_
        exact law_c8 C0 hN hA hAf hKC hKM hC hM ok (by omega) hP hD hS hl (by omega) (by omega) next
      · refine lv_tableIn (tgt := 491) hx hb dL_law_32 (by decide) (by decide) rfl (by decide) ?_
        exact law_c9 C0 hN hA hAf hKC hKM hC hM ok (by omega) hP hD hS hl (by omega) (by omega) next
      · refine lv_tableIn (tgt := 514) hx hb dL_law_32 (by decide) (by decide) rfl (by decide) ?_
        exact law_c10 C0 hN hA hAf hKC hKM hC hM ok (by omega) hP hD hS hl (by omega) (by omega) next
      · refine lv_tableIn (tgt := 547) hx hb dL_law_32 (by decide) (by decide) rfl (by decide) ?_
        exact law_c11 C0 hN hA hAf hKC hKM hC hM ok (by omega) hP hD hS hl (by omega) (by omega) next
      · refine lv_tableIn (tgt := 570) hx hb dL_law_32 (by decide) (by decide) rfl (by decide) ?_
        exact law_c12 C0 hN hA hAf hKC hKM hC hM ok (by omega) hP hD hS hl (by omega) (by omega) next
      · refine lv_tableIn (tgt := 603) hx hb dL_law_32 (by decide) (by decide) rfl (by decide) ?_
        exact law_c13 C0 hN hA hAf hKC hKM hC hM ok (by omega) hP hD hS hl (by omega) (by omega) next
      · refine lv_tableIn (tgt := 636) hx hb dL_law_32 (by decide) (by decide) rfl (by decide) ?_
        exact law_c14 C0 hN hA hAf hKC hKM hC hM ok (by omega) hP hD hS hl (by omega) (by omega) next
      · refine lv_tableIn (tgt := 669) hx hb dL_law_32 (by decide) (by decide) rfl (by decide) ?_
        exact law_c15 C0 hN hA hAf hKC hKM hC hM ok (by omega) hP hD hS hl (by omega) (by omega) next
