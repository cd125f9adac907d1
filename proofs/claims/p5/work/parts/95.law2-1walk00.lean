set_option maxHeartbeats 4000000 in
set_option maxRecDepth 100000 in
theorem law_c8 {p : Program} {l : Launch} {e : Env} {s : State} {m : MethodId} {below : List Frame} {meth : Method} {c : Code} {b L : Nat} {xs : Nat → Int32} {A : Nat → Prop} {D : va_G} {xo h9 : Nat} {tC tM : List (ClassId × FieldType)} {S : Int} {az : aS} {i : Int32} {wC wM : va_W} {H : Heap} {locs : List Loc} {ls : Array Slot} {cells slots : Nat} (C0 : lw_At p s m meth c b L xs) (hN : Nq s) (hA : ∀ q : Nat, s.heap.size ≤ q → A q) (hAf : ∀ q : Nat, A q → s.heap.size ≤ q) (hKC : va_K D vwCl tC s) (hKM : va_K D vwCl tM s) (hC : cST S az tC xo wC) (hM : mST az tM h9 wM) (ok : vOK az) (hSS : 0 ≤ S ∧ S ≤ 400000) (hP : va_P D vwCl (wC ++ wM) H) (hD : va_D A (wC ++ wM)) (hS : va_S A s.heap H locs) (hl : lv_has ls 4 [(3, .int i), (2, .ref h9), (1, .ref xo), (0, .ref b)]) (hi : 0 ≤ i.toInt ∧ i.toInt + 5 ≤ L ∧ L ≤ 2560) (hcs : cells + 6 ≤ 600000 ∧ slots + 53 ≤ 7302250) (done : ∀ (az : aS) (wC wM : va_W) (H : Heap) (locs : List Loc) (ls : Array Slot) (cells9 slots9 : Nat), cST (S + 200) az tC xo wC → mST az tM h9 wM → vOK az → va_P D vwCl (wC ++ wM) H → va_D A (wC ++ wM) → va_S A s.heap H locs → lv_has ls 4 [(3, .int i), (2, .ref h9), (1, .ref xo), (0, .ref b)] → cells9 ≤ cells + 6 → slots9 ≤ slots + 53 → W p l e room_1 s m #[Value.ref b] below meth c H locs cells9 slots9 (lw_Z below #[Value.ref b] s) (F0 m 692 ls [])) : W p l e room_1 s m #[Value.ref b] below meth c H locs cells slots (lw_Z below #[Value.ref b] s) (F0 m 458 ls []) := by
  obtain ⟨hx, hb, hr, hml, hown, hts, hX, hbl, hlocks, hgv⟩ := C0
  have hts := fun w h => hts w (wsL_law_in w h)
  have hb : c.code = cL_law := hb
  have hown : s.vm.findClass RL = some m.cls := hown
  have hbA : ¬ A b := fun q => absurd (hAf b q) (Nat.not_le.mpr hbl)
  have t1 := ad_toInt (x := i) (y := 1) (z := i + 1) (zx := i.toInt) (zy := 1) rfl rfl (by decide)
  have t2 := ad_toInt (x := i) (y := 2) (z := i + 2) (zx := i.toInt) (zy := 2) rfl rfl (by decide)
  have t3 := ad_toInt (x := i) (y := 3) (z := i + 3) (zx := i.toInt) (zy := 3) rfl rfl (by decide)
  have t4 := ad_toInt (x := i) (y := 4) (z := i + 4) (zx := i.toInt) (zy := 4) rfl rfl (by decide)
  refine lv_aload_n hx hb dL_law_458 rfl (lv_at hl 2 rfl) ?_
  refine lv_aload_n hx hb dL_law_459 rfl (lv_at hl 3 rfl) ?_
  refine lv_iload_n hx hb dL_law_460 rfl (lv_at hl 0 rfl) ?_
  refine lv_iconst (v := 1) hx hb dL_law_461 (by decide) ?_
  refine lv_iadd hx hb dL_law_462 ?_
  refine va_sld hx hb hX hbl hbA hS (vp_in_iff.mpr (by omega)) dL_law_463 ?_
  refine lv_aload_n hx hb dL_law_464 rfl (lv_at hl 3 rfl) ?_
  refine lv_iload_n hx hb dL_law_465 rfl (lv_at hl 0 rfl) ?_
  refine lv_iconst (v := 2) hx hb dL_law_466 (by decide) ?_
  refine lv_iadd hx hb dL_law_467 ?_
  refine va_sld hx hb hX hbl hbA hS (vp_in_iff.mpr (by omega)) dL_law_468 ?_
  refine lw_call (As := [.int (xs (i + 1).toNatClampNeg), .int (xs (i + 2).toNatClampNeg)]) (rest := []) ⟨hx, hb, hml, hown, hts⟩ hN hKC hP hD hS hA (u_odds l D H.size ((xs (i + 1).toNatClampNeg)) ((xs (i + 2).toNatClampNeg)) hC ok hSS ) (cwV 2 hts gL_law_X8_odds rfl rfl rfl (by decide +kernel) ⟨(Nat.le_of_ble_eq_true rfl), (Nat.le_of_ble_eq_true rfl)⟩) 8 rfl hC.rc rfl hl.1 rfl (Nat.le_of_ble_eq_true rfl) dL_law_469 ⟨by have : room_1.cells = 600000 := rfl; omega, by have : room_1.slots = 7302250 := rfl; omega⟩ (fun r_1 wC_3 H_2 locs hr_1 hC hP hD hS => ?_)
  have hP := wcomm hP
  have hD := wcommD hD
  refine lv_pop hx hb dL_law_472 rfl ?_
  refine lv_aload_n hx hb dL_law_473 rfl (lv_at hl 1 rfl) ?_
  refine lv_aload_n hx hb dL_law_474 rfl (lv_at hl 3 rfl) ?_
  refine lv_iload_n hx hb dL_law_475 rfl (lv_at hl 0 rfl) ?_
  refine lv_iconst (v := 1) hx hb dL_law_476 (by decide) ?_
  refine lv_iadd hx hb dL_law_477 ?_
  refine va_sld hx hb hX hbl hbA hS (vp_in_iff.mpr (by omega)) dL_law_478 ?_
  refine lv_aload_n hx hb dL_law_479 rfl (lv_at hl 3 rfl) ?_
  refine lv_iload_n hx hb dL_law_480 rfl (lv_at hl 0 rfl) ?_
  refine lv_iconst (v := 2) hx hb dL_law_481 (by decide) ?_
  refine lv_iadd hx hb dL_law_482 ?_
  refine va_sld hx hb hX hbl hbA hS (vp_in_iff.mpr (by omega)) dL_law_483 ?_
  refine lw_call (As := [.int (xs (i + 1).toNatClampNeg), .int (xs (i + 2).toNatClampNeg)]) (rest := []) ⟨hx, hb, hml, hown, hts⟩ hN hKM hP hD hS hA (u9_odds l D H_2.size ((xs (i + 1).toNatClampNeg)) ((xs (i + 2).toNatClampNeg)) hM ok ) (cwV 2 hts gL_law_X9_odds rfl rfl rfl (by decide +kernel) ⟨(Nat.le_of_ble_eq_true rfl), (Nat.le_of_ble_eq_true rfl)⟩) 9 rfl hM.rc rfl hl.1 rfl (Nat.le_of_ble_eq_true rfl) dL_law_484 ⟨by have : room_1.cells = 600000 := rfl; omega, by have : room_1.slots = 7302250 := rfl; omega⟩ (fun r_4 wM_6 H_5 locs hr_4 hM hP hD hS => ?_)
  have hP := wcomm hP
  have hD := wcommD hD
  refine lv_pop hx hb dL_law_487 rfl ?_
  refine lv_goto (tgt := 692) hx hb dL_law_488 (by decide) ?_
  exact done _ _ _ _ _ _ _ _ hC hM ok hP hD hS (lv_sub hl [0, 1, 2, 3] rfl) (by omega) (by omega)

set_option maxHeartbeats 4000000 in
set_option maxRecDepth 100000 in
theorem law_c9 {p : Program} {l : Launch} {e : Env} {s : State} {m : MethodId} {below : List Frame} {meth : Method} {c : Code} {b L : Nat} {xs : Nat → Int32} {A : Nat → Prop} {D : va_G} {xo h9 : Nat} {tC tM : List (ClassId × FieldType)} {S : Int} {az : aS} {i : Int32} {wC wM : va_W} {H : Heap} {locs : List Loc} {ls : Array Slot} {cells slots : Nat} (C0 : lw_At p s m meth c b L xs) (hN : Nq s) (hA : ∀ q : Nat, s.heap.size ≤ q → A q) (hAf : ∀ q : Nat, A q → s.heap.size ≤ q) (hKC : va_K D vwCl tC s) (hKM : va_K D vwCl tM s) (hC : cST S az tC xo wC) (hM : mST az tM h9 wM) (ok : vOK az) (hSS : 0 ≤ S ∧ S ≤ 400000) (hP : va_P D vwCl (wC ++ wM) H) (hD : va_D A (wC ++ wM)) (hS : va_S A s.heap H locs) (hl : lv_has ls 4 [(3, .int i), (2, .ref h9), (1, .ref xo), (0, .ref b)]) (hi : 0 ≤ i.toInt ∧ i.toInt + 5 ≤ L ∧ L ≤ 2560) (hcs : cells + 6 ≤ 600000 ∧ slots + 53 ≤ 7302250) (done : ∀ (az : aS) (wC wM : va_W) (H : Heap) (locs : List Loc) (ls : Array Slot) (cells9 slots9 : Nat), cST (S + 200) az tC xo wC → mST az tM h9 wM → vOK az → va_P D vwCl (wC ++ wM) H → va_D A (wC ++ wM) → va_S A s.heap H locs → lv_has ls 4 [(3, .int i), (2, .ref h9), (1, .ref xo), (0, .ref b)] → cells9 ≤ cells + 6 → slots9 ≤ slots + 53 → W p l e room_1 s m #[Value.ref b] below meth c H locs cells9 slots9 (lw_Z below #[Value.ref b] s) (F0 m 692 ls [])) : W p l e room_1 s m #[Value.ref b] below meth c H locs cells slots (lw_Z below #[Value.ref b] s) (F0 m 491 ls []) := by
  obtain ⟨hx, hb, hr, hml, hown, hts, hX, hbl, hlocks, hgv⟩ := C0
  have hts := fun w h => hts w (wsL_law_in w h)
  have hb : c.code = cL_law := hb
  have hown : s.vm.findClass RL = some m.cls := hown
  have hbA : ¬ A b := fun q => absurd (hAf b q) (Nat.not_le.mpr hbl)
  have t1 := ad_toInt (x := i) (y := 1) (z := i + 1) (zx := i.toInt) (zy := 1) rfl rfl (by decide)
  have t2 := ad_toInt (x := i) (y := 2) (z := i + 2) (zx := i.toInt) (zy := 2) rfl rfl (by decide)
  have t3 := ad_toInt (x := i) (y := 3) (z := i + 3) (zx := i.toInt) (zy := 3) rfl rfl (by decide)
  have t4 := ad_toInt (x := i) (y := 4) (z := i + 4) (zx := i.toInt) (zy := 4) rfl rfl (by decide)
  refine lv_aload_n hx hb dL_law_491 rfl (lv_at hl 2 rfl) ?_
  refine lv_aload_n hx hb dL_law_492 rfl (lv_at hl 3 rfl) ?_
  refine lv_iload_n hx hb dL_law_493 rfl (lv_at hl 0 rfl) ?_
  refine lv_iconst (v := 1) hx hb dL_law_494 (by decide) ?_
  refine lv_iadd hx hb dL_law_495 ?_
  refine va_sld hx hb hX hbl hbA hS (vp_in_iff.mpr (by omega)) dL_law_496 ?_
  refine lw_call (As := [.int (xs (i + 1).toNatClampNeg)]) (rest := []) ⟨hx, hb, hml, hown, hts⟩ hN hKC hP hD hS hA (u_order l D H.size ((xs (i + 1).toNatClampNeg)) hC ok hSS ) (cwV 1 hts gL_law_X8_order rfl rfl rfl (by decide +kernel) ⟨(Nat.le_of_ble_eq_true rfl), (Nat.le_of_ble_eq_true rfl)⟩) 8 rfl hC.rc rfl hl.1 rfl (Nat.le_of_ble_eq_true rfl) dL_law_497 ⟨by have : room_1.cells = 600000 := rfl; omega, by have : room_1.slots = 7302250 := rfl; omega⟩ (fun r_1 wC_3 H_2 locs hr_1 hC hP hD hS => ?_)
  have hP := wcomm hP
  have hD := wcommD hD
  refine lv_pop hx hb dL_law_500 rfl ?_
  refine lv_aload_n hx hb dL_law_501 rfl (lv_at hl 1 rfl) ?_
  refine lv_aload_n hx hb dL_law_502 rfl (lv_at hl 3 rfl) ?_
  refine lv_iload_n hx hb dL_law_503 rfl (lv_at hl 0 rfl) ?_
  refine lv_iconst (v := 1) hx hb dL_law_504 (by decide) ?_
  refine lv_iadd hx hb dL_law_505 ?_
  refine va_sld hx hb hX hbl hbA hS (vp_in_iff.mpr (by omega)) dL_law_506 ?_
  refine lw_call (As := [.int (xs (i + 1).toNatClampNeg)]) (rest := []) ⟨hx, hb, hml, hown, hts⟩ hN hKM hP hD hS hA (u9_order l D H_2.size ((xs (i + 1).toNatClampNeg)) hM ok ) (cwV 1 hts gL_law_X9_order rfl rfl rfl (by decide +kernel) ⟨(Nat.le_of_ble_eq_true rfl), (Nat.le_of_ble_eq_true rfl)⟩) 9 rfl hM.rc rfl hl.1 rfl (Nat.le_of_ble_eq_true rfl) dL_law_507 ⟨by have : room_1.cells = 600000 := rfl; omega, by have : room_1.slots = 7302250 := rfl; omega⟩ (fun r_4 wM_6 H_5 locs hr_4 hM hP hD hS => ?_)
  have hP := wcomm hP
  have hD := wcommD hD
  refine lv_pop hx hb dL_law_510 rfl ?_
  refine lv_goto (tgt := 692) hx hb dL_law_511 (by decide) ?_
  exact done _ _ _ _ _ _ _ _ hC hM ok hP hD hS (lv_sub hl [0, 1, 2, 3] rfl) (by omega) (by omega)

set_option maxHeartbeats 4000000 in
set_option maxRecDepth 100000 in
theorem law_c10 {p : Program} {l : Launch} {e : Env} {s : State} {m : MethodId} {below : List Frame} {meth : Method} {c : Code} {b L : Nat} {xs : Nat → Int32} {A : Nat → Prop} {D : va_G} {xo h9 : Nat} {tC tM : List (ClassId × FieldType)} {S : Int} {az : aS} {i : Int32} {wC wM : va_W} {H : Heap} {locs : List Loc} {ls : Array Slot} {cells slots : Nat} (C0 : lw_At p s m meth c b L xs) (hN : Nq s) (hA : ∀ q : Nat, s.heap.size ≤ q → A q) (hAf : ∀ q : Nat, A q → s.heap.size ≤ q) (hKC : va_K D vwCl tC s) (hKM : va_K D vwCl tM s) (hC : cST S az tC xo wC) (hM : mST az tM h9 wM) (ok : vOK az) (hSS : 0 ≤ S ∧ S ≤ 400000) (hP : va_P D vwCl (wC ++ wM) H) (hD : va_D A (wC ++ wM)) (hS : va_S A s.heap H locs) (hl : lv_has ls 4 [(3, .int i), (2, .ref h9), (1, .ref xo), (0, .ref b)]) (hi : 0 ≤ i.toInt ∧ i.toInt + 5 ≤ L ∧ L ≤ 2560) (hcs : cells + 6 ≤ 600000 ∧ slots + 53 ≤ 7302250) (done : ∀ (az : aS) (wC wM : va_W) (H : Heap) (locs : List Loc) (ls : Array Slot) (cells9 slots9 : Nat), cST (S + 200) az tC xo wC → mST az tM h9 wM → vOK az → va_P D vwCl (wC ++ wM) H → va_D A (wC ++ wM) → va_S A s.heap H locs → lv_has ls 4 [(3, .int i), (2, .ref h9), (1, .ref xo), (0, .ref b)] → cells9 ≤ cells + 6 → slots9 ≤ slots + 53 → W p l e room_1 s m #[Value.ref b] below meth c H locs cells9 slots9 (lw_Z below #[Value.ref b] s) (F0 m 692 ls [])) : W p l e room_1 s m #[Value.ref b] below meth c H locs cells slots (lw_Z below #[Value.ref b] s) (F0 m 514 ls []) := by
  obtain ⟨hx, hb, hr, hml, hown, hts, hX, hbl, hlocks, hgv⟩ := C0
  have hts := fun w h => hts w (wsL_law_in w h)
  have hb : c.code = cL_law := hb
  have hown : s.vm.findClass RL = some m.cls := hown
  have hbA : ¬ A b := fun q => absurd (hAf b q) (Nat.not_le.mpr hbl)
  have t1 := ad_toInt (x := i) (y := 1) (z := i + 1) (zx := i.toInt) (zy := 1) rfl rfl (by decide)
  have t2 := ad_toInt (x := i) (y := 2) (z := i + 2) (zx := i.toInt) (zy := 2) rfl rfl (by decide)
  have t3 := ad_toInt (x := i) (y := 3) (z := i + 3) (zx := i.toInt) (zy := 3) rfl rfl (by decide)
  have t4 := ad_toInt (x := i) (y := 4) (z := i + 4) (zx := i.toInt) (zy := 4) rfl rfl (by decide)
  refine lv_aload_n hx hb dL_law_514 rfl (lv_at hl 2 rfl) ?_
  refine lv_aload_n hx hb dL_law_515 rfl (lv_at hl 3 rfl) ?_
  refine lv_iload_n hx hb dL_law_516 rfl (lv_at hl 0 rfl) ?_
  refine lv_iconst (v := 1) hx hb dL_law_517 (by decide) ?_
  refine lv_iadd hx hb dL_law_518 ?_
  refine va_sld hx hb hX hbl hbA hS (vp_in_iff.mpr (by omega)) dL_law_519 ?_
  refine lv_aload_n hx hb dL_law_520 rfl (lv_at hl 3 rfl) ?_
  refine lv_iload_n hx hb dL_law_521 rfl (lv_at hl 0 rfl) ?_
  refine lv_iconst (v := 2) hx hb dL_law_522 (by decide) ?_
  refine lv_iadd hx hb dL_law_523 ?_
  refine va_sld hx hb hX hbl hbA hS (vp_in_iff.mpr (by omega)) dL_law_524 ?_
  refine lw_call (As := [.int (xs (i + 1).toNatClampNeg), .int (xs (i + 2).toNatClampNeg)]) (rest := []) ⟨hx, hb, hml, hown, hts⟩ hN hKC hP hD hS hA (u_caseOf l D H.size ((xs (i + 1).toNatClampNeg)) ((xs (i + 2).toNatClampNeg)) hC ok hSS ) (cwV 2 hts gL_law_X8_caseOf rfl rfl rfl (by decide +kernel) ⟨(Nat.le_of_ble_eq_true rfl), (Nat.le_of_ble_eq_true rfl)⟩) 8 rfl hC.rc rfl hl.1 rfl (Nat.le_of_ble_eq_true rfl) dL_law_525 ⟨by have : room_1.cells = 600000 := rfl; omega, by have : room_1.slots = 7302250 := rfl; omega⟩ (fun r_1 wC_3 H_2 locs hr_1 hC hP hD hS => ?_)
  have hP := wcomm hP
  have hD := wcommD hD
  refine lv_pop hx hb dL_law_528 rfl ?_
  refine lv_aload_n hx hb dL_law_529 rfl (lv_at hl 1 rfl) ?_
  refine lv_aload_n hx hb dL_law_530 rfl (lv_at hl 3 rfl) ?_
  refine lv_iload_n hx hb dL_law_531 rfl (lv_at hl 0 rfl) ?_
  refine lv_iconst (v := 1) hx hb dL_law_532 (by decide) ?_
  refine lv_iadd hx hb dL_law_533 ?_
  refine va_sld hx hb hX hbl hbA hS (vp_in_iff.mpr (by omega)) dL_law_534 ?_
  refine lv_aload_n hx hb dL_law_535 rfl (lv_at hl 3 rfl) ?_
  refine lv_iload_n hx hb dL_law_536 rfl (lv_at hl 0 rfl) ?_
  refine lv_iconst (v := 2) hx hb dL_law_537 (by decide) ?_
  refine lv_iadd hx hb dL_law_538 ?_
  refine va_sld hx hb hX hbl hbA hS (vp_in_iff.mpr (by omega)) dL_law_539 ?_
  refine lw_call (As := [.int (xs (i + 1).toNatClampNeg), .int (xs (i + 2).toNatClampNeg)]) (rest := []) ⟨hx, hb, hml, hown, hts⟩ hN hKM hP hD hS hA (u9_caseOf l D H_2.size ((xs (i + 1).toNatClampNeg)) ((xs (i + 2).toNatClampNeg)) hM ok ) (cwV 2 hts gL_law_X9_caseOf rfl rfl rfl (by decide +kernel) ⟨(Nat.le_of_ble_eq_true rfl), (Nat.le_of_ble_eq_true rfl)⟩) 9 rfl hM.rc rfl hl.1 rfl (Nat.le_of_ble_eq_true rfl) dL_law_540 ⟨by have : room_1.cells = 600000 := rfl; omega, by have : room_1.slots = 7302250 := rfl; omega⟩ (fun r_4 wM_6 H_5 locs hr_4 hM hP hD hS => ?_)
  have hP := wcomm hP
  have hD := wcommD hD
  refine lv_pop hx hb dL_law_543 rfl ?_
  refine lv_goto (tgt := 692) hx hb dL_law_544 (by decide) ?_
  exact done _ _ _ _ _ _ _ _ hC hM ok hP hD hS (lv_sub hl [0, 1, 2, 3] rfl) (by omega) (by omega)

set_option maxHeartbeats 4000000 in
set_option maxRecDepth 100000 in
theorem law_c11 {p : Program} {l : Launch} {e : Env} {s : State} {m : MethodId} {below : List Frame} {meth : Method} {c : Code} {b L : Nat} {xs : Nat → Int32} {A : Nat → Prop} {D : va_G} {xo h9 : Nat} {tC tM : List (ClassId × FieldType)} {S : Int} {az : aS} {i : Int32} {wC wM : va_W} {H : Heap} {locs : List Loc} {ls : Array Slot} {cells slots : Nat} (C0 : lw_At p s m meth c b L xs) (hN : Nq s) (hA : ∀ q : Nat, s.heap.size ≤ q → A q) (hAf : ∀ q : Nat, A q → s.heap.size ≤ q) (hKC : va_K D vwCl tC s) (hKM : va_K D vwCl tM s) (hC : cST S az tC xo wC) (hM : mST az tM h9 wM) (ok : vOK az) (hSS : 0 ≤ S ∧ S ≤ 400000) (hP : va_P D vwCl (wC ++ wM) H) (hD : va_D A (wC ++ wM)) (hS : va_S A s.heap H locs) (hl : lv_has ls 4 [(3, .int i), (2, .ref h9), (1, .ref xo), (0, .ref b)]) (hi : 0 ≤ i.toInt ∧ i.toInt + 5 ≤ L ∧ L ≤ 2560) (hcs : cells + 6 ≤ 600000 ∧ slots + 53 ≤ 7302250) (done : ∀ (az : aS) (wC wM : va_W) (H : Heap) (locs : List Loc) (ls : Array Slot) (cells9 slots9 : Nat), cST (S + 200) az tC xo wC → mST az tM h9 wM → vOK az → va_P D vwCl (wC ++ wM) H → va_D A (wC ++ wM) → va_S A s.heap H locs → lv_has ls 4 [(3, .int i), (2, .ref h9), (1, .ref xo), (0, .ref b)] → cells9 ≤ cells + 6 → slots9 ≤ slots + 53 → W p l e room_1 s m #[Value.ref b] below meth c H locs cells9 slots9 (lw_Z below #[Value.ref b] s) (F0 m 692 ls [])) : W p l e room_1 s m #[Value.ref b] below meth c H locs cells slots (lw_Z below #[Value.ref b] s) (F0 m 547 ls []) := by
  obtain ⟨hx, hb, hr, hml, hown, hts, hX, hbl, hlocks, hgv⟩ := C0
  have hts := fun w h => hts w (wsL_law_in w h)
  have hb : c.code = cL_law := hb
  have hown : s.vm.findClass RL = some m.cls := hown
  have hbA : ¬ A b := fun q => absurd (hAf b q) (Nat.not_le.mpr hbl)
  have t1 := ad_toInt (x := i) (y := 1) (z := i + 1) (zx := i.toInt) (zy := 1) rfl rfl (by decide)
  have t2 := ad_toInt (x := i) (y := 2) (z := i + 2) (zx := i.toInt) (zy := 2) rfl rfl (by decide)
  have t3 := ad_toInt (x := i) (y := 3) (z := i + 3) (zx := i.toInt) (zy := 3) rfl rfl (by decide)
  have t4 := ad_toInt (x := i) (y := 4) (z := i + 4) (zx := i.toInt) (zy := 4) rfl rfl (by decide)
  refine lv_aload_n hx hb dL_law_547 rfl (lv_at hl 2 rfl) ?_
  refine lv_aload_n hx hb dL_law_548 rfl (lv_at hl 3 rfl) ?_
  refine lv_iload_n hx hb dL_law_549 rfl (lv_at hl 0 rfl) ?_
  refine lv_iconst (v := 1) hx hb dL_law_550 (by decide) ?_
  refine lv_iadd hx hb dL_law_551 ?_
  refine va_sld hx hb hX hbl hbA hS (vp_in_iff.mpr (by omega)) dL_law_552 ?_
  refine lw_call (As := [.int (xs (i + 1).toNatClampNeg)]) (rest := []) ⟨hx, hb, hml, hown, hts⟩ hN hKC hP hD hS hA (u_slow l D H.size ((xs (i + 1).toNatClampNeg)) hC ok hSS ) (cwV 1 hts gL_law_X8_slow rfl rfl rfl (by decide +kernel) ⟨(Nat.le_of_ble_eq_true rfl), (Nat.le_of_ble_eq_true rfl)⟩) 8 rfl hC.rc rfl hl.1 rfl (Nat.le_of_ble_eq_true rfl) dL_law_553 ⟨by have : room_1.cells = 600000 := rfl; omega, by have : room_1.slots = 7302250 := rfl; omega⟩ (fun r_1 wC_3 H_2 locs hr_1 hC hP hD hS => ?_)
  have hP := wcomm hP
  have hD := wcommD hD
  refine lv_pop hx hb dL_law_556 rfl ?_
  refine lv_aload_n hx hb dL_law_557 rfl (lv_at hl 1 rfl) ?_
  refine lv_aload_n hx hb dL_law_558 rfl (lv_at hl 3 rfl) ?_
  refine lv_iload_n hx hb dL_law_559 rfl (lv_at hl 0 rfl) ?_
  refine lv_iconst (v := 1) hx hb dL_law_560 (by decide) ?_
  refine lv_iadd hx hb dL_law_561 ?_
  refine va_sld hx hb hX hbl hbA hS (vp_in_iff.mpr (by omega)) dL_law_562 ?_
  refine lw_call (As := [.int (xs (i + 1).toNatClampNeg)]) (rest := []) ⟨hx, hb, hml, hown, hts⟩ hN hKM hP hD hS hA (u9_slow l D H_2.size ((xs (i + 1).toNatClampNeg)) hM ok ) (cwV 1 hts gL_law_X9_slow rfl rfl rfl (by decide +kernel) ⟨(Nat.le_of_ble_eq_true rfl), (Nat.le_of_ble_eq_true rfl)⟩) 9 rfl hM.rc rfl hl.1 rfl (Nat.le_of_ble_eq_true rfl) dL_law_563 ⟨by have : room_1.cells = 600000 := rfl; omega, by have : room_1.slots = 7302250 := rfl; omega⟩ (fun r_4 wM_6 H_5 locs hr_4 hM hP hD hS => ?_)
  have hP := wcomm hP
  have hD := wcommD hD
  refine lv_pop hx hb dL_law_566 rfl ?_
  refine lv_goto (tgt := 692) hx hb dL_law_567 (by decide) ?_
  exact done _ _ _ _ _ _ _ _ hC hM ok hP hD hS (lv_sub hl [0, 1, 2, 3] rfl) (by omega) (by omega)
