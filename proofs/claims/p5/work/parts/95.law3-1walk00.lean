set_option maxHeartbeats 4000000 in
set_option maxRecDepth 100000 in
theorem law_c12 {p : Program} {l : Launch} {e : Env} {s : State} {m : MethodId} {below : List Frame} {meth : Method} {c : Code} {b L : Nat} {xs : Nat → Int32} {A : Nat → Prop} {D : va_G} {xo h9 : Nat} {tC tM : List (ClassId × FieldType)} {S : Int} {az : aS} {i : Int32} {wC wM : va_W} {H : Heap} {locs : List Loc} {ls : Array Slot} {cells slots : Nat} (C0 : lw_At p s m meth c b L xs) (hN : Nq s) (hA : ∀ q : Nat, s.heap.size ≤ q → A q) (hAf : ∀ q : Nat, A q → s.heap.size ≤ q) (hKC : va_K D vwCl tC s) (hKM : va_K D vwCl tM s) (hC : cST S az tC xo wC) (hM : mST az tM h9 wM) (ok : vOK az) (hSS : 0 ≤ S ∧ S ≤ 400000) (hP : va_P D vwCl (wC ++ wM) H) (hD : va_D A (wC ++ wM)) (hS : va_S A s.heap H locs) (hl : lv_has ls 4 [(3, .int i), (2, .ref h9), (1, .ref xo), (0, .ref b)]) (hi : 0 ≤ i.toInt ∧ i.toInt + 5 ≤ L ∧ L ≤ 2560) (hcs : cells + 6 ≤ 600000 ∧ slots + 53 ≤ 7302250) (done : ∀ (az : aS) (wC wM : va_W) (H : Heap) (locs : List Loc) (ls : Array Slot) (cells9 slots9 : Nat), cST (S + 200) az tC xo wC → mST az tM h9 wM → vOK az → va_P D vwCl (wC ++ wM) H → va_D A (wC ++ wM) → va_S A s.heap H locs → lv_has ls 4 [(3, .int i), (2, .ref h9), (1, .ref xo), (0, .ref b)] → cells9 ≤ cells + 6 → slots9 ≤ slots + 53 → W p l e room_1 s m #[Value.ref b] below meth c H locs cells9 slots9 (lw_Z below #[Value.ref b] s) (F0 m 692 ls [])) : W p l e room_1 s m #[Value.ref b] below meth c H locs cells slots (lw_Z below #[Value.ref b] s) (F0 m 570 ls []) := by
  obtain ⟨hx, hb, hr, hml, hown, hts, hX, hbl, hlocks, hgv⟩ := C0
  have hts := fun w h => hts w (wsL_law_in w h)
  have hb : c.code = cL_law := hb
  have hown : s.vm.findClass RL = some m.cls := hown
  have hbA : ¬ A b := fun q => absurd (hAf b q) (Nat.not_le.mpr hbl)
  have t1 := ad_toInt (x := i) (y := 1) (z := i + 1) (zx := i.toInt) (zy := 1) rfl rfl (by decide)
  have t2 := ad_toInt (x := i) (y := 2) (z := i + 2) (zx := i.toInt) (zy := 2) rfl rfl (by decide)
  have t3 := ad_toInt (x := i) (y := 3) (z := i + 3) (zx := i.toInt) (zy := 3) rfl rfl (by decide)
  have t4 := ad_toInt (x := i) (y := 4) (z := i + 4) (zx := i.toInt) (zy := 4) rfl rfl (by decide)
  refine lv_aload_n hx hb dL_law_570 rfl (lv_at hl 2 rfl) ?_
  refine lv_aload_n hx hb dL_law_571 rfl (lv_at hl 3 rfl) ?_
  refine lv_iload_n hx hb dL_law_572 rfl (lv_at hl 0 rfl) ?_
  refine lv_iconst (v := 1) hx hb dL_law_573 (by decide) ?_
  refine lv_iadd hx hb dL_law_574 ?_
  refine va_sld hx hb hX hbl hbA hS (vp_in_iff.mpr (by omega)) dL_law_575 ?_
  refine lv_aload_n hx hb dL_law_576 rfl (lv_at hl 3 rfl) ?_
  refine lv_iload_n hx hb dL_law_577 rfl (lv_at hl 0 rfl) ?_
  refine lv_iconst (v := 2) hx hb dL_law_578 (by decide) ?_
  refine lv_iadd hx hb dL_law_579 ?_
  refine va_sld hx hb hX hbl hbA hS (vp_in_iff.mpr (by omega)) dL_law_580 ?_
  refine lw_call (As := [.int (xs (i + 1).toNatClampNeg), .int (xs (i + 2).toNatClampNeg)]) (rest := []) ⟨hx, hb, hml, hown, hts⟩ hN hKC hP hD hS hA (u_plan l D H.size ((xs (i + 1).toNatClampNeg)) ((xs (i + 2).toNatClampNeg)) hC ok hSS ) (cwV 2 hts gL_law_X8_plan rfl rfl rfl (by decide +kernel) ⟨(Nat.le_of_ble_eq_true rfl), (Nat.le_of_ble_eq_true rfl)⟩) 8 rfl hC.rc rfl hl.1 rfl (Nat.le_of_ble_eq_true rfl) dL_law_581 ⟨by have : room_1.cells = 600000 := rfl; omega, by have : room_1.slots = 7302250 := rfl; omega⟩ (fun r_1 wC_3 H_2 locs hr_1 hC hP hD hS => ?_)
  have hP := wcomm hP
  have hD := wcommD hD
  refine lv_pop hx hb dL_law_584 rfl ?_
  refine lv_aload_n hx hb dL_law_585 rfl (lv_at hl 1 rfl) ?_
  refine lv_aload_n hx hb dL_law_586 rfl (lv_at hl 3 rfl) ?_
  refine lv_iload_n hx hb dL_law_587 rfl (lv_at hl 0 rfl) ?_
  refine lv_iconst (v := 1) hx hb dL_law_588 (by decide) ?_
  refine lv_iadd hx hb dL_law_589 ?_
  refine va_sld hx hb hX hbl hbA hS (vp_in_iff.mpr (by omega)) dL_law_590 ?_
  refine lv_aload_n hx hb dL_law_591 rfl (lv_at hl 3 rfl) ?_
  refine lv_iload_n hx hb dL_law_592 rfl (lv_at hl 0 rfl) ?_
  refine lv_iconst (v := 2) hx hb dL_law_593 (by decide) ?_
  refine lv_iadd hx hb dL_law_594 ?_
  refine va_sld hx hb hX hbl hbA hS (vp_in_iff.mpr (by omega)) dL_law_595 ?_
  refine lw_call (As := [.int (xs (i + 1).toNatClampNeg), .int (xs (i + 2).toNatClampNeg)]) (rest := []) ⟨hx, hb, hml, hown, hts⟩ hN hKM hP hD hS hA (u9_plan l D H_2.size ((xs (i + 1).toNatClampNeg)) ((xs (i + 2).toNatClampNeg)) hM ok ) (cwV 2 hts gL_law_X9_plan rfl rfl rfl (by decide +kernel) ⟨(Nat.le_of_ble_eq_true rfl), (Nat.le_of_ble_eq_true rfl)⟩) 9 rfl hM.rc rfl hl.1 rfl (Nat.le_of_ble_eq_true rfl) dL_law_596 ⟨by have : room_1.cells = 600000 := rfl; omega, by have : room_1.slots = 7302250 := rfl; omega⟩ (fun r_4 wM_6 H_5 locs hr_4 hM hP hD hS => ?_)
  have hP := wcomm hP
  have hD := wcommD hD
  refine lv_pop hx hb dL_law_599 rfl ?_
  refine lv_goto (tgt := 692) hx hb dL_law_600 (by decide) ?_
  exact done _ _ _ _ _ _ _ _ hC hM ok hP hD hS (lv_sub hl [0, 1, 2, 3] rfl) (by omega) (by omega)

set_option maxHeartbeats 4000000 in
set_option maxRecDepth 100000 in
theorem law_c13 {p : Program} {l : Launch} {e : Env} {s : State} {m : MethodId} {below : List Frame} {meth : Method} {c : Code} {b L : Nat} {xs : Nat → Int32} {A : Nat → Prop} {D : va_G} {xo h9 : Nat} {tC tM : List (ClassId × FieldType)} {S : Int} {az : aS} {i : Int32} {wC wM : va_W} {H : Heap} {locs : List Loc} {ls : Array Slot} {cells slots : Nat} (C0 : lw_At p s m meth c b L xs) (hN : Nq s) (hA : ∀ q : Nat, s.heap.size ≤ q → A q) (hAf : ∀ q : Nat, A q → s.heap.size ≤ q) (hKC : va_K D vwCl tC s) (hKM : va_K D vwCl tM s) (hC : cST S az tC xo wC) (hM : mST az tM h9 wM) (ok : vOK az) (hSS : 0 ≤ S ∧ S ≤ 400000) (hP : va_P D vwCl (wC ++ wM) H) (hD : va_D A (wC ++ wM)) (hS : va_S A s.heap H locs) (hl : lv_has ls 4 [(3, .int i), (2, .ref h9), (1, .ref xo), (0, .ref b)]) (hi : 0 ≤ i.toInt ∧ i.toInt + 5 ≤ L ∧ L ≤ 2560) (hcs : cells + 6 ≤ 600000 ∧ slots + 53 ≤ 7302250) (done : ∀ (az : aS) (wC wM : va_W) (H : Heap) (locs : List Loc) (ls : Array Slot) (cells9 slots9 : Nat), cST (S + 200) az tC xo wC → mST az tM h9 wM → vOK az → va_P D vwCl (wC ++ wM) H → va_D A (wC ++ wM) → va_S A s.heap H locs → lv_has ls 4 [(3, .int i), (2, .ref h9), (1, .ref xo), (0, .ref b)] → cells9 ≤ cells + 6 → slots9 ≤ slots + 53 → W p l e room_1 s m #[Value.ref b] below meth c H locs cells9 slots9 (lw_Z below #[Value.ref b] s) (F0 m 692 ls [])) : W p l e room_1 s m #[Value.ref b] below meth c H locs cells slots (lw_Z below #[Value.ref b] s) (F0 m 603 ls []) := by
  obtain ⟨hx, hb, hr, hml, hown, hts, hX, hbl, hlocks, hgv⟩ := C0
  have hts := fun w h => hts w (wsL_law_in w h)
  have hb : c.code = cL_law := hb
  have hown : s.vm.findClass RL = some m.cls := hown
  have hbA : ¬ A b := fun q => absurd (hAf b q) (Nat.not_le.mpr hbl)
  have t1 := ad_toInt (x := i) (y := 1) (z := i + 1) (zx := i.toInt) (zy := 1) rfl rfl (by decide)
  have t2 := ad_toInt (x := i) (y := 2) (z := i + 2) (zx := i.toInt) (zy := 2) rfl rfl (by decide)
  have t3 := ad_toInt (x := i) (y := 3) (z := i + 3) (zx := i.toInt) (zy := 3) rfl rfl (by decide)
  have t4 := ad_toInt (x := i) (y := 4) (z := i + 4) (zx := i.toInt) (zy := 4) rfl rfl (by decide)
  refine lv_aload_n hx hb dL_law_603 rfl (lv_at hl 2 rfl) ?_
  refine lv_aload_n hx hb dL_law_604 rfl (lv_at hl 3 rfl) ?_
  refine lv_iload_n hx hb dL_law_605 rfl (lv_at hl 0 rfl) ?_
  refine lv_iconst (v := 1) hx hb dL_law_606 (by decide) ?_
  refine lv_iadd hx hb dL_law_607 ?_
  refine va_sld hx hb hX hbl hbA hS (vp_in_iff.mpr (by omega)) dL_law_608 ?_
  refine lv_aload_n hx hb dL_law_609 rfl (lv_at hl 3 rfl) ?_
  refine lv_iload_n hx hb dL_law_610 rfl (lv_at hl 0 rfl) ?_
  refine lv_iconst (v := 2) hx hb dL_law_611 (by decide) ?_
  refine lv_iadd hx hb dL_law_612 ?_
  refine va_sld hx hb hX hbl hbA hS (vp_in_iff.mpr (by omega)) dL_law_613 ?_
  refine lw_call (As := [.int (xs (i + 1).toNatClampNeg), .int (xs (i + 2).toNatClampNeg)]) (rest := []) ⟨hx, hb, hml, hown, hts⟩ hN hKC hP hD hS hA (u_worth l D H.size ((xs (i + 1).toNatClampNeg)) ((xs (i + 2).toNatClampNeg)) hC ok hSS ) (cwV 2 hts gL_law_X8_worth rfl rfl rfl (by decide +kernel) ⟨(Nat.le_of_ble_eq_true rfl), (Nat.le_of_ble_eq_true rfl)⟩) 8 rfl hC.rc rfl hl.1 rfl (Nat.le_of_ble_eq_true rfl) dL_law_614 ⟨by have : room_1.cells = 600000 := rfl; omega, by have : room_1.slots = 7302250 := rfl; omega⟩ (fun r_1 wC_3 H_2 locs hr_1 hC hP hD hS => ?_)
  have hP := wcomm hP
  have hD := wcommD hD
  refine lv_pop hx hb dL_law_617 rfl ?_
  refine lv_aload_n hx hb dL_law_618 rfl (lv_at hl 1 rfl) ?_
  refine lv_aload_n hx hb dL_law_619 rfl (lv_at hl 3 rfl) ?_
  refine lv_iload_n hx hb dL_law_620 rfl (lv_at hl 0 rfl) ?_
  refine lv_iconst (v := 1) hx hb dL_law_621 (by decide) ?_
  refine lv_iadd hx hb dL_law_622 ?_
  refine va_sld hx hb hX hbl hbA hS (vp_in_iff.mpr (by omega)) dL_law_623 ?_
  refine lv_aload_n hx hb dL_law_624 rfl (lv_at hl 3 rfl) ?_
  refine lv_iload_n hx hb dL_law_625 rfl (lv_at hl 0 rfl) ?_
  refine lv_iconst (v := 2) hx hb dL_law_626 (by decide) ?_
  refine lv_iadd hx hb dL_law_627 ?_
  refine va_sld hx hb hX hbl hbA hS (vp_in_iff.mpr (by omega)) dL_law_628 ?_
  refine lw_call (As := [.int (xs (i + 1).toNatClampNeg), .int (xs (i + 2).toNatClampNeg)]) (rest := []) ⟨hx, hb, hml, hown, hts⟩ hN hKM hP hD hS hA (u9_worth l D H_2.size ((xs (i + 1).toNatClampNeg)) ((xs (i + 2).toNatClampNeg)) hM ok ) (cwV 2 hts gL_law_X9_worth rfl rfl rfl (by decide +kernel) ⟨(Nat.le_of_ble_eq_true rfl), (Nat.le_of_ble_eq_true rfl)⟩) 9 rfl hM.rc rfl hl.1 rfl (Nat.le_of_ble_eq_true rfl) dL_law_629 ⟨by have : room_1.cells = 600000 := rfl; omega, by have : room_1.slots = 7302250 := rfl; omega⟩ (fun r_4 wM_6 H_5 locs hr_4 hM hP hD hS => ?_)
  have hP := wcomm hP
  have hD := wcommD hD
  refine lv_pop hx hb dL_law_632 rfl ?_
  refine lv_goto (tgt := 692) hx hb dL_law_633 (by decide) ?_
  exact done _ _ _ _ _ _ _ _ hC hM ok hP hD hS (lv_sub hl [0, 1, 2, 3] rfl) (by omega) (by omega)

set_option maxHeartbeats 4000000 in
set_option maxRecDepth 100000 in
theorem law_c14 {p : Program} {l : Launch} {e : Env} {s : State} {m : MethodId} {below : List Frame} {meth : Method} {c : Code} {b L : Nat} {xs : Nat → Int32} {A : Nat → Prop} {D : va_G} {xo h9 : Nat} {tC tM : List (ClassId × FieldType)} {S : Int} {az : aS} {i : Int32} {wC wM : va_W} {H : Heap} {locs : List Loc} {ls : Array Slot} {cells slots : Nat} (C0 : lw_At p s m meth c b L xs) (hN : Nq s) (hA : ∀ q : Nat, s.heap.size ≤ q → A q) (hAf : ∀ q : Nat, A q → s.heap.size ≤ q) (hKC : va_K D vwCl tC s) (hKM : va_K D vwCl tM s) (hC : cST S az tC xo wC) (hM : mST az tM h9 wM) (ok : vOK az) (hSS : 0 ≤ S ∧ S ≤ 400000) (hP : va_P D vwCl (wC ++ wM) H) (hD : va_D A (wC ++ wM)) (hS : va_S A s.heap H locs) (hl : lv_has ls 4 [(3, .int i), (2, .ref h9), (1, .ref xo), (0, .ref b)]) (hi : 0 ≤ i.toInt ∧ i.toInt + 5 ≤ L ∧ L ≤ 2560) (hcs : cells + 6 ≤ 600000 ∧ slots + 53 ≤ 7302250) (done : ∀ (az : aS) (wC wM : va_W) (H : Heap) (locs : List Loc) (ls : Array Slot) (cells9 slots9 : Nat), cST (S + 200) az tC xo wC → mST az tM h9 wM → vOK az → va_P D vwCl (wC ++ wM) H → va_D A (wC ++ wM) → va_S A s.heap H locs → lv_has ls 4 [(3, .int i), (2, .ref h9), (1, .ref xo), (0, .ref b)] → cells9 ≤ cells + 6 → slots9 ≤ slots + 53 → W p l e room_1 s m #[Value.ref b] below meth c H locs cells9 slots9 (lw_Z below #[Value.ref b] s) (F0 m 692 ls [])) : W p l e room_1 s m #[Value.ref b] below meth c H locs cells slots (lw_Z below #[Value.ref b] s) (F0 m 636 ls []) := by
  obtain ⟨hx, hb, hr, hml, hown, hts, hX, hbl, hlocks, hgv⟩ := C0
  have hts := fun w h => hts w (wsL_law_in w h)
  have hb : c.code = cL_law := hb
  have hown : s.vm.findClass RL = some m.cls := hown
  have hbA : ¬ A b := fun q => absurd (hAf b q) (Nat.not_le.mpr hbl)
  have t1 := ad_toInt (x := i) (y := 1) (z := i + 1) (zx := i.toInt) (zy := 1) rfl rfl (by decide)
  have t2 := ad_toInt (x := i) (y := 2) (z := i + 2) (zx := i.toInt) (zy := 2) rfl rfl (by decide)
  have t3 := ad_toInt (x := i) (y := 3) (z := i + 3) (zx := i.toInt) (zy := 3) rfl rfl (by decide)
  have t4 := ad_toInt (x := i) (y := 4) (z := i + 4) (zx := i.toInt) (zy := 4) rfl rfl (by decide)
  refine lv_aload_n hx hb dL_law_636 rfl (lv_at hl 2 rfl) ?_
  refine lv_aload_n hx hb dL_law_637 rfl (lv_at hl 3 rfl) ?_
  refine lv_iload_n hx hb dL_law_638 rfl (lv_at hl 0 rfl) ?_
  refine lv_iconst (v := 1) hx hb dL_law_639 (by decide) ?_
  refine lv_iadd hx hb dL_law_640 ?_
  refine va_sld hx hb hX hbl hbA hS (vp_in_iff.mpr (by omega)) dL_law_641 ?_
  refine lv_aload_n hx hb dL_law_642 rfl (lv_at hl 3 rfl) ?_
  refine lv_iload_n hx hb dL_law_643 rfl (lv_at hl 0 rfl) ?_
  refine lv_iconst (v := 2) hx hb dL_law_644 (by decide) ?_
  refine lv_iadd hx hb dL_law_645 ?_
  refine va_sld hx hb hX hbl hbA hS (vp_in_iff.mpr (by omega)) dL_law_646 ?_
  refine lw_call (As := [.int (xs (i + 1).toNatClampNeg), .int (xs (i + 2).toNatClampNeg)]) (rest := []) ⟨hx, hb, hml, hown, hts⟩ hN hKC hP hD hS hA (u_source l D H.size ((xs (i + 1).toNatClampNeg)) ((xs (i + 2).toNatClampNeg)) hC ok hSS ) (cwV 2 hts gL_law_X8_source rfl rfl rfl (by decide +kernel) ⟨(Nat.le_of_ble_eq_true rfl), (Nat.le_of_ble_eq_true rfl)⟩) 8 rfl hC.rc rfl hl.1 rfl (Nat.le_of_ble_eq_true rfl) dL_law_647 ⟨by have : room_1.cells = 600000 := rfl; omega, by have : room_1.slots = 7302250 := rfl; omega⟩ (fun r_1 wC_3 H_2 locs hr_1 hC hP hD hS => ?_)
  have hP := wcomm hP
  have hD := wcommD hD
  refine lv_pop hx hb dL_law_650 rfl ?_
  refine lv_aload_n hx hb dL_law_651 rfl (lv_at hl 1 rfl) ?_
  refine lv_aload_n hx hb dL_law_652 rfl (lv_at hl 3 rfl) ?_
  refine lv_iload_n hx hb dL_law_653 rfl (lv_at hl 0 rfl) ?_
  refine lv_iconst (v := 1) hx hb dL_law_654 (by decide) ?_
  refine lv_iadd hx hb dL_law_655 ?_
  refine va_sld hx hb hX hbl hbA hS (vp_in_iff.mpr (by omega)) dL_law_656 ?_
  refine lv_aload_n hx hb dL_law_657 rfl (lv_at hl 3 rfl) ?_
  refine lv_iload_n hx hb dL_law_658 rfl (lv_at hl 0 rfl) ?_
  refine lv_iconst (v := 2) hx hb dL_law_659 (by decide) ?_
  refine lv_iadd hx hb dL_law_660 ?_
  refine va_sld hx hb hX hbl hbA hS (vp_in_iff.mpr (by omega)) dL_law_661 ?_
  refine lw_call (As := [.int (xs (i + 1).toNatClampNeg), .int (xs (i + 2).toNatClampNeg)]) (rest := []) ⟨hx, hb, hml, hown, hts⟩ hN hKM hP hD hS hA (u9_source l D H_2.size ((xs (i + 1).toNatClampNeg)) ((xs (i + 2).toNatClampNeg)) hM ok ) (cwV 2 hts gL_law_X9_source rfl rfl rfl (by decide +kernel) ⟨(Nat.le_of_ble_eq_true rfl), (Nat.le_of_ble_eq_true rfl)⟩) 9 rfl hM.rc rfl hl.1 rfl (Nat.le_of_ble_eq_true rfl) dL_law_662 ⟨by have : room_1.cells = 600000 := rfl; omega, by have : room_1.slots = 7302250 := rfl; omega⟩ (fun r_4 wM_6 H_5 locs hr_4 hM hP hD hS => ?_)
  have hP := wcomm hP
  have hD := wcommD hD
  refine lv_pop hx hb dL_law_665 rfl ?_
  refine lv_goto (tgt := 692) hx hb dL_law_666 (by decide) ?_
  exact done _ _ _ _ _ _ _ _ hC hM ok hP hD hS (lv_sub hl [0, 1, 2, 3] rfl) (by omega) (by omega)

set_option maxHeartbeats 4000000 in
set_option maxRecDepth 100000 in
theorem law_c15 {p : Program} {l : Launch} {e : Env} {s : State} {m : MethodId} {below : List Frame} {meth : Method} {c : Code} {b L : Nat} {xs : Nat → Int32} {A : Nat → Prop} {D : va_G} {xo h9 : Nat} {tC tM : List (ClassId × FieldType)} {S : Int} {az : aS} {i : Int32} {wC wM : va_W} {H : Heap} {locs : List Loc} {ls : Array Slot} {cells slots : Nat} (C0 : lw_At p s m meth c b L xs) (hN : Nq s) (hA : ∀ q : Nat, s.heap.size ≤ q → A q) (hAf : ∀ q : Nat, A q → s.heap.size ≤ q) (hKC : va_K D vwCl tC s) (hKM : va_K D vwCl tM s) (hC : cST S az tC xo wC) (hM : mST az tM h9 wM) (ok : vOK az) (hSS : 0 ≤ S ∧ S ≤ 400000) (hP : va_P D vwCl (wC ++ wM) H) (hD : va_D A (wC ++ wM)) (hS : va_S A s.heap H locs) (hl : lv_has ls 4 [(3, .int i), (2, .ref h9), (1, .ref xo), (0, .ref b)]) (hi : 0 ≤ i.toInt ∧ i.toInt + 5 ≤ L ∧ L ≤ 2560) (hcs : cells + 6 ≤ 600000 ∧ slots + 53 ≤ 7302250) (done : ∀ (az : aS) (wC wM : va_W) (H : Heap) (locs : List Loc) (ls : Array Slot) (cells9 slots9 : Nat), cST (S + 200) az tC xo wC → mST az tM h9 wM → vOK az → va_P D vwCl (wC ++ wM) H → va_D A (wC ++ wM) → va_S A s.heap H locs → lv_has ls 4 [(3, .int i), (2, .ref h9), (1, .ref xo), (0, .ref b)] → cells9 ≤ cells + 6 → slots9 ≤ slots + 53 → W p l e room_1 s m #[Value.ref b] below meth c H locs cells9 slots9 (lw_Z below #[Value.ref b] s) (F0 m 692 ls [])) : W p l e room_1 s m #[Value.ref b] below meth c H locs cells slots (lw_Z below #[Value.ref b] s) (F0 m 669 ls []) := by
  obtain ⟨hx, hb, hr, hml, hown, hts, hX, hbl, hlocks, hgv⟩ := C0
  have hts := fun w h => hts w (wsL_law_in w h)
  have hb : c.code = cL_law := hb
  have hown : s.vm.findClass RL = some m.cls := hown
  have hbA : ¬ A b := fun q => absurd (hAf b q) (Nat.not_le.mpr hbl)
  have t1 := ad_toInt (x := i) (y := 1) (z := i + 1) (zx := i.toInt) (zy := 1) rfl rfl (by decide)
  have t2 := ad_toInt (x := i) (y := 2) (z := i + 2) (zx := i.toInt) (zy := 2) rfl rfl (by decide)
  have t3 := ad_toInt (x := i) (y := 3) (z := i + 3) (zx := i.toInt) (zy := 3) rfl rfl (by decide)
  have t4 := ad_toInt (x := i) (y := 4) (z := i + 4) (zx := i.toInt) (zy := 4) rfl rfl (by decide)
  refine lv_aload_n hx hb dL_law_669 rfl (lv_at hl 2 rfl) ?_
  refine lv_aload_n hx hb dL_law_670 rfl (lv_at hl 3 rfl) ?_
  refine lv_iload_n hx hb dL_law_671 rfl (lv_at hl 0 rfl) ?_
  refine lv_iconst (v := 1) hx hb dL_law_672 (by decide) ?_
  refine lv_iadd hx hb dL_law_673 ?_
  refine va_sld hx hb hX hbl hbA hS (vp_in_iff.mpr (by omega)) dL_law_674 ?_
  refine lw_call (As := [.int (xs (i + 1).toNatClampNeg)]) (rest := []) ⟨hx, hb, hml, hown, hts⟩ hN hKC hP hD hS hA (u_count l D H.size ((xs (i + 1).toNatClampNeg)) hC ok hSS ) (cwV 1 hts gL_law_X8_count rfl rfl rfl (by decide +kernel) ⟨(Nat.le_of_ble_eq_true rfl), (Nat.le_of_ble_eq_true rfl)⟩) 8 rfl hC.rc rfl hl.1 rfl (Nat.le_of_ble_eq_true rfl) dL_law_675 ⟨by have : room_1.cells = 600000 := rfl; omega, by have : room_1.slots = 7302250 := rfl; omega⟩ (fun r_1 wC_3 H_2 locs hr_1 hC hP hD hS => ?_)
  have hP := wcomm hP
  have hD := wcommD hD
  refine lv_pop hx hb dL_law_678 rfl ?_
  refine lv_aload_n hx hb dL_law_679 rfl (lv_at hl 1 rfl) ?_
  refine lv_aload_n hx hb dL_law_680 rfl (lv_at hl 3 rfl) ?_
  refine lv_iload_n hx hb dL_law_681 rfl (lv_at hl 0 rfl) ?_
  refine lv_iconst (v := 1) hx hb dL_law_682 (by decide) ?_
  refine lv_iadd hx hb dL_law_683 ?_
  refine va_sld hx hb hX hbl hbA hS (vp_in_iff.mpr (by omega)) dL_law_684 ?_
  refine lw_call (As := [.int (xs (i + 1).toNatClampNeg)]) (rest := []) ⟨hx, hb, hml, hown, hts⟩ hN hKM hP hD hS hA (u9_count l D H_2.size ((xs (i + 1).toNatClampNeg)) hM ok ) (cwV 1 hts gL_law_X9_count rfl rfl rfl (by decide +kernel) ⟨(Nat.le_of_ble_eq_true rfl), (Nat.le_of_ble_eq_true rfl)⟩) 9 rfl hM.rc rfl hl.1 rfl (Nat.le_of_ble_eq_true rfl) dL_law_685 ⟨by have : room_1.cells = 600000 := rfl; omega, by have : room_1.slots = 7302250 := rfl; omega⟩ (fun r_4 wM_6 H_5 locs hr_4 hM hP hD hS => ?_)
  have hP := wcomm hP
  have hD := wcommD hD
  refine lv_pop hx hb dL_law_688 rfl ?_
  refine lv_goto (tgt := 692) hx hb dL_law_689 (by decide) ?_
  exact done _ _ _ _ _ _ _ _ hC hM ok hP hD hS (lv_sub hl [0, 1, 2, 3] rfl) (by omega) (by omega)
