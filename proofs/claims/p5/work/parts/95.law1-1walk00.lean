set_option maxHeartbeats 4000000 in
set_option maxRecDepth 100000 in
theorem law_c4 {p : Program} {l : Launch} {e : Env} {s : State} {m : MethodId} {below : List Frame} {meth : Method} {c : Code} {b L : Nat} {xs : Nat → Int32} {A : Nat → Prop} {D : va_G} {xo h9 : Nat} {tC tM : List (ClassId × FieldType)} {S : Int} {az : aS} {i : Int32} {wC wM : va_W} {H : Heap} {locs : List Loc} {ls : Array Slot} {cells slots : Nat} (C0 : lw_At p s m meth c b L xs) (hN : Nq s) (hA : ∀ q : Nat, s.heap.size ≤ q → A q) (hAf : ∀ q : Nat, A q → s.heap.size ≤ q) (hKC : va_K D vwCl tC s) (hKM : va_K D vwCl tM s) (hC : cST S az tC xo wC) (hM : mST az tM h9 wM) (ok : vOK az) (hSS : 0 ≤ S ∧ S ≤ 400000) (hP : va_P D vwCl (wC ++ wM) H) (hD : va_D A (wC ++ wM)) (hS : va_S A s.heap H locs) (hl : lv_has ls 4 [(3, .int i), (2, .ref h9), (1, .ref xo), (0, .ref b)]) (hi : 0 ≤ i.toInt ∧ i.toInt + 5 ≤ L ∧ L ≤ 2560) (hcs : cells + 6 ≤ 600000 ∧ slots + 53 ≤ 7302250) (done : ∀ (az : aS) (wC wM : va_W) (H : Heap) (locs : List Loc) (ls : Array Slot) (cells9 slots9 : Nat), cST (S + 200) az tC xo wC → mST az tM h9 wM → vOK az → va_P D vwCl (wC ++ wM) H → va_D A (wC ++ wM) → va_S A s.heap H locs → lv_has ls 4 [(3, .int i), (2, .ref h9), (1, .ref xo), (0, .ref b)] → cells9 ≤ cells + 6 → slots9 ≤ slots + 53 → W p l e room_1 s m #[Value.ref b] below meth c H locs cells9 slots9 (lw_Z below #[Value.ref b] s) (F0 m 692 ls [])) : W p l e room_1 s m #[Value.ref b] below meth c H locs cells slots (lw_Z below #[Value.ref b] s) (F0 m 264 ls []) := by
  obtain ⟨hx, hb, hr, hml, hown, hts, hX, hbl, hlocks, hgv⟩ := C0
  have hts := fun w h => hts w (wsL_law_in w h)
  have hb : c.code = cL_law := hb
  have hown : s.vm.findClass RL = some m.cls := hown
  have hbA : ¬ A b := fun q => absurd (hAf b q) (Nat.not_le.mpr hbl)
  have t1 := ad_toInt (x := i) (y := 1) (z := i + 1) (zx := i.toInt) (zy := 1) rfl rfl (by decide)
  have t2 := ad_toInt (x := i) (y := 2) (z := i + 2) (zx := i.toInt) (zy := 2) rfl rfl (by decide)
  have t3 := ad_toInt (x := i) (y := 3) (z := i + 3) (zx := i.toInt) (zy := 3) rfl rfl (by decide)
  have t4 := ad_toInt (x := i) (y := 4) (z := i + 4) (zx := i.toInt) (zy := 4) rfl rfl (by decide)
  refine lv_aload_n hx hb dL_law_264 rfl (lv_at hl 2 rfl) ?_
  refine lv_aload_n hx hb dL_law_265 rfl (lv_at hl 3 rfl) ?_
  refine lv_iload_n hx hb dL_law_266 rfl (lv_at hl 0 rfl) ?_
  refine lv_iconst (v := 1) hx hb dL_law_267 (by decide) ?_
  refine lv_iadd hx hb dL_law_268 ?_
  refine va_sld hx hb hX hbl hbA hS (vp_in_iff.mpr (by omega)) dL_law_269 ?_
  refine lv_aload_n hx hb dL_law_270 rfl (lv_at hl 3 rfl) ?_
  refine lv_iload_n hx hb dL_law_271 rfl (lv_at hl 0 rfl) ?_
  refine lv_iconst (v := 2) hx hb dL_law_272 (by decide) ?_
  refine lv_iadd hx hb dL_law_273 ?_
  refine va_sld hx hb hX hbl hbA hS (vp_in_iff.mpr (by omega)) dL_law_274 ?_
  refine lv_aload_n hx hb dL_law_275 rfl (lv_at hl 3 rfl) ?_
  refine lv_iload_n hx hb dL_law_276 rfl (lv_at hl 0 rfl) ?_
  refine lv_iconst (v := 3) hx hb dL_law_277 (by decide) ?_
  refine lv_iadd hx hb dL_law_278 ?_
  refine va_sld hx hb hX hbl hbA hS (vp_in_iff.mpr (by omega)) dL_law_279 ?_
  refine bz_eq (zx := ((xs (i + 3).toNatClampNeg)).toInt) (tgt := 287) hx hb dL_law_280 (by decide) rfl (fun c_1 => ?_) (fun c_1 => ?_)
  · refine lv_iconst (v := 0) hx hb dL_law_287 (by decide) ?_
    refine lw_call (As := [.int (xs (i + 1).toNatClampNeg), .int (xs (i + 2).toNatClampNeg), .int 0]) (rest := []) ⟨hx, hb, hml, hown, hts⟩ hN hKC hP hD hS hA (u_verdict l D H.size ((xs (i + 1).toNatClampNeg)) ((xs (i + 2).toNatClampNeg)) (0) hC ok hSS ) (cwV 3 hts gL_law_X8_verdict rfl rfl rfl (by decide +kernel) ⟨(Nat.le_of_ble_eq_true rfl), (Nat.le_of_ble_eq_true rfl)⟩) 8 rfl hC.rc rfl hl.1 rfl (Nat.le_of_ble_eq_true rfl) dL_law_288 ⟨by have : room_1.cells = 600000 := rfl; omega, by have : room_1.slots = 7302250 := rfl; omega⟩ (fun r_2 wC_4 H_3 locs hr_2 hC hP hD hS => ?_)
    have hP := wcomm hP
    have hD := wcommD hD
    refine lv_pop hx hb dL_law_291 rfl ?_
    refine lv_aload_n hx hb dL_law_292 rfl (lv_at hl 1 rfl) ?_
    refine lv_aload_n hx hb dL_law_293 rfl (lv_at hl 3 rfl) ?_
    refine lv_iload_n hx hb dL_law_294 rfl (lv_at hl 0 rfl) ?_
    refine lv_iconst (v := 1) hx hb dL_law_295 (by decide) ?_
    refine lv_iadd hx hb dL_law_296 ?_
    refine va_sld hx hb hX hbl hbA hS (vp_in_iff.mpr (by omega)) dL_law_297 ?_
    refine lv_aload_n hx hb dL_law_298 rfl (lv_at hl 3 rfl) ?_
    refine lv_iload_n hx hb dL_law_299 rfl (lv_at hl 0 rfl) ?_
    refine lv_iconst (v := 2) hx hb dL_law_300 (by decide) ?_
    refine lv_iadd hx hb dL_law_301 ?_
    refine va_sld hx hb hX hbl hbA hS (vp_in_iff.mpr (by omega)) dL_law_302 ?_
    refine lv_aload_n hx hb dL_law_303 rfl (lv_at hl 3 rfl) ?_
    refine lv_iload_n hx hb dL_law_304 rfl (lv_at hl 0 rfl) ?_
    refine lv_iconst (v := 3) hx hb dL_law_305 (by decide) ?_
    refine lv_iadd hx hb dL_law_306 ?_
    refine va_sld hx hb hX hbl hbA hS (vp_in_iff.mpr (by omega)) dL_law_307 ?_
    refine bz_eq (zx := ((xs (i + 3).toNatClampNeg)).toInt) (tgt := 315) hx hb dL_law_308 (by decide) rfl (fun c_5 => ?_) (fun c_5 => ?_)
    · refine lv_iconst (v := 0) hx hb dL_law_315 (by decide) ?_
      refine lw_call (As := [.int (xs (i + 1).toNatClampNeg), .int (xs (i + 2).toNatClampNeg), .int 0]) (rest := []) ⟨hx, hb, hml, hown, hts⟩ hN hKM hP hD hS hA (u9_verdict l D H_3.size ((xs (i + 1).toNatClampNeg)) ((xs (i + 2).toNatClampNeg)) (0) hM ok ) (cwV 3 hts gL_law_X9_verdict rfl rfl rfl (by decide +kernel) ⟨(Nat.le_of_ble_eq_true rfl), (Nat.le_of_ble_eq_true rfl)⟩) 9 rfl hM.rc rfl hl.1 rfl (Nat.le_of_ble_eq_true rfl) dL_law_316 ⟨by have : room_1.cells = 600000 := rfl; omega, by have : room_1.slots = 7302250 := rfl; omega⟩ (fun r_6 wM_8 H_7 locs hr_6 hM hP hD hS => ?_)
      have hP := wcomm hP
      have hD := wcommD hD
      refine lv_pop hx hb dL_law_319 rfl ?_
      refine lv_goto (tgt := 692) hx hb dL_law_320 (by decide) ?_
      exact done _ _ _ _ _ _ _ _ hC hM (vOK_verdict ok) hP hD hS (lv_sub hl [0, 1, 2, 3] rfl) (by omega) (by omega)
    · refine lv_iconst (v := 1) hx hb dL_law_311 (by decide) ?_
      refine lv_goto (tgt := 316) hx hb dL_law_312 (by decide) ?_
      exfalso; omega
  · refine lv_iconst (v := 1) hx hb dL_law_283 (by decide) ?_
    refine lv_goto (tgt := 288) hx hb dL_law_284 (by decide) ?_
    refine lw_call (As := [.int (xs (i + 1).toNatClampNeg), .int (xs (i + 2).toNatClampNeg), .int 1]) (rest := []) ⟨hx, hb, hml, hown, hts⟩ hN hKC hP hD hS hA (u_verdict l D H.size ((xs (i + 1).toNatClampNeg)) ((xs (i + 2).toNatClampNeg)) (1) hC ok hSS ) (cwV 3 hts gL_law_X8_verdict rfl rfl rfl (by decide +kernel) ⟨(Nat.le_of_ble_eq_true rfl), (Nat.le_of_ble_eq_true rfl)⟩) 8 rfl hC.rc rfl hl.1 rfl (Nat.le_of_ble_eq_true rfl) dL_law_288 ⟨by have : room_1.cells = 600000 := rfl; omega, by have : room_1.slots = 7302250 := rfl; omega⟩ (fun r_11 wC_13 H_12 locs hr_11 hC hP hD hS => ?_)
    have hP := wcomm hP
    have hD := wcommD hD
    refine lv_pop hx hb dL_law_291 rfl ?_
    refine lv_aload_n hx hb dL_law_292 rfl (lv_at hl 1 rfl) ?_
    refine lv_aload_n hx hb dL_law_293 rfl (lv_at hl 3 rfl) ?_
    refine lv_iload_n hx hb dL_law_294 rfl (lv_at hl 0 rfl) ?_
    refine lv_iconst (v := 1) hx hb dL_law_295 (by decide) ?_
    refine lv_iadd hx hb dL_law_296 ?_
    refine va_sld hx hb hX hbl hbA hS (vp_in_iff.mpr (by omega)) dL_law_297 ?_
    refine lv_aload_n hx hb dL_law_298 rfl (lv_at hl 3 rfl) ?_
    refine lv_iload_n hx hb dL_law_299 rfl (lv_at hl 0 rfl) ?_
    refine lv_iconst (v := 2) hx hb dL_law_300 (by decide) ?_
    refine lv_iadd hx hb dL_law_301 ?_
    refine va_sld hx hb hX hbl hbA hS (vp_in_iff.mpr (by omega)) dL_law_302 ?_
    refine lv_aload_n hx hb dL_law_303 rfl (lv_at hl 3 rfl) ?_
    refine lv_iload_n hx hb dL_law_304 rfl (lv_at hl 0 rfl) ?_
    refine lv_iconst (v := 3) hx hb dL_law_305 (by decide) ?_
    refine lv_iadd hx hb dL_law_306 ?_
    refine va_sld hx hb hX hbl hbA hS (vp_in_iff.mpr (by omega)) dL_law_307 ?_
    refine bz_eq (zx := ((xs (i + 3).toNatClampNeg)).toInt) (tgt := 315) hx hb dL_law_308 (by decide) rfl (fun c_14 => ?_) (fun c_14 => ?_)
    · refine lv_iconst (v := 0) hx hb dL_law_315 (by decide) ?_
      exfalso; omega
    · refine lv_iconst (v := 1) hx hb dL_law_311 (by decide) ?_
      refine lv_goto (tgt := 316) hx hb dL_law_312 (by decide) ?_
      refine lw_call (As := [.int (xs (i + 1).toNatClampNeg), .int (xs (i + 2).toNatClampNeg), .int 1]) (rest := []) ⟨hx, hb, hml, hown, hts⟩ hN hKM hP hD hS hA (u9_verdict l D H_12.size ((xs (i + 1).toNatClampNeg)) ((xs (i + 2).toNatClampNeg)) (1) hM ok ) (cwV 3 hts gL_law_X9_verdict rfl rfl rfl (by decide +kernel) ⟨(Nat.le_of_ble_eq_true rfl), (Nat.le_of_ble_eq_true rfl)⟩) 9 rfl hM.rc rfl hl.1 rfl (Nat.le_of_ble_eq_true rfl) dL_law_316 ⟨by have : room_1.cells = 600000 := rfl; omega, by have : room_1.slots = 7302250 := rfl; omega⟩ (fun r_17 wM_19 H_18 locs hr_17 hM hP hD hS => ?_)
      have hP := wcomm hP
      have hD := wcommD hD
      refine lv_pop hx hb dL_law_319 rfl ?_
      refine lv_goto (tgt := 692) hx hb dL_law_320 (by decide) ?_
      exact done _ _ _ _ _ _ _ _ hC hM (vOK_verdict ok) hP hD hS (lv_sub hl [0, 1, 2, 3] rfl) (by omega) (by omega)

set_option maxHeartbeats 4000000 in
set_option maxRecDepth 100000 in
theorem law_c5 {p : Program} {l : Launch} {e : Env} {s : State} {m : MethodId} {below : List Frame} {meth : Method} {c : Code} {b L : Nat} {xs : Nat → Int32} {A : Nat → Prop} {D : va_G} {xo h9 : Nat} {tC tM : List (ClassId × FieldType)} {S : Int} {az : aS} {i : Int32} {wC wM : va_W} {H : Heap} {locs : List Loc} {ls : Array Slot} {cells slots : Nat} (C0 : lw_At p s m meth c b L xs) (hN : Nq s) (hA : ∀ q : Nat, s.heap.size ≤ q → A q) (hAf : ∀ q : Nat, A q → s.heap.size ≤ q) (hKC : va_K D vwCl tC s) (hKM : va_K D vwCl tM s) (hC : cST S az tC xo wC) (hM : mST az tM h9 wM) (ok : vOK az) (hSS : 0 ≤ S ∧ S ≤ 400000) (hP : va_P D vwCl (wC ++ wM) H) (hD : va_D A (wC ++ wM)) (hS : va_S A s.heap H locs) (hl : lv_has ls 4 [(3, .int i), (2, .ref h9), (1, .ref xo), (0, .ref b)]) (hi : 0 ≤ i.toInt ∧ i.toInt + 5 ≤ L ∧ L ≤ 2560) (hcs : cells + 6 ≤ 600000 ∧ slots + 53 ≤ 7302250) (done : ∀ (az : aS) (wC wM : va_W) (H : Heap) (locs : List Loc) (ls : Array Slot) (cells9 slots9 : Nat), cST (S + 200) az tC xo wC → mST az tM h9 wM → vOK az → va_P D vwCl (wC ++ wM) H → va_D A (wC ++ wM) → va_S A s.heap H locs → lv_has ls 4 [(3, .int i), (2, .ref h9), (1, .ref xo), (0, .ref b)] → cells9 ≤ cells + 6 → slots9 ≤ slots + 53 → W p l e room_1 s m #[Value.ref b] below meth c H locs cells9 slots9 (lw_Z below #[Value.ref b] s) (F0 m 692 ls [])) : W p l e room_1 s m #[Value.ref b] below meth c H locs cells slots (lw_Z below #[Value.ref b] s) (F0 m 323 ls []) := by
  obtain ⟨hx, hb, hr, hml, hown, hts, hX, hbl, hlocks, hgv⟩ := C0
  have hts := fun w h => hts w (wsL_law_in w h)
  have hb : c.code = cL_law := hb
  have hown : s.vm.findClass RL = some m.cls := hown
  have hbA : ¬ A b := fun q => absurd (hAf b q) (Nat.not_le.mpr hbl)
  have t1 := ad_toInt (x := i) (y := 1) (z := i + 1) (zx := i.toInt) (zy := 1) rfl rfl (by decide)
  have t2 := ad_toInt (x := i) (y := 2) (z := i + 2) (zx := i.toInt) (zy := 2) rfl rfl (by decide)
  have t3 := ad_toInt (x := i) (y := 3) (z := i + 3) (zx := i.toInt) (zy := 3) rfl rfl (by decide)
  have t4 := ad_toInt (x := i) (y := 4) (z := i + 4) (zx := i.toInt) (zy := 4) rfl rfl (by decide)
  refine lv_aload_n hx hb dL_law_323 rfl (lv_at hl 2 rfl) ?_
  refine lv_aload_n hx hb dL_law_324 rfl (lv_at hl 3 rfl) ?_
  refine lv_iload_n hx hb dL_law_325 rfl (lv_at hl 0 rfl) ?_
  refine lv_iconst (v := 1) hx hb dL_law_326 (by decide) ?_
  refine lv_iadd hx hb dL_law_327 ?_
  refine va_sld hx hb hX hbl hbA hS (vp_in_iff.mpr (by omega)) dL_law_328 ?_
  refine lv_aload_n hx hb dL_law_329 rfl (lv_at hl 3 rfl) ?_
  refine lv_iload_n hx hb dL_law_330 rfl (lv_at hl 0 rfl) ?_
  refine lv_iconst (v := 2) hx hb dL_law_331 (by decide) ?_
  refine lv_iadd hx hb dL_law_332 ?_
  refine va_sld hx hb hX hbl hbA hS (vp_in_iff.mpr (by omega)) dL_law_333 ?_
  refine lv_aload_n hx hb dL_law_334 rfl (lv_at hl 3 rfl) ?_
  refine lv_iload_n hx hb dL_law_335 rfl (lv_at hl 0 rfl) ?_
  refine lv_iconst (v := 3) hx hb dL_law_336 (by decide) ?_
  refine lv_iadd hx hb dL_law_337 ?_
  refine va_sld hx hb hX hbl hbA hS (vp_in_iff.mpr (by omega)) dL_law_338 ?_
  refine bz_eq (zx := ((xs (i + 3).toNatClampNeg)).toInt) (tgt := 346) hx hb dL_law_339 (by decide) rfl (fun c_1 => ?_) (fun c_1 => ?_)
  · refine lv_iconst (v := 0) hx hb dL_law_346 (by decide) ?_
    refine lw_call (As := [.int (xs (i + 1).toNatClampNeg), .int (xs (i + 2).toNatClampNeg), .int 0]) (rest := []) ⟨hx, hb, hml, hown, hts⟩ hN hKC hP hD hS hA (u_tie l D H.size ((xs (i + 1).toNatClampNeg)) ((xs (i + 2).toNatClampNeg)) (0) hC ok hSS (Or.inl rfl)) (cwV 3 hts gL_law_X8_tie rfl rfl rfl (by decide +kernel) ⟨(Nat.le_of_ble_eq_true rfl), (Nat.le_of_ble_eq_true rfl)⟩) 8 rfl hC.rc rfl hl.1 rfl (Nat.le_of_ble_eq_true rfl) dL_law_347 ⟨by have : room_1.cells = 600000 := rfl; omega, by have : room_1.slots = 7302250 := rfl; omega⟩ (fun r_2 wC_4 H_3 locs hr_2 hC hP hD hS => ?_)
    have hP := wcomm hP
    have hD := wcommD hD
    refine lv_pop hx hb dL_law_350 rfl ?_
    refine lv_aload_n hx hb dL_law_351 rfl (lv_at hl 1 rfl) ?_
    refine lv_aload_n hx hb dL_law_352 rfl (lv_at hl 3 rfl) ?_
    refine lv_iload_n hx hb dL_law_353 rfl (lv_at hl 0 rfl) ?_
    refine lv_iconst (v := 1) hx hb dL_law_354 (by decide) ?_
    refine lv_iadd hx hb dL_law_355 ?_
    refine va_sld hx hb hX hbl hbA hS (vp_in_iff.mpr (by omega)) dL_law_356 ?_
    refine lv_aload_n hx hb dL_law_357 rfl (lv_at hl 3 rfl) ?_
    refine lv_iload_n hx hb dL_law_358 rfl (lv_at hl 0 rfl) ?_
    refine lv_iconst (v := 2) hx hb dL_law_359 (by decide) ?_
    refine lv_iadd hx hb dL_law_360 ?_
    refine va_sld hx hb hX hbl hbA hS (vp_in_iff.mpr (by omega)) dL_law_361 ?_
    refine lv_aload_n hx hb dL_law_362 rfl (lv_at hl 3 rfl) ?_
    refine lv_iload_n hx hb dL_law_363 rfl (lv_at hl 0 rfl) ?_
    refine lv_iconst (v := 3) hx hb dL_law_364 (by decide) ?_
    refine lv_iadd hx hb dL_law_365 ?_
    refine va_sld hx hb hX hbl hbA hS (vp_in_iff.mpr (by omega)) dL_law_366 ?_
    refine bz_eq (zx := ((xs (i + 3).toNatClampNeg)).toInt) (tgt := 374) hx hb dL_law_367 (by decide) rfl (fun c_5 => ?_) (fun c_5 => ?_)
    · refine lv_iconst (v := 0) hx hb dL_law_374 (by decide) ?_
      refine lw_call (As := [.int (xs (i + 1).toNatClampNeg), .int (xs (i + 2).toNatClampNeg), .int 0]) (rest := []) ⟨hx, hb, hml, hown, hts⟩ hN hKM hP hD hS hA (u9_tie l D H_3.size ((xs (i + 1).toNatClampNeg)) ((xs (i + 2).toNatClampNeg)) (0) hM ok (Or.inl rfl)) (cwV 3 hts gL_law_X9_tie rfl rfl rfl (by decide +kernel) ⟨(Nat.le_of_ble_eq_true rfl), (Nat.le_of_ble_eq_true rfl)⟩) 9 rfl hM.rc rfl hl.1 rfl (Nat.le_of_ble_eq_true rfl) dL_law_375 ⟨by have : room_1.cells = 600000 := rfl; omega, by have : room_1.slots = 7302250 := rfl; omega⟩ (fun r_6 wM_8 H_7 locs hr_6 hM hP hD hS => ?_)
      have hP := wcomm hP
      have hD := wcommD hD
      refine lv_pop hx hb dL_law_378 rfl ?_
      refine lv_goto (tgt := 692) hx hb dL_law_379 (by decide) ?_
      exact done _ _ _ _ _ _ _ _ hC hM (vOK_tie ok) hP hD hS (lv_sub hl [0, 1, 2, 3] rfl) (by omega) (by omega)
    · refine lv_iconst (v := 1) hx hb dL_law_370 (by decide) ?_
      refine lv_goto (tgt := 375) hx hb dL_law_371 (by decide) ?_
      exfalso; omega
  · refine lv_iconst (v := 1) hx hb dL_law_342 (by decide) ?_
    refine lv_goto (tgt := 347) hx hb dL_law_343 (by decide) ?_
    refine lw_call (As := [.int (xs (i + 1).toNatClampNeg), .int (xs (i + 2).toNatClampNeg), .int 1]) (rest := []) ⟨hx, hb, hml, hown, hts⟩ hN hKC hP hD hS hA (u_tie l D H.size ((xs (i + 1).toNatClampNeg)) ((xs (i + 2).toNatClampNeg)) (1) hC ok hSS (Or.inr rfl)) (cwV 3 hts gL_law_X8_tie rfl rfl rfl (by decide +kernel) ⟨(Nat.le_of_ble_eq_true rfl), (Nat.le_of_ble_eq_true rfl)⟩) 8 rfl hC.rc rfl hl.1 rfl (Nat.le_of_ble_eq_true rfl) dL_law_347 ⟨by have : room_1.cells = 600000 := rfl; omega, by have : room_1.slots = 7302250 := rfl; omega⟩ (fun r_11 wC_13 H_12 locs hr_11 hC hP hD hS => ?_)
    have hP := wcomm hP
    have hD := wcommD hD
    refine lv_pop hx hb dL_law_350 rfl ?_
    refine lv_aload_n hx hb dL_law_351 rfl (lv_at hl 1 rfl) ?_
    refine lv_aload_n hx hb dL_law_352 rfl (lv_at hl 3 rfl) ?_
    refine lv_iload_n hx hb dL_law_353 rfl (lv_at hl 0 rfl) ?_
    refine lv_iconst (v := 1) hx hb dL_law_354 (by decide) ?_
    refine lv_iadd hx hb dL_law_355 ?_
    refine va_sld hx hb hX hbl hbA hS (vp_in_iff.mpr (by omega)) dL_law_356 ?_
    refine lv_aload_n hx hb dL_law_357 rfl (lv_at hl 3 rfl) ?_
    refine lv_iload_n hx hb dL_law_358 rfl (lv_at hl 0 rfl) ?_
    refine lv_iconst (v := 2) hx hb dL_law_359 (by decide) ?_
    refine lv_iadd hx hb dL_law_360 ?_
    refine va_sld hx hb hX hbl hbA hS (vp_in_iff.mpr (by omega)) dL_law_361 ?_
    refine lv_aload_n hx hb dL_law_362 rfl (lv_at hl 3 rfl) ?_
    refine lv_iload_n hx hb dL_law_363 rfl (lv_at hl 0 rfl) ?_
    refine lv_iconst (v := 3) hx hb dL_law_364 (by decide) ?_
    refine lv_iadd hx hb dL_law_365 ?_
    refine va_sld hx hb hX hbl hbA hS (vp_in_iff.mpr (by omega)) dL_law_366 ?_
    refine bz_eq (zx := ((xs (i + 3).toNatClampNeg)).toInt) (tgt := 374) hx hb dL_law_367 (by decide) rfl (fun c_14 => ?_) (fun c_14 => ?_)
    · refine lv_iconst (v := 0) hx hb dL_law_374 (by decide) ?_
      exfalso; omega
    · refine lv_iconst (v := 1) hx hb dL_law_370 (by decide) ?_
      refine lv_goto (tgt := 375) hx hb dL_law_371 (by decide) ?_
      refine lw_call (As := [.int (xs (i + 1).toNatClampNeg), .int (xs (i + 2).toNatClampNeg), .int 1]) (rest := []) ⟨hx, hb, hml, hown, hts⟩ hN hKM hP hD hS hA (u9_tie l D H_12.size ((xs (i + 1).toNatClampNeg)) ((xs (i + 2).toNatClampNeg)) (1) hM ok (Or.inr rfl)) (cwV 3 hts gL_law_X9_tie rfl rfl rfl (by decide +kernel) ⟨(Nat.le_of_ble_eq_true rfl), (Nat.le_of_ble_eq_true rfl)⟩) 9 rfl hM.rc rfl hl.1 rfl (Nat.le_of_ble_eq_true rfl) dL_law_375 ⟨by have : room_1.cells = 600000 := rfl; omega, by have : room_1.slots = 7302250 := rfl; omega⟩ (fun r_17 wM_19 H_18 locs hr_17 hM hP hD hS => ?_)
      have hP := wcomm hP
      have hD := wcommD hD
      refine lv_pop hx hb dL_law_378 rfl ?_
      refine lv_goto (tgt := 692) hx hb dL_law_379 (by decide) ?_
      exact done _ _ _ _ _ _ _ _ hC hM (vOK_tie ok) hP hD hS (lv_sub hl [0, 1, 2, 3] rfl) (by omega) (by omega)

set_option maxHeartbeats 4000000 in
set_option maxRecDepth 100000 in
theorem law_c6 {p : Program} {l : Launch} {e : Env} {s : State} {m : MethodId} {below : List Frame} {meth : Method} {c : Code} {b L : Nat} {xs : Nat → Int32} {A : Nat → Prop} {D : va_G} {xo h9 : Nat} {tC tM : List (ClassId × FieldType)} {S : Int} {az : aS} {i : Int32} {wC wM : va_W} {H : Heap} {locs : List Loc} {ls : Array Slot} {cells slots : Nat} (C0 : lw_At p s m meth c b L xs) (hN : Nq s) (hA : ∀ q : Nat, s.heap.size ≤ q → A q) (hAf : ∀ q : Nat, A q → s.heap.size ≤ q) (hKC : va_K D vwCl tC s) (hKM : va_K D vwCl tM s) (hC : cST S az tC xo wC) (hM : mST az tM h9 wM) (ok : vOK az) (hSS : 0 ≤ S ∧ S ≤ 400000) (hP : va_P D vwCl (wC ++ wM) H) (hD : va_D A (wC ++ wM)) (hS : va_S A s.heap H locs) (hl : lv_has ls 4 [(3, .int i), (2, .ref h9), (1, .ref xo), (0, .ref b)]) (hi : 0 ≤ i.toInt ∧ i.toInt + 5 ≤ L ∧ L ≤ 2560) (hcs : cells + 6 ≤ 600000 ∧ slots + 53 ≤ 7302250) (done : ∀ (az : aS) (wC wM : va_W) (H : Heap) (locs : List Loc) (ls : Array Slot) (cells9 slots9 : Nat), cST (S + 200) az tC xo wC → mST az tM h9 wM → vOK az → va_P D vwCl (wC ++ wM) H → va_D A (wC ++ wM) → va_S A s.heap H locs → lv_has ls 4 [(3, .int i), (2, .ref h9), (1, .ref xo), (0, .ref b)] → cells9 ≤ cells + 6 → slots9 ≤ slots + 53 → W p l e room_1 s m #[Value.ref b] below meth c H locs cells9 slots9 (lw_Z below #[Value.ref b] s) (F0 m 692 ls [])) : W p l e room_1 s m #[Value.ref b] below meth c H locs cells slots (lw_Z below #[Value.ref b] s) (F0 m 382 ls []) := by
  obtain ⟨hx, hb, hr, hml, hown, hts, hX, hbl, hlocks, hgv⟩ := C0
  have hts := fun w h => hts w (wsL_law_in w h)
  have hb : c.code = cL_law := hb
  have hown : s.vm.findClass RL = some m.cls := hown
  have hbA : ¬ A b := fun q => absurd (hAf b q) (Nat.not_le.mpr hbl)
  have t1 := ad_toInt (x := i) (y := 1) (z := i + 1) (zx := i.toInt) (zy := 1) rfl rfl (by decide)
  have t2 := ad_toInt (x := i) (y := 2) (z := i + 2) (zx := i.toInt) (zy := 2) rfl rfl (by decide)
  have t3 := ad_toInt (x := i) (y := 3) (z := i + 3) (zx := i.toInt) (zy := 3) rfl rfl (by decide)
  have t4 := ad_toInt (x := i) (y := 4) (z := i + 4) (zx := i.toInt) (zy := 4) rfl rfl (by decide)
  refine lv_aload_n hx hb dL_law_382 rfl (lv_at hl 2 rfl) ?_
  refine lv_aload_n hx hb dL_law_383 rfl (lv_at hl 3 rfl) ?_
  refine lv_iload_n hx hb dL_law_384 rfl (lv_at hl 0 rfl) ?_
  refine lv_iconst (v := 1) hx hb dL_law_385 (by decide) ?_
  refine lv_iadd hx hb dL_law_386 ?_
  refine va_sld hx hb hX hbl hbA hS (vp_in_iff.mpr (by omega)) dL_law_387 ?_
  refine lv_aload_n hx hb dL_law_388 rfl (lv_at hl 3 rfl) ?_
  refine lv_iload_n hx hb dL_law_389 rfl (lv_at hl 0 rfl) ?_
  refine lv_iconst (v := 2) hx hb dL_law_390 (by decide) ?_
  refine lv_iadd hx hb dL_law_391 ?_
  refine va_sld hx hb hX hbl hbA hS (vp_in_iff.mpr (by omega)) dL_law_392 ?_
  refine lw_call (As := [.int (xs (i + 1).toNatClampNeg), .int (xs (i + 2).toNatClampNeg)]) (rest := []) ⟨hx, hb, hml, hown, hts⟩ hN hKC hP hD hS hA (u_told l D H.size ((xs (i + 1).toNatClampNeg)) ((xs (i + 2).toNatClampNeg)) hC ok hSS ) (cwV 2 hts gL_law_X8_told rfl rfl rfl (by decide +kernel) ⟨(Nat.le_of_ble_eq_true rfl), (Nat.le_of_ble_eq_true rfl)⟩) 8 rfl hC.rc rfl hl.1 rfl (Nat.le_of_ble_eq_true rfl) dL_law_393 ⟨by have : room_1.cells = 600000 := rfl; omega, by have : room_1.slots = 7302250 := rfl; omega⟩ (fun r_1 wC_3 H_2 locs hr_1 hC hP hD hS => ?_)
  have hP := wcomm hP
  have hD := wcommD hD
  refine lv_pop hx hb dL_law_396 rfl ?_
  refine lv_aload_n hx hb dL_law_397 rfl (lv_at hl 1 rfl) ?_
  refine lv_aload_n hx hb dL_law_398 rfl (lv_at hl 3 rfl) ?_
  refine lv_iload_n hx hb dL_law_399 rfl (lv_at hl 0 rfl) ?_
  refine lv_iconst (v := 1) hx hb dL_law_400 (by decide) ?_
  refine lv_iadd hx hb dL_law_401 ?_
  refine va_sld hx hb hX hbl hbA hS (vp_in_iff.mpr (by omega)) dL_law_402 ?_
  refine lv_aload_n hx hb dL_law_403 rfl (lv_at hl 3 rfl) ?_
  refine lv_iload_n hx hb dL_law_404 rfl (lv_at hl 0 rfl) ?_
  refine lv_iconst (v := 2) hx hb dL_law_405 (by decide) ?_
  refine lv_iadd hx hb dL_law_406 ?_
  refine va_sld hx hb hX hbl hbA hS (vp_in_iff.mpr (by omega)) dL_law_407 ?_
  refine lw_call (As := [.int (xs (i + 1).toNatClampNeg), .int (xs (i + 2).toNatClampNeg)]) (rest := []) ⟨hx, hb, hml, hown, hts⟩ hN hKM hP hD hS hA (u9_told l D H_2.size ((xs (i + 1).toNatClampNeg)) ((xs (i + 2).toNatClampNeg)) hM ok ) (cwV 2 hts gL_law_X9_told rfl rfl rfl (by decide +kernel) ⟨(Nat.le_of_ble_eq_true rfl), (Nat.le_of_ble_eq_true rfl)⟩) 9 rfl hM.rc rfl hl.1 rfl (Nat.le_of_ble_eq_true rfl) dL_law_408 ⟨by have : room_1.cells = 600000 := rfl; omega, by have : room_1.slots = 7302250 := rfl; omega⟩ (fun r_4 wM_6 H_5 locs hr_4 hM hP hD hS => ?_)
  have hP := wcomm hP
  have hD := wcommD hD
  refine lv_pop hx hb dL_law_411 rfl ?_
  refine lv_goto (tgt := 692) hx hb dL_law_412 (by decide) ?_
  exact done _ _ _ _ _ _ _ _ hC hM ok hP hD hS (lv_sub hl [0, 1, 2, 3] rfl) (by omega) (by omega)

set_option maxHeartbeats 4000000 in
set_option maxRecDepth 100000 in
theorem law_c7 {p : Program} {l : Launch} {e : Env} {s : State} {m : MethodId} {below : List Frame} {meth : Method} {c : Code} {b L : Nat} {xs : Nat → Int32} {A : Nat → Prop} {D : va_G} {xo h9 : Nat} {tC tM : List (ClassId × FieldType)} {S : Int} {az : aS} {i : Int32} {wC wM : va_W} {H : Heap} {locs : List Loc} {ls : Array Slot} {cells slots : Nat} (C0 : lw_At p s m meth c b L xs) (hN : Nq s) (hA : ∀ q : Nat, s.heap.size ≤ q → A q) (hAf : ∀ q : Nat, A q → s.heap.size ≤ q) (hKC : va_K D vwCl tC s) (hKM : va_K D vwCl tM s) (hC : cST S az tC xo wC) (hM : mST az tM h9 wM) (ok : vOK az) (hSS : 0 ≤ S ∧ S ≤ 400000) (hP : va_P D vwCl (wC ++ wM) H) (hD : va_D A (wC ++ wM)) (hS : va_S A s.heap H locs) (hl : lv_has ls 4 [(3, .int i), (2, .ref h9), (1, .ref xo), (0, .ref b)]) (hi : 0 ≤ i.toInt ∧ i.toInt + 5 ≤ L ∧ L ≤ 2560) (hcs : cells + 6 ≤ 600000 ∧ slots + 53 ≤ 7302250) (done : ∀ (az : aS) (wC wM : va_W) (H : Heap) (locs : List Loc) (ls : Array Slot) (cells9 slots9 : Nat), cST (S + 200) az tC xo wC → mST az tM h9 wM → vOK az → va_P D vwCl (wC ++ wM) H → va_D A (wC ++ wM) → va_S A s.heap H locs → lv_has ls 4 [(3, .int i), (2, .ref h9), (1, .ref xo), (0, .ref b)] → cells9 ≤ cells + 6 → slots9 ≤ slots + 53 → W p l e room_1 s m #[Value.ref b] below meth c H locs cells9 slots9 (lw_Z below #[Value.ref b] s) (F0 m 692 ls [])) : W p l e room_1 s m #[Value.ref b] below meth c H locs cells slots (lw_Z below #[Value.ref b] s) (F0 m 415 ls []) := by
  obtain ⟨hx, hb, hr, hml, hown, hts, hX, hbl, hlocks, hgv⟩ := C0
  have hts := fun w h => hts w (wsL_law_in w h)
  have hb : c.code = cL_law := hb
  have hown : s.vm.findClass RL = some m.cls := hown
  have hbA : ¬ A b := fun q => absurd (hAf b q) (Nat.not_le.mpr hbl)
  have t1 := ad_toInt (x := i) (y := 1) (z := i + 1) (zx := i.toInt) (zy := 1) rfl rfl (by decide)
  have t2 := ad_toInt (x := i) (y := 2) (z := i + 2) (zx := i.toInt) (zy := 2) rfl rfl (by decide)
  have t3 := ad_toInt (x := i) (y := 3) (z := i + 3) (zx := i.toInt) (zy := 3) rfl rfl (by decide)
  have t4 := ad_toInt (x := i) (y := 4) (z := i + 4) (zx := i.toInt) (zy := 4) rfl rfl (by decide)
  refine lv_aload_n hx hb dL_law_415 rfl (lv_at hl 2 rfl) ?_
  refine lv_aload_n hx hb dL_law_416 rfl (lv_at hl 3 rfl) ?_
  refine lv_iload_n hx hb dL_law_417 rfl (lv_at hl 0 rfl) ?_
  refine lv_iconst (v := 1) hx hb dL_law_418 (by decide) ?_
  refine lv_iadd hx hb dL_law_419 ?_
  refine va_sld hx hb hX hbl hbA hS (vp_in_iff.mpr (by omega)) dL_law_420 ?_
  refine lv_aload_n hx hb dL_law_421 rfl (lv_at hl 3 rfl) ?_
  refine lv_iload_n hx hb dL_law_422 rfl (lv_at hl 0 rfl) ?_
  refine lv_iconst (v := 2) hx hb dL_law_423 (by decide) ?_
  refine lv_iadd hx hb dL_law_424 ?_
  refine va_sld hx hb hX hbl hbA hS (vp_in_iff.mpr (by omega)) dL_law_425 ?_
  refine lv_aload_n hx hb dL_law_426 rfl (lv_at hl 3 rfl) ?_
  refine lv_iload_n hx hb dL_law_427 rfl (lv_at hl 0 rfl) ?_
  refine lv_iconst (v := 3) hx hb dL_law_428 (by decide) ?_
  refine lv_iadd hx hb dL_law_429 ?_
  refine va_sld hx hb hX hbl hbA hS (vp_in_iff.mpr (by omega)) dL_law_430 ?_
  refine lw_call (As := [.int (xs (i + 1).toNatClampNeg), .int (xs (i + 2).toNatClampNeg), .int (xs (i + 3).toNatClampNeg)]) (rest := []) ⟨hx, hb, hml, hown, hts⟩ hN hKC hP hD hS hA (u_node l D H.size ((xs (i + 1).toNatClampNeg)) ((xs (i + 2).toNatClampNeg)) ((xs (i + 3).toNatClampNeg)) hC ok hSS ) (cwV 3 hts gL_law_X8_node rfl rfl rfl (by decide +kernel) ⟨(Nat.le_of_ble_eq_true rfl), (Nat.le_of_ble_eq_true rfl)⟩) 8 rfl hC.rc rfl hl.1 rfl (Nat.le_of_ble_eq_true rfl) dL_law_431 ⟨by have : room_1.cells = 600000 := rfl; omega, by have : room_1.slots = 7302250 := rfl; omega⟩ (fun r_1 wC_3 H_2 locs hr_1 hC hP hD hS => ?_)
  have hP := wcomm hP
  have hD := wcommD hD
  refine lv_pop hx hb dL_law_434 rfl ?_
  refine lv_aload_n hx hb dL_law_435 rfl (lv_at hl 1 rfl) ?_
  refine lv_aload_n hx hb dL_law_436 rfl (lv_at hl 3 rfl) ?_
  refine lv_iload_n hx hb dL_law_437 rfl (lv_at hl 0 rfl) ?_
  refine lv_iconst (v := 1) hx hb dL_law_438 (by decide) ?_
  refine lv_iadd hx hb dL_law_439 ?_
  refine va_sld hx hb hX hbl hbA hS (vp_in_iff.mpr (by omega)) dL_law_440 ?_
  refine lv_aload_n hx hb dL_law_441 rfl (lv_at hl 3 rfl) ?_
  refine lv_iload_n hx hb dL_law_442 rfl (lv_at hl 0 rfl) ?_
  refine lv_iconst (v := 2) hx hb dL_law_443 (by decide) ?_
  refine lv_iadd hx hb dL_law_444 ?_
  refine va_sld hx hb hX hbl hbA hS (vp_in_iff.mpr (by omega)) dL_law_445 ?_
  refine lv_aload_n hx hb dL_law_446 rfl (lv_at hl 3 rfl) ?_
  refine lv_iload_n hx hb dL_law_447 rfl (lv_at hl 0 rfl) ?_
  refine lv_iconst (v := 3) hx hb dL_law_448 (by decide) ?_
  refine lv_iadd hx hb dL_law_449 ?_
  refine va_sld hx hb hX hbl hbA hS (vp_in_iff.mpr (by omega)) dL_law_450 ?_
  refine lw_call (As := [.int (xs (i + 1).toNatClampNeg), .int (xs (i + 2).toNatClampNeg), .int (xs (i + 3).toNatClampNeg)]) (rest := []) ⟨hx, hb, hml, hown, hts⟩ hN hKM hP hD hS hA (u9_node l D H_2.size ((xs (i + 1).toNatClampNeg)) ((xs (i + 2).toNatClampNeg)) ((xs (i + 3).toNatClampNeg)) hM ok ) (cwV 3 hts gL_law_X9_node rfl rfl rfl (by decide +kernel) ⟨(Nat.le_of_ble_eq_true rfl), (Nat.le_of_ble_eq_true rfl)⟩) 9 rfl hM.rc rfl hl.1 rfl (Nat.le_of_ble_eq_true rfl) dL_law_451 ⟨by have : room_1.cells = 600000 := rfl; omega, by have : room_1.slots = 7302250 := rfl; omega⟩ (fun r_4 wM_6 H_5 locs hr_4 hM hP hD hS => ?_)
  have hP := wcomm hP
  have hD := wcommD hD
  refine lv_pop hx hb dL_law_454 rfl ?_
  refine lv_goto (tgt := 692) hx hb dL_law_455 (by decide) ?_
  exact done _ _ _ _ _ _ _ _ hC hM ok hP hD hS (lv_sub hl [0, 1, 2, 3] rfl) (by omega) (by omega)
