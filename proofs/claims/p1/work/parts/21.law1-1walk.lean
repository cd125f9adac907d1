set_option maxHeartbeats 4000000 in
set_option maxRecDepth 100000 in
theorem law_c6 {p : Program} {l : Launch} {e : Env} {s : State} {m : MethodId} {below : List Frame} {meth : Method} {c : Code} {b : Nat} {xs : Nat → Int32} {A : Nat → Prop} {D : va_G} {H : Heap} {locs : List Loc} {ls : Array Slot} {q0 a1 a2 a3 a4 a5 a6 a7 o5 o6 t1 t2 t3 t4 h9 b1 b2 b3 b4 b5 b6 b7 b8 b9 b10 b11 b12 b13 b14 b15 b16 b17 b18 b19 b20 b21 b22 b23 b24 b25 : Nat} {c1 c2 c3 c6 c7 d1 d2 d3 d4 d5 d6 d7 d8 d9 d10 d11 d12 d13 d14 d15 d16 d17 d18 d19 d20 d21 d22 d23 d24 d25 : ClassId} (C0 : lw_At p s m meth c b 5 xs) (hN : Nq s) (hA : ∀ q : Nat, s.heap.size ≤ q → A q) (hAf : ∀ q : Nat, A q → s.heap.size ≤ q) (hK : va_K D vwCl (wLT c1 c2 c3 c6 c7 d1 d2 d3 d4 d5 d6 d7 d8 d9 d10 d11 d12 d13 d14 d15 d16 d17 d18 d19 d20 d21 d22 d23 d24 d25) s) (hP : va_P D vwCl (wLW q0 a1 a2 a3 a4 a5 a6 a7 o5 o6 t1 t2 t3 t4 h9 b1 b2 b3 b4 b5 b6 b7 b8 b9 b10 b11 b12 b13 b14 b15 b16 b17 b18 b19 b20 b21 b22 b23 b24 b25 c1 c2 c3 c6 c7 d1 d2 d3 d4 d5 d6 d7 d8 d9 d10 d11 d12 d13 d14 d15 d16 d17 d18 d19 d20 d21 d22 d23 d24 d25) H) (hD : va_D A (wLW q0 a1 a2 a3 a4 a5 a6 a7 o5 o6 t1 t2 t3 t4 h9 b1 b2 b3 b4 b5 b6 b7 b8 b9 b10 b11 b12 b13 b14 b15 b16 b17 b18 b19 b20 b21 b22 b23 b24 b25 c1 c2 c3 c6 c7 d1 d2 d3 d4 d5 d6 d7 d8 d9 d10 d11 d12 d13 d14 d15 d16 d17 d18 d19 d20 d21 d22 d23 d24 d25)) (hS : va_S A s.heap H locs) (hl : lv_has ls 4 [(3, .int 0), (2, .ref h9), (1, .ref q0), (0, .ref b)]) : W p l e room_1 s m #[Value.ref b] below meth c H locs 40 4558 (lw_Z below #[Value.ref b] s) (F0 m 382 ls []) := by
  obtain ⟨hx, hb, hr, hml, hown, hts, hX, hbl, hlocks, hgv⟩ := C0
  have hts := fun w h => hts w (wsL_law_in w h)
  have hb : c.code = cL_law := hb
  have hown : s.vm.findClass RL = some m.cls := hown
  have hbA : ¬ A b := fun q => absurd (hAf b q) (Nat.not_le.mpr hbl)
  have hP := hP.sub (ws' := [(q0, .inr (8, [.ref a1, .ref a2, .ref a3, .ref a4, .ref a5, .ref a6, .ref a7, .int 0, .int 0, .int 0, .int 50, .int 3, .int 0, .int 0])), (h9, .inr (9, [.int 0, .int 0, .int 0, .int 0, .int 50, .int 3, .int 0, .ref b1, .ref b2, .ref b3, .ref b4, .ref b5, .ref b6, .ref b7, .ref b8, .ref b9, .ref b10, .ref b11, .ref b12, .ref b13, .ref b14, .ref b15, .ref b16, .ref b17, .ref b18, .int 0, .int 0, .int 0, .ref b19, .ref b20, .ref b21, .int 0, .ref b22, .ref b23, .int 0, .ref b24, .ref b25]))]) [0, 10] rfl
  have hD := hD.sub (ws' := [(q0, .inr (8, [.ref a1, .ref a2, .ref a3, .ref a4, .ref a5, .ref a6, .ref a7, .int 0, .int 0, .int 0, .int 50, .int 3, .int 0, .int 0])), (h9, .inr (9, [.int 0, .int 0, .int 0, .int 0, .int 50, .int 3, .int 0, .ref b1, .ref b2, .ref b3, .ref b4, .ref b5, .ref b6, .ref b7, .ref b8, .ref b9, .ref b10, .ref b11, .ref b12, .ref b13, .ref b14, .ref b15, .ref b16, .ref b17, .ref b18, .int 0, .int 0, .int 0, .ref b19, .ref b20, .ref b21, .int 0, .ref b22, .ref b23, .int 0, .ref b24, .ref b25]))]) [0, 10] (by decide) rfl
  have hK := hK.sub (tys' := []) [] rfl
  refine lv_aload_n hx hb dL_law_382 rfl (lv_at hl 2 rfl) ?_
  refine lv_aload_n hx hb dL_law_383 rfl (lv_at hl 3 rfl) ?_
  refine lv_iload_n hx hb dL_law_384 rfl (lv_at hl 0 rfl) ?_
  refine lv_iconst (v := 1) hx hb dL_law_385 (by decide) ?_
  refine lv_iadd hx hb dL_law_386 ?_
  refine lv_tope (z := 1) (by decide) ?_
  refine va_sld hx hb hX hbl hbA hS (vp_in_iff.mpr (by decide)) dL_law_387 ?_
  refine lv_tope (z := xs 1) rfl ?_
  refine lv_aload_n hx hb dL_law_388 rfl (lv_at hl 3 rfl) ?_
  refine lv_iload_n hx hb dL_law_389 rfl (lv_at hl 0 rfl) ?_
  refine lv_iconst (v := 2) hx hb dL_law_390 (by decide) ?_
  refine lv_iadd hx hb dL_law_391 ?_
  refine lv_tope (z := 2) (by decide) ?_
  refine va_sld hx hb hX hbl hbA hS (vp_in_iff.mpr (by decide)) dL_law_392 ?_
  refine lv_tope (z := xs 2) rfl ?_
  refine vp_callSi (zrV (As := [.int (xs 1), .int (xs 2)]) (rest := []) (wc := [(q0, .inr (8, [.ref a1, .ref a2, .ref a3, .ref a4, .ref a5, .ref a6, .ref a7, .int 0, .int 0, .int 0, .int 50, .int 3, .int 0, .int 0]))]) ⟨hx, hb, hml, hown, hts⟩ hN hK hP hD (k_X8_told l D q0 a1 a2 a3 a4 a5 a6 a7 ((xs 1)) ((xs 2)) ) (cwV 2 hts gL_law_X8_told rfl rfl rfl (by decide +kernel) ⟨(Nat.le_of_ble_eq_true rfl), (Nat.le_of_ble_eq_true rfl)⟩) [] [0] rfl rfl (by decide) 8 0 rfl rfl rfl hl.1 rfl (Nat.le_of_ble_eq_true rfl) dL_law_393 ⟨(Nat.le_of_ble_eq_true rfl), (Nat.le_of_ble_eq_true rfl)⟩) (fun r_1 h_2 => ?_)
  refine lv_aload_n hx hb dL_law_396 rfl (lv_at hl 1 rfl) ?_
  refine lv_aload_n hx hb dL_law_397 rfl (lv_at hl 3 rfl) ?_
  refine lv_iload_n hx hb dL_law_398 rfl (lv_at hl 0 rfl) ?_
  refine lv_iconst (v := 1) hx hb dL_law_399 (by decide) ?_
  refine lv_iadd hx hb dL_law_400 ?_
  refine lv_tope (z := 1) (by decide) ?_
  refine va_sld hx hb hX hbl hbA hS (vp_in_iff.mpr (by decide)) dL_law_401 ?_
  refine lv_tope (z := xs 1) rfl ?_
  refine lv_aload_n hx hb dL_law_402 rfl (lv_at hl 3 rfl) ?_
  refine lv_iload_n hx hb dL_law_403 rfl (lv_at hl 0 rfl) ?_
  refine lv_iconst (v := 2) hx hb dL_law_404 (by decide) ?_
  refine lv_iadd hx hb dL_law_405 ?_
  refine lv_tope (z := 2) (by decide) ?_
  refine va_sld hx hb hX hbl hbA hS (vp_in_iff.mpr (by decide)) dL_law_406 ?_
  refine lv_tope (z := xs 2) rfl ?_
  refine vp_callSi (zrV (As := [.int (xs 1), .int (xs 2)]) (rest := [.int r_1]) (wc := [(h9, .inr (9, [.int 0, .int 0, .int 0, .int 0, .int 50, .int 3, .int 0, .ref b1, .ref b2, .ref b3, .ref b4, .ref b5, .ref b6, .ref b7, .ref b8, .ref b9, .ref b10, .ref b11, .ref b12, .ref b13, .ref b14, .ref b15, .ref b16, .ref b17, .ref b18, .int 0, .int 0, .int 0, .ref b19, .ref b20, .ref b21, .int 0, .ref b22, .ref b23, .int 0, .ref b24, .ref b25]))]) ⟨hx, hb, hml, hown, hts⟩ hN hK hP hD (k_X9_told l D h9 b1 b2 b3 b4 b5 b6 b7 b8 b9 b10 b11 b12 b13 b14 b15 b16 b17 b18 b19 b20 b21 b22 b23 b24 b25 ((xs 1)) ((xs 2)) ) (cwV 2 hts gL_law_X9_told rfl rfl rfl (by decide +kernel) ⟨(Nat.le_of_ble_eq_true rfl), (Nat.le_of_ble_eq_true rfl)⟩) [] [1] rfl rfl (by decide) 9 0 rfl rfl rfl hl.1 rfl (Nat.le_of_ble_eq_true rfl) dL_law_407 ⟨(Nat.le_of_ble_eq_true rfl), (Nat.le_of_ble_eq_true rfl)⟩) (fun r_3 h_4 => ?_)
  refine lv_icmp_eq (tgt := 692) hx hb dL_law_410 (by decide) (fun _ => ?_) (fun c_ => absurd ((h_2).trans (h_4).symm) c_)
  exact law_tail hA hAf hx hb hr hlocks hX hbl hbA hS (lv_sub hl [0, 3] rfl) (Nat.le_of_ble_eq_true rfl) (Nat.le_of_ble_eq_true rfl)

set_option maxHeartbeats 4000000 in
set_option maxRecDepth 100000 in
theorem law_c7 {p : Program} {l : Launch} {e : Env} {s : State} {m : MethodId} {below : List Frame} {meth : Method} {c : Code} {b : Nat} {xs : Nat → Int32} {A : Nat → Prop} {D : va_G} {H : Heap} {locs : List Loc} {ls : Array Slot} {q0 a1 a2 a3 a4 a5 a6 a7 o5 o6 t1 t2 t3 t4 h9 b1 b2 b3 b4 b5 b6 b7 b8 b9 b10 b11 b12 b13 b14 b15 b16 b17 b18 b19 b20 b21 b22 b23 b24 b25 : Nat} {c1 c2 c3 c6 c7 d1 d2 d3 d4 d5 d6 d7 d8 d9 d10 d11 d12 d13 d14 d15 d16 d17 d18 d19 d20 d21 d22 d23 d24 d25 : ClassId} (C0 : lw_At p s m meth c b 5 xs) (hN : Nq s) (hA : ∀ q : Nat, s.heap.size ≤ q → A q) (hAf : ∀ q : Nat, A q → s.heap.size ≤ q) (hK : va_K D vwCl (wLT c1 c2 c3 c6 c7 d1 d2 d3 d4 d5 d6 d7 d8 d9 d10 d11 d12 d13 d14 d15 d16 d17 d18 d19 d20 d21 d22 d23 d24 d25) s) (hP : va_P D vwCl (wLW q0 a1 a2 a3 a4 a5 a6 a7 o5 o6 t1 t2 t3 t4 h9 b1 b2 b3 b4 b5 b6 b7 b8 b9 b10 b11 b12 b13 b14 b15 b16 b17 b18 b19 b20 b21 b22 b23 b24 b25 c1 c2 c3 c6 c7 d1 d2 d3 d4 d5 d6 d7 d8 d9 d10 d11 d12 d13 d14 d15 d16 d17 d18 d19 d20 d21 d22 d23 d24 d25) H) (hD : va_D A (wLW q0 a1 a2 a3 a4 a5 a6 a7 o5 o6 t1 t2 t3 t4 h9 b1 b2 b3 b4 b5 b6 b7 b8 b9 b10 b11 b12 b13 b14 b15 b16 b17 b18 b19 b20 b21 b22 b23 b24 b25 c1 c2 c3 c6 c7 d1 d2 d3 d4 d5 d6 d7 d8 d9 d10 d11 d12 d13 d14 d15 d16 d17 d18 d19 d20 d21 d22 d23 d24 d25)) (hS : va_S A s.heap H locs) (hl : lv_has ls 4 [(3, .int 0), (2, .ref h9), (1, .ref q0), (0, .ref b)]) : W p l e room_1 s m #[Value.ref b] below meth c H locs 40 4558 (lw_Z below #[Value.ref b] s) (F0 m 415 ls []) := by
  obtain ⟨hx, hb, hr, hml, hown, hts, hX, hbl, hlocks, hgv⟩ := C0
  have hts := fun w h => hts w (wsL_law_in w h)
  have hb : c.code = cL_law := hb
  have hown : s.vm.findClass RL = some m.cls := hown
  have hbA : ¬ A b := fun q => absurd (hAf b q) (Nat.not_le.mpr hbl)
  have hP := hP.sub (ws' := [(q0, .inr (8, [.ref a1, .ref a2, .ref a3, .ref a4, .ref a5, .ref a6, .ref a7, .int 0, .int 0, .int 0, .int 50, .int 3, .int 0, .int 0])), (a4, .inr (3, [.null, .int 0, .int 0, .null, .null, .int 0, .int 0, .int 0])), (h9, .inr (9, [.int 0, .int 0, .int 0, .int 0, .int 50, .int 3, .int 0, .ref b1, .ref b2, .ref b3, .ref b4, .ref b5, .ref b6, .ref b7, .ref b8, .ref b9, .ref b10, .ref b11, .ref b12, .ref b13, .ref b14, .ref b15, .ref b16, .ref b17, .ref b18, .int 0, .int 0, .int 0, .ref b19, .ref b20, .ref b21, .int 0, .ref b22, .ref b23, .int 0, .ref b24, .ref b25]))]) [0, 4, 10] rfl
  have hD := hD.sub (ws' := [(q0, .inr (8, [.ref a1, .ref a2, .ref a3, .ref a4, .ref a5, .ref a6, .ref a7, .int 0, .int 0, .int 0, .int 50, .int 3, .int 0, .int 0])), (a4, .inr (3, [.null, .int 0, .int 0, .null, .null, .int 0, .int 0, .int 0])), (h9, .inr (9, [.int 0, .int 0, .int 0, .int 0, .int 50, .int 3, .int 0, .ref b1, .ref b2, .ref b3, .ref b4, .ref b5, .ref b6, .ref b7, .ref b8, .ref b9, .ref b10, .ref b11, .ref b12, .ref b13, .ref b14, .ref b15, .ref b16, .ref b17, .ref b18, .int 0, .int 0, .int 0, .ref b19, .ref b20, .ref b21, .int 0, .ref b22, .ref b23, .int 0, .ref b24, .ref b25]))]) [0, 4, 10] (by decide) rfl
  have hK := hK.sub (tys' := []) [] rfl
  refine lv_aload_n hx hb dL_law_415 rfl (lv_at hl 2 rfl) ?_
  refine lv_aload_n hx hb dL_law_416 rfl (lv_at hl 3 rfl) ?_
  refine lv_iload_n hx hb dL_law_417 rfl (lv_at hl 0 rfl) ?_
  refine lv_iconst (v := 1) hx hb dL_law_418 (by decide) ?_
  refine lv_iadd hx hb dL_law_419 ?_
  refine lv_tope (z := 1) (by decide) ?_
  refine va_sld hx hb hX hbl hbA hS (vp_in_iff.mpr (by decide)) dL_law_420 ?_
  refine lv_tope (z := xs 1) rfl ?_
  refine lv_aload_n hx hb dL_law_421 rfl (lv_at hl 3 rfl) ?_
  refine lv_iload_n hx hb dL_law_422 rfl (lv_at hl 0 rfl) ?_
  refine lv_iconst (v := 2) hx hb dL_law_423 (by decide) ?_
  refine lv_iadd hx hb dL_law_424 ?_
  refine lv_tope (z := 2) (by decide) ?_
  refine va_sld hx hb hX hbl hbA hS (vp_in_iff.mpr (by decide)) dL_law_425 ?_
  refine lv_tope (z := xs 2) rfl ?_
  refine lv_aload_n hx hb dL_law_426 rfl (lv_at hl 3 rfl) ?_
  refine lv_iload_n hx hb dL_law_427 rfl (lv_at hl 0 rfl) ?_
  refine lv_iconst (v := 3) hx hb dL_law_428 (by decide) ?_
  refine lv_iadd hx hb dL_law_429 ?_
  refine lv_tope (z := 3) (by decide) ?_
  refine va_sld hx hb hX hbl hbA hS (vp_in_iff.mpr (by decide)) dL_law_430 ?_
  refine lv_tope (z := xs 3) rfl ?_
  refine vp_callSi (zrV (As := [.int (xs 1), .int (xs 2), .int (xs 3)]) (rest := []) (wc := [(q0, .inr (8, [.ref a1, .ref a2, .ref a3, .ref a4, .ref a5, .ref a6, .ref a7, .int 0, .int 0, .int 0, .int 50, .int 3, .int 0, .int 0])), (a4, .inr (3, [.null, .int 0, .int 0, .null, .null, .int 0, .int 0, .int 0]))]) ⟨hx, hb, hml, hown, hts⟩ hN hK hP hD (k_X8_node l D q0 a1 a2 a3 a4 a5 a6 a7 ((xs 1)) ((xs 2)) ((xs 3)) ) (cwV 3 hts gL_law_X8_node rfl rfl rfl (by decide +kernel) ⟨(Nat.le_of_ble_eq_true rfl), (Nat.le_of_ble_eq_true rfl)⟩) [] [0, 1] rfl rfl (by decide) 8 0 rfl rfl rfl hl.1 rfl (Nat.le_of_ble_eq_true rfl) dL_law_431 ⟨(Nat.le_of_ble_eq_true rfl), (Nat.le_of_ble_eq_true rfl)⟩) (fun r_1 h_2 => ?_)
  refine lv_aload_n hx hb dL_law_434 rfl (lv_at hl 1 rfl) ?_
  refine lv_aload_n hx hb dL_law_435 rfl (lv_at hl 3 rfl) ?_
  refine lv_iload_n hx hb dL_law_436 rfl (lv_at hl 0 rfl) ?_
  refine lv_iconst (v := 1) hx hb dL_law_437 (by decide) ?_
  refine lv_iadd hx hb dL_law_438 ?_
  refine lv_tope (z := 1) (by decide) ?_
  refine va_sld hx hb hX hbl hbA hS (vp_in_iff.mpr (by decide)) dL_law_439 ?_
  refine lv_tope (z := xs 1) rfl ?_
  refine lv_aload_n hx hb dL_law_440 rfl (lv_at hl 3 rfl) ?_
  refine lv_iload_n hx hb dL_law_441 rfl (lv_at hl 0 rfl) ?_
  refine lv_iconst (v := 2) hx hb dL_law_442 (by decide) ?_
  refine lv_iadd hx hb dL_law_443 ?_
  refine lv_tope (z := 2) (by decide) ?_
  refine va_sld hx hb hX hbl hbA hS (vp_in_iff.mpr (by decide)) dL_law_444 ?_
  refine lv_tope (z := xs 2) rfl ?_
  refine lv_aload_n hx hb dL_law_445 rfl (lv_at hl 3 rfl) ?_
  refine lv_iload_n hx hb dL_law_446 rfl (lv_at hl 0 rfl) ?_
  refine lv_iconst (v := 3) hx hb dL_law_447 (by decide) ?_
  refine lv_iadd hx hb dL_law_448 ?_
  refine lv_tope (z := 3) (by decide) ?_
  refine va_sld hx hb hX hbl hbA hS (vp_in_iff.mpr (by decide)) dL_law_449 ?_
  refine lv_tope (z := xs 3) rfl ?_
  refine va_calli (zwV (As := [.int (xs 1), .int (xs 2), .int (xs 3)]) (rest := [.int r_1]) (wc := [(h9, .inr (9, [.int 0, .int 0, .int 0, .int 0, .int 50, .int 3, .int 0, .ref b1, .ref b2, .ref b3, .ref b4, .ref b5, .ref b6, .ref b7, .ref b8, .ref b9, .ref b10, .ref b11, .ref b12, .ref b13, .ref b14, .ref b15, .ref b16, .ref b17, .ref b18, .int 0, .int 0, .int 0, .ref b19, .ref b20, .ref b21, .int 0, .ref b22, .ref b23, .int 0, .ref b24, .ref b25]))]) ⟨hx, hb, hml, hown, hts⟩ hN hK hP hD (k_X9_node l D H.size h9 b1 b2 b3 b4 b5 b6 b7 b8 b9 b10 b11 b12 b13 b14 b15 b16 b17 b18 b19 b20 b21 b22 b23 b24 b25 ((xs 1)) ((xs 2)) ((xs 3)) ) (cwV 3 hts gL_law_X9_node rfl rfl rfl (by decide +kernel) ⟨(Nat.le_of_ble_eq_true rfl), (Nat.le_of_ble_eq_true rfl)⟩) [] [2] rfl rfl (by decide) 9 0 rfl rfl rfl hl.1 rfl (Nat.le_of_ble_eq_true rfl) dL_law_450 ⟨(Nat.le_of_ble_eq_true rfl), (Nat.le_of_ble_eq_true rfl)⟩) hS (fun q _ h => va_free (wc := [(h9, .inr (9, [.int 0, .int 0, .int 0, .int 0, .int 50, .int 3, .int 0, .ref b1, .ref b2, .ref b3, .ref b4, .ref b5, .ref b6, .ref b7, .ref b8, .ref b9, .ref b10, .ref b11, .ref b12, .ref b13, .ref b14, .ref b15, .ref b16, .ref b17, .ref b18, .int 0, .int 0, .int 0, .ref b19, .ref b20, .ref b21, .int 0, .ref b22, .ref b23, .int 0, .ref b24, .ref b25]))]) hD hS hA [2] rfl q h) (va_free (wc := [(h9, .inr (9, [.int 0, .int 0, .int 0, .int 0, .int 50, .int 3, .int 0, .ref b1, .ref b2, .ref b3, .ref b4, .ref b5, .ref b6, .ref b7, .ref b8, .ref b9, .ref b10, .ref b11, .ref b12, .ref b13, .ref b14, .ref b15, .ref b16, .ref b17, .ref b18, .int 0, .int 0, .int 0, .ref b19, .ref b20, .ref b21, .int 0, .ref b22, .ref b23, .int 0, .ref b24, .ref b25]))]) hD hS hA [2] rfl) (fun r_4 u t H_3 locs1 ht hvm hw hB hz1 hk1 hS1 => ?_)
  obtain ⟨hP, hD, hK⟩ := zj (wc := [(h9, .inr (9, [.int 0, .int 0, .int 0, .int 0, .int 50, .int 3, .int 0, .ref b1, .ref b2, .ref b3, .ref b4, .ref b5, .ref b6, .ref b7, .ref b8, .ref b9, .ref b10, .ref b11, .ref b12, .ref b13, .ref b14, .ref b15, .ref b16, .ref b17, .ref b18, .int 0, .int 0, .int 0, .ref b19, .ref b20, .ref b21, .int 0, .ref b22, .ref b23, .int 0, .ref b24, .ref b25]))]) (wr := [(q0, .inr (8, [.ref a1, .ref a2, .ref a3, .ref a4, .ref a5, .ref a6, .ref a7, .int 0, .int 0, .int 0, .int 50, .int 3, .int 0, .int 0])), (a4, .inr (3, [.null, .int 0, .int 0, .null, .null, .int 0, .int 0, .int 0]))]) (w1 := []) hK hP hD hS hA [2] [0, 1] rfl rfl (by decide) (by decide) hk1 ht hvm hB
  have hS := hS1
  have hP : va_P D vwCl [(q0, .inr (8, [.ref a1, .ref a2, .ref a3, .ref a4, .ref a5, .ref a6, .ref a7, .int 0, .int 0, .int 0, .int 50, .int 3, .int 0, .int 0])), (a4, .inr (3, [.null, .int 0, .int 0, .null, .null, .int 0, .int 0, .int 0]))] H_3 := hP
  have hD : va_D A [(q0, .inr (8, [.ref a1, .ref a2, .ref a3, .ref a4, .ref a5, .ref a6, .ref a7, .int 0, .int 0, .int 0, .int 50, .int 3, .int 0, .int 0])), (a4, .inr (3, [.null, .int 0, .int 0, .null, .null, .int 0, .int 0, .int 0]))] := hD
  have hK : va_K D vwCl [] s := hK
  have hr_4 := hw
  refine lv_icmp_eq (tgt := 692) hx hb dL_law_453 (by decide) (fun _ => ?_) (fun c_ => absurd ((h_2).trans (hr_4).symm) c_)
  exact law_tail hA hAf hx hb hr hlocks hX hbl hbA hS (lv_sub hl [0, 3] rfl) (Nat.le_of_ble_eq_true rfl) (Nat.le_of_ble_eq_true rfl)

set_option maxHeartbeats 4000000 in
set_option maxRecDepth 100000 in
theorem law_c8 {p : Program} {l : Launch} {e : Env} {s : State} {m : MethodId} {below : List Frame} {meth : Method} {c : Code} {b : Nat} {xs : Nat → Int32} {A : Nat → Prop} {D : va_G} {H : Heap} {locs : List Loc} {ls : Array Slot} {q0 a1 a2 a3 a4 a5 a6 a7 o5 o6 t1 t2 t3 t4 h9 b1 b2 b3 b4 b5 b6 b7 b8 b9 b10 b11 b12 b13 b14 b15 b16 b17 b18 b19 b20 b21 b22 b23 b24 b25 : Nat} {c1 c2 c3 c6 c7 d1 d2 d3 d4 d5 d6 d7 d8 d9 d10 d11 d12 d13 d14 d15 d16 d17 d18 d19 d20 d21 d22 d23 d24 d25 : ClassId} (C0 : lw_At p s m meth c b 5 xs) (hN : Nq s) (hA : ∀ q : Nat, s.heap.size ≤ q → A q) (hAf : ∀ q : Nat, A q → s.heap.size ≤ q) (hK : va_K D vwCl (wLT c1 c2 c3 c6 c7 d1 d2 d3 d4 d5 d6 d7 d8 d9 d10 d11 d12 d13 d14 d15 d16 d17 d18 d19 d20 d21 d22 d23 d24 d25) s) (hP : va_P D vwCl (wLW q0 a1 a2 a3 a4 a5 a6 a7 o5 o6 t1 t2 t3 t4 h9 b1 b2 b3 b4 b5 b6 b7 b8 b9 b10 b11 b12 b13 b14 b15 b16 b17 b18 b19 b20 b21 b22 b23 b24 b25 c1 c2 c3 c6 c7 d1 d2 d3 d4 d5 d6 d7 d8 d9 d10 d11 d12 d13 d14 d15 d16 d17 d18 d19 d20 d21 d22 d23 d24 d25) H) (hD : va_D A (wLW q0 a1 a2 a3 a4 a5 a6 a7 o5 o6 t1 t2 t3 t4 h9 b1 b2 b3 b4 b5 b6 b7 b8 b9 b10 b11 b12 b13 b14 b15 b16 b17 b18 b19 b20 b21 b22 b23 b24 b25 c1 c2 c3 c6 c7 d1 d2 d3 d4 d5 d6 d7 d8 d9 d10 d11 d12 d13 d14 d15 d16 d17 d18 d19 d20 d21 d22 d23 d24 d25)) (hS : va_S A s.heap H locs) (hl : lv_has ls 4 [(3, .int 0), (2, .ref h9), (1, .ref q0), (0, .ref b)]) : W p l e room_1 s m #[Value.ref b] below meth c H locs 40 4558 (lw_Z below #[Value.ref b] s) (F0 m 458 ls []) := by
  obtain ⟨hx, hb, hr, hml, hown, hts, hX, hbl, hlocks, hgv⟩ := C0
  have hts := fun w h => hts w (wsL_law_in w h)
  have hb : c.code = cL_law := hb
  have hown : s.vm.findClass RL = some m.cls := hown
  have hbA : ¬ A b := fun q => absurd (hAf b q) (Nat.not_le.mpr hbl)
  have hP := hP.sub (ws' := [(q0, .inr (8, [.ref a1, .ref a2, .ref a3, .ref a4, .ref a5, .ref a6, .ref a7, .int 0, .int 0, .int 0, .int 50, .int 3, .int 0, .int 0])), (h9, .inr (9, [.int 0, .int 0, .int 0, .int 0, .int 50, .int 3, .int 0, .ref b1, .ref b2, .ref b3, .ref b4, .ref b5, .ref b6, .ref b7, .ref b8, .ref b9, .ref b10, .ref b11, .ref b12, .ref b13, .ref b14, .ref b15, .ref b16, .ref b17, .ref b18, .int 0, .int 0, .int 0, .ref b19, .ref b20, .ref b21, .int 0, .ref b22, .ref b23, .int 0, .ref b24, .ref b25]))]) [0, 10] rfl
  have hD := hD.sub (ws' := [(q0, .inr (8, [.ref a1, .ref a2, .ref a3, .ref a4, .ref a5, .ref a6, .ref a7, .int 0, .int 0, .int 0, .int 50, .int 3, .int 0, .int 0])), (h9, .inr (9, [.int 0, .int 0, .int 0, .int 0, .int 50, .int 3, .int 0, .ref b1, .ref b2, .ref b3, .ref b4, .ref b5, .ref b6, .ref b7, .ref b8, .ref b9, .ref b10, .ref b11, .ref b12, .ref b13, .ref b14, .ref b15, .ref b16, .ref b17, .ref b18, .int 0, .int 0, .int 0, .ref b19, .ref b20, .ref b21, .int 0, .ref b22, .ref b23, .int 0, .ref b24, .ref b25]))]) [0, 10] (by decide) rfl
  have hK := hK.sub (tys' := []) [] rfl
  refine lv_aload_n hx hb dL_law_458 rfl (lv_at hl 2 rfl) ?_
  refine lv_aload_n hx hb dL_law_459 rfl (lv_at hl 3 rfl) ?_
  refine lv_iload_n hx hb dL_law_460 rfl (lv_at hl 0 rfl) ?_
  refine lv_iconst (v := 1) hx hb dL_law_461 (by decide) ?_
  refine lv_iadd hx hb dL_law_462 ?_
  refine lv_tope (z := 1) (by decide) ?_
  refine va_sld hx hb hX hbl hbA hS (vp_in_iff.mpr (by decide)) dL_law_463 ?_
  refine lv_tope (z := xs 1) rfl ?_
  refine lv_aload_n hx hb dL_law_464 rfl (lv_at hl 3 rfl) ?_
  refine lv_iload_n hx hb dL_law_465 rfl (lv_at hl 0 rfl) ?_
  refine lv_iconst (v := 2) hx hb dL_law_466 (by decide) ?_
  refine lv_iadd hx hb dL_law_467 ?_
  refine lv_tope (z := 2) (by decide) ?_
  refine va_sld hx hb hX hbl hbA hS (vp_in_iff.mpr (by decide)) dL_law_468 ?_
  refine lv_tope (z := xs 2) rfl ?_
  refine vp_callSi (zrV (As := [.int (xs 1), .int (xs 2)]) (rest := []) (wc := [(q0, .inr (8, [.ref a1, .ref a2, .ref a3, .ref a4, .ref a5, .ref a6, .ref a7, .int 0, .int 0, .int 0, .int 50, .int 3, .int 0, .int 0]))]) ⟨hx, hb, hml, hown, hts⟩ hN hK hP hD (k_X8_odds l D q0 a1 a2 a3 a4 a5 a6 a7 ((xs 1)) ((xs 2)) ) (cwV 2 hts gL_law_X8_odds rfl rfl rfl (by decide +kernel) ⟨(Nat.le_of_ble_eq_true rfl), (Nat.le_of_ble_eq_true rfl)⟩) [] [0] rfl rfl (by decide) 8 0 rfl rfl rfl hl.1 rfl (Nat.le_of_ble_eq_true rfl) dL_law_469 ⟨(Nat.le_of_ble_eq_true rfl), (Nat.le_of_ble_eq_true rfl)⟩) (fun r_1 h_2 => ?_)
  refine lv_aload_n hx hb dL_law_472 rfl (lv_at hl 1 rfl) ?_
  refine lv_aload_n hx hb dL_law_473 rfl (lv_at hl 3 rfl) ?_
  refine lv_iload_n hx hb dL_law_474 rfl (lv_at hl 0 rfl) ?_
  refine lv_iconst (v := 1) hx hb dL_law_475 (by decide) ?_
  refine lv_iadd hx hb dL_law_476 ?_
  refine lv_tope (z := 1) (by decide) ?_
  refine va_sld hx hb hX hbl hbA hS (vp_in_iff.mpr (by decide)) dL_law_477 ?_
  refine lv_tope (z := xs 1) rfl ?_
  refine lv_aload_n hx hb dL_law_478 rfl (lv_at hl 3 rfl) ?_
  refine lv_iload_n hx hb dL_law_479 rfl (lv_at hl 0 rfl) ?_
  refine lv_iconst (v := 2) hx hb dL_law_480 (by decide) ?_
  refine lv_iadd hx hb dL_law_481 ?_
  refine lv_tope (z := 2) (by decide) ?_
  refine va_sld hx hb hX hbl hbA hS (vp_in_iff.mpr (by decide)) dL_law_482 ?_
  refine lv_tope (z := xs 2) rfl ?_
  refine vp_callSi (zrV (As := [.int (xs 1), .int (xs 2)]) (rest := [.int r_1]) (wc := [(h9, .inr (9, [.int 0, .int 0, .int 0, .int 0, .int 50, .int 3, .int 0, .ref b1, .ref b2, .ref b3, .ref b4, .ref b5, .ref b6, .ref b7, .ref b8, .ref b9, .ref b10, .ref b11, .ref b12, .ref b13, .ref b14, .ref b15, .ref b16, .ref b17, .ref b18, .int 0, .int 0, .int 0, .ref b19, .ref b20, .ref b21, .int 0, .ref b22, .ref b23, .int 0, .ref b24, .ref b25]))]) ⟨hx, hb, hml, hown, hts⟩ hN hK hP hD (k_X9_odds l D h9 b1 b2 b3 b4 b5 b6 b7 b8 b9 b10 b11 b12 b13 b14 b15 b16 b17 b18 b19 b20 b21 b22 b23 b24 b25 ((xs 1)) ((xs 2)) ) (cwV 2 hts gL_law_X9_odds rfl rfl rfl (by decide +kernel) ⟨(Nat.le_of_ble_eq_true rfl), (Nat.le_of_ble_eq_true rfl)⟩) [] [1] rfl rfl (by decide) 9 0 rfl rfl rfl hl.1 rfl (Nat.le_of_ble_eq_true rfl) dL_law_483 ⟨(Nat.le_of_ble_eq_true rfl), (Nat.le_of_ble_eq_true rfl)⟩) (fun r_3 h_4 => ?_)
  refine lv_icmp_eq (tgt := 692) hx hb dL_law_486 (by decide) (fun _ => ?_) (fun c_ => absurd ((h_2).trans (h_4).symm) c_)
  exact law_tail hA hAf hx hb hr hlocks hX hbl hbA hS (lv_sub hl [0, 3] rfl) (Nat.le_of_ble_eq_true rfl) (Nat.le_of_ble_eq_true rfl)

set_option maxHeartbeats 4000000 in
set_option maxRecDepth 100000 in
theorem law_c9 {p : Program} {l : Launch} {e : Env} {s : State} {m : MethodId} {below : List Frame} {meth : Method} {c : Code} {b : Nat} {xs : Nat → Int32} {A : Nat → Prop} {D : va_G} {H : Heap} {locs : List Loc} {ls : Array Slot} {q0 a1 a2 a3 a4 a5 a6 a7 o5 o6 t1 t2 t3 t4 h9 b1 b2 b3 b4 b5 b6 b7 b8 b9 b10 b11 b12 b13 b14 b15 b16 b17 b18 b19 b20 b21 b22 b23 b24 b25 : Nat} {c1 c2 c3 c6 c7 d1 d2 d3 d4 d5 d6 d7 d8 d9 d10 d11 d12 d13 d14 d15 d16 d17 d18 d19 d20 d21 d22 d23 d24 d25 : ClassId} (C0 : lw_At p s m meth c b 5 xs) (hN : Nq s) (hA : ∀ q : Nat, s.heap.size ≤ q → A q) (hAf : ∀ q : Nat, A q → s.heap.size ≤ q) (hK : va_K D vwCl (wLT c1 c2 c3 c6 c7 d1 d2 d3 d4 d5 d6 d7 d8 d9 d10 d11 d12 d13 d14 d15 d16 d17 d18 d19 d20 d21 d22 d23 d24 d25) s) (hP : va_P D vwCl (wLW q0 a1 a2 a3 a4 a5 a6 a7 o5 o6 t1 t2 t3 t4 h9 b1 b2 b3 b4 b5 b6 b7 b8 b9 b10 b11 b12 b13 b14 b15 b16 b17 b18 b19 b20 b21 b22 b23 b24 b25 c1 c2 c3 c6 c7 d1 d2 d3 d4 d5 d6 d7 d8 d9 d10 d11 d12 d13 d14 d15 d16 d17 d18 d19 d20 d21 d22 d23 d24 d25) H) (hD : va_D A (wLW q0 a1 a2 a3 a4 a5 a6 a7 o5 o6 t1 t2 t3 t4 h9 b1 b2 b3 b4 b5 b6 b7 b8 b9 b10 b11 b12 b13 b14 b15 b16 b17 b18 b19 b20 b21 b22 b23 b24 b25 c1 c2 c3 c6 c7 d1 d2 d3 d4 d5 d6 d7 d8 d9 d10 d11 d12 d13 d14 d15 d16 d17 d18 d19 d20 d21 d22 d23 d24 d25)) (hS : va_S A s.heap H locs) (hl : lv_has ls 4 [(3, .int 0), (2, .ref h9), (1, .ref q0), (0, .ref b)]) : W p l e room_1 s m #[Value.ref b] below meth c H locs 40 4558 (lw_Z below #[Value.ref b] s) (F0 m 491 ls []) := by
  obtain ⟨hx, hb, hr, hml, hown, hts, hX, hbl, hlocks, hgv⟩ := C0
  have hts := fun w h => hts w (wsL_law_in w h)
  have hb : c.code = cL_law := hb
  have hown : s.vm.findClass RL = some m.cls := hown
  have hbA : ¬ A b := fun q => absurd (hAf b q) (Nat.not_le.mpr hbl)
  have hP := hP.sub (ws' := [(q0, .inr (8, [.ref a1, .ref a2, .ref a3, .ref a4, .ref a5, .ref a6, .ref a7, .int 0, .int 0, .int 0, .int 50, .int 3, .int 0, .int 0])), (a6, .inr (2, [.ref o6, .int 0])), (h9, .inr (9, [.int 0, .int 0, .int 0, .int 0, .int 50, .int 3, .int 0, .ref b1, .ref b2, .ref b3, .ref b4, .ref b5, .ref b6, .ref b7, .ref b8, .ref b9, .ref b10, .ref b11, .ref b12, .ref b13, .ref b14, .ref b15, .ref b16, .ref b17, .ref b18, .int 0, .int 0, .int 0, .ref b19, .ref b20, .ref b21, .int 0, .ref b22, .ref b23, .int 0, .ref b24, .ref b25]))]) [0, 6, 10] rfl
  have hD := hD.sub (ws' := [(q0, .inr (8, [.ref a1, .ref a2, .ref a3, .ref a4, .ref a5, .ref a6, .ref a7, .int 0, .int 0, .int 0, .int 50, .int 3, .int 0, .int 0])), (a6, .inr (2, [.ref o6, .int 0])), (h9, .inr (9, [.int 0, .int 0, .int 0, .int 0, .int 50, .int 3, .int 0, .ref b1, .ref b2, .ref b3, .ref b4, .ref b5, .ref b6, .ref b7, .ref b8, .ref b9, .ref b10, .ref b11, .ref b12, .ref b13, .ref b14, .ref b15, .ref b16, .ref b17, .ref b18, .int 0, .int 0, .int 0, .ref b19, .ref b20, .ref b21, .int 0, .ref b22, .ref b23, .int 0, .ref b24, .ref b25]))]) [0, 6, 10] (by decide) rfl
  have hK := hK.sub (tys' := []) [] rfl
  refine lv_aload_n hx hb dL_law_491 rfl (lv_at hl 2 rfl) ?_
  refine lv_aload_n hx hb dL_law_492 rfl (lv_at hl 3 rfl) ?_
  refine lv_iload_n hx hb dL_law_493 rfl (lv_at hl 0 rfl) ?_
  refine lv_iconst (v := 1) hx hb dL_law_494 (by decide) ?_
  refine lv_iadd hx hb dL_law_495 ?_
  refine lv_tope (z := 1) (by decide) ?_
  refine va_sld hx hb hX hbl hbA hS (vp_in_iff.mpr (by decide)) dL_law_496 ?_
  refine lv_tope (z := xs 1) rfl ?_
  refine vp_callSi (zrV (As := [.int (xs 1)]) (rest := []) (wc := [(q0, .inr (8, [.ref a1, .ref a2, .ref a3, .ref a4, .ref a5, .ref a6, .ref a7, .int 0, .int 0, .int 0, .int 50, .int 3, .int 0, .int 0])), (a6, .inr (2, [.ref o6, .int 0]))]) ⟨hx, hb, hml, hown, hts⟩ hN hK hP hD (k_X8_order l D q0 a1 a2 a3 a4 a5 a6 a7 o6 ((xs 1)) ) (cwV 1 hts gL_law_X8_order rfl rfl rfl (by decide +kernel) ⟨(Nat.le_of_ble_eq_true rfl), (Nat.le_of_ble_eq_true rfl)⟩) [] [0, 1] rfl rfl (by decide) 8 0 rfl rfl rfl hl.1 rfl (Nat.le_of_ble_eq_true rfl) dL_law_497 ⟨(Nat.le_of_ble_eq_true rfl), (Nat.le_of_ble_eq_true rfl)⟩) (fun r_1 h_2 => ?_)
  refine lv_aload_n hx hb dL_law_500 rfl (lv_at hl 1 rfl) ?_
  refine lv_aload_n hx hb dL_law_501 rfl (lv_at hl 3 rfl) ?_
  refine lv_iload_n hx hb dL_law_502 rfl (lv_at hl 0 rfl) ?_
  refine lv_iconst (v := 1) hx hb dL_law_503 (by decide) ?_
  refine lv_iadd hx hb dL_law_504 ?_
  refine lv_tope (z := 1) (by decide) ?_
  refine va_sld hx hb hX hbl hbA hS (vp_in_iff.mpr (by decide)) dL_law_505 ?_
  refine lv_tope (z := xs 1) rfl ?_
  refine va_calli (zwV (As := [.int (xs 1)]) (rest := [.int r_1]) (wc := [(h9, .inr (9, [.int 0, .int 0, .int 0, .int 0, .int 50, .int 3, .int 0, .ref b1, .ref b2, .ref b3, .ref b4, .ref b5, .ref b6, .ref b7, .ref b8, .ref b9, .ref b10, .ref b11, .ref b12, .ref b13, .ref b14, .ref b15, .ref b16, .ref b17, .ref b18, .int 0, .int 0, .int 0, .ref b19, .ref b20, .ref b21, .int 0, .ref b22, .ref b23, .int 0, .ref b24, .ref b25]))]) ⟨hx, hb, hml, hown, hts⟩ hN hK hP hD (k_X9_order l D H.size h9 b1 b2 b3 b4 b5 b6 b7 b8 b9 b10 b11 b12 b13 b14 b15 b16 b17 b18 b19 b20 b21 b22 b23 b24 b25 ((xs 1)) ) (cwV 1 hts gL_law_X9_order rfl rfl rfl (by decide +kernel) ⟨(Nat.le_of_ble_eq_true rfl), (Nat.le_of_ble_eq_true rfl)⟩) [] [2] rfl rfl (by decide) 9 0 rfl rfl rfl hl.1 rfl (Nat.le_of_ble_eq_true rfl) dL_law_506 ⟨(Nat.le_of_ble_eq_true rfl), (Nat.le_of_ble_eq_true rfl)⟩) hS (fun q _ h => va_free (wc := [(h9, .inr (9, [.int 0, .int 0, .int 0, .int 0, .int 50, .int 3, .int 0, .ref b1, .ref b2, .ref b3, .ref b4, .ref b5, .ref b6, .ref b7, .ref b8, .ref b9, .ref b10, .ref b11, .ref b12, .ref b13, .ref b14, .ref b15, .ref b16, .ref b17, .ref b18, .int 0, .int 0, .int 0, .ref b19, .ref b20, .ref b21, .int 0, .ref b22, .ref b23, .int 0, .ref b24, .ref b25]))]) hD hS hA [2] rfl q h) (va_free (wc := [(h9, .inr (9, [.int 0, .int 0, .int 0, .int 0, .int 50, .int 3, .int 0, .ref b1, .ref b2, .ref b3, .ref b4, .ref b5, .ref b6, .ref b7, .ref b8, .ref b9, .ref b10, .ref b11, .ref b12, .ref b13, .ref b14, .ref b15, .ref b16, .ref b17, .ref b18, .int 0, .int 0, .int 0, .ref b19, .ref b20, .ref b21, .int 0, .ref b22, .ref b23, .int 0, .ref b24, .ref b25]))]) hD hS hA [2] rfl) (fun r_4 u t H_3 locs1 ht hvm hw hB hz1 hk1 hS1 => ?_)
  obtain ⟨hP, hD, hK⟩ := zj (wc := [(h9, .inr (9, [.int 0, .int 0, .int 0, .int 0, .int 50, .int 3, .int 0, .ref b1, .ref b2, .ref b3, .ref b4, .ref b5, .ref b6, .ref b7, .ref b8, .ref b9, .ref b10, .ref b11, .ref b12, .ref b13, .ref b14, .ref b15, .ref b16, .ref b17, .ref b18, .int 0, .int 0, .int 0, .ref b19, .ref b20, .ref b21, .int 0, .ref b22, .ref b23, .int 0, .ref b24, .ref b25]))]) (wr := [(q0, .inr (8, [.ref a1, .ref a2, .ref a3, .ref a4, .ref a5, .ref a6, .ref a7, .int 0, .int 0, .int 0, .int 50, .int 3, .int 0, .int 0])), (a6, .inr (2, [.ref o6, .int 0]))]) (w1 := []) hK hP hD hS hA [2] [0, 1] rfl rfl (by decide) (by decide) hk1 ht hvm hB
  have hS := hS1
  have hP : va_P D vwCl [(q0, .inr (8, [.ref a1, .ref a2, .ref a3, .ref a4, .ref a5, .ref a6, .ref a7, .int 0, .int 0, .int 0, .int 50, .int 3, .int 0, .int 0])), (a6, .inr (2, [.ref o6, .int 0]))] H_3 := hP
  have hD : va_D A [(q0, .inr (8, [.ref a1, .ref a2, .ref a3, .ref a4, .ref a5, .ref a6, .ref a7, .int 0, .int 0, .int 0, .int 50, .int 3, .int 0, .int 0])), (a6, .inr (2, [.ref o6, .int 0]))] := hD
  have hK : va_K D vwCl [] s := hK
  have hr_4 := hw
  refine lv_icmp_eq (tgt := 692) hx hb dL_law_509 (by decide) (fun _ => ?_) (fun c_ => absurd ((h_2).trans (hr_4).symm) c_)
  exact law_tail hA hAf hx hb hr hlocks hX hbl hbA hS (lv_sub hl [0, 3] rfl) (Nat.le_of_ble_eq_true rfl) (Nat.le_of_ble_eq_true rfl)

set_option maxHeartbeats 4000000 in
set_option maxRecDepth 100000 in
theorem law_c10 {p : Program} {l : Launch} {e : Env} {s : State} {m : MethodId} {below : List Frame} {meth : Method} {c : Code} {b : Nat} {xs : Nat → Int32} {A : Nat → Prop} {D : va_G} {H : Heap} {locs : List Loc} {ls : Array Slot} {q0 a1 a2 a3 a4 a5 a6 a7 o5 o6 t1 t2 t3 t4 h9 b1 b2 b3 b4 b5 b6 b7 b8 b9 b10 b11 b12 b13 b14 b15 b16 b17 b18 b19 b20 b21 b22 b23 b24 b25 : Nat} {c1 c2 c3 c6 c7 d1 d2 d3 d4 d5 d6 d7 d8 d9 d10 d11 d12 d13 d14 d15 d16 d17 d18 d19 d20 d21 d22 d23 d24 d25 : ClassId} (C0 : lw_At p s m meth c b 5 xs) (hN : Nq s) (hA : ∀ q : Nat, s.heap.size ≤ q → A q) (hAf : ∀ q : Nat, A q → s.heap.size ≤ q) (hK : va_K D vwCl (wLT c1 c2 c3 c6 c7 d1 d2 d3 d4 d5 d6 d7 d8 d9 d10 d11 d12 d13 d14 d15 d16 d17 d18 d19 d20 d21 d22 d23 d24 d25) s) (hP : va_P D vwCl (wLW q0 a1 a2 a3 a4 a5 a6 a7 o5 o6 t1 t2 t3 t4 h9 b1 b2 b3 b4 b5 b6 b7 b8 b9 b10 b11 b12 b13 b14 b15 b16 b17 b18 b19 b20 b21 b22 b23 b24 b25 c1 c2 c3 c6 c7 d1 d2 d3 d4 d5 d6 d7 d8 d9 d10 d11 d12 d13 d14 d15 d16 d17 d18 d19 d20 d21 d22 d23 d24 d25) H) (hD : va_D A (wLW q0 a1 a2 a3 a4 a5 a6 a7 o5 o6 t1 t2 t3 t4 h9 b1 b2 b3 b4 b5 b6 b7 b8 b9 b10 b11 b12 b13 b14 b15 b16 b17 b18 b19 b20 b21 b22 b23 b24 b25 c1 c2 c3 c6 c7 d1 d2 d3 d4 d5 d6 d7 d8 d9 d10 d11 d12 d13 d14 d15 d16 d17 d18 d19 d20 d21 d22 d23 d24 d25)) (hS : va_S A s.heap H locs) (hl : lv_has ls 4 [(3, .int 0), (2, .ref h9), (1, .ref q0), (0, .ref b)]) : W p l e room_1 s m #[Value.ref b] below meth c H locs 40 4558 (lw_Z below #[Value.ref b] s) (F0 m 514 ls []) := by
  obtain ⟨hx, hb, hr, hml, hown, hts, hX, hbl, hlocks, hgv⟩ := C0
  have hts := fun w h => hts w (wsL_law_in w h)
  have hb : c.code = cL_law := hb
  have hown : s.vm.findClass RL = some m.cls := hown
  have hbA : ¬ A b := fun q => absurd (hAf b q) (Nat.not_le.mpr hbl)
  have hP := hP.sub (ws' := [(q0, .inr (8, [.ref a1, .ref a2, .ref a3, .ref a4, .ref a5, .ref a6, .ref a7, .int 0, .int 0, .int 0, .int 50, .int 3, .int 0, .int 0])), (h9, .inr (9, [.int 0, .int 0, .int 0, .int 0, .int 50, .int 3, .int 0, .ref b1, .ref b2, .ref b3, .ref b4, .ref b5, .ref b6, .ref b7, .ref b8, .ref b9, .ref b10, .ref b11, .ref b12, .ref b13, .ref b14, .ref b15, .ref b16, .ref b17, .ref b18, .int 0, .int 0, .int 0, .ref b19, .ref b20, .ref b21, .int 0, .ref b22, .ref b23, .int 0, .ref b24, .ref b25]))]) [0, 10] rfl
  have hD := hD.sub (ws' := [(q0, .inr (8, [.ref a1, .ref a2, .ref a3, .ref a4, .ref a5, .ref a6, .ref a7, .int 0, .int 0, .int 0, .int 50, .int 3, .int 0, .int 0])), (h9, .inr (9, [.int 0, .int 0, .int 0, .int 0, .int 50, .int 3, .int 0, .ref b1, .ref b2, .ref b3, .ref b4, .ref b5, .ref b6, .ref b7, .ref b8, .ref b9, .ref b10, .ref b11, .ref b12, .ref b13, .ref b14, .ref b15, .ref b16, .ref b17, .ref b18, .int 0, .int 0, .int 0, .ref b19, .ref b20, .ref b21, .int 0, .ref b22, .ref b23, .int 0, .ref b24, .ref b25]))]) [0, 10] (by decide) rfl
  have hK := hK.sub (tys' := []) [] rfl
  refine lv_aload_n hx hb dL_law_514 rfl (lv_at hl 2 rfl) ?_
  refine lv_aload_n hx hb dL_law_515 rfl (lv_at hl 3 rfl) ?_
  refine lv_iload_n hx hb dL_law_516 rfl (lv_at hl 0 rfl) ?_
  refine lv_iconst (v := 1) hx hb dL_law_517 (by decide) ?_
  refine lv_iadd hx hb dL_law_518 ?_
  refine lv_tope (z := 1) (by decide) ?_
  refine va_sld hx hb hX hbl hbA hS (vp_in_iff.mpr (by decide)) dL_law_519 ?_
  refine lv_tope (z := xs 1) rfl ?_
  refine lv_aload_n hx hb dL_law_520 rfl (lv_at hl 3 rfl) ?_
  refine lv_iload_n hx hb dL_law_521 rfl (lv_at hl 0 rfl) ?_
  refine lv_iconst (v := 2) hx hb dL_law_522 (by decide) ?_
  refine lv_iadd hx hb dL_law_523 ?_
  refine lv_tope (z := 2) (by decide) ?_
  refine va_sld hx hb hX hbl hbA hS (vp_in_iff.mpr (by decide)) dL_law_524 ?_
  refine lv_tope (z := xs 2) rfl ?_
  refine vp_callSi (zrV (As := [.int (xs 1), .int (xs 2)]) (rest := []) (wc := [(q0, .inr (8, [.ref a1, .ref a2, .ref a3, .ref a4, .ref a5, .ref a6, .ref a7, .int 0, .int 0, .int 0, .int 50, .int 3, .int 0, .int 0]))]) ⟨hx, hb, hml, hown, hts⟩ hN hK hP hD (k_X8_caseOf l D q0 a1 a2 a3 a4 a5 a6 a7 ((xs 1)) ((xs 2)) ) (cwV 2 hts gL_law_X8_caseOf rfl rfl rfl (by decide +kernel) ⟨(Nat.le_of_ble_eq_true rfl), (Nat.le_of_ble_eq_true rfl)⟩) [] [0] rfl rfl (by decide) 8 0 rfl rfl rfl hl.1 rfl (Nat.le_of_ble_eq_true rfl) dL_law_525 ⟨(Nat.le_of_ble_eq_true rfl), (Nat.le_of_ble_eq_true rfl)⟩) (fun r_1 h_2 => ?_)
  refine lv_aload_n hx hb dL_law_528 rfl (lv_at hl 1 rfl) ?_
  refine lv_aload_n hx hb dL_law_529 rfl (lv_at hl 3 rfl) ?_
  refine lv_iload_n hx hb dL_law_530 rfl (lv_at hl 0 rfl) ?_
  refine lv_iconst (v := 1) hx hb dL_law_531 (by decide) ?_
  refine lv_iadd hx hb dL_law_532 ?_
  refine lv_tope (z := 1) (by decide) ?_
  refine va_sld hx hb hX hbl hbA hS (vp_in_iff.mpr (by decide)) dL_law_533 ?_
  refine lv_tope (z := xs 1) rfl ?_
  refine lv_aload_n hx hb dL_law_534 rfl (lv_at hl 3 rfl) ?_
  refine lv_iload_n hx hb dL_law_535 rfl (lv_at hl 0 rfl) ?_
  refine lv_iconst (v := 2) hx hb dL_law_536 (by decide) ?_
  refine lv_iadd hx hb dL_law_537 ?_
  refine lv_tope (z := 2) (by decide) ?_
  refine va_sld hx hb hX hbl hbA hS (vp_in_iff.mpr (by decide)) dL_law_538 ?_
  refine lv_tope (z := xs 2) rfl ?_
  refine vp_callSi (zrV (As := [.int (xs 1), .int (xs 2)]) (rest := [.int r_1]) (wc := [(h9, .inr (9, [.int 0, .int 0, .int 0, .int 0, .int 50, .int 3, .int 0, .ref b1, .ref b2, .ref b3, .ref b4, .ref b5, .ref b6, .ref b7, .ref b8, .ref b9, .ref b10, .ref b11, .ref b12, .ref b13, .ref b14, .ref b15, .ref b16, .ref b17, .ref b18, .int 0, .int 0, .int 0, .ref b19, .ref b20, .ref b21, .int 0, .ref b22, .ref b23, .int 0, .ref b24, .ref b25]))]) ⟨hx, hb, hml, hown, hts⟩ hN hK hP hD (k_X9_caseOf l D h9 b1 b2 b3 b4 b5 b6 b7 b8 b9 b10 b11 b12 b13 b14 b15 b16 b17 b18 b19 b20 b21 b22 b23 b24 b25 ((xs 1)) ((xs 2)) ) (cwV 2 hts gL_law_X9_caseOf rfl rfl rfl (by decide +kernel) ⟨(Nat.le_of_ble_eq_true rfl), (Nat.le_of_ble_eq_true rfl)⟩) [] [1] rfl rfl (by decide) 9 0 rfl rfl rfl hl.1 rfl (Nat.le_of_ble_eq_true rfl) dL_law_539 ⟨(Nat.le_of_ble_eq_true rfl), (Nat.le_of_ble_eq_true rfl)⟩) (fun r_3 h_4 => ?_)
  refine lv_icmp_eq (tgt := 692) hx hb dL_law_542 (by decide) (fun _ => ?_) (fun c_ => absurd ((h_2).trans (h_4).symm) c_)
  exact law_tail hA hAf hx hb hr hlocks hX hbl hbA hS (lv_sub hl [0, 3] rfl) (Nat.le_of_ble_eq_true rfl) (Nat.le_of_ble_eq_true rfl)

set_option maxHeartbeats 4000000 in
set_option maxRecDepth 100000 in
theorem law_c11 {p : Program} {l : Launch} {e : Env} {s : State} {m : MethodId} {below : List Frame} {meth : Method} {c : Code} {b : Nat} {xs : Nat → Int32} {A : Nat → Prop} {D : va_G} {H : Heap} {locs : List Loc} {ls : Array Slot} {q0 a1 a2 a3 a4 a5 a6 a7 o5 o6 t1 t2 t3 t4 h9 b1 b2 b3 b4 b5 b6 b7 b8 b9 b10 b11 b12 b13 b14 b15 b16 b17 b18 b19 b20 b21 b22 b23 b24 b25 : Nat} {c1 c2 c3 c6 c7 d1 d2 d3 d4 d5 d6 d7 d8 d9 d10 d11 d12 d13 d14 d15 d16 d17 d18 d19 d20 d21 d22 d23 d24 d25 : ClassId} (C0 : lw_At p s m meth c b 5 xs) (hN : Nq s) (hA : ∀ q : Nat, s.heap.size ≤ q → A q) (hAf : ∀ q : Nat, A q → s.heap.size ≤ q) (hK : va_K D vwCl (wLT c1 c2 c3 c6 c7 d1 d2 d3 d4 d5 d6 d7 d8 d9 d10 d11 d12 d13 d14 d15 d16 d17 d18 d19 d20 d21 d22 d23 d24 d25) s) (hP : va_P D vwCl (wLW q0 a1 a2 a3 a4 a5 a6 a7 o5 o6 t1 t2 t3 t4 h9 b1 b2 b3 b4 b5 b6 b7 b8 b9 b10 b11 b12 b13 b14 b15 b16 b17 b18 b19 b20 b21 b22 b23 b24 b25 c1 c2 c3 c6 c7 d1 d2 d3 d4 d5 d6 d7 d8 d9 d10 d11 d12 d13 d14 d15 d16 d17 d18 d19 d20 d21 d22 d23 d24 d25) H) (hD : va_D A (wLW q0 a1 a2 a3 a4 a5 a6 a7 o5 o6 t1 t2 t3 t4 h9 b1 b2 b3 b4 b5 b6 b7 b8 b9 b10 b11 b12 b13 b14 b15 b16 b17 b18 b19 b20 b21 b22 b23 b24 b25 c1 c2 c3 c6 c7 d1 d2 d3 d4 d5 d6 d7 d8 d9 d10 d11 d12 d13 d14 d15 d16 d17 d18 d19 d20 d21 d22 d23 d24 d25)) (hS : va_S A s.heap H locs) (hl : lv_has ls 4 [(3, .int 0), (2, .ref h9), (1, .ref q0), (0, .ref b)]) : W p l e room_1 s m #[Value.ref b] below meth c H locs 40 4558 (lw_Z below #[Value.ref b] s) (F0 m 547 ls []) := by
  obtain ⟨hx, hb, hr, hml, hown, hts, hX, hbl, hlocks, hgv⟩ := C0
  have hts := fun w h => hts w (wsL_law_in w h)
  have hb : c.code = cL_law := hb
  have hown : s.vm.findClass RL = some m.cls := hown
  have hbA : ¬ A b := fun q => absurd (hAf b q) (Nat.not_le.mpr hbl)
  have hP := hP.sub (ws' := [(q0, .inr (8, [.ref a1, .ref a2, .ref a3, .ref a4, .ref a5, .ref a6, .ref a7, .int 0, .int 0, .int 0, .int 50, .int 3, .int 0, .int 0])), (a2, .inl (c2, 40, .inr (.inr (.inr (.inr (fun _ => none)))))), (h9, .inr (9, [.int 0, .int 0, .int 0, .int 0, .int 50, .int 3, .int 0, .ref b1, .ref b2, .ref b3, .ref b4, .ref b5, .ref b6, .ref b7, .ref b8, .ref b9, .ref b10, .ref b11, .ref b12, .ref b13, .ref b14, .ref b15, .ref b16, .ref b17, .ref b18, .int 0, .int 0, .int 0, .ref b19, .ref b20, .ref b21, .int 0, .ref b22, .ref b23, .int 0, .ref b24, .ref b25]))]) [0, 2, 10] rfl
  have hD := hD.sub (ws' := [(q0, .inr (8, [.ref a1, .ref a2, .ref a3, .ref a4, .ref a5, .ref a6, .ref a7, .int 0, .int 0, .int 0, .int 50, .int 3, .int 0, .int 0])), (a2, .inl (c2, 40, .inr (.inr (.inr (.inr (fun _ => none)))))), (h9, .inr (9, [.int 0, .int 0, .int 0, .int 0, .int 50, .int 3, .int 0, .ref b1, .ref b2, .ref b3, .ref b4, .ref b5, .ref b6, .ref b7, .ref b8, .ref b9, .ref b10, .ref b11, .ref b12, .ref b13, .ref b14, .ref b15, .ref b16, .ref b17, .ref b18, .int 0, .int 0, .int 0, .ref b19, .ref b20, .ref b21, .int 0, .ref b22, .ref b23, .int 0, .ref b24, .ref b25]))]) [0, 2, 10] (by decide) rfl
  have hK := hK.sub (tys' := [(c2, .object RX0)]) [1] rfl
  refine lv_aload_n hx hb dL_law_547 rfl (lv_at hl 2 rfl) ?_
  refine lv_aload_n hx hb dL_law_548 rfl (lv_at hl 3 rfl) ?_
  refine lv_iload_n hx hb dL_law_549 rfl (lv_at hl 0 rfl) ?_
  refine lv_iconst (v := 1) hx hb dL_law_550 (by decide) ?_
  refine lv_iadd hx hb dL_law_551 ?_
  refine lv_tope (z := 1) (by decide) ?_
  refine va_sld hx hb hX hbl hbA hS (vp_in_iff.mpr (by decide)) dL_law_552 ?_
  refine lv_tope (z := xs 1) rfl ?_
  refine vp_callSi (zrV (As := [.int (xs 1)]) (rest := []) (wc := [(q0, .inr (8, [.ref a1, .ref a2, .ref a3, .ref a4, .ref a5, .ref a6, .ref a7, .int 0, .int 0, .int 0, .int 50, .int 3, .int 0, .int 0])), (a2, .inl (c2, 40, .inr (.inr (.inr (.inr (fun _ => none))))))]) ⟨hx, hb, hml, hown, hts⟩ hN hK hP hD (k_X8_slow l D q0 a1 a2 a3 a4 a5 a6 a7 c2 ((xs 1)) ) (cwV 1 hts gL_law_X8_slow rfl rfl rfl (by decide +kernel) ⟨(Nat.le_of_ble_eq_true rfl), (Nat.le_of_ble_eq_true rfl)⟩) [0] [0, 1] rfl rfl (by decide) 8 0 rfl rfl rfl hl.1 rfl (Nat.le_of_ble_eq_true rfl) dL_law_553 ⟨(Nat.le_of_ble_eq_true rfl), (Nat.le_of_ble_eq_true rfl)⟩) (fun r_1 h_2 => ?_)
  refine lv_aload_n hx hb dL_law_556 rfl (lv_at hl 1 rfl) ?_
  refine lv_aload_n hx hb dL_law_557 rfl (lv_at hl 3 rfl) ?_
  refine lv_iload_n hx hb dL_law_558 rfl (lv_at hl 0 rfl) ?_
  refine lv_iconst (v := 1) hx hb dL_law_559 (by decide) ?_
  refine lv_iadd hx hb dL_law_560 ?_
  refine lv_tope (z := 1) (by decide) ?_
  refine va_sld hx hb hX hbl hbA hS (vp_in_iff.mpr (by decide)) dL_law_561 ?_
  refine lv_tope (z := xs 1) rfl ?_
  refine vp_callSi (zrV (As := [.int (xs 1)]) (rest := [.int r_1]) (wc := [(h9, .inr (9, [.int 0, .int 0, .int 0, .int 0, .int 50, .int 3, .int 0, .ref b1, .ref b2, .ref b3, .ref b4, .ref b5, .ref b6, .ref b7, .ref b8, .ref b9, .ref b10, .ref b11, .ref b12, .ref b13, .ref b14, .ref b15, .ref b16, .ref b17, .ref b18, .int 0, .int 0, .int 0, .ref b19, .ref b20, .ref b21, .int 0, .ref b22, .ref b23, .int 0, .ref b24, .ref b25]))]) ⟨hx, hb, hml, hown, hts⟩ hN hK hP hD (k_X9_slow l D h9 b1 b2 b3 b4 b5 b6 b7 b8 b9 b10 b11 b12 b13 b14 b15 b16 b17 b18 b19 b20 b21 b22 b23 b24 b25 ((xs 1)) ) (cwV 1 hts gL_law_X9_slow rfl rfl rfl (by decide +kernel) ⟨(Nat.le_of_ble_eq_true rfl), (Nat.le_of_ble_eq_true rfl)⟩) [] [2] rfl rfl (by decide) 9 0 rfl rfl rfl hl.1 rfl (Nat.le_of_ble_eq_true rfl) dL_law_562 ⟨(Nat.le_of_ble_eq_true rfl), (Nat.le_of_ble_eq_true rfl)⟩) (fun r_3 h_4 => ?_)
  refine lv_icmp_eq (tgt := 692) hx hb dL_law_565 (by decide) (fun _ => ?_) (fun c_ => absurd ((h_2).trans (h_4).symm) c_)
  exact law_tail hA hAf hx hb hr hlocks hX hbl hbA hS (lv_sub hl [0, 3] rfl) (Nat.le_of_ble_eq_true rfl) (Nat.le_of_ble_eq_true rfl)
