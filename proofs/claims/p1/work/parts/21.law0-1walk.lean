set_option maxHeartbeats 4000000 in
set_option maxRecDepth 100000 in
theorem law_c0 {p : Program} {l : Launch} {e : Env} {s : State} {m : MethodId} {below : List Frame} {meth : Method} {c : Code} {b : Nat} {xs : Nat → Int32} {A : Nat → Prop} {D : va_G} {H : Heap} {locs : List Loc} {ls : Array Slot} {q0 a1 a2 a3 a4 a5 a6 a7 o5 o6 t1 t2 t3 t4 h9 b1 b2 b3 b4 b5 b6 b7 b8 b9 b10 b11 b12 b13 b14 b15 b16 b17 b18 b19 b20 b21 b22 b23 b24 b25 : Nat} {c1 c2 c3 c6 c7 d1 d2 d3 d4 d5 d6 d7 d8 d9 d10 d11 d12 d13 d14 d15 d16 d17 d18 d19 d20 d21 d22 d23 d24 d25 : ClassId} (C0 : lw_At p s m meth c b 5 xs) (hN : Nq s) (hA : ∀ q : Nat, s.heap.size ≤ q → A q) (hAf : ∀ q : Nat, A q → s.heap.size ≤ q) (hK : va_K D vwCl (wLT c1 c2 c3 c6 c7 d1 d2 d3 d4 d5 d6 d7 d8 d9 d10 d11 d12 d13 d14 d15 d16 d17 d18 d19 d20 d21 d22 d23 d24 d25) s) (hP : va_P D vwCl (wLW q0 a1 a2 a3 a4 a5 a6 a7 o5 o6 t1 t2 t3 t4 h9 b1 b2 b3 b4 b5 b6 b7 b8 b9 b10 b11 b12 b13 b14 b15 b16 b17 b18 b19 b20 b21 b22 b23 b24 b25 c1 c2 c3 c6 c7 d1 d2 d3 d4 d5 d6 d7 d8 d9 d10 d11 d12 d13 d14 d15 d16 d17 d18 d19 d20 d21 d22 d23 d24 d25) H) (hD : va_D A (wLW q0 a1 a2 a3 a4 a5 a6 a7 o5 o6 t1 t2 t3 t4 h9 b1 b2 b3 b4 b5 b6 b7 b8 b9 b10 b11 b12 b13 b14 b15 b16 b17 b18 b19 b20 b21 b22 b23 b24 b25 c1 c2 c3 c6 c7 d1 d2 d3 d4 d5 d6 d7 d8 d9 d10 d11 d12 d13 d14 d15 d16 d17 d18 d19 d20 d21 d22 d23 d24 d25)) (hS : va_S A s.heap H locs) (hl : lv_has ls 4 [(3, .int 0), (2, .ref h9), (1, .ref q0), (0, .ref b)]) : W p l e room_1 s m #[Value.ref b] below meth c H locs 40 4558 (lw_Z below #[Value.ref b] s) (F0 m 112 ls []) := by
  obtain ⟨hx, hb, hr, hml, hown, hts, hX, hbl, hlocks, hgv⟩ := C0
  have hts := fun w h => hts w (wsL_law_in w h)
  have hb : c.code = cL_law := hb
  have hown : s.vm.findClass RL = some m.cls := hown
  have hbA : ¬ A b := fun q => absurd (hAf b q) (Nat.not_le.mpr hbl)
  have hP := hP.sub (ws' := [(q0, .inr (8, [.ref a1, .ref a2, .ref a3, .ref a4, .ref a5, .ref a6, .ref a7, .int 0, .int 0, .int 0, .int 50, .int 3, .int 0, .int 0])), (h9, .inr (9, [.int 0, .int 0, .int 0, .int 0, .int 50, .int 3, .int 0, .ref b1, .ref b2, .ref b3, .ref b4, .ref b5, .ref b6, .ref b7, .ref b8, .ref b9, .ref b10, .ref b11, .ref b12, .ref b13, .ref b14, .ref b15, .ref b16, .ref b17, .ref b18, .int 0, .int 0, .int 0, .ref b19, .ref b20, .ref b21, .int 0, .ref b22, .ref b23, .int 0, .ref b24, .ref b25]))]) [0, 10] rfl
  have hD := hD.sub (ws' := [(q0, .inr (8, [.ref a1, .ref a2, .ref a3, .ref a4, .ref a5, .ref a6, .ref a7, .int 0, .int 0, .int 0, .int 50, .int 3, .int 0, .int 0])), (h9, .inr (9, [.int 0, .int 0, .int 0, .int 0, .int 50, .int 3, .int 0, .ref b1, .ref b2, .ref b3, .ref b4, .ref b5, .ref b6, .ref b7, .ref b8, .ref b9, .ref b10, .ref b11, .ref b12, .ref b13, .ref b14, .ref b15, .ref b16, .ref b17, .ref b18, .int 0, .int 0, .int 0, .ref b19, .ref b20, .ref b21, .int 0, .ref b22, .ref b23, .int 0, .ref b24, .ref b25]))]) [0, 10] (by decide) rfl
  have hK := hK.sub (tys' := []) [] rfl
  refine lv_aload_n hx hb dL_law_112 rfl (lv_at hl 2 rfl) ?_
  refine lv_aload_n hx hb dL_law_113 rfl (lv_at hl 3 rfl) ?_
  refine lv_iload_n hx hb dL_law_114 rfl (lv_at hl 0 rfl) ?_
  refine lv_iconst (v := 1) hx hb dL_law_115 (by decide) ?_
  refine lv_iadd hx hb dL_law_116 ?_
  refine lv_tope (z := 1) (by decide) ?_
  refine va_sld hx hb hX hbl hbA hS (vp_in_iff.mpr (by decide)) dL_law_117 ?_
  refine lv_tope (z := xs 1) rfl ?_
  refine va_calli (zwV (As := [.int (xs 1)]) (rest := []) (wc := [(q0, .inr (8, [.ref a1, .ref a2, .ref a3, .ref a4, .ref a5, .ref a6, .ref a7, .int 0, .int 0, .int 0, .int 50, .int 3, .int 0, .int 0]))]) ⟨hx, hb, hml, hown, hts⟩ hN hK hP hD (k_X8_pass l D H.size q0 a1 a2 a3 a4 a5 a6 a7 ((xs 1)) ) (cwV 1 hts gL_law_X8_pass rfl rfl rfl (by decide +kernel) ⟨(Nat.le_of_ble_eq_true rfl), (Nat.le_of_ble_eq_true rfl)⟩) [] [0] rfl rfl (by decide) 8 0 rfl rfl rfl hl.1 rfl (Nat.le_of_ble_eq_true rfl) dL_law_118 ⟨(Nat.le_of_ble_eq_true rfl), (Nat.le_of_ble_eq_true rfl)⟩) hS (fun q _ h => va_free (wc := [(q0, .inr (8, [.ref a1, .ref a2, .ref a3, .ref a4, .ref a5, .ref a6, .ref a7, .int 0, .int 0, .int 0, .int 50, .int 3, .int 0, .int 0]))]) hD hS hA [0] rfl q h) (va_free (wc := [(q0, .inr (8, [.ref a1, .ref a2, .ref a3, .ref a4, .ref a5, .ref a6, .ref a7, .int 0, .int 0, .int 0, .int 50, .int 3, .int 0, .int 0]))]) hD hS hA [0] rfl) (fun r_2 u t H_1 locs1 ht hvm hw hB hz1 hk1 hS1 => ?_)
  obtain ⟨hP, hD, hK⟩ := zj (wc := [(q0, .inr (8, [.ref a1, .ref a2, .ref a3, .ref a4, .ref a5, .ref a6, .ref a7, .int 0, .int 0, .int 0, .int 50, .int 3, .int 0, .int 0]))]) (wr := [(h9, .inr (9, [.int 0, .int 0, .int 0, .int 0, .int 50, .int 3, .int 0, .ref b1, .ref b2, .ref b3, .ref b4, .ref b5, .ref b6, .ref b7, .ref b8, .ref b9, .ref b10, .ref b11, .ref b12, .ref b13, .ref b14, .ref b15, .ref b16, .ref b17, .ref b18, .int 0, .int 0, .int 0, .ref b19, .ref b20, .ref b21, .int 0, .ref b22, .ref b23, .int 0, .ref b24, .ref b25]))]) (w1 := []) hK hP hD hS hA [0] [1] rfl rfl (by decide) (by decide) hk1 ht hvm hB
  have hS := hS1
  have hP : va_P D vwCl [(h9, .inr (9, [.int 0, .int 0, .int 0, .int 0, .int 50, .int 3, .int 0, .ref b1, .ref b2, .ref b3, .ref b4, .ref b5, .ref b6, .ref b7, .ref b8, .ref b9, .ref b10, .ref b11, .ref b12, .ref b13, .ref b14, .ref b15, .ref b16, .ref b17, .ref b18, .int 0, .int 0, .int 0, .ref b19, .ref b20, .ref b21, .int 0, .ref b22, .ref b23, .int 0, .ref b24, .ref b25]))] H_1 := hP
  have hD : va_D A [(h9, .inr (9, [.int 0, .int 0, .int 0, .int 0, .int 50, .int 3, .int 0, .ref b1, .ref b2, .ref b3, .ref b4, .ref b5, .ref b6, .ref b7, .ref b8, .ref b9, .ref b10, .ref b11, .ref b12, .ref b13, .ref b14, .ref b15, .ref b16, .ref b17, .ref b18, .int 0, .int 0, .int 0, .ref b19, .ref b20, .ref b21, .int 0, .ref b22, .ref b23, .int 0, .ref b24, .ref b25]))] := hD
  have hK : va_K D vwCl [] s := hK
  have hr_2 := hw
  refine lv_aload_n hx hb dL_law_121 rfl (lv_at hl 1 rfl) ?_
  refine lv_aload_n hx hb dL_law_122 rfl (lv_at hl 3 rfl) ?_
  refine lv_iload_n hx hb dL_law_123 rfl (lv_at hl 0 rfl) ?_
  refine lv_iconst (v := 1) hx hb dL_law_124 (by decide) ?_
  refine lv_iadd hx hb dL_law_125 ?_
  refine lv_tope (z := 1) (by decide) ?_
  refine va_sld hx hb hX hbl hbA hS (vp_in_iff.mpr (by decide)) dL_law_126 ?_
  refine lv_tope (z := xs 1) rfl ?_
  refine va_calli (zwV (As := [.int (xs 1)]) (rest := [.int r_2]) (wc := [(h9, .inr (9, [.int 0, .int 0, .int 0, .int 0, .int 50, .int 3, .int 0, .ref b1, .ref b2, .ref b3, .ref b4, .ref b5, .ref b6, .ref b7, .ref b8, .ref b9, .ref b10, .ref b11, .ref b12, .ref b13, .ref b14, .ref b15, .ref b16, .ref b17, .ref b18, .int 0, .int 0, .int 0, .ref b19, .ref b20, .ref b21, .int 0, .ref b22, .ref b23, .int 0, .ref b24, .ref b25]))]) ⟨hx, hb, hml, hown, hts⟩ hN hK hP hD (k_X9_pass l D H_1.size h9 b1 b2 b3 b4 b5 b6 b7 b8 b9 b10 b11 b12 b13 b14 b15 b16 b17 b18 b19 b20 b21 b22 b23 b24 b25 ((xs 1)) ) (cwV 1 hts gL_law_X9_pass rfl rfl rfl (by decide +kernel) ⟨(Nat.le_of_ble_eq_true rfl), (Nat.le_of_ble_eq_true rfl)⟩) [] [0] rfl rfl (by decide) 9 0 rfl rfl rfl hl.1 rfl (Nat.le_of_ble_eq_true rfl) dL_law_127 ⟨(Nat.le_of_ble_eq_true rfl), (Nat.le_of_ble_eq_true rfl)⟩) hS (fun q _ h => va_free (wc := [(h9, .inr (9, [.int 0, .int 0, .int 0, .int 0, .int 50, .int 3, .int 0, .ref b1, .ref b2, .ref b3, .ref b4, .ref b5, .ref b6, .ref b7, .ref b8, .ref b9, .ref b10, .ref b11, .ref b12, .ref b13, .ref b14, .ref b15, .ref b16, .ref b17, .ref b18, .int 0, .int 0, .int 0, .ref b19, .ref b20, .ref b21, .int 0, .ref b22, .ref b23, .int 0, .ref b24, .ref b25]))]) hD hS hA [0] rfl q h) (va_free (wc := [(h9, .inr (9, [.int 0, .int 0, .int 0, .int 0, .int 50, .int 3, .int 0, .ref b1, .ref b2, .ref b3, .ref b4, .ref b5, .ref b6, .ref b7, .ref b8, .ref b9, .ref b10, .ref b11, .ref b12, .ref b13, .ref b14, .ref b15, .ref b16, .ref b17, .ref b18, .int 0, .int 0, .int 0, .ref b19, .ref b20, .ref b21, .int 0, .ref b22, .ref b23, .int 0, .ref b24, .ref b25]))]) hD hS hA [0] rfl) (fun r_4 u t H_3 locs1 ht hvm hw hB hz1 hk1 hS1 => ?_)
  obtain ⟨hP, hD, hK⟩ := zj (wc := [(h9, .inr (9, [.int 0, .int 0, .int 0, .int 0, .int 50, .int 3, .int 0, .ref b1, .ref b2, .ref b3, .ref b4, .ref b5, .ref b6, .ref b7, .ref b8, .ref b9, .ref b10, .ref b11, .ref b12, .ref b13, .ref b14, .ref b15, .ref b16, .ref b17, .ref b18, .int 0, .int 0, .int 0, .ref b19, .ref b20, .ref b21, .int 0, .ref b22, .ref b23, .int 0, .ref b24, .ref b25]))]) (wr := []) (w1 := []) hK hP hD hS hA [0] [] rfl rfl (by decide) (by decide) hk1 ht hvm hB
  have hS := hS1
  have hP : va_P D vwCl [] H_3 := hP
  have hD : va_D A [] := hD
  have hK : va_K D vwCl [] s := hK
  have hr_4 := hw
  refine lv_icmp_eq (tgt := 692) hx hb dL_law_130 (by decide) (fun _ => ?_) (fun c_ => absurd ((hr_2).trans (hr_4).symm) c_)
  exact law_tail hA hAf hx hb hr hlocks hX hbl hbA hS (lv_sub hl [0, 3] rfl) (Nat.le_of_ble_eq_true rfl) (Nat.le_of_ble_eq_true rfl)

set_option maxHeartbeats 4000000 in
set_option maxRecDepth 100000 in
theorem law_c1 {p : Program} {l : Launch} {e : Env} {s : State} {m : MethodId} {below : List Frame} {meth : Method} {c : Code} {b : Nat} {xs : Nat → Int32} {A : Nat → Prop} {D : va_G} {H : Heap} {locs : List Loc} {ls : Array Slot} {q0 a1 a2 a3 a4 a5 a6 a7 o5 o6 t1 t2 t3 t4 h9 b1 b2 b3 b4 b5 b6 b7 b8 b9 b10 b11 b12 b13 b14 b15 b16 b17 b18 b19 b20 b21 b22 b23 b24 b25 : Nat} {c1 c2 c3 c6 c7 d1 d2 d3 d4 d5 d6 d7 d8 d9 d10 d11 d12 d13 d14 d15 d16 d17 d18 d19 d20 d21 d22 d23 d24 d25 : ClassId} (C0 : lw_At p s m meth c b 5 xs) (hN : Nq s) (hA : ∀ q : Nat, s.heap.size ≤ q → A q) (hAf : ∀ q : Nat, A q → s.heap.size ≤ q) (hK : va_K D vwCl (wLT c1 c2 c3 c6 c7 d1 d2 d3 d4 d5 d6 d7 d8 d9 d10 d11 d12 d13 d14 d15 d16 d17 d18 d19 d20 d21 d22 d23 d24 d25) s) (hP : va_P D vwCl (wLW q0 a1 a2 a3 a4 a5 a6 a7 o5 o6 t1 t2 t3 t4 h9 b1 b2 b3 b4 b5 b6 b7 b8 b9 b10 b11 b12 b13 b14 b15 b16 b17 b18 b19 b20 b21 b22 b23 b24 b25 c1 c2 c3 c6 c7 d1 d2 d3 d4 d5 d6 d7 d8 d9 d10 d11 d12 d13 d14 d15 d16 d17 d18 d19 d20 d21 d22 d23 d24 d25) H) (hD : va_D A (wLW q0 a1 a2 a3 a4 a5 a6 a7 o5 o6 t1 t2 t3 t4 h9 b1 b2 b3 b4 b5 b6 b7 b8 b9 b10 b11 b12 b13 b14 b15 b16 b17 b18 b19 b20 b21 b22 b23 b24 b25 c1 c2 c3 c6 c7 d1 d2 d3 d4 d5 d6 d7 d8 d9 d10 d11 d12 d13 d14 d15 d16 d17 d18 d19 d20 d21 d22 d23 d24 d25)) (hS : va_S A s.heap H locs) (hl : lv_has ls 4 [(3, .int 0), (2, .ref h9), (1, .ref q0), (0, .ref b)]) : W p l e room_1 s m #[Value.ref b] below meth c H locs 40 4558 (lw_Z below #[Value.ref b] s) (F0 m 135 ls []) := by
  obtain ⟨hx, hb, hr, hml, hown, hts, hX, hbl, hlocks, hgv⟩ := C0
  have hts := fun w h => hts w (wsL_law_in w h)
  have hb : c.code = cL_law := hb
  have hown : s.vm.findClass RL = some m.cls := hown
  have hbA : ¬ A b := fun q => absurd (hAf b q) (Nat.not_le.mpr hbl)
  have hP := hP.sub (ws' := [(q0, .inr (8, [.ref a1, .ref a2, .ref a3, .ref a4, .ref a5, .ref a6, .ref a7, .int 0, .int 0, .int 0, .int 50, .int 3, .int 0, .int 0])), (a1, .inl (c1, 200, .inr (.inr (.inr (.inr (fun _ => none)))))), (a2, .inl (c2, 40, .inr (.inr (.inr (.inr (fun _ => none)))))), (a4, .inr (3, [.null, .int 0, .int 0, .null, .null, .int 0, .int 0, .int 0])), (h9, .inr (9, [.int 0, .int 0, .int 0, .int 0, .int 50, .int 3, .int 0, .ref b1, .ref b2, .ref b3, .ref b4, .ref b5, .ref b6, .ref b7, .ref b8, .ref b9, .ref b10, .ref b11, .ref b12, .ref b13, .ref b14, .ref b15, .ref b16, .ref b17, .ref b18, .int 0, .int 0, .int 0, .ref b19, .ref b20, .ref b21, .int 0, .ref b22, .ref b23, .int 0, .ref b24, .ref b25])), (b11, .inl (d11, 200, .inl (fun _ => 0))), (b12, .inl (d12, 200, .inl (fun _ => 0))), (b1, .inl (d1, 200, .inl (fun _ => 0))), (b2, .inl (d2, 200, .inl (fun _ => 0))), (b3, .inl (d3, 200, .inl (fun _ => 0))), (b4, .inl (d4, 200, .inl (fun _ => 0))), (b5, .inl (d5, 200, .inl (fun _ => 0))), (b6, .inl (d6, 200, .inl (fun _ => 0)))]) [0, 1, 2, 4, 10, 21, 22, 11, 12, 13, 14, 15, 16] rfl
  have hD := hD.sub (ws' := [(q0, .inr (8, [.ref a1, .ref a2, .ref a3, .ref a4, .ref a5, .ref a6, .ref a7, .int 0, .int 0, .int 0, .int 50, .int 3, .int 0, .int 0])), (a1, .inl (c1, 200, .inr (.inr (.inr (.inr (fun _ => none)))))), (a2, .inl (c2, 40, .inr (.inr (.inr (.inr (fun _ => none)))))), (a4, .inr (3, [.null, .int 0, .int 0, .null, .null, .int 0, .int 0, .int 0])), (h9, .inr (9, [.int 0, .int 0, .int 0, .int 0, .int 50, .int 3, .int 0, .ref b1, .ref b2, .ref b3, .ref b4, .ref b5, .ref b6, .ref b7, .ref b8, .ref b9, .ref b10, .ref b11, .ref b12, .ref b13, .ref b14, .ref b15, .ref b16, .ref b17, .ref b18, .int 0, .int 0, .int 0, .ref b19, .ref b20, .ref b21, .int 0, .ref b22, .ref b23, .int 0, .ref b24, .ref b25])), (b11, .inl (d11, 200, .inl (fun _ => 0))), (b12, .inl (d12, 200, .inl (fun _ => 0))), (b1, .inl (d1, 200, .inl (fun _ => 0))), (b2, .inl (d2, 200, .inl (fun _ => 0))), (b3, .inl (d3, 200, .inl (fun _ => 0))), (b4, .inl (d4, 200, .inl (fun _ => 0))), (b5, .inl (d5, 200, .inl (fun _ => 0))), (b6, .inl (d6, 200, .inl (fun _ => 0)))]) [0, 1, 2, 4, 10, 21, 22, 11, 12, 13, 14, 15, 16] (by decide) rfl
  have hK := hK.sub (tys' := [(c1, .object RX0), (c2, .object RX0), (d11, .boolean), (d12, .boolean), (d1, .int), (d2, .int), (d3, .int), (d4, .int), (d5, .int), (d6, .int)]) [0, 1, 15, 16, 5, 6, 7, 8, 9, 10] rfl
  refine lv_aload_n hx hb dL_law_135 rfl (lv_at hl 2 rfl) ?_
  refine lv_aload_n hx hb dL_law_136 rfl (lv_at hl 3 rfl) ?_
  refine lv_iload_n hx hb dL_law_137 rfl (lv_at hl 0 rfl) ?_
  refine lv_iconst (v := 1) hx hb dL_law_138 (by decide) ?_
  refine lv_iadd hx hb dL_law_139 ?_
  refine lv_tope (z := 1) (by decide) ?_
  refine va_sld hx hb hX hbl hbA hS (vp_in_iff.mpr (by decide)) dL_law_140 ?_
  refine lv_tope (z := xs 1) rfl ?_
  refine lv_aload_n hx hb dL_law_141 rfl (lv_at hl 3 rfl) ?_
  refine lv_iload_n hx hb dL_law_142 rfl (lv_at hl 0 rfl) ?_
  refine lv_iconst (v := 2) hx hb dL_law_143 (by decide) ?_
  refine lv_iadd hx hb dL_law_144 ?_
  refine lv_tope (z := 2) (by decide) ?_
  refine va_sld hx hb hX hbl hbA hS (vp_in_iff.mpr (by decide)) dL_law_145 ?_
  refine lv_tope (z := xs 2) rfl ?_
  refine lv_aload_n hx hb dL_law_146 rfl (lv_at hl 3 rfl) ?_
  refine lv_iload_n hx hb dL_law_147 rfl (lv_at hl 0 rfl) ?_
  refine lv_iconst (v := 3) hx hb dL_law_148 (by decide) ?_
  refine lv_iadd hx hb dL_law_149 ?_
  refine lv_tope (z := 3) (by decide) ?_
  refine va_sld hx hb hX hbl hbA hS (vp_in_iff.mpr (by decide)) dL_law_150 ?_
  refine lv_tope (z := xs 3) rfl ?_
  refine lv_aload_n hx hb dL_law_151 rfl (lv_at hl 3 rfl) ?_
  refine lv_iload_n hx hb dL_law_152 rfl (lv_at hl 0 rfl) ?_
  refine lv_iconst (v := 4) hx hb dL_law_153 (by decide) ?_
  refine lv_iadd hx hb dL_law_154 ?_
  refine lv_tope (z := 4) (by decide) ?_
  refine va_sld hx hb hX hbl hbA hS (vp_in_iff.mpr (by decide)) dL_law_155 ?_
  refine lv_tope (z := xs 4) rfl ?_
  refine va_calli (zwV (As := [.int (xs 1), .int (xs 2), .int (xs 3), .int (xs 4)]) (rest := []) (wc := [(q0, .inr (8, [.ref a1, .ref a2, .ref a3, .ref a4, .ref a5, .ref a6, .ref a7, .int 0, .int 0, .int 0, .int 50, .int 3, .int 0, .int 0])), (a1, .inl (c1, 200, .inr (.inr (.inr (.inr (fun _ => none)))))), (a2, .inl (c2, 40, .inr (.inr (.inr (.inr (fun _ => none)))))), (a4, .inr (3, [.null, .int 0, .int 0, .null, .null, .int 0, .int 0, .int 0]))]) ⟨hx, hb, hml, hown, hts⟩ hN hK hP hD (k_X8_alarm l D H.size q0 a1 a2 a3 a4 a5 a6 a7 c1 c2 ((xs 1)) ((xs 2)) ((xs 3)) ((xs 4)) ) (cwV 4 hts gL_law_X8_alarm rfl rfl rfl (by decide +kernel) ⟨(Nat.le_of_ble_eq_true rfl), (Nat.le_of_ble_eq_true rfl)⟩) [0, 1] [0, 1, 2, 3] rfl rfl (by decide) 8 0 rfl rfl rfl hl.1 rfl (Nat.le_of_ble_eq_true rfl) dL_law_156 ⟨(Nat.le_of_ble_eq_true rfl), (Nat.le_of_ble_eq_true rfl)⟩) hS (fun q _ h => va_free (wc := [(q0, .inr (8, [.ref a1, .ref a2, .ref a3, .ref a4, .ref a5, .ref a6, .ref a7, .int 0, .int 0, .int 0, .int 50, .int 3, .int 0, .int 0])), (a1, .inl (c1, 200, .inr (.inr (.inr (.inr (fun _ => none)))))), (a2, .inl (c2, 40, .inr (.inr (.inr (.inr (fun _ => none)))))), (a4, .inr (3, [.null, .int 0, .int 0, .null, .null, .int 0, .int 0, .int 0]))]) hD hS hA [0, 1, 2, 3] rfl q h) (va_free (wc := [(q0, .inr (8, [.ref a1, .ref a2, .ref a3, .ref a4, .ref a5, .ref a6, .ref a7, .int 0, .int 0, .int 0, .int 50, .int 3, .int 0, .int 0])), (a1, .inl (c1, 200, .inr (.inr (.inr (.inr (fun _ => none)))))), (a2, .inl (c2, 40, .inr (.inr (.inr (.inr (fun _ => none)))))), (a4, .inr (3, [.null, .int 0, .int 0, .null, .null, .int 0, .int 0, .int 0]))]) hD hS hA [0, 1, 2, 3] rfl) (fun r_2 u t H_1 locs1 ht hvm hw hB hz1 hk1 hS1 => ?_)
  obtain ⟨hP, hD, hK⟩ := zj (wc := [(q0, .inr (8, [.ref a1, .ref a2, .ref a3, .ref a4, .ref a5, .ref a6, .ref a7, .int 0, .int 0, .int 0, .int 50, .int 3, .int 0, .int 0])), (a1, .inl (c1, 200, .inr (.inr (.inr (.inr (fun _ => none)))))), (a2, .inl (c2, 40, .inr (.inr (.inr (.inr (fun _ => none)))))), (a4, .inr (3, [.null, .int 0, .int 0, .null, .null, .int 0, .int 0, .int 0]))]) (wr := [(h9, .inr (9, [.int 0, .int 0, .int 0, .int 0, .int 50, .int 3, .int 0, .ref b1, .ref b2, .ref b3, .ref b4, .ref b5, .ref b6, .ref b7, .ref b8, .ref b9, .ref b10, .ref b11, .ref b12, .ref b13, .ref b14, .ref b15, .ref b16, .ref b17, .ref b18, .int 0, .int 0, .int 0, .ref b19, .ref b20, .ref b21, .int 0, .ref b22, .ref b23, .int 0, .ref b24, .ref b25])), (b11, .inl (d11, 200, .inl (fun _ => 0))), (b12, .inl (d12, 200, .inl (fun _ => 0))), (b1, .inl (d1, 200, .inl (fun _ => 0))), (b2, .inl (d2, 200, .inl (fun _ => 0))), (b3, .inl (d3, 200, .inl (fun _ => 0))), (b4, .inl (d4, 200, .inl (fun _ => 0))), (b5, .inl (d5, 200, .inl (fun _ => 0))), (b6, .inl (d6, 200, .inl (fun _ => 0)))]) (w1 := []) hK hP hD hS hA [0, 1, 2, 3] [4, 5, 6, 7, 8, 9, 10, 11, 12] rfl rfl (by decide) (by decide) hk1 ht hvm hB
  have hS := hS1
  have hP : va_P D vwCl [(h9, .inr (9, [.int 0, .int 0, .int 0, .int 0, .int 50, .int 3, .int 0, .ref b1, .ref b2, .ref b3, .ref b4, .ref b5, .ref b6, .ref b7, .ref b8, .ref b9, .ref b10, .ref b11, .ref b12, .ref b13, .ref b14, .ref b15, .ref b16, .ref b17, .ref b18, .int 0, .int 0, .int 0, .ref b19, .ref b20, .ref b21, .int 0, .ref b22, .ref b23, .int 0, .ref b24, .ref b25])), (b11, .inl (d11, 200, .inl (fun _ => 0))), (b12, .inl (d12, 200, .inl (fun _ => 0))), (b1, .inl (d1, 200, .inl (fun _ => 0))), (b2, .inl (d2, 200, .inl (fun _ => 0))), (b3, .inl (d3, 200, .inl (fun _ => 0))), (b4, .inl (d4, 200, .inl (fun _ => 0))), (b5, .inl (d5, 200, .inl (fun _ => 0))), (b6, .inl (d6, 200, .inl (fun _ => 0)))] H_1 := hP
  have hD : va_D A [(h9, .inr (9, [.int 0, .int 0, .int 0, .int 0, .int 50, .int 3, .int 0, .ref b1, .ref b2, .ref b3, .ref b4, .ref b5, .ref b6, .ref b7, .ref b8, .ref b9, .ref b10, .ref b11, .ref b12, .ref b13, .ref b14, .ref b15, .ref b16, .ref b17, .ref b18, .int 0, .int 0, .int 0, .ref b19, .ref b20, .ref b21, .int 0, .ref b22, .ref b23, .int 0, .ref b24, .ref b25])), (b11, .inl (d11, 200, .inl (fun _ => 0))), (b12, .inl (d12, 200, .inl (fun _ => 0))), (b1, .inl (d1, 200, .inl (fun _ => 0))), (b2, .inl (d2, 200, .inl (fun _ => 0))), (b3, .inl (d3, 200, .inl (fun _ => 0))), (b4, .inl (d4, 200, .inl (fun _ => 0))), (b5, .inl (d5, 200, .inl (fun _ => 0))), (b6, .inl (d6, 200, .inl (fun _ => 0)))] := hD
  have hK : va_K D vwCl [(c1, .object RX0), (c2, .object RX0), (d11, .boolean), (d12, .boolean), (d1, .int), (d2, .int), (d3, .int), (d4, .int), (d5, .int), (d6, .int)] s := hK
  have hr_2 := hw
  refine lv_aload_n hx hb dL_law_159 rfl (lv_at hl 1 rfl) ?_
  refine lv_aload_n hx hb dL_law_160 rfl (lv_at hl 3 rfl) ?_
  refine lv_iload_n hx hb dL_law_161 rfl (lv_at hl 0 rfl) ?_
  refine lv_iconst (v := 1) hx hb dL_law_162 (by decide) ?_
  refine lv_iadd hx hb dL_law_163 ?_
  refine lv_tope (z := 1) (by decide) ?_
  refine va_sld hx hb hX hbl hbA hS (vp_in_iff.mpr (by decide)) dL_law_164 ?_
  refine lv_tope (z := xs 1) rfl ?_
  refine lv_aload_n hx hb dL_law_165 rfl (lv_at hl 3 rfl) ?_
  refine lv_iload_n hx hb dL_law_166 rfl (lv_at hl 0 rfl) ?_
  refine lv_iconst (v := 2) hx hb dL_law_167 (by decide) ?_
  refine lv_iadd hx hb dL_law_168 ?_
  refine lv_tope (z := 2) (by decide) ?_
  refine va_sld hx hb hX hbl hbA hS (vp_in_iff.mpr (by decide)) dL_law_169 ?_
  refine lv_tope (z := xs 2) rfl ?_
  refine lv_aload_n hx hb dL_law_170 rfl (lv_at hl 3 rfl) ?_
  refine lv_iload_n hx hb dL_law_171 rfl (lv_at hl 0 rfl) ?_
  refine lv_iconst (v := 3) hx hb dL_law_172 (by decide) ?_
  refine lv_iadd hx hb dL_law_173 ?_
  refine lv_tope (z := 3) (by decide) ?_
  refine va_sld hx hb hX hbl hbA hS (vp_in_iff.mpr (by decide)) dL_law_174 ?_
  refine lv_tope (z := xs 3) rfl ?_
  refine lv_aload_n hx hb dL_law_175 rfl (lv_at hl 3 rfl) ?_
  refine lv_iload_n hx hb dL_law_176 rfl (lv_at hl 0 rfl) ?_
  refine lv_iconst (v := 4) hx hb dL_law_177 (by decide) ?_
  refine lv_iadd hx hb dL_law_178 ?_
  refine lv_tope (z := 4) (by decide) ?_
  refine va_sld hx hb hX hbl hbA hS (vp_in_iff.mpr (by decide)) dL_law_179 ?_
  refine lv_tope (z := xs 4) rfl ?_
  refine va_calli (zwV (As := [.int (xs 1), .int (xs 2), .int (xs 3), .int (xs 4)]) (rest := [.int r_2]) (wc := [(h9, .inr (9, [.int 0, .int 0, .int 0, .int 0, .int 50, .int 3, .int 0, .ref b1, .ref b2, .ref b3, .ref b4, .ref b5, .ref b6, .ref b7, .ref b8, .ref b9, .ref b10, .ref b11, .ref b12, .ref b13, .ref b14, .ref b15, .ref b16, .ref b17, .ref b18, .int 0, .int 0, .int 0, .ref b19, .ref b20, .ref b21, .int 0, .ref b22, .ref b23, .int 0, .ref b24, .ref b25])), (b11, .inl (d11, 200, .inl (fun _ => 0))), (b12, .inl (d12, 200, .inl (fun _ => 0))), (b1, .inl (d1, 200, .inl (fun _ => 0))), (b2, .inl (d2, 200, .inl (fun _ => 0))), (b3, .inl (d3, 200, .inl (fun _ => 0))), (b4, .inl (d4, 200, .inl (fun _ => 0))), (b5, .inl (d5, 200, .inl (fun _ => 0))), (b6, .inl (d6, 200, .inl (fun _ => 0)))]) ⟨hx, hb, hml, hown, hts⟩ hN hK hP hD (k_X9_alarm l D H_1.size h9 b1 b2 b3 b4 b5 b6 b7 b8 b9 b10 b11 b12 b13 b14 b15 b16 b17 b18 b19 b20 b21 b22 b23 b24 b25 d11 d12 d1 d2 d3 d4 d5 d6 ((xs 1)) ((xs 2)) ((xs 3)) ((xs 4)) ) (cwV 4 hts gL_law_X9_alarm rfl rfl rfl (by decide +kernel) ⟨(Nat.le_of_ble_eq_true rfl), (Nat.le_of_ble_eq_true rfl)⟩) [2, 3, 4, 5, 6, 7, 8, 9] [0, 1, 2, 3, 4, 5, 6, 7, 8] rfl rfl (by decide) 9 0 rfl rfl rfl hl.1 rfl (Nat.le_of_ble_eq_true rfl) dL_law_180 ⟨(Nat.le_of_ble_eq_true rfl), (Nat.le_of_ble_eq_true rfl)⟩) hS (fun q _ h => va_free (wc := [(h9, .inr (9, [.int 0, .int 0, .int 0, .int 0, .int 50, .int 3, .int 0, .ref b1, .ref b2, .ref b3, .ref b4, .ref b5, .ref b6, .ref b7, .ref b8, .ref b9, .ref b10, .ref b11, .ref b12, .ref b13, .ref b14, .ref b15, .ref b16, .ref b17, .ref b18, .int 0, .int 0, .int 0, .ref b19, .ref b20, .ref b21, .int 0, .ref b22, .ref b23, .int 0, .ref b24, .ref b25])), (b11, .inl (d11, 200, .inl (fun _ => 0))), (b12, .inl (d12, 200, .inl (fun _ => 0))), (b1, .inl (d1, 200, .inl (fun _ => 0))), (b2, .inl (d2, 200, .inl (fun _ => 0))), (b3, .inl (d3, 200, .inl (fun _ => 0))), (b4, .inl (d4, 200, .inl (fun _ => 0))), (b5, .inl (d5, 200, .inl (fun _ => 0))), (b6, .inl (d6, 200, .inl (fun _ => 0)))]) hD hS hA [0, 1, 2, 3, 4, 5, 6, 7, 8] rfl q h) (va_free (wc := [(h9, .inr (9, [.int 0, .int 0, .int 0, .int 0, .int 50, .int 3, .int 0, .ref b1, .ref b2, .ref b3, .ref b4, .ref b5, .ref b6, .ref b7, .ref b8, .ref b9, .ref b10, .ref b11, .ref b12, .ref b13, .ref b14, .ref b15, .ref b16, .ref b17, .ref b18, .int 0, .int 0, .int 0, .ref b19, .ref b20, .ref b21, .int 0, .ref b22, .ref b23, .int 0, .ref b24, .ref b25])), (b11, .inl (d11, 200, .inl (fun _ => 0))), (b12, .inl (d12, 200, .inl (fun _ => 0))), (b1, .inl (d1, 200, .inl (fun _ => 0))), (b2, .inl (d2, 200, .inl (fun _ => 0))), (b3, .inl (d3, 200, .inl (fun _ => 0))), (b4, .inl (d4, 200, .inl (fun _ => 0))), (b5, .inl (d5, 200, .inl (fun _ => 0))), (b6, .inl (d6, 200, .inl (fun _ => 0)))]) hD hS hA [0, 1, 2, 3, 4, 5, 6, 7, 8] rfl) (fun r_4 u t H_3 locs1 ht hvm hw hB hz1 hk1 hS1 => ?_)
  obtain ⟨hP, hD, hK⟩ := zj (wc := [(h9, .inr (9, [.int 0, .int 0, .int 0, .int 0, .int 50, .int 3, .int 0, .ref b1, .ref b2, .ref b3, .ref b4, .ref b5, .ref b6, .ref b7, .ref b8, .ref b9, .ref b10, .ref b11, .ref b12, .ref b13, .ref b14, .ref b15, .ref b16, .ref b17, .ref b18, .int 0, .int 0, .int 0, .ref b19, .ref b20, .ref b21, .int 0, .ref b22, .ref b23, .int 0, .ref b24, .ref b25])), (b11, .inl (d11, 200, .inl (fun _ => 0))), (b12, .inl (d12, 200, .inl (fun _ => 0))), (b1, .inl (d1, 200, .inl (fun _ => 0))), (b2, .inl (d2, 200, .inl (fun _ => 0))), (b3, .inl (d3, 200, .inl (fun _ => 0))), (b4, .inl (d4, 200, .inl (fun _ => 0))), (b5, .inl (d5, 200, .inl (fun _ => 0))), (b6, .inl (d6, 200, .inl (fun _ => 0)))]) (wr := []) (w1 := []) hK hP hD hS hA [0, 1, 2, 3, 4, 5, 6, 7, 8] [] rfl rfl (by decide) (by decide) hk1 ht hvm hB
  have hS := hS1
  have hP : va_P D vwCl [] H_3 := hP
  have hD : va_D A [] := hD
  have hK : va_K D vwCl [(c1, .object RX0), (c2, .object RX0), (d11, .boolean), (d12, .boolean), (d1, .int), (d2, .int), (d3, .int), (d4, .int), (d5, .int), (d6, .int)] s := hK
  have hr_4 := hw
  refine lv_icmp_eq (tgt := 692) hx hb dL_law_183 (by decide) (fun _ => ?_) (fun c_ => absurd ((hr_2).trans (hr_4).symm) c_)
  exact law_tail hA hAf hx hb hr hlocks hX hbl hbA hS (lv_sub hl [0, 3] rfl) (Nat.le_of_ble_eq_true rfl) (Nat.le_of_ble_eq_true rfl)

set_option maxHeartbeats 4000000 in
set_option maxRecDepth 100000 in
theorem law_c2 {p : Program} {l : Launch} {e : Env} {s : State} {m : MethodId} {below : List Frame} {meth : Method} {c : Code} {b : Nat} {xs : Nat → Int32} {A : Nat → Prop} {D : va_G} {H : Heap} {locs : List Loc} {ls : Array Slot} {q0 a1 a2 a3 a4 a5 a6 a7 o5 o6 t1 t2 t3 t4 h9 b1 b2 b3 b4 b5 b6 b7 b8 b9 b10 b11 b12 b13 b14 b15 b16 b17 b18 b19 b20 b21 b22 b23 b24 b25 : Nat} {c1 c2 c3 c6 c7 d1 d2 d3 d4 d5 d6 d7 d8 d9 d10 d11 d12 d13 d14 d15 d16 d17 d18 d19 d20 d21 d22 d23 d24 d25 : ClassId} (C0 : lw_At p s m meth c b 5 xs) (hN : Nq s) (hA : ∀ q : Nat, s.heap.size ≤ q → A q) (hAf : ∀ q : Nat, A q → s.heap.size ≤ q) (hK : va_K D vwCl (wLT c1 c2 c3 c6 c7 d1 d2 d3 d4 d5 d6 d7 d8 d9 d10 d11 d12 d13 d14 d15 d16 d17 d18 d19 d20 d21 d22 d23 d24 d25) s) (hP : va_P D vwCl (wLW q0 a1 a2 a3 a4 a5 a6 a7 o5 o6 t1 t2 t3 t4 h9 b1 b2 b3 b4 b5 b6 b7 b8 b9 b10 b11 b12 b13 b14 b15 b16 b17 b18 b19 b20 b21 b22 b23 b24 b25 c1 c2 c3 c6 c7 d1 d2 d3 d4 d5 d6 d7 d8 d9 d10 d11 d12 d13 d14 d15 d16 d17 d18 d19 d20 d21 d22 d23 d24 d25) H) (hD : va_D A (wLW q0 a1 a2 a3 a4 a5 a6 a7 o5 o6 t1 t2 t3 t4 h9 b1 b2 b3 b4 b5 b6 b7 b8 b9 b10 b11 b12 b13 b14 b15 b16 b17 b18 b19 b20 b21 b22 b23 b24 b25 c1 c2 c3 c6 c7 d1 d2 d3 d4 d5 d6 d7 d8 d9 d10 d11 d12 d13 d14 d15 d16 d17 d18 d19 d20 d21 d22 d23 d24 d25)) (hS : va_S A s.heap H locs) (hl : lv_has ls 4 [(3, .int 0), (2, .ref h9), (1, .ref q0), (0, .ref b)]) : W p l e room_1 s m #[Value.ref b] below meth c H locs 40 4558 (lw_Z below #[Value.ref b] s) (F0 m 188 ls []) := by
  obtain ⟨hx, hb, hr, hml, hown, hts, hX, hbl, hlocks, hgv⟩ := C0
  have hts := fun w h => hts w (wsL_law_in w h)
  have hb : c.code = cL_law := hb
  have hown : s.vm.findClass RL = some m.cls := hown
  have hbA : ¬ A b := fun q => absurd (hAf b q) (Nat.not_le.mpr hbl)
  have hP := hP.sub (ws' := [(q0, .inr (8, [.ref a1, .ref a2, .ref a3, .ref a4, .ref a5, .ref a6, .ref a7, .int 0, .int 0, .int 0, .int 50, .int 3, .int 0, .int 0])), (a3, .inl (c3, 30, .inr (.inr (.inr (.inr (fun _ => none)))))), (h9, .inr (9, [.int 0, .int 0, .int 0, .int 0, .int 50, .int 3, .int 0, .ref b1, .ref b2, .ref b3, .ref b4, .ref b5, .ref b6, .ref b7, .ref b8, .ref b9, .ref b10, .ref b11, .ref b12, .ref b13, .ref b14, .ref b15, .ref b16, .ref b17, .ref b18, .int 0, .int 0, .int 0, .ref b19, .ref b20, .ref b21, .int 0, .ref b22, .ref b23, .int 0, .ref b24, .ref b25])), (b13, .inl (d13, 30, .inl (fun _ => 0))), (b14, .inl (d14, 30, .inl (fun _ => 0))), (b15, .inl (d15, 30, .inl (fun _ => 0)))]) [0, 3, 10, 23, 24, 25] rfl
  have hD := hD.sub (ws' := [(q0, .inr (8, [.ref a1, .ref a2, .ref a3, .ref a4, .ref a5, .ref a6, .ref a7, .int 0, .int 0, .int 0, .int 50, .int 3, .int 0, .int 0])), (a3, .inl (c3, 30, .inr (.inr (.inr (.inr (fun _ => none)))))), (h9, .inr (9, [.int 0, .int 0, .int 0, .int 0, .int 50, .int 3, .int 0, .ref b1, .ref b2, .ref b3, .ref b4, .ref b5, .ref b6, .ref b7, .ref b8, .ref b9, .ref b10, .ref b11, .ref b12, .ref b13, .ref b14, .ref b15, .ref b16, .ref b17, .ref b18, .int 0, .int 0, .int 0, .ref b19, .ref b20, .ref b21, .int 0, .ref b22, .ref b23, .int 0, .ref b24, .ref b25])), (b13, .inl (d13, 30, .inl (fun _ => 0))), (b14, .inl (d14, 30, .inl (fun _ => 0))), (b15, .inl (d15, 30, .inl (fun _ => 0)))]) [0, 3, 10, 23, 24, 25] (by decide) rfl
  have hK := hK.sub (tys' := [(c3, .object RX6), (d13, .int), (d14, .int), (d15, .int)]) [2, 17, 18, 19] rfl
  refine lv_aload_n hx hb dL_law_188 rfl (lv_at hl 2 rfl) ?_
  refine lv_aload_n hx hb dL_law_189 rfl (lv_at hl 3 rfl) ?_
  refine lv_iload_n hx hb dL_law_190 rfl (lv_at hl 0 rfl) ?_
  refine lv_iconst (v := 1) hx hb dL_law_191 (by decide) ?_
  refine lv_iadd hx hb dL_law_192 ?_
  refine lv_tope (z := 1) (by decide) ?_
  refine va_sld hx hb hX hbl hbA hS (vp_in_iff.mpr (by decide)) dL_law_193 ?_
  refine lv_tope (z := xs 1) rfl ?_
  refine lv_aload_n hx hb dL_law_194 rfl (lv_at hl 3 rfl) ?_
  refine lv_iload_n hx hb dL_law_195 rfl (lv_at hl 0 rfl) ?_
  refine lv_iconst (v := 2) hx hb dL_law_196 (by decide) ?_
  refine lv_iadd hx hb dL_law_197 ?_
  refine lv_tope (z := 2) (by decide) ?_
  refine va_sld hx hb hX hbl hbA hS (vp_in_iff.mpr (by decide)) dL_law_198 ?_
  refine lv_tope (z := xs 2) rfl ?_
  refine lv_aload_n hx hb dL_law_199 rfl (lv_at hl 3 rfl) ?_
  refine lv_iload_n hx hb dL_law_200 rfl (lv_at hl 0 rfl) ?_
  refine lv_iconst (v := 3) hx hb dL_law_201 (by decide) ?_
  refine lv_iadd hx hb dL_law_202 ?_
  refine lv_tope (z := 3) (by decide) ?_
  refine va_sld hx hb hX hbl hbA hS (vp_in_iff.mpr (by decide)) dL_law_203 ?_
  refine lv_tope (z := xs 3) rfl ?_
  refine va_calli (zwV (As := [.int (xs 1), .int (xs 2), .int (xs 3)]) (rest := []) (wc := [(q0, .inr (8, [.ref a1, .ref a2, .ref a3, .ref a4, .ref a5, .ref a6, .ref a7, .int 0, .int 0, .int 0, .int 50, .int 3, .int 0, .int 0])), (a3, .inl (c3, 30, .inr (.inr (.inr (.inr (fun _ => none))))))]) ⟨hx, hb, hml, hown, hts⟩ hN hK hP hD (k_X8_silence l D H.size q0 a1 a2 a3 a4 a5 a6 a7 c3 ((xs 1)) ((xs 2)) ((xs 3)) ) (cwV 3 hts gL_law_X8_silence rfl rfl rfl (by decide +kernel) ⟨(Nat.le_of_ble_eq_true rfl), (Nat.le_of_ble_eq_true rfl)⟩) [0] [0, 1] rfl rfl (by decide) 8 0 rfl rfl rfl hl.1 rfl (Nat.le_of_ble_eq_true rfl) dL_law_204 ⟨(Nat.le_of_ble_eq_true rfl), (Nat.le_of_ble_eq_true rfl)⟩) hS (fun q _ h => va_free (wc := [(q0, .inr (8, [.ref a1, .ref a2, .ref a3, .ref a4, .ref a5, .ref a6, .ref a7, .int 0, .int 0, .int 0, .int 50, .int 3, .int 0, .int 0])), (a3, .inl (c3, 30, .inr (.inr (.inr (.inr (fun _ => none))))))]) hD hS hA [0, 1] rfl q h) (va_free (wc := [(q0, .inr (8, [.ref a1, .ref a2, .ref a3, .ref a4, .ref a5, .ref a6, .ref a7, .int 0, .int 0, .int 0, .int 50, .int 3, .int 0, .int 0])), (a3, .inl (c3, 30, .inr (.inr (.inr (.inr (fun _ => none))))))]) hD hS hA [0, 1] rfl) (fun r_2 u t H_1 locs1 ht hvm hw hB hz1 hk1 hS1 => ?_)
  obtain ⟨hP, hD, hK⟩ := zj (wc := [(q0, .inr (8, [.ref a1, .ref a2, .ref a3, .ref a4, .ref a5, .ref a6, .ref a7, .int 0, .int 0, .int 0, .int 50, .int 3, .int 0, .int 0])), (a3, .inl (c3, 30, .inr (.inr (.inr (.inr (fun _ => none))))))]) (wr := [(h9, .inr (9, [.int 0, .int 0, .int 0, .int 0, .int 50, .int 3, .int 0, .ref b1, .ref b2, .ref b3, .ref b4, .ref b5, .ref b6, .ref b7, .ref b8, .ref b9, .ref b10, .ref b11, .ref b12, .ref b13, .ref b14, .ref b15, .ref b16, .ref b17, .ref b18, .int 0, .int 0, .int 0, .ref b19, .ref b20, .ref b21, .int 0, .ref b22, .ref b23, .int 0, .ref b24, .ref b25])), (b13, .inl (d13, 30, .inl (fun _ => 0))), (b14, .inl (d14, 30, .inl (fun _ => 0))), (b15, .inl (d15, 30, .inl (fun _ => 0)))]) (w1 := []) hK hP hD hS hA [0, 1] [2, 3, 4, 5] rfl rfl (by decide) (by decide) hk1 ht hvm hB
  have hS := hS1
  have hP : va_P D vwCl [(h9, .inr (9, [.int 0, .int 0, .int 0, .int 0, .int 50, .int 3, .int 0, .ref b1, .ref b2, .ref b3, .ref b4, .ref b5, .ref b6, .ref b7, .ref b8, .ref b9, .ref b10, .ref b11, .ref b12, .ref b13, .ref b14, .ref b15, .ref b16, .ref b17, .ref b18, .int 0, .int 0, .int 0, .ref b19, .ref b20, .ref b21, .int 0, .ref b22, .ref b23, .int 0, .ref b24, .ref b25])), (b13, .inl (d13, 30, .inl (fun _ => 0))), (b14, .inl (d14, 30, .inl (fun _ => 0))), (b15, .inl (d15, 30, .inl (fun _ => 0)))] H_1 := hP
  have hD : va_D A [(h9, .inr (9, [.int 0, .int 0, .int 0, .int 0, .int 50, .int 3, .int 0, .ref b1, .ref b2, .ref b3, .ref b4, .ref b5, .ref b6, .ref b7, .ref b8, .ref b9, .ref b10, .ref b11, .ref b12, .ref b13, .ref b14, .ref b15, .ref b16, .ref b17, .ref b18, .int 0, .int 0, .int 0, .ref b19, .ref b20, .ref b21, .int 0, .ref b22, .ref b23, .int 0, .ref b24, .ref b25])), (b13, .inl (d13, 30, .inl (fun _ => 0))), (b14, .inl (d14, 30, .inl (fun _ => 0))), (b15, .inl (d15, 30, .inl (fun _ => 0)))] := hD
  have hK : va_K D vwCl [(c3, .object RX6), (d13, .int), (d14, .int), (d15, .int)] s := hK
  have hr_2 := hw
  refine lv_aload_n hx hb dL_law_207 rfl (lv_at hl 1 rfl) ?_
  refine lv_aload_n hx hb dL_law_208 rfl (lv_at hl 3 rfl) ?_
  refine lv_iload_n hx hb dL_law_209 rfl (lv_at hl 0 rfl) ?_
  refine lv_iconst (v := 1) hx hb dL_law_210 (by decide) ?_
  refine lv_iadd hx hb dL_law_211 ?_
  refine lv_tope (z := 1) (by decide) ?_
  refine va_sld hx hb hX hbl hbA hS (vp_in_iff.mpr (by decide)) dL_law_212 ?_
  refine lv_tope (z := xs 1) rfl ?_
  refine lv_aload_n hx hb dL_law_213 rfl (lv_at hl 3 rfl) ?_
  refine lv_iload_n hx hb dL_law_214 rfl (lv_at hl 0 rfl) ?_
  refine lv_iconst (v := 2) hx hb dL_law_215 (by decide) ?_
  refine lv_iadd hx hb dL_law_216 ?_
  refine lv_tope (z := 2) (by decide) ?_
  refine va_sld hx hb hX hbl hbA hS (vp_in_iff.mpr (by decide)) dL_law_217 ?_
  refine lv_tope (z := xs 2) rfl ?_
  refine lv_aload_n hx hb dL_law_218 rfl (lv_at hl 3 rfl) ?_
  refine lv_iload_n hx hb dL_law_219 rfl (lv_at hl 0 rfl) ?_
  refine lv_iconst (v := 3) hx hb dL_law_220 (by decide) ?_
  refine lv_iadd hx hb dL_law_221 ?_
  refine lv_tope (z := 3) (by decide) ?_
  refine va_sld hx hb hX hbl hbA hS (vp_in_iff.mpr (by decide)) dL_law_222 ?_
  refine lv_tope (z := xs 3) rfl ?_
  refine va_calli (zwV (As := [.int (xs 1), .int (xs 2), .int (xs 3)]) (rest := [.int r_2]) (wc := [(h9, .inr (9, [.int 0, .int 0, .int 0, .int 0, .int 50, .int 3, .int 0, .ref b1, .ref b2, .ref b3, .ref b4, .ref b5, .ref b6, .ref b7, .ref b8, .ref b9, .ref b10, .ref b11, .ref b12, .ref b13, .ref b14, .ref b15, .ref b16, .ref b17, .ref b18, .int 0, .int 0, .int 0, .ref b19, .ref b20, .ref b21, .int 0, .ref b22, .ref b23, .int 0, .ref b24, .ref b25])), (b13, .inl (d13, 30, .inl (fun _ => 0))), (b14, .inl (d14, 30, .inl (fun _ => 0))), (b15, .inl (d15, 30, .inl (fun _ => 0)))]) ⟨hx, hb, hml, hown, hts⟩ hN hK hP hD (k_X9_silence l D H_1.size h9 b1 b2 b3 b4 b5 b6 b7 b8 b9 b10 b11 b12 b13 b14 b15 b16 b17 b18 b19 b20 b21 b22 b23 b24 b25 d13 d14 d15 ((xs 1)) ((xs 2)) ((xs 3)) ) (cwV 3 hts gL_law_X9_silence rfl rfl rfl (by decide +kernel) ⟨(Nat.le_of_ble_eq_true rfl), (Nat.le_of_ble_eq_true rfl)⟩) [1, 2, 3] [0, 1, 2, 3] rfl rfl (by decide) 9 0 rfl rfl rfl hl.1 rfl (Nat.le_of_ble_eq_true rfl) dL_law_223 ⟨(Nat.le_of_ble_eq_true rfl), (Nat.le_of_ble_eq_true rfl)⟩) hS (fun q _ h => va_free (wc := [(h9, .inr (9, [.int 0, .int 0, .int 0, .int 0, .int 50, .int 3, .int 0, .ref b1, .ref b2, .ref b3, .ref b4, .ref b5, .ref b6, .ref b7, .ref b8, .ref b9, .ref b10, .ref b11, .ref b12, .ref b13, .ref b14, .ref b15, .ref b16, .ref b17, .ref b18, .int 0, .int 0, .int 0, .ref b19, .ref b20, .ref b21, .int 0, .ref b22, .ref b23, .int 0, .ref b24, .ref b25])), (b13, .inl (d13, 30, .inl (fun _ => 0))), (b14, .inl (d14, 30, .inl (fun _ => 0))), (b15, .inl (d15, 30, .inl (fun _ => 0)))]) hD hS hA [0, 1, 2, 3] rfl q h) (va_free (wc := [(h9, .inr (9, [.int 0, .int 0, .int 0, .int 0, .int 50, .int 3, .int 0, .ref b1, .ref b2, .ref b3, .ref b4, .ref b5, .ref b6, .ref b7, .ref b8, .ref b9, .ref b10, .ref b11, .ref b12, .ref b13, .ref b14, .ref b15, .ref b16, .ref b17, .ref b18, .int 0, .int 0, .int 0, .ref b19, .ref b20, .ref b21, .int 0, .ref b22, .ref b23, .int 0, .ref b24, .ref b25])), (b13, .inl (d13, 30, .inl (fun _ => 0))), (b14, .inl (d14, 30, .inl (fun _ => 0))), (b15, .inl (d15, 30, .inl (fun _ => 0)))]) hD hS hA [0, 1, 2, 3] rfl) (fun r_4 u t H_3 locs1 ht hvm hw hB hz1 hk1 hS1 => ?_)
  obtain ⟨hP, hD, hK⟩ := zj (wc := [(h9, .inr (9, [.int 0, .int 0, .int 0, .int 0, .int 50, .int 3, .int 0, .ref b1, .ref b2, .ref b3, .ref b4, .ref b5, .ref b6, .ref b7, .ref b8, .ref b9, .ref b10, .ref b11, .ref b12, .ref b13, .ref b14, .ref b15, .ref b16, .ref b17, .ref b18, .int 0, .int 0, .int 0, .ref b19, .ref b20, .ref b21, .int 0, .ref b22, .ref b23, .int 0, .ref b24, .ref b25])), (b13, .inl (d13, 30, .inl (fun _ => 0))), (b14, .inl (d14, 30, .inl (fun _ => 0))), (b15, .inl (d15, 30, .inl (fun _ => 0)))]) (wr := []) (w1 := []) hK hP hD hS hA [0, 1, 2, 3] [] rfl rfl (by decide) (by decide) hk1 ht hvm hB
  have hS := hS1
  have hP : va_P D vwCl [] H_3 := hP
  have hD : va_D A [] := hD
  have hK : va_K D vwCl [(c3, .object RX6), (d13, .int), (d14, .int), (d15, .int)] s := hK
  have hr_4 := hw
  refine lv_icmp_eq (tgt := 692) hx hb dL_law_226 (by decide) (fun _ => ?_) (fun c_ => absurd ((hr_2).trans (hr_4).symm) c_)
  exact law_tail hA hAf hx hb hr hlocks hX hbl hbA hS (lv_sub hl [0, 3] rfl) (Nat.le_of_ble_eq_true rfl) (Nat.le_of_ble_eq_true rfl)

set_option maxHeartbeats 4000000 in
set_option maxRecDepth 100000 in
theorem law_c3 {p : Program} {l : Launch} {e : Env} {s : State} {m : MethodId} {below : List Frame} {meth : Method} {c : Code} {b : Nat} {xs : Nat → Int32} {A : Nat → Prop} {D : va_G} {H : Heap} {locs : List Loc} {ls : Array Slot} {q0 a1 a2 a3 a4 a5 a6 a7 o5 o6 t1 t2 t3 t4 h9 b1 b2 b3 b4 b5 b6 b7 b8 b9 b10 b11 b12 b13 b14 b15 b16 b17 b18 b19 b20 b21 b22 b23 b24 b25 : Nat} {c1 c2 c3 c6 c7 d1 d2 d3 d4 d5 d6 d7 d8 d9 d10 d11 d12 d13 d14 d15 d16 d17 d18 d19 d20 d21 d22 d23 d24 d25 : ClassId} (C0 : lw_At p s m meth c b 5 xs) (hN : Nq s) (hA : ∀ q : Nat, s.heap.size ≤ q → A q) (hAf : ∀ q : Nat, A q → s.heap.size ≤ q) (hK : va_K D vwCl (wLT c1 c2 c3 c6 c7 d1 d2 d3 d4 d5 d6 d7 d8 d9 d10 d11 d12 d13 d14 d15 d16 d17 d18 d19 d20 d21 d22 d23 d24 d25) s) (hP : va_P D vwCl (wLW q0 a1 a2 a3 a4 a5 a6 a7 o5 o6 t1 t2 t3 t4 h9 b1 b2 b3 b4 b5 b6 b7 b8 b9 b10 b11 b12 b13 b14 b15 b16 b17 b18 b19 b20 b21 b22 b23 b24 b25 c1 c2 c3 c6 c7 d1 d2 d3 d4 d5 d6 d7 d8 d9 d10 d11 d12 d13 d14 d15 d16 d17 d18 d19 d20 d21 d22 d23 d24 d25) H) (hD : va_D A (wLW q0 a1 a2 a3 a4 a5 a6 a7 o5 o6 t1 t2 t3 t4 h9 b1 b2 b3 b4 b5 b6 b7 b8 b9 b10 b11 b12 b13 b14 b15 b16 b17 b18 b19 b20 b21 b22 b23 b24 b25 c1 c2 c3 c6 c7 d1 d2 d3 d4 d5 d6 d7 d8 d9 d10 d11 d12 d13 d14 d15 d16 d17 d18 d19 d20 d21 d22 d23 d24 d25)) (hS : va_S A s.heap H locs) (hl : lv_has ls 4 [(3, .int 0), (2, .ref h9), (1, .ref q0), (0, .ref b)]) : W p l e room_1 s m #[Value.ref b] below meth c H locs 40 4558 (lw_Z below #[Value.ref b] s) (F0 m 231 ls []) := by
  obtain ⟨hx, hb, hr, hml, hown, hts, hX, hbl, hlocks, hgv⟩ := C0
  have hts := fun w h => hts w (wsL_law_in w h)
  have hb : c.code = cL_law := hb
  have hown : s.vm.findClass RL = some m.cls := hown
  have hbA : ¬ A b := fun q => absurd (hAf b q) (Nat.not_le.mpr hbl)
  have hP := hP.sub (ws' := [(q0, .inr (8, [.ref a1, .ref a2, .ref a3, .ref a4, .ref a5, .ref a6, .ref a7, .int 0, .int 0, .int 0, .int 50, .int 3, .int 0, .int 0])), (h9, .inr (9, [.int 0, .int 0, .int 0, .int 0, .int 50, .int 3, .int 0, .ref b1, .ref b2, .ref b3, .ref b4, .ref b5, .ref b6, .ref b7, .ref b8, .ref b9, .ref b10, .ref b11, .ref b12, .ref b13, .ref b14, .ref b15, .ref b16, .ref b17, .ref b18, .int 0, .int 0, .int 0, .ref b19, .ref b20, .ref b21, .int 0, .ref b22, .ref b23, .int 0, .ref b24, .ref b25]))]) [0, 10] rfl
  have hD := hD.sub (ws' := [(q0, .inr (8, [.ref a1, .ref a2, .ref a3, .ref a4, .ref a5, .ref a6, .ref a7, .int 0, .int 0, .int 0, .int 50, .int 3, .int 0, .int 0])), (h9, .inr (9, [.int 0, .int 0, .int 0, .int 0, .int 50, .int 3, .int 0, .ref b1, .ref b2, .ref b3, .ref b4, .ref b5, .ref b6, .ref b7, .ref b8, .ref b9, .ref b10, .ref b11, .ref b12, .ref b13, .ref b14, .ref b15, .ref b16, .ref b17, .ref b18, .int 0, .int 0, .int 0, .ref b19, .ref b20, .ref b21, .int 0, .ref b22, .ref b23, .int 0, .ref b24, .ref b25]))]) [0, 10] (by decide) rfl
  have hK := hK.sub (tys' := []) [] rfl
  refine lv_aload_n hx hb dL_law_231 rfl (lv_at hl 2 rfl) ?_
  refine lv_aload_n hx hb dL_law_232 rfl (lv_at hl 3 rfl) ?_
  refine lv_iload_n hx hb dL_law_233 rfl (lv_at hl 0 rfl) ?_
  refine lv_iconst (v := 1) hx hb dL_law_234 (by decide) ?_
  refine lv_iadd hx hb dL_law_235 ?_
  refine lv_tope (z := 1) (by decide) ?_
  refine va_sld hx hb hX hbl hbA hS (vp_in_iff.mpr (by decide)) dL_law_236 ?_
  refine lv_tope (z := xs 1) rfl ?_
  refine lv_aload_n hx hb dL_law_237 rfl (lv_at hl 3 rfl) ?_
  refine lv_iload_n hx hb dL_law_238 rfl (lv_at hl 0 rfl) ?_
  refine lv_iconst (v := 2) hx hb dL_law_239 (by decide) ?_
  refine lv_iadd hx hb dL_law_240 ?_
  refine lv_tope (z := 2) (by decide) ?_
  refine va_sld hx hb hX hbl hbA hS (vp_in_iff.mpr (by decide)) dL_law_241 ?_
  refine lv_tope (z := xs 2) rfl ?_
  refine va_calli (zwV (As := [.int (xs 1), .int (xs 2)]) (rest := []) (wc := [(q0, .inr (8, [.ref a1, .ref a2, .ref a3, .ref a4, .ref a5, .ref a6, .ref a7, .int 0, .int 0, .int 0, .int 50, .int 3, .int 0, .int 0]))]) ⟨hx, hb, hml, hown, hts⟩ hN hK hP hD (k_X8_set l D H.size q0 a1 a2 a3 a4 a5 a6 a7 ((xs 1)) ((xs 2)) ) (cwV 2 hts gL_law_X8_set rfl rfl rfl (by decide +kernel) ⟨(Nat.le_of_ble_eq_true rfl), (Nat.le_of_ble_eq_true rfl)⟩) [] [0] rfl rfl (by decide) 8 0 rfl rfl rfl hl.1 rfl (Nat.le_of_ble_eq_true rfl) dL_law_242 ⟨(Nat.le_of_ble_eq_true rfl), (Nat.le_of_ble_eq_true rfl)⟩) hS (fun q _ h => va_free (wc := [(q0, .inr (8, [.ref a1, .ref a2, .ref a3, .ref a4, .ref a5, .ref a6, .ref a7, .int 0, .int 0, .int 0, .int 50, .int 3, .int 0, .int 0]))]) hD hS hA [0] rfl q h) (va_free (wc := [(q0, .inr (8, [.ref a1, .ref a2, .ref a3, .ref a4, .ref a5, .ref a6, .ref a7, .int 0, .int 0, .int 0, .int 50, .int 3, .int 0, .int 0]))]) hD hS hA [0] rfl) (fun r_2 u t H_1 locs1 ht hvm hw hB hz1 hk1 hS1 => ?_)
  obtain ⟨hP, hD, hK⟩ := zj (wc := [(q0, .inr (8, [.ref a1, .ref a2, .ref a3, .ref a4, .ref a5, .ref a6, .ref a7, .int 0, .int 0, .int 0, .int 50, .int 3, .int 0, .int 0]))]) (wr := [(h9, .inr (9, [.int 0, .int 0, .int 0, .int 0, .int 50, .int 3, .int 0, .ref b1, .ref b2, .ref b3, .ref b4, .ref b5, .ref b6, .ref b7, .ref b8, .ref b9, .ref b10, .ref b11, .ref b12, .ref b13, .ref b14, .ref b15, .ref b16, .ref b17, .ref b18, .int 0, .int 0, .int 0, .ref b19, .ref b20, .ref b21, .int 0, .ref b22, .ref b23, .int 0, .ref b24, .ref b25]))]) (w1 := []) hK hP hD hS hA [0] [1] rfl rfl (by decide) (by decide) hk1 ht hvm hB
  have hS := hS1
  have hP : va_P D vwCl [(h9, .inr (9, [.int 0, .int 0, .int 0, .int 0, .int 50, .int 3, .int 0, .ref b1, .ref b2, .ref b3, .ref b4, .ref b5, .ref b6, .ref b7, .ref b8, .ref b9, .ref b10, .ref b11, .ref b12, .ref b13, .ref b14, .ref b15, .ref b16, .ref b17, .ref b18, .int 0, .int 0, .int 0, .ref b19, .ref b20, .ref b21, .int 0, .ref b22, .ref b23, .int 0, .ref b24, .ref b25]))] H_1 := hP
  have hD : va_D A [(h9, .inr (9, [.int 0, .int 0, .int 0, .int 0, .int 50, .int 3, .int 0, .ref b1, .ref b2, .ref b3, .ref b4, .ref b5, .ref b6, .ref b7, .ref b8, .ref b9, .ref b10, .ref b11, .ref b12, .ref b13, .ref b14, .ref b15, .ref b16, .ref b17, .ref b18, .int 0, .int 0, .int 0, .ref b19, .ref b20, .ref b21, .int 0, .ref b22, .ref b23, .int 0, .ref b24, .ref b25]))] := hD
  have hK : va_K D vwCl [] s := hK
  have hr_2 := hw
  refine lv_aload_n hx hb dL_law_245 rfl (lv_at hl 1 rfl) ?_
  refine lv_aload_n hx hb dL_law_246 rfl (lv_at hl 3 rfl) ?_
  refine lv_iload_n hx hb dL_law_247 rfl (lv_at hl 0 rfl) ?_
  refine lv_iconst (v := 1) hx hb dL_law_248 (by decide) ?_
  refine lv_iadd hx hb dL_law_249 ?_
  refine lv_tope (z := 1) (by decide) ?_
  refine va_sld hx hb hX hbl hbA hS (vp_in_iff.mpr (by decide)) dL_law_250 ?_
  refine lv_tope (z := xs 1) rfl ?_
  refine lv_aload_n hx hb dL_law_251 rfl (lv_at hl 3 rfl) ?_
  refine lv_iload_n hx hb dL_law_252 rfl (lv_at hl 0 rfl) ?_
  refine lv_iconst (v := 2) hx hb dL_law_253 (by decide) ?_
  refine lv_iadd hx hb dL_law_254 ?_
  refine lv_tope (z := 2) (by decide) ?_
  refine va_sld hx hb hX hbl hbA hS (vp_in_iff.mpr (by decide)) dL_law_255 ?_
  refine lv_tope (z := xs 2) rfl ?_
  refine va_calli (zwV (As := [.int (xs 1), .int (xs 2)]) (rest := [.int r_2]) (wc := [(h9, .inr (9, [.int 0, .int 0, .int 0, .int 0, .int 50, .int 3, .int 0, .ref b1, .ref b2, .ref b3, .ref b4, .ref b5, .ref b6, .ref b7, .ref b8, .ref b9, .ref b10, .ref b11, .ref b12, .ref b13, .ref b14, .ref b15, .ref b16, .ref b17, .ref b18, .int 0, .int 0, .int 0, .ref b19, .ref b20, .ref b21, .int 0, .ref b22, .ref b23, .int 0, .ref b24, .ref b25]))]) ⟨hx, hb, hml, hown, hts⟩ hN hK hP hD (k_X9_set l D H_1.size h9 b1 b2 b3 b4 b5 b6 b7 b8 b9 b10 b11 b12 b13 b14 b15 b16 b17 b18 b19 b20 b21 b22 b23 b24 b25 ((xs 1)) ((xs 2)) ) (cwV 2 hts gL_law_X9_set rfl rfl rfl (by decide +kernel) ⟨(Nat.le_of_ble_eq_true rfl), (Nat.le_of_ble_eq_true rfl)⟩) [] [0] rfl rfl (by decide) 9 0 rfl rfl rfl hl.1 rfl (Nat.le_of_ble_eq_true rfl) dL_law_256 ⟨(Nat.le_of_ble_eq_true rfl), (Nat.le_of_ble_eq_true rfl)⟩) hS (fun q _ h => va_free (wc := [(h9, .inr (9, [.int 0, .int 0, .int 0, .int 0, .int 50, .int 3, .int 0, .ref b1, .ref b2, .ref b3, .ref b4, .ref b5, .ref b6, .ref b7, .ref b8, .ref b9, .ref b10, .ref b11, .ref b12, .ref b13, .ref b14, .ref b15, .ref b16, .ref b17, .ref b18, .int 0, .int 0, .int 0, .ref b19, .ref b20, .ref b21, .int 0, .ref b22, .ref b23, .int 0, .ref b24, .ref b25]))]) hD hS hA [0] rfl q h) (va_free (wc := [(h9, .inr (9, [.int 0, .int 0, .int 0, .int 0, .int 50, .int 3, .int 0, .ref b1, .ref b2, .ref b3, .ref b4, .ref b5, .ref b6, .ref b7, .ref b8, .ref b9, .ref b10, .ref b11, .ref b12, .ref b13, .ref b14, .ref b15, .ref b16, .ref b17, .ref b18, .int 0, .int 0, .int 0, .ref b19, .ref b20, .ref b21, .int 0, .ref b22, .ref b23, .int 0, .ref b24, .ref b25]))]) hD hS hA [0] rfl) (fun r_4 u t H_3 locs1 ht hvm hw hB hz1 hk1 hS1 => ?_)
  obtain ⟨hP, hD, hK⟩ := zj (wc := [(h9, .inr (9, [.int 0, .int 0, .int 0, .int 0, .int 50, .int 3, .int 0, .ref b1, .ref b2, .ref b3, .ref b4, .ref b5, .ref b6, .ref b7, .ref b8, .ref b9, .ref b10, .ref b11, .ref b12, .ref b13, .ref b14, .ref b15, .ref b16, .ref b17, .ref b18, .int 0, .int 0, .int 0, .ref b19, .ref b20, .ref b21, .int 0, .ref b22, .ref b23, .int 0, .ref b24, .ref b25]))]) (wr := []) (w1 := []) hK hP hD hS hA [0] [] rfl rfl (by decide) (by decide) hk1 ht hvm hB
  have hS := hS1
  have hP : va_P D vwCl [] H_3 := hP
  have hD : va_D A [] := hD
  have hK : va_K D vwCl [] s := hK
  have hr_4 := hw
  refine lv_icmp_eq (tgt := 692) hx hb dL_law_259 (by decide) (fun _ => ?_) (fun c_ => absurd ((hr_2).trans (hr_4).symm) c_)
  exact law_tail hA hAf hx hb hr hlocks hX hbl hbA hS (lv_sub hl [0, 3] rfl) (Nat.le_of_ble_eq_true rfl) (Nat.le_of_ble_eq_true rfl)

set_option maxHeartbeats 4000000 in
set_option maxRecDepth 100000 in
theorem law_c4 {p : Program} {l : Launch} {e : Env} {s : State} {m : MethodId} {below : List Frame} {meth : Method} {c : Code} {b : Nat} {xs : Nat → Int32} {A : Nat → Prop} {D : va_G} {H : Heap} {locs : List Loc} {ls : Array Slot} {q0 a1 a2 a3 a4 a5 a6 a7 o5 o6 t1 t2 t3 t4 h9 b1 b2 b3 b4 b5 b6 b7 b8 b9 b10 b11 b12 b13 b14 b15 b16 b17 b18 b19 b20 b21 b22 b23 b24 b25 : Nat} {c1 c2 c3 c6 c7 d1 d2 d3 d4 d5 d6 d7 d8 d9 d10 d11 d12 d13 d14 d15 d16 d17 d18 d19 d20 d21 d22 d23 d24 d25 : ClassId} (C0 : lw_At p s m meth c b 5 xs) (hN : Nq s) (hA : ∀ q : Nat, s.heap.size ≤ q → A q) (hAf : ∀ q : Nat, A q → s.heap.size ≤ q) (hK : va_K D vwCl (wLT c1 c2 c3 c6 c7 d1 d2 d3 d4 d5 d6 d7 d8 d9 d10 d11 d12 d13 d14 d15 d16 d17 d18 d19 d20 d21 d22 d23 d24 d25) s) (hP : va_P D vwCl (wLW q0 a1 a2 a3 a4 a5 a6 a7 o5 o6 t1 t2 t3 t4 h9 b1 b2 b3 b4 b5 b6 b7 b8 b9 b10 b11 b12 b13 b14 b15 b16 b17 b18 b19 b20 b21 b22 b23 b24 b25 c1 c2 c3 c6 c7 d1 d2 d3 d4 d5 d6 d7 d8 d9 d10 d11 d12 d13 d14 d15 d16 d17 d18 d19 d20 d21 d22 d23 d24 d25) H) (hD : va_D A (wLW q0 a1 a2 a3 a4 a5 a6 a7 o5 o6 t1 t2 t3 t4 h9 b1 b2 b3 b4 b5 b6 b7 b8 b9 b10 b11 b12 b13 b14 b15 b16 b17 b18 b19 b20 b21 b22 b23 b24 b25 c1 c2 c3 c6 c7 d1 d2 d3 d4 d5 d6 d7 d8 d9 d10 d11 d12 d13 d14 d15 d16 d17 d18 d19 d20 d21 d22 d23 d24 d25)) (hS : va_S A s.heap H locs) (hl : lv_has ls 4 [(3, .int 0), (2, .ref h9), (1, .ref q0), (0, .ref b)]) : W p l e room_1 s m #[Value.ref b] below meth c H locs 40 4558 (lw_Z below #[Value.ref b] s) (F0 m 264 ls []) := by
  obtain ⟨hx, hb, hr, hml, hown, hts, hX, hbl, hlocks, hgv⟩ := C0
  have hts := fun w h => hts w (wsL_law_in w h)
  have hb : c.code = cL_law := hb
  have hown : s.vm.findClass RL = some m.cls := hown
  have hbA : ¬ A b := fun q => absurd (hAf b q) (Nat.not_le.mpr hbl)
  have hP := hP.sub (ws' := [(q0, .inr (8, [.ref a1, .ref a2, .ref a3, .ref a4, .ref a5, .ref a6, .ref a7, .int 0, .int 0, .int 0, .int 50, .int 3, .int 0, .int 0])), (h9, .inr (9, [.int 0, .int 0, .int 0, .int 0, .int 50, .int 3, .int 0, .ref b1, .ref b2, .ref b3, .ref b4, .ref b5, .ref b6, .ref b7, .ref b8, .ref b9, .ref b10, .ref b11, .ref b12, .ref b13, .ref b14, .ref b15, .ref b16, .ref b17, .ref b18, .int 0, .int 0, .int 0, .ref b19, .ref b20, .ref b21, .int 0, .ref b22, .ref b23, .int 0, .ref b24, .ref b25]))]) [0, 10] rfl
  have hD := hD.sub (ws' := [(q0, .inr (8, [.ref a1, .ref a2, .ref a3, .ref a4, .ref a5, .ref a6, .ref a7, .int 0, .int 0, .int 0, .int 50, .int 3, .int 0, .int 0])), (h9, .inr (9, [.int 0, .int 0, .int 0, .int 0, .int 50, .int 3, .int 0, .ref b1, .ref b2, .ref b3, .ref b4, .ref b5, .ref b6, .ref b7, .ref b8, .ref b9, .ref b10, .ref b11, .ref b12, .ref b13, .ref b14, .ref b15, .ref b16, .ref b17, .ref b18, .int 0, .int 0, .int 0, .ref b19, .ref b20, .ref b21, .int 0, .ref b22, .ref b23, .int 0, .ref b24, .ref b25]))]) [0, 10] (by decide) rfl
  have hK := hK.sub (tys' := []) [] rfl
  refine lv_aload_n hx hb dL_law_264 rfl (lv_at hl 2 rfl) ?_
  refine lv_aload_n hx hb dL_law_265 rfl (lv_at hl 3 rfl) ?_
  refine lv_iload_n hx hb dL_law_266 rfl (lv_at hl 0 rfl) ?_
  refine lv_iconst (v := 1) hx hb dL_law_267 (by decide) ?_
  refine lv_iadd hx hb dL_law_268 ?_
  refine lv_tope (z := 1) (by decide) ?_
  refine va_sld hx hb hX hbl hbA hS (vp_in_iff.mpr (by decide)) dL_law_269 ?_
  refine lv_tope (z := xs 1) rfl ?_
  refine lv_aload_n hx hb dL_law_270 rfl (lv_at hl 3 rfl) ?_
  refine lv_iload_n hx hb dL_law_271 rfl (lv_at hl 0 rfl) ?_
  refine lv_iconst (v := 2) hx hb dL_law_272 (by decide) ?_
  refine lv_iadd hx hb dL_law_273 ?_
  refine lv_tope (z := 2) (by decide) ?_
  refine va_sld hx hb hX hbl hbA hS (vp_in_iff.mpr (by decide)) dL_law_274 ?_
  refine lv_tope (z := xs 2) rfl ?_
  refine lv_aload_n hx hb dL_law_275 rfl (lv_at hl 3 rfl) ?_
  refine lv_iload_n hx hb dL_law_276 rfl (lv_at hl 0 rfl) ?_
  refine lv_iconst (v := 3) hx hb dL_law_277 (by decide) ?_
  refine lv_iadd hx hb dL_law_278 ?_
  refine lv_tope (z := 3) (by decide) ?_
  refine va_sld hx hb hX hbl hbA hS (vp_in_iff.mpr (by decide)) dL_law_279 ?_
  refine lv_tope (z := xs 3) rfl ?_
  refine bz_eq (zx := ((xs 3)).toInt) (tgt := 287) hx hb dL_law_280 (by decide) rfl (fun c_1 => ?_) (fun c_1 => ?_)
  · refine lv_iconst (v := 0) hx hb dL_law_287 (by decide) ?_
    refine vp_callSi (zrV (As := [.int (xs 1), .int (xs 2), .int 0]) (rest := []) (wc := [(q0, .inr (8, [.ref a1, .ref a2, .ref a3, .ref a4, .ref a5, .ref a6, .ref a7, .int 0, .int 0, .int 0, .int 50, .int 3, .int 0, .int 0]))]) ⟨hx, hb, hml, hown, hts⟩ hN hK hP hD (k_X8_verdict l D q0 a1 a2 a3 a4 a5 a6 a7 ((xs 1)) ((xs 2)) 0 ) (cwV 3 hts gL_law_X8_verdict rfl rfl rfl (by decide +kernel) ⟨(Nat.le_of_ble_eq_true rfl), (Nat.le_of_ble_eq_true rfl)⟩) [] [0] rfl rfl (by decide) 8 0 rfl rfl rfl hl.1 rfl (Nat.le_of_ble_eq_true rfl) dL_law_288 ⟨(Nat.le_of_ble_eq_true rfl), (Nat.le_of_ble_eq_true rfl)⟩) (fun r_2 h_3 => ?_)
    refine lv_aload_n hx hb dL_law_291 rfl (lv_at hl 1 rfl) ?_
    refine lv_aload_n hx hb dL_law_292 rfl (lv_at hl 3 rfl) ?_
    refine lv_iload_n hx hb dL_law_293 rfl (lv_at hl 0 rfl) ?_
    refine lv_iconst (v := 1) hx hb dL_law_294 (by decide) ?_
    refine lv_iadd hx hb dL_law_295 ?_
    refine lv_tope (z := 1) (by decide) ?_
    refine va_sld hx hb hX hbl hbA hS (vp_in_iff.mpr (by decide)) dL_law_296 ?_
    refine lv_tope (z := xs 1) rfl ?_
    refine lv_aload_n hx hb dL_law_297 rfl (lv_at hl 3 rfl) ?_
    refine lv_iload_n hx hb dL_law_298 rfl (lv_at hl 0 rfl) ?_
    refine lv_iconst (v := 2) hx hb dL_law_299 (by decide) ?_
    refine lv_iadd hx hb dL_law_300 ?_
    refine lv_tope (z := 2) (by decide) ?_
    refine va_sld hx hb hX hbl hbA hS (vp_in_iff.mpr (by decide)) dL_law_301 ?_
    refine lv_tope (z := xs 2) rfl ?_
    refine lv_aload_n hx hb dL_law_302 rfl (lv_at hl 3 rfl) ?_
    refine lv_iload_n hx hb dL_law_303 rfl (lv_at hl 0 rfl) ?_
    refine lv_iconst (v := 3) hx hb dL_law_304 (by decide) ?_
    refine lv_iadd hx hb dL_law_305 ?_
    refine lv_tope (z := 3) (by decide) ?_
    refine va_sld hx hb hX hbl hbA hS (vp_in_iff.mpr (by decide)) dL_law_306 ?_
    refine lv_tope (z := xs 3) rfl ?_
    refine bz_eq (zx := ((xs 3)).toInt) (tgt := 314) hx hb dL_law_307 (by decide) rfl (fun c_4 => ?_) (fun c_4 => ?_)
    · refine lv_iconst (v := 0) hx hb dL_law_314 (by decide) ?_
      refine vp_callSi (zrV (As := [.int (xs 1), .int (xs 2), .int 0]) (rest := [.int r_2]) (wc := [(h9, .inr (9, [.int 0, .int 0, .int 0, .int 0, .int 50, .int 3, .int 0, .ref b1, .ref b2, .ref b3, .ref b4, .ref b5, .ref b6, .ref b7, .ref b8, .ref b9, .ref b10, .ref b11, .ref b12, .ref b13, .ref b14, .ref b15, .ref b16, .ref b17, .ref b18, .int 0, .int 0, .int 0, .ref b19, .ref b20, .ref b21, .int 0, .ref b22, .ref b23, .int 0, .ref b24, .ref b25]))]) ⟨hx, hb, hml, hown, hts⟩ hN hK hP hD (k_X9_verdict l D h9 b1 b2 b3 b4 b5 b6 b7 b8 b9 b10 b11 b12 b13 b14 b15 b16 b17 b18 b19 b20 b21 b22 b23 b24 b25 ((xs 1)) ((xs 2)) 0 ) (cwV 3 hts gL_law_X9_verdict rfl rfl rfl (by decide +kernel) ⟨(Nat.le_of_ble_eq_true rfl), (Nat.le_of_ble_eq_true rfl)⟩) [] [1] rfl rfl (by decide) 9 0 rfl rfl rfl hl.1 rfl (Nat.le_of_ble_eq_true rfl) dL_law_315 ⟨(Nat.le_of_ble_eq_true rfl), (Nat.le_of_ble_eq_true rfl)⟩) (fun r_5 h_6 => ?_)
      refine lv_icmp_eq (tgt := 692) hx hb dL_law_318 (by decide) (fun _ => ?_) (fun c_ => absurd ((h_3).trans (h_6).symm) c_)
      exact law_tail hA hAf hx hb hr hlocks hX hbl hbA hS (lv_sub hl [0, 3] rfl) (Nat.le_of_ble_eq_true rfl) (Nat.le_of_ble_eq_true rfl)
    · refine lv_iconst (v := 1) hx hb dL_law_310 (by decide) ?_
      refine lv_goto (tgt := 315) hx hb dL_law_311 (by decide) ?_
      refine vp_callSi (zrV (As := [.int (xs 1), .int (xs 2), .int 1]) (rest := [.int r_2]) (wc := [(h9, .inr (9, [.int 0, .int 0, .int 0, .int 0, .int 50, .int 3, .int 0, .ref b1, .ref b2, .ref b3, .ref b4, .ref b5, .ref b6, .ref b7, .ref b8, .ref b9, .ref b10, .ref b11, .ref b12, .ref b13, .ref b14, .ref b15, .ref b16, .ref b17, .ref b18, .int 0, .int 0, .int 0, .ref b19, .ref b20, .ref b21, .int 0, .ref b22, .ref b23, .int 0, .ref b24, .ref b25]))]) ⟨hx, hb, hml, hown, hts⟩ hN hK hP hD (k_X9_verdict l D h9 b1 b2 b3 b4 b5 b6 b7 b8 b9 b10 b11 b12 b13 b14 b15 b16 b17 b18 b19 b20 b21 b22 b23 b24 b25 ((xs 1)) ((xs 2)) 1 ) (cwV 3 hts gL_law_X9_verdict rfl rfl rfl (by decide +kernel) ⟨(Nat.le_of_ble_eq_true rfl), (Nat.le_of_ble_eq_true rfl)⟩) [] [1] rfl rfl (by decide) 9 0 rfl rfl rfl hl.1 rfl (Nat.le_of_ble_eq_true rfl) dL_law_315 ⟨(Nat.le_of_ble_eq_true rfl), (Nat.le_of_ble_eq_true rfl)⟩) (fun r_7 h_8 => ?_)
      refine lv_icmp_eq (tgt := 692) hx hb dL_law_318 (by decide) (fun _ => ?_) (fun c_ => absurd ((h_3).trans (h_8).symm) c_)
      exact law_tail hA hAf hx hb hr hlocks hX hbl hbA hS (lv_sub hl [0, 3] rfl) (Nat.le_of_ble_eq_true rfl) (Nat.le_of_ble_eq_true rfl)
  · refine lv_iconst (v := 1) hx hb dL_law_283 (by decide) ?_
    refine lv_goto (tgt := 288) hx hb dL_law_284 (by decide) ?_
    refine vp_callSi (zrV (As := [.int (xs 1), .int (xs 2), .int 1]) (rest := []) (wc := [(q0, .inr (8, [.ref a1, .ref a2, .ref a3, .ref a4, .ref a5, .ref a6, .ref a7, .int 0, .int 0, .int 0, .int 50, .int 3, .int 0, .int 0]))]) ⟨hx, hb, hml, hown, hts⟩ hN hK hP hD (k_X8_verdict l D q0 a1 a2 a3 a4 a5 a6 a7 ((xs 1)) ((xs 2)) 1 ) (cwV 3 hts gL_law_X8_verdict rfl rfl rfl (by decide +kernel) ⟨(Nat.le_of_ble_eq_true rfl), (Nat.le_of_ble_eq_true rfl)⟩) [] [0] rfl rfl (by decide) 8 0 rfl rfl rfl hl.1 rfl (Nat.le_of_ble_eq_true rfl) dL_law_288 ⟨(Nat.le_of_ble_eq_true rfl), (Nat.le_of_ble_eq_true rfl)⟩) (fun r_9 h_10 => ?_)
    refine lv_aload_n hx hb dL_law_291 rfl (lv_at hl 1 rfl) ?_
    refine lv_aload_n hx hb dL_law_292 rfl (lv_at hl 3 rfl) ?_
    refine lv_iload_n hx hb dL_law_293 rfl (lv_at hl 0 rfl) ?_
    refine lv_iconst (v := 1) hx hb dL_law_294 (by decide) ?_
    refine lv_iadd hx hb dL_law_295 ?_
    refine lv_tope (z := 1) (by decide) ?_
    refine va_sld hx hb hX hbl hbA hS (vp_in_iff.mpr (by decide)) dL_law_296 ?_
    refine lv_tope (z := xs 1) rfl ?_
    refine lv_aload_n hx hb dL_law_297 rfl (lv_at hl 3 rfl) ?_
    refine lv_iload_n hx hb dL_law_298 rfl (lv_at hl 0 rfl) ?_
    refine lv_iconst (v := 2) hx hb dL_law_299 (by decide) ?_
    refine lv_iadd hx hb dL_law_300 ?_
    refine lv_tope (z := 2) (by decide) ?_
    refine va_sld hx hb hX hbl hbA hS (vp_in_iff.mpr (by decide)) dL_law_301 ?_
    refine lv_tope (z := xs 2) rfl ?_
    refine lv_aload_n hx hb dL_law_302 rfl (lv_at hl 3 rfl) ?_
    refine lv_iload_n hx hb dL_law_303 rfl (lv_at hl 0 rfl) ?_
    refine lv_iconst (v := 3) hx hb dL_law_304 (by decide) ?_
    refine lv_iadd hx hb dL_law_305 ?_
    refine lv_tope (z := 3) (by decide) ?_
    refine va_sld hx hb hX hbl hbA hS (vp_in_iff.mpr (by decide)) dL_law_306 ?_
    refine lv_tope (z := xs 3) rfl ?_
    refine bz_eq (zx := ((xs 3)).toInt) (tgt := 314) hx hb dL_law_307 (by decide) rfl (fun c_11 => ?_) (fun c_11 => ?_)
    · refine lv_iconst (v := 0) hx hb dL_law_314 (by decide) ?_
      refine vp_callSi (zrV (As := [.int (xs 1), .int (xs 2), .int 0]) (rest := [.int r_9]) (wc := [(h9, .inr (9, [.int 0, .int 0, .int 0, .int 0, .int 50, .int 3, .int 0, .ref b1, .ref b2, .ref b3, .ref b4, .ref b5, .ref b6, .ref b7, .ref b8, .ref b9, .ref b10, .ref b11, .ref b12, .ref b13, .ref b14, .ref b15, .ref b16, .ref b17, .ref b18, .int 0, .int 0, .int 0, .ref b19, .ref b20, .ref b21, .int 0, .ref b22, .ref b23, .int 0, .ref b24, .ref b25]))]) ⟨hx, hb, hml, hown, hts⟩ hN hK hP hD (k_X9_verdict l D h9 b1 b2 b3 b4 b5 b6 b7 b8 b9 b10 b11 b12 b13 b14 b15 b16 b17 b18 b19 b20 b21 b22 b23 b24 b25 ((xs 1)) ((xs 2)) 0 ) (cwV 3 hts gL_law_X9_verdict rfl rfl rfl (by decide +kernel) ⟨(Nat.le_of_ble_eq_true rfl), (Nat.le_of_ble_eq_true rfl)⟩) [] [1] rfl rfl (by decide) 9 0 rfl rfl rfl hl.1 rfl (Nat.le_of_ble_eq_true rfl) dL_law_315 ⟨(Nat.le_of_ble_eq_true rfl), (Nat.le_of_ble_eq_true rfl)⟩) (fun r_12 h_13 => ?_)
      refine lv_icmp_eq (tgt := 692) hx hb dL_law_318 (by decide) (fun _ => ?_) (fun c_ => absurd ((h_10).trans (h_13).symm) c_)
      exact law_tail hA hAf hx hb hr hlocks hX hbl hbA hS (lv_sub hl [0, 3] rfl) (Nat.le_of_ble_eq_true rfl) (Nat.le_of_ble_eq_true rfl)
    · refine lv_iconst (v := 1) hx hb dL_law_310 (by decide) ?_
      refine lv_goto (tgt := 315) hx hb dL_law_311 (by decide) ?_
      refine vp_callSi (zrV (As := [.int (xs 1), .int (xs 2), .int 1]) (rest := [.int r_9]) (wc := [(h9, .inr (9, [.int 0, .int 0, .int 0, .int 0, .int 50, .int 3, .int 0, .ref b1, .ref b2, .ref b3, .ref b4, .ref b5, .ref b6, .ref b7, .ref b8, .ref b9, .ref b10, .ref b11, .ref b12, .ref b13, .ref b14, .ref b15, .ref b16, .ref b17, .ref b18, .int 0, .int 0, .int 0, .ref b19, .ref b20, .ref b21, .int 0, .ref b22, .ref b23, .int 0, .ref b24, .ref b25]))]) ⟨hx, hb, hml, hown, hts⟩ hN hK hP hD (k_X9_verdict l D h9 b1 b2 b3 b4 b5 b6 b7 b8 b9 b10 b11 b12 b13 b14 b15 b16 b17 b18 b19 b20 b21 b22 b23 b24 b25 ((xs 1)) ((xs 2)) 1 ) (cwV 3 hts gL_law_X9_verdict rfl rfl rfl (by decide +kernel) ⟨(Nat.le_of_ble_eq_true rfl), (Nat.le_of_ble_eq_true rfl)⟩) [] [1] rfl rfl (by decide) 9 0 rfl rfl rfl hl.1 rfl (Nat.le_of_ble_eq_true rfl) dL_law_315 ⟨(Nat.le_of_ble_eq_true rfl), (Nat.le_of_ble_eq_true rfl)⟩) (fun r_14 h_15 => ?_)
      refine lv_icmp_eq (tgt := 692) hx hb dL_law_318 (by decide) (fun _ => ?_) (fun c_ => absurd ((h_10).trans (h_15).symm) c_)
      exact law_tail hA hAf hx hb hr hlocks hX hbl hbA hS (lv_sub hl [0, 3] rfl) (Nat.le_of_ble_eq_true rfl) (Nat.le_of_ble_eq_true rfl)

set_option maxHeartbeats 4000000 in
set_option maxRecDepth 100000 in
theorem law_c5 {p : Program} {l : Launch} {e : Env} {s : State} {m : MethodId} {below : List Frame} {meth : Method} {c : Code} {b : Nat} {xs : Nat → Int32} {A : Nat → Prop} {D : va_G} {H : Heap} {locs : List Loc} {ls : Array Slot} {q0 a1 a2 a3 a4 a5 a6 a7 o5 o6 t1 t2 t3 t4 h9 b1 b2 b3 b4 b5 b6 b7 b8 b9 b10 b11 b12 b13 b14 b15 b16 b17 b18 b19 b20 b21 b22 b23 b24 b25 : Nat} {c1 c2 c3 c6 c7 d1 d2 d3 d4 d5 d6 d7 d8 d9 d10 d11 d12 d13 d14 d15 d16 d17 d18 d19 d20 d21 d22 d23 d24 d25 : ClassId} (C0 : lw_At p s m meth c b 5 xs) (hN : Nq s) (hA : ∀ q : Nat, s.heap.size ≤ q → A q) (hAf : ∀ q : Nat, A q → s.heap.size ≤ q) (hK : va_K D vwCl (wLT c1 c2 c3 c6 c7 d1 d2 d3 d4 d5 d6 d7 d8 d9 d10 d11 d12 d13 d14 d15 d16 d17 d18 d19 d20 d21 d22 d23 d24 d25) s) (hP : va_P D vwCl (wLW q0 a1 a2 a3 a4 a5 a6 a7 o5 o6 t1 t2 t3 t4 h9 b1 b2 b3 b4 b5 b6 b7 b8 b9 b10 b11 b12 b13 b14 b15 b16 b17 b18 b19 b20 b21 b22 b23 b24 b25 c1 c2 c3 c6 c7 d1 d2 d3 d4 d5 d6 d7 d8 d9 d10 d11 d12 d13 d14 d15 d16 d17 d18 d19 d20 d21 d22 d23 d24 d25) H) (hD : va_D A (wLW q0 a1 a2 a3 a4 a5 a6 a7 o5 o6 t1 t2 t3 t4 h9 b1 b2 b3 b4 b5 b6 b7 b8 b9 b10 b11 b12 b13 b14 b15 b16 b17 b18 b19 b20 b21 b22 b23 b24 b25 c1 c2 c3 c6 c7 d1 d2 d3 d4 d5 d6 d7 d8 d9 d10 d11 d12 d13 d14 d15 d16 d17 d18 d19 d20 d21 d22 d23 d24 d25)) (hS : va_S A s.heap H locs) (hl : lv_has ls 4 [(3, .int 0), (2, .ref h9), (1, .ref q0), (0, .ref b)]) : W p l e room_1 s m #[Value.ref b] below meth c H locs 40 4558 (lw_Z below #[Value.ref b] s) (F0 m 323 ls []) := by
  obtain ⟨hx, hb, hr, hml, hown, hts, hX, hbl, hlocks, hgv⟩ := C0
  have hts := fun w h => hts w (wsL_law_in w h)
  have hb : c.code = cL_law := hb
  have hown : s.vm.findClass RL = some m.cls := hown
  have hbA : ¬ A b := fun q => absurd (hAf b q) (Nat.not_le.mpr hbl)
  have hP := hP.sub (ws' := [(q0, .inr (8, [.ref a1, .ref a2, .ref a3, .ref a4, .ref a5, .ref a6, .ref a7, .int 0, .int 0, .int 0, .int 50, .int 3, .int 0, .int 0])), (h9, .inr (9, [.int 0, .int 0, .int 0, .int 0, .int 50, .int 3, .int 0, .ref b1, .ref b2, .ref b3, .ref b4, .ref b5, .ref b6, .ref b7, .ref b8, .ref b9, .ref b10, .ref b11, .ref b12, .ref b13, .ref b14, .ref b15, .ref b16, .ref b17, .ref b18, .int 0, .int 0, .int 0, .ref b19, .ref b20, .ref b21, .int 0, .ref b22, .ref b23, .int 0, .ref b24, .ref b25]))]) [0, 10] rfl
  have hD := hD.sub (ws' := [(q0, .inr (8, [.ref a1, .ref a2, .ref a3, .ref a4, .ref a5, .ref a6, .ref a7, .int 0, .int 0, .int 0, .int 50, .int 3, .int 0, .int 0])), (h9, .inr (9, [.int 0, .int 0, .int 0, .int 0, .int 50, .int 3, .int 0, .ref b1, .ref b2, .ref b3, .ref b4, .ref b5, .ref b6, .ref b7, .ref b8, .ref b9, .ref b10, .ref b11, .ref b12, .ref b13, .ref b14, .ref b15, .ref b16, .ref b17, .ref b18, .int 0, .int 0, .int 0, .ref b19, .ref b20, .ref b21, .int 0, .ref b22, .ref b23, .int 0, .ref b24, .ref b25]))]) [0, 10] (by decide) rfl
  have hK := hK.sub (tys' := []) [] rfl
  refine lv_aload_n hx hb dL_law_323 rfl (lv_at hl 2 rfl) ?_
  refine lv_aload_n hx hb dL_law_324 rfl (lv_at hl 3 rfl) ?_
  refine lv_iload_n hx hb dL_law_325 rfl (lv_at hl 0 rfl) ?_
  refine lv_iconst (v := 1) hx hb dL_law_326 (by decide) ?_
  refine lv_iadd hx hb dL_law_327 ?_
  refine lv_tope (z := 1) (by decide) ?_
  refine va_sld hx hb hX hbl hbA hS (vp_in_iff.mpr (by decide)) dL_law_328 ?_
  refine lv_tope (z := xs 1) rfl ?_
  refine lv_aload_n hx hb dL_law_329 rfl (lv_at hl 3 rfl) ?_
  refine lv_iload_n hx hb dL_law_330 rfl (lv_at hl 0 rfl) ?_
  refine lv_iconst (v := 2) hx hb dL_law_331 (by decide) ?_
  refine lv_iadd hx hb dL_law_332 ?_
  refine lv_tope (z := 2) (by decide) ?_
  refine va_sld hx hb hX hbl hbA hS (vp_in_iff.mpr (by decide)) dL_law_333 ?_
  refine lv_tope (z := xs 2) rfl ?_
  refine lv_aload_n hx hb dL_law_334 rfl (lv_at hl 3 rfl) ?_
  refine lv_iload_n hx hb dL_law_335 rfl (lv_at hl 0 rfl) ?_
  refine lv_iconst (v := 3) hx hb dL_law_336 (by decide) ?_
  refine lv_iadd hx hb dL_law_337 ?_
  refine lv_tope (z := 3) (by decide) ?_
  refine va_sld hx hb hX hbl hbA hS (vp_in_iff.mpr (by decide)) dL_law_338 ?_
  refine lv_tope (z := xs 3) rfl ?_
  refine bz_eq (zx := ((xs 3)).toInt) (tgt := 346) hx hb dL_law_339 (by decide) rfl (fun c_1 => ?_) (fun c_1 => ?_)
  · refine lv_iconst (v := 0) hx hb dL_law_346 (by decide) ?_
    refine vp_callSi (zrV (As := [.int (xs 1), .int (xs 2), .int 0]) (rest := []) (wc := [(q0, .inr (8, [.ref a1, .ref a2, .ref a3, .ref a4, .ref a5, .ref a6, .ref a7, .int 0, .int 0, .int 0, .int 50, .int 3, .int 0, .int 0]))]) ⟨hx, hb, hml, hown, hts⟩ hN hK hP hD (k_X8_tie l D q0 a1 a2 a3 a4 a5 a6 a7 ((xs 1)) ((xs 2)) 0 ) (cwV 3 hts gL_law_X8_tie rfl rfl rfl (by decide +kernel) ⟨(Nat.le_of_ble_eq_true rfl), (Nat.le_of_ble_eq_true rfl)⟩) [] [0] rfl rfl (by decide) 8 0 rfl rfl rfl hl.1 rfl (Nat.le_of_ble_eq_true rfl) dL_law_347 ⟨(Nat.le_of_ble_eq_true rfl), (Nat.le_of_ble_eq_true rfl)⟩) (fun r_2 h_3 => ?_)
    refine lv_aload_n hx hb dL_law_350 rfl (lv_at hl 1 rfl) ?_
    refine lv_aload_n hx hb dL_law_351 rfl (lv_at hl 3 rfl) ?_
    refine lv_iload_n hx hb dL_law_352 rfl (lv_at hl 0 rfl) ?_
    refine lv_iconst (v := 1) hx hb dL_law_353 (by decide) ?_
    refine lv_iadd hx hb dL_law_354 ?_
    refine lv_tope (z := 1) (by decide) ?_
    refine va_sld hx hb hX hbl hbA hS (vp_in_iff.mpr (by decide)) dL_law_355 ?_
    refine lv_tope (z := xs 1) rfl ?_
    refine lv_aload_n hx hb dL_law_356 rfl (lv_at hl 3 rfl) ?_
    refine lv_iload_n hx hb dL_law_357 rfl (lv_at hl 0 rfl) ?_
    refine lv_iconst (v := 2) hx hb dL_law_358 (by decide) ?_
    refine lv_iadd hx hb dL_law_359 ?_
    refine lv_tope (z := 2) (by decide) ?_
    refine va_sld hx hb hX hbl hbA hS (vp_in_iff.mpr (by decide)) dL_law_360 ?_
    refine lv_tope (z := xs 2) rfl ?_
    refine lv_aload_n hx hb dL_law_361 rfl (lv_at hl 3 rfl) ?_
    refine lv_iload_n hx hb dL_law_362 rfl (lv_at hl 0 rfl) ?_
    refine lv_iconst (v := 3) hx hb dL_law_363 (by decide) ?_
    refine lv_iadd hx hb dL_law_364 ?_
    refine lv_tope (z := 3) (by decide) ?_
    refine va_sld hx hb hX hbl hbA hS (vp_in_iff.mpr (by decide)) dL_law_365 ?_
    refine lv_tope (z := xs 3) rfl ?_
    refine bz_eq (zx := ((xs 3)).toInt) (tgt := 373) hx hb dL_law_366 (by decide) rfl (fun c_4 => ?_) (fun c_4 => ?_)
    · refine lv_iconst (v := 0) hx hb dL_law_373 (by decide) ?_
      refine vp_callSi (zrV (As := [.int (xs 1), .int (xs 2), .int 0]) (rest := [.int r_2]) (wc := [(h9, .inr (9, [.int 0, .int 0, .int 0, .int 0, .int 50, .int 3, .int 0, .ref b1, .ref b2, .ref b3, .ref b4, .ref b5, .ref b6, .ref b7, .ref b8, .ref b9, .ref b10, .ref b11, .ref b12, .ref b13, .ref b14, .ref b15, .ref b16, .ref b17, .ref b18, .int 0, .int 0, .int 0, .ref b19, .ref b20, .ref b21, .int 0, .ref b22, .ref b23, .int 0, .ref b24, .ref b25]))]) ⟨hx, hb, hml, hown, hts⟩ hN hK hP hD (k_X9_tie l D h9 b1 b2 b3 b4 b5 b6 b7 b8 b9 b10 b11 b12 b13 b14 b15 b16 b17 b18 b19 b20 b21 b22 b23 b24 b25 ((xs 1)) ((xs 2)) 0 ) (cwV 3 hts gL_law_X9_tie rfl rfl rfl (by decide +kernel) ⟨(Nat.le_of_ble_eq_true rfl), (Nat.le_of_ble_eq_true rfl)⟩) [] [1] rfl rfl (by decide) 9 0 rfl rfl rfl hl.1 rfl (Nat.le_of_ble_eq_true rfl) dL_law_374 ⟨(Nat.le_of_ble_eq_true rfl), (Nat.le_of_ble_eq_true rfl)⟩) (fun r_5 h_6 => ?_)
      refine lv_icmp_eq (tgt := 692) hx hb dL_law_377 (by decide) (fun _ => ?_) (fun c_ => absurd ((h_3).trans (h_6).symm) c_)
      exact law_tail hA hAf hx hb hr hlocks hX hbl hbA hS (lv_sub hl [0, 3] rfl) (Nat.le_of_ble_eq_true rfl) (Nat.le_of_ble_eq_true rfl)
    · refine lv_iconst (v := 1) hx hb dL_law_369 (by decide) ?_
      refine lv_goto (tgt := 374) hx hb dL_law_370 (by decide) ?_
      refine vp_callSi (zrV (As := [.int (xs 1), .int (xs 2), .int 1]) (rest := [.int r_2]) (wc := [(h9, .inr (9, [.int 0, .int 0, .int 0, .int 0, .int 50, .int 3, .int 0, .ref b1, .ref b2, .ref b3, .ref b4, .ref b5, .ref b6, .ref b7, .ref b8, .ref b9, .ref b10, .ref b11, .ref b12, .ref b13, .ref b14, .ref b15, .ref b16, .ref b17, .ref b18, .int 0, .int 0, .int 0, .ref b19, .ref b20, .ref b21, .int 0, .ref b22, .ref b23, .int 0, .ref b24, .ref b25]))]) ⟨hx, hb, hml, hown, hts⟩ hN hK hP hD (k_X9_tie l D h9 b1 b2 b3 b4 b5 b6 b7 b8 b9 b10 b11 b12 b13 b14 b15 b16 b17 b18 b19 b20 b21 b22 b23 b24 b25 ((xs 1)) ((xs 2)) 1 ) (cwV 3 hts gL_law_X9_tie rfl rfl rfl (by decide +kernel) ⟨(Nat.le_of_ble_eq_true rfl), (Nat.le_of_ble_eq_true rfl)⟩) [] [1] rfl rfl (by decide) 9 0 rfl rfl rfl hl.1 rfl (Nat.le_of_ble_eq_true rfl) dL_law_374 ⟨(Nat.le_of_ble_eq_true rfl), (Nat.le_of_ble_eq_true rfl)⟩) (fun r_7 h_8 => ?_)
      refine lv_icmp_eq (tgt := 692) hx hb dL_law_377 (by decide) (fun _ => ?_) (fun c_ => absurd ((h_3).trans (h_8).symm) c_)
      exact law_tail hA hAf hx hb hr hlocks hX hbl hbA hS (lv_sub hl [0, 3] rfl) (Nat.le_of_ble_eq_true rfl) (Nat.le_of_ble_eq_true rfl)
  · refine lv_iconst (v := 1) hx hb dL_law_342 (by decide) ?_
    refine lv_goto (tgt := 347) hx hb dL_law_343 (by decide) ?_
    refine vp_callSi (zrV (As := [.int (xs 1), .int (xs 2), .int 1]) (rest := []) (wc := [(q0, .inr (8, [.ref a1, .ref a2, .ref a3, .ref a4, .ref a5, .ref a6, .ref a7, .int 0, .int 0, .int 0, .int 50, .int 3, .int 0, .int 0]))]) ⟨hx, hb, hml, hown, hts⟩ hN hK hP hD (k_X8_tie l D q0 a1 a2 a3 a4 a5 a6 a7 ((xs 1)) ((xs 2)) 1 ) (cwV 3 hts gL_law_X8_tie rfl rfl rfl (by decide +kernel) ⟨(Nat.le_of_ble_eq_true rfl), (Nat.le_of_ble_eq_true rfl)⟩) [] [0] rfl rfl (by decide) 8 0 rfl rfl rfl hl.1 rfl (Nat.le_of_ble_eq_true rfl) dL_law_347 ⟨(Nat.le_of_ble_eq_true rfl), (Nat.le_of_ble_eq_true rfl)⟩) (fun r_9 h_10 => ?_)
    refine lv_aload_n hx hb dL_law_350 rfl (lv_at hl 1 rfl) ?_
    refine lv_aload_n hx hb dL_law_351 rfl (lv_at hl 3 rfl) ?_
    refine lv_iload_n hx hb dL_law_352 rfl (lv_at hl 0 rfl) ?_
    refine lv_iconst (v := 1) hx hb dL_law_353 (by decide) ?_
    refine lv_iadd hx hb dL_law_354 ?_
    refine lv_tope (z := 1) (by decide) ?_
    refine va_sld hx hb hX hbl hbA hS (vp_in_iff.mpr (by decide)) dL_law_355 ?_
    refine lv_tope (z := xs 1) rfl ?_
    refine lv_aload_n hx hb dL_law_356 rfl (lv_at hl 3 rfl) ?_
    refine lv_iload_n hx hb dL_law_357 rfl (lv_at hl 0 rfl) ?_
    refine lv_iconst (v := 2) hx hb dL_law_358 (by decide) ?_
    refine lv_iadd hx hb dL_law_359 ?_
    refine lv_tope (z := 2) (by decide) ?_
    refine va_sld hx hb hX hbl hbA hS (vp_in_iff.mpr (by decide)) dL_law_360 ?_
    refine lv_tope (z := xs 2) rfl ?_
    refine lv_aload_n hx hb dL_law_361 rfl (lv_at hl 3 rfl) ?_
    refine lv_iload_n hx hb dL_law_362 rfl (lv_at hl 0 rfl) ?_
    refine lv_iconst (v := 3) hx hb dL_law_363 (by decide) ?_
    refine lv_iadd hx hb dL_law_364 ?_
    refine lv_tope (z := 3) (by decide) ?_
    refine va_sld hx hb hX hbl hbA hS (vp_in_iff.mpr (by decide)) dL_law_365 ?_
    refine lv_tope (z := xs 3) rfl ?_
    refine bz_eq (zx := ((xs 3)).toInt) (tgt := 373) hx hb dL_law_366 (by decide) rfl (fun c_11 => ?_) (fun c_11 => ?_)
    · refine lv_iconst (v := 0) hx hb dL_law_373 (by decide) ?_
      refine vp_callSi (zrV (As := [.int (xs 1), .int (xs 2), .int 0]) (rest := [.int r_9]) (wc := [(h9, .inr (9, [.int 0, .int 0, .int 0, .int 0, .int 50, .int 3, .int 0, .ref b1, .ref b2, .ref b3, .ref b4, .ref b5, .ref b6, .ref b7, .ref b8, .ref b9, .ref b10, .ref b11, .ref b12, .ref b13, .ref b14, .ref b15, .ref b16, .ref b17, .ref b18, .int 0, .int 0, .int 0, .ref b19, .ref b20, .ref b21, .int 0, .ref b22, .ref b23, .int 0, .ref b24, .ref b25]))]) ⟨hx, hb, hml, hown, hts⟩ hN hK hP hD (k_X9_tie l D h9 b1 b2 b3 b4 b5 b6 b7 b8 b9 b10 b11 b12 b13 b14 b15 b16 b17 b18 b19 b20 b21 b22 b23 b24 b25 ((xs 1)) ((xs 2)) 0 ) (cwV 3 hts gL_law_X9_tie rfl rfl rfl (by decide +kernel) ⟨(Nat.le_of_ble_eq_true rfl), (Nat.le_of_ble_eq_true rfl)⟩) [] [1] rfl rfl (by decide) 9 0 rfl rfl rfl hl.1 rfl (Nat.le_of_ble_eq_true rfl) dL_law_374 ⟨(Nat.le_of_ble_eq_true rfl), (Nat.le_of_ble_eq_true rfl)⟩) (fun r_12 h_13 => ?_)
      refine lv_icmp_eq (tgt := 692) hx hb dL_law_377 (by decide) (fun _ => ?_) (fun c_ => absurd ((h_10).trans (h_13).symm) c_)
      exact law_tail hA hAf hx hb hr hlocks hX hbl hbA hS (lv_sub hl [0, 3] rfl) (Nat.le_of_ble_eq_true rfl) (Nat.le_of_ble_eq_true rfl)
    · refine lv_iconst (v := 1) hx hb dL_law_369 (by decide) ?_
      refine lv_goto (tgt := 374) hx hb dL_law_370 (by decide) ?_
      refine vp_callSi (zrV (As := [.int (xs 1), .int (xs 2), .int 1]) (rest := [.int r_9]) (wc := [(h9, .inr (9, [.int 0, .int 0, .int 0, .int 0, .int 50, .int 3, .int 0, .ref b1, .ref b2, .ref b3, .ref b4, .ref b5, .ref b6, .ref b7, .ref b8, .ref b9, .ref b10, .ref b11, .ref b12, .ref b13, .ref b14, .ref b15, .ref b16, .ref b17, .ref b18, .int 0, .int 0, .int 0, .ref b19, .ref b20, .ref b21, .int 0, .ref b22, .ref b23, .int 0, .ref b24, .ref b25]))]) ⟨hx, hb, hml, hown, hts⟩ hN hK hP hD (k_X9_tie l D h9 b1 b2 b3 b4 b5 b6 b7 b8 b9 b10 b11 b12 b13 b14 b15 b16 b17 b18 b19 b20 b21 b22 b23 b24 b25 ((xs 1)) ((xs 2)) 1 ) (cwV 3 hts gL_law_X9_tie rfl rfl rfl (by decide +kernel) ⟨(Nat.le_of_ble_eq_true rfl), (Nat.le_of_ble_eq_true rfl)⟩) [] [1] rfl rfl (by decide) 9 0 rfl rfl rfl hl.1 rfl (Nat.le_of_ble_eq_true rfl) dL_law_374 ⟨(Nat.le_of_ble_eq_true rfl), (Nat.le_of_ble_eq_true rfl)⟩) (fun r_14 h_15 => ?_)
      refine lv_icmp_eq (tgt := 692) hx hb dL_law_377 (by decide) (fun _ => ?_) (fun c_ => absurd ((h_10).trans (h_15).symm) c_)
      exact law_tail hA hAf hx hb hr hlocks hX hbl hbA hS (lv_sub hl [0, 3] rfl) (Nat.le_of_ble_eq_true rfl) (Nat.le_of_ble_eq_true rfl)
