set_option maxHeartbeats 4000000 in
set_option maxRecDepth 100000 in
theorem m_source (l : Launch) (D : va_G) (h0 : Nat) (b1 : Nat) (b2 : Nat) (b3 : Nat) (b4 : Nat) (b5 : Nat) (b6 : Nat) (b7 : Nat) (b8 : Nat) (b9 : Nat) (b10 : Nat) (b11 : Nat) (b12 : Nat) (b13 : Nat) (b14 : Nat) (b15 : Nat) (b16 : Nat) (b17 : Nat) (b18 : Nat) (b19 : Nat) (b20 : Nat) (b21 : Nat) (b22 : Nat) (b23 : Nat) (b24 : Nat) (b25 : Nat) (now : Int32) (na : Int32) (nsi : Int32) (nti : Int32) (vc : Int32) (vn : Int32) (vt : Int32) (ct : Int32) (cs : Int32) (co : Int32) (nca : Int32) (ntm : Int32) (d3 : ClassId) (d11 : ClassId) (d12 : ClassId) (d7 : ClassId) (d8 : ClassId) (f3 : Nat → Int32) (f11 : Nat → Int32) (f12 : Nat → Int32) (f7 : Nat → Int32) (f8 : Nat → Int32) (p0 : Int32) (p1 : Int32) (hna : 0 ≤ (na).toInt ∧ (na).toInt ≤ 200) : Met l yX9_source wsX9_source ({ frames := 1, cells := 0, slots := 0, locals := 22 }) (va_Pc [.ref h0, .int p0, .int p1] (wo D [(d3, .int), (d11, .boolean), (d12, .boolean), (d7, .int), (d8, .int)] [oC h0 9 [.int now, .int na, .int nsi, .int nti, .int vc, .int vn, .int vt, .ref b1, .ref b2, .ref b3, .ref b4, .ref b5, .ref b6, .ref b7, .ref b8, .ref b9, .ref b10, .ref b11, .ref b12, .ref b13, .ref b14, .ref b15, .ref b16, .ref b17, .ref b18, .int ct, .int cs, .int co, .ref b19, .ref b20, .ref b21, .int nca, .ref b22, .ref b23, .int ntm, .ref b24, .ref b25], aI b3 d3 200 (f3), aI b11 d11 200 (f11), aI b12 d12 200 (f12), aI b7 d7 200 (f7), aI b8 d8 200 (f8)])) (vp_Si (fun r => True)) 0 0 (fun _ => False) := by
  refine Met.ofW (cc := cX9_source) (maxL := 6) (ret := (some .int)) (by decide) rfl ?_
  intro p e s m args below meth c s₁ B hml hv
  obtain ⟨rfl, hP, hK, hD, hN⟩ := hv
  have hx := B.exec
  have hb := B.bytes
  have hr := B.returns
  have hts := atoms_spec (ws := wsX9_source) B.pre
  have hown : s.vm.findClass RX9 = some m.cls := findClass_of_methodNamed B.named
  have hlocks := B.notSynchronized
  have hl := lv_entry ([.ref h0, .int p0, .int p1]) (n := 6) (Nat.le_of_ble_eq_true rfl)
  rw [lg_entry_eq]
  generalize (lg_sl ([.ref h0, .int p0, .int p1]) ++ List.replicate (6 - (lg_sl ([.ref h0, .int p0, .int p1])).length) Slot.unset).toArray = ls at hl ⊢
  have hl : lv_has ls 6 [(0, .ref h0), (1, .int p0), (2, .int p1)] := hl
  refine lv_iload_n hx hb dX9_source_0 rfl (lv_at hl 1 rfl) ?_
  refine lv_iconst (v := 0) hx hb dX9_source_1 (by decide) ?_
  refine lv_bipush (v := 9) hx hb dX9_source_2 (by decide) ?_
  refine vp_callSi (zrS (As := [.int p0, .int 0, .int 9]) (rest := []) (wc := []) ⟨hx, hb, hml, hown, hts⟩ hN hK hP hD (m_isIn l D p0 0 9 ) (va_cwS 3 hts gX9_source_X9_isIn rfl rfl rfl (by decide +kernel) ⟨(Nat.le_of_ble_eq_true rfl), (Nat.le_of_ble_eq_true rfl)⟩) [] [] rfl rfl (by decide) rfl hl.1 rfl (Nat.le_of_ble_eq_true rfl) dX9_source_4 ⟨(Nat.le_of_ble_eq_true rfl), (Nat.le_of_ble_eq_true rfl)⟩) (fun r_1 h_2 => ?_)
  rcases h_2 with ⟨h_2, rfl⟩ | ⟨h_2, rfl⟩
  · have h_2 : 0 ≤ (p0).toInt ∧ (p0).toInt ≤ 9 := h_2
    refine lv_if_eq (tgt := 20) hx hb dX9_source_7 (by decide) (fun c_ => absurd c_ (by decide)) (fun _ => ?_)
    refine lv_iload_n hx hb dX9_source_10 rfl (lv_at hl 2 rfl) ?_
    refine lv_iconst (v := 0) hx hb dX9_source_11 (by decide) ?_
    refine lv_bipush (v := 6) hx hb dX9_source_12 (by decide) ?_
    refine vp_callSi (zrS (As := [.int p1, .int 0, .int 6]) (rest := []) (wc := []) ⟨hx, hb, hml, hown, hts⟩ hN hK hP hD (m_isIn l D p1 0 6 ) (va_cwS 3 hts gX9_source_X9_isIn rfl rfl rfl (by decide +kernel) ⟨(Nat.le_of_ble_eq_true rfl), (Nat.le_of_ble_eq_true rfl)⟩) [] [] rfl rfl (by decide) rfl hl.1 rfl (Nat.le_of_ble_eq_true rfl) dX9_source_14 ⟨(Nat.le_of_ble_eq_true rfl), (Nat.le_of_ble_eq_true rfl)⟩) (fun r_3 h_4 => ?_)
    rcases h_4 with ⟨h_4, rfl⟩ | ⟨h_4, rfl⟩
    · have h_4 : 0 ≤ (p1).toInt ∧ (p1).toInt ≤ 6 := h_4
      refine lv_if_ne (tgt := 22) hx hb dX9_source_17 (by decide) (fun _ => ?_) (fun c_ => absurd c_ (by decide))
      refine lv_iconst (v := 0) hx hb dX9_source_22 (by decide) ?_
      refine lv_istore_n (lv' := [(3, .int 0), (0, .ref h0), (1, .int p0), (2, .int p1)]) hx hb dX9_source_23 rfl hl (by decide) rfl (fun ls hl => ?_)
      refine lv_iconst (v := 0) hx hb dX9_source_24 (by decide) ?_
      refine lv_istore (lv' := [(4, .int 0), (3, .int 0), (0, .ref h0), (1, .int p0), (2, .int p1)]) hx hb dX9_source_25 hl (by decide) rfl (fun ls hl => ?_)
      refine ml_source hx hb hts hml hown hN hK hP hD ⟨(Nat.le_of_ble_eq_true rfl), (Nat.le_of_ble_eq_true rfl)⟩ ⟨(Nat.le_of_ble_eq_true rfl), (Nat.le_of_ble_eq_true rfl)⟩ hna (fun k_5 x_6 ls  hl => ?_) _ _ _ _ (by decide) (Nat.lt_succ_self _) (lv_sub hl [0, 1, 2, 3, 4] rfl)
      refine lv_iload_n hx hb dX9_source_197 rfl (lv_at hl 1 rfl) ?_
      exact W.iret (v := x_6) hx hb hr (fun t ht hW => ⟨x_6, rfl, trivial, ht⟩) (fun q h => by cases h) dX9_source_198
    · have h_4 : (p1).toInt < 0 ∨ 6 < (p1).toInt := h_4
      refine lv_if_ne (tgt := 22) hx hb dX9_source_17 (by decide) (fun c_ => absurd c_ (by decide)) (fun _ => ?_)
      refine lv_iconst (v := (-1)) hx hb dX9_source_20 (by decide) ?_
      exact W.iret (v := (-1)) hx hb hr (fun t ht hW => ⟨(-1), rfl, trivial, ht⟩) (fun q h => by cases h) dX9_source_21
  · have h_2 : (p0).toInt < 0 ∨ 9 < (p0).toInt := h_2
    refine lv_if_eq (tgt := 20) hx hb dX9_source_7 (by decide) (fun _ => ?_) (fun c_ => absurd c_ (by decide))
    refine lv_iconst (v := (-1)) hx hb dX9_source_20 (by decide) ?_
    exact W.iret (v := (-1)) hx hb hr (fun t ht hW => ⟨(-1), rfl, trivial, ht⟩) (fun q h => by cases h) dX9_source_21
