set_option maxHeartbeats 4000000 in
set_option maxRecDepth 100000 in
theorem m_tieOfR (l : Launch) (D : va_G) (h0 : Nat) (b1 : Nat) (b2 : Nat) (b3 : Nat) (b4 : Nat) (b5 : Nat) (b6 : Nat) (b7 : Nat) (b8 : Nat) (b9 : Nat) (b10 : Nat) (b11 : Nat) (b12 : Nat) (b13 : Nat) (b14 : Nat) (b15 : Nat) (b16 : Nat) (b17 : Nat) (b18 : Nat) (b19 : Nat) (b20 : Nat) (b21 : Nat) (b22 : Nat) (b23 : Nat) (b24 : Nat) (b25 : Nat) (now : Int32) (na : Int32) (nsi : Int32) (nti : Int32) (vc : Int32) (vn : Int32) (vt : Int32) (ct : Int32) (cs : Int32) (co : Int32) (nca : Int32) (ntm : Int32) (d16 : ClassId) (d17 : ClassId) (f16 : Nat → Int32) (f17 : Nat → Int32) (p0 : Int32) (p1 : Int32) (hnt : 0 ≤ (nti).toInt ∧ (nti).toInt ≤ 60) : Met l yX9_tieOf wsX9_tieOf ({ frames := 0, cells := 0, slots := 0, locals := 0 }) (va_Pc [.ref h0, .int p0, .int p1] (wo D [(d16, .int), (d17, .int)] [oC h0 9 [.int now, .int na, .int nsi, .int nti, .int vc, .int vn, .int vt, .ref b1, .ref b2, .ref b3, .ref b4, .ref b5, .ref b6, .ref b7, .ref b8, .ref b9, .ref b10, .ref b11, .ref b12, .ref b13, .ref b14, .ref b15, .ref b16, .ref b17, .ref b18, .int ct, .int cs, .int co, .ref b19, .ref b20, .ref b21, .int nca, .ref b22, .ref b23, .int ntm, .ref b24, .ref b25], aI b16 d16 60 (f16), aI b17 d17 60 (f17)])) (vp_Si (fun r => ((r).toInt = -1 ∨ (0 ≤ (r).toInt ∧ (r).toInt < (nti).toInt)) ∧ toS f16 f17 (p0).toInt (p1).toInt (nti).toInt (r).toInt)) 0 0 (fun _ => False) := by
  refine Met.ofW (cc := cX9_tieOf) (maxL := 4) (ret := (some .int)) (by decide) rfl ?_
  intro p e s m args below meth c s₁ B hml hv
  obtain ⟨rfl, hP, hK, hD, hN⟩ := hv
  have hx := B.exec
  have hb := B.bytes
  have hr := B.returns
  have hts := atoms_spec (ws := wsX9_tieOf) B.pre
  have hown : s.vm.findClass RX9 = some m.cls := findClass_of_methodNamed B.named
  have hlocks := B.notSynchronized
  have hl := lv_entry ([.ref h0, .int p0, .int p1]) (n := 4) (Nat.le_of_ble_eq_true rfl)
  rw [lg_entry_eq]
  generalize (lg_sl ([.ref h0, .int p0, .int p1]) ++ List.replicate (4 - (lg_sl ([.ref h0, .int p0, .int p1])).length) Slot.unset).toArray = ls at hl ⊢
  have hl : lv_has ls 4 [(0, .ref h0), (1, .int p0), (2, .int p1)] := hl
  refine lv_iconst (v := 0) hx hb dX9_tieOf_0 (by decide) ?_
  refine lv_istore_n (lv' := [(3, .int 0), (0, .ref h0), (1, .int p0), (2, .int p1)]) hx hb dX9_tieOf_1 rfl hl (by decide) rfl (fun ls hl => ?_)
  refine mr_tieOf hx hb hts hml hown hN hK hP hD ⟨(Nat.le_of_ble_eq_true rfl), (Nat.le_of_ble_eq_true rfl)⟩ ⟨(Nat.le_of_ble_eq_true rfl), (Nat.le_of_ble_eq_true rfl)⟩ hnt (fun k_1 ls h_3 hl => ?_) (fun k_4 ls h_6 hl => ?_) _ _ _ (by decide) (fun i hi => absurd hi (by have h3 : (0 : Int32).toInt = 0 := rfl; omega)) (Nat.lt_succ_self _) (lv_sub hl [0, 1, 2, 3] rfl)
  · have h_3 : toS f16 f17 (p0).toInt (p1).toInt (nti).toInt (k_1).toInt := h_3
    refine lv_iload_n hx hb dX9_tieOf_50 rfl (lv_at hl 0 rfl) ?_
    exact W.iret (v := k_1) hx hb hr (fun t ht hW => ⟨k_1, rfl, ⟨h_3.elim (fun q => Or.inl q.1) (fun q => Or.inr q.1), h_3⟩, ht⟩) (fun q h => by cases h) dX9_tieOf_51
  · have h_6 : toS f16 f17 (p0).toInt (p1).toInt (nti).toInt (-1) := h_6
    refine lv_iconst (v := (-1)) hx hb dX9_tieOf_58 (by decide) ?_
    exact W.iret (v := (-1)) hx hb hr (fun t ht hW => ⟨(-1), rfl, ⟨Or.inl (by decide), (show toS f16 f17 (p0).toInt (p1).toInt (nti).toInt ((-1 : Int32).toInt) from h_6)⟩, ht⟩) (fun q h => by cases h) dX9_tieOf_59
