set_option maxHeartbeats 4000000 in
set_option maxRecDepth 100000 in
theorem m_scoreOfK (l : Launch) (D : va_G) (h0 : Nat) (b1 : Nat) (b2 : Nat) (b3 : Nat) (b4 : Nat) (b5 : Nat) (b6 : Nat) (b7 : Nat) (b8 : Nat) (b9 : Nat) (b10 : Nat) (b11 : Nat) (b12 : Nat) (b13 : Nat) (b14 : Nat) (b15 : Nat) (b16 : Nat) (b17 : Nat) (b18 : Nat) (b19 : Nat) (b20 : Nat) (b21 : Nat) (b22 : Nat) (b23 : Nat) (b24 : Nat) (b25 : Nat) (now : Int32) (na : Int32) (nsi : Int32) (nti : Int32) (vc : Int32) (vn : Int32) (vt : Int32) (ct : Int32) (cs : Int32) (co : Int32) (nca : Int32) (ntm : Int32) (d19 : ClassId) (d20 : ClassId) (f19 : Nat → Int32) (f20 : Nat → Int32) (p0 : Int32) (V : Nat → Nat → Int) (Y : Nat → Nat → Int) (cc : Nat → Nat) (hna : 0 ≤ (na).toInt ∧ (na).toInt ≤ 200) (hcn : cnM f19 V (na).toInt.toNat cc (na).toInt.toNat) (hsm : scM f20 V (na).toInt.toNat (vn).toInt (na).toInt.toNat) (hlab : Lab (lvN V (na).toInt.toNat) (hgE V Y (na).toInt.toNat (nti).toInt.toNat) cc) (hp9 : 0 ≤ (p0).toInt ∧ (p0).toInt < (na).toInt) : Met l yX9_scoreOf wsX9_scoreOf ({ frames := 1, cells := 0, slots := 0, locals := 13 }) (va_Pc [.ref h0, .int p0] (wo D [(d19, .int), (d20, .int)] [oC h0 9 [.int now, .int na, .int nsi, .int nti, .int vc, .int vn, .int vt, .ref b1, .ref b2, .ref b3, .ref b4, .ref b5, .ref b6, .ref b7, .ref b8, .ref b9, .ref b10, .ref b11, .ref b12, .ref b13, .ref b14, .ref b15, .ref b16, .ref b17, .ref b18, .int ct, .int cs, .int co, .ref b19, .ref b20, .ref b21, .int nca, .ref b22, .ref b23, .int ntm, .ref b24, .ref b25], aI b19 d19 200 (f19), aI b20 d20 200 (f20)])) (vp_Si (fun r => (r).toInt = mxF (inC V cc (na).toInt.toNat (p0 : Int32).toNatClampNeg) (scI V (na).toInt.toNat (vn).toInt) (na).toInt.toNat)) 0 0 (fun _ => False) := by
  refine Met.ofW (cc := cX9_scoreOf) (maxL := 4) (ret := (some .int)) (by decide) rfl ?_
  intro p e s m args below meth c s₁ B hml hv
  obtain ⟨rfl, hP, hK, hD, hN⟩ := hv
  have hx := B.exec
  have hb := B.bytes
  have hr := B.returns
  have hts := atoms_spec (ws := wsX9_scoreOf) B.pre
  have hown : s.vm.findClass RX9 = some m.cls := findClass_of_methodNamed B.named
  have hlocks := B.notSynchronized
  have hl := lv_entry ([.ref h0, .int p0]) (n := 4) (Nat.le_of_ble_eq_true rfl)
  rw [lg_entry_eq]
  generalize (lg_sl ([.ref h0, .int p0]) ++ List.replicate (4 - (lg_sl ([.ref h0, .int p0])).length) Slot.unset).toArray = ls at hl ⊢
  have hl : lv_has ls 4 [(0, .ref h0), (1, .int p0)] := hl
  refine lv_iconst (v := 0) hx hb dX9_scoreOf_0 (by decide) ?_
  refine lv_istore_n (lv' := [(2, .int 0), (0, .ref h0), (1, .int p0)]) hx hb dX9_scoreOf_1 rfl hl (by decide) rfl (fun ls hl => ?_)
  refine lv_iload_n hx hb dX9_scoreOf_2 rfl (lv_at hl 2 rfl) ?_
  refine lv_istore_n (lv' := [(3, .int p0), (2, .int 0), (0, .ref h0), (1, .int p0)]) hx hb dX9_scoreOf_3 rfl hl (by decide) rfl (fun ls hl => ?_)
  refine mk_scoreOf hx hb hts hml hown hN hK hP hD ⟨(Nat.le_of_ble_eq_true rfl), (Nat.le_of_ble_eq_true rfl)⟩ ⟨(Nat.le_of_ble_eq_true rfl), (Nat.le_of_ble_eq_true rfl)⟩ hna hcn hsm hp9 (fun k_1 x_2 ls h_4 hl => ?_) _ _ _ _ (by omega) (by rw [mxF_low (C := inC V cc (na).toInt.toNat (p0 : Int32).toNatClampNeg) (p0 : Int32).toNatClampNeg (fun i hi => inC_low hlab hi)]; rfl) (Nat.lt_succ_self _) (lv_sub hl [0, 1, 2, 3] rfl)
  have h_4 : (x_2).toInt = mxF (inC V cc (na).toInt.toNat (p0 : Int32).toNatClampNeg) (scI V (na).toInt.toNat (vn).toInt) (na).toInt.toNat := h_4
  refine lv_iload_n hx hb dX9_scoreOf_39 rfl (lv_at hl 1 rfl) ?_
  exact W.iret (v := x_2) hx hb hr (fun t ht hW => ⟨x_2, rfl, h_4, ht⟩) (fun q h => by cases h) dX9_scoreOf_40
