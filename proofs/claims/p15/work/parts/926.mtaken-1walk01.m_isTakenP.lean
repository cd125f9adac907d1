set_option maxHeartbeats 4000000 in
set_option maxRecDepth 100000 in
theorem m_isTakenP (l : Launch) (D : va_G) (h0 : Nat) (b1 : Nat) (b2 : Nat) (b3 : Nat) (b4 : Nat) (b5 : Nat) (b6 : Nat) (b7 : Nat) (b8 : Nat) (b9 : Nat) (b10 : Nat) (b11 : Nat) (b12 : Nat) (b13 : Nat) (b14 : Nat) (b15 : Nat) (b16 : Nat) (b17 : Nat) (b18 : Nat) (b19 : Nat) (b20 : Nat) (b21 : Nat) (b22 : Nat) (b23 : Nat) (b24 : Nat) (b25 : Nat) (now : Int32) (na : Int32) (nsi : Int32) (nti : Int32) (vc : Int32) (vn : Int32) (vt : Int32) (ct : Int32) (cs : Int32) (co : Int32) (nca : Int32) (ntm : Int32) (d22 : ClassId) (f22 : Nat → Int32) (p0 : Int32) (tk : Nat → Nat) (htm : 0 ≤ (ntm).toInt ∧ (ntm).toInt ≤ 20) (hge : 0 ≤ (p0).toInt) (htk : oI f22 tk (ntm).toInt.toNat) : Met l yX9_isTaken wsX9_isTaken ({ frames := 0, cells := 0, slots := 0, locals := 0 }) (va_Pc [.ref h0, .int p0] (wo D [(d22, .int)] [oC h0 9 [.int now, .int na, .int nsi, .int nti, .int vc, .int vn, .int vt, .ref b1, .ref b2, .ref b3, .ref b4, .ref b5, .ref b6, .ref b7, .ref b8, .ref b9, .ref b10, .ref b11, .ref b12, .ref b13, .ref b14, .ref b15, .ref b16, .ref b17, .ref b18, .int ct, .int cs, .int co, .ref b19, .ref b20, .ref b21, .int nca, .ref b22, .ref b23, .int ntm, .ref b24, .ref b25], aI b22 d22 20 (f22)])) (vp_Si (fun r => ((inT tk (ntm).toInt.toNat (p0).toInt.toNat) ∧ (r).toInt = 1) ∨ ((¬ inT tk (ntm).toInt.toNat (p0).toInt.toNat) ∧ (r).toInt = 0))) 0 0 (fun _ => False) := by
  refine Met.ofW (cc := cX9_isTaken) (maxL := 3) (ret := (some .boolean)) (by decide) rfl ?_
  intro p e s m args below meth c s₁ B hml hv
  obtain ⟨rfl, hP, hK, hD, hN⟩ := hv
  have hx := B.exec
  have hb := B.bytes
  have hr := B.returns
  have hts := atoms_spec (ws := wsX9_isTaken) B.pre
  have hown : s.vm.findClass RX9 = some m.cls := findClass_of_methodNamed B.named
  have hlocks := B.notSynchronized
  have hl := lv_entry ([.ref h0, .int p0]) (n := 3) (Nat.le_of_ble_eq_true rfl)
  rw [lg_entry_eq]
  generalize (lg_sl ([.ref h0, .int p0]) ++ List.replicate (3 - (lg_sl ([.ref h0, .int p0])).length) Slot.unset).toArray = ls at hl ⊢
  have hl : lv_has ls 3 [(0, .ref h0), (1, .int p0)] := hl
  refine lv_iconst (v := 0) hx hb dX9_isTaken_0 (by decide) ?_
  refine lv_istore_n (lv' := [(2, .int 0), (0, .ref h0), (1, .int p0)]) hx hb dX9_isTaken_1 rfl hl (by decide) rfl (fun ls hl => ?_)
  refine mk_isTaken hx hb hts hml hown hN hK hP hD ⟨(Nat.le_of_ble_eq_true rfl), (Nat.le_of_ble_eq_true rfl)⟩ ⟨(Nat.le_of_ble_eq_true rfl), (Nat.le_of_ble_eq_true rfl)⟩ htm hge htk (fun k_1 ls h_3 hl => ?_) (fun k_4 ls h_6 hl => ?_) _ _ _ (by have h3 : (0 : Int32).toInt = 0 := rfl; omega) (by intro i hi; exact absurd hi (Nat.not_lt_zero _)) (Nat.lt_succ_self _) (lv_sub hl [0, 1, 2] rfl)
  · have h_3 : inT tk (ntm).toInt.toNat (p0).toInt.toNat := h_3
    refine lv_iconst (v := 1) hx hb dX9_isTaken_20 (by decide) ?_
    exact W.zret (v := 1) hx hb hr rfl (fun t ht hW => ⟨1, rfl, (Or.inl ⟨h_3, by decide⟩), ht⟩) (fun q h => by cases h) dX9_isTaken_21
  · have h_6 : ¬ inT tk (ntm).toInt.toNat (p0).toInt.toNat := h_6
    refine lv_iconst (v := 0) hx hb dX9_isTaken_28 (by decide) ?_
    exact W.zret (v := 0) hx hb hr rfl (fun t ht hW => ⟨0, rfl, (Or.inr ⟨h_6, by decide⟩), ht⟩) (fun q h => by cases h) dX9_isTaken_29
