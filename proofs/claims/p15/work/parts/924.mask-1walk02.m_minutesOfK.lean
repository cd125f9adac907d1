set_option maxHeartbeats 4000000 in
set_option maxRecDepth 100000 in
theorem m_minutesOfK (l : Launch) (D : va_G) (h0 : Nat) (b1 : Nat) (b2 : Nat) (b3 : Nat) (b4 : Nat) (b5 : Nat) (b6 : Nat) (b7 : Nat) (b8 : Nat) (b9 : Nat) (b10 : Nat) (b11 : Nat) (b12 : Nat) (b13 : Nat) (b14 : Nat) (b15 : Nat) (b16 : Nat) (b17 : Nat) (b18 : Nat) (b19 : Nat) (b20 : Nat) (b21 : Nat) (b22 : Nat) (b23 : Nat) (b24 : Nat) (b25 : Nat) (now : Int32) (na : Int32) (nsi : Int32) (nti : Int32) (vc : Int32) (vn : Int32) (vt : Int32) (ct : Int32) (cs : Int32) (co : Int32) (nca : Int32) (ntm : Int32) (d19 : ClassId) (f19 : Nat → Int32) (p0 : Int32) (V : Nat → Nat → Int) (Y : Nat → Nat → Int) (cc : Nat → Nat) (hna : 0 ≤ (na).toInt ∧ (na).toInt ≤ 200) (hcn : cnM f19 V (na).toInt.toNat cc (na).toInt.toNat) (hlab : Lab (lvN V (na).toInt.toNat) (hgE V Y (na).toInt.toNat (nti).toInt.toNat) cc) (hp9 : 0 ≤ (p0).toInt ∧ (p0).toInt < (na).toInt) : Met l yX9_minutesOf wsX9_minutesOf ({ frames := 2, cells := 0, slots := 0, locals := 43 }) (va_Pc [.ref h0, .int p0] (wo D [(d19, .int)] [oC h0 9 [.int now, .int na, .int nsi, .int nti, .int vc, .int vn, .int vt, .ref b1, .ref b2, .ref b3, .ref b4, .ref b5, .ref b6, .ref b7, .ref b8, .ref b9, .ref b10, .ref b11, .ref b12, .ref b13, .ref b14, .ref b15, .ref b16, .ref b17, .ref b18, .int ct, .int cs, .int co, .ref b19, .ref b20, .ref b21, .int nca, .ref b22, .ref b23, .int ntm, .ref b24, .ref b25], aI b19 d19 200 (f19)])) (vp_Si (fun r => (r).toInt = 5 + 2 * ctF (inC V cc (na).toInt.toNat (p0 : Int32).toNatClampNeg) (na).toInt.toNat)) 0 0 (fun _ => False) := by
  refine Met.ofW (cc := cX9_minutesOf) (maxL := 2) (ret := (some .int)) (by decide) rfl ?_
  intro p e s m args below meth c s₁ B hml hv
  obtain ⟨rfl, hP, hK, hD, hN⟩ := hv
  have hx := B.exec
  have hb := B.bytes
  have hr := B.returns
  have hts := atoms_spec (ws := wsX9_minutesOf) B.pre
  have hown : s.vm.findClass RX9 = some m.cls := findClass_of_methodNamed B.named
  have hlocks := B.notSynchronized
  have hl := lv_entry ([.ref h0, .int p0]) (n := 2) (Nat.le_of_ble_eq_true rfl)
  rw [lg_entry_eq]
  generalize (lg_sl ([.ref h0, .int p0]) ++ List.replicate (2 - (lg_sl ([.ref h0, .int p0])).length) Slot.unset).toArray = ls at hl ⊢
  have hl : lv_has ls 2 [(0, .ref h0), (1, .int p0)] := hl
  refine lv_iconst (v := 5) hx hb dX9_minutesOf_0 (by decide) ?_
  refine lv_iconst (v := 2) hx hb dX9_minutesOf_1 (by decide) ?_
  refine lv_aload_n hx hb dX9_minutesOf_2 rfl (lv_at hl 0 rfl) ?_
  refine lv_iload_n hx hb dX9_minutesOf_3 rfl (lv_at hl 1 rfl) ?_
  refine vp_callSi (zrV (As := [.int p0]) (rest := [.int 2, .int 5]) (wc := [oC h0 9 [.int now, .int na, .int nsi, .int nti, .int vc, .int vn, .int vt, .ref b1, .ref b2, .ref b3, .ref b4, .ref b5, .ref b6, .ref b7, .ref b8, .ref b9, .ref b10, .ref b11, .ref b12, .ref b13, .ref b14, .ref b15, .ref b16, .ref b17, .ref b18, .int ct, .int cs, .int co, .ref b19, .ref b20, .ref b21, .int nca, .ref b22, .ref b23, .int ntm, .ref b24, .ref b25], aI b19 d19 200 (f19)]) ⟨hx, hb, hml, hown, hts⟩ hN hK hP hD (m_sizeOfK l D h0 b1 b2 b3 b4 b5 b6 b7 b8 b9 b10 b11 b12 b13 b14 b15 b16 b17 b18 b19 b20 b21 b22 b23 b24 b25 now na nsi nti vc vn vt ct cs co nca ntm d19 ((f19)) p0 V Y cc (by first | omega | assumption | decide) hcn hlab hp9) (cwV 1 hts gX9_minutesOf_X9_sizeOf rfl rfl rfl (by decide +kernel) ⟨(Nat.le_of_ble_eq_true rfl), (Nat.le_of_ble_eq_true rfl)⟩) [0] [0, 1] rfl rfl (by decide) 9 0 rfl rfl rfl hl.1 rfl (Nat.le_of_ble_eq_true rfl) dX9_minutesOf_4 ⟨(Nat.le_of_ble_eq_true rfl), (Nat.le_of_ble_eq_true rfl)⟩) (fun r_1 h_2 => ?_)
  have h_2 : (r_1).toInt = ctF (inC V cc (na).toInt.toNat (p0 : Int32).toNatClampNeg) (na).toInt.toNat := h_2
  refine lv_imul hx hb dX9_minutesOf_7 ?_
  refine lv_topi (fun z_3 ez_3 => ?_)
  have tz_3 := ml_toInt (zx := 2) (zy := (r_1).toInt) ez_3 (by decide) rfl
  refine lv_iadd hx hb dX9_minutesOf_8 ?_
  refine lv_topi (fun z_4 ez_4 => ?_)
  have tz_4 := ad_toInt (zx := 5) (zy := (z_3).toInt) ez_4 (by decide) rfl
  exact W.iret (v := z_4) hx hb hr (fun t ht hW => ⟨z_4, rfl, (by have h9 := ctF_rng (C := inC V cc (na).toInt.toNat (p0 : Int32).toNatClampNeg) (na).toInt.toNat; omega), ht⟩) (fun q h => by cases h) dX9_minutesOf_9
