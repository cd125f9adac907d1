set_option maxHeartbeats 4000000 in
set_option maxRecDepth 100000 in
theorem mk_sizeOf {p : Program} {l : Launch} {e : Env} {R : Room} {s : State} {m : MethodId} {args : Array Value} {below : List Frame} {meth : Method} {c : Code} {Q : State → Prop} {A : Nat → Prop} {cells slots : Nat} {D : va_G} {H : Heap} {locs : List Loc} {h0 : Nat} {b1 : Nat} {b2 : Nat} {b3 : Nat} {b4 : Nat} {b5 : Nat} {b6 : Nat} {b7 : Nat} {b8 : Nat} {b9 : Nat} {b10 : Nat} {b11 : Nat} {b12 : Nat} {b13 : Nat} {b14 : Nat} {b15 : Nat} {b16 : Nat} {b17 : Nat} {b18 : Nat} {b19 : Nat} {b20 : Nat} {b21 : Nat} {b22 : Nat} {b23 : Nat} {b24 : Nat} {b25 : Nat} {now : Int32} {na : Int32} {nsi : Int32} {nti : Int32} {vc : Int32} {vn : Int32} {vt : Int32} {ct : Int32} {cs : Int32} {co : Int32} {nca : Int32} {ntm : Int32} {d19 : ClassId} {f19 : Nat → Int32} {p0 : Int32} {V : Nat → Nat → Int} {cc : Nat → Nat} (hx : p.tables.exec = Jvm.exec) (hb : c.code = cX9_sizeOf) (hts : ∀ w ∈ wsX9_sizeOf, w.before args s = true) (hml : c.maxLocals = 4) (hown : s.vm.findClass RX9 = some m.cls) (hN : Nq s) (hK : va_K D vwCl [(d19, .int)] s) (hP : va_P D vwCl [oC h0 9 [.int now, .int na, .int nsi, .int nti, .int vc, .int vn, .int vt, .ref b1, .ref b2, .ref b3, .ref b4, .ref b5, .ref b6, .ref b7, .ref b8, .ref b9, .ref b10, .ref b11, .ref b12, .ref b13, .ref b14, .ref b15, .ref b16, .ref b17, .ref b18, .int ct, .int cs, .int co, .ref b19, .ref b20, .ref b21, .int nca, .ref b22, .ref b23, .int ntm, .ref b24, .ref b25], aI b19 d19 200 (f19)] H) (hD : va_D A [oC h0 9 [.int now, .int na, .int nsi, .int nti, .int vc, .int vn, .int vt, .ref b1, .ref b2, .ref b3, .ref b4, .ref b5, .ref b6, .ref b7, .ref b8, .ref b9, .ref b10, .ref b11, .ref b12, .ref b13, .ref b14, .ref b15, .ref b16, .ref b17, .ref b18, .int ct, .int cs, .int co, .ref b19, .ref b20, .ref b21, .int nca, .ref b22, .ref b23, .int ntm, .ref b24, .ref b25], aI b19 d19 200 (f19)]) (hR : 1 ≤ R.frames ∧ 20 ≤ R.locals) (hcs : cells ≤ R.cells ∧ slots ≤ R.slots) (hna : 0 ≤ (na).toInt ∧ (na).toInt ≤ 200) (hcn : cnM f19 V (na).toInt.toNat cc (na).toInt.toNat) (hp9 : 0 ≤ (p0).toInt ∧ (p0).toInt < (na).toInt) (done_39 : ∀ (k : Int32) (x : Int32) (ls : Array Slot), ((x).toInt = ctF (inC V cc (na).toInt.toNat (p0 : Int32).toNatClampNeg) (na).toInt.toNat) → lv_has ls 4 [(3, .int k), (2, .int x), (0, .ref h0), (1, .int p0)] → W p l e R s m args below meth c H locs cells slots Q (F0 m 39 ls [])) : ∀ (n : Nat), ∀ (k : Int32) (x : Int32) (ls : Array Slot), ((p0).toInt ≤ (k).toInt ∧ (k).toInt ≤ (na).toInt) → (0 ≤ (x).toInt ∧ (x).toInt ≤ (k).toInt) → ((x).toInt = ctF (inC V cc (na).toInt.toNat (p0 : Int32).toNatClampNeg) (k : Int32).toNatClampNeg) → ((200 - (k).toInt).toNat < n) → lv_has ls 4 [(3, .int k), (2, .int x), (0, .ref h0), (1, .int p0)] → W p l e R s m args below meth c H locs cells slots Q (F0 m 4 ls []) := by
  have hin_X9 : ∀ w ∈ u_ws RX9 TX9 37, w ∈ wsX9_sizeOf := fun w h => List.mem_cons_of_mem _ (List.mem_append_right _ (h))
  intro n
  induction n with
  | zero => intro k x ls hk hx0 hct hmu hl; exact absurd hmu (Nat.not_lt_zero _)
  | succ n ih =>
    intro k x ls hk hx0 hct hmu hl
    refine lv_iload_n hx hb dX9_sizeOf_4 rfl (lv_at hl 0 rfl) ?_
    refine lv_aload_n hx hb dX9_sizeOf_5 rfl (lv_at hl 2 rfl) ?_
    refine va_get (D := D) (ci := 9) (v := .int na) (C := RX9) (T := TX9) (N := 37) hx hb hts hin_X9 hown hK hP 0 rfl rfl 1 (by decide) (hts (.fieldLink RX9 93 "CryOrderModel" "alarms" "I") (List.mem_cons_of_mem _ (List.mem_append_left _ (List.mem_of_getElem? (i := 0) rfl)))) (fun _ h9 => h9) rfl dX9_sizeOf_6 ?_
    refine bi_ge (zx := (k).toInt) (zy := (na).toInt) (tgt := 39) hx hb dX9_sizeOf_9 (by decide) rfl rfl (fun c_1 => ?_) (fun c_1 => ?_)
    · exact done_39 _ _ _ (by rw [hct, show (k : Int32).toNatClampNeg = (na).toInt.toNat by have h9 := tnc_eq (i := k) (by omega); omega]) (lv_sub hl [0, 1, 2, 3] rfl)
    · have hqk := tnc_eq (i := k) (by omega)
      have hqp := tnc_eq (i := p0) (by omega)
      have hic := hcn.inC (m := (p0 : Int32).toNatClampNeg) (i := (k : Int32).toNatClampNeg) (by omega)
      refine lv_iload_n hx hb dX9_sizeOf_12 rfl (lv_at hl 1 rfl) ?_
      refine lv_aload_n hx hb dX9_sizeOf_13 rfl (lv_at hl 2 rfl) ?_
      refine va_get (D := D) (ci := 9) (v := .ref b19) (C := RX9) (T := TX9) (N := 37) hx hb hts hin_X9 hown hK hP 0 rfl rfl 28 (by decide) (hts (.fieldLink RX9 72 "CryOrderModel" "caseNumber" "[I") (List.mem_cons_of_mem _ (List.mem_append_left _ (List.mem_of_getElem? (i := 1) rfl)))) (fun _ h9 => h9) rfl dX9_sizeOf_14 ?_
      refine lv_iload_n hx hb dX9_sizeOf_17 rfl (lv_at hl 0 rfl) ?_
      refine va_iald hx hb hK hP 1 0 rfl rfl (vp_in_iff.mpr (by omega)) dX9_sizeOf_18 ?_
      refine lv_topi (fun z_2 ez_2 => ?_)
      have vz_2 : (z_2).toInt = (f19 (k : Int32).toNatClampNeg).toInt := by rw [ez_2]
      refine lv_iload_n hx hb dX9_sizeOf_19 rfl (lv_at hl 3 rfl) ?_
      refine bi_ne (zx := (z_2).toInt) (zy := (p0).toInt) (tgt := 27) hx hb dX9_sizeOf_20 (by decide) rfl rfl (fun c_3 => ?_) (fun c_3 => ?_)
      · refine lv_iconst (v := 0) hx hb dX9_sizeOf_27 (by decide) ?_
        refine vp_callSi (zrS (As := [.int 0]) (rest := [.int x]) (wc := []) ⟨hx, hb, hml, hown, hts⟩ hN hK hP hD (m_one0 l D  ) (va_cwS 1 hts gX9_sizeOf_X9_one rfl rfl rfl (by decide +kernel) ⟨Nat.le_trans (m := 1) (Nat.le_of_ble_eq_true rfl) hR.1, Nat.le_trans (m := 20) (Nat.le_of_ble_eq_true rfl) hR.2⟩) [] [] rfl rfl (by decide) rfl hl.1 rfl (Nat.le_of_ble_eq_true rfl) dX9_sizeOf_28 ⟨hcs.1, hcs.2⟩) (fun r_4 h_5 => ?_)
        subst h_5
        refine lv_iadd hx hb dX9_sizeOf_31 ?_
        refine lv_topi (fun z_6 ez_6 => ?_)
        have tz_6 := ad_toInt (zx := (x).toInt) (zy := 0) ez_6 rfl (by decide)
        refine lv_istore_n (lv' := [(2, .int z_6), (3, .int k), (0, .ref h0), (1, .int p0)]) hx hb dX9_sizeOf_32 rfl hl (by decide) rfl (fun ls hl => ?_)
        obtain ⟨x_7, ex_7⟩ : ∃ z : Int32, z = k + 1 := ⟨_, rfl⟩
        have tx_7 := ad_toInt (x := k) (y := 1) (z := x_7) (zx := (k).toInt) (zy := 1) ex_7 rfl (by decide)
        refine lv_iinc (v := x_7) (lv' := [(3, .int x_7), (2, .int z_6), (0, .ref h0), (1, .int p0)]) hx hb dX9_sizeOf_33 hl (k := 1) rfl (by rw [ex_7]; rfl) (by decide) rfl (fun ls hl => ?_)
        refine lv_goto (tgt := 4) hx hb dX9_sizeOf_36 (by decide) ?_
        exact ih _ _ _ (by omega) (by omega) (ctM hct (by have h8 := tnc_eq (i := x_7) (by omega); omega) (Or.inr ⟨fun q9 => by have h9 := hic.mp q9; omega, by omega⟩)) (by omega) (lv_sub hl [0, 1, 2, 3] rfl)
      · refine lv_iconst (v := 1) hx hb dX9_sizeOf_23 (by decide) ?_
        refine lv_goto (tgt := 28) hx hb dX9_sizeOf_24 (by decide) ?_
        refine vp_callSi (zrS (As := [.int 1]) (rest := [.int x]) (wc := []) ⟨hx, hb, hml, hown, hts⟩ hN hK hP hD (m_one1 l D  ) (va_cwS 1 hts gX9_sizeOf_X9_one rfl rfl rfl (by decide +kernel) ⟨Nat.le_trans (m := 1) (Nat.le_of_ble_eq_true rfl) hR.1, Nat.le_trans (m := 20) (Nat.le_of_ble_eq_true rfl) hR.2⟩) [] [] rfl rfl (by decide) rfl hl.1 rfl (Nat.le_of_ble_eq_true rfl) dX9_sizeOf_28 ⟨hcs.1, hcs.2⟩) (fun r_8 h_9 => ?_)
        subst h_9
        refine lv_iadd hx hb dX9_sizeOf_31 ?_
        refine lv_topi (fun z_10 ez_10 => ?_)
        have tz_10 := ad_toInt (zx := (x).toInt) (zy := 1) ez_10 rfl (by decide)
        refine lv_istore_n (lv' := [(2, .int z_10), (3, .int k), (0, .ref h0), (1, .int p0)]) hx hb dX9_sizeOf_32 rfl hl (by decide) rfl (fun ls hl => ?_)
        obtain ⟨x_11, ex_11⟩ : ∃ z : Int32, z = k + 1 := ⟨_, rfl⟩
        have tx_11 := ad_toInt (x := k) (y := 1) (z := x_11) (zx := (k).toInt) (zy := 1) ex_11 rfl (by decide)
        refine lv_iinc (v := x_11) (lv' := [(3, .int x_11), (2, .int z_10), (0, .ref h0), (1, .int p0)]) hx hb dX9_sizeOf_33 hl (k := 1) rfl (by rw [ex_11]; rfl) (by decide) rfl (fun ls hl => ?_)
        refine lv_goto (tgt := 4) hx hb dX9_sizeOf_36 (by decide) ?_
        exact ih _ _ _ (by omega) (by omega) (ctM hct (by have h8 := tnc_eq (i := x_11) (by omega); omega) (Or.inl ⟨hic.mpr (by omega), by omega⟩)) (by omega) (lv_sub hl [0, 1, 2, 3] rfl)
