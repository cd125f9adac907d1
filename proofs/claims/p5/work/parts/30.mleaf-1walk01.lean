set_option maxHeartbeats 4000000 in
set_option maxRecDepth 100000 in
theorem m_tieOf (l : Launch) (D : va_G) (h0 : Nat) (b1 : Nat) (b2 : Nat) (b3 : Nat) (b4 : Nat) (b5 : Nat) (b6 : Nat) (b7 : Nat) (b8 : Nat) (b9 : Nat) (b10 : Nat) (b11 : Nat) (b12 : Nat) (b13 : Nat) (b14 : Nat) (b15 : Nat) (b16 : Nat) (b17 : Nat) (b18 : Nat) (b19 : Nat) (b20 : Nat) (b21 : Nat) (b22 : Nat) (b23 : Nat) (b24 : Nat) (b25 : Nat) (now : Int32) (na : Int32) (nsi : Int32) (nti : Int32) (vc : Int32) (vn : Int32) (vt : Int32) (ct : Int32) (cs : Int32) (co : Int32) (nca : Int32) (ntm : Int32) (d16 : ClassId) (d17 : ClassId) (f16 : Nat → Int32) (f17 : Nat → Int32) (p0 : Int32) (p1 : Int32) (hnt : 0 ≤ (nti).toInt ∧ (nti).toInt ≤ 60) : Met l yX9_tieOf wsX9_tieOf ({ frames := 0, cells := 0, slots := 0, locals := 0 }) (va_Pc [.ref h0, .int p0, .int p1] (wo D [(d16, .int), (d17, .int)] [oC h0 9 [.int now, .int na, .int nsi, .int nti, .int vc, .int vn, .int vt, .ref b1, .ref b2, .ref b3, .ref b4, .ref b5, .ref b6, .ref b7, .ref b8, .ref b9, .ref b10, .ref b11, .ref b12, .ref b13, .ref b14, .ref b15, .ref b16, .ref b17, .ref b18, .int ct, .int cs, .int co, .ref b19, .ref b20, .ref b21, .int nca, .ref b22, .ref b23, .int ntm, .ref b24, .ref b25], aI b16 d16 60 (f16), aI b17 d17 60 (f17)])) (vp_Si (fun r => (r).toInt = -1 ∨ (0 ≤ (r).toInt ∧ (r).toInt < (nti).toInt))) 0 0 (fun _ => False) := by
  refine Met.ofW (cc := cX9_tieOf) (maxL := 4) (ret := (some .int)) (by decide) rfl ?_
  intro p e s m args below meth c s₁ B hml hv
  obtain ⟨rfl, hP, hK, hD, hN⟩ := hv
  have hx := B.exec
  have hb := B.bytes
  have hr := B.returns
  have hts := atoms_spec (ws := wsX9_tieOf) B.pre
  have hown : s.vm.findClass RX9 = some m.cls := findClass_of_methodNamed B.named
  have hlocks := B.notSynchronized
  have hl := lv_entry ([.ref h0, .int p0, .int p1]) (n := 4) (Nat.le_of_ble_eq_true rfl)
  rw [lg_entry_eq]
  generalize (lg_sl ([.ref h0, .int p0, .int p1]) ++ List.replicate (4 - (lg_sl ([.ref h0, .int p0, .int p1])).length) Slot.unset).toArray = ls at hl ⊢
  have hl : lv_has ls 4 [(0, .ref h0), (1, .int p0), (2, .int p1)] := hl
  refine lv_iconst (v := 0) hx hb dX9_tieOf_0 (by decide) ?_
  refine lv_istore_n (lv' := [(3, .int 0), (0, .ref h0), (1, .int p0), (2, .int p1)]) hx hb dX9_tieOf_1 rfl hl (by decide) rfl (fun ls hl => ?_)
  refine ml_tieOf hx hb hts hml hown hN hK hP hD ⟨(Nat.le_of_ble_eq_true rfl), (Nat.le_of_ble_eq_true rfl)⟩ ⟨(Nat.le_of_ble_eq_true rfl), (Nat.le_of_ble_eq_true rfl)⟩ hnt (fun k_1 ls h_3 hl => ?_) (fun k_4 ls  hl => ?_) _ _ _ (by decide) (Nat.lt_succ_self _) (lv_sub hl [0, 1, 2, 3] rfl)
  · have h_3 : 0 ≤ (k_1).toInt ∧ (k_1).toInt < (nti).toInt := h_3
    refine lv_iload_n hx hb dX9_tieOf_50 rfl (lv_at hl 0 rfl) ?_
    exact W.iret (v := k_1) hx hb hr (fun t ht hW => ⟨k_1, rfl, Or.inr (by omega), ht⟩) (fun q h => by cases h) dX9_tieOf_51
  · refine lv_iconst (v := (-1)) hx hb dX9_tieOf_58 (by decide) ?_
    exact W.iret (v := (-1)) hx hb hr (fun t ht hW => ⟨(-1), rfl, Or.inl (by decide), ht⟩) (fun q h => by cases h) dX9_tieOf_59

set_option maxHeartbeats 4000000 in
set_option maxRecDepth 100000 in
theorem ml_many {p : Program} {l : Launch} {e : Env} {R : Room} {s : State} {m : MethodId} {args : Array Value} {below : List Frame} {meth : Method} {c : Code} {Q : State → Prop} {A : Nat → Prop} {cells slots : Nat} {D : va_G} {H : Heap} {locs : List Loc} {p0 : Int32} (hx : p.tables.exec = Jvm.exec) (hb : c.code = cX9_many) (hts : ∀ w ∈ wsX9_many, w.before args s = true) (hml : c.maxLocals = 3) (hown : s.vm.findClass RX9 = some m.cls) (hN : Nq s) (hK : va_K D vwCl [] s) (hP : va_P D vwCl [] H) (hD : va_D A []) (hR : 0 ≤ R.frames ∧ 0 ≤ R.locals) (hcs : cells ≤ R.cells ∧ slots ≤ R.slots) (done_21 : ∀ (v : Int32) (x : Int32) (ls : Array Slot), lv_has ls 3 [(2, .int v), (1, .int x), (0, .int p0)] → W p l e R s m args below meth c H locs cells slots Q (F0 m 21 ls [])) : ∀ (n : Nat), ∀ (v : Int32) (x : Int32) (ls : Array Slot), (((v).toInt).toNat < n) → lv_has ls 3 [(2, .int v), (1, .int x), (0, .int p0)] → W p l e R s m args below meth c H locs cells slots Q (F0 m 4 ls []) := by
  intro n
  induction n with
  | zero => intro v x ls  hmu hl; exact absurd hmu (Nat.not_lt_zero _)
  | succ n ih =>
    intro v x ls  hmu hl
    refine lv_iload_n hx hb dX9_many_4 rfl (lv_at hl 0 rfl) ?_
    refine bz_le (zx := (v).toInt) (tgt := 21) hx hb dX9_many_5 (by decide) rfl (fun c_1 => ?_) (fun c_1 => ?_)
    · exact done_21 _ _ _  (lv_sub hl [0, 1, 2] rfl)
    · refine lv_iload_n hx hb dX9_many_8 rfl (lv_at hl 1 rfl) ?_
      refine lv_iload_n hx hb dX9_many_9 rfl (lv_at hl 0 rfl) ?_
      refine lv_iconst (v := 1) hx hb dX9_many_10 (by decide) ?_
      refine lv_iand hx hb dX9_many_11 ?_
      refine lv_topi (fun z_2 ez_2 => ?_)
      have tz_2 := an1_toInt ez_2
      refine lv_iadd hx hb dX9_many_12 ?_
      refine lv_topi (fun z_3 ez_3 => ?_)
      have tz_3 := ad_toInt (zx := (x).toInt) (zy := (z_2).toInt) ez_3 rfl rfl
      refine lv_istore_n (lv' := [(1, .int z_3), (2, .int v), (0, .int p0)]) hx hb dX9_many_13 rfl hl (by decide) rfl (fun ls hl => ?_)
      refine lv_iload_n hx hb dX9_many_14 rfl (lv_at hl 1 rfl) ?_
      refine lv_iconst (v := 1) hx hb dX9_many_15 (by decide) ?_
      refine lv_ishr hx hb dX9_many_16 ?_
      refine lv_topi (fun z_4 ez_4 => ?_)
      have tz_4 := sh1_toInt ez_4
      refine lv_istore_n (lv' := [(2, .int z_4), (1, .int z_3), (0, .int p0)]) hx hb dX9_many_17 rfl hl (by decide) rfl (fun ls hl => ?_)
      refine lv_goto (tgt := 4) hx hb dX9_many_18 (by decide) ?_
      exact ih _ _ _  (by omega) (lv_sub hl [0, 1, 2] rfl)

set_option maxHeartbeats 4000000 in
set_option maxRecDepth 100000 in
theorem m_many (l : Launch) (D : va_G) (p0 : Int32) : Met l yX9_many wsX9_many ({ frames := 0, cells := 0, slots := 0, locals := 0 }) (va_Pc [.int p0] (wo D [] [])) (vp_Si (fun r => True)) 0 0 (fun _ => False) := by
  refine Met.ofW (cc := cX9_many) (maxL := 3) (ret := (some .int)) (by decide) rfl ?_
  intro p e s m args below meth c s₁ B hml hv
  obtain ⟨rfl, hP, hK, hD, hN⟩ := hv
  have hx := B.exec
  have hb := B.bytes
  have hr := B.returns
  have hts := atoms_spec (ws := wsX9_many) B.pre
  have hown : s.vm.findClass RX9 = some m.cls := findClass_of_methodNamed B.named
  have hlocks := B.notSynchronized
  have hl := lv_entry ([.int p0]) (n := 3) (Nat.le_of_ble_eq_true rfl)
  rw [lg_entry_eq]
  generalize (lg_sl ([.int p0]) ++ List.replicate (3 - (lg_sl ([.int p0])).length) Slot.unset).toArray = ls at hl ⊢
  have hl : lv_has ls 3 [(0, .int p0)] := hl
  refine lv_iconst (v := 0) hx hb dX9_many_0 (by decide) ?_
  refine lv_istore_n (lv' := [(1, .int 0), (0, .int p0)]) hx hb dX9_many_1 rfl hl (by decide) rfl (fun ls hl => ?_)
  refine lv_iload_n hx hb dX9_many_2 rfl (lv_at hl 1 rfl) ?_
  refine lv_istore_n (lv' := [(2, .int p0), (1, .int 0), (0, .int p0)]) hx hb dX9_many_3 rfl hl (by decide) rfl (fun ls hl => ?_)
  refine ml_many hx hb hts hml hown hN hK hP hD ⟨(Nat.le_of_ble_eq_true rfl), (Nat.le_of_ble_eq_true rfl)⟩ ⟨(Nat.le_of_ble_eq_true rfl), (Nat.le_of_ble_eq_true rfl)⟩  (fun v_1 x_2 ls  hl => ?_) _ _ _ _  (Nat.lt_succ_self _) (lv_sub hl [0, 1, 2] rfl)
  refine lv_iload_n hx hb dX9_many_21 rfl (lv_at hl 1 rfl) ?_
  exact W.iret (v := x_2) hx hb hr (fun t ht hW => ⟨x_2, rfl, trivial, ht⟩) (fun q h => by cases h) dX9_many_22

set_option maxHeartbeats 4000000 in
set_option maxRecDepth 100000 in
theorem ml_isTaken {p : Program} {l : Launch} {e : Env} {R : Room} {s : State} {m : MethodId} {args : Array Value} {below : List Frame} {meth : Method} {c : Code} {Q : State → Prop} {A : Nat → Prop} {cells slots : Nat} {D : va_G} {H : Heap} {locs : List Loc} {h0 : Nat} {b1 : Nat} {b2 : Nat} {b3 : Nat} {b4 : Nat} {b5 : Nat} {b6 : Nat} {b7 : Nat} {b8 : Nat} {b9 : Nat} {b10 : Nat} {b11 : Nat} {b12 : Nat} {b13 : Nat} {b14 : Nat} {b15 : Nat} {b16 : Nat} {b17 : Nat} {b18 : Nat} {b19 : Nat} {b20 : Nat} {b21 : Nat} {b22 : Nat} {b23 : Nat} {b24 : Nat} {b25 : Nat} {now : Int32} {na : Int32} {nsi : Int32} {nti : Int32} {vc : Int32} {vn : Int32} {vt : Int32} {ct : Int32} {cs : Int32} {co : Int32} {nca : Int32} {ntm : Int32} {d22 : ClassId} {f22 : Nat → Int32} {p0 : Int32} (hx : p.tables.exec = Jvm.exec) (hb : c.code = cX9_isTaken) (hts : ∀ w ∈ wsX9_isTaken, w.before args s = true) (hml : c.maxLocals = 3) (hown : s.vm.findClass RX9 = some m.cls) (hN : Nq s) (hK : va_K D vwCl [(d22, .int)] s) (hP : va_P D vwCl [oC h0 9 [.int now, .int na, .int nsi, .int nti, .int vc, .int vn, .int vt, .ref b1, .ref b2, .ref b3, .ref b4, .ref b5, .ref b6, .ref b7, .ref b8, .ref b9, .ref b10, .ref b11, .ref b12, .ref b13, .ref b14, .ref b15, .ref b16, .ref b17, .ref b18, .int ct, .int cs, .int co, .ref b19, .ref b20, .ref b21, .int nca, .ref b22, .ref b23, .int ntm, .ref b24, .ref b25], aI b22 d22 20 (f22)] H) (hD : va_D A [oC h0 9 [.int now, .int na, .int nsi, .int nti, .int vc, .int vn, .int vt, .ref b1, .ref b2, .ref b3, .ref b4, .ref b5, .ref b6, .ref b7, .ref b8, .ref b9, .ref b10, .ref b11, .ref b12, .ref b13, .ref b14, .ref b15, .ref b16, .ref b17, .ref b18, .int ct, .int cs, .int co, .ref b19, .ref b20, .ref b21, .int nca, .ref b22, .ref b23, .int ntm, .ref b24, .ref b25], aI b22 d22 20 (f22)]) (hR : 0 ≤ R.frames ∧ 0 ≤ R.locals) (hcs : cells ≤ R.cells ∧ slots ≤ R.slots) (htm : 0 ≤ (ntm).toInt ∧ (ntm).toInt ≤ 20) (done_20 : ∀ (k : Int32) (ls : Array Slot), lv_has ls 3 [(2, .int k), (0, .ref h0), (1, .int p0)] → W p l e R s m args below meth c H locs cells slots Q (F0 m 20 ls [])) (done_28 : ∀ (k : Int32) (ls : Array Slot), lv_has ls 3 [(2, .int k), (0, .ref h0), (1, .int p0)] → W p l e R s m args below meth c H locs cells slots Q (F0 m 28 ls [])) : ∀ (n : Nat), ∀ (k : Int32) (ls : Array Slot), (0 ≤ (k).toInt ∧ (k).toInt ≤ 20) → ((20 - (k).toInt).toNat < n) → lv_has ls 3 [(2, .int k), (0, .ref h0), (1, .int p0)] → W p l e R s m args below meth c H locs cells slots Q (F0 m 2 ls []) := by
  have hin_X9 : ∀ w ∈ u_ws RX9 TX9 37, w ∈ wsX9_isTaken := fun w h => List.mem_cons_of_mem _ (List.mem_append_right _ (h))
  intro n
  induction n with
  | zero => intro k ls hk hmu hl; exact absurd hmu (Nat.not_lt_zero _)
  | succ n ih =>
    intro k ls hk hmu hl
    refine lv_iload_n hx hb dX9_isTaken_2 rfl (lv_at hl 0 rfl) ?_
    refine lv_aload_n hx hb dX9_isTaken_3 rfl (lv_at hl 1 rfl) ?_
    refine va_get (D := D) (ci := 9) (v := .int ntm) (C := RX9) (T := TX9) (N := 37) hx hb hts hin_X9 hown hK hP 0 rfl rfl 34 (by decide) (hts (.fieldLink RX9 183 "CryOrderModel" "takenMany" "I") (List.mem_cons_of_mem _ (List.mem_append_left _ (List.mem_of_getElem? (i := 0) rfl)))) (fun _ h9 => h9) rfl dX9_isTaken_4 ?_
    refine bi_ge (zx := (k).toInt) (zy := (ntm).toInt) (tgt := 28) hx hb dX9_isTaken_7 (by decide) rfl rfl (fun c_1 => ?_) (fun c_1 => ?_)
    · exact done_28 _ _  (lv_sub hl [0, 1, 2] rfl)
    · refine lv_aload_n hx hb dX9_isTaken_10 rfl (lv_at hl 1 rfl) ?_
      refine va_get (D := D) (ci := 9) (v := .ref b22) (C := RX9) (T := TX9) (N := 37) hx hb hts hin_X9 hown hK hP 0 rfl rfl 32 (by decide) (hts (.fieldLink RX9 81 "CryOrderModel" "taken" "[I") (List.mem_cons_of_mem _ (List.mem_append_left _ (List.mem_of_getElem? (i := 1) rfl)))) (fun _ h9 => h9) rfl dX9_isTaken_11 ?_
      refine lv_iload_n hx hb dX9_isTaken_14 rfl (lv_at hl 0 rfl) ?_
      refine va_iald hx hb hK hP 1 0 rfl rfl (vp_in_iff.mpr (by omega)) dX9_isTaken_15 ?_
      refine lv_topi (fun z_2 ez_2 => ?_)
      refine lv_iload_n hx hb dX9_isTaken_16 rfl (lv_at hl 2 rfl) ?_
      refine bi_ne (zx := (z_2).toInt) (zy := (p0).toInt) (tgt := 22) hx hb dX9_isTaken_17 (by decide) rfl rfl (fun c_3 => ?_) (fun c_3 => ?_)
      · obtain ⟨x_4, ex_4⟩ : ∃ z : Int32, z = k + 1 := ⟨_, rfl⟩
        have tx_4 := ad_toInt (x := k) (y := 1) (z := x_4) (zx := (k).toInt) (zy := 1) ex_4 rfl (by decide)
        refine lv_iinc (v := x_4) (lv' := [(2, .int x_4), (0, .ref h0), (1, .int p0)]) hx hb dX9_isTaken_22 hl (k := 0) rfl (by rw [ex_4]; rfl) (by decide) rfl (fun ls hl => ?_)
        refine lv_goto (tgt := 2) hx hb dX9_isTaken_25 (by decide) ?_
        exact ih _ _ (by first | omega | assumption) (by omega) (lv_sub hl [0, 1, 2] rfl)
      · exact done_20 _ _  (lv_sub hl [0, 1, 2] rfl)

set_option maxHeartbeats 4000000 in
set_option maxRecDepth 100000 in
theorem m_isTaken (l : Launch) (D : va_G) (h0 : Nat) (b1 : Nat) (b2 : Nat) (b3 : Nat) (b4 : Nat) (b5 : Nat) (b6 : Nat) (b7 : Nat) (b8 : Nat) (b9 : Nat) (b10 : Nat) (b11 : Nat) (b12 : Nat) (b13 : Nat) (b14 : Nat) (b15 : Nat) (b16 : Nat) (b17 : Nat) (b18 : Nat) (b19 : Nat) (b20 : Nat) (b21 : Nat) (b22 : Nat) (b23 : Nat) (b24 : Nat) (b25 : Nat) (now : Int32) (na : Int32) (nsi : Int32) (nti : Int32) (vc : Int32) (vn : Int32) (vt : Int32) (ct : Int32) (cs : Int32) (co : Int32) (nca : Int32) (ntm : Int32) (d22 : ClassId) (f22 : Nat → Int32) (p0 : Int32) (htm : 0 ≤ (ntm).toInt ∧ (ntm).toInt ≤ 20) : Met l yX9_isTaken wsX9_isTaken ({ frames := 0, cells := 0, slots := 0, locals := 0 }) (va_Pc [.ref h0, .int p0] (wo D [(d22, .int)] [oC h0 9 [.int now, .int na, .int nsi, .int nti, .int vc, .int vn, .int vt, .ref b1, .ref b2, .ref b3, .ref b4, .ref b5, .ref b6, .ref b7, .ref b8, .ref b9, .ref b10, .ref b11, .ref b12, .ref b13, .ref b14, .ref b15, .ref b16, .ref b17, .ref b18, .int ct, .int cs, .int co, .ref b19, .ref b20, .ref b21, .int nca, .ref b22, .ref b23, .int ntm, .ref b24, .ref b25], aI b22 d22 20 (f22)])) (vp_Si (fun r => ((True) ∧ r = 1) ∨ ((True) ∧ r = 0))) 0 0 (fun _ => False) := by
  refine Met.ofW (cc := cX9_isTaken) (maxL := 3) (ret := (some .boolean)) (by decide) rfl ?_
  intro p e s m args below meth c s₁ B hml hv
  obtain ⟨rfl, hP, hK, hD, hN⟩ := hv
  have hx := B.exec
  have hb := B.bytes
  have hr := B.returns
  have hts := atoms_spec (ws := wsX9_isTaken) B.pre
  have hown : s.vm.findClass RX9 = some m.cls := findClass_of_methodNamed B.named
  have hlocks := B.notSynchronized
  have hl := lv_entry ([.ref h0, .int p0]) (n := 3) (Nat.le_of_ble_eq_true rfl)
  rw [lg_entry_eq]
  generalize (lg_sl ([.ref h0, .int p0]) ++ List.replicate (3 - (lg_sl ([.ref h0, .int p0])).length) Slot.unset).toArray = ls at hl ⊢
  have hl : lv_has ls 3 [(0, .ref h0), (1, .int p0)] := hl
  refine lv_iconst (v := 0) hx hb dX9_isTaken_0 (by decide) ?_
  refine lv_istore_n (lv' := [(2, .int 0), (0, .ref h0), (1, .int p0)]) hx hb dX9_isTaken_1 rfl hl (by decide) rfl (fun ls hl => ?_)
  refine ml_isTaken hx hb hts hml hown hN hK hP hD ⟨(Nat.le_of_ble_eq_true rfl), (Nat.le_of_ble_eq_true rfl)⟩ ⟨(Nat.le_of_ble_eq_true rfl), (Nat.le_of_ble_eq_true rfl)⟩ htm (fun k_1 ls  hl => ?_) (fun k_3 ls  hl => ?_) _ _ _ (by decide) (Nat.lt_succ_self _) (lv_sub hl [0, 1, 2] rfl)
  · refine lv_iconst (v := 1) hx hb dX9_isTaken_20 (by decide) ?_
    exact W.zret (v := 1) hx hb hr rfl (fun t ht hW => ⟨1, rfl, Or.inl ⟨trivial, rfl⟩, ht⟩) (fun q h => by cases h) dX9_isTaken_21
  · refine lv_iconst (v := 0) hx hb dX9_isTaken_28 (by decide) ?_
    exact W.zret (v := 0) hx hb hr rfl (fun t ht hW => ⟨0, rfl, Or.inr ⟨trivial, rfl⟩, ht⟩) (fun q h => by cases h) dX9_isTaken_29

set_option maxHeartbeats 4000000 in
set_option maxRecDepth 100000 in
theorem ml_sizeOf {p : Program} {l : Launch} {e : Env} {R : Room} {s : State} {m : MethodId} {args : Array Value} {below : List Frame} {meth : Method} {c : Code} {Q : State → Prop} {A : Nat → Prop} {cells slots : Nat} {D : va_G} {H : Heap} {locs : List Loc} {h0 : Nat} {b1 : Nat} {b2 : Nat} {b3 : Nat} {b4 : Nat} {b5 : Nat} {b6 : Nat} {b7 : Nat} {b8 : Nat} {b9 : Nat} {b10 : Nat} {b11 : Nat} {b12 : Nat} {b13 : Nat} {b14 : Nat} {b15 : Nat} {b16 : Nat} {b17 : Nat} {b18 : Nat} {b19 : Nat} {b20 : Nat} {b21 : Nat} {b22 : Nat} {b23 : Nat} {b24 : Nat} {b25 : Nat} {now : Int32} {na : Int32} {nsi : Int32} {nti : Int32} {vc : Int32} {vn : Int32} {vt : Int32} {ct : Int32} {cs : Int32} {co : Int32} {nca : Int32} {ntm : Int32} {d19 : ClassId} {f19 : Nat → Int32} {p0 : Int32} (hx : p.tables.exec = Jvm.exec) (hb : c.code = cX9_sizeOf) (hts : ∀ w ∈ wsX9_sizeOf, w.before args s = true) (hml : c.maxLocals = 4) (hown : s.vm.findClass RX9 = some m.cls) (hN : Nq s) (hK : va_K D vwCl [(d19, .int)] s) (hP : va_P D vwCl [oC h0 9 [.int now, .int na, .int nsi, .int nti, .int vc, .int vn, .int vt, .ref b1, .ref b2, .ref b3, .ref b4, .ref b5, .ref b6, .ref b7, .ref b8, .ref b9, .ref b10, .ref b11, .ref b12, .ref b13, .ref b14, .ref b15, .ref b16, .ref b17, .ref b18, .int ct, .int cs, .int co, .ref b19, .ref b20, .ref b21, .int nca, .ref b22, .ref b23, .int ntm, .ref b24, .ref b25], aI b19 d19 200 (f19)] H) (hD : va_D A [oC h0 9 [.int now, .int na, .int nsi, .int nti, .int vc, .int vn, .int vt, .ref b1, .ref b2, .ref b3, .ref b4, .ref b5, .ref b6, .ref b7, .ref b8, .ref b9, .ref b10, .ref b11, .ref b12, .ref b13, .ref b14, .ref b15, .ref b16, .ref b17, .ref b18, .int ct, .int cs, .int co, .ref b19, .ref b20, .ref b21, .int nca, .ref b22, .ref b23, .int ntm, .ref b24, .ref b25], aI b19 d19 200 (f19)]) (hR : 1 ≤ R.frames ∧ 20 ≤ R.locals) (hcs : cells ≤ R.cells ∧ slots ≤ R.slots) (hna : 0 ≤ (na).toInt ∧ (na).toInt ≤ 200) (done_39 : ∀ (k : Int32) (x : Int32) (ls : Array Slot), lv_has ls 4 [(3, .int k), (2, .int x), (0, .ref h0), (1, .int p0)] → W p l e R s m args below meth c H locs cells slots Q (F0 m 39 ls [])) : ∀ (n : Nat), ∀ (k : Int32) (x : Int32) (ls : Array Slot), (0 ≤ (k).toInt) → ((200 - (k).toInt).toNat < n) → lv_has ls 4 [(3, .int k), (2, .int x), (0, .ref h0), (1, .int p0)] → W p l e R s m args below meth c H locs cells slots Q (F0 m 4 ls []) := by
  have hin_X9 : ∀ w ∈ u_ws RX9 TX9 37, w ∈ wsX9_sizeOf := fun w h => List.mem_cons_of_mem _ (List.mem_append_right _ (h))
  intro n
  induction n with
  | zero => intro k x ls hk hmu hl; exact absurd hmu (Nat.not_lt_zero _)
  | succ n ih =>
    intro k x ls hk hmu hl
    refine lv_iload_n hx hb dX9_sizeOf_4 rfl (lv_at hl 0 rfl) ?_
    refine lv_aload_n hx hb dX9_sizeOf_5 rfl (lv_at hl 2 rfl) ?_
    refine va_get (D := D) (ci := 9) (v := .int na) (C := RX9) (T := TX9) (N := 37) hx hb hts hin_X9 hown hK hP 0 rfl rfl 1 (by decide) (hts (.fieldLink RX9 93 "CryOrderModel" "alarms" "I") (List.mem_cons_of_mem _ (List.mem_append_left _ (List.mem_of_getElem? (i := 0) rfl)))) (fun _ h9 => h9) rfl dX9_sizeOf_6 ?_
    refine bi_ge (zx := (k).toInt) (zy := (na).toInt) (tgt := 39) hx hb dX9_sizeOf_9 (by decide) rfl rfl (fun c_1 => ?_) (fun c_1 => ?_)
    · exact done_39 _ _ _  (lv_sub hl [0, 1, 2, 3] rfl)
    · refine lv_iload_n hx hb dX9_sizeOf_12 rfl (lv_at hl 1 rfl) ?_
      refine lv_aload_n hx hb dX9_sizeOf_13 rfl (lv_at hl 2 rfl) ?_
      refine va_get (D := D) (ci := 9) (v := .ref b19) (C := RX9) (T := TX9) (N := 37) hx hb hts hin_X9 hown hK hP 0 rfl rfl 28 (by decide) (hts (.fieldLink RX9 72 "CryOrderModel" "caseNumber" "[I") (List.mem_cons_of_mem _ (List.mem_append_left _ (List.mem_of_getElem? (i := 1) rfl)))) (fun _ h9 => h9) rfl dX9_sizeOf_14 ?_
      refine lv_iload_n hx hb dX9_sizeOf_17 rfl (lv_at hl 0 rfl) ?_
      refine va_iald hx hb hK hP 1 0 rfl rfl (vp_in_iff.mpr (by omega)) dX9_sizeOf_18 ?_
      refine lv_topi (fun z_2 ez_2 => ?_)
      refine lv_iload_n hx hb dX9_sizeOf_19 rfl (lv_at hl 3 rfl) ?_
      refine bi_ne (zx := (z_2).toInt) (zy := (p0).toInt) (tgt := 27) hx hb dX9_sizeOf_20 (by decide) rfl rfl (fun c_3 => ?_) (fun c_3 => ?_)
      · refine lv_iconst (v := 0) hx hb dX9_sizeOf_27 (by decide) ?_
        refine vp_callSi (zrS (As := [.int 0]) (rest := [.int x]) (wc := []) ⟨hx, hb, hml, hown, hts⟩ hN hK hP hD (m_one0 l D  ) (va_cwS 1 hts gX9_sizeOf_X9_one rfl rfl rfl (by decide +kernel) ⟨Nat.le_trans (m := 1) (Nat.le_of_ble_eq_true rfl) hR.1, Nat.le_trans (m := 20) (Nat.le_of_ble_eq_true rfl) hR.2⟩) [] [] rfl rfl (by decide) rfl hl.1 rfl (Nat.le_of_ble_eq_true rfl) dX9_sizeOf_28 ⟨hcs.1, hcs.2⟩) (fun r_4 h_5 => ?_)
        subst h_5
        refine lv_iadd hx hb dX9_sizeOf_31 ?_
        refine lv_topi (fun z_6 ez_6 => ?_)
        have tz_6 := ad_toInt (zx := (x).toInt) (zy := 0) ez_6 rfl (by decide)
        refine lv_istore_n (lv' := [(2, .int z_6), (3, .int k), (0, .ref h0), (1, .int p0)]) hx hb dX9_sizeOf_32 rfl hl (by decide) rfl (fun ls hl => ?_)
        obtain ⟨x_7, ex_7⟩ : ∃ z : Int32, z = k + 1 := ⟨_, rfl⟩
        have tx_7 := ad_toInt (x := k) (y := 1) (z := x_7) (zx := (k).toInt) (zy := 1) ex_7 rfl (by decide)
        refine lv_iinc (v := x_7) (lv' := [(3, .int x_7), (2, .int z_6), (0, .ref h0), (1, .int p0)]) hx hb dX9_sizeOf_33 hl (k := 1) rfl (by rw [ex_7]; rfl) (by decide) rfl (fun ls hl => ?_)
        refine lv_goto (tgt := 4) hx hb dX9_sizeOf_36 (by decide) ?_
        exact ih _ _ _ (by first | omega | assumption) (by omega) (lv_sub hl [0, 1, 2, 3] rfl)
      · refine lv_iconst (v := 1) hx hb dX9_sizeOf_23 (by decide) ?_
        refine lv_goto (tgt := 28) hx hb dX9_sizeOf_24 (by decide) ?_
        refine vp_callSi (zrS (As := [.int 1]) (rest := [.int x]) (wc := []) ⟨hx, hb, hml, hown, hts⟩ hN hK hP hD (m_one1 l D  ) (va_cwS 1 hts gX9_sizeOf_X9_one rfl rfl rfl (by decide +kernel) ⟨Nat.le_trans (m := 1) (Nat.le_of_ble_eq_true rfl) hR.1, Nat.le_trans (m := 20) (Nat.le_of_ble_eq_true rfl) hR.2⟩) [] [] rfl rfl (by decide) rfl hl.1 rfl (Nat.le_of_ble_eq_true rfl) dX9_sizeOf_28 ⟨hcs.1, hcs.2⟩) (fun r_8 h_9 => ?_)
        subst h_9
        refine lv_iadd hx hb dX9_sizeOf_31 ?_
        refine lv_topi (fun z_10 ez_10 => ?_)
        have tz_10 := ad_toInt (zx := (x).toInt) (zy := 1) ez_10 rfl (by decide)
        refine lv_istore_n (lv' := [(2, .int z_10), (3, .int k), (0, .ref h0), (1, .int p0)]) hx hb dX9_sizeOf_32 rfl hl (by decide) rfl (fun ls hl => ?_)
        obtain ⟨x_11, ex_11⟩ : ∃ z : Int32, z = k + 1 := ⟨_, rfl⟩
        have tx_11 := ad_toInt (x := k) (y := 1) (z := x_11) (zx := (k).toInt) (zy := 1) ex_11 rfl (by decide)
        refine lv_iinc (v := x_11) (lv' := [(3, .int x_11), (2, .int z_10), (0, .ref h0), (1, .int p0)]) hx hb dX9_sizeOf_33 hl (k := 1) rfl (by rw [ex_11]; rfl) (by decide) rfl (fun ls hl => ?_)
        refine lv_goto (tgt := 4) hx hb dX9_sizeOf_36 (by decide) ?_
        exact ih _ _ _ (by first | omega | assumption) (by omega) (lv_sub hl [0, 1, 2, 3] rfl)

set_option maxHeartbeats 4000000 in
set_option maxRecDepth 100000 in
theorem m_sizeOf (l : Launch) (D : va_G) (h0 : Nat) (b1 : Nat) (b2 : Nat) (b3 : Nat) (b4 : Nat) (b5 : Nat) (b6 : Nat) (b7 : Nat) (b8 : Nat) (b9 : Nat) (b10 : Nat) (b11 : Nat) (b12 : Nat) (b13 : Nat) (b14 : Nat) (b15 : Nat) (b16 : Nat) (b17 : Nat) (b18 : Nat) (b19 : Nat) (b20 : Nat) (b21 : Nat) (b22 : Nat) (b23 : Nat) (b24 : Nat) (b25 : Nat) (now : Int32) (na : Int32) (nsi : Int32) (nti : Int32) (vc : Int32) (vn : Int32) (vt : Int32) (ct : Int32) (cs : Int32) (co : Int32) (nca : Int32) (ntm : Int32) (d19 : ClassId) (f19 : Nat → Int32) (p0 : Int32) (hna : 0 ≤ (na).toInt ∧ (na).toInt ≤ 200) (hge : 0 ≤ (p0).toInt) : Met l yX9_sizeOf wsX9_sizeOf ({ frames := 1, cells := 0, slots := 0, locals := 20 }) (va_Pc [.ref h0, .int p0] (wo D [(d19, .int)] [oC h0 9 [.int now, .int na, .int nsi, .int nti, .int vc, .int vn, .int vt, .ref b1, .ref b2, .ref b3, .ref b4, .ref b5, .ref b6, .ref b7, .ref b8, .ref b9, .ref b10, .ref b11, .ref b12, .ref b13, .ref b14, .ref b15, .ref b16, .ref b17, .ref b18, .int ct, .int cs, .int co, .ref b19, .ref b20, .ref b21, .int nca, .ref b22, .ref b23, .int ntm, .ref b24, .ref b25], aI b19 d19 200 (f19)])) (vp_Si (fun r => True)) 0 0 (fun _ => False) := by
  refine Met.ofW (cc := cX9_sizeOf) (maxL := 4) (ret := (some .int)) (by decide) rfl ?_
  intro p e s m args below meth c s₁ B hml hv
  obtain ⟨rfl, hP, hK, hD, hN⟩ := hv
  have hx := B.exec
  have hb := B.bytes
  have hr := B.returns
  have hts := atoms_spec (ws := wsX9_sizeOf) B.pre
  have hown : s.vm.findClass RX9 = some m.cls := findClass_of_methodNamed B.named
  have hlocks := B.notSynchronized
  have hl := lv_entry ([.ref h0, .int p0]) (n := 4) (Nat.le_of_ble_eq_true rfl)
  rw [lg_entry_eq]
  generalize (lg_sl ([.ref h0, .int p0]) ++ List.replicate (4 - (lg_sl ([.ref h0, .int p0])).length) Slot.unset).toArray = ls at hl ⊢
  have hl : lv_has ls 4 [(0, .ref h0), (1, .int p0)] := hl
  refine lv_iconst (v := 0) hx hb dX9_sizeOf_0 (by decide) ?_
  refine lv_istore_n (lv' := [(2, .int 0), (0, .ref h0), (1, .int p0)]) hx hb dX9_sizeOf_1 rfl hl (by decide) rfl (fun ls hl => ?_)
  refine lv_iload_n hx hb dX9_sizeOf_2 rfl (lv_at hl 2 rfl) ?_
  refine lv_istore_n (lv' := [(3, .int p0), (2, .int 0), (0, .ref h0), (1, .int p0)]) hx hb dX9_sizeOf_3 rfl hl (by decide) rfl (fun ls hl => ?_)
  refine ml_sizeOf hx hb hts hml hown hN hK hP hD ⟨(Nat.le_of_ble_eq_true rfl), (Nat.le_of_ble_eq_true rfl)⟩ ⟨(Nat.le_of_ble_eq_true rfl), (Nat.le_of_ble_eq_true rfl)⟩ hna (fun k_1 x_2 ls  hl => ?_) _ _ _ _ (by first | omega | assumption) (Nat.lt_succ_self _) (lv_sub hl [0, 1, 2, 3] rfl)
  refine lv_iload_n hx hb dX9_sizeOf_39 rfl (lv_at hl 1 rfl) ?_
  exact W.iret (v := x_2) hx hb hr (fun t ht hW => ⟨x_2, rfl, trivial, ht⟩) (fun q h => by cases h) dX9_sizeOf_40
