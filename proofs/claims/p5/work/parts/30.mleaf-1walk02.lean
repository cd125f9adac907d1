set_option maxHeartbeats 4000000 in
set_option maxRecDepth 100000 in
theorem ml_scoreOf {p : Program} {l : Launch} {e : Env} {R : Room} {s : State} {m : MethodId} {args : Array Value} {below : List Frame} {meth : Method} {c : Code} {Q : State → Prop} {A : Nat → Prop} {cells slots : Nat} {D : va_G} {H : Heap} {locs : List Loc} {h0 : Nat} {b1 : Nat} {b2 : Nat} {b3 : Nat} {b4 : Nat} {b5 : Nat} {b6 : Nat} {b7 : Nat} {b8 : Nat} {b9 : Nat} {b10 : Nat} {b11 : Nat} {b12 : Nat} {b13 : Nat} {b14 : Nat} {b15 : Nat} {b16 : Nat} {b17 : Nat} {b18 : Nat} {b19 : Nat} {b20 : Nat} {b21 : Nat} {b22 : Nat} {b23 : Nat} {b24 : Nat} {b25 : Nat} {now : Int32} {na : Int32} {nsi : Int32} {nti : Int32} {vc : Int32} {vn : Int32} {vt : Int32} {ct : Int32} {cs : Int32} {co : Int32} {nca : Int32} {ntm : Int32} {d19 : ClassId} {d20 : ClassId} {f19 : Nat → Int32} {f20 : Nat → Int32} {p0 : Int32} (hx : p.tables.exec = Jvm.exec) (hb : c.code = cX9_scoreOf) (hts : ∀ w ∈ wsX9_scoreOf, w.before args s = true) (hml : c.maxLocals = 4) (hown : s.vm.findClass RX9 = some m.cls) (hN : Nq s) (hK : va_K D vwCl [(d19, .int), (d20, .int)] s) (hP : va_P D vwCl [oC h0 9 [.int now, .int na, .int nsi, .int nti, .int vc, .int vn, .int vt, .ref b1, .ref b2, .ref b3, .ref b4, .ref b5, .ref b6, .ref b7, .ref b8, .ref b9, .ref b10, .ref b11, .ref b12, .ref b13, .ref b14, .ref b15, .ref b16, .ref b17, .ref b18, .int ct, .int cs, .int co, .ref b19, .ref b20, .ref b21, .int nca, .ref b22, .ref b23, .int ntm, .ref b24, .ref b25], aI b19 d19 200 (f19), aI b20 d20 200 (f20)] H) (hD : va_D A [oC h0 9 [.int now, .int na, .int nsi, .int nti, .int vc, .int vn, .int vt, .ref b1, .ref b2, .ref b3, .ref b4, .ref b5, .ref b6, .ref b7, .ref b8, .ref b9, .ref b10, .ref b11, .ref b12, .ref b13, .ref b14, .ref b15, .ref b16, .ref b17, .ref b18, .int ct, .int cs, .int co, .ref b19, .ref b20, .ref b21, .int nca, .ref b22, .ref b23, .int ntm, .ref b24, .ref b25], aI b19 d19 200 (f19), aI b20 d20 200 (f20)]) (hR : 1 ≤ R.frames ∧ 13 ≤ R.locals) (hcs : cells ≤ R.cells ∧ slots ≤ R.slots) (hna : 0 ≤ (na).toInt ∧ (na).toInt ≤ 200) (done_39 : ∀ (k : Int32) (x : Int32) (ls : Array Slot), lv_has ls 4 [(3, .int k), (2, .int x), (0, .ref h0), (1, .int p0)] → W p l e R s m args below meth c H locs cells slots Q (F0 m 39 ls [])) : ∀ (n : Nat), ∀ (k : Int32) (x : Int32) (ls : Array Slot), (0 ≤ (k).toInt) → ((200 - (k).toInt).toNat < n) → lv_has ls 4 [(3, .int k), (2, .int x), (0, .ref h0), (1, .int p0)] → W p l e R s m args below meth c H locs cells slots Q (F0 m 4 ls []) := by
  have hin_X9 : ∀ w ∈ u_ws RX9 TX9 37, w ∈ wsX9_scoreOf := fun w h => List.mem_cons_of_mem _ (List.mem_append_right _ (h))
  intro n
  induction n with
  | zero => intro k x ls hk hmu hl; exact absurd hmu (Nat.not_lt_zero _)
  | succ n ih =>
    intro k x ls hk hmu hl
    refine lv_iload_n hx hb dX9_scoreOf_4 rfl (lv_at hl 0 rfl) ?_
    refine lv_aload_n hx hb dX9_scoreOf_5 rfl (lv_at hl 2 rfl) ?_
    refine va_get (D := D) (ci := 9) (v := .int na) (C := RX9) (T := TX9) (N := 37) hx hb hts hin_X9 hown hK hP 0 rfl rfl 1 (by decide) (hts (.fieldLink RX9 93 "CryOrderModel" "alarms" "I") (List.mem_cons_of_mem _ (List.mem_append_left _ (List.mem_of_getElem? (i := 0) rfl)))) (fun _ h9 => h9) rfl dX9_scoreOf_6 ?_
    refine bi_ge (zx := (k).toInt) (zy := (na).toInt) (tgt := 39) hx hb dX9_scoreOf_9 (by decide) rfl rfl (fun c_1 => ?_) (fun c_1 => ?_)
    · exact done_39 _ _ _  (lv_sub hl [0, 1, 2, 3] rfl)
    · refine lv_aload_n hx hb dX9_scoreOf_12 rfl (lv_at hl 2 rfl) ?_
      refine va_get (D := D) (ci := 9) (v := .ref b19) (C := RX9) (T := TX9) (N := 37) hx hb hts hin_X9 hown hK hP 0 rfl rfl 28 (by decide) (hts (.fieldLink RX9 72 "CryOrderModel" "caseNumber" "[I") (List.mem_cons_of_mem _ (List.mem_append_left _ (List.mem_of_getElem? (i := 1) rfl)))) (fun _ h9 => h9) rfl dX9_scoreOf_13 ?_
      refine lv_iload_n hx hb dX9_scoreOf_16 rfl (lv_at hl 0 rfl) ?_
      refine va_iald hx hb hK hP 1 0 rfl rfl (vp_in_iff.mpr (by omega)) dX9_scoreOf_17 ?_
      refine lv_topi (fun z_2 ez_2 => ?_)
      refine lv_iload_n hx hb dX9_scoreOf_18 rfl (lv_at hl 3 rfl) ?_
      refine bi_ne (zx := (z_2).toInt) (zy := (p0).toInt) (tgt := 33) hx hb dX9_scoreOf_19 (by decide) rfl rfl (fun c_3 => ?_) (fun c_3 => ?_)
      · obtain ⟨x_4, ex_4⟩ : ∃ z : Int32, z = k + 1 := ⟨_, rfl⟩
        have tx_4 := ad_toInt (x := k) (y := 1) (z := x_4) (zx := (k).toInt) (zy := 1) ex_4 rfl (by decide)
        refine lv_iinc (v := x_4) (lv' := [(3, .int x_4), (2, .int x), (0, .ref h0), (1, .int p0)]) hx hb dX9_scoreOf_33 hl (k := 0) rfl (by rw [ex_4]; rfl) (by decide) rfl (fun ls hl => ?_)
        refine lv_goto (tgt := 4) hx hb dX9_scoreOf_36 (by decide) ?_
        exact ih _ _ _ (by first | omega | assumption) (by omega) (lv_sub hl [0, 1, 2, 3] rfl)
      · refine lv_iload_n hx hb dX9_scoreOf_22 rfl (lv_at hl 1 rfl) ?_
        refine lv_aload_n hx hb dX9_scoreOf_23 rfl (lv_at hl 2 rfl) ?_
        refine va_get (D := D) (ci := 9) (v := .ref b20) (C := RX9) (T := TX9) (N := 37) hx hb hts hin_X9 hown hK hP 0 rfl rfl 29 (by decide) (hts (.fieldLink RX9 75 "CryOrderModel" "scores" "[I") (List.mem_cons_of_mem _ (List.mem_append_left _ (List.mem_of_getElem? (i := 2) rfl)))) (fun _ h9 => h9) rfl dX9_scoreOf_24 ?_
        refine lv_iload_n hx hb dX9_scoreOf_27 rfl (lv_at hl 0 rfl) ?_
        refine va_iald hx hb hK hP 2 1 rfl rfl (vp_in_iff.mpr (by omega)) dX9_scoreOf_28 ?_
        refine lv_topi (fun z_5 ez_5 => ?_)
        refine va_mmax hx hb (by rw [hml]; exact hl.1.symm) hown (hts (.methodLink RX9 162 Lib.Math.max.name) (List.mem_cons_of_mem _ (List.mem_append_left _ (List.mem_of_getElem? (i := 3) rfl)))) (hts (.static Lib.Math.max.name) (List.mem_cons_of_mem _ (List.mem_append_left _ (List.mem_of_getElem? (i := 4) rfl)))) (hts (.initialized "java/lang/Math") (List.mem_cons_of_mem _ (List.mem_append_left _ (List.mem_of_getElem? (i := 5) rfl)))) (hts (.code Lib.Math.max.name Lib.Math.max.code 2 (some .int)) (List.mem_cons_of_mem _ (List.mem_append_left _ (List.mem_of_getElem? (i := 6) rfl)))) (Nat.le_trans (m := 1) (Nat.le_of_ble_eq_true rfl) hR.1) (Nat.le_trans (m := 13) (Nat.le_of_ble_eq_true rfl) hR.2) hcs.1 hcs.2 dX9_scoreOf_29 ?_
        refine lv_topi (fun z_6 ez_6 => ?_)
        have tz_6 := mx_toInt (zx := (x).toInt) (zy := (z_5).toInt) ez_6 rfl rfl
        refine lv_istore_n (lv' := [(2, .int z_6), (3, .int k), (0, .ref h0), (1, .int p0)]) hx hb dX9_scoreOf_32 rfl hl (by decide) rfl (fun ls hl => ?_)
        obtain ⟨x_7, ex_7⟩ : ∃ z : Int32, z = k + 1 := ⟨_, rfl⟩
        have tx_7 := ad_toInt (x := k) (y := 1) (z := x_7) (zx := (k).toInt) (zy := 1) ex_7 rfl (by decide)
        refine lv_iinc (v := x_7) (lv' := [(3, .int x_7), (2, .int z_6), (0, .ref h0), (1, .int p0)]) hx hb dX9_scoreOf_33 hl (k := 1) rfl (by rw [ex_7]; rfl) (by decide) rfl (fun ls hl => ?_)
        refine lv_goto (tgt := 4) hx hb dX9_scoreOf_36 (by decide) ?_
        exact ih _ _ _ (by first | omega | assumption) (by omega) (lv_sub hl [0, 1, 2, 3] rfl)

set_option maxHeartbeats 4000000 in
set_option maxRecDepth 100000 in
theorem m_scoreOf (l : Launch) (D : va_G) (h0 : Nat) (b1 : Nat) (b2 : Nat) (b3 : Nat) (b4 : Nat) (b5 : Nat) (b6 : Nat) (b7 : Nat) (b8 : Nat) (b9 : Nat) (b10 : Nat) (b11 : Nat) (b12 : Nat) (b13 : Nat) (b14 : Nat) (b15 : Nat) (b16 : Nat) (b17 : Nat) (b18 : Nat) (b19 : Nat) (b20 : Nat) (b21 : Nat) (b22 : Nat) (b23 : Nat) (b24 : Nat) (b25 : Nat) (now : Int32) (na : Int32) (nsi : Int32) (nti : Int32) (vc : Int32) (vn : Int32) (vt : Int32) (ct : Int32) (cs : Int32) (co : Int32) (nca : Int32) (ntm : Int32) (d19 : ClassId) (d20 : ClassId) (f19 : Nat → Int32) (f20 : Nat → Int32) (p0 : Int32) (hna : 0 ≤ (na).toInt ∧ (na).toInt ≤ 200) (hge : 0 ≤ (p0).toInt) : Met l yX9_scoreOf wsX9_scoreOf ({ frames := 1, cells := 0, slots := 0, locals := 13 }) (va_Pc [.ref h0, .int p0] (wo D [(d19, .int), (d20, .int)] [oC h0 9 [.int now, .int na, .int nsi, .int nti, .int vc, .int vn, .int vt, .ref b1, .ref b2, .ref b3, .ref b4, .ref b5, .ref b6, .ref b7, .ref b8, .ref b9, .ref b10, .ref b11, .ref b12, .ref b13, .ref b14, .ref b15, .ref b16, .ref b17, .ref b18, .int ct, .int cs, .int co, .ref b19, .ref b20, .ref b21, .int nca, .ref b22, .ref b23, .int ntm, .ref b24, .ref b25], aI b19 d19 200 (f19), aI b20 d20 200 (f20)])) (vp_Si (fun r => True)) 0 0 (fun _ => False) := by
  refine Met.ofW (cc := cX9_scoreOf) (maxL := 4) (ret := (some .int)) (by decide) rfl ?_
  intro p e s m args below meth c s₁ B hml hv
  obtain ⟨rfl, hP, hK, hD, hN⟩ := hv
  have hx := B.exec
  have hb := B.bytes
  have hr := B.returns
  have hts := atoms_spec (ws := wsX9_scoreOf) B.pre
  have hown : s.vm.findClass RX9 = some m.cls := findClass_of_methodNamed B.named
  have hlocks := B.notSynchronized
  have hl := lv_entry ([.ref h0, .int p0]) (n := 4) (Nat.le_of_ble_eq_true rfl)
  rw [lg_entry_eq]
  generalize (lg_sl ([.ref h0, .int p0]) ++ List.replicate (4 - (lg_sl ([.ref h0, .int p0])).length) Slot.unset).toArray = ls at hl ⊢
  have hl : lv_has ls 4 [(0, .ref h0), (1, .int p0)] := hl
  refine lv_iconst (v := 0) hx hb dX9_scoreOf_0 (by decide) ?_
  refine lv_istore_n (lv' := [(2, .int 0), (0, .ref h0), (1, .int p0)]) hx hb dX9_scoreOf_1 rfl hl (by decide) rfl (fun ls hl => ?_)
  refine lv_iload_n hx hb dX9_scoreOf_2 rfl (lv_at hl 2 rfl) ?_
  refine lv_istore_n (lv' := [(3, .int p0), (2, .int 0), (0, .ref h0), (1, .int p0)]) hx hb dX9_scoreOf_3 rfl hl (by decide) rfl (fun ls hl => ?_)
  refine ml_scoreOf hx hb hts hml hown hN hK hP hD ⟨(Nat.le_of_ble_eq_true rfl), (Nat.le_of_ble_eq_true rfl)⟩ ⟨(Nat.le_of_ble_eq_true rfl), (Nat.le_of_ble_eq_true rfl)⟩ hna (fun k_1 x_2 ls  hl => ?_) _ _ _ _ (by first | omega | assumption) (Nat.lt_succ_self _) (lv_sub hl [0, 1, 2, 3] rfl)
  refine lv_iload_n hx hb dX9_scoreOf_39 rfl (lv_at hl 1 rfl) ?_
  exact W.iret (v := x_2) hx hb hr (fun t ht hW => ⟨x_2, rfl, trivial, ht⟩) (fun q h => by cases h) dX9_scoreOf_40

set_option maxHeartbeats 4000000 in
set_option maxRecDepth 100000 in
theorem m_minutesOf (l : Launch) (D : va_G) (h0 : Nat) (b1 : Nat) (b2 : Nat) (b3 : Nat) (b4 : Nat) (b5 : Nat) (b6 : Nat) (b7 : Nat) (b8 : Nat) (b9 : Nat) (b10 : Nat) (b11 : Nat) (b12 : Nat) (b13 : Nat) (b14 : Nat) (b15 : Nat) (b16 : Nat) (b17 : Nat) (b18 : Nat) (b19 : Nat) (b20 : Nat) (b21 : Nat) (b22 : Nat) (b23 : Nat) (b24 : Nat) (b25 : Nat) (now : Int32) (na : Int32) (nsi : Int32) (nti : Int32) (vc : Int32) (vn : Int32) (vt : Int32) (ct : Int32) (cs : Int32) (co : Int32) (nca : Int32) (ntm : Int32) (d19 : ClassId) (f19 : Nat → Int32) (p0 : Int32) (hna : 0 ≤ (na).toInt ∧ (na).toInt ≤ 200) (hge : 0 ≤ (p0).toInt) : Met l yX9_minutesOf wsX9_minutesOf ({ frames := 2, cells := 0, slots := 0, locals := 43 }) (va_Pc [.ref h0, .int p0] (wo D [(d19, .int)] [oC h0 9 [.int now, .int na, .int nsi, .int nti, .int vc, .int vn, .int vt, .ref b1, .ref b2, .ref b3, .ref b4, .ref b5, .ref b6, .ref b7, .ref b8, .ref b9, .ref b10, .ref b11, .ref b12, .ref b13, .ref b14, .ref b15, .ref b16, .ref b17, .ref b18, .int ct, .int cs, .int co, .ref b19, .ref b20, .ref b21, .int nca, .ref b22, .ref b23, .int ntm, .ref b24, .ref b25], aI b19 d19 200 (f19)])) (vp_Si (fun r => True)) 0 0 (fun _ => False) := by
  refine Met.ofW (cc := cX9_minutesOf) (maxL := 2) (ret := (some .int)) (by decide) rfl ?_
  intro p e s m args below meth c s₁ B hml hv
  obtain ⟨rfl, hP, hK, hD, hN⟩ := hv
  have hx := B.exec
  have hb := B.bytes
  have hr := B.returns
  have hts := atoms_spec (ws := wsX9_minutesOf) B.pre
  have hown : s.vm.findClass RX9 = some m.cls := findClass_of_methodNamed B.named
  have hlocks := B.notSynchronized
  have hl := lv_entry ([.ref h0, .int p0]) (n := 2) (Nat.le_of_ble_eq_true rfl)
  rw [lg_entry_eq]
  generalize (lg_sl ([.ref h0, .int p0]) ++ List.replicate (2 - (lg_sl ([.ref h0, .int p0])).length) Slot.unset).toArray = ls at hl ⊢
  have hl : lv_has ls 2 [(0, .ref h0), (1, .int p0)] := hl
  refine lv_iconst (v := 5) hx hb dX9_minutesOf_0 (by decide) ?_
  refine lv_iconst (v := 2) hx hb dX9_minutesOf_1 (by decide) ?_
  refine lv_aload_n hx hb dX9_minutesOf_2 rfl (lv_at hl 0 rfl) ?_
  refine lv_iload_n hx hb dX9_minutesOf_3 rfl (lv_at hl 1 rfl) ?_
  refine vp_callSi (zrV (As := [.int p0]) (rest := [.int 2, .int 5]) (wc := [oC h0 9 [.int now, .int na, .int nsi, .int nti, .int vc, .int vn, .int vt, .ref b1, .ref b2, .ref b3, .ref b4, .ref b5, .ref b6, .ref b7, .ref b8, .ref b9, .ref b10, .ref b11, .ref b12, .ref b13, .ref b14, .ref b15, .ref b16, .ref b17, .ref b18, .int ct, .int cs, .int co, .ref b19, .ref b20, .ref b21, .int nca, .ref b22, .ref b23, .int ntm, .ref b24, .ref b25], aI b19 d19 200 (f19)]) ⟨hx, hb, hml, hown, hts⟩ hN hK hP hD (m_sizeOf l D h0 b1 b2 b3 b4 b5 b6 b7 b8 b9 b10 b11 b12 b13 b14 b15 b16 b17 b18 b19 b20 b21 b22 b23 b24 b25 now na nsi nti vc vn vt ct cs co nca ntm d19 ((f19)) p0 (by first | omega | assumption) (by first | omega | assumption)) (cwV 1 hts gX9_minutesOf_X9_sizeOf rfl rfl rfl (by decide +kernel) ⟨(Nat.le_of_ble_eq_true rfl), (Nat.le_of_ble_eq_true rfl)⟩) [0] [0, 1] rfl rfl (by decide) 9 0 rfl rfl rfl hl.1 rfl (Nat.le_of_ble_eq_true rfl) dX9_minutesOf_4 ⟨(Nat.le_of_ble_eq_true rfl), (Nat.le_of_ble_eq_true rfl)⟩) (fun r_1 h_2 => ?_)
  refine lv_imul hx hb dX9_minutesOf_7 ?_
  refine lv_topi (fun z_3 ez_3 => ?_)
  have tz_3 := ml_toInt (zx := 2) (zy := (r_1).toInt) ez_3 (by decide) rfl
  refine lv_iadd hx hb dX9_minutesOf_8 ?_
  refine lv_topi (fun z_4 ez_4 => ?_)
  have tz_4 := ad_toInt (zx := 5) (zy := (z_3).toInt) ez_4 (by decide) rfl
  exact W.iret (v := z_4) hx hb hr (fun t ht hW => ⟨z_4, rfl, trivial, ht⟩) (fun q h => by cases h) dX9_minutesOf_9

set_option maxHeartbeats 4000000 in
set_option maxRecDepth 100000 in
theorem m_hangs (l : Launch) (D : va_G) (h0 : Nat) (b1 : Nat) (b2 : Nat) (b3 : Nat) (b4 : Nat) (b5 : Nat) (b6 : Nat) (b7 : Nat) (b8 : Nat) (b9 : Nat) (b10 : Nat) (b11 : Nat) (b12 : Nat) (b13 : Nat) (b14 : Nat) (b15 : Nat) (b16 : Nat) (b17 : Nat) (b18 : Nat) (b19 : Nat) (b20 : Nat) (b21 : Nat) (b22 : Nat) (b23 : Nat) (b24 : Nat) (b25 : Nat) (now : Int32) (na : Int32) (nsi : Int32) (nti : Int32) (vc : Int32) (vn : Int32) (vt : Int32) (ct : Int32) (cs : Int32) (co : Int32) (nca : Int32) (ntm : Int32) (d16 : ClassId) (d17 : ClassId) (d18 : ClassId) (d4 : ClassId) (d1 : ClassId) (f16 : Nat → Int32) (f17 : Nat → Int32) (f18 : Nat → Int32) (f4 : Nat → Int32) (f1 : Nat → Int32) (p0 : Int32) (p1 : Int32) (hnt : 0 ≤ (nti).toInt ∧ (nti).toInt ≤ 60) (hp0 : 0 ≤ (p0).toInt ∧ (p0).toInt < 200) (hp1 : 0 ≤ (p1).toInt ∧ (p1).toInt < 200) (hzb : ∀ k : Nat, f18 k = 0 ∨ f18 k = 1) : Met l yX9_hangs wsX9_hangs ({ frames := 1, cells := 0, slots := 0, locals := 23 }) (va_Pc [.ref h0, .int p0, .int p1] (wo D [(d16, .int), (d17, .int), (d18, .boolean), (d4, .int), (d1, .int)] [oC h0 9 [.int now, .int na, .int nsi, .int nti, .int vc, .int vn, .int vt, .ref b1, .ref b2, .ref b3, .ref b4, .ref b5, .ref b6, .ref b7, .ref b8, .ref b9, .ref b10, .ref b11, .ref b12, .ref b13, .ref b14, .ref b15, .ref b16, .ref b17, .ref b18, .int ct, .int cs, .int co, .ref b19, .ref b20, .ref b21, .int nca, .ref b22, .ref b23, .int ntm, .ref b24, .ref b25], aI b16 d16 60 (f16), aI b17 d17 60 (f17), aI b18 d18 60 (f18), aI b4 d4 200 (f4), aI b1 d1 200 (f1)])) (vp_Si (fun r => ((True) ∧ r = 1) ∨ ((True) ∧ r = 0))) 0 0 (fun _ => False) := by
  refine Met.ofW (cc := cX9_hangs) (maxL := 4) (ret := (some .boolean)) (by decide) rfl ?_
  intro p e s m args below meth c s₁ B hml hv
  obtain ⟨rfl, hP, hK, hD, hN⟩ := hv
  have hx := B.exec
  have hb := B.bytes
  have hr := B.returns
  have hts := atoms_spec (ws := wsX9_hangs) B.pre
  have hown : s.vm.findClass RX9 = some m.cls := findClass_of_methodNamed B.named
  have hlocks := B.notSynchronized
  have hin_X9 : ∀ w ∈ u_ws RX9 TX9 37, w ∈ wsX9_hangs := fun w h => List.mem_cons_of_mem _ (List.mem_append_right _ (h))
  have hl := lv_entry ([.ref h0, .int p0, .int p1]) (n := 4) (Nat.le_of_ble_eq_true rfl)
  rw [lg_entry_eq]
  generalize (lg_sl ([.ref h0, .int p0, .int p1]) ++ List.replicate (4 - (lg_sl ([.ref h0, .int p0, .int p1])).length) Slot.unset).toArray = ls at hl ⊢
  have hl : lv_has ls 4 [(0, .ref h0), (1, .int p0), (2, .int p1)] := hl
  refine lv_aload_n hx hb dX9_hangs_0 rfl (lv_at hl 0 rfl) ?_
  refine lv_iload_n hx hb dX9_hangs_1 rfl (lv_at hl 1 rfl) ?_
  refine lv_iload_n hx hb dX9_hangs_2 rfl (lv_at hl 2 rfl) ?_
  refine vp_callSi (zrV (As := [.int p0, .int p1]) (rest := []) (wc := [oC h0 9 [.int now, .int na, .int nsi, .int nti, .int vc, .int vn, .int vt, .ref b1, .ref b2, .ref b3, .ref b4, .ref b5, .ref b6, .ref b7, .ref b8, .ref b9, .ref b10, .ref b11, .ref b12, .ref b13, .ref b14, .ref b15, .ref b16, .ref b17, .ref b18, .int ct, .int cs, .int co, .ref b19, .ref b20, .ref b21, .int nca, .ref b22, .ref b23, .int ntm, .ref b24, .ref b25], aI b16 d16 60 (f16), aI b17 d17 60 (f17)]) ⟨hx, hb, hml, hown, hts⟩ hN hK hP hD (m_tieOf l D h0 b1 b2 b3 b4 b5 b6 b7 b8 b9 b10 b11 b12 b13 b14 b15 b16 b17 b18 b19 b20 b21 b22 b23 b24 b25 now na nsi nti vc vn vt ct cs co nca ntm d16 d17 ((f16)) ((f17)) p0 p1 (by first | omega | assumption)) (cwV 2 hts gX9_hangs_X9_tieOf rfl rfl rfl (by decide +kernel) ⟨(Nat.le_of_ble_eq_true rfl), (Nat.le_of_ble_eq_true rfl)⟩) [0, 1] [0, 1, 2] rfl rfl (by decide) 9 0 rfl rfl rfl hl.1 rfl (Nat.le_of_ble_eq_true rfl) dX9_hangs_3 ⟨(Nat.le_of_ble_eq_true rfl), (Nat.le_of_ble_eq_true rfl)⟩) (fun r_1 h_2 => ?_)
  have h_2 : (r_1).toInt = -1 ∨ (0 ≤ (r_1).toInt ∧ (r_1).toInt < (nti).toInt) := h_2
  refine lv_istore_n (lv' := [(3, .int r_1), (0, .ref h0), (1, .int p0), (2, .int p1)]) hx hb dX9_hangs_6 rfl hl (by decide) rfl (fun ls hl => ?_)
  refine lv_iload_n hx hb dX9_hangs_7 rfl (lv_at hl 0 rfl) ?_
  refine lv_iconst (v := (-1)) hx hb dX9_hangs_8 (by decide) ?_
  refine bi_eq (zx := (r_1).toInt) (zy := (-1)) (tgt := 19) hx hb dX9_hangs_9 (by decide) rfl (by decide) (fun c_3 => ?_) (fun c_3 => ?_)
  · refine lv_aload_n hx hb dX9_hangs_19 rfl (lv_at hl 1 rfl) ?_
    refine va_get (D := D) (ci := 9) (v := .ref b4) (C := RX9) (T := TX9) (N := 37) hx hb hts hin_X9 hown hK hP 0 rfl rfl 10 (by decide) (hts (.fieldLink RX9 26 "CryOrderModel" "thing" "[I") (List.mem_cons_of_mem _ (List.mem_append_left _ (List.mem_of_getElem? (i := 1) rfl)))) (fun _ h9 => h9) rfl dX9_hangs_20 ?_
    refine lv_iload_n hx hb dX9_hangs_23 rfl (lv_at hl 2 rfl) ?_
    refine va_iald hx hb hK hP 4 3 rfl rfl (vp_in_iff.mpr (by omega)) dX9_hangs_24 ?_
    refine lv_topi (fun z_4 ez_4 => ?_)
    refine lv_aload_n hx hb dX9_hangs_25 rfl (lv_at hl 1 rfl) ?_
    refine va_get (D := D) (ci := 9) (v := .ref b4) (C := RX9) (T := TX9) (N := 37) hx hb hts hin_X9 hown hK hP 0 rfl rfl 10 (by decide) (hts (.fieldLink RX9 26 "CryOrderModel" "thing" "[I") (List.mem_cons_of_mem _ (List.mem_append_left _ (List.mem_of_getElem? (i := 1) rfl)))) (fun _ h9 => h9) rfl dX9_hangs_26 ?_
    refine lv_iload_n hx hb dX9_hangs_29 rfl (lv_at hl 3 rfl) ?_
    refine va_iald hx hb hK hP 4 3 rfl rfl (vp_in_iff.mpr (by omega)) dX9_hangs_30 ?_
    refine lv_topi (fun z_5 ez_5 => ?_)
    refine bi_ne (zx := (z_4).toInt) (zy := (z_5).toInt) (tgt := 59) hx hb dX9_hangs_31 (by decide) rfl rfl (fun c_6 => ?_) (fun c_6 => ?_)
    · refine lv_iconst (v := 0) hx hb dX9_hangs_59 (by decide) ?_
      exact W.zret (v := 0) hx hb hr rfl (fun t ht hW => ⟨0, rfl, Or.inr ⟨trivial, rfl⟩, ht⟩) (fun q h => by cases h) dX9_hangs_60
    · refine lv_aload_n hx hb dX9_hangs_34 rfl (lv_at hl 1 rfl) ?_
      refine va_get (D := D) (ci := 9) (v := .ref b1) (C := RX9) (T := TX9) (N := 37) hx hb hts hin_X9 hown hK hP 0 rfl rfl 7 (by decide) (hts (.fieldLink RX9 16 "CryOrderModel" "came" "[I") (List.mem_cons_of_mem _ (List.mem_append_left _ (List.mem_of_getElem? (i := 2) rfl)))) (fun _ h9 => h9) rfl dX9_hangs_35 ?_
      refine lv_iload_n hx hb dX9_hangs_38 rfl (lv_at hl 2 rfl) ?_
      refine va_iald hx hb hK hP 5 4 rfl rfl (vp_in_iff.mpr (by omega)) dX9_hangs_39 ?_
      refine lv_topi (fun z_7 ez_7 => ?_)
      refine lv_aload_n hx hb dX9_hangs_40 rfl (lv_at hl 1 rfl) ?_
      refine va_get (D := D) (ci := 9) (v := .ref b1) (C := RX9) (T := TX9) (N := 37) hx hb hts hin_X9 hown hK hP 0 rfl rfl 7 (by decide) (hts (.fieldLink RX9 16 "CryOrderModel" "came" "[I") (List.mem_cons_of_mem _ (List.mem_append_left _ (List.mem_of_getElem? (i := 2) rfl)))) (fun _ h9 => h9) rfl dX9_hangs_41 ?_
      refine lv_iload_n hx hb dX9_hangs_44 rfl (lv_at hl 3 rfl) ?_
      refine va_iald hx hb hK hP 5 4 rfl rfl (vp_in_iff.mpr (by omega)) dX9_hangs_45 ?_
      refine lv_topi (fun z_8 ez_8 => ?_)
      refine lv_isub hx hb dX9_hangs_46 ?_
      refine lv_topi (fun z_9 ez_9 => ?_)
      have tz_9 := sb_toInt (zx := (z_7).toInt) (zy := (z_8).toInt) ez_9 rfl rfl
      refine va_mabs hx hb (by rw [hml]; exact hl.1.symm) hown (hts (.methodLink RX9 147 Lib.Math.abs.name) (List.mem_cons_of_mem _ (List.mem_append_left _ (List.mem_of_getElem? (i := 3) rfl)))) (hts (.static Lib.Math.abs.name) (List.mem_cons_of_mem _ (List.mem_append_left _ (List.mem_of_getElem? (i := 4) rfl)))) (hts (.initialized "java/lang/Math") (List.mem_cons_of_mem _ (List.mem_append_left _ (List.mem_of_getElem? (i := 5) rfl)))) (hts (.code Lib.Math.abs.name Lib.Math.abs.code 1 (some .int)) (List.mem_cons_of_mem _ (List.mem_append_left _ (List.mem_of_getElem? (i := 6) rfl)))) (Nat.le_of_ble_eq_true rfl) (Nat.le_of_ble_eq_true rfl) (Nat.le_of_ble_eq_true rfl) (Nat.le_of_ble_eq_true rfl) dX9_hangs_47 ?_
      refine lv_topi (fun z_10 ez_10 => ?_)
      refine lv_bipush (v := 20) hx hb dX9_hangs_50 (by decide) ?_
      refine bi_gt (zx := (z_10).toInt) (zy := 20) (tgt := 59) hx hb dX9_hangs_52 (by decide) rfl (by decide) (fun c_11 => ?_) (fun c_11 => ?_)
      · refine lv_iconst (v := 0) hx hb dX9_hangs_59 (by decide) ?_
        exact W.zret (v := 0) hx hb hr rfl (fun t ht hW => ⟨0, rfl, Or.inr ⟨trivial, rfl⟩, ht⟩) (fun q h => by cases h) dX9_hangs_60
      · refine lv_iconst (v := 1) hx hb dX9_hangs_55 (by decide) ?_
        refine lv_goto (tgt := 60) hx hb dX9_hangs_56 (by decide) ?_
        exact W.zret (v := 1) hx hb hr rfl (fun t ht hW => ⟨1, rfl, Or.inl ⟨trivial, rfl⟩, ht⟩) (fun q h => by cases h) dX9_hangs_60
  · refine lv_aload_n hx hb dX9_hangs_12 rfl (lv_at hl 1 rfl) ?_
    refine va_get (D := D) (ci := 9) (v := .ref b18) (C := RX9) (T := TX9) (N := 37) hx hb hts hin_X9 hown hK hP 0 rfl rfl 24 (by decide) (hts (.fieldLink RX9 69 "CryOrderModel" "isJoined" "[Z") (List.mem_cons_of_mem _ (List.mem_append_left _ (List.mem_of_getElem? (i := 0) rfl)))) (fun _ h9 => h9) rfl dX9_hangs_13 ?_
    refine lv_iload_n hx hb dX9_hangs_16 rfl (lv_at hl 0 rfl) ?_
    refine va_zald hx hb hK hP 3 2 rfl rfl (vp_in_iff.mpr (by omega)) dX9_hangs_17 ?_
    refine lv_topi (fun z_12 ez_12 => ?_)
    exact W.zret (v := z_12) hx hb hr (nar_zb ez_12 hzb) (fun t ht hW => ⟨z_12, rfl, (zb_or ez_12 hzb), ht⟩) (fun q h => by cases h) dX9_hangs_18
