set_option maxHeartbeats 4000000 in
set_option maxRecDepth 100000 in
theorem m_source (l : Launch) (D : va_G) (h0 : Nat) (b1 : Nat) (b2 : Nat) (b3 : Nat) (b4 : Nat) (b5 : Nat) (b6 : Nat) (b7 : Nat) (b8 : Nat) (b9 : Nat) (b10 : Nat) (b11 : Nat) (b12 : Nat) (b13 : Nat) (b14 : Nat) (b15 : Nat) (b16 : Nat) (b17 : Nat) (b18 : Nat) (b19 : Nat) (b20 : Nat) (b21 : Nat) (b22 : Nat) (b23 : Nat) (b24 : Nat) (b25 : Nat) (now : Int32) (na : Int32) (nsi : Int32) (nti : Int32) (vc : Int32) (vn : Int32) (vt : Int32) (ct : Int32) (cs : Int32) (co : Int32) (nca : Int32) (ntm : Int32) (d3 : ClassId) (d11 : ClassId) (d12 : ClassId) (d7 : ClassId) (d8 : ClassId) (f3 : Nat → Int32) (f11 : Nat → Int32) (f12 : Nat → Int32) (f7 : Nat → Int32) (f8 : Nat → Int32) (p0 : Int32) (p1 : Int32) (hna : 0 ≤ (na).toInt ∧ (na).toInt ≤ 200) : Met l yX9_source wsX9_source ({ frames := 1, cells := 0, slots := 0, locals := 22 }) (va_Pc [.ref h0, .int p0, .int p1] (wo D [(d3, .int), (d11, .boolean), (d12, .boolean), (d7, .int), (d8, .int)] [oC h0 9 [.int now, .int na, .int nsi, .int nti, .int vc, .int vn, .int vt, .ref b1, .ref b2, .ref b3, .ref b4, .ref b5, .ref b6, .ref b7, .ref b8, .ref b9, .ref b10, .ref b11, .ref b12, .ref b13, .ref b14, .ref b15, .ref b16, .ref b17, .ref b18, .int ct, .int cs, .int co, .ref b19, .ref b20, .ref b21, .int nca, .ref b22, .ref b23, .int ntm, .ref b24, .ref b25], aI b3 d3 200 (f3), aI b11 d11 200 (f11), aI b12 d12 200 (f12), aI b7 d7 200 (f7), aI b8 d8 200 (f8)])) (vp_Si (fun r => True)) 0 0 (fun _ => False) := by
  refine Met.ofW (cc := cX9_source) (maxL := 6) (ret := (some .int)) (by decide) rfl ?_
  intro p e s m args below meth c s₁ B hml hv
  obtain ⟨rfl, hP, hK, hD, hN⟩ := hv
  have hx := B.exec
  have hb := B.bytes
  have hr := B.returns
  have hts := atoms_spec (ws := wsX9_source) B.pre
  have hown : s.vm.findClass RX9 = some m.cls := findClass_of_methodNamed B.named
  have hlocks := B.notSynchronized
  have hl := lv_entry ([.ref h0, .int p0, .int p1]) (n := 6) (Nat.le_of_ble_eq_true rfl)
  rw [lg_entry_eq]
  generalize (lg_sl ([.ref h0, .int p0, .int p1]) ++ List.replicate (6 - (lg_sl ([.ref h0, .int p0, .int p1])).length) Slot.unset).toArray = ls at hl ⊢
  have hl : lv_has ls 6 [(0, .ref h0), (1, .int p0), (2, .int p1)] := hl
  refine lv_iload_n hx hb dX9_source_0 rfl (lv_at hl 1 rfl) ?_
  refine lv_iconst (v := 0) hx hb dX9_source_1 (by decide) ?_
  refine lv_bipush (v := 9) hx hb dX9_source_2 (by decide) ?_
  refine vp_callSi (zrS (As := [.int p0, .int 0, .int 9]) (rest := []) (wc := []) ⟨hx, hb, hml, hown, hts⟩ hN hK hP hD (m_isIn l D p0 0 9 ) (va_cwS 3 hts gX9_source_X9_isIn rfl rfl rfl (by decide +kernel) ⟨(Nat.le_of_ble_eq_true rfl), (Nat.le_of_ble_eq_true rfl)⟩) [] [] rfl rfl (by decide) rfl hl.1 rfl (Nat.le_of_ble_eq_true rfl) dX9_source_4 ⟨(Nat.le_of_ble_eq_true rfl), (Nat.le_of_ble_eq_true rfl)⟩) (fun r_1 h_2 => ?_)
  rcases h_2 with ⟨h_2, rfl⟩ | ⟨h_2, rfl⟩
  · have h_2 : 0 ≤ (p0).toInt ∧ (p0).toInt ≤ 9 := h_2
    refine lv_if_eq (tgt := 20) hx hb dX9_source_7 (by decide) (fun c_ => absurd c_ (by decide)) (fun _ => ?_)
    refine lv_iload_n hx hb dX9_source_10 rfl (lv_at hl 2 rfl) ?_
    refine lv_iconst (v := 0) hx hb dX9_source_11 (by decide) ?_
    refine lv_bipush (v := 6) hx hb dX9_source_12 (by decide) ?_
    refine vp_callSi (zrS (As := [.int p1, .int 0, .int 6]) (rest := []) (wc := []) ⟨hx, hb, hml, hown, hts⟩ hN hK hP hD (m_isIn l D p1 0 6 ) (va_cwS 3 hts gX9_source_X9_isIn rfl rfl rfl (by decide +kernel) ⟨(Nat.le_of_ble_eq_true rfl), (Nat.le_of_ble_eq_true rfl)⟩) [] [] rfl rfl (by decide) rfl hl.1 rfl (Nat.le_of_ble_eq_true rfl) dX9_source_14 ⟨(Nat.le_of_ble_eq_true rfl), (Nat.le_of_ble_eq_true rfl)⟩) (fun r_3 h_4 => ?_)
    rcases h_4 with ⟨h_4, rfl⟩ | ⟨h_4, rfl⟩
    · have h_4 : 0 ≤ (p1).toInt ∧ (p1).toInt ≤ 6 := h_4
      refine lv_if_ne (tgt := 22) hx hb dX9_source_17 (by decide) (fun _ => ?_) (fun c_ => absurd c_ (by decide))
      refine lv_iconst (v := 0) hx hb dX9_source_22 (by decide) ?_
      refine lv_istore_n (lv' := [(3, .int 0), (0, .ref h0), (1, .int p0), (2, .int p1)]) hx hb dX9_source_23 rfl hl (by decide) rfl (fun ls hl => ?_)
      refine lv_iconst (v := 0) hx hb dX9_source_24 (by decide) ?_
      refine lv_istore (lv' := [(4, .int 0), (3, .int 0), (0, .ref h0), (1, .int p0), (2, .int p1)]) hx hb dX9_source_25 hl (by decide) rfl (fun ls hl => ?_)
      refine ml_source hx hb hts hml hown hN hK hP hD ⟨(Nat.le_of_ble_eq_true rfl), (Nat.le_of_ble_eq_true rfl)⟩ ⟨(Nat.le_of_ble_eq_true rfl), (Nat.le_of_ble_eq_true rfl)⟩ hna (fun k_5 x_6 ls  hl => ?_) _ _ _ _ (by decide) (Nat.lt_succ_self _) (lv_sub hl [0, 1, 2, 3, 4] rfl)
      refine lv_iload_n hx hb dX9_source_197 rfl (lv_at hl 1 rfl) ?_
      exact W.iret (v := x_6) hx hb hr (fun t ht hW => ⟨x_6, rfl, trivial, ht⟩) (fun q h => by cases h) dX9_source_198
    · have h_4 : (p1).toInt < 0 ∨ 6 < (p1).toInt := h_4
      refine lv_if_ne (tgt := 22) hx hb dX9_source_17 (by decide) (fun c_ => absurd c_ (by decide)) (fun _ => ?_)
      refine lv_iconst (v := (-1)) hx hb dX9_source_20 (by decide) ?_
      exact W.iret (v := (-1)) hx hb hr (fun t ht hW => ⟨(-1), rfl, trivial, ht⟩) (fun q h => by cases h) dX9_source_21
  · have h_2 : (p0).toInt < 0 ∨ 9 < (p0).toInt := h_2
    refine lv_if_eq (tgt := 20) hx hb dX9_source_7 (by decide) (fun _ => ?_) (fun c_ => absurd c_ (by decide))
    refine lv_iconst (v := (-1)) hx hb dX9_source_20 (by decide) ?_
    exact W.iret (v := (-1)) hx hb hr (fun t ht hW => ⟨(-1), rfl, trivial, ht⟩) (fun q h => by cases h) dX9_source_21

set_option maxHeartbeats 4000000 in
set_option maxRecDepth 100000 in
theorem ml_slow {p : Program} {l : Launch} {e : Env} {R : Room} {s : State} {m : MethodId} {args : Array Value} {below : List Frame} {meth : Method} {c : Code} {Q : State → Prop} {A : Nat → Prop} {cells slots : Nat} {D : va_G} {H0 : Heap} {h0 : Nat} {b1 : Nat} {b2 : Nat} {b3 : Nat} {b4 : Nat} {b5 : Nat} {b6 : Nat} {b7 : Nat} {b8 : Nat} {b9 : Nat} {b10 : Nat} {b11 : Nat} {b12 : Nat} {b13 : Nat} {b14 : Nat} {b15 : Nat} {b16 : Nat} {b17 : Nat} {b18 : Nat} {b19 : Nat} {b20 : Nat} {b21 : Nat} {b22 : Nat} {b23 : Nat} {b24 : Nat} {b25 : Nat} {now : Int32} {na : Int32} {nsi : Int32} {nti : Int32} {vc : Int32} {vn : Int32} {vt : Int32} {nca : Int32} {ntm : Int32} {d8 : ClassId} {d11 : ClassId} {d12 : ClassId} {d4 : ClassId} {d1 : ClassId} {d5 : ClassId} {d6 : ClassId} {f8 : Nat → Int32} {f11 : Nat → Int32} {f12 : Nat → Int32} {f4 : Nat → Int32} {f1 : Nat → Int32} {f5 : Nat → Int32} {f6 : Nat → Int32} {p0 : Int32} (hx : p.tables.exec = Jvm.exec) (hb : c.code = cX9_slow) (hts : ∀ w ∈ wsX9_slow, w.before args s = true) (hml : c.maxLocals = 5) (hown : s.vm.findClass RX9 = some m.cls) (hN : Nq s) (hK : va_K D vwCl [(d8, .int), (d11, .boolean), (d12, .boolean), (d4, .int), (d1, .int), (d5, .int), (d6, .int)] s) (hA : ∀ q : Nat, H0.size ≤ q → A q) (hR : 4 ≤ R.frames ∧ 87 ≤ R.locals) (hcs : cells ≤ R.cells ∧ slots ≤ R.slots) (hna : 0 ≤ (na).toInt ∧ (na).toInt ≤ 200) (done_x : ∀ (k : Int32) (x : Int32) (x1 : Int32) (x2 : Int32) (x3 : Int32) (H : Heap) (locs : List Loc) (ls : Array Slot), va_P D vwCl [oC h0 9 [.int now, .int na, .int nsi, .int nti, .int vc, .int vn, .int vt, .ref b1, .ref b2, .ref b3, .ref b4, .ref b5, .ref b6, .ref b7, .ref b8, .ref b9, .ref b10, .ref b11, .ref b12, .ref b13, .ref b14, .ref b15, .ref b16, .ref b17, .ref b18, .int x1, .int x2, .int x3, .ref b19, .ref b20, .ref b21, .int nca, .ref b22, .ref b23, .int ntm, .ref b24, .ref b25], aI b8 d8 200 (f8), aI b11 d11 200 (f11), aI b12 d12 200 (f12), aI b4 d4 200 (f4), aI b1 d1 200 (f1), aI b5 d5 200 (f5), aI b6 d6 200 (f6)] H → va_D A [oC h0 9 [.int now, .int na, .int nsi, .int nti, .int vc, .int vn, .int vt, .ref b1, .ref b2, .ref b3, .ref b4, .ref b5, .ref b6, .ref b7, .ref b8, .ref b9, .ref b10, .ref b11, .ref b12, .ref b13, .ref b14, .ref b15, .ref b16, .ref b17, .ref b18, .int x1, .int x2, .int x3, .ref b19, .ref b20, .ref b21, .int nca, .ref b22, .ref b23, .int ntm, .ref b24, .ref b25], aI b8 d8 200 (f8), aI b11 d11 200 (f11), aI b12 d12 200 (f12), aI b4 d4 200 (f4), aI b1 d1 200 (f1), aI b5 d5 200 (f5), aI b6 d6 200 (f6)] → va_S A H0 H locs → lv_has ls 5 [(3, .int k), (2, .int x), (0, .ref h0), (1, .int p0)] → ((W p l e R s m args below meth c H locs cells slots Q (F0 m 77 ls [])) ∧ (W p l e R s m args below meth c H locs cells slots Q (F0 m 90 ls [])))) : ∀ (n : Nat), ∀ (k : Int32) (x : Int32) (x1 : Int32) (x2 : Int32) (x3 : Int32) (H : Heap) (locs : List Loc) (ls : Array Slot), (0 ≤ (k).toInt) → ((200 - (k).toInt).toNat < n) → va_P D vwCl [oC h0 9 [.int now, .int na, .int nsi, .int nti, .int vc, .int vn, .int vt, .ref b1, .ref b2, .ref b3, .ref b4, .ref b5, .ref b6, .ref b7, .ref b8, .ref b9, .ref b10, .ref b11, .ref b12, .ref b13, .ref b14, .ref b15, .ref b16, .ref b17, .ref b18, .int x1, .int x2, .int x3, .ref b19, .ref b20, .ref b21, .int nca, .ref b22, .ref b23, .int ntm, .ref b24, .ref b25], aI b8 d8 200 (f8), aI b11 d11 200 (f11), aI b12 d12 200 (f12), aI b4 d4 200 (f4), aI b1 d1 200 (f1), aI b5 d5 200 (f5), aI b6 d6 200 (f6)] H → va_D A [oC h0 9 [.int now, .int na, .int nsi, .int nti, .int vc, .int vn, .int vt, .ref b1, .ref b2, .ref b3, .ref b4, .ref b5, .ref b6, .ref b7, .ref b8, .ref b9, .ref b10, .ref b11, .ref b12, .ref b13, .ref b14, .ref b15, .ref b16, .ref b17, .ref b18, .int x1, .int x2, .int x3, .ref b19, .ref b20, .ref b21, .int nca, .ref b22, .ref b23, .int ntm, .ref b24, .ref b25], aI b8 d8 200 (f8), aI b11 d11 200 (f11), aI b12 d12 200 (f12), aI b4 d4 200 (f4), aI b1 d1 200 (f1), aI b5 d5 200 (f5), aI b6 d6 200 (f6)] → va_S A H0 H locs → lv_has ls 5 [(3, .int k), (2, .int x), (0, .ref h0), (1, .int p0)] → W p l e R s m args below meth c H locs cells slots Q (F0 m 16 ls []) := by
  have hin_X9 : ∀ w ∈ u_ws RX9 TX9 37, w ∈ wsX9_slow := fun w h => List.mem_cons_of_mem _ (List.mem_append_right _ (h))
  intro n
  induction n with
  | zero => intro k x x1 x2 x3 H locs ls hk hmu hP hD hS hl; exact absurd hmu (Nat.not_lt_zero _)
  | succ n ih =>
    intro k x x1 x2 x3 H locs ls hk hmu hP hD hS hl
    refine lv_iload_n hx hb dX9_slow_16 rfl (lv_at hl 0 rfl) ?_
    refine lv_aload_n hx hb dX9_slow_17 rfl (lv_at hl 2 rfl) ?_
    refine va_get (D := D) (ci := 9) (v := .int na) (C := RX9) (T := TX9) (N := 37) hx hb hts hin_X9 hown hK hP 0 rfl rfl 1 (by decide) (hts (.fieldLink RX9 93 "CryOrderModel" "alarms" "I") (List.mem_cons_of_mem _ (List.mem_append_left _ (List.mem_append_left _ (List.mem_of_getElem? (i := 0) rfl))))) (fun _ h9 => h9) rfl dX9_slow_18 ?_
    refine bi_ge (zx := (k).toInt) (zy := (na).toInt) (tgt := 90) hx hb dX9_slow_21 (by decide) rfl rfl (fun c_1 => ?_) (fun c_1 => ?_)
    · exact (done_x _ _ _ _ _ _ _ _ hP hD hS (lv_sub hl [0, 1, 2, 3] rfl)).2 
    · refine lv_aload_n hx hb dX9_slow_24 rfl (lv_at hl 2 rfl) ?_
      refine lv_iload_n hx hb dX9_slow_25 rfl (lv_at hl 0 rfl) ?_
      refine vp_callSi (zrV (As := [.int k]) (rest := []) (wc := [oC h0 9 [.int now, .int na, .int nsi, .int nti, .int vc, .int vn, .int vt, .ref b1, .ref b2, .ref b3, .ref b4, .ref b5, .ref b6, .ref b7, .ref b8, .ref b9, .ref b10, .ref b11, .ref b12, .ref b13, .ref b14, .ref b15, .ref b16, .ref b17, .ref b18, .int x1, .int x2, .int x3, .ref b19, .ref b20, .ref b21, .int nca, .ref b22, .ref b23, .int ntm, .ref b24, .ref b25], aI b8 d8 200 (f8), aI b11 d11 200 (f11), aI b12 d12 200 (f12)]) ⟨hx, hb, hml, hown, hts⟩ hN hK hP hD (m_isLive l D h0 b1 b2 b3 b4 b5 b6 b7 b8 b9 b10 b11 b12 b13 b14 b15 b16 b17 b18 b19 b20 b21 b22 b23 b24 b25 now na nsi nti vc vn vt x1 x2 x3 nca ntm d8 d11 d12 ((f8)) ((f11)) ((f12)) k (by first | omega | assumption)) (cwV 1 hts gX9_slow_X9_isLive rfl rfl rfl (by decide +kernel) ⟨Nat.le_trans (m := 4) (Nat.le_of_ble_eq_true rfl) hR.1, Nat.le_trans (m := 87) (Nat.le_of_ble_eq_true rfl) hR.2⟩) [0, 1, 2] [0, 1, 2, 3] rfl rfl (by decide) 9 0 rfl rfl rfl hl.1 rfl (Nat.le_of_ble_eq_true rfl) dX9_slow_26 ⟨hcs.1, hcs.2⟩) (fun r_2 h_3 => ?_)
      rcases h_3 with ⟨h_3, rfl⟩ | ⟨h_3, rfl⟩
      · have h_3 : True := h_3
        refine lv_if_eq (tgt := 84) hx hb dX9_slow_29 (by decide) (fun c_ => absurd c_ (by decide)) (fun _ => ?_)
        refine lv_aload_n hx hb dX9_slow_32 rfl (lv_at hl 2 rfl) ?_
        refine va_get (D := D) (ci := 9) (v := .ref b4) (C := RX9) (T := TX9) (N := 37) hx hb hts hin_X9 hown hK hP 0 rfl rfl 10 (by decide) (hts (.fieldLink RX9 26 "CryOrderModel" "thing" "[I") (List.mem_cons_of_mem _ (List.mem_append_left _ (List.mem_append_left _ (List.mem_of_getElem? (i := 1) rfl))))) (fun _ h9 => h9) rfl dX9_slow_33 ?_
        refine lv_iload_n hx hb dX9_slow_36 rfl (lv_at hl 0 rfl) ?_
        refine va_iald hx hb hK hP 4 3 rfl rfl (vp_in_iff.mpr (by omega)) dX9_slow_37 ?_
        refine lv_topi (fun z_4 ez_4 => ?_)
        refine lv_iload_n hx hb dX9_slow_38 rfl (lv_at hl 3 rfl) ?_
        refine bi_ne (zx := (z_4).toInt) (zy := (p0).toInt) (tgt := 84) hx hb dX9_slow_39 (by decide) rfl rfl (fun c_5 => ?_) (fun c_5 => ?_)
        · obtain ⟨x_6, ex_6⟩ : ∃ z : Int32, z = k + 1 := ⟨_, rfl⟩
          have tx_6 := ad_toInt (x := k) (y := 1) (z := x_6) (zx := (k).toInt) (zy := 1) ex_6 rfl (by decide)
          refine lv_iinc (v := x_6) (lv' := [(3, .int x_6), (2, .int x), (0, .ref h0), (1, .int p0)]) hx hb dX9_slow_84 hl (k := 0) rfl (by rw [ex_6]; rfl) (by decide) rfl (fun ls hl => ?_)
          refine lv_goto (tgt := 16) hx hb dX9_slow_87 (by decide) ?_
          exact ih _ _ _ _ _ _ _ _ (by first | omega | assumption) (by omega) hP hD hS (lv_sub hl [0, 1, 2, 3] rfl)
        · refine lv_aload_n hx hb dX9_slow_42 rfl (lv_at hl 2 rfl) ?_
          refine va_get (D := D) (ci := 9) (v := .int now) (C := RX9) (T := TX9) (N := 37) hx hb hts hin_X9 hown hK hP 0 rfl rfl 0 (by decide) (hts (.fieldLink RX9 100 "CryOrderModel" "now" "I") (List.mem_cons_of_mem _ (List.mem_append_left _ (List.mem_append_left _ (List.mem_of_getElem? (i := 2) rfl))))) (fun _ h9 => h9) rfl dX9_slow_43 ?_
          refine lv_aload_n hx hb dX9_slow_46 rfl (lv_at hl 2 rfl) ?_
          refine va_get (D := D) (ci := 9) (v := .ref b1) (C := RX9) (T := TX9) (N := 37) hx hb hts hin_X9 hown hK hP 0 rfl rfl 7 (by decide) (hts (.fieldLink RX9 16 "CryOrderModel" "came" "[I") (List.mem_cons_of_mem _ (List.mem_append_left _ (List.mem_append_left _ (List.mem_of_getElem? (i := 3) rfl))))) (fun _ h9 => h9) rfl dX9_slow_47 ?_
          refine lv_iload_n hx hb dX9_slow_50 rfl (lv_at hl 0 rfl) ?_
          refine va_iald hx hb hK hP 5 4 rfl rfl (vp_in_iff.mpr (by omega)) dX9_slow_51 ?_
          refine lv_topi (fun z_7 ez_7 => ?_)
          refine lv_isub hx hb dX9_slow_52 ?_
          refine lv_topi (fun z_8 ez_8 => ?_)
          have tz_8 := sb_toInt (zx := (now).toInt) (zy := (z_7).toInt) ez_8 rfl rfl
          refine lv_sipush (v := 200) hx hb dX9_slow_53 (by decide) ?_
          refine bi_lt (zx := (z_8).toInt) (zy := 200) (tgt := 62) hx hb dX9_slow_56 (by decide) rfl (by decide) (fun c_9 => ?_) (fun c_9 => ?_)
          · refine lv_aload_n hx hb dX9_slow_62 rfl (lv_at hl 2 rfl) ?_
            refine lv_iload_n hx hb dX9_slow_63 rfl (lv_at hl 0 rfl) ?_
            refine va_calli (zwV (mc := 0) (ms := 0) (As := [.int k]) (rest := []) (wc := [oC h0 9 [.int now, .int na, .int nsi, .int nti, .int vc, .int vn, .int vt, .ref b1, .ref b2, .ref b3, .ref b4, .ref b5, .ref b6, .ref b7, .ref b8, .ref b9, .ref b10, .ref b11, .ref b12, .ref b13, .ref b14, .ref b15, .ref b16, .ref b17, .ref b18, .int x1, .int x2, .int x3, .ref b19, .ref b20, .ref b21, .int nca, .ref b22, .ref b23, .int ntm, .ref b24, .ref b25], aI b5 d5 200 (f5), aI b8 d8 200 (f8), aI b6 d6 200 (f6)]) ⟨hx, hb, hml, hown, hts⟩ hN hK hP hD (m_score l D H.size h0 b1 b2 b3 b4 b5 b6 b7 b8 b9 b10 b11 b12 b13 b14 b15 b16 b17 b18 b19 b20 b21 b22 b23 b24 b25 now na nsi nti vc vn vt x1 x2 x3 nca ntm d5 d8 d6 ((f5)) ((f8)) ((f6)) k (by first | omega | assumption) (by first | omega | assumption)) (cwV 1 hts gX9_slow_X9_score rfl rfl rfl (by decide +kernel) ⟨Nat.le_trans (m := 4) (Nat.le_of_ble_eq_true rfl) hR.1, Nat.le_trans (m := 87) (Nat.le_of_ble_eq_true rfl) hR.2⟩) [5, 0, 6] [0, 6, 1, 7] rfl rfl (by decide) 9 0 rfl rfl rfl hl.1 rfl (Nat.le_of_ble_eq_true rfl) dX9_slow_64 ⟨hcs.1, hcs.2⟩) hS (fun q _ h => va_free (wc := [oC h0 9 [.int now, .int na, .int nsi, .int nti, .int vc, .int vn, .int vt, .ref b1, .ref b2, .ref b3, .ref b4, .ref b5, .ref b6, .ref b7, .ref b8, .ref b9, .ref b10, .ref b11, .ref b12, .ref b13, .ref b14, .ref b15, .ref b16, .ref b17, .ref b18, .int x1, .int x2, .int x3, .ref b19, .ref b20, .ref b21, .int nca, .ref b22, .ref b23, .int ntm, .ref b24, .ref b25], aI b5 d5 200 (f5), aI b8 d8 200 (f8), aI b6 d6 200 (f6)]) hD hS hA [0, 6, 1, 7] rfl q h) (va_free (wc := [oC h0 9 [.int now, .int na, .int nsi, .int nti, .int vc, .int vn, .int vt, .ref b1, .ref b2, .ref b3, .ref b4, .ref b5, .ref b6, .ref b7, .ref b8, .ref b9, .ref b10, .ref b11, .ref b12, .ref b13, .ref b14, .ref b15, .ref b16, .ref b17, .ref b18, .int x1, .int x2, .int x3, .ref b19, .ref b20, .ref b21, .int nca, .ref b22, .ref b23, .int ntm, .ref b24, .ref b25], aI b5 d5 200 (f5), aI b8 d8 200 (f8), aI b6 d6 200 (f6)]) hD hS hA [0, 6, 1, 7] rfl) (fun r_11 u t H_10 locs1 ht hvm hw hB hz1 hk1 hS1 => ?_)
            obtain ⟨x_12, x_13, x_14, hB, h_15a, h_15b⟩ := hB
            have h_15a : (0 ≤ (x_12).toInt ∧ (x_12).toInt ≤ 200) ∧ (0 ≤ (x_13).toInt ∧ (x_13).toInt ≤ 200) ∧ (0 ≤ (x_14).toInt ∧ (x_14).toInt ≤ 200) := h_15a
            have h_15b : 1 ≤ (x_13).toInt + (x_14).toInt := h_15b
            obtain ⟨hP, hD, hK⟩ := zj (wc := [oC h0 9 [.int now, .int na, .int nsi, .int nti, .int vc, .int vn, .int vt, .ref b1, .ref b2, .ref b3, .ref b4, .ref b5, .ref b6, .ref b7, .ref b8, .ref b9, .ref b10, .ref b11, .ref b12, .ref b13, .ref b14, .ref b15, .ref b16, .ref b17, .ref b18, .int x1, .int x2, .int x3, .ref b19, .ref b20, .ref b21, .int nca, .ref b22, .ref b23, .int ntm, .ref b24, .ref b25], aI b5 d5 200 (f5), aI b8 d8 200 (f8), aI b6 d6 200 (f6)]) (wr := [aI b11 d11 200 (f11), aI b12 d12 200 (f12), aI b4 d4 200 (f4), aI b1 d1 200 (f1)]) (w1 := [oC h0 9 [.int now, .int na, .int nsi, .int nti, .int vc, .int vn, .int vt, .ref b1, .ref b2, .ref b3, .ref b4, .ref b5, .ref b6, .ref b7, .ref b8, .ref b9, .ref b10, .ref b11, .ref b12, .ref b13, .ref b14, .ref b15, .ref b16, .ref b17, .ref b18, .int x_12, .int x_13, .int x_14, .ref b19, .ref b20, .ref b21, .int nca, .ref b22, .ref b23, .int ntm, .ref b24, .ref b25], aI b5 d5 200 ((f5)), aI b8 d8 200 ((f8)), aI b6 d6 200 ((f6))]) hK hP hD hS hA [0, 6, 1, 7] [2, 3, 4, 5] rfl rfl (by decide) (by decide) hk1 ht hvm hB
            have hS := hS1
            have hP := hP.sub (ws' := [oC h0 9 [.int now, .int na, .int nsi, .int nti, .int vc, .int vn, .int vt, .ref b1, .ref b2, .ref b3, .ref b4, .ref b5, .ref b6, .ref b7, .ref b8, .ref b9, .ref b10, .ref b11, .ref b12, .ref b13, .ref b14, .ref b15, .ref b16, .ref b17, .ref b18, .int x_12, .int x_13, .int x_14, .ref b19, .ref b20, .ref b21, .int nca, .ref b22, .ref b23, .int ntm, .ref b24, .ref b25], aI b8 d8 200 ((f8)), aI b11 d11 200 (f11), aI b12 d12 200 (f12), aI b4 d4 200 (f4), aI b1 d1 200 (f1), aI b5 d5 200 ((f5)), aI b6 d6 200 ((f6))]) [4, 6, 0, 1, 2, 3, 5, 7] rfl
            have hD := hD.sub (ws' := [oC h0 9 [.int now, .int na, .int nsi, .int nti, .int vc, .int vn, .int vt, .ref b1, .ref b2, .ref b3, .ref b4, .ref b5, .ref b6, .ref b7, .ref b8, .ref b9, .ref b10, .ref b11, .ref b12, .ref b13, .ref b14, .ref b15, .ref b16, .ref b17, .ref b18, .int x_12, .int x_13, .int x_14, .ref b19, .ref b20, .ref b21, .int nca, .ref b22, .ref b23, .int ntm, .ref b24, .ref b25], aI b8 d8 200 ((f8)), aI b11 d11 200 (f11), aI b12 d12 200 (f12), aI b4 d4 200 (f4), aI b1 d1 200 (f1), aI b5 d5 200 ((f5)), aI b6 d6 200 ((f6))]) [4, 6, 0, 1, 2, 3, 5, 7] (by decide) rfl
            have hP : va_P D vwCl [oC h0 9 [.int now, .int na, .int nsi, .int nti, .int vc, .int vn, .int vt, .ref b1, .ref b2, .ref b3, .ref b4, .ref b5, .ref b6, .ref b7, .ref b8, .ref b9, .ref b10, .ref b11, .ref b12, .ref b13, .ref b14, .ref b15, .ref b16, .ref b17, .ref b18, .int x_12, .int x_13, .int x_14, .ref b19, .ref b20, .ref b21, .int nca, .ref b22, .ref b23, .int ntm, .ref b24, .ref b25], aI b8 d8 200 ((f8)), aI b11 d11 200 (f11), aI b12 d12 200 (f12), aI b4 d4 200 (f4), aI b1 d1 200 (f1), aI b5 d5 200 ((f5)), aI b6 d6 200 ((f6))] H_10 := hP
            have hD : va_D A [oC h0 9 [.int now, .int na, .int nsi, .int nti, .int vc, .int vn, .int vt, .ref b1, .ref b2, .ref b3, .ref b4, .ref b5, .ref b6, .ref b7, .ref b8, .ref b9, .ref b10, .ref b11, .ref b12, .ref b13, .ref b14, .ref b15, .ref b16, .ref b17, .ref b18, .int x_12, .int x_13, .int x_14, .ref b19, .ref b20, .ref b21, .int nca, .ref b22, .ref b23, .int ntm, .ref b24, .ref b25], aI b8 d8 200 ((f8)), aI b11 d11 200 (f11), aI b12 d12 200 (f12), aI b4 d4 200 (f4), aI b1 d1 200 (f1), aI b5 d5 200 ((f5)), aI b6 d6 200 ((f6))] := hD
            have hK : va_K D vwCl [(d8, .int), (d11, .boolean), (d12, .boolean), (d4, .int), (d1, .int), (d5, .int), (d6, .int)] s := hK
            have hr_11 := hw
            refine lv_istore (lv' := [(4, .int r_11), (3, .int k), (2, .int x), (0, .ref h0), (1, .int p0)]) hx hb dX9_slow_67 hl (by decide) rfl (fun ls hl => ?_)
            refine lv_iload hx hb dX9_slow_69 (lv_at hl 0 rfl) ?_
            refine lv_sipush (v := 10000) hx hb dX9_slow_71 (by decide) ?_
            refine bi_lt (zx := (r_11).toInt) (zy := 10000) (tgt := 79) hx hb dX9_slow_74 (by decide) rfl (by decide) (fun c_16 => ?_) (fun c_16 => ?_)
            · refine lv_iload_n hx hb dX9_slow_79 rfl (lv_at hl 2 rfl) ?_
              refine lv_iload hx hb dX9_slow_80 (lv_at hl 0 rfl) ?_
              refine lv_iadd hx hb dX9_slow_82 ?_
              refine lv_topi (fun z_17 ez_17 => ?_)
              have tz_17 := ad_toInt (zx := (x).toInt) (zy := (r_11).toInt) ez_17 rfl rfl
              refine lv_istore_n (lv' := [(2, .int z_17), (4, .int r_11), (3, .int k), (0, .ref h0), (1, .int p0)]) hx hb dX9_slow_83 rfl hl (by decide) rfl (fun ls hl => ?_)
              obtain ⟨x_18, ex_18⟩ : ∃ z : Int32, z = k + 1 := ⟨_, rfl⟩
              have tx_18 := ad_toInt (x := k) (y := 1) (z := x_18) (zx := (k).toInt) (zy := 1) ex_18 rfl (by decide)
              refine lv_iinc (v := x_18) (lv' := [(3, .int x_18), (2, .int z_17), (4, .int r_11), (0, .ref h0), (1, .int p0)]) hx hb dX9_slow_84 hl (k := 2) rfl (by rw [ex_18]; rfl) (by decide) rfl (fun ls hl => ?_)
              refine lv_goto (tgt := 16) hx hb dX9_slow_87 (by decide) ?_
              exact ih _ _ _ _ _ _ _ _ (by first | omega | assumption) (by omega) hP hD hS (lv_sub hl [0, 1, 3, 4] rfl)
            · exact (done_x _ _ _ _ _ _ _ _ hP hD hS (lv_sub hl [1, 2, 3, 4] rfl)).1 
          · refine lv_goto (tgt := 84) hx hb dX9_slow_59 (by decide) ?_
            obtain ⟨x_19, ex_19⟩ : ∃ z : Int32, z = k + 1 := ⟨_, rfl⟩
            have tx_19 := ad_toInt (x := k) (y := 1) (z := x_19) (zx := (k).toInt) (zy := 1) ex_19 rfl (by decide)
            refine lv_iinc (v := x_19) (lv' := [(3, .int x_19), (2, .int x), (0, .ref h0), (1, .int p0)]) hx hb dX9_slow_84 hl (k := 0) rfl (by rw [ex_19]; rfl) (by decide) rfl (fun ls hl => ?_)
            refine lv_goto (tgt := 16) hx hb dX9_slow_87 (by decide) ?_
            exact ih _ _ _ _ _ _ _ _ (by first | omega | assumption) (by omega) hP hD hS (lv_sub hl [0, 1, 2, 3] rfl)
      · have h_3 : True := h_3
        refine lv_if_eq (tgt := 84) hx hb dX9_slow_29 (by decide) (fun _ => ?_) (fun c_ => absurd c_ (by decide))
        obtain ⟨x_20, ex_20⟩ : ∃ z : Int32, z = k + 1 := ⟨_, rfl⟩
        have tx_20 := ad_toInt (x := k) (y := 1) (z := x_20) (zx := (k).toInt) (zy := 1) ex_20 rfl (by decide)
        refine lv_iinc (v := x_20) (lv' := [(3, .int x_20), (2, .int x), (0, .ref h0), (1, .int p0)]) hx hb dX9_slow_84 hl (k := 0) rfl (by rw [ex_20]; rfl) (by decide) rfl (fun ls hl => ?_)
        refine lv_goto (tgt := 16) hx hb dX9_slow_87 (by decide) ?_
        exact ih _ _ _ _ _ _ _ _ (by first | omega | assumption) (by omega) hP hD hS (lv_sub hl [0, 1, 2, 3] rfl)
