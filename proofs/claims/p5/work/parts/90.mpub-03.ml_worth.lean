set_option maxHeartbeats 4000000 in
set_option maxRecDepth 100000 in
theorem ml_worth {p : Program} {l : Launch} {e : Env} {R : Room} {s : State} {m : MethodId} {args : Array Value} {below : List Frame} {meth : Method} {c : Code} {Q : State → Prop} {A : Nat → Prop} {cells slots : Nat} {D : va_G} {H0 : Heap} {h0 : Nat} {b1 : Nat} {b2 : Nat} {b3 : Nat} {b4 : Nat} {b5 : Nat} {b6 : Nat} {b7 : Nat} {b8 : Nat} {b9 : Nat} {b10 : Nat} {b11 : Nat} {b12 : Nat} {b13 : Nat} {b14 : Nat} {b15 : Nat} {b16 : Nat} {b17 : Nat} {b18 : Nat} {b19 : Nat} {b20 : Nat} {b21 : Nat} {b22 : Nat} {b23 : Nat} {b24 : Nat} {b25 : Nat} {now : Int32} {na : Int32} {nsi : Int32} {nti : Int32} {vc : Int32} {vn : Int32} {vt : Int32} {d8 : ClassId} {d11 : ClassId} {d12 : ClassId} {d5 : ClassId} {d6 : ClassId} {d19 : ClassId} {d20 : ClassId} {d21 : ClassId} {d16 : ClassId} {d17 : ClassId} {d18 : ClassId} {d4 : ClassId} {d1 : ClassId} {d22 : ClassId} {d23 : ClassId} {d24 : ClassId} {d25 : ClassId} {f8 : Nat → Int32} {f11 : Nat → Int32} {f12 : Nat → Int32} {f5 : Nat → Int32} {f6 : Nat → Int32} {f16 : Nat → Int32} {f17 : Nat → Int32} {f18 : Nat → Int32} {f4 : Nat → Int32} {f1 : Nat → Int32} {p0 : Int32} {p1 : Int32} {x1 : Int32} {x2 : Int32} {x3 : Int32} {x4 : Int32} {x5 : Int32} {g19 : Nat → Int32} {g20 : Nat → Int32} {g21 : Nat → Int32} {g22 : Nat → Int32} {g23 : Nat → Int32} {g24 : Nat → Int32} {g25 : Nat → Int32} (hx : p.tables.exec = Jvm.exec) (hb : c.code = cX9_worth) (hts : ∀ w ∈ wsX9_worth, w.before args s = true) (hml : c.maxLocals = 6) (hown : s.vm.findClass RX9 = some m.cls) (hN : Nq s) (hK : va_K D vwCl [(d8, .int), (d11, .boolean), (d12, .boolean), (d5, .int), (d6, .int), (d19, .int), (d20, .int), (d21, .int), (d16, .int), (d17, .int), (d18, .boolean), (d4, .int), (d1, .int), (d22, .int), (d23, .int), (d24, .int), (d25, .int)] s) (hA : ∀ q : Nat, H0.size ≤ q → A q) (hR : 3 ≤ R.frames ∧ 64 ≤ R.locals) (hcs : cells ≤ R.cells ∧ slots ≤ R.slots) (hna : 0 ≤ (na).toInt ∧ (na).toInt ≤ 200) (hx4 : 0 ≤ (x4).toInt ∧ (x4).toInt ≤ (na).toInt) (hinr : gqR g21 x4 na) (hx5 : 0 ≤ (x5).toInt ∧ (x5).toInt ≤ 17) (done_116 : ∀ (k : Int32) (x : Int32) (H : Heap) (locs : List Loc) (ls : Array Slot), va_P D vwCl [oC h0 9 [.int now, .int na, .int nsi, .int nti, .int vc, .int vn, .int vt, .ref b1, .ref b2, .ref b3, .ref b4, .ref b5, .ref b6, .ref b7, .ref b8, .ref b9, .ref b10, .ref b11, .ref b12, .ref b13, .ref b14, .ref b15, .ref b16, .ref b17, .ref b18, .int x1, .int x2, .int x3, .ref b19, .ref b20, .ref b21, .int x4, .ref b22, .ref b23, .int x5, .ref b24, .ref b25], aI b8 d8 200 (f8), aI b11 d11 200 (f11), aI b12 d12 200 (f12), aI b5 d5 200 (f5), aI b6 d6 200 (f6), aI b19 d19 200 (g19), aI b20 d20 200 (g20), aI b21 d21 200 (g21), aI b16 d16 60 (f16), aI b17 d17 60 (f17), aI b18 d18 60 (f18), aI b4 d4 200 (f4), aI b1 d1 200 (f1), aI b22 d22 20 (g22), aI b23 d23 12 (g23), aI b24 d24 12 (g24), aI b25 d25 12 (g25)] H → va_D A [oC h0 9 [.int now, .int na, .int nsi, .int nti, .int vc, .int vn, .int vt, .ref b1, .ref b2, .ref b3, .ref b4, .ref b5, .ref b6, .ref b7, .ref b8, .ref b9, .ref b10, .ref b11, .ref b12, .ref b13, .ref b14, .ref b15, .ref b16, .ref b17, .ref b18, .int x1, .int x2, .int x3, .ref b19, .ref b20, .ref b21, .int x4, .ref b22, .ref b23, .int x5, .ref b24, .ref b25], aI b8 d8 200 (f8), aI b11 d11 200 (f11), aI b12 d12 200 (f12), aI b5 d5 200 (f5), aI b6 d6 200 (f6), aI b19 d19 200 (g19), aI b20 d20 200 (g20), aI b21 d21 200 (g21), aI b16 d16 60 (f16), aI b17 d17 60 (f17), aI b18 d18 60 (f18), aI b4 d4 200 (f4), aI b1 d1 200 (f1), aI b22 d22 20 (g22), aI b23 d23 12 (g23), aI b24 d24 12 (g24), aI b25 d25 12 (g25)] → va_S A H0 H locs → lv_has ls 6 [(4, .int k), (3, .int x), (0, .ref h0), (1, .int p0), (2, .int p1)] → W p l e R s m args below meth c H locs cells slots Q (F0 m 116 ls [])) : ∀ (n : Nat), ∀ (k : Int32) (x : Int32) (H : Heap) (locs : List Loc) (ls : Array Slot), (0 ≤ (k).toInt) → ((200 - (k).toInt).toNat < n) → va_P D vwCl [oC h0 9 [.int now, .int na, .int nsi, .int nti, .int vc, .int vn, .int vt, .ref b1, .ref b2, .ref b3, .ref b4, .ref b5, .ref b6, .ref b7, .ref b8, .ref b9, .ref b10, .ref b11, .ref b12, .ref b13, .ref b14, .ref b15, .ref b16, .ref b17, .ref b18, .int x1, .int x2, .int x3, .ref b19, .ref b20, .ref b21, .int x4, .ref b22, .ref b23, .int x5, .ref b24, .ref b25], aI b8 d8 200 (f8), aI b11 d11 200 (f11), aI b12 d12 200 (f12), aI b5 d5 200 (f5), aI b6 d6 200 (f6), aI b19 d19 200 (g19), aI b20 d20 200 (g20), aI b21 d21 200 (g21), aI b16 d16 60 (f16), aI b17 d17 60 (f17), aI b18 d18 60 (f18), aI b4 d4 200 (f4), aI b1 d1 200 (f1), aI b22 d22 20 (g22), aI b23 d23 12 (g23), aI b24 d24 12 (g24), aI b25 d25 12 (g25)] H → va_D A [oC h0 9 [.int now, .int na, .int nsi, .int nti, .int vc, .int vn, .int vt, .ref b1, .ref b2, .ref b3, .ref b4, .ref b5, .ref b6, .ref b7, .ref b8, .ref b9, .ref b10, .ref b11, .ref b12, .ref b13, .ref b14, .ref b15, .ref b16, .ref b17, .ref b18, .int x1, .int x2, .int x3, .ref b19, .ref b20, .ref b21, .int x4, .ref b22, .ref b23, .int x5, .ref b24, .ref b25], aI b8 d8 200 (f8), aI b11 d11 200 (f11), aI b12 d12 200 (f12), aI b5 d5 200 (f5), aI b6 d6 200 (f6), aI b19 d19 200 (g19), aI b20 d20 200 (g20), aI b21 d21 200 (g21), aI b16 d16 60 (f16), aI b17 d17 60 (f17), aI b18 d18 60 (f18), aI b4 d4 200 (f4), aI b1 d1 200 (f1), aI b22 d22 20 (g22), aI b23 d23 12 (g23), aI b24 d24 12 (g24), aI b25 d25 12 (g25)] → va_S A H0 H locs → lv_has ls 6 [(4, .int k), (3, .int x), (0, .ref h0), (1, .int p0), (2, .int p1)] → W p l e R s m args below meth c H locs cells slots Q (F0 m 28 ls []) := by
  have hin_X9 : ∀ w ∈ u_ws RX9 TX9 37, w ∈ wsX9_worth := fun w h => List.mem_cons_of_mem _ (List.mem_append_right _ (h))
  intro n
  induction n with
  | zero => intro k x H locs ls hk hmu hP hD hS hl; exact absurd hmu (Nat.not_lt_zero _)
  | succ n ih =>
    intro k x H locs ls hk hmu hP hD hS hl
    refine lv_iload hx hb dX9_worth_28 (lv_at hl 0 rfl) ?_
    refine lv_aload_n hx hb dX9_worth_30 rfl (lv_at hl 2 rfl) ?_
    refine va_get (D := D) (ci := 9) (v := .int x4) (C := RX9) (T := TX9) (N := 37) hx hb hts hin_X9 hown hK hP 0 rfl rfl 31 (by decide) (hts (.fieldLink RX9 165 "CryOrderModel" "cases" "I") (List.mem_cons_of_mem _ (List.mem_append_left _ (List.mem_append_left _ (List.mem_of_getElem? (i := 0) rfl))))) (fun _ h9 => h9) rfl dX9_worth_31 ?_
    refine bi_ge (zx := (k).toInt) (zy := (x4).toInt) (tgt := 116) hx hb dX9_worth_34 (by decide) rfl rfl (fun c_1 => ?_) (fun c_1 => ?_)
    · exact done_116 _ _ _ _ _  hP hD hS (lv_sub hl [0, 1, 2, 3, 4] rfl)
    · refine lv_aload_n hx hb dX9_worth_37 rfl (lv_at hl 2 rfl) ?_
      refine lv_aload_n hx hb dX9_worth_38 rfl (lv_at hl 2 rfl) ?_
      refine va_get (D := D) (ci := 9) (v := .ref b21) (C := RX9) (T := TX9) (N := 37) hx hb hts hin_X9 hown hK hP 0 rfl rfl 30 (by decide) (hts (.fieldLink RX9 78 "CryOrderModel" "order" "[I") (List.mem_cons_of_mem _ (List.mem_append_left _ (List.mem_append_left _ (List.mem_of_getElem? (i := 1) rfl))))) (fun _ h9 => h9) rfl dX9_worth_39 ?_
      refine lv_iload hx hb dX9_worth_42 (lv_at hl 0 rfl) ?_
      refine va_iald hx hb hK hP 8 7 rfl rfl (vp_in_iff.mpr (by omega)) dX9_worth_44 ?_
      refine lv_topi (fun z_2 ez_2 => ?_)
      have rz_2 := gqR_get hinr ez_2 (by omega) (by omega)
      refine vp_callSi (zrV (As := [.int z_2]) (rest := []) (wc := [oC h0 9 [.int now, .int na, .int nsi, .int nti, .int vc, .int vn, .int vt, .ref b1, .ref b2, .ref b3, .ref b4, .ref b5, .ref b6, .ref b7, .ref b8, .ref b9, .ref b10, .ref b11, .ref b12, .ref b13, .ref b14, .ref b15, .ref b16, .ref b17, .ref b18, .int x1, .int x2, .int x3, .ref b19, .ref b20, .ref b21, .int x4, .ref b22, .ref b23, .int x5, .ref b24, .ref b25], aI b22 d22 20 (g22)]) ⟨hx, hb, hml, hown, hts⟩ hN hK hP hD (m_isTaken l D h0 b1 b2 b3 b4 b5 b6 b7 b8 b9 b10 b11 b12 b13 b14 b15 b16 b17 b18 b19 b20 b21 b22 b23 b24 b25 now na nsi nti vc vn vt x1 x2 x3 x4 x5 d22 ((g22)) z_2 (by first | omega | assumption)) (cwV 1 hts gX9_worth_X9_isTaken rfl rfl rfl (by decide +kernel) ⟨Nat.le_trans (m := 3) (Nat.le_of_ble_eq_true rfl) hR.1, Nat.le_trans (m := 64) (Nat.le_of_ble_eq_true rfl) hR.2⟩) [13] [0, 14] rfl rfl (by decide) 9 0 rfl rfl rfl hl.1 rfl (Nat.le_of_ble_eq_true rfl) dX9_worth_45 ⟨hcs.1, hcs.2⟩) (fun r_3 h_4 => ?_)
      rcases h_4 with ⟨h_4, rfl⟩ | ⟨h_4, rfl⟩
      · have h_4 : True := h_4
        refine lv_istore (lv' := [(5, .int 1), (4, .int k), (3, .int x), (0, .ref h0), (1, .int p0), (2, .int p1)]) hx hb dX9_worth_48 hl (by decide) rfl (fun ls hl => ?_)
        refine lv_iload_n hx hb dX9_worth_50 rfl (lv_at hl 2 rfl) ?_
        refine lv_iload_n hx hb dX9_worth_51 rfl (lv_at hl 5 rfl) ?_
        refine lv_iconst (v := 2) hx hb dX9_worth_52 (by decide) ?_
        refine bi_ne (zx := (p1).toInt) (zy := 2) (tgt := 79) hx hb dX9_worth_53 (by decide) rfl (by decide) (fun c_5 => ?_) (fun c_5 => ?_)
        · refine lv_iload hx hb dX9_worth_79 (lv_at hl 0 rfl) ?_
          refine lv_iload_n hx hb dX9_worth_81 rfl (lv_at hl 5 rfl) ?_
          refine bz_ne (zx := (p1).toInt) (tgt := 89) hx hb dX9_worth_82 (by decide) rfl (fun c_6 => ?_) (fun c_6 => ?_)
          · refine lv_iconst (v := 0) hx hb dX9_worth_89 (by decide) ?_
            refine lv_icmp_ne (tgt := 107) hx hb dX9_worth_90 (by decide) (fun _ => ?_) (fun c_ => absurd c_ (by decide))
            refine lv_iconst (v := 0) hx hb dX9_worth_107 (by decide) ?_
            refine lv_iadd hx hb dX9_worth_108 ?_
            refine lv_topi (fun z_7 ez_7 => ?_)
            have tz_7 := ad_toInt (zx := (x).toInt) (zy := 0) ez_7 rfl (by decide)
            refine lv_istore_n (lv' := [(3, .int z_7), (5, .int 1), (4, .int k), (0, .ref h0), (1, .int p0), (2, .int p1)]) hx hb dX9_worth_109 rfl hl (by decide) rfl (fun ls hl => ?_)
            obtain ⟨x_8, ex_8⟩ : ∃ z : Int32, z = k + 1 := ⟨_, rfl⟩
            have tx_8 := ad_toInt (x := k) (y := 1) (z := x_8) (zx := (k).toInt) (zy := 1) ex_8 rfl (by decide)
            refine lv_iinc (v := x_8) (lv' := [(4, .int x_8), (3, .int z_7), (5, .int 1), (0, .ref h0), (1, .int p0), (2, .int p1)]) hx hb dX9_worth_110 hl (k := 2) rfl (by rw [ex_8]; rfl) (by decide) rfl (fun ls hl => ?_)
            refine lv_goto (tgt := 28) hx hb dX9_worth_113 (by decide) ?_
            exact ih _ _ _ _ _ (by first | omega | assumption) (by omega) hP hD hS (lv_sub hl [0, 1, 3, 4, 5] rfl)
          · refine lv_iconst (v := 1) hx hb dX9_worth_85 (by decide) ?_
            refine lv_goto (tgt := 90) hx hb dX9_worth_86 (by decide) ?_
            refine lv_icmp_ne (tgt := 107) hx hb dX9_worth_90 (by decide) (fun c_ => absurd c_ (by decide)) (fun _ => ?_)
            refine lv_aload_n hx hb dX9_worth_93 rfl (lv_at hl 3 rfl) ?_
            refine lv_aload_n hx hb dX9_worth_94 rfl (lv_at hl 3 rfl) ?_
            refine va_get (D := D) (ci := 9) (v := .ref b21) (C := RX9) (T := TX9) (N := 37) hx hb hts hin_X9 hown hK hP 0 rfl rfl 30 (by decide) (hts (.fieldLink RX9 78 "CryOrderModel" "order" "[I") (List.mem_cons_of_mem _ (List.mem_append_left _ (List.mem_append_left _ (List.mem_of_getElem? (i := 1) rfl))))) (fun _ h9 => h9) rfl dX9_worth_95 ?_
            refine lv_iload hx hb dX9_worth_98 (lv_at hl 1 rfl) ?_
            refine va_iald hx hb hK hP 8 7 rfl rfl (vp_in_iff.mpr (by omega)) dX9_worth_100 ?_
            refine lv_topi (fun z_9 ez_9 => ?_)
            have qz_9 : (z_9).toInt = (z_2).toInt := by rw [ez_9, ez_2]
            have rz_9 := gqR_get hinr ez_9 (by omega) (by omega)
            refine vp_callSi (zrV (As := [.int z_9]) (rest := [.int x]) (wc := [oC h0 9 [.int now, .int na, .int nsi, .int nti, .int vc, .int vn, .int vt, .ref b1, .ref b2, .ref b3, .ref b4, .ref b5, .ref b6, .ref b7, .ref b8, .ref b9, .ref b10, .ref b11, .ref b12, .ref b13, .ref b14, .ref b15, .ref b16, .ref b17, .ref b18, .int x1, .int x2, .int x3, .ref b19, .ref b20, .ref b21, .int x4, .ref b22, .ref b23, .int x5, .ref b24, .ref b25], aI b19 d19 200 (g19), aI b20 d20 200 (g20)]) ⟨hx, hb, hml, hown, hts⟩ hN hK hP hD (m_scoreOf l D h0 b1 b2 b3 b4 b5 b6 b7 b8 b9 b10 b11 b12 b13 b14 b15 b16 b17 b18 b19 b20 b21 b22 b23 b24 b25 now na nsi nti vc vn vt x1 x2 x3 x4 x5 d19 d20 ((g19)) ((g20)) z_9 (by first | omega | assumption) (by first | omega | assumption)) (cwV 1 hts gX9_worth_X9_scoreOf rfl rfl rfl (by decide +kernel) ⟨Nat.le_trans (m := 3) (Nat.le_of_ble_eq_true rfl) hR.1, Nat.le_trans (m := 64) (Nat.le_of_ble_eq_true rfl) hR.2⟩) [5, 6] [0, 6, 7] rfl rfl (by decide) 9 0 rfl rfl rfl hl.1 rfl (Nat.le_of_ble_eq_true rfl) dX9_worth_101 ⟨hcs.1, hcs.2⟩) (fun r_10 h_11 => ?_)
            refine lv_goto (tgt := 108) hx hb dX9_worth_104 (by decide) ?_
            refine lv_iadd hx hb dX9_worth_108 ?_
            refine lv_topi (fun z_12 ez_12 => ?_)
            have tz_12 := ad_toInt (zx := (x).toInt) (zy := (r_10).toInt) ez_12 rfl rfl
            refine lv_istore_n (lv' := [(3, .int z_12), (5, .int 1), (4, .int k), (0, .ref h0), (1, .int p0), (2, .int p1)]) hx hb dX9_worth_109 rfl hl (by decide) rfl (fun ls hl => ?_)
            obtain ⟨x_13, ex_13⟩ : ∃ z : Int32, z = k + 1 := ⟨_, rfl⟩
            have tx_13 := ad_toInt (x := k) (y := 1) (z := x_13) (zx := (k).toInt) (zy := 1) ex_13 rfl (by decide)
            refine lv_iinc (v := x_13) (lv' := [(4, .int x_13), (3, .int z_12), (5, .int 1), (0, .ref h0), (1, .int p0), (2, .int p1)]) hx hb dX9_worth_110 hl (k := 2) rfl (by rw [ex_13]; rfl) (by decide) rfl (fun ls hl => ?_)
            refine lv_goto (tgt := 28) hx hb dX9_worth_113 (by decide) ?_
            exact ih _ _ _ _ _ (by first | omega | assumption) (by omega) hP hD hS (lv_sub hl [0, 1, 3, 4, 5] rfl)
        · refine lv_iload hx hb dX9_worth_56 (lv_at hl 0 rfl) ?_
          refine lv_if_eq (tgt := 75) hx hb dX9_worth_58 (by decide) (fun c_ => absurd c_ (by decide)) (fun _ => ?_)
          refine lv_aload_n hx hb dX9_worth_61 rfl (lv_at hl 3 rfl) ?_
          refine lv_aload_n hx hb dX9_worth_62 rfl (lv_at hl 3 rfl) ?_
          refine va_get (D := D) (ci := 9) (v := .ref b21) (C := RX9) (T := TX9) (N := 37) hx hb hts hin_X9 hown hK hP 0 rfl rfl 30 (by decide) (hts (.fieldLink RX9 78 "CryOrderModel" "order" "[I") (List.mem_cons_of_mem _ (List.mem_append_left _ (List.mem_append_left _ (List.mem_of_getElem? (i := 1) rfl))))) (fun _ h9 => h9) rfl dX9_worth_63 ?_
          refine lv_iload hx hb dX9_worth_66 (lv_at hl 1 rfl) ?_
          refine va_iald hx hb hK hP 8 7 rfl rfl (vp_in_iff.mpr (by omega)) dX9_worth_68 ?_
          refine lv_topi (fun z_14 ez_14 => ?_)
          have qz_14 : (z_14).toInt = (z_2).toInt := by rw [ez_14, ez_2]
          have rz_14 := gqR_get hinr ez_14 (by omega) (by omega)
          refine vp_callSi (zrV (As := [.int z_14]) (rest := [.int x]) (wc := [oC h0 9 [.int now, .int na, .int nsi, .int nti, .int vc, .int vn, .int vt, .ref b1, .ref b2, .ref b3, .ref b4, .ref b5, .ref b6, .ref b7, .ref b8, .ref b9, .ref b10, .ref b11, .ref b12, .ref b13, .ref b14, .ref b15, .ref b16, .ref b17, .ref b18, .int x1, .int x2, .int x3, .ref b19, .ref b20, .ref b21, .int x4, .ref b22, .ref b23, .int x5, .ref b24, .ref b25], aI b19 d19 200 (g19)]) ⟨hx, hb, hml, hown, hts⟩ hN hK hP hD (m_minutesOf l D h0 b1 b2 b3 b4 b5 b6 b7 b8 b9 b10 b11 b12 b13 b14 b15 b16 b17 b18 b19 b20 b21 b22 b23 b24 b25 now na nsi nti vc vn vt x1 x2 x3 x4 x5 d19 ((g19)) z_14 (by first | omega | assumption) (by first | omega | assumption)) (cwV 1 hts gX9_worth_X9_minutesOf rfl rfl rfl (by decide +kernel) ⟨Nat.le_trans (m := 3) (Nat.le_of_ble_eq_true rfl) hR.1, Nat.le_trans (m := 64) (Nat.le_of_ble_eq_true rfl) hR.2⟩) [5] [0, 6] rfl rfl (by decide) 9 0 rfl rfl rfl hl.1 rfl (Nat.le_of_ble_eq_true rfl) dX9_worth_69 ⟨hcs.1, hcs.2⟩) (fun r_15 h_16 => ?_)
          refine lv_goto (tgt := 108) hx hb dX9_worth_72 (by decide) ?_
          refine lv_iadd hx hb dX9_worth_108 ?_
          refine lv_topi (fun z_17 ez_17 => ?_)
          have tz_17 := ad_toInt (zx := (x).toInt) (zy := (r_15).toInt) ez_17 rfl rfl
          refine lv_istore_n (lv' := [(3, .int z_17), (5, .int 1), (4, .int k), (0, .ref h0), (1, .int p0), (2, .int p1)]) hx hb dX9_worth_109 rfl hl (by decide) rfl (fun ls hl => ?_)
          obtain ⟨x_18, ex_18⟩ : ∃ z : Int32, z = k + 1 := ⟨_, rfl⟩
          have tx_18 := ad_toInt (x := k) (y := 1) (z := x_18) (zx := (k).toInt) (zy := 1) ex_18 rfl (by decide)
          refine lv_iinc (v := x_18) (lv' := [(4, .int x_18), (3, .int z_17), (5, .int 1), (0, .ref h0), (1, .int p0), (2, .int p1)]) hx hb dX9_worth_110 hl (k := 2) rfl (by rw [ex_18]; rfl) (by decide) rfl (fun ls hl => ?_)
          refine lv_goto (tgt := 28) hx hb dX9_worth_113 (by decide) ?_
          exact ih _ _ _ _ _ (by first | omega | assumption) (by omega) hP hD hS (lv_sub hl [0, 1, 3, 4, 5] rfl)
      · have h_4 : True := h_4
        refine lv_istore (lv' := [(5, .int 0), (4, .int k), (3, .int x), (0, .ref h0), (1, .int p0), (2, .int p1)]) hx hb dX9_worth_48 hl (by decide) rfl (fun ls hl => ?_)
        refine lv_iload_n hx hb dX9_worth_50 rfl (lv_at hl 2 rfl) ?_
        refine lv_iload_n hx hb dX9_worth_51 rfl (lv_at hl 5 rfl) ?_
        refine lv_iconst (v := 2) hx hb dX9_worth_52 (by decide) ?_
        refine bi_ne (zx := (p1).toInt) (zy := 2) (tgt := 79) hx hb dX9_worth_53 (by decide) rfl (by decide) (fun c_19 => ?_) (fun c_19 => ?_)
        · refine lv_iload hx hb dX9_worth_79 (lv_at hl 0 rfl) ?_
          refine lv_iload_n hx hb dX9_worth_81 rfl (lv_at hl 5 rfl) ?_
          refine bz_ne (zx := (p1).toInt) (tgt := 89) hx hb dX9_worth_82 (by decide) rfl (fun c_20 => ?_) (fun c_20 => ?_)
          · refine lv_iconst (v := 0) hx hb dX9_worth_89 (by decide) ?_
            refine lv_icmp_ne (tgt := 107) hx hb dX9_worth_90 (by decide) (fun c_ => absurd c_ (by decide)) (fun _ => ?_)
            refine lv_aload_n hx hb dX9_worth_93 rfl (lv_at hl 3 rfl) ?_
            refine lv_aload_n hx hb dX9_worth_94 rfl (lv_at hl 3 rfl) ?_
            refine va_get (D := D) (ci := 9) (v := .ref b21) (C := RX9) (T := TX9) (N := 37) hx hb hts hin_X9 hown hK hP 0 rfl rfl 30 (by decide) (hts (.fieldLink RX9 78 "CryOrderModel" "order" "[I") (List.mem_cons_of_mem _ (List.mem_append_left _ (List.mem_append_left _ (List.mem_of_getElem? (i := 1) rfl))))) (fun _ h9 => h9) rfl dX9_worth_95 ?_
            refine lv_iload hx hb dX9_worth_98 (lv_at hl 1 rfl) ?_
            refine va_iald hx hb hK hP 8 7 rfl rfl (vp_in_iff.mpr (by omega)) dX9_worth_100 ?_
            refine lv_topi (fun z_21 ez_21 => ?_)
            have qz_21 : (z_21).toInt = (z_2).toInt := by rw [ez_21, ez_2]
            have rz_21 := gqR_get hinr ez_21 (by omega) (by omega)
            refine vp_callSi (zrV (As := [.int z_21]) (rest := [.int x]) (wc := [oC h0 9 [.int now, .int na, .int nsi, .int nti, .int vc, .int vn, .int vt, .ref b1, .ref b2, .ref b3, .ref b4, .ref b5, .ref b6, .ref b7, .ref b8, .ref b9, .ref b10, .ref b11, .ref b12, .ref b13, .ref b14, .ref b15, .ref b16, .ref b17, .ref b18, .int x1, .int x2, .int x3, .ref b19, .ref b20, .ref b21, .int x4, .ref b22, .ref b23, .int x5, .ref b24, .ref b25], aI b19 d19 200 (g19), aI b20 d20 200 (g20)]) ⟨hx, hb, hml, hown, hts⟩ hN hK hP hD (m_scoreOf l D h0 b1 b2 b3 b4 b5 b6 b7 b8 b9 b10 b11 b12 b13 b14 b15 b16 b17 b18 b19 b20 b21 b22 b23 b24 b25 now na nsi nti vc vn vt x1 x2 x3 x4 x5 d19 d20 ((g19)) ((g20)) z_21 (by first | omega | assumption) (by first | omega | assumption)) (cwV 1 hts gX9_worth_X9_scoreOf rfl rfl rfl (by decide +kernel) ⟨Nat.le_trans (m := 3) (Nat.le_of_ble_eq_true rfl) hR.1, Nat.le_trans (m := 64) (Nat.le_of_ble_eq_true rfl) hR.2⟩) [5, 6] [0, 6, 7] rfl rfl (by decide) 9 0 rfl rfl rfl hl.1 rfl (Nat.le_of_ble_eq_true rfl) dX9_worth_101 ⟨hcs.1, hcs.2⟩) (fun r_22 h_23 => ?_)
            refine lv_goto (tgt := 108) hx hb dX9_worth_104 (by decide) ?_
            refine lv_iadd hx hb dX9_worth_108 ?_
            refine lv_topi (fun z_24 ez_24 => ?_)
            have tz_24 := ad_toInt (zx := (x).toInt) (zy := (r_22).toInt) ez_24 rfl rfl
            refine lv_istore_n (lv' := [(3, .int z_24), (5, .int 0), (4, .int k), (0, .ref h0), (1, .int p0), (2, .int p1)]) hx hb dX9_worth_109 rfl hl (by decide) rfl (fun ls hl => ?_)
            obtain ⟨x_25, ex_25⟩ : ∃ z : Int32, z = k + 1 := ⟨_, rfl⟩
            have tx_25 := ad_toInt (x := k) (y := 1) (z := x_25) (zx := (k).toInt) (zy := 1) ex_25 rfl (by decide)
            refine lv_iinc (v := x_25) (lv' := [(4, .int x_25), (3, .int z_24), (5, .int 0), (0, .ref h0), (1, .int p0), (2, .int p1)]) hx hb dX9_worth_110 hl (k := 2) rfl (by rw [ex_25]; rfl) (by decide) rfl (fun ls hl => ?_)
            refine lv_goto (tgt := 28) hx hb dX9_worth_113 (by decide) ?_
            exact ih _ _ _ _ _ (by first | omega | assumption) (by omega) hP hD hS (lv_sub hl [0, 1, 3, 4, 5] rfl)
          · refine lv_iconst (v := 1) hx hb dX9_worth_85 (by decide) ?_
            refine lv_goto (tgt := 90) hx hb dX9_worth_86 (by decide) ?_
            refine lv_icmp_ne (tgt := 107) hx hb dX9_worth_90 (by decide) (fun _ => ?_) (fun c_ => absurd c_ (by decide))
            refine lv_iconst (v := 0) hx hb dX9_worth_107 (by decide) ?_
            refine lv_iadd hx hb dX9_worth_108 ?_
            refine lv_topi (fun z_26 ez_26 => ?_)
            have tz_26 := ad_toInt (zx := (x).toInt) (zy := 0) ez_26 rfl (by decide)
            refine lv_istore_n (lv' := [(3, .int z_26), (5, .int 0), (4, .int k), (0, .ref h0), (1, .int p0), (2, .int p1)]) hx hb dX9_worth_109 rfl hl (by decide) rfl (fun ls hl => ?_)
            obtain ⟨x_27, ex_27⟩ : ∃ z : Int32, z = k + 1 := ⟨_, rfl⟩
            have tx_27 := ad_toInt (x := k) (y := 1) (z := x_27) (zx := (k).toInt) (zy := 1) ex_27 rfl (by decide)
            refine lv_iinc (v := x_27) (lv' := [(4, .int x_27), (3, .int z_26), (5, .int 0), (0, .ref h0), (1, .int p0), (2, .int p1)]) hx hb dX9_worth_110 hl (k := 2) rfl (by rw [ex_27]; rfl) (by decide) rfl (fun ls hl => ?_)
            refine lv_goto (tgt := 28) hx hb dX9_worth_113 (by decide) ?_
            exact ih _ _ _ _ _ (by first | omega | assumption) (by omega) hP hD hS (lv_sub hl [0, 1, 3, 4, 5] rfl)
        · refine lv_iload hx hb dX9_worth_56 (lv_at hl 0 rfl) ?_
          refine lv_if_eq (tgt := 75) hx hb dX9_worth_58 (by decide) (fun _ => ?_) (fun c_ => absurd c_ (by decide))
          refine lv_iconst (v := 0) hx hb dX9_worth_75 (by decide) ?_
          refine lv_goto (tgt := 108) hx hb dX9_worth_76 (by decide) ?_
          refine lv_iadd hx hb dX9_worth_108 ?_
          refine lv_topi (fun z_28 ez_28 => ?_)
          have tz_28 := ad_toInt (zx := (x).toInt) (zy := 0) ez_28 rfl (by decide)
          refine lv_istore_n (lv' := [(3, .int z_28), (5, .int 0), (4, .int k), (0, .ref h0), (1, .int p0), (2, .int p1)]) hx hb dX9_worth_109 rfl hl (by decide) rfl (fun ls hl => ?_)
          obtain ⟨x_29, ex_29⟩ : ∃ z : Int32, z = k + 1 := ⟨_, rfl⟩
          have tx_29 := ad_toInt (x := k) (y := 1) (z := x_29) (zx := (k).toInt) (zy := 1) ex_29 rfl (by decide)
          refine lv_iinc (v := x_29) (lv' := [(4, .int x_29), (3, .int z_28), (5, .int 0), (0, .ref h0), (1, .int p0), (2, .int p1)]) hx hb dX9_worth_110 hl (k := 2) rfl (by rw [ex_29]; rfl) (by decide) rfl (fun ls hl => ?_)
          refine lv_goto (tgt := 28) hx hb dX9_worth_113 (by decide) ?_
          exact ih _ _ _ _ _ (by first | omega | assumption) (by omega) hP hD hS (lv_sub hl [0, 1, 3, 4, 5] rfl)
