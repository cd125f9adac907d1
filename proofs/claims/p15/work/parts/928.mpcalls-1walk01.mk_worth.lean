set_option maxHeartbeats 4000000 in
set_option maxRecDepth 100000 in
theorem mk_worth {p : Program} {l : Launch} {e : Env} {R : Room} {s : State} {m : MethodId} {args : Array Value} {below : List Frame} {meth : Method} {c : Code} {Q : State → Prop} {A : Nat → Prop} {cells slots : Nat} {D : va_G} {H0 : Heap} {h0 : Nat} {b1 : Nat} {b2 : Nat} {b3 : Nat} {b4 : Nat} {b5 : Nat} {b6 : Nat} {b7 : Nat} {b8 : Nat} {b9 : Nat} {b10 : Nat} {b11 : Nat} {b12 : Nat} {b13 : Nat} {b14 : Nat} {b15 : Nat} {b16 : Nat} {b17 : Nat} {b18 : Nat} {b19 : Nat} {b20 : Nat} {b21 : Nat} {b22 : Nat} {b23 : Nat} {b24 : Nat} {b25 : Nat} {now : Int32} {na : Int32} {nsi : Int32} {nti : Int32} {vc : Int32} {vn : Int32} {vt : Int32} {d8 : ClassId} {d11 : ClassId} {d12 : ClassId} {d5 : ClassId} {d6 : ClassId} {d19 : ClassId} {d20 : ClassId} {d21 : ClassId} {d16 : ClassId} {d17 : ClassId} {d18 : ClassId} {d4 : ClassId} {d1 : ClassId} {d22 : ClassId} {d23 : ClassId} {d24 : ClassId} {d25 : ClassId} {f8 : Nat → Int32} {f11 : Nat → Int32} {f12 : Nat → Int32} {f5 : Nat → Int32} {f6 : Nat → Int32} {f16 : Nat → Int32} {f17 : Nat → Int32} {f18 : Nat → Int32} {f4 : Nat → Int32} {f1 : Nat → Int32} {p0 : Int32} {p1 : Int32} {x1 : Int32} {x2 : Int32} {x3 : Int32} {x4 : Int32} {x5 : Int32} {g19 : Nat → Int32} {g20 : Nat → Int32} {g21 : Nat → Int32} {g22 : Nat → Int32} {g23 : Nat → Int32} {g24 : Nat → Int32} {g25 : Nat → Int32} {V : Nat → Nat → Int} {Y : Nat → Nat → Int} {cc : Nat → Nat} {o : Nat → Nat} {tk : Nat → Nat} (hx : p.tables.exec = Jvm.exec) (hb : c.code = cX9_worth) (hts : ∀ w ∈ wsX9_worth, w.before args s = true) (hml : c.maxLocals = 6) (hown : s.vm.findClass RX9 = some m.cls) (hN : Nq s) (hK : va_K D vwCl [(d8, .int), (d11, .boolean), (d12, .boolean), (d5, .int), (d6, .int), (d19, .int), (d20, .int), (d21, .int), (d16, .int), (d17, .int), (d18, .boolean), (d4, .int), (d1, .int), (d22, .int), (d23, .int), (d24, .int), (d25, .int)] s) (hA : ∀ q : Nat, H0.size ≤ q → A q) (hR : 3 ≤ R.frames ∧ 64 ≤ R.locals) (hcs : cells ≤ R.cells ∧ slots ≤ R.slots) (hna : 0 ≤ (na).toInt ∧ (na).toInt ≤ 200) (hx4 : 0 ≤ (x4).toInt ∧ (x4).toInt ≤ (na).toInt) (hoi : oI g21 o (x4).toInt.toNat) (hon : ∀ j, j < (x4).toInt.toNat → o j < (na).toInt.toNat) (hcg : cnM g19 V (na).toInt.toNat cc (na).toInt.toNat) (hsg : scM g20 V (na).toInt.toNat (vn).toInt (na).toInt.toNat) (hlab : Lab (lvN V (na).toInt.toNat) (hgE V Y (na).toInt.toNat (nti).toInt.toNat) cc) (hwb : wbW (wF V cc (na).toInt.toNat (vn).toInt (na).toInt.toNat) (na).toInt.toNat) (hx5 : 0 ≤ (x5).toInt ∧ (x5).toInt ≤ 17) (htk : oI g22 tk (x5).toInt.toNat) (hp12 : 0 ≤ (p1).toInt ∧ (p1).toInt ≤ 2) (done_116 : ∀ (k : Int32) (x : Int32) (H : Heap) (locs : List Loc) (ls : Array Slot), ((x).toInt = wsF (wF V cc (na).toInt.toNat (vn).toInt (na).toInt.toNat) o (inT tk (x5).toInt.toNat) (p1).toInt (x4).toInt.toNat) → va_P D vwCl [oC h0 9 [.int now, .int na, .int nsi, .int nti, .int vc, .int vn, .int vt, .ref b1, .ref b2, .ref b3, .ref b4, .ref b5, .ref b6, .ref b7, .ref b8, .ref b9, .ref b10, .ref b11, .ref b12, .ref b13, .ref b14, .ref b15, .ref b16, .ref b17, .ref b18, .int x1, .int x2, .int x3, .ref b19, .ref b20, .ref b21, .int x4, .ref b22, .ref b23, .int x5, .ref b24, .ref b25], aI b8 d8 200 (f8), aI b11 d11 200 (f11), aI b12 d12 200 (f12), aI b5 d5 200 (f5), aI b6 d6 200 (f6), aI b19 d19 200 (g19), aI b20 d20 200 (g20), aI b21 d21 200 (g21), aI b16 d16 60 (f16), aI b17 d17 60 (f17), aI b18 d18 60 (f18), aI b4 d4 200 (f4), aI b1 d1 200 (f1), aI b22 d22 20 (g22), aI b23 d23 12 (g23), aI b24 d24 12 (g24), aI b25 d25 12 (g25)] H → va_D A [oC h0 9 [.int now, .int na, .int nsi, .int nti, .int vc, .int vn, .int vt, .ref b1, .ref b2, .ref b3, .ref b4, .ref b5, .ref b6, .ref b7, .ref b8, .ref b9, .ref b10, .ref b11, .ref b12, .ref b13, .ref b14, .ref b15, .ref b16, .ref b17, .ref b18, .int x1, .int x2, .int x3, .ref b19, .ref b20, .ref b21, .int x4, .ref b22, .ref b23, .int x5, .ref b24, .ref b25], aI b8 d8 200 (f8), aI b11 d11 200 (f11), aI b12 d12 200 (f12), aI b5 d5 200 (f5), aI b6 d6 200 (f6), aI b19 d19 200 (g19), aI b20 d20 200 (g20), aI b21 d21 200 (g21), aI b16 d16 60 (f16), aI b17 d17 60 (f17), aI b18 d18 60 (f18), aI b4 d4 200 (f4), aI b1 d1 200 (f1), aI b22 d22 20 (g22), aI b23 d23 12 (g23), aI b24 d24 12 (g24), aI b25 d25 12 (g25)] → va_S A H0 H locs → lv_has ls 6 [(4, .int k), (3, .int x), (0, .ref h0), (1, .int p0), (2, .int p1)] → W p l e R s m args below meth c H locs cells slots Q (F0 m 116 ls [])) : ∀ (n : Nat), ∀ (k : Int32) (x : Int32) (H : Heap) (locs : List Loc) (ls : Array Slot), (0 ≤ (k).toInt ∧ (k).toInt ≤ (x4).toInt) → (0 ≤ (x).toInt ∧ (x).toInt ≤ 100000 * (k).toInt) → ((x).toInt = wsF (wF V cc (na).toInt.toNat (vn).toInt (na).toInt.toNat) o (inT tk (x5).toInt.toNat) (p1).toInt (k : Int32).toNatClampNeg) → ((200 - (k).toInt).toNat < n) → va_P D vwCl [oC h0 9 [.int now, .int na, .int nsi, .int nti, .int vc, .int vn, .int vt, .ref b1, .ref b2, .ref b3, .ref b4, .ref b5, .ref b6, .ref b7, .ref b8, .ref b9, .ref b10, .ref b11, .ref b12, .ref b13, .ref b14, .ref b15, .ref b16, .ref b17, .ref b18, .int x1, .int x2, .int x3, .ref b19, .ref b20, .ref b21, .int x4, .ref b22, .ref b23, .int x5, .ref b24, .ref b25], aI b8 d8 200 (f8), aI b11 d11 200 (f11), aI b12 d12 200 (f12), aI b5 d5 200 (f5), aI b6 d6 200 (f6), aI b19 d19 200 (g19), aI b20 d20 200 (g20), aI b21 d21 200 (g21), aI b16 d16 60 (f16), aI b17 d17 60 (f17), aI b18 d18 60 (f18), aI b4 d4 200 (f4), aI b1 d1 200 (f1), aI b22 d22 20 (g22), aI b23 d23 12 (g23), aI b24 d24 12 (g24), aI b25 d25 12 (g25)] H → va_D A [oC h0 9 [.int now, .int na, .int nsi, .int nti, .int vc, .int vn, .int vt, .ref b1, .ref b2, .ref b3, .ref b4, .ref b5, .ref b6, .ref b7, .ref b8, .ref b9, .ref b10, .ref b11, .ref b12, .ref b13, .ref b14, .ref b15, .ref b16, .ref b17, .ref b18, .int x1, .int x2, .int x3, .ref b19, .ref b20, .ref b21, .int x4, .ref b22, .ref b23, .int x5, .ref b24, .ref b25], aI b8 d8 200 (f8), aI b11 d11 200 (f11), aI b12 d12 200 (f12), aI b5 d5 200 (f5), aI b6 d6 200 (f6), aI b19 d19 200 (g19), aI b20 d20 200 (g20), aI b21 d21 200 (g21), aI b16 d16 60 (f16), aI b17 d17 60 (f17), aI b18 d18 60 (f18), aI b4 d4 200 (f4), aI b1 d1 200 (f1), aI b22 d22 20 (g22), aI b23 d23 12 (g23), aI b24 d24 12 (g24), aI b25 d25 12 (g25)] → va_S A H0 H locs → lv_has ls 6 [(4, .int k), (3, .int x), (0, .ref h0), (1, .int p0), (2, .int p1)] → W p l e R s m args below meth c H locs cells slots Q (F0 m 28 ls []) := by
  have hin_X9 : ∀ w ∈ u_ws RX9 TX9 37, w ∈ wsX9_worth := fun w h => List.mem_cons_of_mem _ (List.mem_append_right _ (h))
  intro n
  induction n with
  | zero => intro k x H locs ls hk hxb hws hmu hP hD hS hl; exact absurd hmu (Nat.not_lt_zero _)
  | succ n ih =>
    intro k x H locs ls hk hxb hws hmu hP hD hS hl
    refine lv_iload hx hb dX9_worth_28 (lv_at hl 0 rfl) ?_
    refine lv_aload_n hx hb dX9_worth_30 rfl (lv_at hl 2 rfl) ?_
    refine va_get (D := D) (ci := 9) (v := .int x4) (C := RX9) (T := TX9) (N := 37) hx hb hts hin_X9 hown hK hP 0 rfl rfl 31 (by decide) (hts (.fieldLink RX9 165 "CryOrderModel" "cases" "I") (List.mem_cons_of_mem _ (List.mem_append_left _ (List.mem_append_left _ (List.mem_of_getElem? (i := 0) rfl))))) (fun _ h9 => h9) rfl dX9_worth_31 ?_
    refine bi_ge (zx := (k).toInt) (zy := (x4).toInt) (tgt := 116) hx hb dX9_worth_34 (by decide) rfl rfl (fun c_1 => ?_) (fun c_1 => ?_)
    · exact done_116 _ _ _ _ _ (by rw [show (k : Int32).toNatClampNeg = (x4).toInt.toNat by have h9 := tnc_eq (i := k) (by omega); omega] at hws; exact hws) hP hD hS (lv_sub hl [0, 1, 2, 3, 4] rfl)
    · refine lv_aload_n hx hb dX9_worth_37 rfl (lv_at hl 2 rfl) ?_
      refine lv_aload_n hx hb dX9_worth_38 rfl (lv_at hl 2 rfl) ?_
      refine va_get (D := D) (ci := 9) (v := .ref b21) (C := RX9) (T := TX9) (N := 37) hx hb hts hin_X9 hown hK hP 0 rfl rfl 30 (by decide) (hts (.fieldLink RX9 78 "CryOrderModel" "order" "[I") (List.mem_cons_of_mem _ (List.mem_append_left _ (List.mem_append_left _ (List.mem_of_getElem? (i := 1) rfl))))) (fun _ h9 => h9) rfl dX9_worth_39 ?_
      refine lv_iload hx hb dX9_worth_42 (lv_at hl 0 rfl) ?_
      refine va_iald hx hb hK hP 8 7 rfl rfl (vp_in_iff.mpr (by omega)) dX9_worth_44 ?_
      refine lv_topi (fun z_2 ez_2 => ?_)
      have hqz_2 := tnc_eq (i := k) (by omega)
      have vz_2 : (z_2).toInt = (o (k : Int32).toNatClampNeg : Int) := by rw [ez_2]; exact hoi (k : Int32).toNatClampNeg (by omega)
      have hoz_2 := hon (k : Int32).toNatClampNeg (by omega)
      have yz_2 : (z_2 : Int32).toNatClampNeg = o (k : Int32).toNatClampNeg := by have h9 := tnc_eq (i := z_2) (by omega); omega
      have bz_2 := hwb _ hoz_2
      have mnz_2 : mnW (wF V cc (na).toInt.toNat (vn).toInt (na).toInt.toNat) (o (k : Int32).toNatClampNeg) = 5 + 2 * wF V cc (na).toInt.toNat (vn).toInt (na).toInt.toNat (o (k : Int32).toNatClampNeg) 1 := rfl
      have scz_2 : scW (wF V cc (na).toInt.toNat (vn).toInt (na).toInt.toNat) (o (k : Int32).toNatClampNeg) = wF V cc (na).toInt.toNat (vn).toInt (na).toInt.toNat (o (k : Int32).toNatClampNeg) 2 := rfl
      refine vp_callSi (zrV (As := [.int z_2]) (rest := []) (wc := [oC h0 9 [.int now, .int na, .int nsi, .int nti, .int vc, .int vn, .int vt, .ref b1, .ref b2, .ref b3, .ref b4, .ref b5, .ref b6, .ref b7, .ref b8, .ref b9, .ref b10, .ref b11, .ref b12, .ref b13, .ref b14, .ref b15, .ref b16, .ref b17, .ref b18, .int x1, .int x2, .int x3, .ref b19, .ref b20, .ref b21, .int x4, .ref b22, .ref b23, .int x5, .ref b24, .ref b25], aI b22 d22 20 (g22)]) ⟨hx, hb, hml, hown, hts⟩ hN hK hP hD (m_isTakenP l D h0 b1 b2 b3 b4 b5 b6 b7 b8 b9 b10 b11 b12 b13 b14 b15 b16 b17 b18 b19 b20 b21 b22 b23 b24 b25 now na nsi nti vc vn vt x1 x2 x3 x4 x5 d22 ((g22)) z_2 tk (by omega) (by omega) (by first | omega | assumption | decide)) (cwV 1 hts gX9_worth_X9_isTaken rfl rfl rfl (by decide +kernel) ⟨Nat.le_trans (m := 3) (Nat.le_of_ble_eq_true rfl) hR.1, Nat.le_trans (m := 64) (Nat.le_of_ble_eq_true rfl) hR.2⟩) [13] [0, 14] rfl rfl (by decide) 9 0 rfl rfl rfl hl.1 rfl (Nat.le_of_ble_eq_true rfl) dX9_worth_45 ⟨hcs.1, hcs.2⟩) (fun r_3 h_4 => ?_)
      have h_4 : ((inT tk (x5).toInt.toNat (z_2).toInt.toNat) ∧ (r_3).toInt = 1) ∨ ((¬ inT tk (x5).toInt.toNat (z_2).toInt.toNat) ∧ (r_3).toInt = 0) := h_4
      have hi9 := it_of (P := inT tk (x5).toInt.toNat (o (k : Int32).toNatClampNeg)) (r := (r_3).toInt) (by rw [← show (z_2).toInt.toNat = o (k : Int32).toNatClampNeg by omega]; exact h_4)
      have hi8 := hi9.2
      refine lv_istore (lv' := [(5, .int r_3), (4, .int k), (3, .int x), (0, .ref h0), (1, .int p0), (2, .int p1)]) hx hb dX9_worth_48 hl (by decide) rfl (fun ls hl => ?_)
      refine lv_iload_n hx hb dX9_worth_50 rfl (lv_at hl 2 rfl) ?_
      refine lv_iload_n hx hb dX9_worth_51 rfl (lv_at hl 5 rfl) ?_
      refine lv_iconst (v := 2) hx hb dX9_worth_52 (by decide) ?_
      refine bi_ne (zx := (p1).toInt) (zy := 2) (tgt := 79) hx hb dX9_worth_53 (by decide) rfl (by decide) (fun c_5 => ?_) (fun c_5 => ?_)
      · refine lv_iload hx hb dX9_worth_79 (lv_at hl 0 rfl) ?_
        refine lv_iload_n hx hb dX9_worth_81 rfl (lv_at hl 5 rfl) ?_
        refine bz_ne (zx := (p1).toInt) (tgt := 89) hx hb dX9_worth_82 (by decide) rfl (fun c_6 => ?_) (fun c_6 => ?_)
        · refine lv_iconst (v := 0) hx hb dX9_worth_89 (by decide) ?_
          refine bi_ne (zx := (r_3).toInt) (zy := 0) (tgt := 107) hx hb dX9_worth_90 (by decide) rfl (by decide) (fun c_7 => ?_) (fun c_7 => ?_)
          · refine lv_iconst (v := 0) hx hb dX9_worth_107 (by decide) ?_
            refine lv_iadd hx hb dX9_worth_108 ?_
            refine lv_topi (fun z_8 ez_8 => ?_)
            have tz_8 := ad_toInt (zx := (x).toInt) (zy := 0) ez_8 rfl (by decide)
            refine lv_istore_n (lv' := [(3, .int z_8), (5, .int r_3), (4, .int k), (0, .ref h0), (1, .int p0), (2, .int p1)]) hx hb dX9_worth_109 rfl hl (by decide) rfl (fun ls hl => ?_)
            obtain ⟨x_9, ex_9⟩ : ∃ z : Int32, z = k + 1 := ⟨_, rfl⟩
            have tx_9 := ad_toInt (x := k) (y := 1) (z := x_9) (zx := (k).toInt) (zy := 1) ex_9 rfl (by decide)
            refine lv_iinc (v := x_9) (lv' := [(4, .int x_9), (3, .int z_8), (5, .int r_3), (0, .ref h0), (1, .int p0), (2, .int p1)]) hx hb dX9_worth_110 hl (k := 2) rfl (by rw [ex_9]; rfl) (by decide) rfl (fun ls hl => ?_)
            refine lv_goto (tgt := 28) hx hb dX9_worth_113 (by decide) ?_
            exact ih _ _ _ _ _ (by omega) (by omega) (by rw [show (x_9 : Int32).toNatClampNeg = (k : Int32).toNatClampNeg + 1 by have h9 := tnc_eq (i := k) (by omega); have h8 := tnc_eq (i := x_9) (by omega); omega, ws_step (x := 0) (Or.inr (Or.inr ⟨by omega, by omega, Or.inr ⟨hi9.1.mpr (by omega), rfl⟩⟩))]; omega) (by omega) hP hD hS (lv_sub hl [0, 1, 3, 4, 5] rfl)
          · refine lv_aload_n hx hb dX9_worth_93 rfl (lv_at hl 3 rfl) ?_
            refine lv_aload_n hx hb dX9_worth_94 rfl (lv_at hl 3 rfl) ?_
            refine va_get (D := D) (ci := 9) (v := .ref b21) (C := RX9) (T := TX9) (N := 37) hx hb hts hin_X9 hown hK hP 0 rfl rfl 30 (by decide) (hts (.fieldLink RX9 78 "CryOrderModel" "order" "[I") (List.mem_cons_of_mem _ (List.mem_append_left _ (List.mem_append_left _ (List.mem_of_getElem? (i := 1) rfl))))) (fun _ h9 => h9) rfl dX9_worth_95 ?_
            refine lv_iload hx hb dX9_worth_98 (lv_at hl 1 rfl) ?_
            refine va_iald hx hb hK hP 8 7 rfl rfl (vp_in_iff.mpr (by omega)) dX9_worth_100 ?_
            refine lv_topi (fun z_10 ez_10 => ?_)
            have qz_10 : (z_10).toInt = (z_2).toInt := by rw [ez_10, ez_2]
            have hqz_10 := tnc_eq (i := k) (by omega)
            have vz_10 : (z_10).toInt = (o (k : Int32).toNatClampNeg : Int) := by rw [ez_10]; exact hoi (k : Int32).toNatClampNeg (by omega)
            have hoz_10 := hon (k : Int32).toNatClampNeg (by omega)
            have yz_10 : (z_10 : Int32).toNatClampNeg = o (k : Int32).toNatClampNeg := by have h9 := tnc_eq (i := z_10) (by omega); omega
            have bz_10 := hwb _ hoz_10
            have mnz_10 : mnW (wF V cc (na).toInt.toNat (vn).toInt (na).toInt.toNat) (o (k : Int32).toNatClampNeg) = 5 + 2 * wF V cc (na).toInt.toNat (vn).toInt (na).toInt.toNat (o (k : Int32).toNatClampNeg) 1 := rfl
            have scz_10 : scW (wF V cc (na).toInt.toNat (vn).toInt (na).toInt.toNat) (o (k : Int32).toNatClampNeg) = wF V cc (na).toInt.toNat (vn).toInt (na).toInt.toNat (o (k : Int32).toNatClampNeg) 2 := rfl
            refine vp_callSi (zrV (As := [.int z_10]) (rest := [.int x]) (wc := [oC h0 9 [.int now, .int na, .int nsi, .int nti, .int vc, .int vn, .int vt, .ref b1, .ref b2, .ref b3, .ref b4, .ref b5, .ref b6, .ref b7, .ref b8, .ref b9, .ref b10, .ref b11, .ref b12, .ref b13, .ref b14, .ref b15, .ref b16, .ref b17, .ref b18, .int x1, .int x2, .int x3, .ref b19, .ref b20, .ref b21, .int x4, .ref b22, .ref b23, .int x5, .ref b24, .ref b25], aI b19 d19 200 (g19), aI b20 d20 200 (g20)]) ⟨hx, hb, hml, hown, hts⟩ hN hK hP hD (m_scoreOfK l D h0 b1 b2 b3 b4 b5 b6 b7 b8 b9 b10 b11 b12 b13 b14 b15 b16 b17 b18 b19 b20 b21 b22 b23 b24 b25 now na nsi nti vc vn vt x1 x2 x3 x4 x5 d19 d20 ((g19)) ((g20)) z_10 V Y cc (by first | omega | assumption | decide) hcg hsg hlab (by omega)) (cwV 1 hts gX9_worth_X9_scoreOf rfl rfl rfl (by decide +kernel) ⟨Nat.le_trans (m := 3) (Nat.le_of_ble_eq_true rfl) hR.1, Nat.le_trans (m := 64) (Nat.le_of_ble_eq_true rfl) hR.2⟩) [5, 6] [0, 6, 7] rfl rfl (by decide) 9 0 rfl rfl rfl hl.1 rfl (Nat.le_of_ble_eq_true rfl) dX9_worth_101 ⟨hcs.1, hcs.2⟩) (fun r_11 h_12 => ?_)
            have h_12 : (r_11).toInt = mxF (inC V cc (na).toInt.toNat (z_10 : Int32).toNatClampNeg) (scI V (na).toInt.toNat (vn).toInt) (na).toInt.toNat := h_12
            have mr_11 : (r_11).toInt = scW (wF V cc (na).toInt.toNat (vn).toInt (na).toInt.toNat) (o (k : Int32).toNatClampNeg) := by rw [h_12, yz_10]; show _ = wF V cc (na).toInt.toNat (vn).toInt (na).toInt.toNat (o (k : Int32).toNatClampNeg) 2; rw [wF_2]
            refine lv_goto (tgt := 108) hx hb dX9_worth_104 (by decide) ?_
            refine lv_iadd hx hb dX9_worth_108 ?_
            refine lv_topi (fun z_13 ez_13 => ?_)
            have tz_13 := ad_toInt (zx := (x).toInt) (zy := (r_11).toInt) ez_13 rfl rfl
            refine lv_istore_n (lv' := [(3, .int z_13), (5, .int r_3), (4, .int k), (0, .ref h0), (1, .int p0), (2, .int p1)]) hx hb dX9_worth_109 rfl hl (by decide) rfl (fun ls hl => ?_)
            obtain ⟨x_14, ex_14⟩ : ∃ z : Int32, z = k + 1 := ⟨_, rfl⟩
            have tx_14 := ad_toInt (x := k) (y := 1) (z := x_14) (zx := (k).toInt) (zy := 1) ex_14 rfl (by decide)
            refine lv_iinc (v := x_14) (lv' := [(4, .int x_14), (3, .int z_13), (5, .int r_3), (0, .ref h0), (1, .int p0), (2, .int p1)]) hx hb dX9_worth_110 hl (k := 2) rfl (by rw [ex_14]; rfl) (by decide) rfl (fun ls hl => ?_)
            refine lv_goto (tgt := 28) hx hb dX9_worth_113 (by decide) ?_
            exact ih _ _ _ _ _ (by omega) (by omega) (by rw [show (x_14 : Int32).toNatClampNeg = (k : Int32).toNatClampNeg + 1 by have h9 := tnc_eq (i := k) (by omega); have h8 := tnc_eq (i := x_14) (by omega); omega, ws_step (x := (r_11).toInt) (Or.inr (Or.inr ⟨by omega, by omega, Or.inl ⟨fun q9 => by have h9 := hi9.1.mp q9; omega, mr_11⟩⟩))]; omega) (by omega) hP hD hS (lv_sub hl [0, 1, 3, 4, 5] rfl)
        · refine lv_iconst (v := 1) hx hb dX9_worth_85 (by decide) ?_
          refine lv_goto (tgt := 90) hx hb dX9_worth_86 (by decide) ?_
          refine bi_ne (zx := (r_3).toInt) (zy := 1) (tgt := 107) hx hb dX9_worth_90 (by decide) rfl (by decide) (fun c_15 => ?_) (fun c_15 => ?_)
          · refine lv_iconst (v := 0) hx hb dX9_worth_107 (by decide) ?_
            refine lv_iadd hx hb dX9_worth_108 ?_
            refine lv_topi (fun z_16 ez_16 => ?_)
            have tz_16 := ad_toInt (zx := (x).toInt) (zy := 0) ez_16 rfl (by decide)
            refine lv_istore_n (lv' := [(3, .int z_16), (5, .int r_3), (4, .int k), (0, .ref h0), (1, .int p0), (2, .int p1)]) hx hb dX9_worth_109 rfl hl (by decide) rfl (fun ls hl => ?_)
            obtain ⟨x_17, ex_17⟩ : ∃ z : Int32, z = k + 1 := ⟨_, rfl⟩
            have tx_17 := ad_toInt (x := k) (y := 1) (z := x_17) (zx := (k).toInt) (zy := 1) ex_17 rfl (by decide)
            refine lv_iinc (v := x_17) (lv' := [(4, .int x_17), (3, .int z_16), (5, .int r_3), (0, .ref h0), (1, .int p0), (2, .int p1)]) hx hb dX9_worth_110 hl (k := 2) rfl (by rw [ex_17]; rfl) (by decide) rfl (fun ls hl => ?_)
            refine lv_goto (tgt := 28) hx hb dX9_worth_113 (by decide) ?_
            exact ih _ _ _ _ _ (by omega) (by omega) (by rw [show (x_17 : Int32).toNatClampNeg = (k : Int32).toNatClampNeg + 1 by have h9 := tnc_eq (i := k) (by omega); have h8 := tnc_eq (i := x_17) (by omega); omega, ws_step (x := 0) (Or.inr (Or.inl ⟨by omega, Or.inr ⟨fun q9 => by have h9 := hi9.1.mp q9; omega, rfl⟩⟩))]; omega) (by omega) hP hD hS (lv_sub hl [0, 1, 3, 4, 5] rfl)
          · refine lv_aload_n hx hb dX9_worth_93 rfl (lv_at hl 3 rfl) ?_
            refine lv_aload_n hx hb dX9_worth_94 rfl (lv_at hl 3 rfl) ?_
            refine va_get (D := D) (ci := 9) (v := .ref b21) (C := RX9) (T := TX9) (N := 37) hx hb hts hin_X9 hown hK hP 0 rfl rfl 30 (by decide) (hts (.fieldLink RX9 78 "CryOrderModel" "order" "[I") (List.mem_cons_of_mem _ (List.mem_append_left _ (List.mem_append_left _ (List.mem_of_getElem? (i := 1) rfl))))) (fun _ h9 => h9) rfl dX9_worth_95 ?_
            refine lv_iload hx hb dX9_worth_98 (lv_at hl 1 rfl) ?_
            refine va_iald hx hb hK hP 8 7 rfl rfl (vp_in_iff.mpr (by omega)) dX9_worth_100 ?_
            refine lv_topi (fun z_18 ez_18 => ?_)
            have qz_18 : (z_18).toInt = (z_2).toInt := by rw [ez_18, ez_2]
            have hqz_18 := tnc_eq (i := k) (by omega)
            have vz_18 : (z_18).toInt = (o (k : Int32).toNatClampNeg : Int) := by rw [ez_18]; exact hoi (k : Int32).toNatClampNeg (by omega)
            have hoz_18 := hon (k : Int32).toNatClampNeg (by omega)
            have yz_18 : (z_18 : Int32).toNatClampNeg = o (k : Int32).toNatClampNeg := by have h9 := tnc_eq (i := z_18) (by omega); omega
            have bz_18 := hwb _ hoz_18
            have mnz_18 : mnW (wF V cc (na).toInt.toNat (vn).toInt (na).toInt.toNat) (o (k : Int32).toNatClampNeg) = 5 + 2 * wF V cc (na).toInt.toNat (vn).toInt (na).toInt.toNat (o (k : Int32).toNatClampNeg) 1 := rfl
            have scz_18 : scW (wF V cc (na).toInt.toNat (vn).toInt (na).toInt.toNat) (o (k : Int32).toNatClampNeg) = wF V cc (na).toInt.toNat (vn).toInt (na).toInt.toNat (o (k : Int32).toNatClampNeg) 2 := rfl
            refine vp_callSi (zrV (As := [.int z_18]) (rest := [.int x]) (wc := [oC h0 9 [.int now, .int na, .int nsi, .int nti, .int vc, .int vn, .int vt, .ref b1, .ref b2, .ref b3, .ref b4, .ref b5, .ref b6, .ref b7, .ref b8, .ref b9, .ref b10, .ref b11, .ref b12, .ref b13, .ref b14, .ref b15, .ref b16, .ref b17, .ref b18, .int x1, .int x2, .int x3, .ref b19, .ref b20, .ref b21, .int x4, .ref b22, .ref b23, .int x5, .ref b24, .ref b25], aI b19 d19 200 (g19), aI b20 d20 200 (g20)]) ⟨hx, hb, hml, hown, hts⟩ hN hK hP hD (m_scoreOfK l D h0 b1 b2 b3 b4 b5 b6 b7 b8 b9 b10 b11 b12 b13 b14 b15 b16 b17 b18 b19 b20 b21 b22 b23 b24 b25 now na nsi nti vc vn vt x1 x2 x3 x4 x5 d19 d20 ((g19)) ((g20)) z_18 V Y cc (by first | omega | assumption | decide) hcg hsg hlab (by omega)) (cwV 1 hts gX9_worth_X9_scoreOf rfl rfl rfl (by decide +kernel) ⟨Nat.le_trans (m := 3) (Nat.le_of_ble_eq_true rfl) hR.1, Nat.le_trans (m := 64) (Nat.le_of_ble_eq_true rfl) hR.2⟩) [5, 6] [0, 6, 7] rfl rfl (by decide) 9 0 rfl rfl rfl hl.1 rfl (Nat.le_of_ble_eq_true rfl) dX9_worth_101 ⟨hcs.1, hcs.2⟩) (fun r_19 h_20 => ?_)
            have h_20 : (r_19).toInt = mxF (inC V cc (na).toInt.toNat (z_18 : Int32).toNatClampNeg) (scI V (na).toInt.toNat (vn).toInt) (na).toInt.toNat := h_20
            have mr_19 : (r_19).toInt = scW (wF V cc (na).toInt.toNat (vn).toInt (na).toInt.toNat) (o (k : Int32).toNatClampNeg) := by rw [h_20, yz_18]; show _ = wF V cc (na).toInt.toNat (vn).toInt (na).toInt.toNat (o (k : Int32).toNatClampNeg) 2; rw [wF_2]
            refine lv_goto (tgt := 108) hx hb dX9_worth_104 (by decide) ?_
            refine lv_iadd hx hb dX9_worth_108 ?_
            refine lv_topi (fun z_21 ez_21 => ?_)
            have tz_21 := ad_toInt (zx := (x).toInt) (zy := (r_19).toInt) ez_21 rfl rfl
            refine lv_istore_n (lv' := [(3, .int z_21), (5, .int r_3), (4, .int k), (0, .ref h0), (1, .int p0), (2, .int p1)]) hx hb dX9_worth_109 rfl hl (by decide) rfl (fun ls hl => ?_)
            obtain ⟨x_22, ex_22⟩ : ∃ z : Int32, z = k + 1 := ⟨_, rfl⟩
            have tx_22 := ad_toInt (x := k) (y := 1) (z := x_22) (zx := (k).toInt) (zy := 1) ex_22 rfl (by decide)
            refine lv_iinc (v := x_22) (lv' := [(4, .int x_22), (3, .int z_21), (5, .int r_3), (0, .ref h0), (1, .int p0), (2, .int p1)]) hx hb dX9_worth_110 hl (k := 2) rfl (by rw [ex_22]; rfl) (by decide) rfl (fun ls hl => ?_)
            refine lv_goto (tgt := 28) hx hb dX9_worth_113 (by decide) ?_
            exact ih _ _ _ _ _ (by omega) (by omega) (by rw [show (x_22 : Int32).toNatClampNeg = (k : Int32).toNatClampNeg + 1 by have h9 := tnc_eq (i := k) (by omega); have h8 := tnc_eq (i := x_22) (by omega); omega, ws_step (x := (r_19).toInt) (Or.inr (Or.inl ⟨by omega, Or.inl ⟨hi9.1.mpr (by omega), mr_19⟩⟩))]; omega) (by omega) hP hD hS (lv_sub hl [0, 1, 3, 4, 5] rfl)
      · refine lv_iload hx hb dX9_worth_56 (lv_at hl 0 rfl) ?_
        refine bz_eq (zx := (r_3).toInt) (tgt := 75) hx hb dX9_worth_58 (by decide) rfl (fun c_23 => ?_) (fun c_23 => ?_)
        · refine lv_iconst (v := 0) hx hb dX9_worth_75 (by decide) ?_
          refine lv_goto (tgt := 108) hx hb dX9_worth_76 (by decide) ?_
          refine lv_iadd hx hb dX9_worth_108 ?_
          refine lv_topi (fun z_24 ez_24 => ?_)
          have tz_24 := ad_toInt (zx := (x).toInt) (zy := 0) ez_24 rfl (by decide)
          refine lv_istore_n (lv' := [(3, .int z_24), (5, .int r_3), (4, .int k), (0, .ref h0), (1, .int p0), (2, .int p1)]) hx hb dX9_worth_109 rfl hl (by decide) rfl (fun ls hl => ?_)
          obtain ⟨x_25, ex_25⟩ : ∃ z : Int32, z = k + 1 := ⟨_, rfl⟩
          have tx_25 := ad_toInt (x := k) (y := 1) (z := x_25) (zx := (k).toInt) (zy := 1) ex_25 rfl (by decide)
          refine lv_iinc (v := x_25) (lv' := [(4, .int x_25), (3, .int z_24), (5, .int r_3), (0, .ref h0), (1, .int p0), (2, .int p1)]) hx hb dX9_worth_110 hl (k := 2) rfl (by rw [ex_25]; rfl) (by decide) rfl (fun ls hl => ?_)
          refine lv_goto (tgt := 28) hx hb dX9_worth_113 (by decide) ?_
          exact ih _ _ _ _ _ (by omega) (by omega) (by rw [show (x_25 : Int32).toNatClampNeg = (k : Int32).toNatClampNeg + 1 by have h9 := tnc_eq (i := k) (by omega); have h8 := tnc_eq (i := x_25) (by omega); omega, ws_step (x := 0) (Or.inl ⟨by omega, Or.inr ⟨fun q9 => by have h9 := hi9.1.mp q9; omega, rfl⟩⟩)]; omega) (by omega) hP hD hS (lv_sub hl [0, 1, 3, 4, 5] rfl)
        · refine lv_aload_n hx hb dX9_worth_61 rfl (lv_at hl 3 rfl) ?_
          refine lv_aload_n hx hb dX9_worth_62 rfl (lv_at hl 3 rfl) ?_
          refine va_get (D := D) (ci := 9) (v := .ref b21) (C := RX9) (T := TX9) (N := 37) hx hb hts hin_X9 hown hK hP 0 rfl rfl 30 (by decide) (hts (.fieldLink RX9 78 "CryOrderModel" "order" "[I") (List.mem_cons_of_mem _ (List.mem_append_left _ (List.mem_append_left _ (List.mem_of_getElem? (i := 1) rfl))))) (fun _ h9 => h9) rfl dX9_worth_63 ?_
          refine lv_iload hx hb dX9_worth_66 (lv_at hl 1 rfl) ?_
          refine va_iald hx hb hK hP 8 7 rfl rfl (vp_in_iff.mpr (by omega)) dX9_worth_68 ?_
          refine lv_topi (fun z_26 ez_26 => ?_)
          have qz_26 : (z_26).toInt = (z_2).toInt := by rw [ez_26, ez_2]
          have hqz_26 := tnc_eq (i := k) (by omega)
          have vz_26 : (z_26).toInt = (o (k : Int32).toNatClampNeg : Int) := by rw [ez_26]; exact hoi (k : Int32).toNatClampNeg (by omega)
          have hoz_26 := hon (k : Int32).toNatClampNeg (by omega)
          have yz_26 : (z_26 : Int32).toNatClampNeg = o (k : Int32).toNatClampNeg := by have h9 := tnc_eq (i := z_26) (by omega); omega
          have bz_26 := hwb _ hoz_26
          have mnz_26 : mnW (wF V cc (na).toInt.toNat (vn).toInt (na).toInt.toNat) (o (k : Int32).toNatClampNeg) = 5 + 2 * wF V cc (na).toInt.toNat (vn).toInt (na).toInt.toNat (o (k : Int32).toNatClampNeg) 1 := rfl
          have scz_26 : scW (wF V cc (na).toInt.toNat (vn).toInt (na).toInt.toNat) (o (k : Int32).toNatClampNeg) = wF V cc (na).toInt.toNat (vn).toInt (na).toInt.toNat (o (k : Int32).toNatClampNeg) 2 := rfl
          refine vp_callSi (zrV (As := [.int z_26]) (rest := [.int x]) (wc := [oC h0 9 [.int now, .int na, .int nsi, .int nti, .int vc, .int vn, .int vt, .ref b1, .ref b2, .ref b3, .ref b4, .ref b5, .ref b6, .ref b7, .ref b8, .ref b9, .ref b10, .ref b11, .ref b12, .ref b13, .ref b14, .ref b15, .ref b16, .ref b17, .ref b18, .int x1, .int x2, .int x3, .ref b19, .ref b20, .ref b21, .int x4, .ref b22, .ref b23, .int x5, .ref b24, .ref b25], aI b19 d19 200 (g19)]) ⟨hx, hb, hml, hown, hts⟩ hN hK hP hD (m_minutesOfK l D h0 b1 b2 b3 b4 b5 b6 b7 b8 b9 b10 b11 b12 b13 b14 b15 b16 b17 b18 b19 b20 b21 b22 b23 b24 b25 now na nsi nti vc vn vt x1 x2 x3 x4 x5 d19 ((g19)) z_26 V Y cc (by first | omega | assumption | decide) hcg hlab (by omega)) (cwV 1 hts gX9_worth_X9_minutesOf rfl rfl rfl (by decide +kernel) ⟨Nat.le_trans (m := 3) (Nat.le_of_ble_eq_true rfl) hR.1, Nat.le_trans (m := 64) (Nat.le_of_ble_eq_true rfl) hR.2⟩) [5] [0, 6] rfl rfl (by decide) 9 0 rfl rfl rfl hl.1 rfl (Nat.le_of_ble_eq_true rfl) dX9_worth_69 ⟨hcs.1, hcs.2⟩) (fun r_27 h_28 => ?_)
          have h_28 : (r_27).toInt = 5 + 2 * ctF (inC V cc (na).toInt.toNat (z_26 : Int32).toNatClampNeg) (na).toInt.toNat := h_28
          have mr_27 : (r_27).toInt = mnW (wF V cc (na).toInt.toNat (vn).toInt (na).toInt.toNat) (o (k : Int32).toNatClampNeg) := by rw [h_28, yz_26]; show 5 + 2 * _ = 5 + 2 * wF V cc (na).toInt.toNat (vn).toInt (na).toInt.toNat (o (k : Int32).toNatClampNeg) 1; rw [wF_1]
          refine lv_goto (tgt := 108) hx hb dX9_worth_72 (by decide) ?_
          refine lv_iadd hx hb dX9_worth_108 ?_
          refine lv_topi (fun z_29 ez_29 => ?_)
          have tz_29 := ad_toInt (zx := (x).toInt) (zy := (r_27).toInt) ez_29 rfl rfl
          refine lv_istore_n (lv' := [(3, .int z_29), (5, .int r_3), (4, .int k), (0, .ref h0), (1, .int p0), (2, .int p1)]) hx hb dX9_worth_109 rfl hl (by decide) rfl (fun ls hl => ?_)
          obtain ⟨x_30, ex_30⟩ : ∃ z : Int32, z = k + 1 := ⟨_, rfl⟩
          have tx_30 := ad_toInt (x := k) (y := 1) (z := x_30) (zx := (k).toInt) (zy := 1) ex_30 rfl (by decide)
          refine lv_iinc (v := x_30) (lv' := [(4, .int x_30), (3, .int z_29), (5, .int r_3), (0, .ref h0), (1, .int p0), (2, .int p1)]) hx hb dX9_worth_110 hl (k := 2) rfl (by rw [ex_30]; rfl) (by decide) rfl (fun ls hl => ?_)
          refine lv_goto (tgt := 28) hx hb dX9_worth_113 (by decide) ?_
          exact ih _ _ _ _ _ (by omega) (by omega) (by rw [show (x_30 : Int32).toNatClampNeg = (k : Int32).toNatClampNeg + 1 by have h9 := tnc_eq (i := k) (by omega); have h8 := tnc_eq (i := x_30) (by omega); omega, ws_step (x := (r_27).toInt) (Or.inl ⟨by omega, Or.inl ⟨hi9.1.mpr (by omega), mr_27⟩⟩)]; omega) (by omega) hP hD hS (lv_sub hl [0, 1, 3, 4, 5] rfl)
