set_option maxHeartbeats 4000000 in
set_option maxRecDepth 100000 in
theorem mr_alarmA {p : Program} {l : Launch} {e : Env} {R : Room} {s : State} {m : MethodId} {args : Array Value} {below : List Frame} {meth : Method} {c : Code} {Q : State → Prop} {A : Nat → Prop} {cells slots : Nat} {D : va_G} {H0 : Heap} {h0 : Nat} {b1 : Nat} {b2 : Nat} {b3 : Nat} {b4 : Nat} {b5 : Nat} {b6 : Nat} {b7 : Nat} {b8 : Nat} {b9 : Nat} {b10 : Nat} {b11 : Nat} {b12 : Nat} {b13 : Nat} {b14 : Nat} {b15 : Nat} {b16 : Nat} {b17 : Nat} {b18 : Nat} {b19 : Nat} {b20 : Nat} {b21 : Nat} {b22 : Nat} {b23 : Nat} {b24 : Nat} {b25 : Nat} {now : Int32} {na : Int32} {nsi : Int32} {nti : Int32} {vc : Int32} {vn : Int32} {vt : Int32} {ct : Int32} {cs : Int32} {co : Int32} {nca : Int32} {ntm : Int32} {d8 : ClassId} {d11 : ClassId} {d12 : ClassId} {d3 : ClassId} {d4 : ClassId} {d5 : ClassId} {d2 : ClassId} {d7 : ClassId} {d1 : ClassId} {d6 : ClassId} {d13 : ClassId} {d14 : ClassId} {d15 : ClassId} {f8 : Nat → Int32} {f11 : Nat → Int32} {f12 : Nat → Int32} {f3 : Nat → Int32} {f4 : Nat → Int32} {f5 : Nat → Int32} {f2 : Nat → Int32} {f7 : Nat → Int32} {f1 : Nat → Int32} {f6 : Nat → Int32} {f13 : Nat → Int32} {f14 : Nat → Int32} {f15 : Nat → Int32} {p0 : Int32} {p1 : Int32} {p2 : Int32} {p3 : Int32} {V : Nat → Nat → Int} {r9 : Option Nat} (hx : p.tables.exec = Jvm.exec) (hb : c.code = cX9_alarm) (hts : ∀ w ∈ wsX9_alarm, w.before args s = true) (hml : c.maxLocals = 8) (hown : s.vm.findClass RX9 = some m.cls) (hN : Nq s) (hK : va_K D vwCl [(d8, .int), (d11, .boolean), (d12, .boolean), (d3, .int), (d4, .int), (d5, .int), (d2, .int), (d7, .int), (d1, .int), (d6, .int), (d13, .int), (d14, .int), (d15, .int)] s) (hA : ∀ q : Nat, H0.size ≤ q → A q) (hR : 1 ≤ R.frames ∧ 21 ≤ R.locals) (hcs : cells ≤ R.cells ∧ slots ≤ R.slots) (hna : 0 ≤ (na).toInt ∧ (na).toInt ≤ 200) (hnow : 0 ≤ (now).toInt ∧ (now).toInt ≤ 10000) (hTb : ∀ i : Nat, (i : Int) < (na).toInt → 0 ≤ V i 10 ∧ V i 10 ≤ 10000) (hA8 : mqA f8 (na).toInt V 12) (hA11 : mqA f11 (na).toInt V 8) (hA12 : mqA f12 (na).toInt V 9) (hA3 : mqA f3 (na).toInt V 2) (hA4 : mqA f4 (na).toInt V 3) (hA5 : mqA f5 (na).toInt V 4) (hA2 : mqA f2 (na).toInt V 10) (done_x : ∀ (k : Int32) (H : Heap) (locs : List Loc) (ls : Array Slot), va_P D vwCl [oC h0 9 [.int now, .int na, .int nsi, .int nti, .int vc, .int vn, .int vt, .ref b1, .ref b2, .ref b3, .ref b4, .ref b5, .ref b6, .ref b7, .ref b8, .ref b9, .ref b10, .ref b11, .ref b12, .ref b13, .ref b14, .ref b15, .ref b16, .ref b17, .ref b18, .int ct, .int cs, .int co, .ref b19, .ref b20, .ref b21, .int nca, .ref b22, .ref b23, .int ntm, .ref b24, .ref b25], aI b8 d8 200 (f8), aI b11 d11 200 (f11), aI b12 d12 200 (f12), aI b3 d3 200 (f3), aI b4 d4 200 (f4), aI b5 d5 200 (f5), aI b2 d2 200 (f2), aI b7 d7 200 (f7), aI b1 d1 200 (f1), aI b6 d6 200 (f6), aI b13 d13 30 (f13), aI b14 d14 30 (f14), aI b15 d15 30 (f15)] H → va_D A [oC h0 9 [.int now, .int na, .int nsi, .int nti, .int vc, .int vn, .int vt, .ref b1, .ref b2, .ref b3, .ref b4, .ref b5, .ref b6, .ref b7, .ref b8, .ref b9, .ref b10, .ref b11, .ref b12, .ref b13, .ref b14, .ref b15, .ref b16, .ref b17, .ref b18, .int ct, .int cs, .int co, .ref b19, .ref b20, .ref b21, .int nca, .ref b22, .ref b23, .int ntm, .ref b24, .ref b25], aI b8 d8 200 (f8), aI b11 d11 200 (f11), aI b12 d12 200 (f12), aI b3 d3 200 (f3), aI b4 d4 200 (f4), aI b5 d5 200 (f5), aI b2 d2 200 (f2), aI b7 d7 200 (f7), aI b1 d1 200 (f1), aI b6 d6 200 (f6), aI b13 d13 30 (f13), aI b14 d14 30 (f14), aI b15 d15 30 (f15)] → va_S A H0 H locs → lv_has ls 8 [(5, .int k), (0, .ref h0), (1, .int p0), (2, .int p1), (3, .int p2), (4, .int p3)] → (((0 ≤ (k).toInt ∧ (k).toInt < (na).toInt) → (r9 = some (k : Int32).toNatClampNeg) → W p l e R s m args below meth c H locs cells slots Q (F0 m 120 ls [])) ∧ ((r9 = none) → W p l e R s m args below meth c H locs cells slots Q (F0 m 151 ls [])))) : ∀ (n : Nat), ∀ (k : Int32) (H : Heap) (locs : List Loc) (ls : Array Slot), (-1 ≤ (k).toInt ∧ (k).toInt < (na).toInt) → (r9 = rpF V (p0).toInt (p1).toInt (p2).toInt (now).toInt ((k).toInt + 1).toNat) → (((k).toInt + 1).toNat < n) → va_P D vwCl [oC h0 9 [.int now, .int na, .int nsi, .int nti, .int vc, .int vn, .int vt, .ref b1, .ref b2, .ref b3, .ref b4, .ref b5, .ref b6, .ref b7, .ref b8, .ref b9, .ref b10, .ref b11, .ref b12, .ref b13, .ref b14, .ref b15, .ref b16, .ref b17, .ref b18, .int ct, .int cs, .int co, .ref b19, .ref b20, .ref b21, .int nca, .ref b22, .ref b23, .int ntm, .ref b24, .ref b25], aI b8 d8 200 (f8), aI b11 d11 200 (f11), aI b12 d12 200 (f12), aI b3 d3 200 (f3), aI b4 d4 200 (f4), aI b5 d5 200 (f5), aI b2 d2 200 (f2), aI b7 d7 200 (f7), aI b1 d1 200 (f1), aI b6 d6 200 (f6), aI b13 d13 30 (f13), aI b14 d14 30 (f14), aI b15 d15 30 (f15)] H → va_D A [oC h0 9 [.int now, .int na, .int nsi, .int nti, .int vc, .int vn, .int vt, .ref b1, .ref b2, .ref b3, .ref b4, .ref b5, .ref b6, .ref b7, .ref b8, .ref b9, .ref b10, .ref b11, .ref b12, .ref b13, .ref b14, .ref b15, .ref b16, .ref b17, .ref b18, .int ct, .int cs, .int co, .ref b19, .ref b20, .ref b21, .int nca, .ref b22, .ref b23, .int ntm, .ref b24, .ref b25], aI b8 d8 200 (f8), aI b11 d11 200 (f11), aI b12 d12 200 (f12), aI b3 d3 200 (f3), aI b4 d4 200 (f4), aI b5 d5 200 (f5), aI b2 d2 200 (f2), aI b7 d7 200 (f7), aI b1 d1 200 (f1), aI b6 d6 200 (f6), aI b13 d13 30 (f13), aI b14 d14 30 (f14), aI b15 d15 30 (f15)] → va_S A H0 H locs → lv_has ls 8 [(5, .int k), (0, .ref h0), (1, .int p0), (2, .int p1), (3, .int p2), (4, .int p3)] → W p l e R s m args below meth c H locs cells slots Q (F0 m 53 ls []) := by
  have hin_X9 : ∀ w ∈ u_ws RX9 TX9 37, w ∈ wsX9_alarm := fun w h => List.mem_cons_of_mem _ (List.mem_append_right _ (h))
  intro n
  induction n with
  | zero => intro k H locs ls hk hR9 hmu hP hD hS hl; exact absurd hmu (Nat.not_lt_zero _)
  | succ n ih =>
    intro k H locs ls hk hR9 hmu hP hD hS hl
    refine lv_iload hx hb dX9_alarm_53 (lv_at hl 0 rfl) ?_
    refine bz_lt (zx := (k).toInt) (tgt := 151) hx hb dX9_alarm_55 (by decide) rfl (fun c_1 => ?_) (fun c_1 => ?_)
    · exact (done_x _ _ _ _ hP hD hS (lv_sub hl [0, 1, 2, 3, 4, 5] rfl)).2 (rpF_end hR9 (by omega))
    · refine lv_aload_n hx hb dX9_alarm_58 rfl (lv_at hl 1 rfl) ?_
      refine lv_iload hx hb dX9_alarm_59 (lv_at hl 0 rfl) ?_
      refine vp_callSi (zrV (As := [.int k]) (rest := []) (wc := [oC h0 9 [.int now, .int na, .int nsi, .int nti, .int vc, .int vn, .int vt, .ref b1, .ref b2, .ref b3, .ref b4, .ref b5, .ref b6, .ref b7, .ref b8, .ref b9, .ref b10, .ref b11, .ref b12, .ref b13, .ref b14, .ref b15, .ref b16, .ref b17, .ref b18, .int ct, .int cs, .int co, .ref b19, .ref b20, .ref b21, .int nca, .ref b22, .ref b23, .int ntm, .ref b24, .ref b25], aI b8 d8 200 (f8), aI b11 d11 200 (f11), aI b12 d12 200 (f12)]) ⟨hx, hb, hml, hown, hts⟩ hN hK hP hD (m_isLiveR l D h0 b1 b2 b3 b4 b5 b6 b7 b8 b9 b10 b11 b12 b13 b14 b15 b16 b17 b18 b19 b20 b21 b22 b23 b24 b25 now na nsi nti vc vn vt ct cs co nca ntm d8 d11 d12 ((f8)) ((f11)) ((f12)) k (by first | omega | assumption)) (cwV 1 hts gX9_alarm_X9_isLive rfl rfl rfl (by decide +kernel) ⟨Nat.le_trans (m := 1) (Nat.le_of_ble_eq_true rfl) hR.1, Nat.le_trans (m := 21) (Nat.le_of_ble_eq_true rfl) hR.2⟩) [0, 1, 2] [0, 1, 2, 3] rfl rfl (by decide) 9 0 rfl rfl rfl hl.1 rfl (Nat.le_of_ble_eq_true rfl) dX9_alarm_61 ⟨hcs.1, hcs.2⟩) (fun r_2 h_3 => ?_)
      rcases h_3 with ⟨h_3, rfl⟩ | ⟨h_3, rfl⟩
      · have h_3 : ((f8) (k).toNatClampNeg).toInt = 0 ∧ ((f11) (k).toNatClampNeg).toInt = 0 ∧ ((f12) (k).toNatClampNeg).toInt = 0 := h_3
        refine lv_if_eq (tgt := 145) hx hb dX9_alarm_64 (by decide) (fun c_ => absurd c_ (by decide)) (fun _ => ?_)
        refine lv_aload_n hx hb dX9_alarm_67 rfl (lv_at hl 1 rfl) ?_
        refine va_get (D := D) (ci := 9) (v := .ref b3) (C := RX9) (T := TX9) (N := 37) hx hb hts hin_X9 hown hK hP 0 rfl rfl 9 (by decide) (hts (.fieldLink RX9 23 "CryOrderModel" "source" "[I") (List.mem_cons_of_mem _ (List.mem_append_left _ (List.mem_append_left _ (List.mem_of_getElem? (i := 1) rfl))))) (fun _ h9 => h9) rfl dX9_alarm_68 ?_
        refine lv_iload hx hb dX9_alarm_71 (lv_at hl 0 rfl) ?_
        refine va_iald hx hb hK hP 4 3 rfl rfl (vp_in_iff.mpr (by omega)) dX9_alarm_73 ?_
        refine lv_topi (fun z_4 ez_4 => ?_)
        have vz_4 := hA3.get ez_4 (by omega)
        refine lv_iload_n hx hb dX9_alarm_74 rfl (lv_at hl 2 rfl) ?_
        refine bi_ne (zx := (z_4).toInt) (zy := (p0).toInt) (tgt := 145) hx hb dX9_alarm_75 (by decide) rfl rfl (fun c_5 => ?_) (fun c_5 => ?_)
        · obtain ⟨x_6, ex_6⟩ : ∃ z : Int32, z = k + (-1) := ⟨_, rfl⟩
          have tx_6 := ad_toInt (x := k) (y := (-1)) (z := x_6) (zx := (k).toInt) (zy := (-1)) ex_6 rfl (by decide)
          refine lv_iinc (v := x_6) (lv' := [(5, .int x_6), (0, .ref h0), (1, .int p0), (2, .int p1), (3, .int p2), (4, .int p3)]) hx hb dX9_alarm_145 hl (k := 0) rfl (by rw [ex_6]; rfl) (by decide) rfl (fun ls hl => ?_)
          refine lv_goto (tgt := 53) hx hb dX9_alarm_148 (by decide) ?_
          exact ih _ _ _ _ (by omega) (rpF_down hR9 (by omega) (by omega) (fun h9 => by have l8 := hA8.get (i := k) rfl (by omega); have l11 := hA11.get (i := k) rfl (by omega); have l12 := hA12.get (i := k) rfl (by omega); unfold rpC at h9; omega)) (by omega) hP hD hS (lv_sub hl [0, 1, 2, 3, 4, 5] rfl)
        · refine lv_aload_n hx hb dX9_alarm_78 rfl (lv_at hl 1 rfl) ?_
          refine va_get (D := D) (ci := 9) (v := .ref b4) (C := RX9) (T := TX9) (N := 37) hx hb hts hin_X9 hown hK hP 0 rfl rfl 10 (by decide) (hts (.fieldLink RX9 26 "CryOrderModel" "thing" "[I") (List.mem_cons_of_mem _ (List.mem_append_left _ (List.mem_append_left _ (List.mem_of_getElem? (i := 2) rfl))))) (fun _ h9 => h9) rfl dX9_alarm_79 ?_
          refine lv_iload hx hb dX9_alarm_82 (lv_at hl 0 rfl) ?_
          refine va_iald hx hb hK hP 5 4 rfl rfl (vp_in_iff.mpr (by omega)) dX9_alarm_84 ?_
          refine lv_topi (fun z_7 ez_7 => ?_)
          have vz_7 := hA4.get ez_7 (by omega)
          refine lv_iload_n hx hb dX9_alarm_85 rfl (lv_at hl 3 rfl) ?_
          refine bi_ne (zx := (z_7).toInt) (zy := (p1).toInt) (tgt := 145) hx hb dX9_alarm_86 (by decide) rfl rfl (fun c_8 => ?_) (fun c_8 => ?_)
          · obtain ⟨x_9, ex_9⟩ : ∃ z : Int32, z = k + (-1) := ⟨_, rfl⟩
            have tx_9 := ad_toInt (x := k) (y := (-1)) (z := x_9) (zx := (k).toInt) (zy := (-1)) ex_9 rfl (by decide)
            refine lv_iinc (v := x_9) (lv' := [(5, .int x_9), (0, .ref h0), (1, .int p0), (2, .int p1), (3, .int p2), (4, .int p3)]) hx hb dX9_alarm_145 hl (k := 0) rfl (by rw [ex_9]; rfl) (by decide) rfl (fun ls hl => ?_)
            refine lv_goto (tgt := 53) hx hb dX9_alarm_148 (by decide) ?_
            exact ih _ _ _ _ (by omega) (rpF_down hR9 (by omega) (by omega) (fun h9 => by have l8 := hA8.get (i := k) rfl (by omega); have l11 := hA11.get (i := k) rfl (by omega); have l12 := hA12.get (i := k) rfl (by omega); unfold rpC at h9; omega)) (by omega) hP hD hS (lv_sub hl [0, 1, 2, 3, 4, 5] rfl)
          · refine lv_aload_n hx hb dX9_alarm_89 rfl (lv_at hl 1 rfl) ?_
            refine va_get (D := D) (ci := 9) (v := .ref b5) (C := RX9) (T := TX9) (N := 37) hx hb hts hin_X9 hown hK hP 0 rfl rfl 11 (by decide) (hts (.fieldLink RX9 29 "CryOrderModel" "marks" "[I") (List.mem_cons_of_mem _ (List.mem_append_left _ (List.mem_append_left _ (List.mem_of_getElem? (i := 3) rfl))))) (fun _ h9 => h9) rfl dX9_alarm_90 ?_
            refine lv_iload hx hb dX9_alarm_93 (lv_at hl 0 rfl) ?_
            refine va_iald hx hb hK hP 6 5 rfl rfl (vp_in_iff.mpr (by omega)) dX9_alarm_95 ?_
            refine lv_topi (fun z_10 ez_10 => ?_)
            have vz_10 := hA5.get ez_10 (by omega)
            refine lv_iload_n hx hb dX9_alarm_96 rfl (lv_at hl 4 rfl) ?_
            refine bi_ne (zx := (z_10).toInt) (zy := (p2).toInt) (tgt := 145) hx hb dX9_alarm_97 (by decide) rfl rfl (fun c_11 => ?_) (fun c_11 => ?_)
            · obtain ⟨x_12, ex_12⟩ : ∃ z : Int32, z = k + (-1) := ⟨_, rfl⟩
              have tx_12 := ad_toInt (x := k) (y := (-1)) (z := x_12) (zx := (k).toInt) (zy := (-1)) ex_12 rfl (by decide)
              refine lv_iinc (v := x_12) (lv' := [(5, .int x_12), (0, .ref h0), (1, .int p0), (2, .int p1), (3, .int p2), (4, .int p3)]) hx hb dX9_alarm_145 hl (k := 0) rfl (by rw [ex_12]; rfl) (by decide) rfl (fun ls hl => ?_)
              refine lv_goto (tgt := 53) hx hb dX9_alarm_148 (by decide) ?_
              exact ih _ _ _ _ (by omega) (rpF_down hR9 (by omega) (by omega) (fun h9 => by have l8 := hA8.get (i := k) rfl (by omega); have l11 := hA11.get (i := k) rfl (by omega); have l12 := hA12.get (i := k) rfl (by omega); unfold rpC at h9; omega)) (by omega) hP hD hS (lv_sub hl [0, 1, 2, 3, 4, 5] rfl)
            · refine lv_aload_n hx hb dX9_alarm_100 rfl (lv_at hl 1 rfl) ?_
              refine va_get (D := D) (ci := 9) (v := .int now) (C := RX9) (T := TX9) (N := 37) hx hb hts hin_X9 hown hK hP 0 rfl rfl 0 (by decide) (hts (.fieldLink RX9 100 "CryOrderModel" "now" "I") (List.mem_cons_of_mem _ (List.mem_append_left _ (List.mem_append_left _ (List.mem_of_getElem? (i := 4) rfl))))) (fun _ h9 => h9) rfl dX9_alarm_101 ?_
              refine lv_aload_n hx hb dX9_alarm_104 rfl (lv_at hl 1 rfl) ?_
              refine va_get (D := D) (ci := 9) (v := .ref b2) (C := RX9) (T := TX9) (N := 37) hx hb hts hin_X9 hown hK hP 0 rfl rfl 8 (by decide) (hts (.fieldLink RX9 20 "CryOrderModel" "last" "[I") (List.mem_cons_of_mem _ (List.mem_append_left _ (List.mem_append_left _ (List.mem_of_getElem? (i := 5) rfl))))) (fun _ h9 => h9) rfl dX9_alarm_105 ?_
              refine lv_iload hx hb dX9_alarm_108 (lv_at hl 0 rfl) ?_
              refine va_iald hx hb hK hP 7 6 rfl rfl (vp_in_iff.mpr (by omega)) dX9_alarm_110 ?_
              refine lv_topi (fun z_13 ez_13 => ?_)
              have hBz_13 := hTb (k : Int32).toNatClampNeg (by have h9 := tnc_eq (i := k) (by omega); omega)
              have vz_13 := hA2.get ez_13 (by omega)
              refine lv_isub hx hb dX9_alarm_111 ?_
              refine lv_topi (fun z_14 ez_14 => ?_)
              have tz_14 := sb_toInt (zx := (now).toInt) (zy := (z_13).toInt) ez_14 rfl rfl
              refine lv_bipush (v := 10) hx hb dX9_alarm_112 (by decide) ?_
              refine bi_le (zx := (z_14).toInt) (zy := 10) (tgt := 120) hx hb dX9_alarm_114 (by decide) rfl (by decide) (fun c_15 => ?_) (fun c_15 => ?_)
              · exact (done_x _ _ _ _ hP hD hS (lv_sub hl [0, 1, 2, 3, 4, 5] rfl)).1 (by omega) (rpF_found hR9 (by omega) (by have l8 := hA8.get (i := k) rfl (by omega); have l11 := hA11.get (i := k) rfl (by omega); have l12 := hA12.get (i := k) rfl (by omega); unfold rpC; omega))
              · refine lv_goto (tgt := 145) hx hb dX9_alarm_117 (by decide) ?_
                obtain ⟨x_16, ex_16⟩ : ∃ z : Int32, z = k + (-1) := ⟨_, rfl⟩
                have tx_16 := ad_toInt (x := k) (y := (-1)) (z := x_16) (zx := (k).toInt) (zy := (-1)) ex_16 rfl (by decide)
                refine lv_iinc (v := x_16) (lv' := [(5, .int x_16), (0, .ref h0), (1, .int p0), (2, .int p1), (3, .int p2), (4, .int p3)]) hx hb dX9_alarm_145 hl (k := 0) rfl (by rw [ex_16]; rfl) (by decide) rfl (fun ls hl => ?_)
                refine lv_goto (tgt := 53) hx hb dX9_alarm_148 (by decide) ?_
                exact ih _ _ _ _ (by omega) (rpF_down hR9 (by omega) (by omega) (fun h9 => by have l8 := hA8.get (i := k) rfl (by omega); have l11 := hA11.get (i := k) rfl (by omega); have l12 := hA12.get (i := k) rfl (by omega); unfold rpC at h9; omega)) (by omega) hP hD hS (lv_sub hl [0, 1, 2, 3, 4, 5] rfl)
      · have h_3 : ¬ (((f8) (k).toNatClampNeg).toInt = 0 ∧ ((f11) (k).toNatClampNeg).toInt = 0 ∧ ((f12) (k).toNatClampNeg).toInt = 0) := h_3
        refine lv_if_eq (tgt := 145) hx hb dX9_alarm_64 (by decide) (fun _ => ?_) (fun c_ => absurd c_ (by decide))
        obtain ⟨x_17, ex_17⟩ : ∃ z : Int32, z = k + (-1) := ⟨_, rfl⟩
        have tx_17 := ad_toInt (x := k) (y := (-1)) (z := x_17) (zx := (k).toInt) (zy := (-1)) ex_17 rfl (by decide)
        refine lv_iinc (v := x_17) (lv' := [(5, .int x_17), (0, .ref h0), (1, .int p0), (2, .int p1), (3, .int p2), (4, .int p3)]) hx hb dX9_alarm_145 hl (k := 0) rfl (by rw [ex_17]; rfl) (by decide) rfl (fun ls hl => ?_)
        refine lv_goto (tgt := 53) hx hb dX9_alarm_148 (by decide) ?_
        exact ih _ _ _ _ (by omega) (rpF_down hR9 (by omega) (by omega) (fun h9 => by have l8 := hA8.get (i := k) rfl (by omega); have l11 := hA11.get (i := k) rfl (by omega); have l12 := hA12.get (i := k) rfl (by omega); unfold rpC at h9; omega)) (by omega) hP hD hS (lv_sub hl [0, 1, 2, 3, 4, 5] rfl)
