set_option maxHeartbeats 4000000 in
set_option maxRecDepth 100000 in
theorem mr_alarmB {p : Program} {l : Launch} {e : Env} {R : Room} {s : State} {m : MethodId} {args : Array Value} {below : List Frame} {meth : Method} {c : Code} {Q : State → Prop} {A : Nat → Prop} {cells slots : Nat} {D : va_G} {H0 : Heap} {h0 : Nat} {b1 : Nat} {b2 : Nat} {b3 : Nat} {b4 : Nat} {b5 : Nat} {b6 : Nat} {b7 : Nat} {b8 : Nat} {b9 : Nat} {b10 : Nat} {b11 : Nat} {b12 : Nat} {b13 : Nat} {b14 : Nat} {b15 : Nat} {b16 : Nat} {b17 : Nat} {b18 : Nat} {b19 : Nat} {b20 : Nat} {b21 : Nat} {b22 : Nat} {b23 : Nat} {b24 : Nat} {b25 : Nat} {now : Int32} {na : Int32} {nsi : Int32} {nti : Int32} {vc : Int32} {vn : Int32} {vt : Int32} {ct : Int32} {cs : Int32} {co : Int32} {nca : Int32} {ntm : Int32} {d8 : ClassId} {d11 : ClassId} {d12 : ClassId} {d3 : ClassId} {d4 : ClassId} {d5 : ClassId} {d2 : ClassId} {d7 : ClassId} {d1 : ClassId} {d6 : ClassId} {d13 : ClassId} {d14 : ClassId} {d15 : ClassId} {f8 : Nat → Int32} {f11 : Nat → Int32} {f12 : Nat → Int32} {f3 : Nat → Int32} {f4 : Nat → Int32} {f5 : Nat → Int32} {f2 : Nat → Int32} {f7 : Nat → Int32} {f1 : Nat → Int32} {f6 : Nat → Int32} {f13 : Nat → Int32} {f14 : Nat → Int32} {f15 : Nat → Int32} {p0 : Int32} {p1 : Int32} {p2 : Int32} {p3 : Int32} {V : Nat → Nat → Int} (hx : p.tables.exec = Jvm.exec) (hb : c.code = cX9_alarm) (hts : ∀ w ∈ wsX9_alarm, w.before args s = true) (hml : c.maxLocals = 8) (hown : s.vm.findClass RX9 = some m.cls) (hN : Nq s) (hK : va_K D vwCl [(d8, .int), (d11, .boolean), (d12, .boolean), (d3, .int), (d4, .int), (d5, .int), (d2, .int), (d7, .int), (d1, .int), (d6, .int), (d13, .int), (d14, .int), (d15, .int)] s) (hA : ∀ q : Nat, H0.size ≤ q → A q) (hR : 1 ≤ R.frames ∧ 20 ≤ R.locals) (hcs : cells ≤ R.cells ∧ slots ≤ R.slots) (hna : 0 ≤ (na).toInt ∧ (na).toInt ≤ 200) (hnow : 0 ≤ (now).toInt ∧ (now).toInt ≤ 10000) (hCb : ∀ i : Nat, (i : Int) < (na).toInt → 0 ≤ V i 1 ∧ V i 1 ≤ 10000) (hA3 : mqA f3 (na).toInt V 2) (hA11 : mqA f11 (na).toInt V 8) (hA12 : mqA f12 (na).toInt V 9) (hA1 : mqA f1 (na).toInt V 1) (done_250 : ∀ (x : Int32) (H : Heap) (locs : List Loc) (ls : Array Slot), ((x).toInt = cpF V (p0).toInt (now).toInt (na).toInt.toNat) → va_P D vwCl [oC h0 9 [.int now, .int na, .int nsi, .int nti, .int vc, .int vn, .int vt, .ref b1, .ref b2, .ref b3, .ref b4, .ref b5, .ref b6, .ref b7, .ref b8, .ref b9, .ref b10, .ref b11, .ref b12, .ref b13, .ref b14, .ref b15, .ref b16, .ref b17, .ref b18, .int ct, .int cs, .int co, .ref b19, .ref b20, .ref b21, .int nca, .ref b22, .ref b23, .int ntm, .ref b24, .ref b25], aI b8 d8 200 (f8), aI b11 d11 200 (f11), aI b12 d12 200 (f12), aI b3 d3 200 (f3), aI b4 d4 200 (f4), aI b5 d5 200 (f5), aI b2 d2 200 (f2), aI b7 d7 200 (f7), aI b1 d1 200 (f1), aI b6 d6 200 (f6), aI b13 d13 30 (f13), aI b14 d14 30 (f14), aI b15 d15 30 (f15)] H → va_D A [oC h0 9 [.int now, .int na, .int nsi, .int nti, .int vc, .int vn, .int vt, .ref b1, .ref b2, .ref b3, .ref b4, .ref b5, .ref b6, .ref b7, .ref b8, .ref b9, .ref b10, .ref b11, .ref b12, .ref b13, .ref b14, .ref b15, .ref b16, .ref b17, .ref b18, .int ct, .int cs, .int co, .ref b19, .ref b20, .ref b21, .int nca, .ref b22, .ref b23, .int ntm, .ref b24, .ref b25], aI b8 d8 200 (f8), aI b11 d11 200 (f11), aI b12 d12 200 (f12), aI b3 d3 200 (f3), aI b4 d4 200 (f4), aI b5 d5 200 (f5), aI b2 d2 200 (f2), aI b7 d7 200 (f7), aI b1 d1 200 (f1), aI b6 d6 200 (f6), aI b13 d13 30 (f13), aI b14 d14 30 (f14), aI b15 d15 30 (f15)] → va_S A H0 H locs → lv_has ls 8 [(6, .int x), (5, .int na), (0, .ref h0), (1, .int p0), (2, .int p1), (3, .int p2), (4, .int p3)] → W p l e R s m args below meth c H locs cells slots Q (F0 m 250 ls [])) : ∀ (n : Nat), ∀ (k : Int32) (x : Int32) (H : Heap) (locs : List Loc) (ls : Array Slot), (0 ≤ (k).toInt ∧ (k).toInt ≤ (na).toInt) → (0 ≤ (x).toInt ∧ (x).toInt ≤ (k).toInt) → ((x).toInt = cpF V (p0).toInt (now).toInt (k).toInt.toNat) → ((200 - (k).toInt).toNat < n) → va_P D vwCl [oC h0 9 [.int now, .int na, .int nsi, .int nti, .int vc, .int vn, .int vt, .ref b1, .ref b2, .ref b3, .ref b4, .ref b5, .ref b6, .ref b7, .ref b8, .ref b9, .ref b10, .ref b11, .ref b12, .ref b13, .ref b14, .ref b15, .ref b16, .ref b17, .ref b18, .int ct, .int cs, .int co, .ref b19, .ref b20, .ref b21, .int nca, .ref b22, .ref b23, .int ntm, .ref b24, .ref b25], aI b8 d8 200 (f8), aI b11 d11 200 (f11), aI b12 d12 200 (f12), aI b3 d3 200 (f3), aI b4 d4 200 (f4), aI b5 d5 200 (f5), aI b2 d2 200 (f2), aI b7 d7 200 (f7), aI b1 d1 200 (f1), aI b6 d6 200 (f6), aI b13 d13 30 (f13), aI b14 d14 30 (f14), aI b15 d15 30 (f15)] H → va_D A [oC h0 9 [.int now, .int na, .int nsi, .int nti, .int vc, .int vn, .int vt, .ref b1, .ref b2, .ref b3, .ref b4, .ref b5, .ref b6, .ref b7, .ref b8, .ref b9, .ref b10, .ref b11, .ref b12, .ref b13, .ref b14, .ref b15, .ref b16, .ref b17, .ref b18, .int ct, .int cs, .int co, .ref b19, .ref b20, .ref b21, .int nca, .ref b22, .ref b23, .int ntm, .ref b24, .ref b25], aI b8 d8 200 (f8), aI b11 d11 200 (f11), aI b12 d12 200 (f12), aI b3 d3 200 (f3), aI b4 d4 200 (f4), aI b5 d5 200 (f5), aI b2 d2 200 (f2), aI b7 d7 200 (f7), aI b1 d1 200 (f1), aI b6 d6 200 (f6), aI b13 d13 30 (f13), aI b14 d14 30 (f14), aI b15 d15 30 (f15)] → va_S A H0 H locs → lv_has ls 8 [(7, .int k), (6, .int x), (5, .int na), (0, .ref h0), (1, .int p0), (2, .int p1), (3, .int p2), (4, .int p3)] → W p l e R s m args below meth c H locs cells slots Q (F0 m 176 ls []) := by
  have hin_X9 : ∀ w ∈ u_ws RX9 TX9 37, w ∈ wsX9_alarm := fun w h => List.mem_cons_of_mem _ (List.mem_append_right _ (h))
  intro n
  induction n with
  | zero => intro k x H locs ls hk hx0 hcp hmu hP hD hS hl; exact absurd hmu (Nat.not_lt_zero _)
  | succ n ih =>
    intro k x H locs ls hk hx0 hcp hmu hP hD hS hl
    refine lv_iload hx hb dX9_alarm_176 (lv_at hl 0 rfl) ?_
    refine lv_iload hx hb dX9_alarm_178 (lv_at hl 2 rfl) ?_
    refine bi_ge (zx := (k).toInt) (zy := (na).toInt) (tgt := 250) hx hb dX9_alarm_180 (by decide) rfl rfl (fun c_1 => ?_) (fun c_1 => ?_)
    · exact done_250 _ _ _ _ (by rw [hcp, show (k).toInt = (na).toInt by omega]) hP hD hS (lv_sub hl [1, 2, 3, 4, 5, 6, 7] rfl)
    · refine lv_iload hx hb dX9_alarm_183 (lv_at hl 1 rfl) ?_
      refine lv_aload_n hx hb dX9_alarm_185 rfl (lv_at hl 3 rfl) ?_
      refine va_get (D := D) (ci := 9) (v := .ref b3) (C := RX9) (T := TX9) (N := 37) hx hb hts hin_X9 hown hK hP 0 rfl rfl 9 (by decide) (hts (.fieldLink RX9 23 "CryOrderModel" "source" "[I") (List.mem_cons_of_mem _ (List.mem_append_left _ (List.mem_append_left _ (List.mem_of_getElem? (i := 1) rfl))))) (fun _ h9 => h9) rfl dX9_alarm_186 ?_
      refine lv_iload hx hb dX9_alarm_189 (lv_at hl 0 rfl) ?_
      refine va_iald hx hb hK hP 4 3 rfl rfl (vp_in_iff.mpr (by omega)) dX9_alarm_191 ?_
      refine lv_topi (fun z_2 ez_2 => ?_)
      have vz_2 := hA3.get ez_2 (by omega)
      refine lv_iload_n hx hb dX9_alarm_192 rfl (lv_at hl 4 rfl) ?_
      refine bi_ne (zx := (z_2).toInt) (zy := (p0).toInt) (tgt := 237) hx hb dX9_alarm_193 (by decide) rfl rfl (fun c_3 => ?_) (fun c_3 => ?_)
      · refine lv_iconst (v := 0) hx hb dX9_alarm_237 (by decide) ?_
        refine vp_callSi (zrS (As := [.int 0]) (rest := [.int x]) (wc := []) ⟨hx, hb, hml, hown, hts⟩ hN hK hP hD (m_one0 l D  ) (va_cwS 1 hts gX9_alarm_X9_one rfl rfl rfl (by decide +kernel) ⟨Nat.le_trans (m := 1) (Nat.le_of_ble_eq_true rfl) hR.1, Nat.le_trans (m := 20) (Nat.le_of_ble_eq_true rfl) hR.2⟩) [] [] rfl rfl (by decide) rfl hl.1 rfl (Nat.le_of_ble_eq_true rfl) dX9_alarm_238 ⟨hcs.1, hcs.2⟩) (fun r_4 h_5 => ?_)
        subst h_5
        refine lv_iadd hx hb dX9_alarm_241 ?_
        refine lv_topi (fun z_6 ez_6 => ?_)
        have tz_6 := ad_toInt (zx := (x).toInt) (zy := 0) ez_6 rfl (by decide)
        refine lv_istore (lv' := [(6, .int z_6), (7, .int k), (5, .int na), (0, .ref h0), (1, .int p0), (2, .int p1), (3, .int p2), (4, .int p3)]) hx hb dX9_alarm_242 hl (by decide) rfl (fun ls hl => ?_)
        obtain ⟨x_7, ex_7⟩ : ∃ z : Int32, z = k + 1 := ⟨_, rfl⟩
        have tx_7 := ad_toInt (x := k) (y := 1) (z := x_7) (zx := (k).toInt) (zy := 1) ex_7 rfl (by decide)
        refine lv_iinc (v := x_7) (lv' := [(7, .int x_7), (6, .int z_6), (5, .int na), (0, .ref h0), (1, .int p0), (2, .int p1), (3, .int p2), (4, .int p3)]) hx hb dX9_alarm_244 hl (k := 1) rfl (by rw [ex_7]; rfl) (by decide) rfl (fun ls hl => ?_)
        refine lv_goto (tgt := 176) hx hb dX9_alarm_247 (by decide) ?_
        exact ih _ _ _ _ _ (by omega) (by omega) (cpF_upS hcp (by omega) (by omega) (by omega) (fun h9 => by unfold cpC at h9; omega)) (by omega) hP hD hS (lv_sub hl [0, 1, 2, 3, 4, 5, 6, 7] rfl)
      · refine lv_aload_n hx hb dX9_alarm_196 rfl (lv_at hl 3 rfl) ?_
        refine va_get (D := D) (ci := 9) (v := .ref b11) (C := RX9) (T := TX9) (N := 37) hx hb hts hin_X9 hown hK hP 0 rfl rfl 17 (by decide) (hts (.fieldLink RX9 47 "CryOrderModel" "isSilenced" "[Z") (List.mem_cons_of_mem _ (List.mem_append_left _ (List.mem_append_left _ (List.mem_of_getElem? (i := 7) rfl))))) (fun _ h9 => h9) rfl dX9_alarm_197 ?_
        refine lv_iload hx hb dX9_alarm_200 (lv_at hl 0 rfl) ?_
        refine va_zald hx hb hK hP 2 1 rfl rfl (vp_in_iff.mpr (by omega)) dX9_alarm_202 ?_
        refine lv_topi (fun z_8 ez_8 => ?_)
        have vz_8 := hA11.get ez_8 (by omega)
        refine bz_ne (zx := (z_8).toInt) (tgt := 237) hx hb dX9_alarm_203 (by decide) rfl (fun c_9 => ?_) (fun c_9 => ?_)
        · refine lv_iconst (v := 0) hx hb dX9_alarm_237 (by decide) ?_
          refine vp_callSi (zrS (As := [.int 0]) (rest := [.int x]) (wc := []) ⟨hx, hb, hml, hown, hts⟩ hN hK hP hD (m_one0 l D  ) (va_cwS 1 hts gX9_alarm_X9_one rfl rfl rfl (by decide +kernel) ⟨Nat.le_trans (m := 1) (Nat.le_of_ble_eq_true rfl) hR.1, Nat.le_trans (m := 20) (Nat.le_of_ble_eq_true rfl) hR.2⟩) [] [] rfl rfl (by decide) rfl hl.1 rfl (Nat.le_of_ble_eq_true rfl) dX9_alarm_238 ⟨hcs.1, hcs.2⟩) (fun r_10 h_11 => ?_)
          subst h_11
          refine lv_iadd hx hb dX9_alarm_241 ?_
          refine lv_topi (fun z_12 ez_12 => ?_)
          have tz_12 := ad_toInt (zx := (x).toInt) (zy := 0) ez_12 rfl (by decide)
          refine lv_istore (lv' := [(6, .int z_12), (7, .int k), (5, .int na), (0, .ref h0), (1, .int p0), (2, .int p1), (3, .int p2), (4, .int p3)]) hx hb dX9_alarm_242 hl (by decide) rfl (fun ls hl => ?_)
          obtain ⟨x_13, ex_13⟩ : ∃ z : Int32, z = k + 1 := ⟨_, rfl⟩
          have tx_13 := ad_toInt (x := k) (y := 1) (z := x_13) (zx := (k).toInt) (zy := 1) ex_13 rfl (by decide)
          refine lv_iinc (v := x_13) (lv' := [(7, .int x_13), (6, .int z_12), (5, .int na), (0, .ref h0), (1, .int p0), (2, .int p1), (3, .int p2), (4, .int p3)]) hx hb dX9_alarm_244 hl (k := 1) rfl (by rw [ex_13]; rfl) (by decide) rfl (fun ls hl => ?_)
          refine lv_goto (tgt := 176) hx hb dX9_alarm_247 (by decide) ?_
          exact ih _ _ _ _ _ (by omega) (by omega) (cpF_upS hcp (by omega) (by omega) (by omega) (fun h9 => by unfold cpC at h9; omega)) (by omega) hP hD hS (lv_sub hl [0, 1, 2, 3, 4, 5, 6, 7] rfl)
        · refine lv_aload_n hx hb dX9_alarm_206 rfl (lv_at hl 3 rfl) ?_
          refine va_get (D := D) (ci := 9) (v := .ref b12) (C := RX9) (T := TX9) (N := 37) hx hb hts hin_X9 hown hK hP 0 rfl rfl 18 (by decide) (hts (.fieldLink RX9 51 "CryOrderModel" "isCapped" "[Z") (List.mem_cons_of_mem _ (List.mem_append_left _ (List.mem_append_left _ (List.mem_of_getElem? (i := 8) rfl))))) (fun _ h9 => h9) rfl dX9_alarm_207 ?_
          refine lv_iload hx hb dX9_alarm_210 (lv_at hl 0 rfl) ?_
          refine va_zald hx hb hK hP 3 2 rfl rfl (vp_in_iff.mpr (by omega)) dX9_alarm_212 ?_
          refine lv_topi (fun z_14 ez_14 => ?_)
          have vz_14 := hA12.get ez_14 (by omega)
          refine bz_ne (zx := (z_14).toInt) (tgt := 237) hx hb dX9_alarm_213 (by decide) rfl (fun c_15 => ?_) (fun c_15 => ?_)
          · refine lv_iconst (v := 0) hx hb dX9_alarm_237 (by decide) ?_
            refine vp_callSi (zrS (As := [.int 0]) (rest := [.int x]) (wc := []) ⟨hx, hb, hml, hown, hts⟩ hN hK hP hD (m_one0 l D  ) (va_cwS 1 hts gX9_alarm_X9_one rfl rfl rfl (by decide +kernel) ⟨Nat.le_trans (m := 1) (Nat.le_of_ble_eq_true rfl) hR.1, Nat.le_trans (m := 20) (Nat.le_of_ble_eq_true rfl) hR.2⟩) [] [] rfl rfl (by decide) rfl hl.1 rfl (Nat.le_of_ble_eq_true rfl) dX9_alarm_238 ⟨hcs.1, hcs.2⟩) (fun r_16 h_17 => ?_)
            subst h_17
            refine lv_iadd hx hb dX9_alarm_241 ?_
            refine lv_topi (fun z_18 ez_18 => ?_)
            have tz_18 := ad_toInt (zx := (x).toInt) (zy := 0) ez_18 rfl (by decide)
            refine lv_istore (lv' := [(6, .int z_18), (7, .int k), (5, .int na), (0, .ref h0), (1, .int p0), (2, .int p1), (3, .int p2), (4, .int p3)]) hx hb dX9_alarm_242 hl (by decide) rfl (fun ls hl => ?_)
            obtain ⟨x_19, ex_19⟩ : ∃ z : Int32, z = k + 1 := ⟨_, rfl⟩
            have tx_19 := ad_toInt (x := k) (y := 1) (z := x_19) (zx := (k).toInt) (zy := 1) ex_19 rfl (by decide)
            refine lv_iinc (v := x_19) (lv' := [(7, .int x_19), (6, .int z_18), (5, .int na), (0, .ref h0), (1, .int p0), (2, .int p1), (3, .int p2), (4, .int p3)]) hx hb dX9_alarm_244 hl (k := 1) rfl (by rw [ex_19]; rfl) (by decide) rfl (fun ls hl => ?_)
            refine lv_goto (tgt := 176) hx hb dX9_alarm_247 (by decide) ?_
            exact ih _ _ _ _ _ (by omega) (by omega) (cpF_upS hcp (by omega) (by omega) (by omega) (fun h9 => by unfold cpC at h9; omega)) (by omega) hP hD hS (lv_sub hl [0, 1, 2, 3, 4, 5, 6, 7] rfl)
          · refine lv_aload_n hx hb dX9_alarm_216 rfl (lv_at hl 3 rfl) ?_
            refine va_get (D := D) (ci := 9) (v := .int now) (C := RX9) (T := TX9) (N := 37) hx hb hts hin_X9 hown hK hP 0 rfl rfl 0 (by decide) (hts (.fieldLink RX9 100 "CryOrderModel" "now" "I") (List.mem_cons_of_mem _ (List.mem_append_left _ (List.mem_append_left _ (List.mem_of_getElem? (i := 4) rfl))))) (fun _ h9 => h9) rfl dX9_alarm_217 ?_
            refine lv_aload_n hx hb dX9_alarm_220 rfl (lv_at hl 3 rfl) ?_
            refine va_get (D := D) (ci := 9) (v := .ref b1) (C := RX9) (T := TX9) (N := 37) hx hb hts hin_X9 hown hK hP 0 rfl rfl 7 (by decide) (hts (.fieldLink RX9 16 "CryOrderModel" "came" "[I") (List.mem_cons_of_mem _ (List.mem_append_left _ (List.mem_append_left _ (List.mem_of_getElem? (i := 9) rfl))))) (fun _ h9 => h9) rfl dX9_alarm_221 ?_
            refine lv_iload hx hb dX9_alarm_224 (lv_at hl 0 rfl) ?_
            refine va_iald hx hb hK hP 9 8 rfl rfl (vp_in_iff.mpr (by omega)) dX9_alarm_226 ?_
            refine lv_topi (fun z_20 ez_20 => ?_)
            have hBz_20 := hCb (k : Int32).toNatClampNeg (by have h9 := tnc_eq (i := k) (by omega); omega)
            have vz_20 := hA1.get ez_20 (by omega)
            refine lv_isub hx hb dX9_alarm_227 ?_
            refine lv_topi (fun z_21 ez_21 => ?_)
            have tz_21 := sb_toInt (zx := (now).toInt) (zy := (z_20).toInt) ez_21 rfl rfl
            refine lv_bipush (v := 10) hx hb dX9_alarm_228 (by decide) ?_
            refine bi_ge (zx := (z_21).toInt) (zy := 10) (tgt := 237) hx hb dX9_alarm_230 (by decide) rfl (by decide) (fun c_22 => ?_) (fun c_22 => ?_)
            · refine lv_iconst (v := 0) hx hb dX9_alarm_237 (by decide) ?_
              refine vp_callSi (zrS (As := [.int 0]) (rest := [.int x]) (wc := []) ⟨hx, hb, hml, hown, hts⟩ hN hK hP hD (m_one0 l D  ) (va_cwS 1 hts gX9_alarm_X9_one rfl rfl rfl (by decide +kernel) ⟨Nat.le_trans (m := 1) (Nat.le_of_ble_eq_true rfl) hR.1, Nat.le_trans (m := 20) (Nat.le_of_ble_eq_true rfl) hR.2⟩) [] [] rfl rfl (by decide) rfl hl.1 rfl (Nat.le_of_ble_eq_true rfl) dX9_alarm_238 ⟨hcs.1, hcs.2⟩) (fun r_23 h_24 => ?_)
              subst h_24
              refine lv_iadd hx hb dX9_alarm_241 ?_
              refine lv_topi (fun z_25 ez_25 => ?_)
              have tz_25 := ad_toInt (zx := (x).toInt) (zy := 0) ez_25 rfl (by decide)
              refine lv_istore (lv' := [(6, .int z_25), (7, .int k), (5, .int na), (0, .ref h0), (1, .int p0), (2, .int p1), (3, .int p2), (4, .int p3)]) hx hb dX9_alarm_242 hl (by decide) rfl (fun ls hl => ?_)
              obtain ⟨x_26, ex_26⟩ : ∃ z : Int32, z = k + 1 := ⟨_, rfl⟩
              have tx_26 := ad_toInt (x := k) (y := 1) (z := x_26) (zx := (k).toInt) (zy := 1) ex_26 rfl (by decide)
              refine lv_iinc (v := x_26) (lv' := [(7, .int x_26), (6, .int z_25), (5, .int na), (0, .ref h0), (1, .int p0), (2, .int p1), (3, .int p2), (4, .int p3)]) hx hb dX9_alarm_244 hl (k := 1) rfl (by rw [ex_26]; rfl) (by decide) rfl (fun ls hl => ?_)
              refine lv_goto (tgt := 176) hx hb dX9_alarm_247 (by decide) ?_
              exact ih _ _ _ _ _ (by omega) (by omega) (cpF_upS hcp (by omega) (by omega) (by omega) (fun h9 => by unfold cpC at h9; omega)) (by omega) hP hD hS (lv_sub hl [0, 1, 2, 3, 4, 5, 6, 7] rfl)
            · refine lv_iconst (v := 1) hx hb dX9_alarm_233 (by decide) ?_
              refine lv_goto (tgt := 238) hx hb dX9_alarm_234 (by decide) ?_
              refine vp_callSi (zrS (As := [.int 1]) (rest := [.int x]) (wc := []) ⟨hx, hb, hml, hown, hts⟩ hN hK hP hD (m_one1 l D  ) (va_cwS 1 hts gX9_alarm_X9_one rfl rfl rfl (by decide +kernel) ⟨Nat.le_trans (m := 1) (Nat.le_of_ble_eq_true rfl) hR.1, Nat.le_trans (m := 20) (Nat.le_of_ble_eq_true rfl) hR.2⟩) [] [] rfl rfl (by decide) rfl hl.1 rfl (Nat.le_of_ble_eq_true rfl) dX9_alarm_238 ⟨hcs.1, hcs.2⟩) (fun r_27 h_28 => ?_)
              subst h_28
              refine lv_iadd hx hb dX9_alarm_241 ?_
              refine lv_topi (fun z_29 ez_29 => ?_)
              have tz_29 := ad_toInt (zx := (x).toInt) (zy := 1) ez_29 rfl (by decide)
              refine lv_istore (lv' := [(6, .int z_29), (7, .int k), (5, .int na), (0, .ref h0), (1, .int p0), (2, .int p1), (3, .int p2), (4, .int p3)]) hx hb dX9_alarm_242 hl (by decide) rfl (fun ls hl => ?_)
              obtain ⟨x_30, ex_30⟩ : ∃ z : Int32, z = k + 1 := ⟨_, rfl⟩
              have tx_30 := ad_toInt (x := k) (y := 1) (z := x_30) (zx := (k).toInt) (zy := 1) ex_30 rfl (by decide)
              refine lv_iinc (v := x_30) (lv' := [(7, .int x_30), (6, .int z_29), (5, .int na), (0, .ref h0), (1, .int p0), (2, .int p1), (3, .int p2), (4, .int p3)]) hx hb dX9_alarm_244 hl (k := 1) rfl (by rw [ex_30]; rfl) (by decide) rfl (fun ls hl => ?_)
              refine lv_goto (tgt := 176) hx hb dX9_alarm_247 (by decide) ?_
              exact ih _ _ _ _ _ (by omega) (by omega) (cpF_upH hcp (by omega) (by omega) (by omega) (by unfold cpC; omega)) (by omega) hP hD hS (lv_sub hl [0, 1, 2, 3, 4, 5, 6, 7] rfl)
