set_option maxHeartbeats 4000000 in
set_option maxRecDepth 100000 in
theorem rl_repeat {p : Program} {l : Launch} {e : Env} {R : Room} {s : State} {m : MethodId} {args : Array Value} {below : List Frame} {meth : Method} {c : Code} {Q : State → Prop} {A : Nat → Prop} {cells slots : Nat} {D : va_G} {H : Heap} {locs : List Loc} {xo : Nat} {ro : Nat} {tI : Nat} {cS : Nat} {pN : Nat} {a1 : Nat} {a2 : Nat} {a3 : Nat} {a4 : Nat} {a5 : Nat} {a6 : Nat} {a7 : Nat} {a8 : Nat} {a9 : Nat} {e1 : ClassId} {e2 : ClassId} {e3 : ClassId} {e4 : ClassId} {e5 : ClassId} {e6 : ClassId} {e7 : ClassId} {e8 : ClassId} {e9 : ClassId} {na : Int32} {ns : Int32} {nw : Int32} {cp : Int32} {le : Int32} {tr : Int32} {sl : Int32} {tz : Int32} {cz : Int32} {q1 : Int32} {q2 : Int32} {q3 : Int32} {q4 : Int32} {g1 : Nat → Option Nat} {g2 : Nat → Option Nat} {g3 : Nat → Option Nat} {g4 : Nat → Option Nat} {g5 : Nat → Option Nat} {g6 : Nat → Option Nat} {g7 : Nat → Option Nat} {y8 : Nat → Int32} {y9 : Nat → Int32} {L : List Nat} {K : Nat → Nat × Nat} {f : Nat → va_E} {S : Int} {v1 : Int32} {v2 : Int32} {v3 : Int32} {V : Nat → Nat → Int} {r9 : Option Nat} (hx : p.tables.exec = Jvm.exec) (hb : c.code = cX8_alarmToRepeat) (hts : ∀ w ∈ wsX8_alarmToRepeat, w.before args s = true) (hml : c.maxLocals = 6) (hown : s.vm.findClass RX8 = some m.cls) (hN : Nq s) (hK : va_K D vwCl [(e1, .object RX0), (e2, .object RX0), (e3, .object RX6), (e4, .object RX4), (e5, .object RX1), (e6, .object RX1), (e7, .object RX1), (e8, .int), (e9, .int)] s) (hP : va_P D vwCl ([oC xo 8 [.ref a1, .ref a2, .ref a3, .ref ro, .ref tI, .ref cS, .ref pN, .int na, .int ns, .int nw, .int cp, .int le, .int tr, .int sl], aR a1 e1 200 (g1), aR a2 e2 40 (g2), aR a3 e3 30 (g3), oC tI 7 [.ref a4, .int tz], aR a4 e4 60 (g4), oC cS 2 [.ref a5, .int cz], aR a5 e5 200 (g5), oC pN 5 [.ref a6, .ref a7, .ref a8, .ref a9, .int q1, .int q2, .int q3, .int q4], aR a6 e6 17 (g6), aR a7 e7 12 (g7), aI a8 e8 301 (y8), aI a9 e9 301 (y9)] ++ va_pl L f) H) (hD : va_D A ([oC xo 8 [.ref a1, .ref a2, .ref a3, .ref ro, .ref tI, .ref cS, .ref pN, .int na, .int ns, .int nw, .int cp, .int le, .int tr, .int sl], aR a1 e1 200 (g1), aR a2 e2 40 (g2), aR a3 e3 30 (g3), oC tI 7 [.ref a4, .int tz], aR a4 e4 60 (g4), oC cS 2 [.ref a5, .int cz], aR a5 e5 200 (g5), oC pN 5 [.ref a6, .ref a7, .ref a8, .ref a9, .int q1, .int q2, .int q3, .int q4], aR a6 e6 17 (g6), aR a7 e7 12 (g7), aI a8 e8 301 (y8), aI a9 e9 301 (y9)] ++ va_pl L f)) (hR : 2 ≤ R.frames ∧ 40 ≤ R.locals) (hcs : cells ≤ R.cells ∧ slots ≤ R.slots) (hI : cqI S L K f) (hna : 0 ≤ (na).toInt ∧ (na).toInt ≤ 200) (j1 : cqJA L K (na).toInt g1) (hV : cqV f g1 (na).toInt V) (hT : ∀ i : Nat, (i : Int) < (na).toInt → 0 ≤ V i 10 ∧ V i 10 ≤ 10000) (hnw : 0 ≤ (nw).toInt ∧ (nw).toInt ≤ 10000) (done_72 : ∀ (k : Int32) (ea : Nat) (ls : Array Slot), (cqIs L K 0 ea) → (∃ i, r9 = some i ∧ g1 i = some ea) → lv_has ls 6 [(5, .ref ea), (4, .int k), (0, .ref xo), (1, .int v1), (2, .int v2), (3, .int v3)] → W p l e R s m args below meth c H locs cells slots Q (F0 m 72 ls [])) (done_81 : ∀ (k : Int32) (ls : Array Slot), (r9 = none) → lv_has ls 6 [(4, .int k), (0, .ref xo), (1, .int v1), (2, .int v2), (3, .int v3)] → W p l e R s m args below meth c H locs cells slots Q (F0 m 81 ls [])) : ∀ (n : Nat), ∀ (k : Int32) (ls : Array Slot), (-1 ≤ (k).toInt ∧ (k).toInt < (na).toInt) → (r9 = rpF V (v1).toInt (v2).toInt (v3).toInt (nw).toInt ((k).toInt + 1).toNat) → (((k).toInt + 1).toNat < n) → lv_has ls 6 [(4, .int k), (0, .ref xo), (1, .int v1), (2, .int v2), (3, .int v3)] → W p l e R s m args below meth c H locs cells slots Q (F0 m 8 ls []) := by
  have hin_X0 : ∀ w ∈ u_ws RX0 TX0 17, w ∈ wsX8_alarmToRepeat := fun w h => List.mem_cons_of_mem _ (List.mem_append_right _ (h))
  have hin_X8 : ∀ w ∈ u_ws RX8 TX8 14, w ∈ wsX8_alarmToRepeat := fun w h => List.mem_cons_of_mem _ (List.mem_append_left _ (List.mem_append_right _ (h)))
  intro n
  induction n with
  | zero => intro k ls hk hR9 hmu hl; exact absurd hmu (Nat.not_lt_zero _)
  | succ n ih =>
    intro k ls hk hR9 hmu hl
    refine lv_iload hx hb dX8_alarmToRepeat_8 (lv_at hl 0 rfl) ?_
    refine bz_lt (zx := (k).toInt) (tgt := 81) hx hb dX8_alarmToRepeat_10 (by decide) rfl (fun c_1 => ?_) (fun c_1 => ?_)
    · exact done_81 k _ (rpF_end hR9 (by omega)) (lv_sub hl [0, 1, 2, 3, 4] rfl)
    · refine lv_aload_n hx hb dX8_alarmToRepeat_13 rfl (lv_at hl 1 rfl) ?_
      refine va_get (D := D) (ci := 8) (v := .ref a1) (C := RX8) (T := TX8) (N := 14) hx hb hts hin_X8 hown hK hP 0 rfl rfl 0 (by decide) (hts (.fieldLink RX8 11 "CryOrder" "alarms" "[LCryOrder$Alarm;") (List.mem_cons_of_mem _ (List.mem_append_left _ (List.mem_append_left _ (List.mem_of_getElem? (i := 1) rfl))))) (fun _ h9 => h9) rfl dX8_alarmToRepeat_14 ?_
      refine lv_iload hx hb dX8_alarmToRepeat_17 (lv_at hl 0 rfl) ?_
      refine va_aldq hx hb hK hP 1 0 rfl rfl (vp_in_iff.mpr (by omega)) dX8_alarmToRepeat_19 ?_
      obtain ⟨b_2, eb_2, ib_2, kb_2⟩ := cqJA.get (i := (k : Int32)) j1 (by first | omega | decide) (by first | omega | decide)
      refine lv_topv (z := .ref b_2) (congrArg va_rf eb_2) ?_
      have hzb_2 := tnc_eq (i := k) (by omega)
      have hBb_2 := hT (k : Int32).toNatClampNeg (by omega)
      have V2b_2 := hV (k : Int32).toNatClampNeg (by omega) b_2 eb_2 2 (by decide)
      have V3b_2 := hV (k : Int32).toNatClampNeg (by omega) b_2 eb_2 3 (by decide)
      have V4b_2 := hV (k : Int32).toNatClampNeg (by omega) b_2 eb_2 4 (by decide)
      have V8b_2 := hV (k : Int32).toNatClampNeg (by omega) b_2 eb_2 8 (by decide)
      have V9b_2 := hV (k : Int32).toNatClampNeg (by omega) b_2 eb_2 9 (by decide)
      have V10b_2 := hV (k : Int32).toNatClampNeg (by omega) b_2 eb_2 10 (by decide)
      have V12b_2 := hV (k : Int32).toNatClampNeg (by omega) b_2 eb_2 12 (by decide)
      refine lv_astore (lv' := [(5, .ref b_2), (4, .int k), (0, .ref xo), (1, .int v1), (2, .int v2), (3, .int v3)]) hx hb dX8_alarmToRepeat_20 hl (by decide) rfl (fun ls hl => ?_)
      refine lv_aload hx hb dX8_alarmToRepeat_22 (lv_at hl 0 rfl) ?_
      obtain ⟨nu_3, ca_3, so_3, th_3, ma_3, wo_3, lf_3, ld_3, si_3, cp_3, he_3, re_3, sv_3, lt_3, lF_3, sn_3, ab_3, hf_3, hnu_3, hlf_3, hld_3, hsi_3, hcp_3, hsn_3, hab_3⟩ := hI.opA ib_2
      have F2hf_3 : cqF (f b_2) 2 = (so_3).toInt := by rw [hf_3]; rfl
      have F3hf_3 : cqF (f b_2) 3 = (th_3).toInt := by rw [hf_3]; rfl
      have F4hf_3 : cqF (f b_2) 4 = (ma_3).toInt := by rw [hf_3]; rfl
      have F8hf_3 : cqF (f b_2) 8 = (si_3).toInt := by rw [hf_3]; rfl
      have F9hf_3 : cqF (f b_2) 9 = (cp_3).toInt := by rw [hf_3]; rfl
      have F10hf_3 : cqF (f b_2) 10 = (he_3).toInt := by rw [hf_3]; rfl
      have F12hf_3 : cqF (f b_2) 12 = (sv_3).toInt := by rw [hf_3]; rfl
      have F13hf_3 : cqF (f b_2) 13 = (lt_3).toInt := by rw [hf_3]; rfl
      have F14hf_3 : cqF (f b_2) 14 = (lF_3).toInt := by rw [hf_3]; rfl
      refine pl_get (D := D) (ci := 0) (v := .int so_3) (C := RX0) (T := TX0) (N := 17) hx hb hts hin_X0 hown hK hP ib_2.1 hf_3 rfl 2 (by decide) (hts (.fieldLink RX8 151 "CryOrder$Alarm" "source" "I") (List.mem_cons_of_mem _ (List.mem_append_left _ (List.mem_append_left _ (List.mem_of_getElem? (i := 2) rfl))))) (fun _ h9 => h9) rfl dX8_alarmToRepeat_24 ?_
      refine lv_iload_n hx hb dX8_alarmToRepeat_27 rfl (lv_at hl 3 rfl) ?_
      refine bi_ne (zx := (so_3).toInt) (zy := (v1).toInt) (tgt := 75) hx hb dX8_alarmToRepeat_28 (by decide) rfl rfl (fun c_4 => ?_) (fun c_4 => ?_)
      · obtain ⟨x_5, ex_5⟩ : ∃ z : Int32, z = k + (-1) := ⟨_, rfl⟩
        have tx_5 := ad_toInt (x := k) (y := (-1)) (z := x_5) (zx := (k).toInt) (zy := (-1)) ex_5 rfl (by decide)
        refine lv_iinc (v := x_5) (lv' := [(4, .int x_5), (5, .ref b_2), (0, .ref xo), (1, .int v1), (2, .int v2), (3, .int v3)]) hx hb dX8_alarmToRepeat_75 hl (k := 1) rfl (by rw [ex_5]; rfl) (by decide) rfl (fun ls hl => ?_)
        refine lv_goto (tgt := 8) hx hb dX8_alarmToRepeat_78 (by decide) ?_
        exact ih x_5 _ (by first | omega | assumption | decide | (have h3 : (0 : Int32).toInt = 0 := rfl; omega) | (have h3 : (0 : Int32).toInt = 0 := rfl; have h4 : (1 : Int32).toInt = 1 := rfl; have h5 : (-1 : Int32).toInt = -1 := rfl; omega)) (rpF_down hR9 (by omega) (by omega) (fun h9 => by unfold rpC at h9; omega)) (by omega) (lv_sub hl [0, 2, 3, 4, 5] rfl)
      · refine lv_aload hx hb dX8_alarmToRepeat_31 (lv_at hl 0 rfl) ?_
        refine pl_get (D := D) (ci := 0) (v := .int th_3) (C := RX0) (T := TX0) (N := 17) hx hb hts hin_X0 hown hK hP ib_2.1 hf_3 rfl 3 (by decide) (hts (.fieldLink RX8 154 "CryOrder$Alarm" "thing" "I") (List.mem_cons_of_mem _ (List.mem_append_left _ (List.mem_append_left _ (List.mem_of_getElem? (i := 3) rfl))))) (fun _ h9 => h9) rfl dX8_alarmToRepeat_33 ?_
        refine lv_iload_n hx hb dX8_alarmToRepeat_36 rfl (lv_at hl 4 rfl) ?_
        refine bi_ne (zx := (th_3).toInt) (zy := (v2).toInt) (tgt := 75) hx hb dX8_alarmToRepeat_37 (by decide) rfl rfl (fun c_6 => ?_) (fun c_6 => ?_)
        · obtain ⟨x_7, ex_7⟩ : ∃ z : Int32, z = k + (-1) := ⟨_, rfl⟩
          have tx_7 := ad_toInt (x := k) (y := (-1)) (z := x_7) (zx := (k).toInt) (zy := (-1)) ex_7 rfl (by decide)
          refine lv_iinc (v := x_7) (lv' := [(4, .int x_7), (5, .ref b_2), (0, .ref xo), (1, .int v1), (2, .int v2), (3, .int v3)]) hx hb dX8_alarmToRepeat_75 hl (k := 1) rfl (by rw [ex_7]; rfl) (by decide) rfl (fun ls hl => ?_)
          refine lv_goto (tgt := 8) hx hb dX8_alarmToRepeat_78 (by decide) ?_
          exact ih x_7 _ (by first | omega | assumption | decide | (have h3 : (0 : Int32).toInt = 0 := rfl; omega) | (have h3 : (0 : Int32).toInt = 0 := rfl; have h4 : (1 : Int32).toInt = 1 := rfl; have h5 : (-1 : Int32).toInt = -1 := rfl; omega)) (rpF_down hR9 (by omega) (by omega) (fun h9 => by unfold rpC at h9; omega)) (by omega) (lv_sub hl [0, 2, 3, 4, 5] rfl)
        · refine lv_aload hx hb dX8_alarmToRepeat_40 (lv_at hl 0 rfl) ?_
          refine pl_get (D := D) (ci := 0) (v := .int ma_3) (C := RX0) (T := TX0) (N := 17) hx hb hts hin_X0 hown hK hP ib_2.1 hf_3 rfl 4 (by decide) (hts (.fieldLink RX8 157 "CryOrder$Alarm" "marks" "I") (List.mem_cons_of_mem _ (List.mem_append_left _ (List.mem_append_left _ (List.mem_of_getElem? (i := 4) rfl))))) (fun _ h9 => h9) rfl dX8_alarmToRepeat_42 ?_
          refine lv_iload_n hx hb dX8_alarmToRepeat_45 rfl (lv_at hl 5 rfl) ?_
          refine bi_ne (zx := (ma_3).toInt) (zy := (v3).toInt) (tgt := 75) hx hb dX8_alarmToRepeat_46 (by decide) rfl rfl (fun c_8 => ?_) (fun c_8 => ?_)
          · obtain ⟨x_9, ex_9⟩ : ∃ z : Int32, z = k + (-1) := ⟨_, rfl⟩
            have tx_9 := ad_toInt (x := k) (y := (-1)) (z := x_9) (zx := (k).toInt) (zy := (-1)) ex_9 rfl (by decide)
            refine lv_iinc (v := x_9) (lv' := [(4, .int x_9), (5, .ref b_2), (0, .ref xo), (1, .int v1), (2, .int v2), (3, .int v3)]) hx hb dX8_alarmToRepeat_75 hl (k := 1) rfl (by rw [ex_9]; rfl) (by decide) rfl (fun ls hl => ?_)
            refine lv_goto (tgt := 8) hx hb dX8_alarmToRepeat_78 (by decide) ?_
            exact ih x_9 _ (by first | omega | assumption | decide | (have h3 : (0 : Int32).toInt = 0 := rfl; omega) | (have h3 : (0 : Int32).toInt = 0 := rfl; have h4 : (1 : Int32).toInt = 1 := rfl; have h5 : (-1 : Int32).toInt = -1 := rfl; omega)) (rpF_down hR9 (by omega) (by omega) (fun h9 => by unfold rpC at h9; omega)) (by omega) (lv_sub hl [0, 2, 3, 4, 5] rfl)
          · refine lv_aload hx hb dX8_alarmToRepeat_49 (lv_at hl 0 rfl) ?_
            refine vp_callSi (wrV (As := []) (rest := []) ⟨hx, hb, hml, hown, hts⟩ hN hK hP hD (c_X0_isLiveR l D [oC xo 8 [.ref a1, .ref a2, .ref a3, .ref ro, .ref tI, .ref cS, .ref pN, .int na, .int ns, .int nw, .int cp, .int le, .int tr, .int sl], aR a1 e1 200 (g1), aR a2 e2 40 (g2), aR a3 e3 30 (g3), oC tI 7 [.ref a4, .int tz], aR a4 e4 60 (g4), oC cS 2 [.ref a5, .int cz], aR a5 e5 200 (g5), oC pN 5 [.ref a6, .ref a7, .ref a8, .ref a9, .int q1, .int q2, .int q3, .int q4], aR a6 e6 17 (g6), aR a7 e7 12 (g7), aI a8 e8 301 (y8), aI a9 e9 301 (y9)] L K f S [(e1, .object RX0), (e2, .object RX0), (e3, .object RX6), (e4, .object RX4), (e5, .object RX1), (e6, .object RX1), (e7, .object RX1), (e8, .int), (e9, .int)] b_2 hI ib_2) (cwV 0 hts gX8_alarmToRepeat_X0_isLive rfl rfl rfl (by decide +kernel) ⟨Nat.le_trans (m := 2) (Nat.le_of_ble_eq_true rfl) hR.1, Nat.le_trans (m := 40) (Nat.le_of_ble_eq_true rfl) hR.2⟩) 0 rfl (cq_rcA (X := [oC xo 8 [.ref a1, .ref a2, .ref a3, .ref ro, .ref tI, .ref cS, .ref pN, .int na, .int ns, .int nw, .int cp, .int le, .int tr, .int sl], aR a1 e1 200 (g1), aR a2 e2 40 (g2), aR a3 e3 30 (g3), oC tI 7 [.ref a4, .int tz], aR a4 e4 60 (g4), oC cS 2 [.ref a5, .int cz], aR a5 e5 200 (g5), oC pN 5 [.ref a6, .ref a7, .ref a8, .ref a9, .int q1, .int q2, .int q3, .int q4], aR a6 e6 17 (g6), aR a7 e7 12 (g7), aI a8 e8 301 (y8), aI a9 e9 301 (y9)]) hI ib_2) rfl hl.1 rfl (Nat.le_of_ble_eq_true rfl) dX8_alarmToRepeat_51 ⟨hcs.1, hcs.2⟩) (fun r_10 h_11 => ?_)
            rcases h_11 with ⟨h_11, rfl⟩ | ⟨h_11, rfl⟩
            · have h_11 : cqF (f b_2) 12 = 0 ∧ cqF (f b_2) 8 = 0 ∧ cqF (f b_2) 9 = 0 := h_11
              refine lv_if_eq (tgt := 75) hx hb dX8_alarmToRepeat_54 (by decide) (fun c_ => absurd c_ (by decide)) (fun _ => ?_)
              refine lv_aload_n hx hb dX8_alarmToRepeat_57 rfl (lv_at hl 2 rfl) ?_
              refine va_get (D := D) (ci := 8) (v := .int nw) (C := RX8) (T := TX8) (N := 14) hx hb hts hin_X8 hown hK hP 0 rfl rfl 9 (by decide) (hts (.fieldLink RX8 61 "CryOrder" "now" "I") (List.mem_cons_of_mem _ (List.mem_append_left _ (List.mem_append_left _ (List.mem_of_getElem? (i := 5) rfl))))) (fun _ h9 => h9) rfl dX8_alarmToRepeat_58 ?_
              refine lv_aload hx hb dX8_alarmToRepeat_61 (lv_at hl 0 rfl) ?_
              refine pl_get (D := D) (ci := 0) (v := .int he_3) (C := RX0) (T := TX0) (N := 17) hx hb hts hin_X0 hown hK hP ib_2.1 hf_3 rfl 10 (by decide) (hts (.fieldLink RX8 276 "CryOrder$Alarm" "heardLast" "I") (List.mem_cons_of_mem _ (List.mem_append_left _ (List.mem_append_left _ (List.mem_of_getElem? (i := 6) rfl))))) (fun _ h9 => h9) rfl dX8_alarmToRepeat_63 ?_
              refine lv_isub hx hb dX8_alarmToRepeat_66 ?_
              refine lv_topi (fun z_12 ez_12 => ?_)
              have tz_12 := sb_toInt (zx := (nw).toInt) (zy := (he_3).toInt) ez_12 rfl rfl
              refine lv_bipush (v := 10) hx hb dX8_alarmToRepeat_67 (by decide) ?_
              refine bi_gt (zx := (z_12).toInt) (zy := 10) (tgt := 75) hx hb dX8_alarmToRepeat_69 (by decide) rfl (by decide) (fun c_13 => ?_) (fun c_13 => ?_)
              · obtain ⟨x_14, ex_14⟩ : ∃ z : Int32, z = k + (-1) := ⟨_, rfl⟩
                have tx_14 := ad_toInt (x := k) (y := (-1)) (z := x_14) (zx := (k).toInt) (zy := (-1)) ex_14 rfl (by decide)
                refine lv_iinc (v := x_14) (lv' := [(4, .int x_14), (5, .ref b_2), (0, .ref xo), (1, .int v1), (2, .int v2), (3, .int v3)]) hx hb dX8_alarmToRepeat_75 hl (k := 1) rfl (by rw [ex_14]; rfl) (by decide) rfl (fun ls hl => ?_)
                refine lv_goto (tgt := 8) hx hb dX8_alarmToRepeat_78 (by decide) ?_
                exact ih x_14 _ (by first | omega | assumption | decide | (have h3 : (0 : Int32).toInt = 0 := rfl; omega) | (have h3 : (0 : Int32).toInt = 0 := rfl; have h4 : (1 : Int32).toInt = 1 := rfl; have h5 : (-1 : Int32).toInt = -1 := rfl; omega)) (rpF_down hR9 (by omega) (by omega) (fun h9 => by unfold rpC at h9; omega)) (by omega) (lv_sub hl [0, 2, 3, 4, 5] rfl)
              · exact done_72 k b_2 _ ib_2 ⟨_, rpF_found hR9 (by omega) (by unfold rpC; omega), eb_2⟩ (lv_sub hl [0, 1, 2, 3, 4, 5] rfl)
            · have h_11 : ¬ (cqF (f b_2) 12 = 0 ∧ cqF (f b_2) 8 = 0 ∧ cqF (f b_2) 9 = 0) := h_11
              refine lv_if_eq (tgt := 75) hx hb dX8_alarmToRepeat_54 (by decide) (fun _ => ?_) (fun c_ => absurd c_ (by decide))
              obtain ⟨x_15, ex_15⟩ : ∃ z : Int32, z = k + (-1) := ⟨_, rfl⟩
              have tx_15 := ad_toInt (x := k) (y := (-1)) (z := x_15) (zx := (k).toInt) (zy := (-1)) ex_15 rfl (by decide)
              refine lv_iinc (v := x_15) (lv' := [(4, .int x_15), (5, .ref b_2), (0, .ref xo), (1, .int v1), (2, .int v2), (3, .int v3)]) hx hb dX8_alarmToRepeat_75 hl (k := 1) rfl (by rw [ex_15]; rfl) (by decide) rfl (fun ls hl => ?_)
              refine lv_goto (tgt := 8) hx hb dX8_alarmToRepeat_78 (by decide) ?_
              exact ih x_15 _ (by first | omega | assumption | decide | (have h3 : (0 : Int32).toInt = 0 := rfl; omega) | (have h3 : (0 : Int32).toInt = 0 := rfl; have h4 : (1 : Int32).toInt = 1 := rfl; have h5 : (-1 : Int32).toInt = -1 := rfl; omega)) (rpF_down hR9 (by omega) (by omega) (fun h9 => by unfold rpC at h9; omega)) (by omega) (lv_sub hl [0, 2, 3, 4, 5] rfl)

set_option maxHeartbeats 4000000 in
set_option maxRecDepth 100000 in
theorem c_X8_alarmToRepeatR (l : Launch) (D : va_G) (xo : Nat) (ro : Nat) (tI : Nat) (cS : Nat) (pN : Nat) (a1 : Nat) (a2 : Nat) (a3 : Nat) (a4 : Nat) (a5 : Nat) (a6 : Nat) (a7 : Nat) (a8 : Nat) (a9 : Nat) (e1 : ClassId) (e2 : ClassId) (e3 : ClassId) (e4 : ClassId) (e5 : ClassId) (e6 : ClassId) (e7 : ClassId) (e8 : ClassId) (e9 : ClassId) (na : Int32) (ns : Int32) (nw : Int32) (cp : Int32) (le : Int32) (tr : Int32) (sl : Int32) (tz : Int32) (cz : Int32) (q1 : Int32) (q2 : Int32) (q3 : Int32) (q4 : Int32) (g1 : Nat → Option Nat) (g2 : Nat → Option Nat) (g3 : Nat → Option Nat) (g4 : Nat → Option Nat) (g5 : Nat → Option Nat) (g6 : Nat → Option Nat) (g7 : Nat → Option Nat) (y8 : Nat → Int32) (y9 : Nat → Int32) (L : List Nat) (K : Nat → Nat × Nat) (f : Nat → va_E) (S : Int) (v1 : Int32) (v2 : Int32) (v3 : Int32) (V : Nat → Nat → Int) (hI : cqI S L K f) (hna : 0 ≤ (na).toInt ∧ (na).toInt ≤ 200) (j1 : cqJA L K (na).toInt g1) (hV : cqV f g1 (na).toInt V) (hT : ∀ i : Nat, (i : Int) < (na).toInt → 0 ≤ V i 10 ∧ V i 10 ≤ 10000) (hnw : 0 ≤ (nw).toInt ∧ (nw).toInt ≤ 10000) : Met l yX8_alarmToRepeat wsX8_alarmToRepeat ({ frames := 2, cells := 0, slots := 0, locals := 40 }) (va_Pc [.ref xo, .int v1, .int v2, .int v3] (wo D [(e1, .object RX0), (e2, .object RX0), (e3, .object RX6), (e4, .object RX4), (e5, .object RX1), (e6, .object RX1), (e7, .object RX1), (e8, .int), (e9, .int)] ([oC xo 8 [.ref a1, .ref a2, .ref a3, .ref ro, .ref tI, .ref cS, .ref pN, .int na, .int ns, .int nw, .int cp, .int le, .int tr, .int sl], aR a1 e1 200 (g1), aR a2 e2 40 (g2), aR a3 e3 30 (g3), oC tI 7 [.ref a4, .int tz], aR a4 e4 60 (g4), oC cS 2 [.ref a5, .int cz], aR a5 e5 200 (g5), oC pN 5 [.ref a6, .ref a7, .ref a8, .ref a9, .int q1, .int q2, .int q3, .int q4], aR a6 e6 17 (g6), aR a7 e7 12 (g7), aI a8 e8 301 (y8), aI a9 e9 301 (y9)] ++ va_pl L f))) (va_Sq (fun r => cqOp L K 0 r ∧ rpS V (v1).toInt (v2).toInt (v3).toInt (nw).toInt (na).toInt.toNat g1 r)) 0 0 (fun _ => False) := by
  refine Met.ofW (cc := cX8_alarmToRepeat) (maxL := 6) (ret := (some (.object "CryOrder$Alarm"))) (by decide) rfl ?_
  intro p e s m args below meth c s₁ B hml hv
  obtain ⟨rfl, hP, hK, hD, hN⟩ := hv
  have hx := B.exec
  have hb := B.bytes
  have hr := B.returns
  have hts := atoms_spec (ws := wsX8_alarmToRepeat) B.pre
  have hown : s.vm.findClass RX8 = some m.cls := findClass_of_methodNamed B.named
  have hlocks := B.notSynchronized
  have hin_X8 : ∀ w ∈ u_ws RX8 TX8 14, w ∈ wsX8_alarmToRepeat := fun w h => List.mem_cons_of_mem _ (List.mem_append_left _ (List.mem_append_right _ (h)))
  have hl := lv_entry ([.ref xo, .int v1, .int v2, .int v3]) (n := 6) (Nat.le_of_ble_eq_true rfl)
  rw [lg_entry_eq]
  generalize (lg_sl ([.ref xo, .int v1, .int v2, .int v3]) ++ List.replicate (6 - (lg_sl ([.ref xo, .int v1, .int v2, .int v3])).length) Slot.unset).toArray = ls at hl ⊢
  have hl : lv_has ls 6 [(0, .ref xo), (1, .int v1), (2, .int v2), (3, .int v3)] := hl
  refine lv_aload_n hx hb dX8_alarmToRepeat_0 rfl (lv_at hl 0 rfl) ?_
  refine va_get (D := D) (ci := 8) (v := .int na) (C := RX8) (T := TX8) (N := 14) hx hb hts hin_X8 hown hK hP 0 rfl rfl 7 (by decide) (hts (.fieldLink RX8 79 "CryOrder" "alarmCount" "I") (List.mem_cons_of_mem _ (List.mem_append_left _ (List.mem_append_left _ (List.mem_of_getElem? (i := 0) rfl))))) (fun _ h9 => h9) rfl dX8_alarmToRepeat_1 ?_
  refine lv_iconst (v := 1) hx hb dX8_alarmToRepeat_4 (by decide) ?_
  refine lv_isub hx hb dX8_alarmToRepeat_5 ?_
  refine lv_topi (fun z_1 ez_1 => ?_)
  have tz_1 := sb_toInt (zx := (na).toInt) (zy := 1) ez_1 rfl (by decide)
  refine lv_istore (lv' := [(4, .int z_1), (0, .ref xo), (1, .int v1), (2, .int v2), (3, .int v3)]) hx hb dX8_alarmToRepeat_6 hl (by decide) rfl (fun ls hl => ?_)
  refine rl_repeat hx hb hts hml hown hN hK hP hD ⟨(Nat.le_of_ble_eq_true rfl), (Nat.le_of_ble_eq_true rfl)⟩ ⟨(Nat.le_of_ble_eq_true rfl), (Nat.le_of_ble_eq_true rfl)⟩ hI (by first | omega | assumption | decide | (have h3 : (0 : Int32).toInt = 0 := rfl; omega) | (have h3 : (0 : Int32).toInt = 0 := rfl; have h4 : (1 : Int32).toInt = 1 := rfl; have h5 : (-1 : Int32).toInt = -1 := rfl; omega)) j1 (by first | omega | assumption | decide | (have h3 : (0 : Int32).toInt = 0 := rfl; omega) | (have h3 : (0 : Int32).toInt = 0 := rfl; have h4 : (1 : Int32).toInt = 1 := rfl; have h5 : (-1 : Int32).toInt = -1 := rfl; omega)) (by first | omega | assumption | decide | (have h3 : (0 : Int32).toInt = 0 := rfl; omega) | (have h3 : (0 : Int32).toInt = 0 := rfl; have h4 : (1 : Int32).toInt = 1 := rfl; have h5 : (-1 : Int32).toInt = -1 := rfl; omega)) (by first | omega | assumption | decide | (have h3 : (0 : Int32).toInt = 0 := rfl; omega) | (have h3 : (0 : Int32).toInt = 0 := rfl; have h4 : (1 : Int32).toInt = 1 := rfl; have h5 : (-1 : Int32).toInt = -1 := rfl; omega)) (fun k_2 ea_3 ls h_5 h_6 hl => ?_) (fun k_7 ls h_9 hl => ?_) _ z_1 _ (by first | omega | assumption | decide | (have h3 : (0 : Int32).toInt = 0 := rfl; omega) | (have h3 : (0 : Int32).toInt = 0 := rfl; have h4 : (1 : Int32).toInt = 1 := rfl; have h5 : (-1 : Int32).toInt = -1 := rfl; omega)) (show rpF V (v1).toInt (v2).toInt (v3).toInt (nw).toInt (na).toInt.toNat = _ by rw [show ((z_1).toInt + 1).toNat = (na).toInt.toNat by omega]) (Nat.lt_succ_self _) (lv_sub hl [0, 1, 2, 3, 4] rfl)
  · have h_5 : cqIs L K 0 ea_3 := h_5
    have h_6 : ∃ i, (rpF V (v1).toInt (v2).toInt (v3).toInt (nw).toInt (na).toInt.toNat) = some i ∧ g1 i = some ea_3 := h_6
    refine lv_aload hx hb dX8_alarmToRepeat_72 (lv_at hl 0 rfl) ?_
    exact W.aret (v := .ref ea_3) hx hb hr (Or.inl ⟨_, rfl⟩) (Or.inr ⟨_, rfl⟩) (fun t ht hW => ⟨(some ea_3), rfl, ⟨cqOp.some h_5, fun b9 h9 => (by cases h9; exact h_6), fun h9 => (by cases h9)⟩, ht⟩) (fun q h => by cases h) dX8_alarmToRepeat_74
  · have h_9 : (rpF V (v1).toInt (v2).toInt (v3).toInt (nw).toInt (na).toInt.toNat) = none := h_9
    refine lv_null hx hb dX8_alarmToRepeat_81 ?_
    exact W.aret (v := .null) hx hb hr (Or.inl ⟨_, rfl⟩) (Or.inl rfl) (fun t ht hW => ⟨none, rfl, ⟨cqOp.none, fun b9 h9 => (by cases h9), fun _ => h_9⟩, ht⟩) (fun q h => by cases h) dX8_alarmToRepeat_82

set_option maxHeartbeats 4000000 in
set_option maxRecDepth 100000 in
theorem c_X6_coversR (l : Launch) (D : va_G) (X0 : va_W) (L : List Nat) (K : Nat → Nat × Nat) (f : Nat → va_E) (S : Int) (tys : List (ClassId × FieldType)) (a : Nat) (v : Int32) (w : Int32) (hI : cqI S L K f) (ha : cqIs L K 6 a) : Met l yX6_covers wsX6_covers ({ frames := 0, cells := 0, slots := 0, locals := 0 }) (va_Pc [.ref a, .int v, .int w] (wo D tys (X0 ++ va_pl L f))) (vp_Si (fun r => (((v).toInt = cqF (f a) 0 ∧ cqF (f a) 1 ≤ (w).toInt ∧ (w).toInt ≤ cqF (f a) 2) ∧ r = 1) ∨ ((¬ ((v).toInt = cqF (f a) 0 ∧ cqF (f a) 1 ≤ (w).toInt ∧ (w).toInt ≤ cqF (f a) 2)) ∧ r = 0))) 0 0 (fun _ => False) := by
  refine Met.ofW (cc := cX6_covers) (maxL := 3) (ret := (some .boolean)) (by decide) rfl ?_
  intro p e s m args below meth c s₁ B hml hv
  obtain ⟨rfl, hP, hK, hD, hN⟩ := hv
  have hx := B.exec
  have hb := B.bytes
  have hr := B.returns
  have hts := atoms_spec (ws := wsX6_covers) B.pre
  have hown : s.vm.findClass RX6 = some m.cls := findClass_of_methodNamed B.named
  have hlocks := B.notSynchronized
  have hin_X6 : ∀ w ∈ u_ws RX6 TX6 3, w ∈ wsX6_covers := fun w h => List.mem_cons_of_mem _ (List.mem_append_right _ (h))
  have hl := lv_entry ([.ref a, .int v, .int w]) (n := 3) (Nat.le_of_ble_eq_true rfl)
  rw [lg_entry_eq]
  generalize (lg_sl ([.ref a, .int v, .int w]) ++ List.replicate (3 - (lg_sl ([.ref a, .int v, .int w])).length) Slot.unset).toArray = ls at hl ⊢
  have hl : lv_has ls 3 [(0, .ref a), (1, .int v), (2, .int w)] := hl
  refine lv_iload_n hx hb dX6_covers_0 rfl (lv_at hl 1 rfl) ?_
  refine lv_aload_n hx hb dX6_covers_1 rfl (lv_at hl 0 rfl) ?_
  obtain ⟨ss_1, fr_1, tt_1, hf_1⟩ := hI.opS ha
  have F0hf_1 : cqF (f a) 0 = (ss_1).toInt := by rw [hf_1]; rfl
  have F1hf_1 : cqF (f a) 1 = (fr_1).toInt := by rw [hf_1]; rfl
  have F2hf_1 : cqF (f a) 2 = (tt_1).toInt := by rw [hf_1]; rfl
  refine pl_get (D := D) (ci := 6) (v := .int ss_1) (C := RX6) (T := TX6) (N := 3) hx hb hts hin_X6 hown hK hP ha.1 hf_1 rfl 0 (by decide) (hts (.fieldLink RX6 7 "CryOrder$Silence" "source" "I") (List.mem_cons_of_mem _ (List.mem_append_left _ (List.mem_of_getElem? (i := 0) rfl)))) (fun _ h9 => h9) rfl dX6_covers_2 ?_
  refine bi_ne (zx := (v).toInt) (zy := (ss_1).toInt) (tgt := 28) hx hb dX6_covers_5 (by decide) rfl rfl (fun c_2 => ?_) (fun c_2 => ?_)
  · refine lv_iconst (v := 0) hx hb dX6_covers_28 (by decide) ?_
    exact W.zret (v := 0) hx hb hr rfl (fun t ht hW => ⟨0, rfl, Or.inr ⟨by omega, rfl⟩, ht⟩) (fun q h => by cases h) dX6_covers_29
  · refine lv_aload_n hx hb dX6_covers_8 rfl (lv_at hl 0 rfl) ?_
    refine pl_get (D := D) (ci := 6) (v := .int fr_1) (C := RX6) (T := TX6) (N := 3) hx hb hts hin_X6 hown hK hP ha.1 hf_1 rfl 1 (by decide) (hts (.fieldLink RX6 13 "CryOrder$Silence" "from" "I") (List.mem_cons_of_mem _ (List.mem_append_left _ (List.mem_of_getElem? (i := 1) rfl)))) (fun _ h9 => h9) rfl dX6_covers_9 ?_
    refine lv_iload_n hx hb dX6_covers_12 rfl (lv_at hl 2 rfl) ?_
    refine bi_gt (zx := (fr_1).toInt) (zy := (w).toInt) (tgt := 28) hx hb dX6_covers_13 (by decide) rfl rfl (fun c_3 => ?_) (fun c_3 => ?_)
    · refine lv_iconst (v := 0) hx hb dX6_covers_28 (by decide) ?_
      exact W.zret (v := 0) hx hb hr rfl (fun t ht hW => ⟨0, rfl, Or.inr ⟨by omega, rfl⟩, ht⟩) (fun q h => by cases h) dX6_covers_29
    · refine lv_iload_n hx hb dX6_covers_16 rfl (lv_at hl 2 rfl) ?_
      refine lv_aload_n hx hb dX6_covers_17 rfl (lv_at hl 0 rfl) ?_
      refine pl_get (D := D) (ci := 6) (v := .int tt_1) (C := RX6) (T := TX6) (N := 3) hx hb hts hin_X6 hown hK hP ha.1 hf_1 rfl 2 (by decide) (hts (.fieldLink RX6 16 "CryOrder$Silence" "to" "I") (List.mem_cons_of_mem _ (List.mem_append_left _ (List.mem_of_getElem? (i := 2) rfl)))) (fun _ h9 => h9) rfl dX6_covers_18 ?_
      refine bi_gt (zx := (w).toInt) (zy := (tt_1).toInt) (tgt := 28) hx hb dX6_covers_21 (by decide) rfl rfl (fun c_4 => ?_) (fun c_4 => ?_)
      · refine lv_iconst (v := 0) hx hb dX6_covers_28 (by decide) ?_
        exact W.zret (v := 0) hx hb hr rfl (fun t ht hW => ⟨0, rfl, Or.inr ⟨by omega, rfl⟩, ht⟩) (fun q h => by cases h) dX6_covers_29
      · refine lv_iconst (v := 1) hx hb dX6_covers_24 (by decide) ?_
        refine lv_goto (tgt := 29) hx hb dX6_covers_25 (by decide) ?_
        exact W.zret (v := 1) hx hb hr rfl (fun t ht hW => ⟨1, rfl, Or.inl ⟨by omega, rfl⟩, ht⟩) (fun q h => by cases h) dX6_covers_29
