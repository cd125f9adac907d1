set_option maxHeartbeats 4000000 in
set_option maxRecDepth 100000 in
theorem cl_slow {p : Program} {l : Launch} {e : Env} {R : Room} {s : State} {m : MethodId} {args : Array Value} {below : List Frame} {meth : Method} {c : Code} {Q : State → Prop} {A : Nat → Prop} {cells slots : Nat} {D : va_G} {H : Heap} {locs : List Loc} {xo : Nat} {ro : Nat} {tI : Nat} {cS : Nat} {pN : Nat} {a1 : Nat} {a2 : Nat} {a3 : Nat} {a4 : Nat} {a5 : Nat} {a6 : Nat} {a7 : Nat} {a8 : Nat} {a9 : Nat} {e1 : ClassId} {e2 : ClassId} {e3 : ClassId} {e4 : ClassId} {e5 : ClassId} {e6 : ClassId} {e7 : ClassId} {e8 : ClassId} {e9 : ClassId} {na : Int32} {ns : Int32} {nw : Int32} {cp : Int32} {le : Int32} {tr : Int32} {sl : Int32} {tz : Int32} {cz : Int32} {q1 : Int32} {q2 : Int32} {q3 : Int32} {q4 : Int32} {g1 : Nat → Option Nat} {g2 : Nat → Option Nat} {g3 : Nat → Option Nat} {g4 : Nat → Option Nat} {g5 : Nat → Option Nat} {g6 : Nat → Option Nat} {g7 : Nat → Option Nat} {y8 : Nat → Int32} {y9 : Nat → Int32} {L : List Nat} {K : Nat → Nat × Nat} {f : Nat → va_E} {S : Int} {v5 : Int32} (hx : p.tables.exec = Jvm.exec) (hb : c.code = cX8_slow) (hts : ∀ w ∈ wsX8_slow, w.before args s = true) (hml : c.maxLocals = 5) (hown : s.vm.findClass RX8 = some m.cls) (hN : Nq s) (hK : va_K D vwCl [(e1, .object RX0), (e2, .object RX0), (e3, .object RX6), (e4, .object RX4), (e5, .object RX1), (e6, .object RX1), (e7, .object RX1), (e8, .int), (e9, .int)] s) (hP : va_P D vwCl ([oC xo 8 [.ref a1, .ref a2, .ref a3, .ref ro, .ref tI, .ref cS, .ref pN, .int na, .int ns, .int nw, .int cp, .int le, .int tr, .int sl], aR a1 e1 200 (g1), aR a2 e2 40 (g2), aR a3 e3 30 (g3), oC tI 7 [.ref a4, .int tz], aR a4 e4 60 (g4), oC cS 2 [.ref a5, .int cz], aR a5 e5 200 (g5), oC pN 5 [.ref a6, .ref a7, .ref a8, .ref a9, .int q1, .int q2, .int q3, .int q4], aR a6 e6 17 (g6), aR a7 e7 12 (g7), aI a8 e8 301 (y8), aI a9 e9 301 (y9)] ++ va_pl L f) H) (hD : va_D A ([oC xo 8 [.ref a1, .ref a2, .ref a3, .ref ro, .ref tI, .ref cS, .ref pN, .int na, .int ns, .int nw, .int cp, .int le, .int tr, .int sl], aR a1 e1 200 (g1), aR a2 e2 40 (g2), aR a3 e3 30 (g3), oC tI 7 [.ref a4, .int tz], aR a4 e4 60 (g4), oC cS 2 [.ref a5, .int cz], aR a5 e5 200 (g5), oC pN 5 [.ref a6, .ref a7, .ref a8, .ref a9, .int q1, .int q2, .int q3, .int q4], aR a6 e6 17 (g6), aR a7 e7 12 (g7), aI a8 e8 301 (y8), aI a9 e9 301 (y9)] ++ va_pl L f)) (hR : 2 ≤ R.frames ∧ 45 ≤ R.locals) (hcs : cells ≤ R.cells ∧ slots ≤ R.slots) (hI : cqI S L K f) (done_68 : ∀ (ls : Array Slot), lv_has ls 5 [(0, .ref xo)] → W p l e R s m args below meth c H locs cells slots Q (F0 m 68 ls [])) (done_83 : ∀ (u : Int32) (ls : Array Slot), lv_has ls 5 [(2, .int u), (0, .ref xo)] → W p l e R s m args below meth c H locs cells slots Q (F0 m 83 ls [])) : ∀ (n : Nat), ∀ (ea : Option Nat) (j : Nat) (u : Int32) (ls : Array Slot), (cqLo L K 0 ea j) → (j < n) → lv_has ls 5 [(3, va_rf ea), (2, .int u), (0, .ref xo), (1, .int v5)] → W p l e R s m args below meth c H locs cells slots Q (F0 m 20 ls []) := by
  have hin_X0 : ∀ w ∈ u_ws RX0 TX0 17, w ∈ wsX8_slow := fun w h => List.mem_cons_of_mem _ (List.mem_append_left _ (List.mem_append_right _ (h)))
  have hin_X8 : ∀ w ∈ u_ws RX8 TX8 14, w ∈ wsX8_slow := fun w h => List.mem_cons_of_mem _ (List.mem_append_left _ (List.mem_append_left _ (List.mem_append_right _ (h))))
  intro n
  induction n with
  | zero => intro ea j u ls hlo hmu hl; exact absurd hmu (Nat.not_lt_zero _)
  | succ n ih =>
    intro ea j u ls hlo hmu hl
    refine q_aload_n hx hb dX8_slow_20 rfl (lv_at hl 0 rfl) ?_
    rcases ea with _ | b_1
    · have hl : lv_has ls 5 [(3, .null), (2, .int u), (0, .ref xo), (1, .int v5)] := hl
      refine lv_ifnullN (tgt := 83) hx hb dX8_slow_21 (by decide) ?_
      exact done_83 u _  (lv_sub hl [1, 2] rfl)
    · have hl : lv_has ls 5 [(3, .ref b_1), (2, .int u), (0, .ref xo), (1, .int v5)] := hl
      obtain ⟨is_2, lis_2⟩ := hlo b_1 rfl
      refine lv_ifnull hx hb dX8_slow_21 ?_
      refine lv_aload_n hx hb dX8_slow_24 rfl (lv_at hl 2 rfl) ?_
      refine va_get (D := D) (ci := 8) (v := .int nw) (C := RX8) (T := TX8) (N := 14) hx hb hts hin_X8 hown hK hP 0 rfl rfl 9 (by decide) (hts (.fieldLink RX8 61 "CryOrder" "now" "I") (List.mem_cons_of_mem _ (List.mem_append_left _ (List.mem_append_left _ (List.mem_append_left _ (List.mem_append_left _ (List.mem_of_getElem? (i := 1) rfl))))))) (fun _ h9 => h9) rfl dX8_slow_25 ?_
      refine lv_aload_n hx hb dX8_slow_28 rfl (lv_at hl 0 rfl) ?_
      obtain ⟨nu_3, ca_3, so_3, th_3, ma_3, wo_3, lf_3, ld_3, si_3, cp_3, he_3, re_3, sv_3, lt_3, lF_3, sn_3, ab_3, hf_3, hnu_3, hlf_3, hld_3, hsi_3, hcp_3, hsn_3, hab_3⟩ := hI.opA is_2
      refine pl_get (D := D) (ci := 0) (v := .int ca_3) (C := RX0) (T := TX0) (N := 17) hx hb hts hin_X0 hown hK hP is_2.1 hf_3 rfl 1 (by decide) (hts (.fieldLink RX8 148 "CryOrder$Alarm" "came" "I") (List.mem_cons_of_mem _ (List.mem_append_left _ (List.mem_append_left _ (List.mem_append_left _ (List.mem_append_left _ (List.mem_of_getElem? (i := 2) rfl))))))) (fun _ h9 => h9) rfl dX8_slow_29 ?_
      refine lv_isub hx hb dX8_slow_32 ?_
      refine lv_topi (fun z_4 ez_4 => ?_)
      have tz_4 := sb_toInt (zx := (nw).toInt) (zy := (ca_3).toInt) ez_4 rfl rfl
      refine lv_sipush (v := 199) hx hb dX8_slow_33 (by decide) ?_
      refine bi_gt (zx := (z_4).toInt) (zy := 199) (tgt := 83) hx hb dX8_slow_36 (by decide) rfl (by decide) (fun c_5 => ?_) (fun c_5 => ?_)
      · exact done_83 u _  (lv_sub hl [1, 2] rfl)
      · refine lv_aload_n hx hb dX8_slow_39 rfl (lv_at hl 0 rfl) ?_
        refine vp_callSi (wrV (As := []) (rest := []) ⟨hx, hb, hml, hown, hts⟩ hN hK hP hD (c_X0_isLiveR l D [oC xo 8 [.ref a1, .ref a2, .ref a3, .ref ro, .ref tI, .ref cS, .ref pN, .int na, .int ns, .int nw, .int cp, .int le, .int tr, .int sl], aR a1 e1 200 (g1), aR a2 e2 40 (g2), aR a3 e3 30 (g3), oC tI 7 [.ref a4, .int tz], aR a4 e4 60 (g4), oC cS 2 [.ref a5, .int cz], aR a5 e5 200 (g5), oC pN 5 [.ref a6, .ref a7, .ref a8, .ref a9, .int q1, .int q2, .int q3, .int q4], aR a6 e6 17 (g6), aR a7 e7 12 (g7), aI a8 e8 301 (y8), aI a9 e9 301 (y9)] L K f S [(e1, .object RX0), (e2, .object RX0), (e3, .object RX6), (e4, .object RX4), (e5, .object RX1), (e6, .object RX1), (e7, .object RX1), (e8, .int), (e9, .int)] b_1 hI is_2) (cwV 0 hts gX8_slow_X0_isLive rfl rfl rfl (by decide +kernel) ⟨Nat.le_trans (m := 2) (Nat.le_of_ble_eq_true rfl) hR.1, Nat.le_trans (m := 45) (Nat.le_of_ble_eq_true rfl) hR.2⟩) 0 rfl (cq_rcA (X := [oC xo 8 [.ref a1, .ref a2, .ref a3, .ref ro, .ref tI, .ref cS, .ref pN, .int na, .int ns, .int nw, .int cp, .int le, .int tr, .int sl], aR a1 e1 200 (g1), aR a2 e2 40 (g2), aR a3 e3 30 (g3), oC tI 7 [.ref a4, .int tz], aR a4 e4 60 (g4), oC cS 2 [.ref a5, .int cz], aR a5 e5 200 (g5), oC pN 5 [.ref a6, .ref a7, .ref a8, .ref a9, .int q1, .int q2, .int q3, .int q4], aR a6 e6 17 (g6), aR a7 e7 12 (g7), aI a8 e8 301 (y8), aI a9 e9 301 (y9)]) hI is_2) rfl hl.1 rfl (Nat.le_of_ble_eq_true rfl) dX8_slow_40 ⟨hcs.1, hcs.2⟩) (fun r_6 h_7 => ?_)
        rcases h_7 with ⟨h_7, rfl⟩ | ⟨h_7, rfl⟩
        · have h_7 : cqF (f b_1) 12 = 0 ∧ cqF (f b_1) 8 = 0 ∧ cqF (f b_1) 9 = 0 := h_7
          refine lv_if_eq (tgt := 57) hx hb dX8_slow_43 (by decide) (fun c_ => absurd c_ (by decide)) (fun _ => ?_)
          refine lv_aload_n hx hb dX8_slow_46 rfl (lv_at hl 0 rfl) ?_
          refine lv_aload_n hx hb dX8_slow_47 rfl (lv_at hl 2 rfl) ?_
          refine va_get (D := D) (ci := 8) (v := .int le) (C := RX8) (T := TX8) (N := 14) hx hb hts hin_X8 hown hK hP 0 rfl rfl 11 (by decide) (hts (.fieldLink RX8 58 "CryOrder" "leastSettled" "I") (List.mem_cons_of_mem _ (List.mem_append_left _ (List.mem_append_left _ (List.mem_append_left _ (List.mem_append_left _ (List.mem_of_getElem? (i := 3) rfl))))))) (fun _ h9 => h9) rfl dX8_slow_48 ?_
          refine vp_callSi (wrV (As := [.int le]) (rest := []) ⟨hx, hb, hml, hown, hts⟩ hN hK hP hD (c_X0_score l D [oC xo 8 [.ref a1, .ref a2, .ref a3, .ref ro, .ref tI, .ref cS, .ref pN, .int na, .int ns, .int nw, .int cp, .int le, .int tr, .int sl], aR a1 e1 200 (g1), aR a2 e2 40 (g2), aR a3 e3 30 (g3), oC tI 7 [.ref a4, .int tz], aR a4 e4 60 (g4), oC cS 2 [.ref a5, .int cz], aR a5 e5 200 (g5), oC pN 5 [.ref a6, .ref a7, .ref a8, .ref a9, .int q1, .int q2, .int q3, .int q4], aR a6 e6 17 (g6), aR a7 e7 12 (g7), aI a8 e8 301 (y8), aI a9 e9 301 (y9)] L K f S [(e1, .object RX0), (e2, .object RX0), (e3, .object RX6), (e4, .object RX4), (e5, .object RX1), (e6, .object RX1), (e7, .object RX1), (e8, .int), (e9, .int)] b_1 le hI is_2) (cwV 1 hts gX8_slow_X0_score rfl rfl rfl (by decide +kernel) ⟨Nat.le_trans (m := 2) (Nat.le_of_ble_eq_true rfl) hR.1, Nat.le_trans (m := 45) (Nat.le_of_ble_eq_true rfl) hR.2⟩) 0 rfl (cq_rcA (X := [oC xo 8 [.ref a1, .ref a2, .ref a3, .ref ro, .ref tI, .ref cS, .ref pN, .int na, .int ns, .int nw, .int cp, .int le, .int tr, .int sl], aR a1 e1 200 (g1), aR a2 e2 40 (g2), aR a3 e3 30 (g3), oC tI 7 [.ref a4, .int tz], aR a4 e4 60 (g4), oC cS 2 [.ref a5, .int cz], aR a5 e5 200 (g5), oC pN 5 [.ref a6, .ref a7, .ref a8, .ref a9, .int q1, .int q2, .int q3, .int q4], aR a6 e6 17 (g6), aR a7 e7 12 (g7), aI a8 e8 301 (y8), aI a9 e9 301 (y9)]) hI is_2) rfl hl.1 rfl (Nat.le_of_ble_eq_true rfl) dX8_slow_51 ⟨hcs.1, hcs.2⟩) (fun r_8 h_9 => ?_)
          refine lv_goto (tgt := 58) hx hb dX8_slow_54 (by decide) ?_
          refine lv_istore (lv' := [(4, .int r_8), (3, .ref b_1), (2, .int u), (0, .ref xo), (1, .int v5)]) hx hb dX8_slow_58 hl (by decide) rfl (fun ls hl => ?_)
          refine lv_iload hx hb dX8_slow_60 (lv_at hl 0 rfl) ?_
          refine lv_sipush (v := 10000) hx hb dX8_slow_62 (by decide) ?_
          refine bi_lt (zx := (r_8).toInt) (zy := 10000) (tgt := 70) hx hb dX8_slow_65 (by decide) rfl (by decide) (fun c_10 => ?_) (fun c_10 => ?_)
          · refine lv_iload_n hx hb dX8_slow_70 rfl (lv_at hl 2 rfl) ?_
            refine lv_iload hx hb dX8_slow_71 (lv_at hl 0 rfl) ?_
            refine lv_iadd hx hb dX8_slow_73 ?_
            refine lv_topi (fun z_11 ez_11 => ?_)
            have tz_11 := ad_toInt (zx := (u).toInt) (zy := (r_8).toInt) ez_11 rfl rfl
            refine lv_istore_n (lv' := [(2, .int z_11), (4, .int r_8), (3, .ref b_1), (0, .ref xo), (1, .int v5)]) hx hb dX8_slow_74 rfl hl (by decide) rfl (fun ls hl => ?_)
            refine lv_aload_n hx hb dX8_slow_75 rfl (lv_at hl 2 rfl) ?_
            refine pl_get (D := D) (ci := 0) (v := va_rf sn_3) (C := RX0) (T := TX0) (N := 17) hx hb hts hin_X0 hown hK hP is_2.1 hf_3 rfl 15 (by decide) (hts (.fieldLink RX8 109 "CryOrder$Alarm" "soonerOfThing" "LCryOrder$Alarm;") (List.mem_cons_of_mem _ (List.mem_append_left _ (List.mem_append_left _ (List.mem_append_left _ (List.mem_append_left _ (List.mem_of_getElem? (i := 4) rfl))))))) (fun _ h9 => h9) rfl dX8_slow_76 ?_
            refine q_astore_n (r := sn_3) (lv' := [(3, va_rf sn_3), (2, .int z_11), (4, .int r_8), (0, .ref xo), (1, .int v5)]) hx hb dX8_slow_79 rfl hl (by decide) rfl (fun ls hl => ?_)
            refine lv_goto (tgt := 20) hx hb dX8_slow_80 (by decide) ?_
            exact ih sn_3 ((K b_1).2) z_11 _ hsn_3 (by omega) (lv_sub hl [0, 1, 3, 4] rfl)
          · exact done_68  _  (lv_sub hl [3] rfl)
        · have h_7 : ¬ (cqF (f b_1) 12 = 0 ∧ cqF (f b_1) 8 = 0 ∧ cqF (f b_1) 9 = 0) := h_7
          refine lv_if_eq (tgt := 57) hx hb dX8_slow_43 (by decide) (fun _ => ?_) (fun c_ => absurd c_ (by decide))
          refine lv_iconst (v := 0) hx hb dX8_slow_57 (by decide) ?_
          refine lv_istore (lv' := [(4, .int 0), (3, .ref b_1), (2, .int u), (0, .ref xo), (1, .int v5)]) hx hb dX8_slow_58 hl (by decide) rfl (fun ls hl => ?_)
          refine lv_iload hx hb dX8_slow_60 (lv_at hl 0 rfl) ?_
          refine lv_sipush (v := 10000) hx hb dX8_slow_62 (by decide) ?_
          refine lv_icmp_lt (tgt := 70) hx hb dX8_slow_65 (by decide) (fun _ => ?_) (fun c_ => absurd c_ (by decide))
          refine lv_iload_n hx hb dX8_slow_70 rfl (lv_at hl 2 rfl) ?_
          refine lv_iload hx hb dX8_slow_71 (lv_at hl 0 rfl) ?_
          refine lv_iadd hx hb dX8_slow_73 ?_
          refine lv_topi (fun z_12 ez_12 => ?_)
          have tz_12 := ad_toInt (zx := (u).toInt) (zy := 0) ez_12 rfl (by decide)
          refine lv_istore_n (lv' := [(2, .int z_12), (4, .int 0), (3, .ref b_1), (0, .ref xo), (1, .int v5)]) hx hb dX8_slow_74 rfl hl (by decide) rfl (fun ls hl => ?_)
          refine lv_aload_n hx hb dX8_slow_75 rfl (lv_at hl 2 rfl) ?_
          refine pl_get (D := D) (ci := 0) (v := va_rf sn_3) (C := RX0) (T := TX0) (N := 17) hx hb hts hin_X0 hown hK hP is_2.1 hf_3 rfl 15 (by decide) (hts (.fieldLink RX8 109 "CryOrder$Alarm" "soonerOfThing" "LCryOrder$Alarm;") (List.mem_cons_of_mem _ (List.mem_append_left _ (List.mem_append_left _ (List.mem_append_left _ (List.mem_append_left _ (List.mem_of_getElem? (i := 4) rfl))))))) (fun _ h9 => h9) rfl dX8_slow_76 ?_
          refine q_astore_n (r := sn_3) (lv' := [(3, va_rf sn_3), (2, .int z_12), (4, .int 0), (0, .ref xo), (1, .int v5)]) hx hb dX8_slow_79 rfl hl (by decide) rfl (fun ls hl => ?_)
          refine lv_goto (tgt := 20) hx hb dX8_slow_80 (by decide) ?_
          exact ih sn_3 ((K b_1).2) z_12 _ hsn_3 (by omega) (lv_sub hl [0, 1, 3, 4] rfl)

set_option maxHeartbeats 4000000 in
set_option maxRecDepth 100000 in
theorem c_X8_slow (l : Launch) (D : va_G) (xo : Nat) (ro : Nat) (tI : Nat) (cS : Nat) (pN : Nat) (a1 : Nat) (a2 : Nat) (a3 : Nat) (a4 : Nat) (a5 : Nat) (a6 : Nat) (a7 : Nat) (a8 : Nat) (a9 : Nat) (e1 : ClassId) (e2 : ClassId) (e3 : ClassId) (e4 : ClassId) (e5 : ClassId) (e6 : ClassId) (e7 : ClassId) (e8 : ClassId) (e9 : ClassId) (na : Int32) (ns : Int32) (nw : Int32) (cp : Int32) (le : Int32) (tr : Int32) (sl : Int32) (tz : Int32) (cz : Int32) (q1 : Int32) (q2 : Int32) (q3 : Int32) (q4 : Int32) (g1 : Nat → Option Nat) (g2 : Nat → Option Nat) (g3 : Nat → Option Nat) (g4 : Nat → Option Nat) (g5 : Nat → Option Nat) (g6 : Nat → Option Nat) (g7 : Nat → Option Nat) (y8 : Nat → Int32) (y9 : Nat → Int32) (L : List Nat) (K : Nat → Nat × Nat) (f : Nat → va_E) (S : Int) (v5 : Int32) (hI : cqI S L K f) (hna : 0 ≤ (na).toInt ∧ (na).toInt ≤ 200) (hns : 0 ≤ (ns).toInt ∧ (ns).toInt ≤ 30) (htz : 0 ≤ (tz).toInt ∧ (tz).toInt ≤ 60) (hcz : 0 ≤ (cz).toInt ∧ (cz).toInt ≤ 200) (j1 : cqJA L K (na).toInt g1) (j2 : cqJL L K ((na).toInt.toNat) g2) (j3 : cqJ L K 6 (ns).toInt g3) (j4 : cqJ L K 4 (tz).toInt g4) (j5 : cqJ L K 1 (cz).toInt g5) (hro : cqIs L K 3 ro) (hSb : 0 ≤ S ∧ S ≤ 500000) : Met l yX8_slow wsX8_slow ({ frames := 2, cells := 0, slots := 0, locals := 45 }) (va_Pc [.ref xo, .int v5] (wo D [(e1, .object RX0), (e2, .object RX0), (e3, .object RX6), (e4, .object RX4), (e5, .object RX1), (e6, .object RX1), (e7, .object RX1), (e8, .int), (e9, .int)] ([oC xo 8 [.ref a1, .ref a2, .ref a3, .ref ro, .ref tI, .ref cS, .ref pN, .int na, .int ns, .int nw, .int cp, .int le, .int tr, .int sl], aR a1 e1 200 (g1), aR a2 e2 40 (g2), aR a3 e3 30 (g3), oC tI 7 [.ref a4, .int tz], aR a4 e4 60 (g4), oC cS 2 [.ref a5, .int cz], aR a5 e5 200 (g5), oC pN 5 [.ref a6, .ref a7, .ref a8, .ref a9, .int q1, .int q2, .int q3, .int q4], aR a6 e6 17 (g6), aR a7 e7 12 (g7), aI a8 e8 301 (y8), aI a9 e9 301 (y9)] ++ va_pl L f))) (vp_Si (fun r => True)) 0 0 (fun _ => False) := by
  refine Met.ofW (cc := cX8_slow) (maxL := 5) (ret := (some .int)) (by decide) rfl ?_
  intro p e s m args below meth c s₁ B hml hv
  obtain ⟨rfl, hP, hK, hD, hN⟩ := hv
  have hx := B.exec
  have hb := B.bytes
  have hr := B.returns
  have hts := atoms_spec (ws := wsX8_slow) B.pre
  have hown : s.vm.findClass RX8 = some m.cls := findClass_of_methodNamed B.named
  have hlocks := B.notSynchronized
  have hin_X8 : ∀ w ∈ u_ws RX8 TX8 14, w ∈ wsX8_slow := fun w h => List.mem_cons_of_mem _ (List.mem_append_left _ (List.mem_append_left _ (List.mem_append_right _ (h))))
  have hl := lv_entry ([.ref xo, .int v5]) (n := 5) (Nat.le_of_ble_eq_true rfl)
  rw [lg_entry_eq]
  generalize (lg_sl ([.ref xo, .int v5]) ++ List.replicate (5 - (lg_sl ([.ref xo, .int v5])).length) Slot.unset).toArray = ls at hl ⊢
  have hl : lv_has ls 5 [(0, .ref xo), (1, .int v5)] := hl
  refine lv_iload_n hx hb dX8_slow_0 rfl (lv_at hl 1 rfl) ?_
  refine lv_bipush (v := 40) hx hb dX8_slow_1 (by decide) ?_
  refine vp_callSi (zrS (As := [.int v5, .int 40]) (rest := []) (wc := []) ⟨hx, hb, hml, hown, hts⟩ hN hK hP hD (c_X8_isBelow l D v5 40 ) (va_cwS 2 hts gX8_slow_X8_isBelow rfl rfl rfl (by decide +kernel) ⟨(Nat.le_of_ble_eq_true rfl), (Nat.le_of_ble_eq_true rfl)⟩) [] [] rfl rfl (by decide) rfl hl.1 rfl (Nat.le_of_ble_eq_true rfl) dX8_slow_3 ⟨(Nat.le_of_ble_eq_true rfl), (Nat.le_of_ble_eq_true rfl)⟩) (fun r_1 h_2 => ?_)
  rcases h_2 with ⟨h_2, rfl⟩ | ⟨h_2, rfl⟩
  · have h_2 : 0 ≤ (v5).toInt ∧ (v5).toInt < 40 := h_2
    refine lv_if_ne (tgt := 11) hx hb dX8_slow_6 (by decide) (fun _ => ?_) (fun c_ => absurd c_ (by decide))
    refine lv_iconst (v := 0) hx hb dX8_slow_11 (by decide) ?_
    refine lv_istore_n (lv' := [(2, .int 0), (0, .ref xo), (1, .int v5)]) hx hb dX8_slow_12 rfl hl (by decide) rfl (fun ls hl => ?_)
    refine lv_aload_n hx hb dX8_slow_13 rfl (lv_at hl 1 rfl) ?_
    refine va_get (D := D) (ci := 8) (v := .ref a2) (C := RX8) (T := TX8) (N := 14) hx hb hts hin_X8 hown hK hP 0 rfl rfl 1 (by decide) (hts (.fieldLink RX8 15 "CryOrder" "latestOfThing" "[LCryOrder$Alarm;") (List.mem_cons_of_mem _ (List.mem_append_left _ (List.mem_append_left _ (List.mem_append_left _ (List.mem_append_left _ (List.mem_of_getElem? (i := 0) rfl))))))) (fun _ h9 => h9) rfl dX8_slow_14 ?_
    refine lv_iload_n hx hb dX8_slow_17 rfl (lv_at hl 2 rfl) ?_
    refine va_aldq hx hb hK hP 2 1 rfl rfl (vp_in_iff.mpr (by omega)) dX8_slow_18 ?_
    obtain ⟨v_3, ev_3⟩ : ∃ v, v = g2 (v5 : Int32).toNatClampNeg := ⟨_, rfl⟩
    refine lv_topv (z := va_rf v_3) (congrArg va_rf ev_3.symm) ?_
    have hv_3 : cqLo L K 0 v_3 ((na).toInt.toNat) := j2.lo _ ev_3
    refine q_astore_n (r := v_3) (lv' := [(3, va_rf v_3), (2, .int 0), (0, .ref xo), (1, .int v5)]) hx hb dX8_slow_19 rfl hl (by decide) rfl (fun ls hl => ?_)
    refine cl_slow hx hb hts hml hown hN hK hP hD ⟨(Nat.le_of_ble_eq_true rfl), (Nat.le_of_ble_eq_true rfl)⟩ ⟨(Nat.le_of_ble_eq_true rfl), (Nat.le_of_ble_eq_true rfl)⟩ hI (fun  ls  hl => ?_) (fun u_5 ls  hl => ?_) _ v_3 ((na).toInt.toNat) 0 _ hv_3 (Nat.lt_succ_self _) (lv_sub hl [0, 1, 2, 3] rfl)
    · skip
      refine lv_iconst (v := (-1)) hx hb dX8_slow_68 (by decide) ?_
      exact W.iret (v := (-1)) hx hb hr (fun t ht hW => ⟨(-1), rfl, trivial, ht⟩) (fun q h => by cases h) dX8_slow_69
    · skip
      refine lv_iload_n hx hb dX8_slow_83 rfl (lv_at hl 0 rfl) ?_
      refine lv_sipush (v := 30000) hx hb dX8_slow_84 (by decide) ?_
      refine bi_le (zx := (u_5).toInt) (zy := 30000) (tgt := 94) hx hb dX8_slow_87 (by decide) rfl (by decide) (fun c_7 => ?_) (fun c_7 => ?_)
      · refine lv_iconst (v := (-1)) hx hb dX8_slow_94 (by decide) ?_
        exact W.iret (v := (-1)) hx hb hr (fun t ht hW => ⟨(-1), rfl, trivial, ht⟩) (fun q h => by cases h) dX8_slow_95
      · refine lv_iload_n hx hb dX8_slow_90 rfl (lv_at hl 0 rfl) ?_
        refine lv_goto (tgt := 95) hx hb dX8_slow_91 (by decide) ?_
        exact W.iret (v := u_5) hx hb hr (fun t ht hW => ⟨u_5, rfl, trivial, ht⟩) (fun q h => by cases h) dX8_slow_95
  · have h_2 : (v5).toInt < 0 ∨ 40 ≤ (v5).toInt := h_2
    refine lv_if_ne (tgt := 11) hx hb dX8_slow_6 (by decide) (fun c_ => absurd c_ (by decide)) (fun _ => ?_)
    refine lv_iconst (v := (-1)) hx hb dX8_slow_9 (by decide) ?_
    exact W.iret (v := (-1)) hx hb hr (fun t ht hW => ⟨(-1), rfl, trivial, ht⟩) (fun q h => by cases h) dX8_slow_10
