set_option maxHeartbeats 4000000 in
set_option maxRecDepth 100000 in
theorem kl_sooner {p : Program} {l : Launch} {e : Env} {R : Room} {s : State} {m : MethodId} {args : Array Value} {below : List Frame} {meth : Method} {c : Code} {Q : State → Prop} {A : Nat → Prop} {cells slots : Nat} {D : va_G} {H0 : Heap} {xo : Nat} {ro : Nat} {tI : Nat} {cS : Nat} {pN : Nat} {a1 : Nat} {a2 : Nat} {a3 : Nat} {a4 : Nat} {a5 : Nat} {a6 : Nat} {a7 : Nat} {a8 : Nat} {a9 : Nat} {e1 : ClassId} {e2 : ClassId} {e3 : ClassId} {e4 : ClassId} {e5 : ClassId} {e6 : ClassId} {e7 : ClassId} {e8 : ClassId} {e9 : ClassId} {na : Int32} {ns : Int32} {nw : Int32} {cp : Int32} {le : Int32} {tr : Int32} {sl : Int32} {tz : Int32} {cz : Int32} {q1 : Int32} {q2 : Int32} {q3 : Int32} {q4 : Int32} {g1 : Nat → Option Nat} {g2 : Nat → Option Nat} {g3 : Nat → Option Nat} {g4 : Nat → Option Nat} {g5 : Nat → Option Nat} {g6 : Nat → Option Nat} {g7 : Nat → Option Nat} {y8 : Nat → Int32} {y9 : Nat → Int32} {L : List Nat} {K : Nat → Nat × Nat} {S : Int} {b : Nat} {ii : Nat} {V : Nat → Nat → Int} {Y : Nat → Nat → Int} {f0 : Nat → va_E} (hx : p.tables.exec = Jvm.exec) (hb : c.code = cX2_joinWithSoonerOnes) (hts : ∀ w ∈ wsX2_joinWithSoonerOnes, w.before args s = true) (hml : c.maxLocals = 3) (hown : s.vm.findClass RX2 = some m.cls) (hN : Nq s) (hK : va_K D vwCl [(e1, .object RX0), (e2, .object RX0), (e3, .object RX6), (e4, .object RX4), (e5, .object RX1), (e6, .object RX1), (e7, .object RX1), (e8, .int), (e9, .int)] s) (hA : ∀ q : Nat, H0.size ≤ q → A q) (hR : 3 ≤ R.frames ∧ 61 ≤ R.locals) (hcs : cells ≤ R.cells ∧ slots ≤ R.slots) (hb2 : cqIs L K 0 b) (htz : 0 ≤ (tz).toInt ∧ (tz).toInt ≤ 60) (j4 : cqJ L K 4 (tz).toInt g4) (hna : 0 ≤ (na).toInt ∧ (na).toInt ≤ 200) (j1 : cqJA L K (na).toInt g1) (hj9 : jN L K (na).toInt.toNat g1) (hM : ∀ i j : Nat, i ≤ j → (j : Int) < (na).toInt → V i 1 ≤ V j 1) (hCm : ∀ i : Nat, (i : Int) < (na).toInt → 0 ≤ V i 1 ∧ V i 1 ≤ 10000) (hi9 : ii < (na).toInt.toNat ∧ g1 ii = some b) (hlv : lvN V (na).toInt.toNat ii) (hV0 : cqV f0 g1 (na).toInt V) (hY0 : cqW f0 g4 (tz).toInt Y) (hS90 : tS f0 g1 g2 V (na).toInt.toNat) (done_69 : ∀ (f : Nat → va_E) (cc : Nat → Nat) (H : Heap) (locs : List Loc) (ls : Array Slot), (cqI S L K f) → (cqT [(0, 16)] L K f0 f) → (aU f g1 (na).toInt.toNat cc) → (Lab (lvN V (na).toInt.toNat) (jsE V Y (na).toInt.toNat (tz).toInt.toNat (ii + 1)) cc) → va_P D vwCl ([oC xo 8 [.ref a1, .ref a2, .ref a3, .ref ro, .ref tI, .ref cS, .ref pN, .int na, .int ns, .int nw, .int cp, .int le, .int tr, .int sl], aR a1 e1 200 (g1), aR a2 e2 40 (g2), aR a3 e3 30 (g3), oC tI 7 [.ref a4, .int tz], aR a4 e4 60 (g4), oC cS 2 [.ref a5, .int cz], aR a5 e5 200 (g5), oC pN 5 [.ref a6, .ref a7, .ref a8, .ref a9, .int q1, .int q2, .int q3, .int q4], aR a6 e6 17 (g6), aR a7 e7 12 (g7), aI a8 e8 301 (y8), aI a9 e9 301 (y9)] ++ va_pl L f) H → va_D A ([oC xo 8 [.ref a1, .ref a2, .ref a3, .ref ro, .ref tI, .ref cS, .ref pN, .int na, .int ns, .int nw, .int cp, .int le, .int tr, .int sl], aR a1 e1 200 (g1), aR a2 e2 40 (g2), aR a3 e3 30 (g3), oC tI 7 [.ref a4, .int tz], aR a4 e4 60 (g4), oC cS 2 [.ref a5, .int cz], aR a5 e5 200 (g5), oC pN 5 [.ref a6, .ref a7, .ref a8, .ref a9, .int q1, .int q2, .int q3, .int q4], aR a6 e6 17 (g6), aR a7 e7 12 (g7), aI a8 e8 301 (y8), aI a9 e9 301 (y9)] ++ va_pl L f) → va_S A H0 H locs → lv_has ls 3 [(0, .ref b), (1, .ref tI)] → W p l e R s m args below meth c H locs cells slots Q (F0 m 69 ls [])) : ∀ (n : Nat), ∀ (ea : Option Nat) (j : Nat) (f : Nat → va_E) (jj : Nat) (cc : Nat → Nat) (H : Heap) (locs : List Loc) (ls : Array Slot), (cqLo L K 0 ea j) → (cqI S L K f) → (cqT [(0, 16)] L K f0 f) → (aU f g1 (na).toInt.toNat cc) → (jwI V Y (na).toInt.toNat (tz).toInt.toNat ii g1 ea jj cc) → (j < n) → va_P D vwCl ([oC xo 8 [.ref a1, .ref a2, .ref a3, .ref ro, .ref tI, .ref cS, .ref pN, .int na, .int ns, .int nw, .int cp, .int le, .int tr, .int sl], aR a1 e1 200 (g1), aR a2 e2 40 (g2), aR a3 e3 30 (g3), oC tI 7 [.ref a4, .int tz], aR a4 e4 60 (g4), oC cS 2 [.ref a5, .int cz], aR a5 e5 200 (g5), oC pN 5 [.ref a6, .ref a7, .ref a8, .ref a9, .int q1, .int q2, .int q3, .int q4], aR a6 e6 17 (g6), aR a7 e7 12 (g7), aI a8 e8 301 (y8), aI a9 e9 301 (y9)] ++ va_pl L f) H → va_D A ([oC xo 8 [.ref a1, .ref a2, .ref a3, .ref ro, .ref tI, .ref cS, .ref pN, .int na, .int ns, .int nw, .int cp, .int le, .int tr, .int sl], aR a1 e1 200 (g1), aR a2 e2 40 (g2), aR a3 e3 30 (g3), oC tI 7 [.ref a4, .int tz], aR a4 e4 60 (g4), oC cS 2 [.ref a5, .int cz], aR a5 e5 200 (g5), oC pN 5 [.ref a6, .ref a7, .ref a8, .ref a9, .int q1, .int q2, .int q3, .int q4], aR a6 e6 17 (g6), aR a7 e7 12 (g7), aI a8 e8 301 (y8), aI a9 e9 301 (y9)] ++ va_pl L f) → va_S A H0 H locs → lv_has ls 3 [(2, va_rf ea), (0, .ref b), (1, .ref tI)] → W p l e R s m args below meth c H locs cells slots Q (F0 m 5 ls []) := by
  have hin_X0 : ∀ w ∈ u_ws RX0 TX0 17, w ∈ wsX2_joinWithSoonerOnes := fun w h => List.mem_cons_of_mem _ (List.mem_append_left _ (List.mem_append_left _ (List.mem_append_right _ (h))))
  intro n
  induction n with
  | zero => intro ea j f jj cc H locs ls hlo hI hT hu9 hw9 hmu hP hD hS hl; exact absurd hmu (Nat.not_lt_zero _)
  | succ n ih =>
    intro ea j f jj cc H locs ls hlo hI hT hu9 hw9 hmu hP hD hS hl
    refine q_aload_n hx hb dX2_joinWithSoonerOnes_5 rfl (lv_at hl 0 rfl) ?_
    rcases ea with _ | b_1
    · have hl : lv_has ls 3 [(2, .null), (0, .ref b), (1, .ref tI)] := hl
      refine lv_ifnullN (tgt := 69) hx hb dX2_joinWithSoonerOnes_6 (by decide) ?_
      exact done_69 f cc _ _ _ hI hT hu9 (jwI.end hw9 hlv (fun i hi => by obtain ⟨b, e, -⟩ := hj9 i hi; exact ⟨b, e⟩)) hP hD hS (lv_sub hl [1, 2] rfl)
    · have hl : lv_has ls 3 [(2, .ref b_1), (0, .ref b), (1, .ref tI)] := hl
      obtain ⟨is_2, lis_2⟩ := hlo b_1 rfl
      refine lv_ifnull hx hb dX2_joinWithSoonerOnes_6 ?_
      have hV := hV0.fr j1 hT (by decide)
      have hY := hY0.fr j4 hT (by decide)
      have hS9 := hS90.fr (na := (na).toInt) (by omega) j1 hT (by decide)
      obtain ⟨i9, hi1, hi2⟩ := bind_some hw9.1
      obtain ⟨hl1, hl2, hl3⟩ := lsF_some _ hi1
      have hjn := hw9.2.1
      have hin := hi9.1
      have hx9 : i9 < (na).toInt.toNat ∧ g1 i9 = some b_1 := ⟨by omega, hi2⟩
      have hC9 := hCm i9 (by omega)
      have hC8 := hCm ii (by omega)
      have kk9 := (hj9.key hx9.1 hx9.2).2
      have kk8 := (hj9.key hi9.1 hi9.2).2
      have W1 := hV i9 (by omega) b_1 hi2 1 (by decide)
      have W3 := hV i9 (by omega) b_1 hi2 3 (by decide)
      have W8 := hV i9 (by omega) b_1 hi2 8 (by decide)
      have W9 := hV i9 (by omega) b_1 hi2 9 (by decide)
      have W12 := hV i9 (by omega) b_1 hi2 12 (by decide)
      have U1 := hV ii (by omega) b hi9.2 1 (by decide)
      have U3 := hV ii (by omega) b hi9.2 3 (by decide)
      refine lv_aload_n hx hb dX2_joinWithSoonerOnes_9 rfl (lv_at hl 1 rfl) ?_
      obtain ⟨nu_3, ca_3, so_3, th_3, ma_3, wo_3, lf_3, ld_3, si_3, cp_3, he_3, re_3, sv_3, lt_3, lF_3, sn_3, ab_3, hf_3, hnu_3, hlf_3, hld_3, hsi_3, hcp_3, hsn_3, hab_3⟩ := hI.opA hb2
      have F2hf_3 : cqF (f b) 2 = (so_3).toInt := by rw [hf_3]; rfl
      have F3hf_3 : cqF (f b) 3 = (th_3).toInt := by rw [hf_3]; rfl
      have F4hf_3 : cqF (f b) 4 = (ma_3).toInt := by rw [hf_3]; rfl
      have F8hf_3 : cqF (f b) 8 = (si_3).toInt := by rw [hf_3]; rfl
      have F9hf_3 : cqF (f b) 9 = (cp_3).toInt := by rw [hf_3]; rfl
      have F10hf_3 : cqF (f b) 10 = (he_3).toInt := by rw [hf_3]; rfl
      have F12hf_3 : cqF (f b) 12 = (sv_3).toInt := by rw [hf_3]; rfl
      have F13hf_3 : cqF (f b) 13 = (lt_3).toInt := by rw [hf_3]; rfl
      have F14hf_3 : cqF (f b) 14 = (lF_3).toInt := by rw [hf_3]; rfl
      have F1hf_3 : cqF (f b) 1 = (ca_3).toInt := by rw [hf_3]; rfl
      have F5hf_3 : cqF (f b) 5 = (wo_3).toInt := by rw [hf_3]; rfl
      refine pl_get (D := D) (ci := 0) (v := .int ca_3) (C := RX0) (T := TX0) (N := 17) hx hb hts hin_X0 hown hK hP hb2.1 hf_3 rfl 1 (by decide) (hts (.fieldLink RX2 64 "CryOrder$Alarm" "came" "I") (List.mem_cons_of_mem _ (List.mem_append_left _ (List.mem_append_left _ (List.mem_append_left _ (List.mem_append_left _ (List.mem_of_getElem? (i := 1) rfl))))))) (fun _ h9 => h9) rfl dX2_joinWithSoonerOnes_10 ?_
      refine lv_aload_n hx hb dX2_joinWithSoonerOnes_13 rfl (lv_at hl 0 rfl) ?_
      obtain ⟨nu_4, ca_4, so_4, th_4, ma_4, wo_4, lf_4, ld_4, si_4, cp_4, he_4, re_4, sv_4, lt_4, lF_4, sn_4, ab_4, hf_4, hnu_4, hlf_4, hld_4, hsi_4, hcp_4, hsn_4, hab_4⟩ := hI.opA is_2
      have F2hf_4 : cqF (f b_1) 2 = (so_4).toInt := by rw [hf_4]; rfl
      have F3hf_4 : cqF (f b_1) 3 = (th_4).toInt := by rw [hf_4]; rfl
      have F4hf_4 : cqF (f b_1) 4 = (ma_4).toInt := by rw [hf_4]; rfl
      have F8hf_4 : cqF (f b_1) 8 = (si_4).toInt := by rw [hf_4]; rfl
      have F9hf_4 : cqF (f b_1) 9 = (cp_4).toInt := by rw [hf_4]; rfl
      have F10hf_4 : cqF (f b_1) 10 = (he_4).toInt := by rw [hf_4]; rfl
      have F12hf_4 : cqF (f b_1) 12 = (sv_4).toInt := by rw [hf_4]; rfl
      have F13hf_4 : cqF (f b_1) 13 = (lt_4).toInt := by rw [hf_4]; rfl
      have F14hf_4 : cqF (f b_1) 14 = (lF_4).toInt := by rw [hf_4]; rfl
      have F1hf_4 : cqF (f b_1) 1 = (ca_4).toInt := by rw [hf_4]; rfl
      have F5hf_4 : cqF (f b_1) 5 = (wo_4).toInt := by rw [hf_4]; rfl
      refine pl_get (D := D) (ci := 0) (v := .int ca_4) (C := RX0) (T := TX0) (N := 17) hx hb hts hin_X0 hown hK hP is_2.1 hf_4 rfl 1 (by decide) (hts (.fieldLink RX2 64 "CryOrder$Alarm" "came" "I") (List.mem_cons_of_mem _ (List.mem_append_left _ (List.mem_append_left _ (List.mem_append_left _ (List.mem_append_left _ (List.mem_of_getElem? (i := 1) rfl))))))) (fun _ h9 => h9) rfl dX2_joinWithSoonerOnes_14 ?_
      refine lv_isub hx hb dX2_joinWithSoonerOnes_17 ?_
      refine lv_topi (fun z_5 ez_5 => ?_)
      have tz_5 := sb_toInt (zx := (ca_3).toInt) (zy := (ca_4).toInt) ez_5 rfl rfl
      refine lv_bipush (v := 20) hx hb dX2_joinWithSoonerOnes_18 (by decide) ?_
      refine bi_gt (zx := (z_5).toInt) (zy := 20) (tgt := 69) hx hb dX2_joinWithSoonerOnes_20 (by decide) rfl (by decide) (fun c_6 => ?_) (fun c_6 => ?_)
      · exact done_69 f cc _ _ _ hI hT hu9 (jwI.old hw9 hlv hi1 (fun x y h1 h2 => hM x y h1 (by omega)) (by omega)) hP hD hS (lv_sub hl [1, 2] rfl)
      · refine lv_aload_n hx hb dX2_joinWithSoonerOnes_23 rfl (lv_at hl 0 rfl) ?_
        refine vp_callSi (wrV (As := []) (rest := []) ⟨hx, hb, hml, hown, hts⟩ hN hK hP hD (c_X0_isLiveR l D [oC xo 8 [.ref a1, .ref a2, .ref a3, .ref ro, .ref tI, .ref cS, .ref pN, .int na, .int ns, .int nw, .int cp, .int le, .int tr, .int sl], aR a1 e1 200 (g1), aR a2 e2 40 (g2), aR a3 e3 30 (g3), oC tI 7 [.ref a4, .int tz], aR a4 e4 60 (g4), oC cS 2 [.ref a5, .int cz], aR a5 e5 200 (g5), oC pN 5 [.ref a6, .ref a7, .ref a8, .ref a9, .int q1, .int q2, .int q3, .int q4], aR a6 e6 17 (g6), aR a7 e7 12 (g7), aI a8 e8 301 (y8), aI a9 e9 301 (y9)] L K f S [(e1, .object RX0), (e2, .object RX0), (e3, .object RX6), (e4, .object RX4), (e5, .object RX1), (e6, .object RX1), (e7, .object RX1), (e8, .int), (e9, .int)] b_1 hI is_2) (cwV 0 hts gX2_joinWithSoonerOnes_X0_isLive rfl rfl rfl (by decide +kernel) ⟨Nat.le_trans (m := 3) (Nat.le_of_ble_eq_true rfl) hR.1, Nat.le_trans (m := 61) (Nat.le_of_ble_eq_true rfl) hR.2⟩) 0 rfl (cq_rcA (X := [oC xo 8 [.ref a1, .ref a2, .ref a3, .ref ro, .ref tI, .ref cS, .ref pN, .int na, .int ns, .int nw, .int cp, .int le, .int tr, .int sl], aR a1 e1 200 (g1), aR a2 e2 40 (g2), aR a3 e3 30 (g3), oC tI 7 [.ref a4, .int tz], aR a4 e4 60 (g4), oC cS 2 [.ref a5, .int cz], aR a5 e5 200 (g5), oC pN 5 [.ref a6, .ref a7, .ref a8, .ref a9, .int q1, .int q2, .int q3, .int q4], aR a6 e6 17 (g6), aR a7 e7 12 (g7), aI a8 e8 301 (y8), aI a9 e9 301 (y9)]) hI is_2) rfl hl.1 rfl (Nat.le_of_ble_eq_true rfl) dX2_joinWithSoonerOnes_24 ⟨hcs.1, hcs.2⟩) (fun r_7 h_8 => ?_)
        rcases h_8 with ⟨h_8, rfl⟩ | ⟨h_8, rfl⟩
        · have h_8 : cqF (f b_1) 12 = 0 ∧ cqF (f b_1) 8 = 0 ∧ cqF (f b_1) 9 = 0 := h_8
          refine lv_if_eq (tgt := 61) hx hb dX2_joinWithSoonerOnes_27 (by decide) (fun c_ => absurd c_ (by decide)) (fun _ => ?_)
          refine lv_aload_n hx hb dX2_joinWithSoonerOnes_30 rfl (lv_at hl 0 rfl) ?_
          refine va_csq (wrV (As := []) (rest := []) ⟨hx, hb, hml, hown, hts⟩ hN hK hP hD (c_X0_headK l D [oC xo 8 [.ref a1, .ref a2, .ref a3, .ref ro, .ref tI, .ref cS, .ref pN, .int na, .int ns, .int nw, .int cp, .int le, .int tr, .int sl], aR a1 e1 200 (g1), aR a2 e2 40 (g2), aR a3 e3 30 (g3), oC tI 7 [.ref a4, .int tz], aR a4 e4 60 (g4), oC cS 2 [.ref a5, .int cz], aR a5 e5 200 (g5), oC pN 5 [.ref a6, .ref a7, .ref a8, .ref a9, .int q1, .int q2, .int q3, .int q4], aR a6 e6 17 (g6), aR a7 e7 12 (g7), aI a8 e8 301 (y8), aI a9 e9 301 (y9)] L K f S [(e1, .object RX0), (e2, .object RX0), (e3, .object RX6), (e4, .object RX4), (e5, .object RX1), (e6, .object RX1), (e7, .object RX1), (e8, .int), (e9, .int)] b_1 g1 ((na).toInt.toNat) cc i9 hI is_2 hj9 hu9 hx9) (cwV 0 hts gX2_joinWithSoonerOnes_X0_head rfl rfl rfl (by decide +kernel) ⟨Nat.le_trans (m := 3) (Nat.le_of_ble_eq_true rfl) hR.1, Nat.le_trans (m := 61) (Nat.le_of_ble_eq_true rfl) hR.2⟩) 0 rfl (cq_rcA (X := [oC xo 8 [.ref a1, .ref a2, .ref a3, .ref ro, .ref tI, .ref cS, .ref pN, .int na, .int ns, .int nw, .int cp, .int le, .int tr, .int sl], aR a1 e1 200 (g1), aR a2 e2 40 (g2), aR a3 e3 30 (g3), oC tI 7 [.ref a4, .int tz], aR a4 e4 60 (g4), oC cS 2 [.ref a5, .int cz], aR a5 e5 200 (g5), oC pN 5 [.ref a6, .ref a7, .ref a8, .ref a9, .int q1, .int q2, .int q3, .int q4], aR a6 e6 17 (g6), aR a7 e7 12 (g7), aI a8 e8 301 (y8), aI a9 e9 301 (y9)]) hI is_2) rfl hl.1 rfl (Nat.le_of_ble_eq_true rfl) dX2_joinWithSoonerOnes_31 ⟨hcs.1, hcs.2⟩) (fun r_9 h_10 => ?_)
          obtain ⟨b_11, rfl, is_12, h_13, h_14, h_15⟩ := h_10
          have h_13 : g1 (cc i9) = some b_11 := h_13
          have h_14 : cc (cc i9) = cc i9 := h_14
          have h_15 : cc i9 ≤ i9 := h_15
          refine lv_topv (z := .ref b_11) rfl ?_
          have hx_16 : cc i9 < (na).toInt.toNat ∧ g1 (cc i9) = some b_11 := ⟨Nat.lt_of_le_of_lt h_15 hx9.1, h_13⟩
          have khx_16 := (hj9.key hx_16.1 hx_16.2).2
          refine lv_aload_n hx hb dX2_joinWithSoonerOnes_34 rfl (lv_at hl 1 rfl) ?_
          refine va_csq (wrV (As := []) (rest := [.ref b_11]) ⟨hx, hb, hml, hown, hts⟩ hN hK hP hD (c_X0_headK l D [oC xo 8 [.ref a1, .ref a2, .ref a3, .ref ro, .ref tI, .ref cS, .ref pN, .int na, .int ns, .int nw, .int cp, .int le, .int tr, .int sl], aR a1 e1 200 (g1), aR a2 e2 40 (g2), aR a3 e3 30 (g3), oC tI 7 [.ref a4, .int tz], aR a4 e4 60 (g4), oC cS 2 [.ref a5, .int cz], aR a5 e5 200 (g5), oC pN 5 [.ref a6, .ref a7, .ref a8, .ref a9, .int q1, .int q2, .int q3, .int q4], aR a6 e6 17 (g6), aR a7 e7 12 (g7), aI a8 e8 301 (y8), aI a9 e9 301 (y9)] L K f S [(e1, .object RX0), (e2, .object RX0), (e3, .object RX6), (e4, .object RX4), (e5, .object RX1), (e6, .object RX1), (e7, .object RX1), (e8, .int), (e9, .int)] b g1 ((na).toInt.toNat) cc ii hI hb2 hj9 hu9 hi9) (cwV 0 hts gX2_joinWithSoonerOnes_X0_head rfl rfl rfl (by decide +kernel) ⟨Nat.le_trans (m := 3) (Nat.le_of_ble_eq_true rfl) hR.1, Nat.le_trans (m := 61) (Nat.le_of_ble_eq_true rfl) hR.2⟩) 0 rfl (cq_rcA (X := [oC xo 8 [.ref a1, .ref a2, .ref a3, .ref ro, .ref tI, .ref cS, .ref pN, .int na, .int ns, .int nw, .int cp, .int le, .int tr, .int sl], aR a1 e1 200 (g1), aR a2 e2 40 (g2), aR a3 e3 30 (g3), oC tI 7 [.ref a4, .int tz], aR a4 e4 60 (g4), oC cS 2 [.ref a5, .int cz], aR a5 e5 200 (g5), oC pN 5 [.ref a6, .ref a7, .ref a8, .ref a9, .int q1, .int q2, .int q3, .int q4], aR a6 e6 17 (g6), aR a7 e7 12 (g7), aI a8 e8 301 (y8), aI a9 e9 301 (y9)]) hI hb2) rfl hl.1 rfl (Nat.le_of_ble_eq_true rfl) dX2_joinWithSoonerOnes_35 ⟨hcs.1, hcs.2⟩) (fun r_17 h_18 => ?_)
          obtain ⟨b_19, rfl, is_20, h_21, h_22, h_23⟩ := h_18
          have h_21 : g1 (cc ii) = some b_19 := h_21
          have h_22 : cc (cc ii) = cc ii := h_22
          have h_23 : cc ii ≤ ii := h_23
          refine lv_topv (z := .ref b_19) rfl ?_
          have hx_24 : cc ii < (na).toInt.toNat ∧ g1 (cc ii) = some b_19 := ⟨Nat.lt_of_le_of_lt h_23 hi9.1, h_21⟩
          have khx_24 := (hj9.key hx_24.1 hx_24.2).2
          refine lv_acmp_eq (rx := (some b_11)) (ry := (some b_19)) (tgt := 61) hx hb dX2_joinWithSoonerOnes_38 (by decide) (fun c_25 => ?_) (fun c_25 => ?_)
          · refine lv_aload_n hx hb dX2_joinWithSoonerOnes_61 rfl (lv_at hl 0 rfl) ?_
            refine pl_get (D := D) (ci := 0) (v := va_rf sn_4) (C := RX0) (T := TX0) (N := 17) hx hb hts hin_X0 hown hK hP is_2.1 hf_4 rfl 15 (by decide) (hts (.fieldLink RX2 61 "CryOrder$Alarm" "soonerOfThing" "LCryOrder$Alarm;") (List.mem_cons_of_mem _ (List.mem_append_left _ (List.mem_append_left _ (List.mem_append_left _ (List.mem_append_left _ (List.mem_of_getElem? (i := 0) rfl))))))) (fun _ h9 => h9) rfl dX2_joinWithSoonerOnes_62 ?_
            refine q_astore_n (r := sn_4) (lv' := [(2, va_rf sn_4), (0, .ref b), (1, .ref tI)]) hx hb dX2_joinWithSoonerOnes_65 rfl hl (by decide) rfl (fun ls hl => ?_)
            refine lv_goto (tgt := 5) hx hb dX2_joinWithSoonerOnes_66 (by decide) ?_
            exact ih sn_4 ((K b_1).2) f i9 cc _ _ _ hsn_4 hI hT hu9 (jwI.same hw9 hi1 (hj9.inj hx_16.1 hx_24.1 (hx_16.2.trans c_25) hx_24.2) ((cqRf_of (e := f b_1) (k := 15) (v := sn_4) (by rw [hf_4]; rfl)).symm.trans (by rw [hS9.1 i9 (by omega) b_1 hi2, hl2]))) (by omega) hP hD hS (lv_sub hl [0, 1, 2] rfl)
          · refine lv_aload_n hx hb dX2_joinWithSoonerOnes_41 rfl (lv_at hl 2 rfl) ?_
            refine lv_aload_n hx hb dX2_joinWithSoonerOnes_42 rfl (lv_at hl 0 rfl) ?_
            refine pl_get (D := D) (ci := 0) (v := .int nu_4) (C := RX0) (T := TX0) (N := 17) hx hb hts hin_X0 hown hK hP is_2.1 hf_4 rfl 0 (by decide) (hts (.fieldLink RX2 71 "CryOrder$Alarm" "number" "I") (List.mem_cons_of_mem _ (List.mem_append_left _ (List.mem_append_left _ (List.mem_append_left _ (List.mem_append_left _ (List.mem_of_getElem? (i := 2) rfl))))))) (fun _ h9 => h9) rfl dX2_joinWithSoonerOnes_43 ?_
            refine lv_aload_n hx hb dX2_joinWithSoonerOnes_46 rfl (lv_at hl 1 rfl) ?_
            refine pl_get (D := D) (ci := 0) (v := .int nu_3) (C := RX0) (T := TX0) (N := 17) hx hb hts hin_X0 hown hK hP hb2.1 hf_3 rfl 0 (by decide) (hts (.fieldLink RX2 71 "CryOrder$Alarm" "number" "I") (List.mem_cons_of_mem _ (List.mem_append_left _ (List.mem_append_left _ (List.mem_append_left _ (List.mem_append_left _ (List.mem_of_getElem? (i := 2) rfl))))))) (fun _ h9 => h9) rfl dX2_joinWithSoonerOnes_47 ?_
            refine vp_callSi (wrV (As := [.int nu_4, .int nu_3]) (rest := []) ⟨hx, hb, hml, hown, hts⟩ hN hK hP hD (c_X7_isPartedK l D xo ro tI cS pN a1 a2 a3 a4 a5 a6 a7 a8 a9 e1 e2 e3 e4 e5 e6 e7 e8 e9 na ns nw cp le tr sl tz cz q1 q2 q3 q4 g1 g2 g3 g4 g5 g6 g7 y8 y9 L K f S nu_4 nu_3 Y hI (by first | omega | assumption | decide | (have h3 : (0 : Int32).toInt = 0 := rfl; omega) | (have h3 : (0 : Int32).toInt = 0 := rfl; have h4 : (1 : Int32).toInt = 1 := rfl; have h5 : (-1 : Int32).toInt = -1 := rfl; omega)) j4 (by first | omega | assumption | decide | (have h3 : (0 : Int32).toInt = 0 := rfl; omega) | (have h3 : (0 : Int32).toInt = 0 := rfl; have h4 : (1 : Int32).toInt = 1 := rfl; have h5 : (-1 : Int32).toInt = -1 := rfl; omega))) (cwV 2 hts gX2_joinWithSoonerOnes_X7_isParted rfl rfl rfl (by decide +kernel) ⟨Nat.le_trans (m := 3) (Nat.le_of_ble_eq_true rfl) hR.1, Nat.le_trans (m := 61) (Nat.le_of_ble_eq_true rfl) hR.2⟩) 7 rfl ⟨4, _, rfl⟩ rfl hl.1 rfl (Nat.le_of_ble_eq_true rfl) dX2_joinWithSoonerOnes_50 ⟨hcs.1, hcs.2⟩) (fun r_26 h_27 => ?_)
            rcases h_27 with ⟨h_27, rfl⟩ | ⟨h_27, rfl⟩
            · have h_27 : ∃ k, fdF Y (nu_4).toInt (nu_3).toInt (tz).toInt.toNat = some k ∧ Y k 2 = 0 := h_27
              refine lv_if_ne (tgt := 61) hx hb dX2_joinWithSoonerOnes_53 (by decide) (fun _ => ?_) (fun c_ => absurd c_ (by decide))
              refine lv_aload_n hx hb dX2_joinWithSoonerOnes_61 rfl (lv_at hl 0 rfl) ?_
              refine pl_get (D := D) (ci := 0) (v := va_rf sn_4) (C := RX0) (T := TX0) (N := 17) hx hb hts hin_X0 hown hK hP is_2.1 hf_4 rfl 15 (by decide) (hts (.fieldLink RX2 61 "CryOrder$Alarm" "soonerOfThing" "LCryOrder$Alarm;") (List.mem_cons_of_mem _ (List.mem_append_left _ (List.mem_append_left _ (List.mem_append_left _ (List.mem_append_left _ (List.mem_of_getElem? (i := 0) rfl))))))) (fun _ h9 => h9) rfl dX2_joinWithSoonerOnes_62 ?_
              refine q_astore_n (r := sn_4) (lv' := [(2, va_rf sn_4), (0, .ref b), (1, .ref tI)]) hx hb dX2_joinWithSoonerOnes_65 rfl hl (by decide) rfl (fun ls hl => ?_)
              refine lv_goto (tgt := 5) hx hb dX2_joinWithSoonerOnes_66 (by decide) ?_
              rw [show (nu_4).toInt = (i9 : Int) by omega, show (nu_3).toInt = (ii : Int) by omega] at h_27
              exact ih sn_4 ((K b_1).2) f i9 cc _ _ _ hsn_4 hI hT hu9 (jwI.skip hw9 hi1 (fun q9 => q9.2.2.2.2 h_27) ((cqRf_of (e := f b_1) (k := 15) (v := sn_4) (by rw [hf_4]; rfl)).symm.trans (by rw [hS9.1 i9 (by omega) b_1 hi2, hl2]))) (by omega) hP hD hS (lv_sub hl [0, 1, 2] rfl)
            · have h_27 : ¬ (∃ k, fdF Y (nu_4).toInt (nu_3).toInt (tz).toInt.toNat = some k ∧ Y k 2 = 0) := h_27
              refine lv_if_ne (tgt := 61) hx hb dX2_joinWithSoonerOnes_53 (by decide) (fun c_ => absurd c_ (by decide)) (fun _ => ?_)
              refine lv_aload_n hx hb dX2_joinWithSoonerOnes_56 rfl (lv_at hl 1 rfl) ?_
              refine lv_aload_n hx hb dX2_joinWithSoonerOnes_57 rfl (lv_at hl 0 rfl) ?_
              refine va_callv (wwV (mc := 0) (ms := 0) (As := [.ref b_1]) (rest := []) ⟨hx, hb, hml, hown, hts⟩ hN hK hP hD (c_X0_joinCaseOfK l D H.size [oC xo 8 [.ref a1, .ref a2, .ref a3, .ref ro, .ref tI, .ref cS, .ref pN, .int na, .int ns, .int nw, .int cp, .int le, .int tr, .int sl], aR a1 e1 200 (g1), aR a2 e2 40 (g2), aR a3 e3 30 (g3), oC tI 7 [.ref a4, .int tz], aR a4 e4 60 (g4), oC cS 2 [.ref a5, .int cz], aR a5 e5 200 (g5), oC pN 5 [.ref a6, .ref a7, .ref a8, .ref a9, .int q1, .int q2, .int q3, .int q4], aR a6 e6 17 (g6), aR a7 e7 12 (g7), aI a8 e8 301 (y8), aI a9 e9 301 (y9)] L K f S [(e1, .object RX0), (e2, .object RX0), (e3, .object RX6), (e4, .object RX4), (e5, .object RX1), (e6, .object RX1), (e7, .object RX1), (e8, .int), (e9, .int)] b b_1 g1 ((na).toInt.toNat) cc ii i9 hI hb2 is_2 hj9 hu9 hi9 hx9) (cwV 1 hts gX2_joinWithSoonerOnes_X0_joinCaseOf rfl rfl rfl (by decide +kernel) ⟨Nat.le_trans (m := 3) (Nat.le_of_ble_eq_true rfl) hR.1, Nat.le_trans (m := 61) (Nat.le_of_ble_eq_true rfl) hR.2⟩) 0 rfl (cq_rcA (X := [oC xo 8 [.ref a1, .ref a2, .ref a3, .ref ro, .ref tI, .ref cS, .ref pN, .int na, .int ns, .int nw, .int cp, .int le, .int tr, .int sl], aR a1 e1 200 (g1), aR a2 e2 40 (g2), aR a3 e3 30 (g3), oC tI 7 [.ref a4, .int tz], aR a4 e4 60 (g4), oC cS 2 [.ref a5, .int cz], aR a5 e5 200 (g5), oC pN 5 [.ref a6, .ref a7, .ref a8, .ref a9, .int q1, .int q2, .int q3, .int q4], aR a6 e6 17 (g6), aR a7 e7 12 (g7), aI a8 e8 301 (y8), aI a9 e9 301 (y9)]) hI hb2) rfl hl.1 rfl (Nat.le_of_ble_eq_true rfl) dX2_joinWithSoonerOnes_58 ⟨hcs.1, hcs.2⟩) hS (fun q _ h => wfree hD hS hA q h) (wfree hD hS hA) (fun u t H_28 locs1 ht hvm hw hB hz1 hk1 hS1 => ?_)
              obtain ⟨f_29, hB, h_30a, h_30b, h_30c⟩ := hB
              obtain ⟨hP, hD⟩ := wj hB ht (wfree hD hS hA)
              have hS := hS1
              have h_30a : cqI S L K f_29 := h_30a
              have h_30b : cqT [(0, 16)] L K f f_29 := h_30b
              have h_30c : aU f_29 g1 (na).toInt.toNat (mrg cc (cc ii) (cc i9)) := h_30c
              have hI : cqI S L K f_29 := h_30a
              have hT_31 := hT.thenG cqG.rf (h_30b.weak (by decide))
              have hP : va_P D vwCl ([oC xo 8 [.ref a1, .ref a2, .ref a3, .ref ro, .ref tI, .ref cS, .ref pN, .int na, .int ns, .int nw, .int cp, .int le, .int tr, .int sl], aR a1 e1 200 (g1), aR a2 e2 40 (g2), aR a3 e3 30 (g3), oC tI 7 [.ref a4, .int tz], aR a4 e4 60 (g4), oC cS 2 [.ref a5, .int cz], aR a5 e5 200 (g5), oC pN 5 [.ref a6, .ref a7, .ref a8, .ref a9, .int q1, .int q2, .int q3, .int q4], aR a6 e6 17 (g6), aR a7 e7 12 (g7), aI a8 e8 301 (y8), aI a9 e9 301 (y9)] ++ va_pl L f_29) H_28 := hP
              have hD : va_D A ([oC xo 8 [.ref a1, .ref a2, .ref a3, .ref ro, .ref tI, .ref cS, .ref pN, .int na, .int ns, .int nw, .int cp, .int le, .int tr, .int sl], aR a1 e1 200 (g1), aR a2 e2 40 (g2), aR a3 e3 30 (g3), oC tI 7 [.ref a4, .int tz], aR a4 e4 60 (g4), oC cS 2 [.ref a5, .int cz], aR a5 e5 200 (g5), oC pN 5 [.ref a6, .ref a7, .ref a8, .ref a9, .int q1, .int q2, .int q3, .int q4], aR a6 e6 17 (g6), aR a7 e7 12 (g7), aI a8 e8 301 (y8), aI a9 e9 301 (y9)] ++ va_pl L f_29) := hD
              refine lv_aload_n hx hb dX2_joinWithSoonerOnes_61 rfl (lv_at hl 0 rfl) ?_
              obtain ⟨nu_32, ca_32, so_32, th_32, ma_32, wo_32, lf_32, ld_32, si_32, cp_32, he_32, re_32, sv_32, lt_32, lF_32, sn_32, ab_32, hf_32, hnu_32, hlf_32, hld_32, hsi_32, hcp_32, hsn_32, hab_32⟩ := hI.opA is_2
              have F2hf_32 : cqF (f_29 b_1) 2 = (so_32).toInt := by rw [hf_32]; rfl
              have F3hf_32 : cqF (f_29 b_1) 3 = (th_32).toInt := by rw [hf_32]; rfl
              have F4hf_32 : cqF (f_29 b_1) 4 = (ma_32).toInt := by rw [hf_32]; rfl
              have F8hf_32 : cqF (f_29 b_1) 8 = (si_32).toInt := by rw [hf_32]; rfl
              have F9hf_32 : cqF (f_29 b_1) 9 = (cp_32).toInt := by rw [hf_32]; rfl
              have F10hf_32 : cqF (f_29 b_1) 10 = (he_32).toInt := by rw [hf_32]; rfl
              have F12hf_32 : cqF (f_29 b_1) 12 = (sv_32).toInt := by rw [hf_32]; rfl
              have F13hf_32 : cqF (f_29 b_1) 13 = (lt_32).toInt := by rw [hf_32]; rfl
              have F14hf_32 : cqF (f_29 b_1) 14 = (lF_32).toInt := by rw [hf_32]; rfl
              have F1hf_32 : cqF (f_29 b_1) 1 = (ca_32).toInt := by rw [hf_32]; rfl
              have F5hf_32 : cqF (f_29 b_1) 5 = (wo_32).toInt := by rw [hf_32]; rfl
              refine pl_get (D := D) (ci := 0) (v := va_rf sn_32) (C := RX0) (T := TX0) (N := 17) hx hb hts hin_X0 hown hK hP is_2.1 hf_32 rfl 15 (by decide) (hts (.fieldLink RX2 61 "CryOrder$Alarm" "soonerOfThing" "LCryOrder$Alarm;") (List.mem_cons_of_mem _ (List.mem_append_left _ (List.mem_append_left _ (List.mem_append_left _ (List.mem_append_left _ (List.mem_of_getElem? (i := 0) rfl))))))) (fun _ h9 => h9) rfl dX2_joinWithSoonerOnes_62 ?_
              refine q_astore_n (r := sn_32) (lv' := [(2, va_rf sn_32), (0, .ref b), (1, .ref tI)]) hx hb dX2_joinWithSoonerOnes_65 rfl hl (by decide) rfl (fun ls hl => ?_)
              refine lv_goto (tgt := 5) hx hb dX2_joinWithSoonerOnes_66 (by decide) ?_
              rw [show (nu_4).toInt = (i9 : Int) by omega, show (nu_3).toInt = (ii : Int) by omega] at h_27
              exact ih sn_32 ((K b_1).2) f_29 i9 (mrg cc (cc ii) (cc i9)) _ _ _ hsn_32 hI hT_31 h_30c (jwI.join hw9 hi1 ⟨⟨by omega, by omega, by omega, by omega⟩, hlv, ⟨hl2, by omega, h_27⟩⟩ ((cqRf_of (e := f_29 b_1) (k := 15) (v := sn_32) (by rw [hf_32]; rfl)).symm.trans (by rw [(hS9.fr (na := (na).toInt) (by omega) j1 h_30b (by decide)).1 i9 (by omega) b_1 hi2, hl2]))) (by omega) hP hD hS (lv_sub hl [0, 1, 2] rfl)
        · have h_8 : ¬ (cqF (f b_1) 12 = 0 ∧ cqF (f b_1) 8 = 0 ∧ cqF (f b_1) 9 = 0) := h_8
          refine lv_if_eq (tgt := 61) hx hb dX2_joinWithSoonerOnes_27 (by decide) (fun _ => ?_) (fun c_ => absurd c_ (by decide))
          refine lv_aload_n hx hb dX2_joinWithSoonerOnes_61 rfl (lv_at hl 0 rfl) ?_
          refine pl_get (D := D) (ci := 0) (v := va_rf sn_4) (C := RX0) (T := TX0) (N := 17) hx hb hts hin_X0 hown hK hP is_2.1 hf_4 rfl 15 (by decide) (hts (.fieldLink RX2 61 "CryOrder$Alarm" "soonerOfThing" "LCryOrder$Alarm;") (List.mem_cons_of_mem _ (List.mem_append_left _ (List.mem_append_left _ (List.mem_append_left _ (List.mem_append_left _ (List.mem_of_getElem? (i := 0) rfl))))))) (fun _ h9 => h9) rfl dX2_joinWithSoonerOnes_62 ?_
          refine q_astore_n (r := sn_4) (lv' := [(2, va_rf sn_4), (0, .ref b), (1, .ref tI)]) hx hb dX2_joinWithSoonerOnes_65 rfl hl (by decide) rfl (fun ls hl => ?_)
          refine lv_goto (tgt := 5) hx hb dX2_joinWithSoonerOnes_66 (by decide) ?_
          exact ih sn_4 ((K b_1).2) f i9 cc _ _ _ hsn_4 hI hT hu9 (jwI.skip hw9 hi1 (fun q9 => by have h9 := q9.1.2; omega) ((cqRf_of (e := f b_1) (k := 15) (v := sn_4) (by rw [hf_4]; rfl)).symm.trans (by rw [hS9.1 i9 (by omega) b_1 hi2, hl2]))) (by omega) hP hD hS (lv_sub hl [0, 1, 2] rfl)
