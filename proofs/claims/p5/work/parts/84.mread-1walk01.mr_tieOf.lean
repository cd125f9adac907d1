set_option maxHeartbeats 4000000 in
set_option maxRecDepth 100000 in
theorem mr_tieOf {p : Program} {l : Launch} {e : Env} {R : Room} {s : State} {m : MethodId} {args : Array Value} {below : List Frame} {meth : Method} {c : Code} {Q : State → Prop} {A : Nat → Prop} {cells slots : Nat} {D : va_G} {H : Heap} {locs : List Loc} {h0 : Nat} {b1 : Nat} {b2 : Nat} {b3 : Nat} {b4 : Nat} {b5 : Nat} {b6 : Nat} {b7 : Nat} {b8 : Nat} {b9 : Nat} {b10 : Nat} {b11 : Nat} {b12 : Nat} {b13 : Nat} {b14 : Nat} {b15 : Nat} {b16 : Nat} {b17 : Nat} {b18 : Nat} {b19 : Nat} {b20 : Nat} {b21 : Nat} {b22 : Nat} {b23 : Nat} {b24 : Nat} {b25 : Nat} {now : Int32} {na : Int32} {nsi : Int32} {nti : Int32} {vc : Int32} {vn : Int32} {vt : Int32} {ct : Int32} {cs : Int32} {co : Int32} {nca : Int32} {ntm : Int32} {d16 : ClassId} {d17 : ClassId} {f16 : Nat → Int32} {f17 : Nat → Int32} {p0 : Int32} {p1 : Int32} (hx : p.tables.exec = Jvm.exec) (hb : c.code = cX9_tieOf) (hts : ∀ w ∈ wsX9_tieOf, w.before args s = true) (hml : c.maxLocals = 4) (hown : s.vm.findClass RX9 = some m.cls) (hN : Nq s) (hK : va_K D vwCl [(d16, .int), (d17, .int)] s) (hP : va_P D vwCl [oC h0 9 [.int now, .int na, .int nsi, .int nti, .int vc, .int vn, .int vt, .ref b1, .ref b2, .ref b3, .ref b4, .ref b5, .ref b6, .ref b7, .ref b8, .ref b9, .ref b10, .ref b11, .ref b12, .ref b13, .ref b14, .ref b15, .ref b16, .ref b17, .ref b18, .int ct, .int cs, .int co, .ref b19, .ref b20, .ref b21, .int nca, .ref b22, .ref b23, .int ntm, .ref b24, .ref b25], aI b16 d16 60 (f16), aI b17 d17 60 (f17)] H) (hD : va_D A [oC h0 9 [.int now, .int na, .int nsi, .int nti, .int vc, .int vn, .int vt, .ref b1, .ref b2, .ref b3, .ref b4, .ref b5, .ref b6, .ref b7, .ref b8, .ref b9, .ref b10, .ref b11, .ref b12, .ref b13, .ref b14, .ref b15, .ref b16, .ref b17, .ref b18, .int ct, .int cs, .int co, .ref b19, .ref b20, .ref b21, .int nca, .ref b22, .ref b23, .int ntm, .ref b24, .ref b25], aI b16 d16 60 (f16), aI b17 d17 60 (f17)]) (hR : 0 ≤ R.frames ∧ 0 ≤ R.locals) (hcs : cells ≤ R.cells ∧ slots ≤ R.slots) (hnt : 0 ≤ (nti).toInt ∧ (nti).toInt ≤ 60) (done_50 : ∀ (k : Int32) (ls : Array Slot), (toS f16 f17 (p0).toInt (p1).toInt (nti).toInt (k).toInt) → lv_has ls 4 [(3, .int k), (0, .ref h0), (1, .int p0), (2, .int p1)] → W p l e R s m args below meth c H locs cells slots Q (F0 m 50 ls [])) (done_58 : ∀ (k : Int32) (ls : Array Slot), (toS f16 f17 (p0).toInt (p1).toInt (nti).toInt (-1)) → lv_has ls 4 [(3, .int k), (0, .ref h0), (1, .int p0), (2, .int p1)] → W p l e R s m args below meth c H locs cells slots Q (F0 m 58 ls [])) : ∀ (n : Nat), ∀ (k : Int32) (ls : Array Slot), (0 ≤ (k).toInt ∧ (k).toInt ≤ 60) → (∀ i : Nat, (i : Int) < (k).toInt → ¬ toC f16 f17 (p0).toInt (p1).toInt i) → ((60 - (k).toInt).toNat < n) → lv_has ls 4 [(3, .int k), (0, .ref h0), (1, .int p0), (2, .int p1)] → W p l e R s m args below meth c H locs cells slots Q (F0 m 2 ls []) := by
  have hin_X9 : ∀ w ∈ u_ws RX9 TX9 37, w ∈ wsX9_tieOf := fun w h => List.mem_cons_of_mem _ (List.mem_append_right _ (h))
  intro n
  induction n with
  | zero => intro k ls hk hno hmu hl; exact absurd hmu (Nat.not_lt_zero _)
  | succ n ih =>
    intro k ls hk hno hmu hl
    refine lv_iload_n hx hb dX9_tieOf_2 rfl (lv_at hl 0 rfl) ?_
    refine lv_aload_n hx hb dX9_tieOf_3 rfl (lv_at hl 1 rfl) ?_
    refine va_get (D := D) (ci := 9) (v := .int nti) (C := RX9) (T := TX9) (N := 37) hx hb hts hin_X9 hown hK hP 0 rfl rfl 3 (by decide) (hts (.fieldLink RX9 124 "CryOrderModel" "ties" "I") (List.mem_cons_of_mem _ (List.mem_append_left _ (List.mem_of_getElem? (i := 0) rfl)))) (fun _ h9 => h9) rfl dX9_tieOf_4 ?_
    refine bi_ge (zx := (k).toInt) (zy := (nti).toInt) (tgt := 58) hx hb dX9_tieOf_7 (by decide) rfl rfl (fun c_1 => ?_) (fun c_1 => ?_)
    · exact done_58 _ _ (Or.inl ⟨rfl, fun i hi => hno i (by omega)⟩) (lv_sub hl [0, 1, 2, 3] rfl)
    · refine lv_aload_n hx hb dX9_tieOf_10 rfl (lv_at hl 1 rfl) ?_
      refine va_get (D := D) (ci := 9) (v := .ref b16) (C := RX9) (T := TX9) (N := 37) hx hb hts hin_X9 hown hK hP 0 rfl rfl 22 (by decide) (hts (.fieldLink RX9 63 "CryOrderModel" "tieA" "[I") (List.mem_cons_of_mem _ (List.mem_append_left _ (List.mem_of_getElem? (i := 1) rfl)))) (fun _ h9 => h9) rfl dX9_tieOf_11 ?_
      refine lv_iload_n hx hb dX9_tieOf_14 rfl (lv_at hl 0 rfl) ?_
      refine va_iald hx hb hK hP 1 0 rfl rfl (vp_in_iff.mpr (by omega)) dX9_tieOf_15 ?_
      refine lv_topi (fun z_2 ez_2 => ?_)
      have vz_2 : (z_2).toInt = (f16 (k).toNatClampNeg).toInt := by rw [ez_2]
      refine lv_iload_n hx hb dX9_tieOf_16 rfl (lv_at hl 2 rfl) ?_
      refine bi_ne (zx := (z_2).toInt) (zy := (p0).toInt) (tgt := 30) hx hb dX9_tieOf_17 (by decide) rfl rfl (fun c_3 => ?_) (fun c_3 => ?_)
      · refine lv_aload_n hx hb dX9_tieOf_30 rfl (lv_at hl 1 rfl) ?_
        refine va_get (D := D) (ci := 9) (v := .ref b16) (C := RX9) (T := TX9) (N := 37) hx hb hts hin_X9 hown hK hP 0 rfl rfl 22 (by decide) (hts (.fieldLink RX9 63 "CryOrderModel" "tieA" "[I") (List.mem_cons_of_mem _ (List.mem_append_left _ (List.mem_of_getElem? (i := 1) rfl)))) (fun _ h9 => h9) rfl dX9_tieOf_31 ?_
        refine lv_iload_n hx hb dX9_tieOf_34 rfl (lv_at hl 0 rfl) ?_
        refine va_iald hx hb hK hP 1 0 rfl rfl (vp_in_iff.mpr (by omega)) dX9_tieOf_35 ?_
        refine lv_topi (fun z_4 ez_4 => ?_)
        have qz_4 : (z_4).toInt = (z_2).toInt := by rw [ez_4, ez_2]
        have vz_4 : (z_4).toInt = (f16 (k).toNatClampNeg).toInt := by rw [ez_4]
        refine lv_iload_n hx hb dX9_tieOf_36 rfl (lv_at hl 3 rfl) ?_
        refine bi_ne (zx := (z_4).toInt) (zy := (p1).toInt) (tgt := 52) hx hb dX9_tieOf_37 (by decide) rfl rfl (fun c_5 => ?_) (fun c_5 => ?_)
        · obtain ⟨x_6, ex_6⟩ : ∃ z : Int32, z = k + 1 := ⟨_, rfl⟩
          have tx_6 := ad_toInt (x := k) (y := 1) (z := x_6) (zx := (k).toInt) (zy := 1) ex_6 rfl (by decide)
          refine lv_iinc (v := x_6) (lv' := [(3, .int x_6), (0, .ref h0), (1, .int p0), (2, .int p1)]) hx hb dX9_tieOf_52 hl (k := 0) rfl (by rw [ex_6]; rfl) (by decide) rfl (fun ls hl => ?_)
          refine lv_goto (tgt := 2) hx hb dX9_tieOf_55 (by decide) ?_
          exact ih _ _ (by omega) (fun i hi => (show (i : Int) < (k).toInt ∨ i = (k : Int32).toNatClampNeg by have h9 := tnc_eq (i := k) (by omega); omega).elim (hno i) (fun e9 => by rw [e9]; intro h9; unfold toC at h9; omega)) (by omega) (lv_sub hl [0, 1, 2, 3] rfl)
        · refine lv_aload_n hx hb dX9_tieOf_40 rfl (lv_at hl 1 rfl) ?_
          refine va_get (D := D) (ci := 9) (v := .ref b17) (C := RX9) (T := TX9) (N := 37) hx hb hts hin_X9 hown hK hP 0 rfl rfl 23 (by decide) (hts (.fieldLink RX9 66 "CryOrderModel" "tieB" "[I") (List.mem_cons_of_mem _ (List.mem_append_left _ (List.mem_of_getElem? (i := 2) rfl)))) (fun _ h9 => h9) rfl dX9_tieOf_41 ?_
          refine lv_iload_n hx hb dX9_tieOf_44 rfl (lv_at hl 0 rfl) ?_
          refine va_iald hx hb hK hP 2 1 rfl rfl (vp_in_iff.mpr (by omega)) dX9_tieOf_45 ?_
          refine lv_topi (fun z_7 ez_7 => ?_)
          have vz_7 : (z_7).toInt = (f17 (k).toNatClampNeg).toInt := by rw [ez_7]
          refine lv_iload_n hx hb dX9_tieOf_46 rfl (lv_at hl 2 rfl) ?_
          refine bi_ne (zx := (z_7).toInt) (zy := (p0).toInt) (tgt := 52) hx hb dX9_tieOf_47 (by decide) rfl rfl (fun c_8 => ?_) (fun c_8 => ?_)
          · obtain ⟨x_9, ex_9⟩ : ∃ z : Int32, z = k + 1 := ⟨_, rfl⟩
            have tx_9 := ad_toInt (x := k) (y := 1) (z := x_9) (zx := (k).toInt) (zy := 1) ex_9 rfl (by decide)
            refine lv_iinc (v := x_9) (lv' := [(3, .int x_9), (0, .ref h0), (1, .int p0), (2, .int p1)]) hx hb dX9_tieOf_52 hl (k := 0) rfl (by rw [ex_9]; rfl) (by decide) rfl (fun ls hl => ?_)
            refine lv_goto (tgt := 2) hx hb dX9_tieOf_55 (by decide) ?_
            exact ih _ _ (by omega) (fun i hi => (show (i : Int) < (k).toInt ∨ i = (k : Int32).toNatClampNeg by have h9 := tnc_eq (i := k) (by omega); omega).elim (hno i) (fun e9 => by rw [e9]; intro h9; unfold toC at h9; omega)) (by omega) (lv_sub hl [0, 1, 2, 3] rfl)
          · exact done_50 _ _ (Or.inr ⟨by omega, (show toC f16 f17 (p0).toInt (p1).toInt (k : Int32).toNatClampNeg by unfold toC; omega), hno⟩) (lv_sub hl [0, 1, 2, 3] rfl)
      · refine lv_aload_n hx hb dX9_tieOf_20 rfl (lv_at hl 1 rfl) ?_
        refine va_get (D := D) (ci := 9) (v := .ref b17) (C := RX9) (T := TX9) (N := 37) hx hb hts hin_X9 hown hK hP 0 rfl rfl 23 (by decide) (hts (.fieldLink RX9 66 "CryOrderModel" "tieB" "[I") (List.mem_cons_of_mem _ (List.mem_append_left _ (List.mem_of_getElem? (i := 2) rfl)))) (fun _ h9 => h9) rfl dX9_tieOf_21 ?_
        refine lv_iload_n hx hb dX9_tieOf_24 rfl (lv_at hl 0 rfl) ?_
        refine va_iald hx hb hK hP 2 1 rfl rfl (vp_in_iff.mpr (by omega)) dX9_tieOf_25 ?_
        refine lv_topi (fun z_10 ez_10 => ?_)
        have vz_10 : (z_10).toInt = (f17 (k).toNatClampNeg).toInt := by rw [ez_10]
        refine lv_iload_n hx hb dX9_tieOf_26 rfl (lv_at hl 3 rfl) ?_
        refine bi_eq (zx := (z_10).toInt) (zy := (p1).toInt) (tgt := 50) hx hb dX9_tieOf_27 (by decide) rfl rfl (fun c_11 => ?_) (fun c_11 => ?_)
        · exact done_50 _ _ (Or.inr ⟨by omega, (show toC f16 f17 (p0).toInt (p1).toInt (k : Int32).toNatClampNeg by unfold toC; omega), hno⟩) (lv_sub hl [0, 1, 2, 3] rfl)
        · refine lv_aload_n hx hb dX9_tieOf_30 rfl (lv_at hl 1 rfl) ?_
          refine va_get (D := D) (ci := 9) (v := .ref b16) (C := RX9) (T := TX9) (N := 37) hx hb hts hin_X9 hown hK hP 0 rfl rfl 22 (by decide) (hts (.fieldLink RX9 63 "CryOrderModel" "tieA" "[I") (List.mem_cons_of_mem _ (List.mem_append_left _ (List.mem_of_getElem? (i := 1) rfl)))) (fun _ h9 => h9) rfl dX9_tieOf_31 ?_
          refine lv_iload_n hx hb dX9_tieOf_34 rfl (lv_at hl 0 rfl) ?_
          refine va_iald hx hb hK hP 1 0 rfl rfl (vp_in_iff.mpr (by omega)) dX9_tieOf_35 ?_
          refine lv_topi (fun z_12 ez_12 => ?_)
          have qz_12 : (z_12).toInt = (z_2).toInt := by rw [ez_12, ez_2]
          have vz_12 : (z_12).toInt = (f16 (k).toNatClampNeg).toInt := by rw [ez_12]
          refine lv_iload_n hx hb dX9_tieOf_36 rfl (lv_at hl 3 rfl) ?_
          refine bi_ne (zx := (z_12).toInt) (zy := (p1).toInt) (tgt := 52) hx hb dX9_tieOf_37 (by decide) rfl rfl (fun c_13 => ?_) (fun c_13 => ?_)
          · obtain ⟨x_14, ex_14⟩ : ∃ z : Int32, z = k + 1 := ⟨_, rfl⟩
            have tx_14 := ad_toInt (x := k) (y := 1) (z := x_14) (zx := (k).toInt) (zy := 1) ex_14 rfl (by decide)
            refine lv_iinc (v := x_14) (lv' := [(3, .int x_14), (0, .ref h0), (1, .int p0), (2, .int p1)]) hx hb dX9_tieOf_52 hl (k := 0) rfl (by rw [ex_14]; rfl) (by decide) rfl (fun ls hl => ?_)
            refine lv_goto (tgt := 2) hx hb dX9_tieOf_55 (by decide) ?_
            exact ih _ _ (by omega) (fun i hi => (show (i : Int) < (k).toInt ∨ i = (k : Int32).toNatClampNeg by have h9 := tnc_eq (i := k) (by omega); omega).elim (hno i) (fun e9 => by rw [e9]; intro h9; unfold toC at h9; omega)) (by omega) (lv_sub hl [0, 1, 2, 3] rfl)
          · refine lv_aload_n hx hb dX9_tieOf_40 rfl (lv_at hl 1 rfl) ?_
            refine va_get (D := D) (ci := 9) (v := .ref b17) (C := RX9) (T := TX9) (N := 37) hx hb hts hin_X9 hown hK hP 0 rfl rfl 23 (by decide) (hts (.fieldLink RX9 66 "CryOrderModel" "tieB" "[I") (List.mem_cons_of_mem _ (List.mem_append_left _ (List.mem_of_getElem? (i := 2) rfl)))) (fun _ h9 => h9) rfl dX9_tieOf_41 ?_
            refine lv_iload_n hx hb dX9_tieOf_44 rfl (lv_at hl 0 rfl) ?_
            refine va_iald hx hb hK hP 2 1 rfl rfl (vp_in_iff.mpr (by omega)) dX9_tieOf_45 ?_
            refine lv_topi (fun z_15 ez_15 => ?_)
            have qz_15 : (z_15).toInt = (z_10).toInt := by rw [ez_15, ez_10]
            have vz_15 : (z_15).toInt = (f17 (k).toNatClampNeg).toInt := by rw [ez_15]
            refine lv_iload_n hx hb dX9_tieOf_46 rfl (lv_at hl 2 rfl) ?_
            refine bi_ne (zx := (z_15).toInt) (zy := (p0).toInt) (tgt := 52) hx hb dX9_tieOf_47 (by decide) rfl rfl (fun c_16 => ?_) (fun c_16 => ?_)
            · obtain ⟨x_17, ex_17⟩ : ∃ z : Int32, z = k + 1 := ⟨_, rfl⟩
              have tx_17 := ad_toInt (x := k) (y := 1) (z := x_17) (zx := (k).toInt) (zy := 1) ex_17 rfl (by decide)
              refine lv_iinc (v := x_17) (lv' := [(3, .int x_17), (0, .ref h0), (1, .int p0), (2, .int p1)]) hx hb dX9_tieOf_52 hl (k := 0) rfl (by rw [ex_17]; rfl) (by decide) rfl (fun ls hl => ?_)
              refine lv_goto (tgt := 2) hx hb dX9_tieOf_55 (by decide) ?_
              exact ih _ _ (by omega) (fun i hi => (show (i : Int) < (k).toInt ∨ i = (k : Int32).toNatClampNeg by have h9 := tnc_eq (i := k) (by omega); omega).elim (hno i) (fun e9 => by rw [e9]; intro h9; unfold toC at h9; omega)) (by omega) (lv_sub hl [0, 1, 2, 3] rfl)
            · exact done_50 _ _ (Or.inr ⟨by omega, (show toC f16 f17 (p0).toInt (p1).toInt (k : Int32).toNatClampNeg by unfold toC; omega), hno⟩) (lv_sub hl [0, 1, 2, 3] rfl)
