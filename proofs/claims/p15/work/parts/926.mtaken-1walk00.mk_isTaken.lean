set_option maxHeartbeats 4000000 in
set_option maxRecDepth 100000 in
theorem mk_isTaken {p : Program} {l : Launch} {e : Env} {R : Room} {s : State} {m : MethodId} {args : Array Value} {below : List Frame} {meth : Method} {c : Code} {Q : State → Prop} {A : Nat → Prop} {cells slots : Nat} {D : va_G} {H : Heap} {locs : List Loc} {h0 : Nat} {b1 : Nat} {b2 : Nat} {b3 : Nat} {b4 : Nat} {b5 : Nat} {b6 : Nat} {b7 : Nat} {b8 : Nat} {b9 : Nat} {b10 : Nat} {b11 : Nat} {b12 : Nat} {b13 : Nat} {b14 : Nat} {b15 : Nat} {b16 : Nat} {b17 : Nat} {b18 : Nat} {b19 : Nat} {b20 : Nat} {b21 : Nat} {b22 : Nat} {b23 : Nat} {b24 : Nat} {b25 : Nat} {now : Int32} {na : Int32} {nsi : Int32} {nti : Int32} {vc : Int32} {vn : Int32} {vt : Int32} {ct : Int32} {cs : Int32} {co : Int32} {nca : Int32} {ntm : Int32} {d22 : ClassId} {f22 : Nat → Int32} {p0 : Int32} {tk : Nat → Nat} (hx : p.tables.exec = Jvm.exec) (hb : c.code = cX9_isTaken) (hts : ∀ w ∈ wsX9_isTaken, w.before args s = true) (hml : c.maxLocals = 3) (hown : s.vm.findClass RX9 = some m.cls) (hN : Nq s) (hK : va_K D vwCl [(d22, .int)] s) (hP : va_P D vwCl [oC h0 9 [.int now, .int na, .int nsi, .int nti, .int vc, .int vn, .int vt, .ref b1, .ref b2, .ref b3, .ref b4, .ref b5, .ref b6, .ref b7, .ref b8, .ref b9, .ref b10, .ref b11, .ref b12, .ref b13, .ref b14, .ref b15, .ref b16, .ref b17, .ref b18, .int ct, .int cs, .int co, .ref b19, .ref b20, .ref b21, .int nca, .ref b22, .ref b23, .int ntm, .ref b24, .ref b25], aI b22 d22 20 (f22)] H) (hD : va_D A [oC h0 9 [.int now, .int na, .int nsi, .int nti, .int vc, .int vn, .int vt, .ref b1, .ref b2, .ref b3, .ref b4, .ref b5, .ref b6, .ref b7, .ref b8, .ref b9, .ref b10, .ref b11, .ref b12, .ref b13, .ref b14, .ref b15, .ref b16, .ref b17, .ref b18, .int ct, .int cs, .int co, .ref b19, .ref b20, .ref b21, .int nca, .ref b22, .ref b23, .int ntm, .ref b24, .ref b25], aI b22 d22 20 (f22)]) (hR : 0 ≤ R.frames ∧ 0 ≤ R.locals) (hcs : cells ≤ R.cells ∧ slots ≤ R.slots) (htm : 0 ≤ (ntm).toInt ∧ (ntm).toInt ≤ 20) (hge : 0 ≤ (p0).toInt) (htk : oI f22 tk (ntm).toInt.toNat) (done_20 : ∀ (k : Int32) (ls : Array Slot), (inT tk (ntm).toInt.toNat (p0).toInt.toNat) → lv_has ls 3 [(2, .int k), (0, .ref h0), (1, .int p0)] → W p l e R s m args below meth c H locs cells slots Q (F0 m 20 ls [])) (done_28 : ∀ (k : Int32) (ls : Array Slot), (¬ inT tk (ntm).toInt.toNat (p0).toInt.toNat) → lv_has ls 3 [(2, .int k), (0, .ref h0), (1, .int p0)] → W p l e R s m args below meth c H locs cells slots Q (F0 m 28 ls [])) : ∀ (n : Nat), ∀ (k : Int32) (ls : Array Slot), (0 ≤ (k).toInt ∧ (k).toInt ≤ (ntm).toInt) → (∀ i, i < (k : Int32).toNatClampNeg → ¬ tk i = (p0).toInt.toNat) → ((20 - (k).toInt).toNat < n) → lv_has ls 3 [(2, .int k), (0, .ref h0), (1, .int p0)] → W p l e R s m args below meth c H locs cells slots Q (F0 m 2 ls []) := by
  have hin_X9 : ∀ w ∈ u_ws RX9 TX9 37, w ∈ wsX9_isTaken := fun w h => List.mem_cons_of_mem _ (List.mem_append_right _ (h))
  intro n
  induction n with
  | zero => intro k ls hk hno hmu hl; exact absurd hmu (Nat.not_lt_zero _)
  | succ n ih =>
    intro k ls hk hno hmu hl
    refine lv_iload_n hx hb dX9_isTaken_2 rfl (lv_at hl 0 rfl) ?_
    refine lv_aload_n hx hb dX9_isTaken_3 rfl (lv_at hl 1 rfl) ?_
    refine va_get (D := D) (ci := 9) (v := .int ntm) (C := RX9) (T := TX9) (N := 37) hx hb hts hin_X9 hown hK hP 0 rfl rfl 34 (by decide) (hts (.fieldLink RX9 183 "CryOrderModel" "takenMany" "I") (List.mem_cons_of_mem _ (List.mem_append_left _ (List.mem_of_getElem? (i := 0) rfl)))) (fun _ h9 => h9) rfl dX9_isTaken_4 ?_
    refine bi_ge (zx := (k).toInt) (zy := (ntm).toInt) (tgt := 28) hx hb dX9_isTaken_7 (by decide) rfl rfl (fun c_1 => ?_) (fun c_1 => ?_)
    · exact done_28 _ _ (fun ⟨i, q1, q2⟩ => hno i (by have h9 := tnc_eq (i := k) (by omega); omega) q2) (lv_sub hl [0, 1, 2] rfl)
    · refine lv_aload_n hx hb dX9_isTaken_10 rfl (lv_at hl 1 rfl) ?_
      refine va_get (D := D) (ci := 9) (v := .ref b22) (C := RX9) (T := TX9) (N := 37) hx hb hts hin_X9 hown hK hP 0 rfl rfl 32 (by decide) (hts (.fieldLink RX9 81 "CryOrderModel" "taken" "[I") (List.mem_cons_of_mem _ (List.mem_append_left _ (List.mem_of_getElem? (i := 1) rfl)))) (fun _ h9 => h9) rfl dX9_isTaken_11 ?_
      refine lv_iload_n hx hb dX9_isTaken_14 rfl (lv_at hl 0 rfl) ?_
      refine va_iald hx hb hK hP 1 0 rfl rfl (vp_in_iff.mpr (by omega)) dX9_isTaken_15 ?_
      refine lv_topi (fun z_2 ez_2 => ?_)
      have hqk := tnc_eq (i := k) (by omega)
      have vz_2 : (z_2).toInt = (tk (k : Int32).toNatClampNeg : Int) := by rw [ez_2]; exact htk (k : Int32).toNatClampNeg (by omega)
      refine lv_iload_n hx hb dX9_isTaken_16 rfl (lv_at hl 2 rfl) ?_
      refine bi_ne (zx := (z_2).toInt) (zy := (p0).toInt) (tgt := 22) hx hb dX9_isTaken_17 (by decide) rfl rfl (fun c_3 => ?_) (fun c_3 => ?_)
      · obtain ⟨x_4, ex_4⟩ : ∃ z : Int32, z = k + 1 := ⟨_, rfl⟩
        have tx_4 := ad_toInt (x := k) (y := 1) (z := x_4) (zx := (k).toInt) (zy := 1) ex_4 rfl (by decide)
        refine lv_iinc (v := x_4) (lv' := [(2, .int x_4), (0, .ref h0), (1, .int p0)]) hx hb dX9_isTaken_22 hl (k := 0) rfl (by rw [ex_4]; rfl) (by decide) rfl (fun ls hl => ?_)
        refine lv_goto (tgt := 2) hx hb dX9_isTaken_25 (by decide) ?_
        exact ih _ _ (by omega) (by rw [show (x_4 : Int32).toNatClampNeg = (k : Int32).toNatClampNeg + 1 by have h8 := tnc_eq (i := x_4) (by omega); omega]; intro i hi; rcases Nat.lt_or_eq_of_le (Nat.le_of_lt_succ hi) with q8 | q8; (exact hno i q8); (rw [q8]; exact fun q9 => by omega)) (by omega) (lv_sub hl [0, 1, 2] rfl)
      · exact done_20 _ _ ⟨(k : Int32).toNatClampNeg, by omega, by omega⟩ (lv_sub hl [0, 1, 2] rfl)
