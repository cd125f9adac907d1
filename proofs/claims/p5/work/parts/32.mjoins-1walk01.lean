set_option maxHeartbeats 4000000 in
set_option maxRecDepth 100000 in
theorem ml_joinsD {p : Program} {l : Launch} {e : Env} {R : Room} {s : State} {m : MethodId} {args : Array Value} {below : List Frame} {meth : Method} {c : Code} {Q : State → Prop} {A : Nat → Prop} {cells slots : Nat} {D : va_G} {H0 : Heap} {h0 : Nat} {b1 : Nat} {b2 : Nat} {b3 : Nat} {b4 : Nat} {b5 : Nat} {b6 : Nat} {b7 : Nat} {b8 : Nat} {b9 : Nat} {b10 : Nat} {b11 : Nat} {b12 : Nat} {b13 : Nat} {b14 : Nat} {b15 : Nat} {b16 : Nat} {b17 : Nat} {b18 : Nat} {b19 : Nat} {b20 : Nat} {b21 : Nat} {b22 : Nat} {b23 : Nat} {b24 : Nat} {b25 : Nat} {now : Int32} {na : Int32} {nsi : Int32} {nti : Int32} {vc : Int32} {vn : Int32} {vt : Int32} {nca : Int32} {ntm : Int32} {d8 : ClassId} {d11 : ClassId} {d12 : ClassId} {d5 : ClassId} {d6 : ClassId} {d19 : ClassId} {d20 : ClassId} {d21 : ClassId} {d16 : ClassId} {d17 : ClassId} {d18 : ClassId} {d4 : ClassId} {d1 : ClassId} {f8 : Nat → Int32} {f11 : Nat → Int32} {f12 : Nat → Int32} {f5 : Nat → Int32} {f6 : Nat → Int32} {f20 : Nat → Int32} {f21 : Nat → Int32} {f16 : Nat → Int32} {f17 : Nat → Int32} {f18 : Nat → Int32} {f4 : Nat → Int32} {f1 : Nat → Int32} {x1 : Int32} {x2 : Int32} {x3 : Int32} {hi : Int32} {lo : Int32} {bb : Int32} {aa : Int32} (hx : p.tables.exec = Jvm.exec) (hb : c.code = cX9_joins) (hts : ∀ w ∈ wsX9_joins, w.before args s = true) (hml : c.maxLocals = 6) (hown : s.vm.findClass RX9 = some m.cls) (hN : Nq s) (hK : va_K D vwCl [(d8, .int), (d11, .boolean), (d12, .boolean), (d5, .int), (d6, .int), (d19, .int), (d20, .int), (d21, .int), (d16, .int), (d17, .int), (d18, .boolean), (d4, .int), (d1, .int)] s) (hA : ∀ q : Nat, H0.size ≤ q → A q) (hR : 0 ≤ R.frames ∧ 0 ≤ R.locals) (hcs : cells ≤ R.cells ∧ slots ≤ R.slots) (hna : 0 ≤ (na).toInt ∧ (na).toInt ≤ 200) (done_198 : ∀ (g19 : Nat → Int32) (H : Heap) (locs : List Loc) (ls : Array Slot), va_P D vwCl [oC h0 9 [.int now, .int na, .int nsi, .int nti, .int vc, .int vn, .int vt, .ref b1, .ref b2, .ref b3, .ref b4, .ref b5, .ref b6, .ref b7, .ref b8, .ref b9, .ref b10, .ref b11, .ref b12, .ref b13, .ref b14, .ref b15, .ref b16, .ref b17, .ref b18, .int x1, .int x2, .int x3, .ref b19, .ref b20, .ref b21, .int nca, .ref b22, .ref b23, .int ntm, .ref b24, .ref b25], aI b8 d8 200 (f8), aI b11 d11 200 (f11), aI b12 d12 200 (f12), aI b5 d5 200 (f5), aI b6 d6 200 (f6), aI b19 d19 200 (g19), aI b20 d20 200 (f20), aI b21 d21 200 (f21), aI b16 d16 60 (f16), aI b17 d17 60 (f17), aI b18 d18 60 (f18), aI b4 d4 200 (f4), aI b1 d1 200 (f1)] H → va_D A [oC h0 9 [.int now, .int na, .int nsi, .int nti, .int vc, .int vn, .int vt, .ref b1, .ref b2, .ref b3, .ref b4, .ref b5, .ref b6, .ref b7, .ref b8, .ref b9, .ref b10, .ref b11, .ref b12, .ref b13, .ref b14, .ref b15, .ref b16, .ref b17, .ref b18, .int x1, .int x2, .int x3, .ref b19, .ref b20, .ref b21, .int nca, .ref b22, .ref b23, .int ntm, .ref b24, .ref b25], aI b8 d8 200 (f8), aI b11 d11 200 (f11), aI b12 d12 200 (f12), aI b5 d5 200 (f5), aI b6 d6 200 (f6), aI b19 d19 200 (g19), aI b20 d20 200 (f20), aI b21 d21 200 (f21), aI b16 d16 60 (f16), aI b17 d17 60 (f17), aI b18 d18 60 (f18), aI b4 d4 200 (f4), aI b1 d1 200 (f1)] → va_S A H0 H locs → lv_has ls 6 [(2, .int bb), (1, .int aa), (0, .ref h0)] → W p l e R s m args below meth c H locs cells slots Q (F0 m 198 ls [])) : ∀ (n : Nat), ∀ (k : Int32) (g19 : Nat → Int32) (H : Heap) (locs : List Loc) (ls : Array Slot), (0 ≤ (k).toInt) → ((200 - (k).toInt).toNat < n) → va_P D vwCl [oC h0 9 [.int now, .int na, .int nsi, .int nti, .int vc, .int vn, .int vt, .ref b1, .ref b2, .ref b3, .ref b4, .ref b5, .ref b6, .ref b7, .ref b8, .ref b9, .ref b10, .ref b11, .ref b12, .ref b13, .ref b14, .ref b15, .ref b16, .ref b17, .ref b18, .int x1, .int x2, .int x3, .ref b19, .ref b20, .ref b21, .int nca, .ref b22, .ref b23, .int ntm, .ref b24, .ref b25], aI b8 d8 200 (f8), aI b11 d11 200 (f11), aI b12 d12 200 (f12), aI b5 d5 200 (f5), aI b6 d6 200 (f6), aI b19 d19 200 (g19), aI b20 d20 200 (f20), aI b21 d21 200 (f21), aI b16 d16 60 (f16), aI b17 d17 60 (f17), aI b18 d18 60 (f18), aI b4 d4 200 (f4), aI b1 d1 200 (f1)] H → va_D A [oC h0 9 [.int now, .int na, .int nsi, .int nti, .int vc, .int vn, .int vt, .ref b1, .ref b2, .ref b3, .ref b4, .ref b5, .ref b6, .ref b7, .ref b8, .ref b9, .ref b10, .ref b11, .ref b12, .ref b13, .ref b14, .ref b15, .ref b16, .ref b17, .ref b18, .int x1, .int x2, .int x3, .ref b19, .ref b20, .ref b21, .int nca, .ref b22, .ref b23, .int ntm, .ref b24, .ref b25], aI b8 d8 200 (f8), aI b11 d11 200 (f11), aI b12 d12 200 (f12), aI b5 d5 200 (f5), aI b6 d6 200 (f6), aI b19 d19 200 (g19), aI b20 d20 200 (f20), aI b21 d21 200 (f21), aI b16 d16 60 (f16), aI b17 d17 60 (f17), aI b18 d18 60 (f18), aI b4 d4 200 (f4), aI b1 d1 200 (f1)] → va_S A H0 H locs → lv_has ls 6 [(5, .int k), (4, .int hi), (3, .int lo), (2, .int bb), (1, .int aa), (0, .ref h0)] → W p l e R s m args below meth c H locs cells slots Q (F0 m 163 ls []) := by
  have hin_X9 : ∀ w ∈ u_ws RX9 TX9 37, w ∈ wsX9_joins := fun w h => List.mem_cons_of_mem _ (List.mem_append_right _ (h))
  intro n
  induction n with
  | zero => intro k g19 H locs ls hk hmu hP hD hS hl; exact absurd hmu (Nat.not_lt_zero _)
  | succ n ih =>
    intro k g19 H locs ls hk hmu hP hD hS hl
    refine lv_iload hx hb dX9_joins_163 (lv_at hl 0 rfl) ?_
    refine lv_aload_n hx hb dX9_joins_165 rfl (lv_at hl 5 rfl) ?_
    refine va_get (D := D) (ci := 9) (v := .int na) (C := RX9) (T := TX9) (N := 37) hx hb hts hin_X9 hown hK hP 0 rfl rfl 1 (by decide) (hts (.fieldLink RX9 93 "CryOrderModel" "alarms" "I") (List.mem_cons_of_mem _ (List.mem_append_left _ (List.mem_append_left _ (List.mem_of_getElem? (i := 0) rfl))))) (fun _ h9 => h9) rfl dX9_joins_166 ?_
    refine bi_ge (zx := (k).toInt) (zy := (na).toInt) (tgt := 198) hx hb dX9_joins_169 (by decide) rfl rfl (fun c_1 => ?_) (fun c_1 => ?_)
    · exact done_198 _ _ _ _  hP hD hS (lv_sub hl [3, 4, 5] rfl)
    · refine lv_aload_n hx hb dX9_joins_172 rfl (lv_at hl 5 rfl) ?_
      refine va_get (D := D) (ci := 9) (v := .ref b19) (C := RX9) (T := TX9) (N := 37) hx hb hts hin_X9 hown hK hP 0 rfl rfl 28 (by decide) (hts (.fieldLink RX9 72 "CryOrderModel" "caseNumber" "[I") (List.mem_cons_of_mem _ (List.mem_append_left _ (List.mem_append_left _ (List.mem_of_getElem? (i := 1) rfl))))) (fun _ h9 => h9) rfl dX9_joins_173 ?_
      refine lv_iload hx hb dX9_joins_176 (lv_at hl 0 rfl) ?_
      refine va_iald hx hb hK hP 6 5 rfl rfl (vp_in_iff.mpr (by omega)) dX9_joins_178 ?_
      refine lv_topi (fun z_2 ez_2 => ?_)
      refine lv_iload hx hb dX9_joins_179 (lv_at hl 1 rfl) ?_
      refine bi_ne (zx := (z_2).toInt) (zy := (hi).toInt) (tgt := 192) hx hb dX9_joins_181 (by decide) rfl rfl (fun c_3 => ?_) (fun c_3 => ?_)
      · obtain ⟨x_4, ex_4⟩ : ∃ z : Int32, z = k + 1 := ⟨_, rfl⟩
        have tx_4 := ad_toInt (x := k) (y := 1) (z := x_4) (zx := (k).toInt) (zy := 1) ex_4 rfl (by decide)
        refine lv_iinc (v := x_4) (lv' := [(5, .int x_4), (4, .int hi), (3, .int lo), (2, .int bb), (1, .int aa), (0, .ref h0)]) hx hb dX9_joins_192 hl (k := 0) rfl (by rw [ex_4]; rfl) (by decide) rfl (fun ls hl => ?_)
        refine lv_goto (tgt := 163) hx hb dX9_joins_195 (by decide) ?_
        exact ih _ _ _ _ _ (by first | omega | assumption) (by omega) hP hD hS (lv_sub hl [0, 1, 2, 3, 4, 5] rfl)
      · refine lv_aload_n hx hb dX9_joins_184 rfl (lv_at hl 5 rfl) ?_
        refine va_get (D := D) (ci := 9) (v := .ref b19) (C := RX9) (T := TX9) (N := 37) hx hb hts hin_X9 hown hK hP 0 rfl rfl 28 (by decide) (hts (.fieldLink RX9 72 "CryOrderModel" "caseNumber" "[I") (List.mem_cons_of_mem _ (List.mem_append_left _ (List.mem_append_left _ (List.mem_of_getElem? (i := 1) rfl))))) (fun _ h9 => h9) rfl dX9_joins_185 ?_
        refine lv_iload hx hb dX9_joins_188 (lv_at hl 0 rfl) ?_
        refine lv_iload_n hx hb dX9_joins_190 rfl (lv_at hl 2 rfl) ?_
        refine va_iast hx hb hK hP hD hS 6 5 rfl rfl (vp_in_iff.mpr (by omega)) dX9_joins_191 (fun H_5 locs hP hD hS => ?_)
        obtain ⟨g_6, eg_6⟩ : ∃ g : Nat → Int32, g = upd (g19) (k : Int32).toNatClampNeg (lo) := ⟨_, rfl⟩
        have hP : va_P D vwCl [oC h0 9 [.int now, .int na, .int nsi, .int nti, .int vc, .int vn, .int vt, .ref b1, .ref b2, .ref b3, .ref b4, .ref b5, .ref b6, .ref b7, .ref b8, .ref b9, .ref b10, .ref b11, .ref b12, .ref b13, .ref b14, .ref b15, .ref b16, .ref b17, .ref b18, .int x1, .int x2, .int x3, .ref b19, .ref b20, .ref b21, .int nca, .ref b22, .ref b23, .int ntm, .ref b24, .ref b25], aI b8 d8 200 (f8), aI b11 d11 200 (f11), aI b12 d12 200 (f12), aI b5 d5 200 (f5), aI b6 d6 200 (f6), aI b19 d19 200 (g_6), aI b20 d20 200 (f20), aI b21 d21 200 (f21), aI b16 d16 60 (f16), aI b17 d17 60 (f17), aI b18 d18 60 (f18), aI b4 d4 200 (f4), aI b1 d1 200 (f1)] H_5 := by rw [eg_6]; exact hP
        have hD : va_D A [oC h0 9 [.int now, .int na, .int nsi, .int nti, .int vc, .int vn, .int vt, .ref b1, .ref b2, .ref b3, .ref b4, .ref b5, .ref b6, .ref b7, .ref b8, .ref b9, .ref b10, .ref b11, .ref b12, .ref b13, .ref b14, .ref b15, .ref b16, .ref b17, .ref b18, .int x1, .int x2, .int x3, .ref b19, .ref b20, .ref b21, .int nca, .ref b22, .ref b23, .int ntm, .ref b24, .ref b25], aI b8 d8 200 (f8), aI b11 d11 200 (f11), aI b12 d12 200 (f12), aI b5 d5 200 (f5), aI b6 d6 200 (f6), aI b19 d19 200 (g_6), aI b20 d20 200 (f20), aI b21 d21 200 (f21), aI b16 d16 60 (f16), aI b17 d17 60 (f17), aI b18 d18 60 (f18), aI b4 d4 200 (f4), aI b1 d1 200 (f1)] := by rw [eg_6]; exact hD
        obtain ⟨x_7, ex_7⟩ : ∃ z : Int32, z = k + 1 := ⟨_, rfl⟩
        have tx_7 := ad_toInt (x := k) (y := 1) (z := x_7) (zx := (k).toInt) (zy := 1) ex_7 rfl (by decide)
        refine lv_iinc (v := x_7) (lv' := [(5, .int x_7), (4, .int hi), (3, .int lo), (2, .int bb), (1, .int aa), (0, .ref h0)]) hx hb dX9_joins_192 hl (k := 0) rfl (by rw [ex_7]; rfl) (by decide) rfl (fun ls hl => ?_)
        refine lv_goto (tgt := 163) hx hb dX9_joins_195 (by decide) ?_
        exact ih _ _ _ _ _ (by first | omega | assumption) (by omega) hP hD hS (lv_sub hl [0, 1, 2, 3, 4, 5] rfl)

set_option maxHeartbeats 4000000 in
set_option maxRecDepth 100000 in
theorem ml_joinsC {p : Program} {l : Launch} {e : Env} {R : Room} {s : State} {m : MethodId} {args : Array Value} {below : List Frame} {meth : Method} {c : Code} {Q : State → Prop} {A : Nat → Prop} {cells slots : Nat} {D : va_G} {H0 : Heap} {h0 : Nat} {b1 : Nat} {b2 : Nat} {b3 : Nat} {b4 : Nat} {b5 : Nat} {b6 : Nat} {b7 : Nat} {b8 : Nat} {b9 : Nat} {b10 : Nat} {b11 : Nat} {b12 : Nat} {b13 : Nat} {b14 : Nat} {b15 : Nat} {b16 : Nat} {b17 : Nat} {b18 : Nat} {b19 : Nat} {b20 : Nat} {b21 : Nat} {b22 : Nat} {b23 : Nat} {b24 : Nat} {b25 : Nat} {now : Int32} {na : Int32} {nsi : Int32} {nti : Int32} {vc : Int32} {vn : Int32} {vt : Int32} {nca : Int32} {ntm : Int32} {d8 : ClassId} {d11 : ClassId} {d12 : ClassId} {d5 : ClassId} {d6 : ClassId} {d19 : ClassId} {d20 : ClassId} {d21 : ClassId} {d16 : ClassId} {d17 : ClassId} {d18 : ClassId} {d4 : ClassId} {d1 : ClassId} {f8 : Nat → Int32} {f11 : Nat → Int32} {f12 : Nat → Int32} {f5 : Nat → Int32} {f6 : Nat → Int32} {f20 : Nat → Int32} {f21 : Nat → Int32} {f16 : Nat → Int32} {f17 : Nat → Int32} {f18 : Nat → Int32} {f4 : Nat → Int32} {f1 : Nat → Int32} {x1 : Int32} {x2 : Int32} {x3 : Int32} {aa : Int32} (hx : p.tables.exec = Jvm.exec) (hb : c.code = cX9_joins) (hts : ∀ w ∈ wsX9_joins, w.before args s = true) (hml : c.maxLocals = 6) (hown : s.vm.findClass RX9 = some m.cls) (hN : Nq s) (hK : va_K D vwCl [(d8, .int), (d11, .boolean), (d12, .boolean), (d5, .int), (d6, .int), (d19, .int), (d20, .int), (d21, .int), (d16, .int), (d17, .int), (d18, .boolean), (d4, .int), (d1, .int)] s) (hA : ∀ q : Nat, H0.size ≤ q → A q) (hR : 2 ≤ R.frames ∧ 46 ≤ R.locals) (hcs : cells ≤ R.cells ∧ slots ≤ R.slots) (hna : 0 ≤ (na).toInt ∧ (na).toInt ≤ 200) (hnt : 0 ≤ (nti).toInt ∧ (nti).toInt ≤ 60) (hzb : ∀ k : Nat, f18 k = 0 ∨ f18 k = 1) (haa : 0 ≤ (aa).toInt ∧ (aa).toInt < 200) (done_204 : ∀ (g19 : Nat → Int32) (H : Heap) (locs : List Loc) (ls : Array Slot), va_P D vwCl [oC h0 9 [.int now, .int na, .int nsi, .int nti, .int vc, .int vn, .int vt, .ref b1, .ref b2, .ref b3, .ref b4, .ref b5, .ref b6, .ref b7, .ref b8, .ref b9, .ref b10, .ref b11, .ref b12, .ref b13, .ref b14, .ref b15, .ref b16, .ref b17, .ref b18, .int x1, .int x2, .int x3, .ref b19, .ref b20, .ref b21, .int nca, .ref b22, .ref b23, .int ntm, .ref b24, .ref b25], aI b8 d8 200 (f8), aI b11 d11 200 (f11), aI b12 d12 200 (f12), aI b5 d5 200 (f5), aI b6 d6 200 (f6), aI b19 d19 200 (g19), aI b20 d20 200 (f20), aI b21 d21 200 (f21), aI b16 d16 60 (f16), aI b17 d17 60 (f17), aI b18 d18 60 (f18), aI b4 d4 200 (f4), aI b1 d1 200 (f1)] H → va_D A [oC h0 9 [.int now, .int na, .int nsi, .int nti, .int vc, .int vn, .int vt, .ref b1, .ref b2, .ref b3, .ref b4, .ref b5, .ref b6, .ref b7, .ref b8, .ref b9, .ref b10, .ref b11, .ref b12, .ref b13, .ref b14, .ref b15, .ref b16, .ref b17, .ref b18, .int x1, .int x2, .int x3, .ref b19, .ref b20, .ref b21, .int nca, .ref b22, .ref b23, .int ntm, .ref b24, .ref b25], aI b8 d8 200 (f8), aI b11 d11 200 (f11), aI b12 d12 200 (f12), aI b5 d5 200 (f5), aI b6 d6 200 (f6), aI b19 d19 200 (g19), aI b20 d20 200 (f20), aI b21 d21 200 (f21), aI b16 d16 60 (f16), aI b17 d17 60 (f17), aI b18 d18 60 (f18), aI b4 d4 200 (f4), aI b1 d1 200 (f1)] → va_S A H0 H locs → lv_has ls 6 [(1, .int aa), (0, .ref h0)] → W p l e R s m args below meth c H locs cells slots Q (F0 m 204 ls [])) : ∀ (n : Nat), ∀ (bb : Int32) (g19 : Nat → Int32) (H : Heap) (locs : List Loc) (ls : Array Slot), (0 ≤ (bb).toInt) → ((200 - (bb).toInt).toNat < n) → va_P D vwCl [oC h0 9 [.int now, .int na, .int nsi, .int nti, .int vc, .int vn, .int vt, .ref b1, .ref b2, .ref b3, .ref b4, .ref b5, .ref b6, .ref b7, .ref b8, .ref b9, .ref b10, .ref b11, .ref b12, .ref b13, .ref b14, .ref b15, .ref b16, .ref b17, .ref b18, .int x1, .int x2, .int x3, .ref b19, .ref b20, .ref b21, .int nca, .ref b22, .ref b23, .int ntm, .ref b24, .ref b25], aI b8 d8 200 (f8), aI b11 d11 200 (f11), aI b12 d12 200 (f12), aI b5 d5 200 (f5), aI b6 d6 200 (f6), aI b19 d19 200 (g19), aI b20 d20 200 (f20), aI b21 d21 200 (f21), aI b16 d16 60 (f16), aI b17 d17 60 (f17), aI b18 d18 60 (f18), aI b4 d4 200 (f4), aI b1 d1 200 (f1)] H → va_D A [oC h0 9 [.int now, .int na, .int nsi, .int nti, .int vc, .int vn, .int vt, .ref b1, .ref b2, .ref b3, .ref b4, .ref b5, .ref b6, .ref b7, .ref b8, .ref b9, .ref b10, .ref b11, .ref b12, .ref b13, .ref b14, .ref b15, .ref b16, .ref b17, .ref b18, .int x1, .int x2, .int x3, .ref b19, .ref b20, .ref b21, .int nca, .ref b22, .ref b23, .int ntm, .ref b24, .ref b25], aI b8 d8 200 (f8), aI b11 d11 200 (f11), aI b12 d12 200 (f12), aI b5 d5 200 (f5), aI b6 d6 200 (f6), aI b19 d19 200 (g19), aI b20 d20 200 (f20), aI b21 d21 200 (f21), aI b16 d16 60 (f16), aI b17 d17 60 (f17), aI b18 d18 60 (f18), aI b4 d4 200 (f4), aI b1 d1 200 (f1)] → va_S A H0 H locs → lv_has ls 6 [(2, .int bb), (1, .int aa), (0, .ref h0)] → W p l e R s m args below meth c H locs cells slots Q (F0 m 72 ls []) := by
  have hin_X9 : ∀ w ∈ u_ws RX9 TX9 37, w ∈ wsX9_joins := fun w h => List.mem_cons_of_mem _ (List.mem_append_right _ (h))
  intro n
  induction n with
  | zero => intro bb g19 H locs ls hbb hmu hP hD hS hl; exact absurd hmu (Nat.not_lt_zero _)
  | succ n ih =>
    intro bb g19 H locs ls hbb hmu hP hD hS hl
    refine lv_iload_n hx hb dX9_joins_72 rfl (lv_at hl 0 rfl) ?_
    refine lv_aload_n hx hb dX9_joins_73 rfl (lv_at hl 2 rfl) ?_
    refine va_get (D := D) (ci := 9) (v := .int na) (C := RX9) (T := TX9) (N := 37) hx hb hts hin_X9 hown hK hP 0 rfl rfl 1 (by decide) (hts (.fieldLink RX9 93 "CryOrderModel" "alarms" "I") (List.mem_cons_of_mem _ (List.mem_append_left _ (List.mem_append_left _ (List.mem_of_getElem? (i := 0) rfl))))) (fun _ h9 => h9) rfl dX9_joins_74 ?_
    refine bi_ge (zx := (bb).toInt) (zy := (na).toInt) (tgt := 204) hx hb dX9_joins_77 (by decide) rfl rfl (fun c_1 => ?_) (fun c_1 => ?_)
    · exact done_204 _ _ _ _  hP hD hS (lv_sub hl [1, 2] rfl)
    · refine lv_aload_n hx hb dX9_joins_80 rfl (lv_at hl 2 rfl) ?_
      refine va_get (D := D) (ci := 9) (v := .ref b19) (C := RX9) (T := TX9) (N := 37) hx hb hts hin_X9 hown hK hP 0 rfl rfl 28 (by decide) (hts (.fieldLink RX9 72 "CryOrderModel" "caseNumber" "[I") (List.mem_cons_of_mem _ (List.mem_append_left _ (List.mem_append_left _ (List.mem_of_getElem? (i := 1) rfl))))) (fun _ h9 => h9) rfl dX9_joins_81 ?_
      refine lv_iload_n hx hb dX9_joins_84 rfl (lv_at hl 1 rfl) ?_
      refine va_iald hx hb hK hP 6 5 rfl rfl (vp_in_iff.mpr (by omega)) dX9_joins_85 ?_
      refine lv_topi (fun z_2 ez_2 => ?_)
      refine lv_iconst (v := (-1)) hx hb dX9_joins_86 (by decide) ?_
      refine bi_eq (zx := (z_2).toInt) (zy := (-1)) (tgt := 198) hx hb dX9_joins_87 (by decide) rfl (by decide) (fun c_3 => ?_) (fun c_3 => ?_)
      · obtain ⟨x_4, ex_4⟩ : ∃ z : Int32, z = bb + 1 := ⟨_, rfl⟩
        have tx_4 := ad_toInt (x := bb) (y := 1) (z := x_4) (zx := (bb).toInt) (zy := 1) ex_4 rfl (by decide)
        refine lv_iinc (v := x_4) (lv' := [(2, .int x_4), (1, .int aa), (0, .ref h0)]) hx hb dX9_joins_198 hl (k := 0) rfl (by rw [ex_4]; rfl) (by decide) rfl (fun ls hl => ?_)
        refine lv_goto (tgt := 72) hx hb dX9_joins_201 (by decide) ?_
        exact ih _ _ _ _ _ (by first | omega | assumption) (by omega) hP hD hS (lv_sub hl [0, 1, 2] rfl)
      · refine lv_aload_n hx hb dX9_joins_90 rfl (lv_at hl 2 rfl) ?_
        refine va_get (D := D) (ci := 9) (v := .ref b19) (C := RX9) (T := TX9) (N := 37) hx hb hts hin_X9 hown hK hP 0 rfl rfl 28 (by decide) (hts (.fieldLink RX9 72 "CryOrderModel" "caseNumber" "[I") (List.mem_cons_of_mem _ (List.mem_append_left _ (List.mem_append_left _ (List.mem_of_getElem? (i := 1) rfl))))) (fun _ h9 => h9) rfl dX9_joins_91 ?_
        refine lv_iload_n hx hb dX9_joins_94 rfl (lv_at hl 0 rfl) ?_
        refine va_iald hx hb hK hP 6 5 rfl rfl (vp_in_iff.mpr (by omega)) dX9_joins_95 ?_
        refine lv_topi (fun z_5 ez_5 => ?_)
        refine lv_iconst (v := (-1)) hx hb dX9_joins_96 (by decide) ?_
        refine bi_eq (zx := (z_5).toInt) (zy := (-1)) (tgt := 198) hx hb dX9_joins_97 (by decide) rfl (by decide) (fun c_6 => ?_) (fun c_6 => ?_)
        · obtain ⟨x_7, ex_7⟩ : ∃ z : Int32, z = bb + 1 := ⟨_, rfl⟩
          have tx_7 := ad_toInt (x := bb) (y := 1) (z := x_7) (zx := (bb).toInt) (zy := 1) ex_7 rfl (by decide)
          refine lv_iinc (v := x_7) (lv' := [(2, .int x_7), (1, .int aa), (0, .ref h0)]) hx hb dX9_joins_198 hl (k := 0) rfl (by rw [ex_7]; rfl) (by decide) rfl (fun ls hl => ?_)
          refine lv_goto (tgt := 72) hx hb dX9_joins_201 (by decide) ?_
          exact ih _ _ _ _ _ (by first | omega | assumption) (by omega) hP hD hS (lv_sub hl [0, 1, 2] rfl)
        · refine lv_aload_n hx hb dX9_joins_100 rfl (lv_at hl 2 rfl) ?_
          refine va_get (D := D) (ci := 9) (v := .ref b19) (C := RX9) (T := TX9) (N := 37) hx hb hts hin_X9 hown hK hP 0 rfl rfl 28 (by decide) (hts (.fieldLink RX9 72 "CryOrderModel" "caseNumber" "[I") (List.mem_cons_of_mem _ (List.mem_append_left _ (List.mem_append_left _ (List.mem_of_getElem? (i := 1) rfl))))) (fun _ h9 => h9) rfl dX9_joins_101 ?_
          refine lv_iload_n hx hb dX9_joins_104 rfl (lv_at hl 1 rfl) ?_
          refine va_iald hx hb hK hP 6 5 rfl rfl (vp_in_iff.mpr (by omega)) dX9_joins_105 ?_
          refine lv_topi (fun z_8 ez_8 => ?_)
          have qz_8 : (z_8).toInt = (z_2).toInt := by rw [ez_8, ez_2]
          refine lv_aload_n hx hb dX9_joins_106 rfl (lv_at hl 2 rfl) ?_
          refine va_get (D := D) (ci := 9) (v := .ref b19) (C := RX9) (T := TX9) (N := 37) hx hb hts hin_X9 hown hK hP 0 rfl rfl 28 (by decide) (hts (.fieldLink RX9 72 "CryOrderModel" "caseNumber" "[I") (List.mem_cons_of_mem _ (List.mem_append_left _ (List.mem_append_left _ (List.mem_of_getElem? (i := 1) rfl))))) (fun _ h9 => h9) rfl dX9_joins_107 ?_
          refine lv_iload_n hx hb dX9_joins_110 rfl (lv_at hl 0 rfl) ?_
          refine va_iald hx hb hK hP 6 5 rfl rfl (vp_in_iff.mpr (by omega)) dX9_joins_111 ?_
          refine lv_topi (fun z_9 ez_9 => ?_)
          have qz_9 : (z_9).toInt = (z_5).toInt := by rw [ez_9, ez_5]
          refine bi_eq (zx := (z_8).toInt) (zy := (z_9).toInt) (tgt := 198) hx hb dX9_joins_112 (by decide) rfl rfl (fun c_10 => ?_) (fun c_10 => ?_)
          · obtain ⟨x_11, ex_11⟩ : ∃ z : Int32, z = bb + 1 := ⟨_, rfl⟩
            have tx_11 := ad_toInt (x := bb) (y := 1) (z := x_11) (zx := (bb).toInt) (zy := 1) ex_11 rfl (by decide)
            refine lv_iinc (v := x_11) (lv' := [(2, .int x_11), (1, .int aa), (0, .ref h0)]) hx hb dX9_joins_198 hl (k := 0) rfl (by rw [ex_11]; rfl) (by decide) rfl (fun ls hl => ?_)
            refine lv_goto (tgt := 72) hx hb dX9_joins_201 (by decide) ?_
            exact ih _ _ _ _ _ (by first | omega | assumption) (by omega) hP hD hS (lv_sub hl [0, 1, 2] rfl)
          · refine lv_aload_n hx hb dX9_joins_115 rfl (lv_at hl 2 rfl) ?_
            refine lv_iload_n hx hb dX9_joins_116 rfl (lv_at hl 1 rfl) ?_
            refine lv_iload_n hx hb dX9_joins_117 rfl (lv_at hl 0 rfl) ?_
            refine vp_callSi (zrV (As := [.int aa, .int bb]) (rest := []) (wc := [oC h0 9 [.int now, .int na, .int nsi, .int nti, .int vc, .int vn, .int vt, .ref b1, .ref b2, .ref b3, .ref b4, .ref b5, .ref b6, .ref b7, .ref b8, .ref b9, .ref b10, .ref b11, .ref b12, .ref b13, .ref b14, .ref b15, .ref b16, .ref b17, .ref b18, .int x1, .int x2, .int x3, .ref b19, .ref b20, .ref b21, .int nca, .ref b22, .ref b23, .int ntm, .ref b24, .ref b25], aI b16 d16 60 (f16), aI b17 d17 60 (f17), aI b18 d18 60 (f18), aI b4 d4 200 (f4), aI b1 d1 200 (f1)]) ⟨hx, hb, hml, hown, hts⟩ hN hK hP hD (m_hangs l D h0 b1 b2 b3 b4 b5 b6 b7 b8 b9 b10 b11 b12 b13 b14 b15 b16 b17 b18 b19 b20 b21 b22 b23 b24 b25 now na nsi nti vc vn vt x1 x2 x3 nca ntm d16 d17 d18 d4 d1 ((f16)) ((f17)) ((f18)) ((f4)) ((f1)) aa bb (by first | omega | assumption) (by first | omega | assumption) (by first | omega | assumption) (by first | omega | assumption)) (cwV 2 hts gX9_joins_X9_hangs rfl rfl rfl (by decide +kernel) ⟨Nat.le_trans (m := 2) (Nat.le_of_ble_eq_true rfl) hR.1, Nat.le_trans (m := 46) (Nat.le_of_ble_eq_true rfl) hR.2⟩) [8, 9, 10, 11, 12] [0, 9, 10, 11, 12, 13] rfl rfl (by decide) 9 0 rfl rfl rfl hl.1 rfl (Nat.le_of_ble_eq_true rfl) dX9_joins_118 ⟨hcs.1, hcs.2⟩) (fun r_12 h_13 => ?_)
            rcases h_13 with ⟨h_13, rfl⟩ | ⟨h_13, rfl⟩
            · have h_13 : True := h_13
              refine lv_if_ne (tgt := 127) hx hb dX9_joins_121 (by decide) (fun _ => ?_) (fun c_ => absurd c_ (by decide))
              refine lv_aload_n hx hb dX9_joins_127 rfl (lv_at hl 2 rfl) ?_
              refine va_get (D := D) (ci := 9) (v := .ref b19) (C := RX9) (T := TX9) (N := 37) hx hb hts hin_X9 hown hK hP 0 rfl rfl 28 (by decide) (hts (.fieldLink RX9 72 "CryOrderModel" "caseNumber" "[I") (List.mem_cons_of_mem _ (List.mem_append_left _ (List.mem_append_left _ (List.mem_of_getElem? (i := 1) rfl))))) (fun _ h9 => h9) rfl dX9_joins_128 ?_
              refine lv_iload_n hx hb dX9_joins_131 rfl (lv_at hl 1 rfl) ?_
              refine va_iald hx hb hK hP 6 5 rfl rfl (vp_in_iff.mpr (by omega)) dX9_joins_132 ?_
              refine lv_topi (fun z_14 ez_14 => ?_)
              have qz_14 : (z_14).toInt = (z_2).toInt := by rw [ez_14, ez_2]
              refine lv_aload_n hx hb dX9_joins_133 rfl (lv_at hl 2 rfl) ?_
              refine va_get (D := D) (ci := 9) (v := .ref b19) (C := RX9) (T := TX9) (N := 37) hx hb hts hin_X9 hown hK hP 0 rfl rfl 28 (by decide) (hts (.fieldLink RX9 72 "CryOrderModel" "caseNumber" "[I") (List.mem_cons_of_mem _ (List.mem_append_left _ (List.mem_append_left _ (List.mem_of_getElem? (i := 1) rfl))))) (fun _ h9 => h9) rfl dX9_joins_134 ?_
              refine lv_iload_n hx hb dX9_joins_137 rfl (lv_at hl 0 rfl) ?_
              refine va_iald hx hb hK hP 6 5 rfl rfl (vp_in_iff.mpr (by omega)) dX9_joins_138 ?_
              refine lv_topi (fun z_15 ez_15 => ?_)
              have qz_15 : (z_15).toInt = (z_5).toInt := by rw [ez_15, ez_5]
              refine va_mmin hx hb (by rw [hml]; exact hl.1.symm) hown (hts (.methodLink RX9 159 Lib.Math.min.name) (List.mem_cons_of_mem _ (List.mem_append_left _ (List.mem_append_left _ (List.mem_of_getElem? (i := 3) rfl))))) (hts (.static Lib.Math.min.name) (List.mem_cons_of_mem _ (List.mem_append_left _ (List.mem_append_left _ (List.mem_of_getElem? (i := 4) rfl))))) (hts (.initialized "java/lang/Math") (List.mem_cons_of_mem _ (List.mem_append_left _ (List.mem_append_left _ (List.mem_of_getElem? (i := 5) rfl))))) (hts (.code Lib.Math.min.name Lib.Math.min.code 2 (some .int)) (List.mem_cons_of_mem _ (List.mem_append_left _ (List.mem_append_left _ (List.mem_of_getElem? (i := 6) rfl))))) (Nat.le_trans (m := 2) (Nat.le_of_ble_eq_true rfl) hR.1) (Nat.le_trans (m := 46) (Nat.le_of_ble_eq_true rfl) hR.2) hcs.1 hcs.2 dX9_joins_139 ?_
              refine lv_topi (fun z_16 ez_16 => ?_)
              have tz_16 := mn_toInt (zx := (z_14).toInt) (zy := (z_15).toInt) ez_16 rfl rfl
              refine lv_istore_n (lv' := [(3, .int z_16), (2, .int bb), (1, .int aa), (0, .ref h0)]) hx hb dX9_joins_142 rfl hl (by decide) rfl (fun ls hl => ?_)
              refine lv_aload_n hx hb dX9_joins_143 rfl (lv_at hl 3 rfl) ?_
              refine va_get (D := D) (ci := 9) (v := .ref b19) (C := RX9) (T := TX9) (N := 37) hx hb hts hin_X9 hown hK hP 0 rfl rfl 28 (by decide) (hts (.fieldLink RX9 72 "CryOrderModel" "caseNumber" "[I") (List.mem_cons_of_mem _ (List.mem_append_left _ (List.mem_append_left _ (List.mem_of_getElem? (i := 1) rfl))))) (fun _ h9 => h9) rfl dX9_joins_144 ?_
              refine lv_iload_n hx hb dX9_joins_147 rfl (lv_at hl 2 rfl) ?_
              refine va_iald hx hb hK hP 6 5 rfl rfl (vp_in_iff.mpr (by omega)) dX9_joins_148 ?_
              refine lv_topi (fun z_17 ez_17 => ?_)
              have qz_17 : (z_17).toInt = (z_2).toInt := by rw [ez_17, ez_2]
              refine lv_aload_n hx hb dX9_joins_149 rfl (lv_at hl 3 rfl) ?_
              refine va_get (D := D) (ci := 9) (v := .ref b19) (C := RX9) (T := TX9) (N := 37) hx hb hts hin_X9 hown hK hP 0 rfl rfl 28 (by decide) (hts (.fieldLink RX9 72 "CryOrderModel" "caseNumber" "[I") (List.mem_cons_of_mem _ (List.mem_append_left _ (List.mem_append_left _ (List.mem_of_getElem? (i := 1) rfl))))) (fun _ h9 => h9) rfl dX9_joins_150 ?_
              refine lv_iload_n hx hb dX9_joins_153 rfl (lv_at hl 1 rfl) ?_
              refine va_iald hx hb hK hP 6 5 rfl rfl (vp_in_iff.mpr (by omega)) dX9_joins_154 ?_
              refine lv_topi (fun z_18 ez_18 => ?_)
              have qz_18 : (z_18).toInt = (z_5).toInt := by rw [ez_18, ez_5]
              refine va_mmax hx hb (by rw [hml]; exact hl.1.symm) hown (hts (.methodLink RX9 162 Lib.Math.max.name) (List.mem_cons_of_mem _ (List.mem_append_left _ (List.mem_append_left _ (List.mem_of_getElem? (i := 7) rfl))))) (hts (.static Lib.Math.max.name) (List.mem_cons_of_mem _ (List.mem_append_left _ (List.mem_append_left _ (List.mem_of_getElem? (i := 8) rfl))))) (hts (.initialized "java/lang/Math") (List.mem_cons_of_mem _ (List.mem_append_left _ (List.mem_append_left _ (List.mem_of_getElem? (i := 5) rfl))))) (hts (.code Lib.Math.max.name Lib.Math.max.code 2 (some .int)) (List.mem_cons_of_mem _ (List.mem_append_left _ (List.mem_append_left _ (List.mem_of_getElem? (i := 9) rfl))))) (Nat.le_trans (m := 2) (Nat.le_of_ble_eq_true rfl) hR.1) (Nat.le_trans (m := 46) (Nat.le_of_ble_eq_true rfl) hR.2) hcs.1 hcs.2 dX9_joins_155 ?_
              refine lv_topi (fun z_19 ez_19 => ?_)
              have tz_19 := mx_toInt (zx := (z_17).toInt) (zy := (z_18).toInt) ez_19 rfl rfl
              refine lv_istore (lv' := [(4, .int z_19), (3, .int z_16), (2, .int bb), (1, .int aa), (0, .ref h0)]) hx hb dX9_joins_158 hl (by decide) rfl (fun ls hl => ?_)
              refine lv_iconst (v := 0) hx hb dX9_joins_160 (by decide) ?_
              refine lv_istore (lv' := [(5, .int 0), (4, .int z_19), (3, .int z_16), (2, .int bb), (1, .int aa), (0, .ref h0)]) hx hb dX9_joins_161 hl (by decide) rfl (fun ls hl => ?_)
              refine ml_joinsD hx hb hts hml hown hN hK hA ⟨Nat.le_trans (m := 2) (Nat.le_of_ble_eq_true rfl) hR.1, Nat.le_trans (m := 46) (Nat.le_of_ble_eq_true rfl) hR.2⟩ hcs hna (fun g_20 H_21 locs ls  hP hD hS hl => ?_) _ _ _ _ _ _ (by decide) (Nat.lt_succ_self _) hP hD hS (lv_sub hl [0, 1, 2, 3, 4, 5] rfl)
              obtain ⟨x_22, ex_22⟩ : ∃ z : Int32, z = bb + 1 := ⟨_, rfl⟩
              have tx_22 := ad_toInt (x := bb) (y := 1) (z := x_22) (zx := (bb).toInt) (zy := 1) ex_22 rfl (by decide)
              refine lv_iinc (v := x_22) (lv' := [(2, .int x_22), (1, .int aa), (0, .ref h0)]) hx hb dX9_joins_198 hl (k := 0) rfl (by rw [ex_22]; rfl) (by decide) rfl (fun ls hl => ?_)
              refine lv_goto (tgt := 72) hx hb dX9_joins_201 (by decide) ?_
              exact ih _ _ _ _ _ (by first | omega | assumption) (by omega) hP hD hS (lv_sub hl [0, 1, 2] rfl)
            · have h_13 : True := h_13
              refine lv_if_ne (tgt := 127) hx hb dX9_joins_121 (by decide) (fun c_ => absurd c_ (by decide)) (fun _ => ?_)
              refine lv_goto (tgt := 198) hx hb dX9_joins_124 (by decide) ?_
              obtain ⟨x_23, ex_23⟩ : ∃ z : Int32, z = bb + 1 := ⟨_, rfl⟩
              have tx_23 := ad_toInt (x := bb) (y := 1) (z := x_23) (zx := (bb).toInt) (zy := 1) ex_23 rfl (by decide)
              refine lv_iinc (v := x_23) (lv' := [(2, .int x_23), (1, .int aa), (0, .ref h0)]) hx hb dX9_joins_198 hl (k := 0) rfl (by rw [ex_23]; rfl) (by decide) rfl (fun ls hl => ?_)
              refine lv_goto (tgt := 72) hx hb dX9_joins_201 (by decide) ?_
              exact ih _ _ _ _ _ (by first | omega | assumption) (by omega) hP hD hS (lv_sub hl [0, 1, 2] rfl)
