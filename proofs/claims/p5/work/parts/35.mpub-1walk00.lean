set_option maxHeartbeats 4000000 in
set_option maxRecDepth 100000 in
theorem ml_source {p : Program} {l : Launch} {e : Env} {R : Room} {s : State} {m : MethodId} {args : Array Value} {below : List Frame} {meth : Method} {c : Code} {Q : State → Prop} {A : Nat → Prop} {cells slots : Nat} {D : va_G} {H : Heap} {locs : List Loc} {h0 : Nat} {b1 : Nat} {b2 : Nat} {b3 : Nat} {b4 : Nat} {b5 : Nat} {b6 : Nat} {b7 : Nat} {b8 : Nat} {b9 : Nat} {b10 : Nat} {b11 : Nat} {b12 : Nat} {b13 : Nat} {b14 : Nat} {b15 : Nat} {b16 : Nat} {b17 : Nat} {b18 : Nat} {b19 : Nat} {b20 : Nat} {b21 : Nat} {b22 : Nat} {b23 : Nat} {b24 : Nat} {b25 : Nat} {now : Int32} {na : Int32} {nsi : Int32} {nti : Int32} {vc : Int32} {vn : Int32} {vt : Int32} {ct : Int32} {cs : Int32} {co : Int32} {nca : Int32} {ntm : Int32} {d3 : ClassId} {d11 : ClassId} {d12 : ClassId} {d7 : ClassId} {d8 : ClassId} {f3 : Nat → Int32} {f11 : Nat → Int32} {f12 : Nat → Int32} {f7 : Nat → Int32} {f8 : Nat → Int32} {p0 : Int32} {p1 : Int32} (hx : p.tables.exec = Jvm.exec) (hb : c.code = cX9_source) (hts : ∀ w ∈ wsX9_source, w.before args s = true) (hml : c.maxLocals = 6) (hown : s.vm.findClass RX9 = some m.cls) (hN : Nq s) (hK : va_K D vwCl [(d3, .int), (d11, .boolean), (d12, .boolean), (d7, .int), (d8, .int)] s) (hP : va_P D vwCl [oC h0 9 [.int now, .int na, .int nsi, .int nti, .int vc, .int vn, .int vt, .ref b1, .ref b2, .ref b3, .ref b4, .ref b5, .ref b6, .ref b7, .ref b8, .ref b9, .ref b10, .ref b11, .ref b12, .ref b13, .ref b14, .ref b15, .ref b16, .ref b17, .ref b18, .int ct, .int cs, .int co, .ref b19, .ref b20, .ref b21, .int nca, .ref b22, .ref b23, .int ntm, .ref b24, .ref b25], aI b3 d3 200 (f3), aI b11 d11 200 (f11), aI b12 d12 200 (f12), aI b7 d7 200 (f7), aI b8 d8 200 (f8)] H) (hD : va_D A [oC h0 9 [.int now, .int na, .int nsi, .int nti, .int vc, .int vn, .int vt, .ref b1, .ref b2, .ref b3, .ref b4, .ref b5, .ref b6, .ref b7, .ref b8, .ref b9, .ref b10, .ref b11, .ref b12, .ref b13, .ref b14, .ref b15, .ref b16, .ref b17, .ref b18, .int ct, .int cs, .int co, .ref b19, .ref b20, .ref b21, .int nca, .ref b22, .ref b23, .int ntm, .ref b24, .ref b25], aI b3 d3 200 (f3), aI b11 d11 200 (f11), aI b12 d12 200 (f12), aI b7 d7 200 (f7), aI b8 d8 200 (f8)]) (hR : 1 ≤ R.frames ∧ 20 ≤ R.locals) (hcs : cells ≤ R.cells ∧ slots ≤ R.slots) (hna : 0 ≤ (na).toInt ∧ (na).toInt ≤ 200) (done_197 : ∀ (k : Int32) (x : Int32) (ls : Array Slot), lv_has ls 6 [(4, .int k), (3, .int x), (0, .ref h0), (1, .int p0), (2, .int p1)] → W p l e R s m args below meth c H locs cells slots Q (F0 m 197 ls [])) : ∀ (n : Nat), ∀ (k : Int32) (x : Int32) (ls : Array Slot), (0 ≤ (k).toInt) → ((200 - (k).toInt).toNat < n) → lv_has ls 6 [(4, .int k), (3, .int x), (0, .ref h0), (1, .int p0), (2, .int p1)] → W p l e R s m args below meth c H locs cells slots Q (F0 m 27 ls []) := by
  have hin_X9 : ∀ w ∈ u_ws RX9 TX9 37, w ∈ wsX9_source := fun w h => List.mem_cons_of_mem _ (List.mem_append_right _ (h))
  intro n
  induction n with
  | zero => intro k x ls hk hmu hl; exact absurd hmu (Nat.not_lt_zero _)
  | succ n ih =>
    intro k x ls hk hmu hl
    refine lv_iload hx hb dX9_source_27 (lv_at hl 0 rfl) ?_
    refine lv_aload_n hx hb dX9_source_29 rfl (lv_at hl 2 rfl) ?_
    refine va_get (D := D) (ci := 9) (v := .int na) (C := RX9) (T := TX9) (N := 37) hx hb hts hin_X9 hown hK hP 0 rfl rfl 1 (by decide) (hts (.fieldLink RX9 93 "CryOrderModel" "alarms" "I") (List.mem_cons_of_mem _ (List.mem_append_left _ (List.mem_of_getElem? (i := 0) rfl)))) (fun _ h9 => h9) rfl dX9_source_30 ?_
    refine bi_ge (zx := (k).toInt) (zy := (na).toInt) (tgt := 197) hx hb dX9_source_33 (by decide) rfl rfl (fun c_1 => ?_) (fun c_1 => ?_)
    · exact done_197 _ _ _  (lv_sub hl [0, 1, 2, 3, 4] rfl)
    · refine lv_aload_n hx hb dX9_source_36 rfl (lv_at hl 2 rfl) ?_
      refine va_get (D := D) (ci := 9) (v := .ref b3) (C := RX9) (T := TX9) (N := 37) hx hb hts hin_X9 hown hK hP 0 rfl rfl 9 (by decide) (hts (.fieldLink RX9 23 "CryOrderModel" "source" "[I") (List.mem_cons_of_mem _ (List.mem_append_left _ (List.mem_of_getElem? (i := 1) rfl)))) (fun _ h9 => h9) rfl dX9_source_37 ?_
      refine lv_iload hx hb dX9_source_40 (lv_at hl 0 rfl) ?_
      refine va_iald hx hb hK hP 1 0 rfl rfl (vp_in_iff.mpr (by omega)) dX9_source_42 ?_
      refine lv_topi (fun z_2 ez_2 => ?_)
      refine lv_iload_n hx hb dX9_source_43 rfl (lv_at hl 3 rfl) ?_
      refine bi_eq (zx := (z_2).toInt) (zy := (p0).toInt) (tgt := 50) hx hb dX9_source_44 (by decide) rfl rfl (fun c_3 => ?_) (fun c_3 => ?_)
      · refine lv_aload_n hx hb dX9_source_50 rfl (lv_at hl 2 rfl) ?_
        refine va_get (D := D) (ci := 9) (v := .ref b11) (C := RX9) (T := TX9) (N := 37) hx hb hts hin_X9 hown hK hP 0 rfl rfl 17 (by decide) (hts (.fieldLink RX9 47 "CryOrderModel" "isSilenced" "[Z") (List.mem_cons_of_mem _ (List.mem_append_left _ (List.mem_of_getElem? (i := 2) rfl)))) (fun _ h9 => h9) rfl dX9_source_51 ?_
        refine lv_iload hx hb dX9_source_54 (lv_at hl 0 rfl) ?_
        refine va_zald hx hb hK hP 2 1 rfl rfl (vp_in_iff.mpr (by omega)) dX9_source_56 ?_
        refine lv_topi (fun z_4 ez_4 => ?_)
        refine bz_ne (zx := (z_4).toInt) (tgt := 74) hx hb dX9_source_57 (by decide) rfl (fun c_5 => ?_) (fun c_5 => ?_)
        · refine lv_iconst (v := 0) hx hb dX9_source_74 (by decide) ?_
          refine lv_istore (lv' := [(5, .int 0), (4, .int k), (3, .int x), (0, .ref h0), (1, .int p0), (2, .int p1)]) hx hb dX9_source_75 hl (by decide) rfl (fun ls hl => ?_)
          refine lv_iload_n hx hb dX9_source_77 rfl (lv_at hl 2 rfl) ?_
          refine lv_iload_n hx hb dX9_source_78 rfl (lv_at hl 5 rfl) ?_
          refine lv_iconst (v := 1) hx hb dX9_source_79 (by decide) ?_
          refine bi_ne (zx := (p1).toInt) (zy := 1) (tgt := 93) hx hb dX9_source_80 (by decide) rfl (by decide) (fun c_6 => ?_) (fun c_6 => ?_)
          · refine lv_iload_n hx hb dX9_source_93 rfl (lv_at hl 5 rfl) ?_
            refine bz_eq (zx := (p1).toInt) (tgt := 181) hx hb dX9_source_94 (by decide) rfl (fun c_7 => ?_) (fun c_7 => ?_)
            · refine lv_iconst (v := 1) hx hb dX9_source_181 (by decide) ?_
              refine lv_goto (tgt := 186) hx hb dX9_source_182 (by decide) ?_
              refine vp_callSi (zrS (As := [.int 1]) (rest := [.int x]) (wc := []) ⟨hx, hb, hml, hown, hts⟩ hN hK hP hD (m_one1 l D  ) (va_cwS 1 hts gX9_source_X9_one rfl rfl rfl (by decide +kernel) ⟨Nat.le_trans (m := 1) (Nat.le_of_ble_eq_true rfl) hR.1, Nat.le_trans (m := 20) (Nat.le_of_ble_eq_true rfl) hR.2⟩) [] [] rfl rfl (by decide) rfl hl.1 rfl (Nat.le_of_ble_eq_true rfl) dX9_source_186 ⟨hcs.1, hcs.2⟩) (fun r_8 h_9 => ?_)
              subst h_9
              refine lv_iadd hx hb dX9_source_189 ?_
              refine lv_topi (fun z_10 ez_10 => ?_)
              have tz_10 := ad_toInt (zx := (x).toInt) (zy := 1) ez_10 rfl (by decide)
              refine lv_istore_n (lv' := [(3, .int z_10), (5, .int 0), (4, .int k), (0, .ref h0), (1, .int p0), (2, .int p1)]) hx hb dX9_source_190 rfl hl (by decide) rfl (fun ls hl => ?_)
              obtain ⟨x_11, ex_11⟩ : ∃ z : Int32, z = k + 1 := ⟨_, rfl⟩
              have tx_11 := ad_toInt (x := k) (y := 1) (z := x_11) (zx := (k).toInt) (zy := 1) ex_11 rfl (by decide)
              refine lv_iinc (v := x_11) (lv' := [(4, .int x_11), (3, .int z_10), (5, .int 0), (0, .ref h0), (1, .int p0), (2, .int p1)]) hx hb dX9_source_191 hl (k := 2) rfl (by rw [ex_11]; rfl) (by decide) rfl (fun ls hl => ?_)
              refine lv_goto (tgt := 27) hx hb dX9_source_194 (by decide) ?_
              exact ih _ _ _ (by first | omega | assumption) (by omega) (lv_sub hl [0, 1, 3, 4, 5] rfl)
            · refine lv_iload_n hx hb dX9_source_97 rfl (lv_at hl 5 rfl) ?_
              refine lv_iconst (v := 2) hx hb dX9_source_98 (by decide) ?_
              refine bi_ne (zx := (p1).toInt) (zy := 2) (tgt := 112) hx hb dX9_source_99 (by decide) rfl (by decide) (fun c_12 => ?_) (fun c_12 => ?_)
              · refine lv_iload_n hx hb dX9_source_112 rfl (lv_at hl 5 rfl) ?_
                refine lv_iconst (v := 3) hx hb dX9_source_113 (by decide) ?_
                refine bi_ne (zx := (p1).toInt) (zy := 3) (tgt := 127) hx hb dX9_source_114 (by decide) rfl (by decide) (fun c_13 => ?_) (fun c_13 => ?_)
                · refine lv_iload_n hx hb dX9_source_127 rfl (lv_at hl 5 rfl) ?_
                  refine lv_iconst (v := 4) hx hb dX9_source_128 (by decide) ?_
                  refine bi_ne (zx := (p1).toInt) (zy := 4) (tgt := 143) hx hb dX9_source_129 (by decide) rfl (by decide) (fun c_14 => ?_) (fun c_14 => ?_)
                  · refine lv_iload_n hx hb dX9_source_143 rfl (lv_at hl 5 rfl) ?_
                    refine lv_iconst (v := 5) hx hb dX9_source_144 (by decide) ?_
                    refine bi_ne (zx := (p1).toInt) (zy := 5) (tgt := 159) hx hb dX9_source_145 (by decide) rfl (by decide) (fun c_15 => ?_) (fun c_15 => ?_)
                    · refine lv_iload_n hx hb dX9_source_159 rfl (lv_at hl 5 rfl) ?_
                      refine lv_bipush (v := 6) hx hb dX9_source_160 (by decide) ?_
                      refine bi_ne (zx := (p1).toInt) (zy := 6) (tgt := 185) hx hb dX9_source_162 (by decide) rfl (by decide) (fun c_16 => ?_) (fun c_16 => ?_)
                      · refine lv_iconst (v := 0) hx hb dX9_source_185 (by decide) ?_
                        refine vp_callSi (zrS (As := [.int 0]) (rest := [.int x]) (wc := []) ⟨hx, hb, hml, hown, hts⟩ hN hK hP hD (m_one0 l D  ) (va_cwS 1 hts gX9_source_X9_one rfl rfl rfl (by decide +kernel) ⟨Nat.le_trans (m := 1) (Nat.le_of_ble_eq_true rfl) hR.1, Nat.le_trans (m := 20) (Nat.le_of_ble_eq_true rfl) hR.2⟩) [] [] rfl rfl (by decide) rfl hl.1 rfl (Nat.le_of_ble_eq_true rfl) dX9_source_186 ⟨hcs.1, hcs.2⟩) (fun r_17 h_18 => ?_)
                        subst h_18
                        refine lv_iadd hx hb dX9_source_189 ?_
                        refine lv_topi (fun z_19 ez_19 => ?_)
                        have tz_19 := ad_toInt (zx := (x).toInt) (zy := 0) ez_19 rfl (by decide)
                        refine lv_istore_n (lv' := [(3, .int z_19), (5, .int 0), (4, .int k), (0, .ref h0), (1, .int p0), (2, .int p1)]) hx hb dX9_source_190 rfl hl (by decide) rfl (fun ls hl => ?_)
                        obtain ⟨x_20, ex_20⟩ : ∃ z : Int32, z = k + 1 := ⟨_, rfl⟩
                        have tx_20 := ad_toInt (x := k) (y := 1) (z := x_20) (zx := (k).toInt) (zy := 1) ex_20 rfl (by decide)
                        refine lv_iinc (v := x_20) (lv' := [(4, .int x_20), (3, .int z_19), (5, .int 0), (0, .ref h0), (1, .int p0), (2, .int p1)]) hx hb dX9_source_191 hl (k := 2) rfl (by rw [ex_20]; rfl) (by decide) rfl (fun ls hl => ?_)
                        refine lv_goto (tgt := 27) hx hb dX9_source_194 (by decide) ?_
                        exact ih _ _ _ (by first | omega | assumption) (by omega) (lv_sub hl [0, 1, 3, 4, 5] rfl)
                      · refine lv_aload_n hx hb dX9_source_165 rfl (lv_at hl 3 rfl) ?_
                        refine va_get (D := D) (ci := 9) (v := .ref b8) (C := RX9) (T := TX9) (N := 37) hx hb hts hin_X9 hown hK hP 0 rfl rfl 14 (by decide) (hts (.fieldLink RX9 38 "CryOrderModel" "state" "[I") (List.mem_cons_of_mem _ (List.mem_append_left _ (List.mem_of_getElem? (i := 5) rfl)))) (fun _ h9 => h9) rfl dX9_source_166 ?_
                        refine lv_iload hx hb dX9_source_169 (lv_at hl 1 rfl) ?_
                        refine va_iald hx hb hK hP 5 4 rfl rfl (vp_in_iff.mpr (by omega)) dX9_source_171 ?_
                        refine lv_topi (fun z_21 ez_21 => ?_)
                        refine lv_iconst (v := 1) hx hb dX9_source_172 (by decide) ?_
                        refine bi_ne (zx := (z_21).toInt) (zy := 1) (tgt := 185) hx hb dX9_source_173 (by decide) rfl (by decide) (fun c_22 => ?_) (fun c_22 => ?_)
                        · refine lv_iconst (v := 0) hx hb dX9_source_185 (by decide) ?_
                          refine vp_callSi (zrS (As := [.int 0]) (rest := [.int x]) (wc := []) ⟨hx, hb, hml, hown, hts⟩ hN hK hP hD (m_one0 l D  ) (va_cwS 1 hts gX9_source_X9_one rfl rfl rfl (by decide +kernel) ⟨Nat.le_trans (m := 1) (Nat.le_of_ble_eq_true rfl) hR.1, Nat.le_trans (m := 20) (Nat.le_of_ble_eq_true rfl) hR.2⟩) [] [] rfl rfl (by decide) rfl hl.1 rfl (Nat.le_of_ble_eq_true rfl) dX9_source_186 ⟨hcs.1, hcs.2⟩) (fun r_23 h_24 => ?_)
                          subst h_24
                          refine lv_iadd hx hb dX9_source_189 ?_
                          refine lv_topi (fun z_25 ez_25 => ?_)
                          have tz_25 := ad_toInt (zx := (x).toInt) (zy := 0) ez_25 rfl (by decide)
                          refine lv_istore_n (lv' := [(3, .int z_25), (5, .int 0), (4, .int k), (0, .ref h0), (1, .int p0), (2, .int p1)]) hx hb dX9_source_190 rfl hl (by decide) rfl (fun ls hl => ?_)
                          obtain ⟨x_26, ex_26⟩ : ∃ z : Int32, z = k + 1 := ⟨_, rfl⟩
                          have tx_26 := ad_toInt (x := k) (y := 1) (z := x_26) (zx := (k).toInt) (zy := 1) ex_26 rfl (by decide)
                          refine lv_iinc (v := x_26) (lv' := [(4, .int x_26), (3, .int z_25), (5, .int 0), (0, .ref h0), (1, .int p0), (2, .int p1)]) hx hb dX9_source_191 hl (k := 2) rfl (by rw [ex_26]; rfl) (by decide) rfl (fun ls hl => ?_)
                          refine lv_goto (tgt := 27) hx hb dX9_source_194 (by decide) ?_
                          exact ih _ _ _ (by first | omega | assumption) (by omega) (lv_sub hl [0, 1, 3, 4, 5] rfl)
                        · refine lv_iload hx hb dX9_source_176 (lv_at hl 0 rfl) ?_
                          refine lv_if_ne (tgt := 185) hx hb dX9_source_178 (by decide) (fun c_ => absurd c_ (by decide)) (fun _ => ?_)
                          refine lv_iconst (v := 1) hx hb dX9_source_181 (by decide) ?_
                          refine lv_goto (tgt := 186) hx hb dX9_source_182 (by decide) ?_
                          refine vp_callSi (zrS (As := [.int 1]) (rest := [.int x]) (wc := []) ⟨hx, hb, hml, hown, hts⟩ hN hK hP hD (m_one1 l D  ) (va_cwS 1 hts gX9_source_X9_one rfl rfl rfl (by decide +kernel) ⟨Nat.le_trans (m := 1) (Nat.le_of_ble_eq_true rfl) hR.1, Nat.le_trans (m := 20) (Nat.le_of_ble_eq_true rfl) hR.2⟩) [] [] rfl rfl (by decide) rfl hl.1 rfl (Nat.le_of_ble_eq_true rfl) dX9_source_186 ⟨hcs.1, hcs.2⟩) (fun r_27 h_28 => ?_)
                          subst h_28
                          refine lv_iadd hx hb dX9_source_189 ?_
                          refine lv_topi (fun z_29 ez_29 => ?_)
                          have tz_29 := ad_toInt (zx := (x).toInt) (zy := 1) ez_29 rfl (by decide)
                          refine lv_istore_n (lv' := [(3, .int z_29), (5, .int 0), (4, .int k), (0, .ref h0), (1, .int p0), (2, .int p1)]) hx hb dX9_source_190 rfl hl (by decide) rfl (fun ls hl => ?_)
                          obtain ⟨x_30, ex_30⟩ : ∃ z : Int32, z = k + 1 := ⟨_, rfl⟩
                          have tx_30 := ad_toInt (x := k) (y := 1) (z := x_30) (zx := (k).toInt) (zy := 1) ex_30 rfl (by decide)
                          refine lv_iinc (v := x_30) (lv' := [(4, .int x_30), (3, .int z_29), (5, .int 0), (0, .ref h0), (1, .int p0), (2, .int p1)]) hx hb dX9_source_191 hl (k := 2) rfl (by rw [ex_30]; rfl) (by decide) rfl (fun ls hl => ?_)
                          refine lv_goto (tgt := 27) hx hb dX9_source_194 (by decide) ?_
                          exact ih _ _ _ (by first | omega | assumption) (by omega) (lv_sub hl [0, 1, 3, 4, 5] rfl)
                    · refine lv_aload_n hx hb dX9_source_148 rfl (lv_at hl 3 rfl) ?_
                      refine va_get (D := D) (ci := 9) (v := .ref b8) (C := RX9) (T := TX9) (N := 37) hx hb hts hin_X9 hown hK hP 0 rfl rfl 14 (by decide) (hts (.fieldLink RX9 38 "CryOrderModel" "state" "[I") (List.mem_cons_of_mem _ (List.mem_append_left _ (List.mem_of_getElem? (i := 5) rfl)))) (fun _ h9 => h9) rfl dX9_source_149 ?_
                      refine lv_iload hx hb dX9_source_152 (lv_at hl 1 rfl) ?_
                      refine va_iald hx hb hK hP 5 4 rfl rfl (vp_in_iff.mpr (by omega)) dX9_source_154 ?_
                      refine lv_topi (fun z_31 ez_31 => ?_)
                      refine lv_iconst (v := 2) hx hb dX9_source_155 (by decide) ?_
                      refine bi_eq (zx := (z_31).toInt) (zy := 2) (tgt := 181) hx hb dX9_source_156 (by decide) rfl (by decide) (fun c_32 => ?_) (fun c_32 => ?_)
                      · refine lv_iconst (v := 1) hx hb dX9_source_181 (by decide) ?_
                        refine lv_goto (tgt := 186) hx hb dX9_source_182 (by decide) ?_
                        refine vp_callSi (zrS (As := [.int 1]) (rest := [.int x]) (wc := []) ⟨hx, hb, hml, hown, hts⟩ hN hK hP hD (m_one1 l D  ) (va_cwS 1 hts gX9_source_X9_one rfl rfl rfl (by decide +kernel) ⟨Nat.le_trans (m := 1) (Nat.le_of_ble_eq_true rfl) hR.1, Nat.le_trans (m := 20) (Nat.le_of_ble_eq_true rfl) hR.2⟩) [] [] rfl rfl (by decide) rfl hl.1 rfl (Nat.le_of_ble_eq_true rfl) dX9_source_186 ⟨hcs.1, hcs.2⟩) (fun r_33 h_34 => ?_)
                        subst h_34
                        refine lv_iadd hx hb dX9_source_189 ?_
                        refine lv_topi (fun z_35 ez_35 => ?_)
                        have tz_35 := ad_toInt (zx := (x).toInt) (zy := 1) ez_35 rfl (by decide)
                        refine lv_istore_n (lv' := [(3, .int z_35), (5, .int 0), (4, .int k), (0, .ref h0), (1, .int p0), (2, .int p1)]) hx hb dX9_source_190 rfl hl (by decide) rfl (fun ls hl => ?_)
                        obtain ⟨x_36, ex_36⟩ : ∃ z : Int32, z = k + 1 := ⟨_, rfl⟩
                        have tx_36 := ad_toInt (x := k) (y := 1) (z := x_36) (zx := (k).toInt) (zy := 1) ex_36 rfl (by decide)
                        refine lv_iinc (v := x_36) (lv' := [(4, .int x_36), (3, .int z_35), (5, .int 0), (0, .ref h0), (1, .int p0), (2, .int p1)]) hx hb dX9_source_191 hl (k := 2) rfl (by rw [ex_36]; rfl) (by decide) rfl (fun ls hl => ?_)
                        refine lv_goto (tgt := 27) hx hb dX9_source_194 (by decide) ?_
                        exact ih _ _ _ (by first | omega | assumption) (by omega) (lv_sub hl [0, 1, 3, 4, 5] rfl)
                      · refine lv_iload_n hx hb dX9_source_159 rfl (lv_at hl 5 rfl) ?_
                        refine lv_bipush (v := 6) hx hb dX9_source_160 (by decide) ?_
                        refine bi_ne (zx := (p1).toInt) (zy := 6) (tgt := 185) hx hb dX9_source_162 (by decide) rfl (by decide) (fun c_37 => ?_) (fun c_37 => ?_)
                        · refine lv_iconst (v := 0) hx hb dX9_source_185 (by decide) ?_
                          refine vp_callSi (zrS (As := [.int 0]) (rest := [.int x]) (wc := []) ⟨hx, hb, hml, hown, hts⟩ hN hK hP hD (m_one0 l D  ) (va_cwS 1 hts gX9_source_X9_one rfl rfl rfl (by decide +kernel) ⟨Nat.le_trans (m := 1) (Nat.le_of_ble_eq_true rfl) hR.1, Nat.le_trans (m := 20) (Nat.le_of_ble_eq_true rfl) hR.2⟩) [] [] rfl rfl (by decide) rfl hl.1 rfl (Nat.le_of_ble_eq_true rfl) dX9_source_186 ⟨hcs.1, hcs.2⟩) (fun r_38 h_39 => ?_)
                          subst h_39
                          refine lv_iadd hx hb dX9_source_189 ?_
                          refine lv_topi (fun z_40 ez_40 => ?_)
                          have tz_40 := ad_toInt (zx := (x).toInt) (zy := 0) ez_40 rfl (by decide)
                          refine lv_istore_n (lv' := [(3, .int z_40), (5, .int 0), (4, .int k), (0, .ref h0), (1, .int p0), (2, .int p1)]) hx hb dX9_source_190 rfl hl (by decide) rfl (fun ls hl => ?_)
                          obtain ⟨x_41, ex_41⟩ : ∃ z : Int32, z = k + 1 := ⟨_, rfl⟩
                          have tx_41 := ad_toInt (x := k) (y := 1) (z := x_41) (zx := (k).toInt) (zy := 1) ex_41 rfl (by decide)
                          refine lv_iinc (v := x_41) (lv' := [(4, .int x_41), (3, .int z_40), (5, .int 0), (0, .ref h0), (1, .int p0), (2, .int p1)]) hx hb dX9_source_191 hl (k := 2) rfl (by rw [ex_41]; rfl) (by decide) rfl (fun ls hl => ?_)
                          refine lv_goto (tgt := 27) hx hb dX9_source_194 (by decide) ?_
                          exact ih _ _ _ (by first | omega | assumption) (by omega) (lv_sub hl [0, 1, 3, 4, 5] rfl)
                        · refine lv_aload_n hx hb dX9_source_165 rfl (lv_at hl 3 rfl) ?_
                          refine va_get (D := D) (ci := 9) (v := .ref b8) (C := RX9) (T := TX9) (N := 37) hx hb hts hin_X9 hown hK hP 0 rfl rfl 14 (by decide) (hts (.fieldLink RX9 38 "CryOrderModel" "state" "[I") (List.mem_cons_of_mem _ (List.mem_append_left _ (List.mem_of_getElem? (i := 5) rfl)))) (fun _ h9 => h9) rfl dX9_source_166 ?_
                          refine lv_iload hx hb dX9_source_169 (lv_at hl 1 rfl) ?_
                          refine va_iald hx hb hK hP 5 4 rfl rfl (vp_in_iff.mpr (by omega)) dX9_source_171 ?_
                          refine lv_topi (fun z_42 ez_42 => ?_)
                          have qz_42 : (z_42).toInt = (z_31).toInt := by rw [ez_42, ez_31]
                          refine lv_iconst (v := 1) hx hb dX9_source_172 (by decide) ?_
                          refine bi_ne (zx := (z_42).toInt) (zy := 1) (tgt := 185) hx hb dX9_source_173 (by decide) rfl (by decide) (fun c_43 => ?_) (fun c_43 => ?_)
                          · refine lv_iconst (v := 0) hx hb dX9_source_185 (by decide) ?_
                            refine vp_callSi (zrS (As := [.int 0]) (rest := [.int x]) (wc := []) ⟨hx, hb, hml, hown, hts⟩ hN hK hP hD (m_one0 l D  ) (va_cwS 1 hts gX9_source_X9_one rfl rfl rfl (by decide +kernel) ⟨Nat.le_trans (m := 1) (Nat.le_of_ble_eq_true rfl) hR.1, Nat.le_trans (m := 20) (Nat.le_of_ble_eq_true rfl) hR.2⟩) [] [] rfl rfl (by decide) rfl hl.1 rfl (Nat.le_of_ble_eq_true rfl) dX9_source_186 ⟨hcs.1, hcs.2⟩) (fun r_44 h_45 => ?_)
                            subst h_45
                            refine lv_iadd hx hb dX9_source_189 ?_
                            refine lv_topi (fun z_46 ez_46 => ?_)
                            have tz_46 := ad_toInt (zx := (x).toInt) (zy := 0) ez_46 rfl (by decide)
                            refine lv_istore_n (lv' := [(3, .int z_46), (5, .int 0), (4, .int k), (0, .ref h0), (1, .int p0), (2, .int p1)]) hx hb dX9_source_190 rfl hl (by decide) rfl (fun ls hl => ?_)
                            obtain ⟨x_47, ex_47⟩ : ∃ z : Int32, z = k + 1 := ⟨_, rfl⟩
                            have tx_47 := ad_toInt (x := k) (y := 1) (z := x_47) (zx := (k).toInt) (zy := 1) ex_47 rfl (by decide)
                            refine lv_iinc (v := x_47) (lv' := [(4, .int x_47), (3, .int z_46), (5, .int 0), (0, .ref h0), (1, .int p0), (2, .int p1)]) hx hb dX9_source_191 hl (k := 2) rfl (by rw [ex_47]; rfl) (by decide) rfl (fun ls hl => ?_)
                            refine lv_goto (tgt := 27) hx hb dX9_source_194 (by decide) ?_
                            exact ih _ _ _ (by first | omega | assumption) (by omega) (lv_sub hl [0, 1, 3, 4, 5] rfl)
                          · refine lv_iload hx hb dX9_source_176 (lv_at hl 0 rfl) ?_
                            refine lv_if_ne (tgt := 185) hx hb dX9_source_178 (by decide) (fun c_ => absurd c_ (by decide)) (fun _ => ?_)
                            refine lv_iconst (v := 1) hx hb dX9_source_181 (by decide) ?_
                            refine lv_goto (tgt := 186) hx hb dX9_source_182 (by decide) ?_
                            refine vp_callSi (zrS (As := [.int 1]) (rest := [.int x]) (wc := []) ⟨hx, hb, hml, hown, hts⟩ hN hK hP hD (m_one1 l D  ) (va_cwS 1 hts gX9_source_X9_one rfl rfl rfl (by decide +kernel) ⟨Nat.le_trans (m := 1) (Nat.le_of_ble_eq_true rfl) hR.1, Nat.le_trans (m := 20) (Nat.le_of_ble_eq_true rfl) hR.2⟩) [] [] rfl rfl (by decide) rfl hl.1 rfl (Nat.le_of_ble_eq_true rfl) dX9_source_186 ⟨hcs.1, hcs.2⟩) (fun r_48 h_49 => ?_)
                            subst h_49
                            refine lv_iadd hx hb dX9_source_189 ?_
                            refine lv_topi (fun z_50 ez_50 => ?_)
                            have tz_50 := ad_toInt (zx := (x).toInt) (zy := 1) ez_50 rfl (by decide)
                            refine lv_istore_n (lv' := [(3, .int z_50), (5, .int 0), (4, .int k), (0, .ref h0), (1, .int p0), (2, .int p1)]) hx hb dX9_source_190 rfl hl (by decide) rfl (fun ls hl => ?_)
                            obtain ⟨x_51, ex_51⟩ : ∃ z : Int32, z = k + 1 := ⟨_, rfl⟩
                            have tx_51 := ad_toInt (x := k) (y := 1) (z := x_51) (zx := (k).toInt) (zy := 1) ex_51 rfl (by decide)
                            refine lv_iinc (v := x_51) (lv' := [(4, .int x_51), (3, .int z_50), (5, .int 0), (0, .ref h0), (1, .int p0), (2, .int p1)]) hx hb dX9_source_191 hl (k := 2) rfl (by rw [ex_51]; rfl) (by decide) rfl (fun ls hl => ?_)
                            refine lv_goto (tgt := 27) hx hb dX9_source_194 (by decide) ?_
                            exact ih _ _ _ (by first | omega | assumption) (by omega) (lv_sub hl [0, 1, 3, 4, 5] rfl)
                  · refine lv_aload_n hx hb dX9_source_132 rfl (lv_at hl 3 rfl) ?_
                    refine va_get (D := D) (ci := 9) (v := .ref b8) (C := RX9) (T := TX9) (N := 37) hx hb hts hin_X9 hown hK hP 0 rfl rfl 14 (by decide) (hts (.fieldLink RX9 38 "CryOrderModel" "state" "[I") (List.mem_cons_of_mem _ (List.mem_append_left _ (List.mem_of_getElem? (i := 5) rfl)))) (fun _ h9 => h9) rfl dX9_source_133 ?_
                    refine lv_iload hx hb dX9_source_136 (lv_at hl 1 rfl) ?_
                    refine va_iald hx hb hK hP 5 4 rfl rfl (vp_in_iff.mpr (by omega)) dX9_source_138 ?_
                    refine lv_topi (fun z_52 ez_52 => ?_)
                    refine lv_iconst (v := 1) hx hb dX9_source_139 (by decide) ?_
                    refine bi_eq (zx := (z_52).toInt) (zy := 1) (tgt := 181) hx hb dX9_source_140 (by decide) rfl (by decide) (fun c_53 => ?_) (fun c_53 => ?_)
                    · refine lv_iconst (v := 1) hx hb dX9_source_181 (by decide) ?_
                      refine lv_goto (tgt := 186) hx hb dX9_source_182 (by decide) ?_
                      refine vp_callSi (zrS (As := [.int 1]) (rest := [.int x]) (wc := []) ⟨hx, hb, hml, hown, hts⟩ hN hK hP hD (m_one1 l D  ) (va_cwS 1 hts gX9_source_X9_one rfl rfl rfl (by decide +kernel) ⟨Nat.le_trans (m := 1) (Nat.le_of_ble_eq_true rfl) hR.1, Nat.le_trans (m := 20) (Nat.le_of_ble_eq_true rfl) hR.2⟩) [] [] rfl rfl (by decide) rfl hl.1 rfl (Nat.le_of_ble_eq_true rfl) dX9_source_186 ⟨hcs.1, hcs.2⟩) (fun r_54 h_55 => ?_)
                      subst h_55
                      refine lv_iadd hx hb dX9_source_189 ?_
                      refine lv_topi (fun z_56 ez_56 => ?_)
                      have tz_56 := ad_toInt (zx := (x).toInt) (zy := 1) ez_56 rfl (by decide)
                      refine lv_istore_n (lv' := [(3, .int z_56), (5, .int 0), (4, .int k), (0, .ref h0), (1, .int p0), (2, .int p1)]) hx hb dX9_source_190 rfl hl (by decide) rfl (fun ls hl => ?_)
                      obtain ⟨x_57, ex_57⟩ : ∃ z : Int32, z = k + 1 := ⟨_, rfl⟩
                      have tx_57 := ad_toInt (x := k) (y := 1) (z := x_57) (zx := (k).toInt) (zy := 1) ex_57 rfl (by decide)
                      refine lv_iinc (v := x_57) (lv' := [(4, .int x_57), (3, .int z_56), (5, .int 0), (0, .ref h0), (1, .int p0), (2, .int p1)]) hx hb dX9_source_191 hl (k := 2) rfl (by rw [ex_57]; rfl) (by decide) rfl (fun ls hl => ?_)
                      refine lv_goto (tgt := 27) hx hb dX9_source_194 (by decide) ?_
                      exact ih _ _ _ (by first | omega | assumption) (by omega) (lv_sub hl [0, 1, 3, 4, 5] rfl)
                    · refine lv_iload_n hx hb dX9_source_143 rfl (lv_at hl 5 rfl) ?_
                      refine lv_iconst (v := 5) hx hb dX9_source_144 (by decide) ?_
                      refine bi_ne (zx := (p1).toInt) (zy := 5) (tgt := 159) hx hb dX9_source_145 (by decide) rfl (by decide) (fun c_58 => ?_) (fun c_58 => ?_)
                      · refine lv_iload_n hx hb dX9_source_159 rfl (lv_at hl 5 rfl) ?_
                        refine lv_bipush (v := 6) hx hb dX9_source_160 (by decide) ?_
                        refine bi_ne (zx := (p1).toInt) (zy := 6) (tgt := 185) hx hb dX9_source_162 (by decide) rfl (by decide) (fun c_59 => ?_) (fun c_59 => ?_)
                        · refine lv_iconst (v := 0) hx hb dX9_source_185 (by decide) ?_
                          refine vp_callSi (zrS (As := [.int 0]) (rest := [.int x]) (wc := []) ⟨hx, hb, hml, hown, hts⟩ hN hK hP hD (m_one0 l D  ) (va_cwS 1 hts gX9_source_X9_one rfl rfl rfl (by decide +kernel) ⟨Nat.le_trans (m := 1) (Nat.le_of_ble_eq_true rfl) hR.1, Nat.le_trans (m := 20) (Nat.le_of_ble_eq_true rfl) hR.2⟩) [] [] rfl rfl (by decide) rfl hl.1 rfl (Nat.le_of_ble_eq_true rfl) dX9_source_186 ⟨hcs.1, hcs.2⟩) (fun r_60 h_61 => ?_)
                          subst h_61
                          refine lv_iadd hx hb dX9_source_189 ?_
                          refine lv_topi (fun z_62 ez_62 => ?_)
                          have tz_62 := ad_toInt (zx := (x).toInt) (zy := 0) ez_62 rfl (by decide)
                          refine lv_istore_n (lv' := [(3, .int z_62), (5, .int 0), (4, .int k), (0, .ref h0), (1, .int p0), (2, .int p1)]) hx hb dX9_source_190 rfl hl (by decide) rfl (fun ls hl => ?_)
                          obtain ⟨x_63, ex_63⟩ : ∃ z : Int32, z = k + 1 := ⟨_, rfl⟩
                          have tx_63 := ad_toInt (x := k) (y := 1) (z := x_63) (zx := (k).toInt) (zy := 1) ex_63 rfl (by decide)
                          refine lv_iinc (v := x_63) (lv' := [(4, .int x_63), (3, .int z_62), (5, .int 0), (0, .ref h0), (1, .int p0), (2, .int p1)]) hx hb dX9_source_191 hl (k := 2) rfl (by rw [ex_63]; rfl) (by decide) rfl (fun ls hl => ?_)
                          refine lv_goto (tgt := 27) hx hb dX9_source_194 (by decide) ?_
                          exact ih _ _ _ (by first | omega | assumption) (by omega) (lv_sub hl [0, 1, 3, 4, 5] rfl)
                        · refine lv_aload_n hx hb dX9_source_165 rfl (lv_at hl 3 rfl) ?_
                          refine va_get (D := D) (ci := 9) (v := .ref b8) (C := RX9) (T := TX9) (N := 37) hx hb hts hin_X9 hown hK hP 0 rfl rfl 14 (by decide) (hts (.fieldLink RX9 38 "CryOrderModel" "state" "[I") (List.mem_cons_of_mem _ (List.mem_append_left _ (List.mem_of_getElem? (i := 5) rfl)))) (fun _ h9 => h9) rfl dX9_source_166 ?_
                          refine lv_iload hx hb dX9_source_169 (lv_at hl 1 rfl) ?_
                          refine va_iald hx hb hK hP 5 4 rfl rfl (vp_in_iff.mpr (by omega)) dX9_source_171 ?_
                          refine lv_topi (fun z_64 ez_64 => ?_)
                          have qz_64 : (z_64).toInt = (z_52).toInt := by rw [ez_64, ez_52]
                          refine lv_iconst (v := 1) hx hb dX9_source_172 (by decide) ?_
                          refine bi_ne (zx := (z_64).toInt) (zy := 1) (tgt := 185) hx hb dX9_source_173 (by decide) rfl (by decide) (fun c_65 => ?_) (fun c_65 => ?_)
                          · refine lv_iconst (v := 0) hx hb dX9_source_185 (by decide) ?_
                            refine vp_callSi (zrS (As := [.int 0]) (rest := [.int x]) (wc := []) ⟨hx, hb, hml, hown, hts⟩ hN hK hP hD (m_one0 l D  ) (va_cwS 1 hts gX9_source_X9_one rfl rfl rfl (by decide +kernel) ⟨Nat.le_trans (m := 1) (Nat.le_of_ble_eq_true rfl) hR.1, Nat.le_trans (m := 20) (Nat.le_of_ble_eq_true rfl) hR.2⟩) [] [] rfl rfl (by decide) rfl hl.1 rfl (Nat.le_of_ble_eq_true rfl) dX9_source_186 ⟨hcs.1, hcs.2⟩) (fun r_66 h_67 => ?_)
                            subst h_67
                            refine lv_iadd hx hb dX9_source_189 ?_
                            refine lv_topi (fun z_68 ez_68 => ?_)
                            have tz_68 := ad_toInt (zx := (x).toInt) (zy := 0) ez_68 rfl (by decide)
                            refine lv_istore_n (lv' := [(3, .int z_68), (5, .int 0), (4, .int k), (0, .ref h0), (1, .int p0), (2, .int p1)]) hx hb dX9_source_190 rfl hl (by decide) rfl (fun ls hl => ?_)
                            obtain ⟨x_69, ex_69⟩ : ∃ z : Int32, z = k + 1 := ⟨_, rfl⟩
                            have tx_69 := ad_toInt (x := k) (y := 1) (z := x_69) (zx := (k).toInt) (zy := 1) ex_69 rfl (by decide)
                            refine lv_iinc (v := x_69) (lv' := [(4, .int x_69), (3, .int z_68), (5, .int 0), (0, .ref h0), (1, .int p0), (2, .int p1)]) hx hb dX9_source_191 hl (k := 2) rfl (by rw [ex_69]; rfl) (by decide) rfl (fun ls hl => ?_)
                            refine lv_goto (tgt := 27) hx hb dX9_source_194 (by decide) ?_
                            exact ih _ _ _ (by first | omega | assumption) (by omega) (lv_sub hl [0, 1, 3, 4, 5] rfl)
                          · refine lv_iload hx hb dX9_source_176 (lv_at hl 0 rfl) ?_
                            refine lv_if_ne (tgt := 185) hx hb dX9_source_178 (by decide) (fun c_ => absurd c_ (by decide)) (fun _ => ?_)
                            refine lv_iconst (v := 1) hx hb dX9_source_181 (by decide) ?_
                            refine lv_goto (tgt := 186) hx hb dX9_source_182 (by decide) ?_
                            refine vp_callSi (zrS (As := [.int 1]) (rest := [.int x]) (wc := []) ⟨hx, hb, hml, hown, hts⟩ hN hK hP hD (m_one1 l D  ) (va_cwS 1 hts gX9_source_X9_one rfl rfl rfl (by decide +kernel) ⟨Nat.le_trans (m := 1) (Nat.le_of_ble_eq_true rfl) hR.1, Nat.le_trans (m := 20) (Nat.le_of_ble_eq_true rfl) hR.2⟩) [] [] rfl rfl (by decide) rfl hl.1 rfl (Nat.le_of_ble_eq_true rfl) dX9_source_186 ⟨hcs.1, hcs.2⟩) (fun r_70 h_71 => ?_)
                            subst h_71
                            refine lv_iadd hx hb dX9_source_189 ?_
                            refine lv_topi (fun z_72 ez_72 => ?_)
                            have tz_72 := ad_toInt (zx := (x).toInt) (zy := 1) ez_72 rfl (by decide)
                            refine lv_istore_n (lv' := [(3, .int z_72), (5, .int 0), (4, .int k), (0, .ref h0), (1, .int p0), (2, .int p1)]) hx hb dX9_source_190 rfl hl (by decide) rfl (fun ls hl => ?_)
                            obtain ⟨x_73, ex_73⟩ : ∃ z : Int32, z = k + 1 := ⟨_, rfl⟩
                            have tx_73 := ad_toInt (x := k) (y := 1) (z := x_73) (zx := (k).toInt) (zy := 1) ex_73 rfl (by decide)
                            refine lv_iinc (v := x_73) (lv' := [(4, .int x_73), (3, .int z_72), (5, .int 0), (0, .ref h0), (1, .int p0), (2, .int p1)]) hx hb dX9_source_191 hl (k := 2) rfl (by rw [ex_73]; rfl) (by decide) rfl (fun ls hl => ?_)
                            refine lv_goto (tgt := 27) hx hb dX9_source_194 (by decide) ?_
                            exact ih _ _ _ (by first | omega | assumption) (by omega) (lv_sub hl [0, 1, 3, 4, 5] rfl)
                      · refine lv_aload_n hx hb dX9_source_148 rfl (lv_at hl 3 rfl) ?_
                        refine va_get (D := D) (ci := 9) (v := .ref b8) (C := RX9) (T := TX9) (N := 37) hx hb hts hin_X9 hown hK hP 0 rfl rfl 14 (by decide) (hts (.fieldLink RX9 38 "CryOrderModel" "state" "[I") (List.mem_cons_of_mem _ (List.mem_append_left _ (List.mem_of_getElem? (i := 5) rfl)))) (fun _ h9 => h9) rfl dX9_source_149 ?_
                        refine lv_iload hx hb dX9_source_152 (lv_at hl 1 rfl) ?_
                        refine va_iald hx hb hK hP 5 4 rfl rfl (vp_in_iff.mpr (by omega)) dX9_source_154 ?_
                        refine lv_topi (fun z_74 ez_74 => ?_)
                        have qz_74 : (z_74).toInt = (z_52).toInt := by rw [ez_74, ez_52]
                        refine lv_iconst (v := 2) hx hb dX9_source_155 (by decide) ?_
                        refine bi_eq (zx := (z_74).toInt) (zy := 2) (tgt := 181) hx hb dX9_source_156 (by decide) rfl (by decide) (fun c_75 => ?_) (fun c_75 => ?_)
                        · refine lv_iconst (v := 1) hx hb dX9_source_181 (by decide) ?_
                          refine lv_goto (tgt := 186) hx hb dX9_source_182 (by decide) ?_
                          refine vp_callSi (zrS (As := [.int 1]) (rest := [.int x]) (wc := []) ⟨hx, hb, hml, hown, hts⟩ hN hK hP hD (m_one1 l D  ) (va_cwS 1 hts gX9_source_X9_one rfl rfl rfl (by decide +kernel) ⟨Nat.le_trans (m := 1) (Nat.le_of_ble_eq_true rfl) hR.1, Nat.le_trans (m := 20) (Nat.le_of_ble_eq_true rfl) hR.2⟩) [] [] rfl rfl (by decide) rfl hl.1 rfl (Nat.le_of_ble_eq_true rfl) dX9_source_186 ⟨hcs.1, hcs.2⟩) (fun r_76 h_77 => ?_)
                          subst h_77
                          refine lv_iadd hx hb dX9_source_189 ?_
                          refine lv_topi (fun z_78 ez_78 => ?_)
                          have tz_78 := ad_toInt (zx := (x).toInt) (zy := 1) ez_78 rfl (by decide)
                          refine lv_istore_n (lv' := [(3, .int z_78), (5, .int 0), (4, .int k), (0, .ref h0), (1, .int p0), (2, .int p1)]) hx hb dX9_source_190 rfl hl (by decide) rfl (fun ls hl => ?_)
                          obtain ⟨x_79, ex_79⟩ : ∃ z : Int32, z = k + 1 := ⟨_, rfl⟩
                          have tx_79 := ad_toInt (x := k) (y := 1) (z := x_79) (zx := (k).toInt) (zy := 1) ex_79 rfl (by decide)
                          refine lv_iinc (v := x_79) (lv' := [(4, .int x_79), (3, .int z_78), (5, .int 0), (0, .ref h0), (1, .int p0), (2, .int p1)]) hx hb dX9_source_191 hl (k := 2) rfl (by rw [ex_79]; rfl) (by decide) rfl (fun ls hl => ?_)
                          refine lv_goto (tgt := 27) hx hb dX9_source_194 (by decide) ?_
                          exact ih _ _ _ (by first | omega | assumption) (by omega) (lv_sub hl [0, 1, 3, 4, 5] rfl)
                        · refine lv_iload_n hx hb dX9_source_159 rfl (lv_at hl 5 rfl) ?_
                          refine lv_bipush (v := 6) hx hb dX9_source_160 (by decide) ?_
                          refine bi_ne (zx := (p1).toInt) (zy := 6) (tgt := 185) hx hb dX9_source_162 (by decide) rfl (by decide) (fun c_80 => ?_) (fun c_80 => ?_)
                          · refine lv_iconst (v := 0) hx hb dX9_source_185 (by decide) ?_
                            refine vp_callSi (zrS (As := [.int 0]) (rest := [.int x]) (wc := []) ⟨hx, hb, hml, hown, hts⟩ hN hK hP hD (m_one0 l D  ) (va_cwS 1 hts gX9_source_X9_one rfl rfl rfl (by decide +kernel) ⟨Nat.le_trans (m := 1) (Nat.le_of_ble_eq_true rfl) hR.1, Nat.le_trans (m := 20) (Nat.le_of_ble_eq_true rfl) hR.2⟩) [] [] rfl rfl (by decide) rfl hl.1 rfl (Nat.le_of_ble_eq_true rfl) dX9_source_186 ⟨hcs.1, hcs.2⟩) (fun r_81 h_82 => ?_)
                            subst h_82
                            refine lv_iadd hx hb dX9_source_189 ?_
                            refine lv_topi (fun z_83 ez_83 => ?_)
                            have tz_83 := ad_toInt (zx := (x).toInt) (zy := 0) ez_83 rfl (by decide)
                            refine lv_istore_n (lv' := [(3, .int z_83), (5, .int 0), (4, .int k), (0, .ref h0), (1, .int p0), (2, .int p1)]) hx hb dX9_source_190 rfl hl (by decide) rfl (fun ls hl => ?_)
                            obtain ⟨x_84, ex_84⟩ : ∃ z : Int32, z = k + 1 := ⟨_, rfl⟩
                            have tx_84 := ad_toInt (x := k) (y := 1) (z := x_84) (zx := (k).toInt) (zy := 1) ex_84 rfl (by decide)
                            refine lv_iinc (v := x_84) (lv' := [(4, .int x_84), (3, .int z_83), (5, .int 0), (0, .ref h0), (1, .int p0), (2, .int p1)]) hx hb dX9_source_191 hl (k := 2) rfl (by rw [ex_84]; rfl) (by decide) rfl (fun ls hl => ?_)
                            refine lv_goto (tgt := 27) hx hb dX9_source_194 (by decide) ?_
                            exact ih _ _ _ (by first | omega | assumption) (by omega) (lv_sub hl [0, 1, 3, 4, 5] rfl)
                          · refine lv_aload_n hx hb dX9_source_165 rfl (lv_at hl 3 rfl) ?_
                            refine va_get (D := D) (ci := 9) (v := .ref b8) (C := RX9) (T := TX9) (N := 37) hx hb hts hin_X9 hown hK hP 0 rfl rfl 14 (by decide) (hts (.fieldLink RX9 38 "CryOrderModel" "state" "[I") (List.mem_cons_of_mem _ (List.mem_append_left _ (List.mem_of_getElem? (i := 5) rfl)))) (fun _ h9 => h9) rfl dX9_source_166 ?_
                            refine lv_iload hx hb dX9_source_169 (lv_at hl 1 rfl) ?_
                            refine va_iald hx hb hK hP 5 4 rfl rfl (vp_in_iff.mpr (by omega)) dX9_source_171 ?_
                            refine lv_topi (fun z_85 ez_85 => ?_)
                            have qz_85 : (z_85).toInt = (z_52).toInt := by rw [ez_85, ez_52]
                            refine lv_iconst (v := 1) hx hb dX9_source_172 (by decide) ?_
                            refine bi_ne (zx := (z_85).toInt) (zy := 1) (tgt := 185) hx hb dX9_source_173 (by decide) rfl (by decide) (fun c_86 => ?_) (fun c_86 => ?_)
                            · refine lv_iconst (v := 0) hx hb dX9_source_185 (by decide) ?_
                              refine vp_callSi (zrS (As := [.int 0]) (rest := [.int x]) (wc := []) ⟨hx, hb, hml, hown, hts⟩ hN hK hP hD (m_one0 l D  ) (va_cwS 1 hts gX9_source_X9_one rfl rfl rfl (by decide +kernel) ⟨Nat.le_trans (m := 1) (Nat.le_of_ble_eq_true rfl) hR.1, Nat.le_trans (m := 20) (Nat.le_of_ble_eq_true rfl) hR.2⟩) [] [] rfl rfl (by decide) rfl hl.1 rfl (Nat.le_of_ble_eq_true rfl) dX9_source_186 ⟨hcs.1, hcs.2⟩) (fun r_87 h_88 => ?_)
                              subst h_88
                              refine lv_iadd hx hb dX9_source_189 ?_
                              refine lv_topi (fun z_89 ez_89 => ?_)
                              have tz_89 := ad_toInt (zx := (x).toInt) (zy := 0) ez_89 rfl (by decide)
                              refine lv_istore_n (lv' := [(3, .int z_89), (5, .int 0), (4, .int k), (0, .ref h0), (1, .int p0), (2, .int p1)]) hx hb dX9_source_190 rfl hl (by decide) rfl (fun ls hl => ?_)
                              obtain ⟨x_90, ex_90⟩ : ∃ z : Int32, z = k + 1 := ⟨_, rfl⟩
                              have tx_90 := ad_toInt (x := k) (y := 1) (z := x_90) (zx := (k).toInt) (zy := 1) ex_90 rfl (by decide)
                              refine lv_iinc (v := x_90) (lv' := [(4, .int x_90), (3, .int z_89), (5, .int 0), (0, .ref h0), (1, .int p0), (2, .int p1)]) hx hb dX9_source_191 hl (k := 2) rfl (by rw [ex_90]; rfl) (by decide) rfl (fun ls hl => ?_)
                              refine lv_goto (tgt := 27) hx hb dX9_source_194 (by decide) ?_
                              exact ih _ _ _ (by first | omega | assumption) (by omega) (lv_sub hl [0, 1, 3, 4, 5] rfl)
                            · refine lv_iload hx hb dX9_source_176 (lv_at hl 0 rfl) ?_
                              refine lv_if_ne (tgt := 185) hx hb dX9_source_178 (by decide) (fun c_ => absurd c_ (by decide)) (fun _ => ?_)
                              refine lv_iconst (v := 1) hx hb dX9_source_181 (by decide) ?_
                              refine lv_goto (tgt := 186) hx hb dX9_source_182 (by decide) ?_
                              refine vp_callSi (zrS (As := [.int 1]) (rest := [.int x]) (wc := []) ⟨hx, hb, hml, hown, hts⟩ hN hK hP hD (m_one1 l D  ) (va_cwS 1 hts gX9_source_X9_one rfl rfl rfl (by decide +kernel) ⟨Nat.le_trans (m := 1) (Nat.le_of_ble_eq_true rfl) hR.1, Nat.le_trans (m := 20) (Nat.le_of_ble_eq_true rfl) hR.2⟩) [] [] rfl rfl (by decide) rfl hl.1 rfl (Nat.le_of_ble_eq_true rfl) dX9_source_186 ⟨hcs.1, hcs.2⟩) (fun r_91 h_92 => ?_)
                              subst h_92
                              refine lv_iadd hx hb dX9_source_189 ?_
                              refine lv_topi (fun z_93 ez_93 => ?_)
                              have tz_93 := ad_toInt (zx := (x).toInt) (zy := 1) ez_93 rfl (by decide)
                              refine lv_istore_n (lv' := [(3, .int z_93), (5, .int 0), (4, .int k), (0, .ref h0), (1, .int p0), (2, .int p1)]) hx hb dX9_source_190 rfl hl (by decide) rfl (fun ls hl => ?_)
                              obtain ⟨x_94, ex_94⟩ : ∃ z : Int32, z = k + 1 := ⟨_, rfl⟩
                              have tx_94 := ad_toInt (x := k) (y := 1) (z := x_94) (zx := (k).toInt) (zy := 1) ex_94 rfl (by decide)
                              refine lv_iinc (v := x_94) (lv' := [(4, .int x_94), (3, .int z_93), (5, .int 0), (0, .ref h0), (1, .int p0), (2, .int p1)]) hx hb dX9_source_191 hl (k := 2) rfl (by rw [ex_94]; rfl) (by decide) rfl (fun ls hl => ?_)
                              refine lv_goto (tgt := 27) hx hb dX9_source_194 (by decide) ?_
                              exact ih _ _ _ (by first | omega | assumption) (by omega) (lv_sub hl [0, 1, 3, 4, 5] rfl)
                · refine lv_aload_n hx hb dX9_source_117 rfl (lv_at hl 3 rfl) ?_
                  refine va_get (D := D) (ci := 9) (v := .ref b12) (C := RX9) (T := TX9) (N := 37) hx hb hts hin_X9 hown hK hP 0 rfl rfl 18 (by decide) (hts (.fieldLink RX9 51 "CryOrderModel" "isCapped" "[Z") (List.mem_cons_of_mem _ (List.mem_append_left _ (List.mem_of_getElem? (i := 3) rfl)))) (fun _ h9 => h9) rfl dX9_source_118 ?_
                  refine lv_iload hx hb dX9_source_121 (lv_at hl 1 rfl) ?_
                  refine va_zald hx hb hK hP 3 2 rfl rfl (vp_in_iff.mpr (by omega)) dX9_source_123 ?_
                  refine lv_topi (fun z_95 ez_95 => ?_)
                  refine bz_ne (zx := (z_95).toInt) (tgt := 181) hx hb dX9_source_124 (by decide) rfl (fun c_96 => ?_) (fun c_96 => ?_)
                  · refine lv_iconst (v := 1) hx hb dX9_source_181 (by decide) ?_
                    refine lv_goto (tgt := 186) hx hb dX9_source_182 (by decide) ?_
                    refine vp_callSi (zrS (As := [.int 1]) (rest := [.int x]) (wc := []) ⟨hx, hb, hml, hown, hts⟩ hN hK hP hD (m_one1 l D  ) (va_cwS 1 hts gX9_source_X9_one rfl rfl rfl (by decide +kernel) ⟨Nat.le_trans (m := 1) (Nat.le_of_ble_eq_true rfl) hR.1, Nat.le_trans (m := 20) (Nat.le_of_ble_eq_true rfl) hR.2⟩) [] [] rfl rfl (by decide) rfl hl.1 rfl (Nat.le_of_ble_eq_true rfl) dX9_source_186 ⟨hcs.1, hcs.2⟩) (fun r_97 h_98 => ?_)
                    subst h_98
                    refine lv_iadd hx hb dX9_source_189 ?_
                    refine lv_topi (fun z_99 ez_99 => ?_)
                    have tz_99 := ad_toInt (zx := (x).toInt) (zy := 1) ez_99 rfl (by decide)
                    refine lv_istore_n (lv' := [(3, .int z_99), (5, .int 0), (4, .int k), (0, .ref h0), (1, .int p0), (2, .int p1)]) hx hb dX9_source_190 rfl hl (by decide) rfl (fun ls hl => ?_)
                    obtain ⟨x_100, ex_100⟩ : ∃ z : Int32, z = k + 1 := ⟨_, rfl⟩
                    have tx_100 := ad_toInt (x := k) (y := 1) (z := x_100) (zx := (k).toInt) (zy := 1) ex_100 rfl (by decide)
                    refine lv_iinc (v := x_100) (lv' := [(4, .int x_100), (3, .int z_99), (5, .int 0), (0, .ref h0), (1, .int p0), (2, .int p1)]) hx hb dX9_source_191 hl (k := 2) rfl (by rw [ex_100]; rfl) (by decide) rfl (fun ls hl => ?_)
                    refine lv_goto (tgt := 27) hx hb dX9_source_194 (by decide) ?_
                    exact ih _ _ _ (by first | omega | assumption) (by omega) (lv_sub hl [0, 1, 3, 4, 5] rfl)
                  · refine lv_iload_n hx hb dX9_source_127 rfl (lv_at hl 5 rfl) ?_
                    refine lv_iconst (v := 4) hx hb dX9_source_128 (by decide) ?_
                    refine bi_ne (zx := (p1).toInt) (zy := 4) (tgt := 143) hx hb dX9_source_129 (by decide) rfl (by decide) (fun c_101 => ?_) (fun c_101 => ?_)
                    · refine lv_iload_n hx hb dX9_source_143 rfl (lv_at hl 5 rfl) ?_
                      refine lv_iconst (v := 5) hx hb dX9_source_144 (by decide) ?_
                      refine bi_ne (zx := (p1).toInt) (zy := 5) (tgt := 159) hx hb dX9_source_145 (by decide) rfl (by decide) (fun c_102 => ?_) (fun c_102 => ?_)
                      · refine lv_iload_n hx hb dX9_source_159 rfl (lv_at hl 5 rfl) ?_
                        refine lv_bipush (v := 6) hx hb dX9_source_160 (by decide) ?_
                        refine bi_ne (zx := (p1).toInt) (zy := 6) (tgt := 185) hx hb dX9_source_162 (by decide) rfl (by decide) (fun c_103 => ?_) (fun c_103 => ?_)
                        · refine lv_iconst (v := 0) hx hb dX9_source_185 (by decide) ?_
                          refine vp_callSi (zrS (As := [.int 0]) (rest := [.int x]) (wc := []) ⟨hx, hb, hml, hown, hts⟩ hN hK hP hD (m_one0 l D  ) (va_cwS 1 hts gX9_source_X9_one rfl rfl rfl (by decide +kernel) ⟨Nat.le_trans (m := 1) (Nat.le_of_ble_eq_true rfl) hR.1, Nat.le_trans (m := 20) (Nat.le_of_ble_eq_true rfl) hR.2⟩) [] [] rfl rfl (by decide) rfl hl.1 rfl (Nat.le_of_ble_eq_true rfl) dX9_source_186 ⟨hcs.1, hcs.2⟩) (fun r_104 h_105 => ?_)
                          subst h_105
                          refine lv_iadd hx hb dX9_source_189 ?_
                          refine lv_topi (fun z_106 ez_106 => ?_)
                          have tz_106 := ad_toInt (zx := (x).toInt) (zy := 0) ez_106 rfl (by decide)
                          refine lv_istore_n (lv' := [(3, .int z_106), (5, .int 0), (4, .int k), (0, .ref h0), (1, .int p0), (2, .int p1)]) hx hb dX9_source_190 rfl hl (by decide) rfl (fun ls hl => ?_)
                          obtain ⟨x_107, ex_107⟩ : ∃ z : Int32, z = k + 1 := ⟨_, rfl⟩
                          have tx_107 := ad_toInt (x := k) (y := 1) (z := x_107) (zx := (k).toInt) (zy := 1) ex_107 rfl (by decide)
                          refine lv_iinc (v := x_107) (lv' := [(4, .int x_107), (3, .int z_106), (5, .int 0), (0, .ref h0), (1, .int p0), (2, .int p1)]) hx hb dX9_source_191 hl (k := 2) rfl (by rw [ex_107]; rfl) (by decide) rfl (fun ls hl => ?_)
                          refine lv_goto (tgt := 27) hx hb dX9_source_194 (by decide) ?_
                          exact ih _ _ _ (by first | omega | assumption) (by omega) (lv_sub hl [0, 1, 3, 4, 5] rfl)
                        · refine lv_aload_n hx hb dX9_source_165 rfl (lv_at hl 3 rfl) ?_
                          refine va_get (D := D) (ci := 9) (v := .ref b8) (C := RX9) (T := TX9) (N := 37) hx hb hts hin_X9 hown hK hP 0 rfl rfl 14 (by decide) (hts (.fieldLink RX9 38 "CryOrderModel" "state" "[I") (List.mem_cons_of_mem _ (List.mem_append_left _ (List.mem_of_getElem? (i := 5) rfl)))) (fun _ h9 => h9) rfl dX9_source_166 ?_
                          refine lv_iload hx hb dX9_source_169 (lv_at hl 1 rfl) ?_
                          refine va_iald hx hb hK hP 5 4 rfl rfl (vp_in_iff.mpr (by omega)) dX9_source_171 ?_
                          refine lv_topi (fun z_108 ez_108 => ?_)
                          refine lv_iconst (v := 1) hx hb dX9_source_172 (by decide) ?_
                          refine bi_ne (zx := (z_108).toInt) (zy := 1) (tgt := 185) hx hb dX9_source_173 (by decide) rfl (by decide) (fun c_109 => ?_) (fun c_109 => ?_)
                          · refine lv_iconst (v := 0) hx hb dX9_source_185 (by decide) ?_
                            refine vp_callSi (zrS (As := [.int 0]) (rest := [.int x]) (wc := []) ⟨hx, hb, hml, hown, hts⟩ hN hK hP hD (m_one0 l D  ) (va_cwS 1 hts gX9_source_X9_one rfl rfl rfl (by decide +kernel) ⟨Nat.le_trans (m := 1) (Nat.le_of_ble_eq_true rfl) hR.1, Nat.le_trans (m := 20) (Nat.le_of_ble_eq_true rfl) hR.2⟩) [] [] rfl rfl (by decide) rfl hl.1 rfl (Nat.le_of_ble_eq_true rfl) dX9_source_186 ⟨hcs.1, hcs.2⟩) (fun r_110 h_111 => ?_)
                            subst h_111
                            refine lv_iadd hx hb dX9_source_189 ?_
                            refine lv_topi (fun z_112 ez_112 => ?_)
                            have tz_112 := ad_toInt (zx := (x).toInt) (zy := 0) ez_112 rfl (by decide)
                            refine lv_istore_n (lv' := [(3, .int z_112), (5, .int 0), (4, .int k), (0, .ref h0), (1, .int p0), (2, .int p1)]) hx hb dX9_source_190 rfl hl (by decide) rfl (fun ls hl => ?_)
                            obtain ⟨x_113, ex_113⟩ : ∃ z : Int32, z = k + 1 := ⟨_, rfl⟩
                            have tx_113 := ad_toInt (x := k) (y := 1) (z := x_113) (zx := (k).toInt) (zy := 1) ex_113 rfl (by decide)
                            refine lv_iinc (v := x_113) (lv' := [(4, .int x_113), (3, .int z_112), (5, .int 0), (0, .ref h0), (1, .int p0), (2, .int p1)]) hx hb dX9_source_191 hl (k := 2) rfl (by rw [ex_113]; rfl) (by decide) rfl (fun ls hl => ?_)
                            refine lv_goto (tgt := 27) hx hb dX9_source_194 (by decide) ?_
                            exact ih _ _ _ (by first | omega | assumption) (by omega) (lv_sub hl [0, 1, 3, 4, 5] rfl)
                          · refine lv_iload hx hb dX9_source_176 (lv_at hl 0 rfl) ?_
                            refine lv_if_ne (tgt := 185) hx hb dX9_source_178 (by decide) (fun c_ => absurd c_ (by decide)) (fun _ => ?_)
                            refine lv_iconst (v := 1) hx hb dX9_source_181 (by decide) ?_
                            refine lv_goto (tgt := 186) hx hb dX9_source_182 (by decide) ?_
                            refine vp_callSi (zrS (As := [.int 1]) (rest := [.int x]) (wc := []) ⟨hx, hb, hml, hown, hts⟩ hN hK hP hD (m_one1 l D  ) (va_cwS 1 hts gX9_source_X9_one rfl rfl rfl (by decide +kernel) ⟨Nat.le_trans (m := 1) (Nat.le_of_ble_eq_true rfl) hR.1, Nat.le_trans (m := 20) (Nat.le_of_ble_eq_true rfl) hR.2⟩) [] [] rfl rfl (by decide) rfl hl.1 rfl (Nat.le_of_ble_eq_true rfl) dX9_source_186 ⟨hcs.1, hcs.2⟩) (fun r_114 h_115 => ?_)
                            subst h_115
                            refine lv_iadd hx hb dX9_source_189 ?_
                            refine lv_topi (fun z_116 ez_116 => ?_)
                            have tz_116 := ad_toInt (zx := (x).toInt) (zy := 1) ez_116 rfl (by decide)
                            refine lv_istore_n (lv' := [(3, .int z_116), (5, .int 0), (4, .int k), (0, .ref h0), (1, .int p0), (2, .int p1)]) hx hb dX9_source_190 rfl hl (by decide) rfl (fun ls hl => ?_)
                            obtain ⟨x_117, ex_117⟩ : ∃ z : Int32, z = k + 1 := ⟨_, rfl⟩
                            have tx_117 := ad_toInt (x := k) (y := 1) (z := x_117) (zx := (k).toInt) (zy := 1) ex_117 rfl (by decide)
                            refine lv_iinc (v := x_117) (lv' := [(4, .int x_117), (3, .int z_116), (5, .int 0), (0, .ref h0), (1, .int p0), (2, .int p1)]) hx hb dX9_source_191 hl (k := 2) rfl (by rw [ex_117]; rfl) (by decide) rfl (fun ls hl => ?_)
                            refine lv_goto (tgt := 27) hx hb dX9_source_194 (by decide) ?_
                            exact ih _ _ _ (by first | omega | assumption) (by omega) (lv_sub hl [0, 1, 3, 4, 5] rfl)
                      · refine lv_aload_n hx hb dX9_source_148 rfl (lv_at hl 3 rfl) ?_
                        refine va_get (D := D) (ci := 9) (v := .ref b8) (C := RX9) (T := TX9) (N := 37) hx hb hts hin_X9 hown hK hP 0 rfl rfl 14 (by decide) (hts (.fieldLink RX9 38 "CryOrderModel" "state" "[I") (List.mem_cons_of_mem _ (List.mem_append_left _ (List.mem_of_getElem? (i := 5) rfl)))) (fun _ h9 => h9) rfl dX9_source_149 ?_
                        refine lv_iload hx hb dX9_source_152 (lv_at hl 1 rfl) ?_
                        refine va_iald hx hb hK hP 5 4 rfl rfl (vp_in_iff.mpr (by omega)) dX9_source_154 ?_
                        refine lv_topi (fun z_118 ez_118 => ?_)
                        refine lv_iconst (v := 2) hx hb dX9_source_155 (by decide) ?_
                        refine bi_eq (zx := (z_118).toInt) (zy := 2) (tgt := 181) hx hb dX9_source_156 (by decide) rfl (by decide) (fun c_119 => ?_) (fun c_119 => ?_)
                        · refine lv_iconst (v := 1) hx hb dX9_source_181 (by decide) ?_
                          refine lv_goto (tgt := 186) hx hb dX9_source_182 (by decide) ?_
                          refine vp_callSi (zrS (As := [.int 1]) (rest := [.int x]) (wc := []) ⟨hx, hb, hml, hown, hts⟩ hN hK hP hD (m_one1 l D  ) (va_cwS 1 hts gX9_source_X9_one rfl rfl rfl (by decide +kernel) ⟨Nat.le_trans (m := 1) (Nat.le_of_ble_eq_true rfl) hR.1, Nat.le_trans (m := 20) (Nat.le_of_ble_eq_true rfl) hR.2⟩) [] [] rfl rfl (by decide) rfl hl.1 rfl (Nat.le_of_ble_eq_true rfl) dX9_source_186 ⟨hcs.1, hcs.2⟩) (fun r_120 h_121 => ?_)
                          subst h_121
                          refine lv_iadd hx hb dX9_source_189 ?_
                          refine lv_topi (fun z_122 ez_122 => ?_)
                          have tz_122 := ad_toInt (zx := (x).toInt) (zy := 1) ez_122 rfl (by decide)
                          refine lv_istore_n (lv' := [(3, .int z_122), (5, .int 0), (4, .int k), (0, .ref h0), (1, .int p0), (2, .int p1)]) hx hb dX9_source_190 rfl hl (by decide) rfl (fun ls hl => ?_)
                          obtain ⟨x_123, ex_123⟩ : ∃ z : Int32, z = k + 1 := ⟨_, rfl⟩
                          have tx_123 := ad_toInt (x := k) (y := 1) (z := x_123) (zx := (k).toInt) (zy := 1) ex_123 rfl (by decide)
                          refine lv_iinc (v := x_123) (lv' := [(4, .int x_123), (3, .int z_122), (5, .int 0), (0, .ref h0), (1, .int p0), (2, .int p1)]) hx hb dX9_source_191 hl (k := 2) rfl (by rw [ex_123]; rfl) (by decide) rfl (fun ls hl => ?_)
                          refine lv_goto (tgt := 27) hx hb dX9_source_194 (by decide) ?_
                          exact ih _ _ _ (by first | omega | assumption) (by omega) (lv_sub hl [0, 1, 3, 4, 5] rfl)
                        · refine lv_iload_n hx hb dX9_source_159 rfl (lv_at hl 5 rfl) ?_
                          refine lv_bipush (v := 6) hx hb dX9_source_160 (by decide) ?_
                          refine bi_ne (zx := (p1).toInt) (zy := 6) (tgt := 185) hx hb dX9_source_162 (by decide) rfl (by decide) (fun c_124 => ?_) (fun c_124 => ?_)
                          · refine lv_iconst (v := 0) hx hb dX9_source_185 (by decide) ?_
                            refine vp_callSi (zrS (As := [.int 0]) (rest := [.int x]) (wc := []) ⟨hx, hb, hml, hown, hts⟩ hN hK hP hD (m_one0 l D  ) (va_cwS 1 hts gX9_source_X9_one rfl rfl rfl (by decide +kernel) ⟨Nat.le_trans (m := 1) (Nat.le_of_ble_eq_true rfl) hR.1, Nat.le_trans (m := 20) (Nat.le_of_ble_eq_true rfl) hR.2⟩) [] [] rfl rfl (by decide) rfl hl.1 rfl (Nat.le_of_ble_eq_true rfl) dX9_source_186 ⟨hcs.1, hcs.2⟩) (fun r_125 h_126 => ?_)
                            subst h_126
                            refine lv_iadd hx hb dX9_source_189 ?_
                            refine lv_topi (fun z_127 ez_127 => ?_)
                            have tz_127 := ad_toInt (zx := (x).toInt) (zy := 0) ez_127 rfl (by decide)
                            refine lv_istore_n (lv' := [(3, .int z_127), (5, .int 0), (4, .int k), (0, .ref h0), (1, .int p0), (2, .int p1)]) hx hb dX9_source_190 rfl hl (by decide) rfl (fun ls hl => ?_)
                            obtain ⟨x_128, ex_128⟩ : ∃ z : Int32, z = k + 1 := ⟨_, rfl⟩
                            have tx_128 := ad_toInt (x := k) (y := 1) (z := x_128) (zx := (k).toInt) (zy := 1) ex_128 rfl (by decide)
                            refine lv_iinc (v := x_128) (lv' := [(4, .int x_128), (3, .int z_127), (5, .int 0), (0, .ref h0), (1, .int p0), (2, .int p1)]) hx hb dX9_source_191 hl (k := 2) rfl (by rw [ex_128]; rfl) (by decide) rfl (fun ls hl => ?_)
                            refine lv_goto (tgt := 27) hx hb dX9_source_194 (by decide) ?_
                            exact ih _ _ _ (by first | omega | assumption) (by omega) (lv_sub hl [0, 1, 3, 4, 5] rfl)
                          · refine lv_aload_n hx hb dX9_source_165 rfl (lv_at hl 3 rfl) ?_
                            refine va_get (D := D) (ci := 9) (v := .ref b8) (C := RX9) (T := TX9) (N := 37) hx hb hts hin_X9 hown hK hP 0 rfl rfl 14 (by decide) (hts (.fieldLink RX9 38 "CryOrderModel" "state" "[I") (List.mem_cons_of_mem _ (List.mem_append_left _ (List.mem_of_getElem? (i := 5) rfl)))) (fun _ h9 => h9) rfl dX9_source_166 ?_
                            refine lv_iload hx hb dX9_source_169 (lv_at hl 1 rfl) ?_
                            refine va_iald hx hb hK hP 5 4 rfl rfl (vp_in_iff.mpr (by omega)) dX9_source_171 ?_
                            refine lv_topi (fun z_129 ez_129 => ?_)
                            have qz_129 : (z_129).toInt = (z_118).toInt := by rw [ez_129, ez_118]
                            refine lv_iconst (v := 1) hx hb dX9_source_172 (by decide) ?_
                            refine bi_ne (zx := (z_129).toInt) (zy := 1) (tgt := 185) hx hb dX9_source_173 (by decide) rfl (by decide) (fun c_130 => ?_) (fun c_130 => ?_)
                            · refine lv_iconst (v := 0) hx hb dX9_source_185 (by decide) ?_
                              refine vp_callSi (zrS (As := [.int 0]) (rest := [.int x]) (wc := []) ⟨hx, hb, hml, hown, hts⟩ hN hK hP hD (m_one0 l D  ) (va_cwS 1 hts gX9_source_X9_one rfl rfl rfl (by decide +kernel) ⟨Nat.le_trans (m := 1) (Nat.le_of_ble_eq_true rfl) hR.1, Nat.le_trans (m := 20) (Nat.le_of_ble_eq_true rfl) hR.2⟩) [] [] rfl rfl (by decide) rfl hl.1 rfl (Nat.le_of_ble_eq_true rfl) dX9_source_186 ⟨hcs.1, hcs.2⟩) (fun r_131 h_132 => ?_)
                              subst h_132
                              refine lv_iadd hx hb dX9_source_189 ?_
                              refine lv_topi (fun z_133 ez_133 => ?_)
                              have tz_133 := ad_toInt (zx := (x).toInt) (zy := 0) ez_133 rfl (by decide)
                              refine lv_istore_n (lv' := [(3, .int z_133), (5, .int 0), (4, .int k), (0, .ref h0), (1, .int p0), (2, .int p1)]) hx hb dX9_source_190 rfl hl (by decide) rfl (fun ls hl => ?_)
                              obtain ⟨x_134, ex_134⟩ : ∃ z : Int32, z = k + 1 := ⟨_, rfl⟩
                              have tx_134 := ad_toInt (x := k) (y := 1) (z := x_134) (zx := (k).toInt) (zy := 1) ex_134 rfl (by decide)
                              refine lv_iinc (v := x_134) (lv' := [(4, .int x_134), (3, .int z_133), (5, .int 0), (0, .ref h0), (1, .int p0), (2, .int p1)]) hx hb dX9_source_191 hl (k := 2) rfl (by rw [ex_134]; rfl) (by decide) rfl (fun ls hl => ?_)
                              refine lv_goto (tgt := 27) hx hb dX9_source_194 (by decide) ?_
                              exact ih _ _ _ (by first | omega | assumption) (by omega) (lv_sub hl [0, 1, 3, 4, 5] rfl)
                            · refine lv_iload hx hb dX9_source_176 (lv_at hl 0 rfl) ?_
                              refine lv_if_ne (tgt := 185) hx hb dX9_source_178 (by decide) (fun c_ => absurd c_ (by decide)) (fun _ => ?_)
                              refine lv_iconst (v := 1) hx hb dX9_source_181 (by decide) ?_
                              refine lv_goto (tgt := 186) hx hb dX9_source_182 (by decide) ?_
                              refine vp_callSi (zrS (As := [.int 1]) (rest := [.int x]) (wc := []) ⟨hx, hb, hml, hown, hts⟩ hN hK hP hD (m_one1 l D  ) (va_cwS 1 hts gX9_source_X9_one rfl rfl rfl (by decide +kernel) ⟨Nat.le_trans (m := 1) (Nat.le_of_ble_eq_true rfl) hR.1, Nat.le_trans (m := 20) (Nat.le_of_ble_eq_true rfl) hR.2⟩) [] [] rfl rfl (by decide) rfl hl.1 rfl (Nat.le_of_ble_eq_true rfl) dX9_source_186 ⟨hcs.1, hcs.2⟩) (fun r_135 h_136 => ?_)
                              subst h_136
                              refine lv_iadd hx hb dX9_source_189 ?_
                              refine lv_topi (fun z_137 ez_137 => ?_)
                              have tz_137 := ad_toInt (zx := (x).toInt) (zy := 1) ez_137 rfl (by decide)
                              refine lv_istore_n (lv' := [(3, .int z_137), (5, .int 0), (4, .int k), (0, .ref h0), (1, .int p0), (2, .int p1)]) hx hb dX9_source_190 rfl hl (by decide) rfl (fun ls hl => ?_)
                              obtain ⟨x_138, ex_138⟩ : ∃ z : Int32, z = k + 1 := ⟨_, rfl⟩
                              have tx_138 := ad_toInt (x := k) (y := 1) (z := x_138) (zx := (k).toInt) (zy := 1) ex_138 rfl (by decide)
                              refine lv_iinc (v := x_138) (lv' := [(4, .int x_138), (3, .int z_137), (5, .int 0), (0, .ref h0), (1, .int p0), (2, .int p1)]) hx hb dX9_source_191 hl (k := 2) rfl (by rw [ex_138]; rfl) (by decide) rfl (fun ls hl => ?_)
                              refine lv_goto (tgt := 27) hx hb dX9_source_194 (by decide) ?_
                              exact ih _ _ _ (by first | omega | assumption) (by omega) (lv_sub hl [0, 1, 3, 4, 5] rfl)
                    · refine lv_aload_n hx hb dX9_source_132 rfl (lv_at hl 3 rfl) ?_
                      refine va_get (D := D) (ci := 9) (v := .ref b8) (C := RX9) (T := TX9) (N := 37) hx hb hts hin_X9 hown hK hP 0 rfl rfl 14 (by decide) (hts (.fieldLink RX9 38 "CryOrderModel" "state" "[I") (List.mem_cons_of_mem _ (List.mem_append_left _ (List.mem_of_getElem? (i := 5) rfl)))) (fun _ h9 => h9) rfl dX9_source_133 ?_
                      refine lv_iload hx hb dX9_source_136 (lv_at hl 1 rfl) ?_
                      refine va_iald hx hb hK hP 5 4 rfl rfl (vp_in_iff.mpr (by omega)) dX9_source_138 ?_
                      refine lv_topi (fun z_139 ez_139 => ?_)
                      refine lv_iconst (v := 1) hx hb dX9_source_139 (by decide) ?_
                      refine bi_eq (zx := (z_139).toInt) (zy := 1) (tgt := 181) hx hb dX9_source_140 (by decide) rfl (by decide) (fun c_140 => ?_) (fun c_140 => ?_)
                      · refine lv_iconst (v := 1) hx hb dX9_source_181 (by decide) ?_
                        refine lv_goto (tgt := 186) hx hb dX9_source_182 (by decide) ?_
                        refine vp_callSi (zrS (As := [.int 1]) (rest := [.int x]) (wc := []) ⟨hx, hb, hml, hown, hts⟩ hN hK hP hD (m_one1 l D  ) (va_cwS 1 hts gX9_source_X9_one rfl rfl rfl (by decide +kernel) ⟨Nat.le_trans (m := 1) (Nat.le_of_ble_eq_true rfl) hR.1, Nat.le_trans (m := 20) (Nat.le_of_ble_eq_true rfl) hR.2⟩) [] [] rfl rfl (by decide) rfl hl.1 rfl (Nat.le_of_ble_eq_true rfl) dX9_source_186 ⟨hcs.1, hcs.2⟩) (fun r_141 h_142 => ?_)
                        subst h_142
                        refine lv_iadd hx hb dX9_source_189 ?_
                        refine lv_topi (fun z_143 ez_143 => ?_)
                        have tz_143 := ad_toInt (zx := (x).toInt) (zy := 1) ez_143 rfl (by decide)
                        refine lv_istore_n (lv' := [(3, .int z_143), (5, .int 0), (4, .int k), (0, .ref h0), (1, .int p0), (2, .int p1)]) hx hb dX9_source_190 rfl hl (by decide) rfl (fun ls hl => ?_)
                        obtain ⟨x_144, ex_144⟩ : ∃ z : Int32, z = k + 1 := ⟨_, rfl⟩
                        have tx_144 := ad_toInt (x := k) (y := 1) (z := x_144) (zx := (k).toInt) (zy := 1) ex_144 rfl (by decide)
                        refine lv_iinc (v := x_144) (lv' := [(4, .int x_144), (3, .int z_143), (5, .int 0), (0, .ref h0), (1, .int p0), (2, .int p1)]) hx hb dX9_source_191 hl (k := 2) rfl (by rw [ex_144]; rfl) (by decide) rfl (fun ls hl => ?_)
                        refine lv_goto (tgt := 27) hx hb dX9_source_194 (by decide) ?_
                        exact ih _ _ _ (by first | omega | assumption) (by omega) (lv_sub hl [0, 1, 3, 4, 5] rfl)
                      · refine lv_iload_n hx hb dX9_source_143 rfl (lv_at hl 5 rfl) ?_
                        refine lv_iconst (v := 5) hx hb dX9_source_144 (by decide) ?_
                        refine bi_ne (zx := (p1).toInt) (zy := 5) (tgt := 159) hx hb dX9_source_145 (by decide) rfl (by decide) (fun c_145 => ?_) (fun c_145 => ?_)
                        · refine lv_iload_n hx hb dX9_source_159 rfl (lv_at hl 5 rfl) ?_
                          refine lv_bipush (v := 6) hx hb dX9_source_160 (by decide) ?_
                          refine bi_ne (zx := (p1).toInt) (zy := 6) (tgt := 185) hx hb dX9_source_162 (by decide) rfl (by decide) (fun c_146 => ?_) (fun c_146 => ?_)
                          · refine lv_iconst (v := 0) hx hb dX9_source_185 (by decide) ?_
                            refine vp_callSi (zrS (As := [.int 0]) (rest := [.int x]) (wc := []) ⟨hx, hb, hml, hown, hts⟩ hN hK hP hD (m_one0 l D  ) (va_cwS 1 hts gX9_source_X9_one rfl rfl rfl (by decide +kernel) ⟨Nat.le_trans (m := 1) (Nat.le_of_ble_eq_true rfl) hR.1, Nat.le_trans (m := 20) (Nat.le_of_ble_eq_true rfl) hR.2⟩) [] [] rfl rfl (by decide) rfl hl.1 rfl (Nat.le_of_ble_eq_true rfl) dX9_source_186 ⟨hcs.1, hcs.2⟩) (fun r_147 h_148 => ?_)
                            subst h_148
                            refine lv_iadd hx hb dX9_source_189 ?_
                            refine lv_topi (fun z_149 ez_149 => ?_)
                            have tz_149 := ad_toInt (zx := (x).toInt) (zy := 0) ez_149 rfl (by decide)
                            refine lv_istore_n (lv' := [(3, .int z_149), (5, .int 0), (4, .int k), (0, .ref h0), (1, .int p0), (2, .int p1)]) hx hb dX9_source_190 rfl hl (by decide) rfl (fun ls hl => ?_)
                            obtain ⟨x_150, ex_150⟩ : ∃ z : Int32, z = k + 1 := ⟨_, rfl⟩
                            have tx_150 := ad_toInt (x := k) (y := 1) (z := x_150) (zx := (k).toInt) (zy := 1) ex_150 rfl (by decide)
                            refine lv_iinc (v := x_150) (lv' := [(4, .int x_150), (3, .int z_149), (5, .int 0), (0, .ref h0), (1, .int p0), (2, .int p1)]) hx hb dX9_source_191 hl (k := 2) rfl (by rw [ex_150]; rfl) (by decide) rfl (fun ls hl => ?_)
                            refine lv_goto (tgt := 27) hx hb dX9_source_194 (by decide) ?_
                            exact ih _ _ _ (by first | omega | assumption) (by omega) (lv_sub hl [0, 1, 3, 4, 5] rfl)
                          · refine lv_aload_n hx hb dX9_source_165 rfl (lv_at hl 3 rfl) ?_
                            refine va_get (D := D) (ci := 9) (v := .ref b8) (C := RX9) (T := TX9) (N := 37) hx hb hts hin_X9 hown hK hP 0 rfl rfl 14 (by decide) (hts (.fieldLink RX9 38 "CryOrderModel" "state" "[I") (List.mem_cons_of_mem _ (List.mem_append_left _ (List.mem_of_getElem? (i := 5) rfl)))) (fun _ h9 => h9) rfl dX9_source_166 ?_
                            refine lv_iload hx hb dX9_source_169 (lv_at hl 1 rfl) ?_
                            refine va_iald hx hb hK hP 5 4 rfl rfl (vp_in_iff.mpr (by omega)) dX9_source_171 ?_
                            refine lv_topi (fun z_151 ez_151 => ?_)
                            have qz_151 : (z_151).toInt = (z_139).toInt := by rw [ez_151, ez_139]
                            refine lv_iconst (v := 1) hx hb dX9_source_172 (by decide) ?_
                            refine bi_ne (zx := (z_151).toInt) (zy := 1) (tgt := 185) hx hb dX9_source_173 (by decide) rfl (by decide) (fun c_152 => ?_) (fun c_152 => ?_)
                            · refine lv_iconst (v := 0) hx hb dX9_source_185 (by decide) ?_
                              refine vp_callSi (zrS (As := [.int 0]) (rest := [.int x]) (wc := []) ⟨hx, hb, hml, hown, hts⟩ hN hK hP hD (m_one0 l D  ) (va_cwS 1 hts gX9_source_X9_one rfl rfl rfl (by decide +kernel) ⟨Nat.le_trans (m := 1) (Nat.le_of_ble_eq_true rfl) hR.1, Nat.le_trans (m := 20) (Nat.le_of_ble_eq_true rfl) hR.2⟩) [] [] rfl rfl (by decide) rfl hl.1 rfl (Nat.le_of_ble_eq_true rfl) dX9_source_186 ⟨hcs.1, hcs.2⟩) (fun r_153 h_154 => ?_)
                              subst h_154
                              refine lv_iadd hx hb dX9_source_189 ?_
                              refine lv_topi (fun z_155 ez_155 => ?_)
                              have tz_155 := ad_toInt (zx := (x).toInt) (zy := 0) ez_155 rfl (by decide)
                              refine lv_istore_n (lv' := [(3, .int z_155), (5, .int 0), (4, .int k), (0, .ref h0), (1, .int p0), (2, .int p1)]) hx hb dX9_source_190 rfl hl (by decide) rfl (fun ls hl => ?_)
                              obtain ⟨x_156, ex_156⟩ : ∃ z : Int32, z = k + 1 := ⟨_, rfl⟩
                              have tx_156 := ad_toInt (x := k) (y := 1) (z := x_156) (zx := (k).toInt) (zy := 1) ex_156 rfl (by decide)
                              refine lv_iinc (v := x_156) (lv' := [(4, .int x_156), (3, .int z_155), (5, .int 0), (0, .ref h0), (1, .int p0), (2, .int p1)]) hx hb dX9_source_191 hl (k := 2) rfl (by rw [ex_156]; rfl) (by decide) rfl (fun ls hl => ?_)
                              refine lv_goto (tgt := 27) hx hb dX9_source_194 (by decide) ?_
                              exact ih _ _ _ (by first | omega | assumption) (by omega) (lv_sub hl [0, 1, 3, 4, 5] rfl)
                            · refine lv_iload hx hb dX9_source_176 (lv_at hl 0 rfl) ?_
                              refine lv_if_ne (tgt := 185) hx hb dX9_source_178 (by decide) (fun c_ => absurd c_ (by decide)) (fun _ => ?_)
                              refine lv_iconst (v := 1) hx hb dX9_source_181 (by decide) ?_
                              refine lv_goto (tgt := 186) hx hb dX9_source_182 (by decide) ?_
                              refine vp_callSi (zrS (As := [.int 1]) (rest := [.int x]) (wc := []) ⟨hx, hb, hml, hown, hts⟩ hN hK hP hD (m_one1 l D  ) (va_cwS 1 hts gX9_source_X9_one rfl rfl rfl (by decide +kernel) ⟨Nat.le_trans (m := 1) (Nat.le_of_ble_eq_true rfl) hR.1, Nat.le_trans (m := 20) (Nat.le_of_ble_eq_true rfl) hR.2⟩) [] [] rfl rfl (by decide) rfl hl.1 rfl (Nat.le_of_ble_eq_true rfl) dX9_source_186 ⟨hcs.1, hcs.2⟩) (fun r_157 h_158 => ?_)
                              subst h_158
                              refine lv_iadd hx hb dX9_source_189 ?_
                              refine lv_topi (fun z_159 ez_159 => ?_)
                              have tz_159 := ad_toInt (zx := (x).toInt) (zy := 1) ez_159 rfl (by decide)
                              refine lv_istore_n (lv' := [(3, .int z_159), (5, .int 0), (4, .int k), (0, .ref h0), (1, .int p0), (2, .int p1)]) hx hb dX9_source_190 rfl hl (by decide) rfl (fun ls hl => ?_)
                              obtain ⟨x_160, ex_160⟩ : ∃ z : Int32, z = k + 1 := ⟨_, rfl⟩
                              have tx_160 := ad_toInt (x := k) (y := 1) (z := x_160) (zx := (k).toInt) (zy := 1) ex_160 rfl (by decide)
                              refine lv_iinc (v := x_160) (lv' := [(4, .int x_160), (3, .int z_159), (5, .int 0), (0, .ref h0), (1, .int p0), (2, .int p1)]) hx hb dX9_source_191 hl (k := 2) rfl (by rw [ex_160]; rfl) (by decide) rfl (fun ls hl => ?_)
                              refine lv_goto (tgt := 27) hx hb dX9_source_194 (by decide) ?_
                              exact ih _ _ _ (by first | omega | assumption) (by omega) (lv_sub hl [0, 1, 3, 4, 5] rfl)
                        · refine lv_aload_n hx hb dX9_source_148 rfl (lv_at hl 3 rfl) ?_
                          refine va_get (D := D) (ci := 9) (v := .ref b8) (C := RX9) (T := TX9) (N := 37) hx hb hts hin_X9 hown hK hP 0 rfl rfl 14 (by decide) (hts (.fieldLink RX9 38 "CryOrderModel" "state" "[I") (List.mem_cons_of_mem _ (List.mem_append_left _ (List.mem_of_getElem? (i := 5) rfl)))) (fun _ h9 => h9) rfl dX9_source_149 ?_
                          refine lv_iload hx hb dX9_source_152 (lv_at hl 1 rfl) ?_
                          refine va_iald hx hb hK hP 5 4 rfl rfl (vp_in_iff.mpr (by omega)) dX9_source_154 ?_
                          refine lv_topi (fun z_161 ez_161 => ?_)
                          have qz_161 : (z_161).toInt = (z_139).toInt := by rw [ez_161, ez_139]
                          refine lv_iconst (v := 2) hx hb dX9_source_155 (by decide) ?_
                          refine bi_eq (zx := (z_161).toInt) (zy := 2) (tgt := 181) hx hb dX9_source_156 (by decide) rfl (by decide) (fun c_162 => ?_) (fun c_162 => ?_)
                          · refine lv_iconst (v := 1) hx hb dX9_source_181 (by decide) ?_
                            refine lv_goto (tgt := 186) hx hb dX9_source_182 (by decide) ?_
                            refine vp_callSi (zrS (As := [.int 1]) (rest := [.int x]) (wc := []) ⟨hx, hb, hml, hown, hts⟩ hN hK hP hD (m_one1 l D  ) (va_cwS 1 hts gX9_source_X9_one rfl rfl rfl (by decide +kernel) ⟨Nat.le_trans (m := 1) (Nat.le_of_ble_eq_true rfl) hR.1, Nat.le_trans (m := 20) (Nat.le_of_ble_eq_true rfl) hR.2⟩) [] [] rfl rfl (by decide) rfl hl.1 rfl (Nat.le_of_ble_eq_true rfl) dX9_source_186 ⟨hcs.1, hcs.2⟩) (fun r_163 h_164 => ?_)
                            subst h_164
                            refine lv_iadd hx hb dX9_source_189 ?_
                            refine lv_topi (fun z_165 ez_165 => ?_)
                            have tz_165 := ad_toInt (zx := (x).toInt) (zy := 1) ez_165 rfl (by decide)
                            refine lv_istore_n (lv' := [(3, .int z_165), (5, .int 0), (4, .int k), (0, .ref h0), (1, .int p0), (2, .int p1)]) hx hb dX9_source_190 rfl hl (by decide) rfl (fun ls hl => ?_)
                            obtain ⟨x_166, ex_166⟩ : ∃ z : Int32, z = k + 1 := ⟨_, rfl⟩
                            have tx_166 := ad_toInt (x := k) (y := 1) (z := x_166) (zx := (k).toInt) (zy := 1) ex_166 rfl (by decide)
                            refine lv_iinc (v := x_166) (lv' := [(4, .int x_166), (3, .int z_165), (5, .int 0), (0, .ref h0), (1, .int p0), (2, .int p1)]) hx hb dX9_source_191 hl (k := 2) rfl (by rw [ex_166]; rfl) (by decide) rfl (fun ls hl => ?_)
                            refine lv_goto (tgt := 27) hx hb dX9_source_194 (by decide) ?_
                            exact ih _ _ _ (by first | omega | assumption) (by omega) (lv_sub hl [0, 1, 3, 4, 5] rfl)
                          · refine lv_iload_n hx hb dX9_source_159 rfl (lv_at hl 5 rfl) ?_
                            refine lv_bipush (v := 6) hx hb dX9_source_160 (by decide) ?_
                            refine bi_ne (zx := (p1).toInt) (zy := 6) (tgt := 185) hx hb dX9_source_162 (by decide) rfl (by decide) (fun c_167 => ?_) (fun c_167 => ?_)
                            · refine lv_iconst (v := 0) hx hb dX9_source_185 (by decide) ?_
                              refine vp_callSi (zrS (As := [.int 0]) (rest := [.int x]) (wc := []) ⟨hx, hb, hml, hown, hts⟩ hN hK hP hD (m_one0 l D  ) (va_cwS 1 hts gX9_source_X9_one rfl rfl rfl (by decide +kernel) ⟨Nat.le_trans (m := 1) (Nat.le_of_ble_eq_true rfl) hR.1, Nat.le_trans (m := 20) (Nat.le_of_ble_eq_true rfl) hR.2⟩) [] [] rfl rfl (by decide) rfl hl.1 rfl (Nat.le_of_ble_eq_true rfl) dX9_source_186 ⟨hcs.1, hcs.2⟩) (fun r_168 h_169 => ?_)
                              subst h_169
                              refine lv_iadd hx hb dX9_source_189 ?_
                              refine lv_topi (fun z_170 ez_170 => ?_)
                              have tz_170 := ad_toInt (zx := (x).toInt) (zy := 0) ez_170 rfl (by decide)
                              refine lv_istore_n (lv' := [(3, .int z_170), (5, .int 0), (4, .int k), (0, .ref h0), (1, .int p0), (2, .int p1)]) hx hb dX9_source_190 rfl hl (by decide) rfl (fun ls hl => ?_)
                              obtain ⟨x_171, ex_171⟩ : ∃ z : Int32, z = k + 1 := ⟨_, rfl⟩
                              have tx_171 := ad_toInt (x := k) (y := 1) (z := x_171) (zx := (k).toInt) (zy := 1) ex_171 rfl (by decide)
                              refine lv_iinc (v := x_171) (lv' := [(4, .int x_171), (3, .int z_170), (5, .int 0), (0, .ref h0), (1, .int p0), (2, .int p1)]) hx hb dX9_source_191 hl (k := 2) rfl (by rw [ex_171]; rfl) (by decide) rfl (fun ls hl => ?_)
                              refine lv_goto (tgt := 27) hx hb dX9_source_194 (by decide) ?_
                              exact ih _ _ _ (by first | omega | assumption) (by omega) (lv_sub hl [0, 1, 3, 4, 5] rfl)
                            · refine lv_aload_n hx hb dX9_source_165 rfl (lv_at hl 3 rfl) ?_
                              refine va_get (D := D) (ci := 9) (v := .ref b8) (C := RX9) (T := TX9) (N := 37) hx hb hts hin_X9 hown hK hP 0 rfl rfl 14 (by decide) (hts (.fieldLink RX9 38 "CryOrderModel" "state" "[I") (List.mem_cons_of_mem _ (List.mem_append_left _ (List.mem_of_getElem? (i := 5) rfl)))) (fun _ h9 => h9) rfl dX9_source_166 ?_
                              refine lv_iload hx hb dX9_source_169 (lv_at hl 1 rfl) ?_
                              refine va_iald hx hb hK hP 5 4 rfl rfl (vp_in_iff.mpr (by omega)) dX9_source_171 ?_
                              refine lv_topi (fun z_172 ez_172 => ?_)
                              have qz_172 : (z_172).toInt = (z_139).toInt := by rw [ez_172, ez_139]
                              refine lv_iconst (v := 1) hx hb dX9_source_172 (by decide) ?_
                              refine bi_ne (zx := (z_172).toInt) (zy := 1) (tgt := 185) hx hb dX9_source_173 (by decide) rfl (by decide) (fun c_173 => ?_) (fun c_173 => ?_)
                              · refine lv_iconst (v := 0) hx hb dX9_source_185 (by decide) ?_
                                refine vp_callSi (zrS (As := [.int 0]) (rest := [.int x]) (wc := []) ⟨hx, hb, hml, hown, hts⟩ hN hK hP hD (m_one0 l D  ) (va_cwS 1 hts gX9_source_X9_one rfl rfl rfl (by decide +kernel) ⟨Nat.le_trans (m := 1) (Nat.le_of_ble_eq_true rfl) hR.1, Nat.le_trans (m := 20) (Nat.le_of_ble_eq_true rfl) hR.2⟩) [] [] rfl rfl (by decide) rfl hl.1 rfl (Nat.le_of_ble_eq_true rfl) dX9_source_186 ⟨hcs.1, hcs.2⟩) (fun r_174 h_175 => ?_)
                                subst h_175
                                refine lv_iadd hx hb dX9_source_189 ?_
                                refine lv_topi (fun z_176 ez_176 => ?_)
                                have tz_176 := ad_toInt (zx := (x).toInt) (zy := 0) ez_176 rfl (by decide)
                                refine lv_istore_n (lv' := [(3, .int z_176), (5, .int 0), (4, .int k), (0, .ref h0), (1, .int p0), (2, .int p1)]) hx hb dX9_source_190 rfl hl (by decide) rfl (fun ls hl => ?_)
                                obtain ⟨x_177, ex_177⟩ : ∃ z : Int32, z = k + 1 := ⟨_, rfl⟩
                                have tx_177 := ad_toInt (x := k) (y := 1) (z := x_177) (zx := (k).toInt) (zy := 1) ex_177 rfl (by decide)
                                refine lv_iinc (v := x_177) (lv' := [(4, .int x_177), (3, .int z_176), (5, .int 0), (0, .ref h0), (1, .int p0), (2, .int p1)]) hx hb dX9_source_191 hl (k := 2) rfl (by rw [ex_177]; rfl) (by decide) rfl (fun ls hl => ?_)
                                refine lv_goto (tgt := 27) hx hb dX9_source_194 (by decide) ?_
                                exact ih _ _ _ (by first | omega | assumption) (by omega) (lv_sub hl [0, 1, 3, 4, 5] rfl)
                              · refine lv_iload hx hb dX9_source_176 (lv_at hl 0 rfl) ?_
                                refine lv_if_ne (tgt := 185) hx hb dX9_source_178 (by decide) (fun c_ => absurd c_ (by decide)) (fun _ => ?_)
                                refine lv_iconst (v := 1) hx hb dX9_source_181 (by decide) ?_
                                refine lv_goto (tgt := 186) hx hb dX9_source_182 (by decide) ?_
                                refine vp_callSi (zrS (As := [.int 1]) (rest := [.int x]) (wc := []) ⟨hx, hb, hml, hown, hts⟩ hN hK hP hD (m_one1 l D  ) (va_cwS 1 hts gX9_source_X9_one rfl rfl rfl (by decide +kernel) ⟨Nat.le_trans (m := 1) (Nat.le_of_ble_eq_true rfl) hR.1, Nat.le_trans (m := 20) (Nat.le_of_ble_eq_true rfl) hR.2⟩) [] [] rfl rfl (by decide) rfl hl.1 rfl (Nat.le_of_ble_eq_true rfl) dX9_source_186 ⟨hcs.1, hcs.2⟩) (fun r_178 h_179 => ?_)
                                subst h_179
                                refine lv_iadd hx hb dX9_source_189 ?_
                                refine lv_topi (fun z_180 ez_180 => ?_)
                                have tz_180 := ad_toInt (zx := (x).toInt) (zy := 1) ez_180 rfl (by decide)
                                refine lv_istore_n (lv' := [(3, .int z_180), (5, .int 0), (4, .int k), (0, .ref h0), (1, .int p0), (2, .int p1)]) hx hb dX9_source_190 rfl hl (by decide) rfl (fun ls hl => ?_)
                                obtain ⟨x_181, ex_181⟩ : ∃ z : Int32, z = k + 1 := ⟨_, rfl⟩
                                have tx_181 := ad_toInt (x := k) (y := 1) (z := x_181) (zx := (k).toInt) (zy := 1) ex_181 rfl (by decide)
                                refine lv_iinc (v := x_181) (lv' := [(4, .int x_181), (3, .int z_180), (5, .int 0), (0, .ref h0), (1, .int p0), (2, .int p1)]) hx hb dX9_source_191 hl (k := 2) rfl (by rw [ex_181]; rfl) (by decide) rfl (fun ls hl => ?_)
                                refine lv_goto (tgt := 27) hx hb dX9_source_194 (by decide) ?_
                                exact ih _ _ _ (by first | omega | assumption) (by omega) (lv_sub hl [0, 1, 3, 4, 5] rfl)
              · refine lv_aload_n hx hb dX9_source_102 rfl (lv_at hl 3 rfl) ?_
                refine va_get (D := D) (ci := 9) (v := .ref b11) (C := RX9) (T := TX9) (N := 37) hx hb hts hin_X9 hown hK hP 0 rfl rfl 17 (by decide) (hts (.fieldLink RX9 47 "CryOrderModel" "isSilenced" "[Z") (List.mem_cons_of_mem _ (List.mem_append_left _ (List.mem_of_getElem? (i := 2) rfl)))) (fun _ h9 => h9) rfl dX9_source_103 ?_
                refine lv_iload hx hb dX9_source_106 (lv_at hl 1 rfl) ?_
                refine va_zald hx hb hK hP 2 1 rfl rfl (vp_in_iff.mpr (by omega)) dX9_source_108 ?_
                refine lv_topi (fun z_182 ez_182 => ?_)
                have qz_182 : (z_182).toInt = (z_4).toInt := by rw [ez_182, ez_4]
                refine bz_ne (zx := (z_182).toInt) (tgt := 181) hx hb dX9_source_109 (by decide) rfl (fun c_183 => ?_) (fun c_183 => ?_)
                · refine lv_iconst (v := 1) hx hb dX9_source_181 (by decide) ?_
                  refine lv_goto (tgt := 186) hx hb dX9_source_182 (by decide) ?_
                  refine vp_callSi (zrS (As := [.int 1]) (rest := [.int x]) (wc := []) ⟨hx, hb, hml, hown, hts⟩ hN hK hP hD (m_one1 l D  ) (va_cwS 1 hts gX9_source_X9_one rfl rfl rfl (by decide +kernel) ⟨Nat.le_trans (m := 1) (Nat.le_of_ble_eq_true rfl) hR.1, Nat.le_trans (m := 20) (Nat.le_of_ble_eq_true rfl) hR.2⟩) [] [] rfl rfl (by decide) rfl hl.1 rfl (Nat.le_of_ble_eq_true rfl) dX9_source_186 ⟨hcs.1, hcs.2⟩) (fun r_184 h_185 => ?_)
                  subst h_185
                  refine lv_iadd hx hb dX9_source_189 ?_
                  refine lv_topi (fun z_186 ez_186 => ?_)
                  have tz_186 := ad_toInt (zx := (x).toInt) (zy := 1) ez_186 rfl (by decide)
                  refine lv_istore_n (lv' := [(3, .int z_186), (5, .int 0), (4, .int k), (0, .ref h0), (1, .int p0), (2, .int p1)]) hx hb dX9_source_190 rfl hl (by decide) rfl (fun ls hl => ?_)
                  obtain ⟨x_187, ex_187⟩ : ∃ z : Int32, z = k + 1 := ⟨_, rfl⟩
                  have tx_187 := ad_toInt (x := k) (y := 1) (z := x_187) (zx := (k).toInt) (zy := 1) ex_187 rfl (by decide)
                  refine lv_iinc (v := x_187) (lv' := [(4, .int x_187), (3, .int z_186), (5, .int 0), (0, .ref h0), (1, .int p0), (2, .int p1)]) hx hb dX9_source_191 hl (k := 2) rfl (by rw [ex_187]; rfl) (by decide) rfl (fun ls hl => ?_)
                  refine lv_goto (tgt := 27) hx hb dX9_source_194 (by decide) ?_
                  exact ih _ _ _ (by first | omega | assumption) (by omega) (lv_sub hl [0, 1, 3, 4, 5] rfl)
                · refine lv_iload_n hx hb dX9_source_112 rfl (lv_at hl 5 rfl) ?_
                  refine lv_iconst (v := 3) hx hb dX9_source_113 (by decide) ?_
                  refine bi_ne (zx := (p1).toInt) (zy := 3) (tgt := 127) hx hb dX9_source_114 (by decide) rfl (by decide) (fun c_188 => ?_) (fun c_188 => ?_)
                  · refine lv_iload_n hx hb dX9_source_127 rfl (lv_at hl 5 rfl) ?_
                    refine lv_iconst (v := 4) hx hb dX9_source_128 (by decide) ?_
                    refine bi_ne (zx := (p1).toInt) (zy := 4) (tgt := 143) hx hb dX9_source_129 (by decide) rfl (by decide) (fun c_189 => ?_) (fun c_189 => ?_)
                    · refine lv_iload_n hx hb dX9_source_143 rfl (lv_at hl 5 rfl) ?_
                      refine lv_iconst (v := 5) hx hb dX9_source_144 (by decide) ?_
                      refine bi_ne (zx := (p1).toInt) (zy := 5) (tgt := 159) hx hb dX9_source_145 (by decide) rfl (by decide) (fun c_190 => ?_) (fun c_190 => ?_)
                      · refine lv_iload_n hx hb dX9_source_159 rfl (lv_at hl 5 rfl) ?_
                        refine lv_bipush (v := 6) hx hb dX9_source_160 (by decide) ?_
                        refine bi_ne (zx := (p1).toInt) (zy := 6) (tgt := 185) hx hb dX9_source_162 (by decide) rfl (by decide) (fun c_191 => ?_) (fun c_191 => ?_)
                        · refine lv_iconst (v := 0) hx hb dX9_source_185 (by decide) ?_
                          refine vp_callSi (zrS (As := [.int 0]) (rest := [.int x]) (wc := []) ⟨hx, hb, hml, hown, hts⟩ hN hK hP hD (m_one0 l D  ) (va_cwS 1 hts gX9_source_X9_one rfl rfl rfl (by decide +kernel) ⟨Nat.le_trans (m := 1) (Nat.le_of_ble_eq_true rfl) hR.1, Nat.le_trans (m := 20) (Nat.le_of_ble_eq_true rfl) hR.2⟩) [] [] rfl rfl (by decide) rfl hl.1 rfl (Nat.le_of_ble_eq_true rfl) dX9_source_186 ⟨hcs.1, hcs.2⟩) (fun r_192 h_193 => ?_)
                          subst h_193
                          refine lv_iadd hx hb dX9_source_189 ?_
                          refine lv_topi (fun z_194 ez_194 => ?_)
                          have tz_194 := ad_toInt (zx := (x).toInt) (zy := 0) ez_194 rfl (by decide)
                          refine lv_istore_n (lv' := [(3, .int z_194), (5, .int 0), (4, .int k), (0, .ref h0), (1, .int p0), (2, .int p1)]) hx hb dX9_source_190 rfl hl (by decide) rfl (fun ls hl => ?_)
                          obtain ⟨x_195, ex_195⟩ : ∃ z : Int32, z = k + 1 := ⟨_, rfl⟩
                          have tx_195 := ad_toInt (x := k) (y := 1) (z := x_195) (zx := (k).toInt) (zy := 1) ex_195 rfl (by decide)
                          refine lv_iinc (v := x_195) (lv' := [(4, .int x_195), (3, .int z_194), (5, .int 0), (0, .ref h0), (1, .int p0), (2, .int p1)]) hx hb dX9_source_191 hl (k := 2) rfl (by rw [ex_195]; rfl) (by decide) rfl (fun ls hl => ?_)
                          refine lv_goto (tgt := 27) hx hb dX9_source_194 (by decide) ?_
                          exact ih _ _ _ (by first | omega | assumption) (by omega) (lv_sub hl [0, 1, 3, 4, 5] rfl)
                        · refine lv_aload_n hx hb dX9_source_165 rfl (lv_at hl 3 rfl) ?_
                          refine va_get (D := D) (ci := 9) (v := .ref b8) (C := RX9) (T := TX9) (N := 37) hx hb hts hin_X9 hown hK hP 0 rfl rfl 14 (by decide) (hts (.fieldLink RX9 38 "CryOrderModel" "state" "[I") (List.mem_cons_of_mem _ (List.mem_append_left _ (List.mem_of_getElem? (i := 5) rfl)))) (fun _ h9 => h9) rfl dX9_source_166 ?_
                          refine lv_iload hx hb dX9_source_169 (lv_at hl 1 rfl) ?_
                          refine va_iald hx hb hK hP 5 4 rfl rfl (vp_in_iff.mpr (by omega)) dX9_source_171 ?_
                          refine lv_topi (fun z_196 ez_196 => ?_)
                          refine lv_iconst (v := 1) hx hb dX9_source_172 (by decide) ?_
                          refine bi_ne (zx := (z_196).toInt) (zy := 1) (tgt := 185) hx hb dX9_source_173 (by decide) rfl (by decide) (fun c_197 => ?_) (fun c_197 => ?_)
                          · refine lv_iconst (v := 0) hx hb dX9_source_185 (by decide) ?_
                            refine vp_callSi (zrS (As := [.int 0]) (rest := [.int x]) (wc := []) ⟨hx, hb, hml, hown, hts⟩ hN hK hP hD (m_one0 l D  ) (va_cwS 1 hts gX9_source_X9_one rfl rfl rfl (by decide +kernel) ⟨Nat.le_trans (m := 1) (Nat.le_of_ble_eq_true rfl) hR.1, Nat.le_trans (m := 20) (Nat.le_of_ble_eq_true rfl) hR.2⟩) [] [] rfl rfl (by decide) rfl hl.1 rfl (Nat.le_of_ble_eq_true rfl) dX9_source_186 ⟨hcs.1, hcs.2⟩) (fun r_198 h_199 => ?_)
                            subst h_199
                            refine lv_iadd hx hb dX9_source_189 ?_
                            refine lv_topi (fun z_200 ez_200 => ?_)
                            have tz_200 := ad_toInt (zx := (x).toInt) (zy := 0) ez_200 rfl (by decide)
                            refine lv_istore_n (lv' := [(3, .int z_200), (5, .int 0), (4, .int k), (0, .ref h0), (1, .int p0), (2, .int p1)]) hx hb dX9_source_190 rfl hl (by decide) rfl (fun ls hl => ?_)
                            obtain ⟨x_201, ex_201⟩ : ∃ z : Int32, z = k + 1 := ⟨_, rfl⟩
                            have tx_201 := ad_toInt (x := k) (y := 1) (z := x_201) (zx := (k).toInt) (zy := 1) ex_201 rfl (by decide)
                            refine lv_iinc (v := x_201) (lv' := [(4, .int x_201), (3, .int z_200), (5, .int 0), (0, .ref h0), (1, .int p0), (2, .int p1)]) hx hb dX9_source_191 hl (k := 2) rfl (by rw [ex_201]; rfl) (by decide) rfl (fun ls hl => ?_)
                            refine lv_goto (tgt := 27) hx hb dX9_source_194 (by decide) ?_
                            exact ih _ _ _ (by first | omega | assumption) (by omega) (lv_sub hl [0, 1, 3, 4, 5] rfl)
                          · refine lv_iload hx hb dX9_source_176 (lv_at hl 0 rfl) ?_
                            refine lv_if_ne (tgt := 185) hx hb dX9_source_178 (by decide) (fun c_ => absurd c_ (by decide)) (fun _ => ?_)
                            refine lv_iconst (v := 1) hx hb dX9_source_181 (by decide) ?_
                            refine lv_goto (tgt := 186) hx hb dX9_source_182 (by decide) ?_
                            refine vp_callSi (zrS (As := [.int 1]) (rest := [.int x]) (wc := []) ⟨hx, hb, hml, hown, hts⟩ hN hK hP hD (m_one1 l D  ) (va_cwS 1 hts gX9_source_X9_one rfl rfl rfl (by decide +kernel) ⟨Nat.le_trans (m := 1) (Nat.le_of_ble_eq_true rfl) hR.1, Nat.le_trans (m := 20) (Nat.le_of_ble_eq_true rfl) hR.2⟩) [] [] rfl rfl (by decide) rfl hl.1 rfl (Nat.le_of_ble_eq_true rfl) dX9_source_186 ⟨hcs.1, hcs.2⟩) (fun r_202 h_203 => ?_)
                            subst h_203
                            refine lv_iadd hx hb dX9_source_189 ?_
                            refine lv_topi (fun z_204 ez_204 => ?_)
                            have tz_204 := ad_toInt (zx := (x).toInt) (zy := 1) ez_204 rfl (by decide)
                            refine lv_istore_n (lv' := [(3, .int z_204), (5, .int 0), (4, .int k), (0, .ref h0), (1, .int p0), (2, .int p1)]) hx hb dX9_source_190 rfl hl (by decide) rfl (fun ls hl => ?_)
                            obtain ⟨x_205, ex_205⟩ : ∃ z : Int32, z = k + 1 := ⟨_, rfl⟩
                            have tx_205 := ad_toInt (x := k) (y := 1) (z := x_205) (zx := (k).toInt) (zy := 1) ex_205 rfl (by decide)
                            refine lv_iinc (v := x_205) (lv' := [(4, .int x_205), (3, .int z_204), (5, .int 0), (0, .ref h0), (1, .int p0), (2, .int p1)]) hx hb dX9_source_191 hl (k := 2) rfl (by rw [ex_205]; rfl) (by decide) rfl (fun ls hl => ?_)
                            refine lv_goto (tgt := 27) hx hb dX9_source_194 (by decide) ?_
                            exact ih _ _ _ (by first | omega | assumption) (by omega) (lv_sub hl [0, 1, 3, 4, 5] rfl)
                      · refine lv_aload_n hx hb dX9_source_148 rfl (lv_at hl 3 rfl) ?_
                        refine va_get (D := D) (ci := 9) (v := .ref b8) (C := RX9) (T := TX9) (N := 37) hx hb hts hin_X9 hown hK hP 0 rfl rfl 14 (by decide) (hts (.fieldLink RX9 38 "CryOrderModel" "state" "[I") (List.mem_cons_of_mem _ (List.mem_append_left _ (List.mem_of_getElem? (i := 5) rfl)))) (fun _ h9 => h9) rfl dX9_source_149 ?_
                        refine lv_iload hx hb dX9_source_152 (lv_at hl 1 rfl) ?_
                        refine va_iald hx hb hK hP 5 4 rfl rfl (vp_in_iff.mpr (by omega)) dX9_source_154 ?_
                        refine lv_topi (fun z_206 ez_206 => ?_)
                        refine lv_iconst (v := 2) hx hb dX9_source_155 (by decide) ?_
                        refine bi_eq (zx := (z_206).toInt) (zy := 2) (tgt := 181) hx hb dX9_source_156 (by decide) rfl (by decide) (fun c_207 => ?_) (fun c_207 => ?_)
                        · refine lv_iconst (v := 1) hx hb dX9_source_181 (by decide) ?_
                          refine lv_goto (tgt := 186) hx hb dX9_source_182 (by decide) ?_
                          refine vp_callSi (zrS (As := [.int 1]) (rest := [.int x]) (wc := []) ⟨hx, hb, hml, hown, hts⟩ hN hK hP hD (m_one1 l D  ) (va_cwS 1 hts gX9_source_X9_one rfl rfl rfl (by decide +kernel) ⟨Nat.le_trans (m := 1) (Nat.le_of_ble_eq_true rfl) hR.1, Nat.le_trans (m := 20) (Nat.le_of_ble_eq_true rfl) hR.2⟩) [] [] rfl rfl (by decide) rfl hl.1 rfl (Nat.le_of_ble_eq_true rfl) dX9_source_186 ⟨hcs.1, hcs.2⟩) (fun r_208 h_209 => ?_)
                          subst h_209
                          refine lv_iadd hx hb dX9_source_189 ?_
                          refine lv_topi (fun z_210 ez_210 => ?_)
                          have tz_210 := ad_toInt (zx := (x).toInt) (zy := 1) ez_210 rfl (by decide)
                          refine lv_istore_n (lv' := [(3, .int z_210), (5, .int 0), (4, .int k), (0, .ref h0), (1, .int p0), (2, .int p1)]) hx hb dX9_source_190 rfl hl (by decide) rfl (fun ls hl => ?_)
                          obtain ⟨x_211, ex_211⟩ : ∃ z : Int32, z = k + 1 := ⟨_, rfl⟩
                          have tx_211 := ad_toInt (x := k) (y := 1) (z := x_211) (zx := (k).toInt) (zy := 1) ex_211 rfl (by decide)
                          refine lv_iinc (v := x_211) (lv' := [(4, .int x_211), (3, .int z_210), (5, .int 0), (0, .ref h0), (1, .int p0), (2, .int p1)]) hx hb dX9_source_191 hl (k := 2) rfl (by rw [ex_211]; rfl) (by decide) rfl (fun ls hl => ?_)
                          refine lv_goto (tgt := 27) hx hb dX9_source_194 (by decide) ?_
                          exact ih _ _ _ (by first | omega | assumption) (by omega) (lv_sub hl [0, 1, 3, 4, 5] rfl)
                        · refine lv_iload_n hx hb dX9_source_159 rfl (lv_at hl 5 rfl) ?_
                          refine lv_bipush (v := 6) hx hb dX9_source_160 (by decide) ?_
                          refine bi_ne (zx := (p1).toInt) (zy := 6) (tgt := 185) hx hb dX9_source_162 (by decide) rfl (by decide) (fun c_212 => ?_) (fun c_212 => ?_)
                          · refine lv_iconst (v := 0) hx hb dX9_source_185 (by decide) ?_
                            refine vp_callSi (zrS (As := [.int 0]) (rest := [.int x]) (wc := []) ⟨hx, hb, hml, hown, hts⟩ hN hK hP hD (m_one0 l D  ) (va_cwS 1 hts gX9_source_X9_one rfl rfl rfl (by decide +kernel) ⟨Nat.le_trans (m := 1) (Nat.le_of_ble_eq_true rfl) hR.1, Nat.le_trans (m := 20) (Nat.le_of_ble_eq_true rfl) hR.2⟩) [] [] rfl rfl (by decide) rfl hl.1 rfl (Nat.le_of_ble_eq_true rfl) dX9_source_186 ⟨hcs.1, hcs.2⟩) (fun r_213 h_214 => ?_)
                            subst h_214
                            refine lv_iadd hx hb dX9_source_189 ?_
                            refine lv_topi (fun z_215 ez_215 => ?_)
                            have tz_215 := ad_toInt (zx := (x).toInt) (zy := 0) ez_215 rfl (by decide)
                            refine lv_istore_n (lv' := [(3, .int z_215), (5, .int 0), (4, .int k), (0, .ref h0), (1, .int p0), (2, .int p1)]) hx hb dX9_source_190 rfl hl (by decide) rfl (fun ls hl => ?_)
                            obtain ⟨x_216, ex_216⟩ : ∃ z : Int32, z = k + 1 := ⟨_, rfl⟩
                            have tx_216 := ad_toInt (x := k) (y := 1) (z := x_216) (zx := (k).toInt) (zy := 1) ex_216 rfl (by decide)
                            refine lv_iinc (v := x_216) (lv' := [(4, .int x_216), (3, .int z_215), (5, .int 0), (0, .ref h0), (1, .int p0), (2, .int p1)]) hx hb dX9_source_191 hl (k := 2) rfl (by rw [ex_216]; rfl) (by decide) rfl (fun ls hl => ?_)
                            refine lv_goto (tgt := 27) hx hb dX9_source_194 (by decide) ?_
                            exact ih _ _ _ (by first | omega | assumption) (by omega) (lv_sub hl [0, 1, 3, 4, 5] rfl)
                          · refine lv_aload_n hx hb dX9_source_165 rfl (lv_at hl 3 rfl) ?_
                            refine va_get (D := D) (ci := 9) (v := .ref b8) (C := RX9) (T := TX9) (N := 37) hx hb hts hin_X9 hown hK hP 0 rfl rfl 14 (by decide) (hts (.fieldLink RX9 38 "CryOrderModel" "state" "[I") (List.mem_cons_of_mem _ (List.mem_append_left _ (List.mem_of_getElem? (i := 5) rfl)))) (fun _ h9 => h9) rfl dX9_source_166 ?_
                            refine lv_iload hx hb dX9_source_169 (lv_at hl 1 rfl) ?_
                            refine va_iald hx hb hK hP 5 4 rfl rfl (vp_in_iff.mpr (by omega)) dX9_source_171 ?_
                            refine lv_topi (fun z_217 ez_217 => ?_)
                            have qz_217 : (z_217).toInt = (z_206).toInt := by rw [ez_217, ez_206]
                            refine lv_iconst (v := 1) hx hb dX9_source_172 (by decide) ?_
                            refine bi_ne (zx := (z_217).toInt) (zy := 1) (tgt := 185) hx hb dX9_source_173 (by decide) rfl (by decide) (fun c_218 => ?_) (fun c_218 => ?_)
                            · refine lv_iconst (v := 0) hx hb dX9_source_185 (by decide) ?_
                              refine vp_callSi (zrS (As := [.int 0]) (rest := [.int x]) (wc := []) ⟨hx, hb, hml, hown, hts⟩ hN hK hP hD (m_one0 l D  ) (va_cwS 1 hts gX9_source_X9_one rfl rfl rfl (by decide +kernel) ⟨Nat.le_trans (m := 1) (Nat.le_of_ble_eq_true rfl) hR.1, Nat.le_trans (m := 20) (Nat.le_of_ble_eq_true rfl) hR.2⟩) [] [] rfl rfl (by decide) rfl hl.1 rfl (Nat.le_of_ble_eq_true rfl) dX9_source_186 ⟨hcs.1, hcs.2⟩) (fun r_219 h_220 => ?_)
                              subst h_220
                              refine lv_iadd hx hb dX9_source_189 ?_
                              refine lv_topi (fun z_221 ez_221 => ?_)
                              have tz_221 := ad_toInt (zx := (x).toInt) (zy := 0) ez_221 rfl (by decide)
                              refine lv_istore_n (lv' := [(3, .int z_221), (5, .int 0), (4, .int k), (0, .ref h0), (1, .int p0), (2, .int p1)]) hx hb dX9_source_190 rfl hl (by decide) rfl (fun ls hl => ?_)
                              obtain ⟨x_222, ex_222⟩ : ∃ z : Int32, z = k + 1 := ⟨_, rfl⟩
                              have tx_222 := ad_toInt (x := k) (y := 1) (z := x_222) (zx := (k).toInt) (zy := 1) ex_222 rfl (by decide)
                              refine lv_iinc (v := x_222) (lv' := [(4, .int x_222), (3, .int z_221), (5, .int 0), (0, .ref h0), (1, .int p0), (2, .int p1)]) hx hb dX9_source_191 hl (k := 2) rfl (by rw [ex_222]; rfl) (by decide) rfl (fun ls hl => ?_)
                              refine lv_goto (tgt := 27) hx hb dX9_source_194 (by decide) ?_
                              exact ih _ _ _ (by first | omega | assumption) (by omega) (lv_sub hl [0, 1, 3, 4, 5] rfl)
                            · refine lv_iload hx hb dX9_source_176 (lv_at hl 0 rfl) ?_
                              refine lv_if_ne (tgt := 185) hx hb dX9_source_178 (by decide) (fun c_ => absurd c_ (by decide)) (fun _ => ?_)
                              refine lv_iconst (v := 1) hx hb dX9_source_181 (by decide) ?_
                              refine lv_goto (tgt := 186) hx hb dX9_source_182 (by decide) ?_
                              refine vp_callSi (zrS (As := [.int 1]) (rest := [.int x]) (wc := []) ⟨hx, hb, hml, hown, hts⟩ hN hK hP hD (m_one1 l D  ) (va_cwS 1 hts gX9_source_X9_one rfl rfl rfl (by decide +kernel) ⟨Nat.le_trans (m := 1) (Nat.le_of_ble_eq_true rfl) hR.1, Nat.le_trans (m := 20) (Nat.le_of_ble_eq_true rfl) hR.2⟩) [] [] rfl rfl (by decide) rfl hl.1 rfl (Nat.le_of_ble_eq_true rfl) dX9_source_186 ⟨hcs.1, hcs.2⟩) (fun r_223 h_224 => ?_)
                              subst h_224
                              refine lv_iadd hx hb dX9_source_189 ?_
                              refine lv_topi (fun z_225 ez_225 => ?_)
                              have tz_225 := ad_toInt (zx := (x).toInt) (zy := 1) ez_225 rfl (by decide)
                              refine lv_istore_n (lv' := [(3, .int z_225), (5, .int 0), (4, .int k), (0, .ref h0), (1, .int p0), (2, .int p1)]) hx hb dX9_source_190 rfl hl (by decide) rfl (fun ls hl => ?_)
                              obtain ⟨x_226, ex_226⟩ : ∃ z : Int32, z = k + 1 := ⟨_, rfl⟩
                              have tx_226 := ad_toInt (x := k) (y := 1) (z := x_226) (zx := (k).toInt) (zy := 1) ex_226 rfl (by decide)
                              refine lv_iinc (v := x_226) (lv' := [(4, .int x_226), (3, .int z_225), (5, .int 0), (0, .ref h0), (1, .int p0), (2, .int p1)]) hx hb dX9_source_191 hl (k := 2) rfl (by rw [ex_226]; rfl) (by decide) rfl (fun ls hl => ?_)
                              refine lv_goto (tgt := 27) hx hb dX9_source_194 (by decide) ?_
                              exact ih _ _ _ (by first | omega | assumption) (by omega) (lv_sub hl [0, 1, 3, 4, 5] rfl)
                    · refine lv_aload_n hx hb dX9_source_132 rfl (lv_at hl 3 rfl) ?_
                      refine va_get (D := D) (ci := 9) (v := .ref b8) (C := RX9) (T := TX9) (N := 37) hx hb hts hin_X9 hown hK hP 0 rfl rfl 14 (by decide) (hts (.fieldLink RX9 38 "CryOrderModel" "state" "[I") (List.mem_cons_of_mem _ (List.mem_append_left _ (List.mem_of_getElem? (i := 5) rfl)))) (fun _ h9 => h9) rfl dX9_source_133 ?_
                      refine lv_iload hx hb dX9_source_136 (lv_at hl 1 rfl) ?_
                      refine va_iald hx hb hK hP 5 4 rfl rfl (vp_in_iff.mpr (by omega)) dX9_source_138 ?_
                      refine lv_topi (fun z_227 ez_227 => ?_)
                      refine lv_iconst (v := 1) hx hb dX9_source_139 (by decide) ?_
                      refine bi_eq (zx := (z_227).toInt) (zy := 1) (tgt := 181) hx hb dX9_source_140 (by decide) rfl (by decide) (fun c_228 => ?_) (fun c_228 => ?_)
                      · refine lv_iconst (v := 1) hx hb dX9_source_181 (by decide) ?_
                        refine lv_goto (tgt := 186) hx hb dX9_source_182 (by decide) ?_
                        refine vp_callSi (zrS (As := [.int 1]) (rest := [.int x]) (wc := []) ⟨hx, hb, hml, hown, hts⟩ hN hK hP hD (m_one1 l D  ) (va_cwS 1 hts gX9_source_X9_one rfl rfl rfl (by decide +kernel) ⟨Nat.le_trans (m := 1) (Nat.le_of_ble_eq_true rfl) hR.1, Nat.le_trans (m := 20) (Nat.le_of_ble_eq_true rfl) hR.2⟩) [] [] rfl rfl (by decide) rfl hl.1 rfl (Nat.le_of_ble_eq_true rfl) dX9_source_186 ⟨hcs.1, hcs.2⟩) (fun r_229 h_230 => ?_)
                        subst h_230
                        refine lv_iadd hx hb dX9_source_189 ?_
                        refine lv_topi (fun z_231 ez_231 => ?_)
                        have tz_231 := ad_toInt (zx := (x).toInt) (zy := 1) ez_231 rfl (by decide)
                        refine lv_istore_n (lv' := [(3, .int z_231), (5, .int 0), (4, .int k), (0, .ref h0), (1, .int p0), (2, .int p1)]) hx hb dX9_source_190 rfl hl (by decide) rfl (fun ls hl => ?_)
                        obtain ⟨x_232, ex_232⟩ : ∃ z : Int32, z = k + 1 := ⟨_, rfl⟩
                        have tx_232 := ad_toInt (x := k) (y := 1) (z := x_232) (zx := (k).toInt) (zy := 1) ex_232 rfl (by decide)
                        refine lv_iinc (v := x_232) (lv' := [(4, .int x_232), (3, .int z_231), (5, .int 0), (0, .ref h0), (1, .int p0), (2, .int p1)]) hx hb dX9_source_191 hl (k := 2) rfl (by rw [ex_232]; rfl) (by decide) rfl (fun ls hl => ?_)
                        refine lv_goto (tgt := 27) hx hb dX9_source_194 (by decide) ?_
                        exact ih _ _ _ (by first | omega | assumption) (by omega) (lv_sub hl [0, 1, 3, 4, 5] rfl)
                      · refine lv_iload_n hx hb dX9_source_143 rfl (lv_at hl 5 rfl) ?_
                        refine lv_iconst (v := 5) hx hb dX9_source_144 (by decide) ?_
                        refine bi_ne (zx := (p1).toInt) (zy := 5) (tgt := 159) hx hb dX9_source_145 (by decide) rfl (by decide) (fun c_233 => ?_) (fun c_233 => ?_)
                        · refine lv_iload_n hx hb dX9_source_159 rfl (lv_at hl 5 rfl) ?_
                          refine lv_bipush (v := 6) hx hb dX9_source_160 (by decide) ?_
                          refine bi_ne (zx := (p1).toInt) (zy := 6) (tgt := 185) hx hb dX9_source_162 (by decide) rfl (by decide) (fun c_234 => ?_) (fun c_234 => ?_)
                          · refine lv_iconst (v := 0) hx hb dX9_source_185 (by decide) ?_
                            refine vp_callSi (zrS (As := [.int 0]) (rest := [.int x]) (wc := []) ⟨hx, hb, hml, hown, hts⟩ hN hK hP hD (m_one0 l D  ) (va_cwS 1 hts gX9_source_X9_one rfl rfl rfl (by decide +kernel) ⟨Nat.le_trans (m := 1) (Nat.le_of_ble_eq_true rfl) hR.1, Nat.le_trans (m := 20) (Nat.le_of_ble_eq_true rfl) hR.2⟩) [] [] rfl rfl (by decide) rfl hl.1 rfl (Nat.le_of_ble_eq_true rfl) dX9_source_186 ⟨hcs.1, hcs.2⟩) (fun r_235 h_236 => ?_)
                            subst h_236
                            refine lv_iadd hx hb dX9_source_189 ?_
                            refine lv_topi (fun z_237 ez_237 => ?_)
                            have tz_237 := ad_toInt (zx := (x).toInt) (zy := 0) ez_237 rfl (by decide)
                            refine lv_istore_n (lv' := [(3, .int z_237), (5, .int 0), (4, .int k), (0, .ref h0), (1, .int p0), (2, .int p1)]) hx hb dX9_source_190 rfl hl (by decide) rfl (fun ls hl => ?_)
                            obtain ⟨x_238, ex_238⟩ : ∃ z : Int32, z = k + 1 := ⟨_, rfl⟩
                            have tx_238 := ad_toInt (x := k) (y := 1) (z := x_238) (zx := (k).toInt) (zy := 1) ex_238 rfl (by decide)
                            refine lv_iinc (v := x_238) (lv' := [(4, .int x_238), (3, .int z_237), (5, .int 0), (0, .ref h0), (1, .int p0), (2, .int p1)]) hx hb dX9_source_191 hl (k := 2) rfl (by rw [ex_238]; rfl) (by decide) rfl (fun ls hl => ?_)
                            refine lv_goto (tgt := 27) hx hb dX9_source_194 (by decide) ?_
                            exact ih _ _ _ (by first | omega | assumption) (by omega) (lv_sub hl [0, 1, 3, 4, 5] rfl)
                          · refine lv_aload_n hx hb dX9_source_165 rfl (lv_at hl 3 rfl) ?_
                            refine va_get (D := D) (ci := 9) (v := .ref b8) (C := RX9) (T := TX9) (N := 37) hx hb hts hin_X9 hown hK hP 0 rfl rfl 14 (by decide) (hts (.fieldLink RX9 38 "CryOrderModel" "state" "[I") (List.mem_cons_of_mem _ (List.mem_append_left _ (List.mem_of_getElem? (i := 5) rfl)))) (fun _ h9 => h9) rfl dX9_source_166 ?_
                            refine lv_iload hx hb dX9_source_169 (lv_at hl 1 rfl) ?_
                            refine va_iald hx hb hK hP 5 4 rfl rfl (vp_in_iff.mpr (by omega)) dX9_source_171 ?_
                            refine lv_topi (fun z_239 ez_239 => ?_)
                            have qz_239 : (z_239).toInt = (z_227).toInt := by rw [ez_239, ez_227]
                            refine lv_iconst (v := 1) hx hb dX9_source_172 (by decide) ?_
                            refine bi_ne (zx := (z_239).toInt) (zy := 1) (tgt := 185) hx hb dX9_source_173 (by decide) rfl (by decide) (fun c_240 => ?_) (fun c_240 => ?_)
                            · refine lv_iconst (v := 0) hx hb dX9_source_185 (by decide) ?_
                              refine vp_callSi (zrS (As := [.int 0]) (rest := [.int x]) (wc := []) ⟨hx, hb, hml, hown, hts⟩ hN hK hP hD (m_one0 l D  ) (va_cwS 1 hts gX9_source_X9_one rfl rfl rfl (by decide +kernel) ⟨Nat.le_trans (m := 1) (Nat.le_of_ble_eq_true rfl) hR.1, Nat.le_trans (m := 20) (Nat.le_of_ble_eq_true rfl) hR.2⟩) [] [] rfl rfl (by decide) rfl hl.1 rfl (Nat.le_of_ble_eq_true rfl) dX9_source_186 ⟨hcs.1, hcs.2⟩) (fun r_241 h_242 => ?_)
                              subst h_242
                              refine lv_iadd hx hb dX9_source_189 ?_
                              refine lv_topi (fun z_243 ez_243 => ?_)
                              have tz_243 := ad_toInt (zx := (x).toInt) (zy := 0) ez_243 rfl (by decide)
                              refine lv_istore_n (lv' := [(3, .int z_243), (5, .int 0), (4, .int k), (0, .ref h0), (1, .int p0), (2, .int p1)]) hx hb dX9_source_190 rfl hl (by decide) rfl (fun ls hl => ?_)
                              obtain ⟨x_244, ex_244⟩ : ∃ z : Int32, z = k + 1 := ⟨_, rfl⟩
                              have tx_244 := ad_toInt (x := k) (y := 1) (z := x_244) (zx := (k).toInt) (zy := 1) ex_244 rfl (by decide)
                              refine lv_iinc (v := x_244) (lv' := [(4, .int x_244), (3, .int z_243), (5, .int 0), (0, .ref h0), (1, .int p0), (2, .int p1)]) hx hb dX9_source_191 hl (k := 2) rfl (by rw [ex_244]; rfl) (by decide) rfl (fun ls hl => ?_)
                              refine lv_goto (tgt := 27) hx hb dX9_source_194 (by decide) ?_
                              exact ih _ _ _ (by first | omega | assumption) (by omega) (lv_sub hl [0, 1, 3, 4, 5] rfl)
                            · refine lv_iload hx hb dX9_source_176 (lv_at hl 0 rfl) ?_
                              refine lv_if_ne (tgt := 185) hx hb dX9_source_178 (by decide) (fun c_ => absurd c_ (by decide)) (fun _ => ?_)
                              refine lv_iconst (v := 1) hx hb dX9_source_181 (by decide) ?_
                              refine lv_goto (tgt := 186) hx hb dX9_source_182 (by decide) ?_
                              refine vp_callSi (zrS (As := [.int 1]) (rest := [.int x]) (wc := []) ⟨hx, hb, hml, hown, hts⟩ hN hK hP hD (m_one1 l D  ) (va_cwS 1 hts gX9_source_X9_one rfl rfl rfl (by decide +kernel) ⟨Nat.le_trans (m := 1) (Nat.le_of_ble_eq_true rfl) hR.1, Nat.le_trans (m := 20) (Nat.le_of_ble_eq_true rfl) hR.2⟩) [] [] rfl rfl (by decide) rfl hl.1 rfl (Nat.le_of_ble_eq_true rfl) dX9_source_186 ⟨hcs.1, hcs.2⟩) (fun r_245 h_246 => ?_)
                              subst h_246
                              refine lv_iadd hx hb dX9_source_189 ?_
                              refine lv_topi (fun z_247 ez_247 => ?_)
                              have tz_247 := ad_toInt (zx := (x).toInt) (zy := 1) ez_247 rfl (by decide)
                              refine lv_istore_n (lv' := [(3, .int z_247), (5, .int 0), (4, .int k), (0, .ref h0), (1, .int p0), (2, .int p1)]) hx hb dX9_source_190 rfl hl (by decide) rfl (fun ls hl => ?_)
                              obtain ⟨x_248, ex_248⟩ : ∃ z : Int32, z = k + 1 := ⟨_, rfl⟩
                              have tx_248 := ad_toInt (x := k) (y := 1) (z := x_248) (zx := (k).toInt) (zy := 1) ex_248 rfl (by decide)
                              refine lv_iinc (v := x_248) (lv' := [(4, .int x_248), (3, .int z_247), (5, .int 0), (0, .ref h0), (1, .int p0), (2, .int p1)]) hx hb dX9_source_191 hl (k := 2) rfl (by rw [ex_248]; rfl) (by decide) rfl (fun ls hl => ?_)
                              refine lv_goto (tgt := 27) hx hb dX9_source_194 (by decide) ?_
                              exact ih _ _ _ (by first | omega | assumption) (by omega) (lv_sub hl [0, 1, 3, 4, 5] rfl)
                        · refine lv_aload_n hx hb dX9_source_148 rfl (lv_at hl 3 rfl) ?_
                          refine va_get (D := D) (ci := 9) (v := .ref b8) (C := RX9) (T := TX9) (N := 37) hx hb hts hin_X9 hown hK hP 0 rfl rfl 14 (by decide) (hts (.fieldLink RX9 38 "CryOrderModel" "state" "[I") (List.mem_cons_of_mem _ (List.mem_append_left _ (List.mem_of_getElem? (i := 5) rfl)))) (fun _ h9 => h9) rfl dX9_source_149 ?_
                          refine lv_iload hx hb dX9_source_152 (lv_at hl 1 rfl) ?_
                          refine va_iald hx hb hK hP 5 4 rfl rfl (vp_in_iff.mpr (by omega)) dX9_source_154 ?_
                          refine lv_topi (fun z_249 ez_249 => ?_)
                          have qz_249 : (z_249).toInt = (z_227).toInt := by rw [ez_249, ez_227]
                          refine lv_iconst (v := 2) hx hb dX9_source_155 (by decide) ?_
                          refine bi_eq (zx := (z_249).toInt) (zy := 2) (tgt := 181) hx hb dX9_source_156 (by decide) rfl (by decide) (fun c_250 => ?_) (fun c_250 => ?_)
                          · refine lv_iconst (v := 1) hx hb dX9_source_181 (by decide) ?_
                            refine lv_goto (tgt := 186) hx hb dX9_source_182 (by decide) ?_
                            refine vp_callSi (zrS (As := [.int 1]) (rest := [.int x]) (wc := []) ⟨hx, hb, hml, hown, hts⟩ hN hK hP hD (m_one1 l D  ) (va_cwS 1 hts gX9_source_X9_one rfl rfl rfl (by decide +kernel) ⟨Nat.le_trans (m := 1) (Nat.le_of_ble_eq_true rfl) hR.1, Nat.le_trans (m := 20) (Nat.le_of_ble_eq_true rfl) hR.2⟩) [] [] rfl rfl (by decide) rfl hl.1 rfl (Nat.le_of_ble_eq_true rfl) dX9_source_186 ⟨hcs.1, hcs.2⟩) (fun r_251 h_252 => ?_)
                            subst h_252
                            refine lv_iadd hx hb dX9_source_189 ?_
                            refine lv_topi (fun z_253 ez_253 => ?_)
                            have tz_253 := ad_toInt (zx := (x).toInt) (zy := 1) ez_253 rfl (by decide)
                            refine lv_istore_n (lv' := [(3, .int z_253), (5, .int 0), (4, .int k), (0, .ref h0), (1, .int p0), (2, .int p1)]) hx hb dX9_source_190 rfl hl (by decide) rfl (fun ls hl => ?_)
                            obtain ⟨x_254, ex_254⟩ : ∃ z : Int32, z = k + 1 := ⟨_, rfl⟩
                            have tx_254 := ad_toInt (x := k) (y := 1) (z := x_254) (zx := (k).toInt) (zy := 1) ex_254 rfl (by decide)
                            refine lv_iinc (v := x_254) (lv' := [(4, .int x_254), (3, .int z_253), (5, .int 0), (0, .ref h0), (1, .int p0), (2, .int p1)]) hx hb dX9_source_191 hl (k := 2) rfl (by rw [ex_254]; rfl) (by decide) rfl (fun ls hl => ?_)
                            refine lv_goto (tgt := 27) hx hb dX9_source_194 (by decide) ?_
                            exact ih _ _ _ (by first | omega | assumption) (by omega) (lv_sub hl [0, 1, 3, 4, 5] rfl)
                          · refine lv_iload_n hx hb dX9_source_159 rfl (lv_at hl 5 rfl) ?_
                            refine lv_bipush (v := 6) hx hb dX9_source_160 (by decide) ?_
                            refine bi_ne (zx := (p1).toInt) (zy := 6) (tgt := 185) hx hb dX9_source_162 (by decide) rfl (by decide) (fun c_255 => ?_) (fun c_255 => ?_)
                            · refine lv_iconst (v := 0) hx hb dX9_source_185 (by decide) ?_
                              refine vp_callSi (zrS (As := [.int 0]) (rest := [.int x]) (wc := []) ⟨hx, hb, hml, hown, hts⟩ hN hK hP hD (m_one0 l D  ) (va_cwS 1 hts gX9_source_X9_one rfl rfl rfl (by decide +kernel) ⟨Nat.le_trans (m := 1) (Nat.le_of_ble_eq_true rfl) hR.1, Nat.le_trans (m := 20) (Nat.le_of_ble_eq_true rfl) hR.2⟩) [] [] rfl rfl (by decide) rfl hl.1 rfl (Nat.le_of_ble_eq_true rfl) dX9_source_186 ⟨hcs.1, hcs.2⟩) (fun r_256 h_257 => ?_)
                              subst h_257
                              refine lv_iadd hx hb dX9_source_189 ?_
                              refine lv_topi (fun z_258 ez_258 => ?_)
                              have tz_258 := ad_toInt (zx := (x).toInt) (zy := 0) ez_258 rfl (by decide)
                              refine lv_istore_n (lv' := [(3, .int z_258), (5, .int 0), (4, .int k), (0, .ref h0), (1, .int p0), (2, .int p1)]) hx hb dX9_source_190 rfl hl (by decide) rfl (fun ls hl => ?_)
                              obtain ⟨x_259, ex_259⟩ : ∃ z : Int32, z = k + 1 := ⟨_, rfl⟩
                              have tx_259 := ad_toInt (x := k) (y := 1) (z := x_259) (zx := (k).toInt) (zy := 1) ex_259 rfl (by decide)
                              refine lv_iinc (v := x_259) (lv' := [(4, .int x_259), (3, .int z_258), (5, .int 0), (0, .ref h0), (1, .int p0), (2, .int p1)]) hx hb dX9_source_191 hl (k := 2) rfl (by rw [ex_259]; rfl) (by decide) rfl (fun ls hl => ?_)
                              refine lv_goto (tgt := 27) hx hb dX9_source_194 (by decide) ?_
                              exact ih _ _ _ (by first | omega | assumption) (by omega) (lv_sub hl [0, 1, 3, 4, 5] rfl)
                            · refine lv_aload_n hx hb dX9_source_165 rfl (lv_at hl 3 rfl) ?_
                              refine va_get (D := D) (ci := 9) (v := .ref b8) (C := RX9) (T := TX9) (N := 37) hx hb hts hin_X9 hown hK hP 0 rfl rfl 14 (by decide) (hts (.fieldLink RX9 38 "CryOrderModel" "state" "[I") (List.mem_cons_of_mem _ (List.mem_append_left _ (List.mem_of_getElem? (i := 5) rfl)))) (fun _ h9 => h9) rfl dX9_source_166 ?_
                              refine lv_iload hx hb dX9_source_169 (lv_at hl 1 rfl) ?_
                              refine va_iald hx hb hK hP 5 4 rfl rfl (vp_in_iff.mpr (by omega)) dX9_source_171 ?_
                              refine lv_topi (fun z_260 ez_260 => ?_)
                              have qz_260 : (z_260).toInt = (z_227).toInt := by rw [ez_260, ez_227]
                              refine lv_iconst (v := 1) hx hb dX9_source_172 (by decide) ?_
                              refine bi_ne (zx := (z_260).toInt) (zy := 1) (tgt := 185) hx hb dX9_source_173 (by decide) rfl (by decide) (fun c_261 => ?_) (fun c_261 => ?_)
                              · refine lv_iconst (v := 0) hx hb dX9_source_185 (by decide) ?_
                                refine vp_callSi (zrS (As := [.int 0]) (rest := [.int x]) (wc := []) ⟨hx, hb, hml, hown, hts⟩ hN hK hP hD (m_one0 l D  ) (va_cwS 1 hts gX9_source_X9_one rfl rfl rfl (by decide +kernel) ⟨Nat.le_trans (m := 1) (Nat.le_of_ble_eq_true rfl) hR.1, Nat.le_trans (m := 20) (Nat.le_of_ble_eq_true rfl) hR.2⟩) [] [] rfl rfl (by decide) rfl hl.1 rfl (Nat.le_of_ble_eq_true rfl) dX9_source_186 ⟨hcs.1, hcs.2⟩) (fun r_262 h_263 => ?_)
                                subst h_263
                                refine lv_iadd hx hb dX9_source_189 ?_
                                refine lv_topi (fun z_264 ez_264 => ?_)
                                have tz_264 := ad_toInt (zx := (x).toInt) (zy := 0) ez_264 rfl (by decide)
                                refine lv_istore_n (lv' := [(3, .int z_264), (5, .int 0), (4, .int k), (0, .ref h0), (1, .int p0), (2, .int p1)]) hx hb dX9_source_190 rfl hl (by decide) rfl (fun ls hl => ?_)
                                obtain ⟨x_265, ex_265⟩ : ∃ z : Int32, z = k + 1 := ⟨_, rfl⟩
                                have tx_265 := ad_toInt (x := k) (y := 1) (z := x_265) (zx := (k).toInt) (zy := 1) ex_265 rfl (by decide)
                                refine lv_iinc (v := x_265) (lv' := [(4, .int x_265), (3, .int z_264), (5, .int 0), (0, .ref h0), (1, .int p0), (2, .int p1)]) hx hb dX9_source_191 hl (k := 2) rfl (by rw [ex_265]; rfl) (by decide) rfl (fun ls hl => ?_)
                                refine lv_goto (tgt := 27) hx hb dX9_source_194 (by decide) ?_
                                exact ih _ _ _ (by first | omega | assumption) (by omega) (lv_sub hl [0, 1, 3, 4, 5] rfl)
                              · refine lv_iload hx hb dX9_source_176 (lv_at hl 0 rfl) ?_
                                refine lv_if_ne (tgt := 185) hx hb dX9_source_178 (by decide) (fun c_ => absurd c_ (by decide)) (fun _ => ?_)
                                refine lv_iconst (v := 1) hx hb dX9_source_181 (by decide) ?_
                                refine lv_goto (tgt := 186) hx hb dX9_source_182 (by decide) ?_
                                refine vp_callSi (zrS (As := [.int 1]) (rest := [.int x]) (wc := []) ⟨hx, hb, hml, hown, hts⟩ hN hK hP hD (m_one1 l D  ) (va_cwS 1 hts gX9_source_X9_one rfl rfl rfl (by decide +kernel) ⟨Nat.le_trans (m := 1) (Nat.le_of_ble_eq_true rfl) hR.1, Nat.le_trans (m := 20) (Nat.le_of_ble_eq_true rfl) hR.2⟩) [] [] rfl rfl (by decide) rfl hl.1 rfl (Nat.le_of_ble_eq_true rfl) dX9_source_186 ⟨hcs.1, hcs.2⟩) (fun r_266 h_267 => ?_)
                                subst h_267
                                refine lv_iadd hx hb dX9_source_189 ?_
                                refine lv_topi (fun z_268 ez_268 => ?_)
                                have tz_268 := ad_toInt (zx := (x).toInt) (zy := 1) ez_268 rfl (by decide)
                                refine lv_istore_n (lv' := [(3, .int z_268), (5, .int 0), (4, .int k), (0, .ref h0), (1, .int p0), (2, .int p1)]) hx hb dX9_source_190 rfl hl (by decide) rfl (fun ls hl => ?_)
                                obtain ⟨x_269, ex_269⟩ : ∃ z : Int32, z = k + 1 := ⟨_, rfl⟩
                                have tx_269 := ad_toInt (x := k) (y := 1) (z := x_269) (zx := (k).toInt) (zy := 1) ex_269 rfl (by decide)
                                refine lv_iinc (v := x_269) (lv' := [(4, .int x_269), (3, .int z_268), (5, .int 0), (0, .ref h0), (1, .int p0), (2, .int p1)]) hx hb dX9_source_191 hl (k := 2) rfl (by rw [ex_269]; rfl) (by decide) rfl (fun ls hl => ?_)
                                refine lv_goto (tgt := 27) hx hb dX9_source_194 (by decide) ?_
                                exact ih _ _ _ (by first | omega | assumption) (by omega) (lv_sub hl [0, 1, 3, 4, 5] rfl)
                  · refine lv_aload_n hx hb dX9_source_117 rfl (lv_at hl 3 rfl) ?_
                    refine va_get (D := D) (ci := 9) (v := .ref b12) (C := RX9) (T := TX9) (N := 37) hx hb hts hin_X9 hown hK hP 0 rfl rfl 18 (by decide) (hts (.fieldLink RX9 51 "CryOrderModel" "isCapped" "[Z") (List.mem_cons_of_mem _ (List.mem_append_left _ (List.mem_of_getElem? (i := 3) rfl)))) (fun _ h9 => h9) rfl dX9_source_118 ?_
                    refine lv_iload hx hb dX9_source_121 (lv_at hl 1 rfl) ?_
                    refine va_zald hx hb hK hP 3 2 rfl rfl (vp_in_iff.mpr (by omega)) dX9_source_123 ?_
                    refine lv_topi (fun z_270 ez_270 => ?_)
                    refine bz_ne (zx := (z_270).toInt) (tgt := 181) hx hb dX9_source_124 (by decide) rfl (fun c_271 => ?_) (fun c_271 => ?_)
                    · refine lv_iconst (v := 1) hx hb dX9_source_181 (by decide) ?_
                      refine lv_goto (tgt := 186) hx hb dX9_source_182 (by decide) ?_
                      refine vp_callSi (zrS (As := [.int 1]) (rest := [.int x]) (wc := []) ⟨hx, hb, hml, hown, hts⟩ hN hK hP hD (m_one1 l D  ) (va_cwS 1 hts gX9_source_X9_one rfl rfl rfl (by decide +kernel) ⟨Nat.le_trans (m := 1) (Nat.le_of_ble_eq_true rfl) hR.1, Nat.le_trans (m := 20) (Nat.le_of_ble_eq_true rfl) hR.2⟩) [] [] rfl rfl (by decide) rfl hl.1 rfl (Nat.le_of_ble_eq_true rfl) dX9_source_186 ⟨hcs.1, hcs.2⟩) (fun r_272 h_273 => ?_)
                      subst h_273
                      refine lv_iadd hx hb dX9_source_189 ?_
                      refine lv_topi (fun z_274 ez_274 => ?_)
                      have tz_274 := ad_toInt (zx := (x).toInt) (zy := 1) ez_274 rfl (by decide)
                      refine lv_istore_n (lv' := [(3, .int z_274), (5, .int 0), (4, .int k), (0, .ref h0), (1, .int p0), (2, .int p1)]) hx hb dX9_source_190 rfl hl (by decide) rfl (fun ls hl => ?_)
                      obtain ⟨x_275, ex_275⟩ : ∃ z : Int32, z = k + 1 := ⟨_, rfl⟩
                      have tx_275 := ad_toInt (x := k) (y := 1) (z := x_275) (zx := (k).toInt) (zy := 1) ex_275 rfl (by decide)
                      refine lv_iinc (v := x_275) (lv' := [(4, .int x_275), (3, .int z_274), (5, .int 0), (0, .ref h0), (1, .int p0), (2, .int p1)]) hx hb dX9_source_191 hl (k := 2) rfl (by rw [ex_275]; rfl) (by decide) rfl (fun ls hl => ?_)
                      refine lv_goto (tgt := 27) hx hb dX9_source_194 (by decide) ?_
                      exact ih _ _ _ (by first | omega | assumption) (by omega) (lv_sub hl [0, 1, 3, 4, 5] rfl)
                    · refine lv_iload_n hx hb dX9_source_127 rfl (lv_at hl 5 rfl) ?_
                      refine lv_iconst (v := 4) hx hb dX9_source_128 (by decide) ?_
                      refine bi_ne (zx := (p1).toInt) (zy := 4) (tgt := 143) hx hb dX9_source_129 (by decide) rfl (by decide) (fun c_276 => ?_) (fun c_276 => ?_)
                      · refine lv_iload_n hx hb dX9_source_143 rfl (lv_at hl 5 rfl) ?_
                        refine lv_iconst (v := 5) hx hb dX9_source_144 (by decide) ?_
                        refine bi_ne (zx := (p1).toInt) (zy := 5) (tgt := 159) hx hb dX9_source_145 (by decide) rfl (by decide) (fun c_277 => ?_) (fun c_277 => ?_)
                        · refine lv_iload_n hx hb dX9_source_159 rfl (lv_at hl 5 rfl) ?_
                          refine lv_bipush (v := 6) hx hb dX9_source_160 (by decide) ?_
                          refine bi_ne (zx := (p1).toInt) (zy := 6) (tgt := 185) hx hb dX9_source_162 (by decide) rfl (by decide) (fun c_278 => ?_) (fun c_278 => ?_)
                          · refine lv_iconst (v := 0) hx hb dX9_source_185 (by decide) ?_
                            refine vp_callSi (zrS (As := [.int 0]) (rest := [.int x]) (wc := []) ⟨hx, hb, hml, hown, hts⟩ hN hK hP hD (m_one0 l D  ) (va_cwS 1 hts gX9_source_X9_one rfl rfl rfl (by decide +kernel) ⟨Nat.le_trans (m := 1) (Nat.le_of_ble_eq_true rfl) hR.1, Nat.le_trans (m := 20) (Nat.le_of_ble_eq_true rfl) hR.2⟩) [] [] rfl rfl (by decide) rfl hl.1 rfl (Nat.le_of_ble_eq_true rfl) dX9_source_186 ⟨hcs.1, hcs.2⟩) (fun r_279 h_280 => ?_)
                            subst h_280
                            refine lv_iadd hx hb dX9_source_189 ?_
                            refine lv_topi (fun z_281 ez_281 => ?_)
                            have tz_281 := ad_toInt (zx := (x).toInt) (zy := 0) ez_281 rfl (by decide)
                            refine lv_istore_n (lv' := [(3, .int z_281), (5, .int 0), (4, .int k), (0, .ref h0), (1, .int p0), (2, .int p1)]) hx hb dX9_source_190 rfl hl (by decide) rfl (fun ls hl => ?_)
                            obtain ⟨x_282, ex_282⟩ : ∃ z : Int32, z = k + 1 := ⟨_, rfl⟩
                            have tx_282 := ad_toInt (x := k) (y := 1) (z := x_282) (zx := (k).toInt) (zy := 1) ex_282 rfl (by decide)
                            refine lv_iinc (v := x_282) (lv' := [(4, .int x_282), (3, .int z_281), (5, .int 0), (0, .ref h0), (1, .int p0), (2, .int p1)]) hx hb dX9_source_191 hl (k := 2) rfl (by rw [ex_282]; rfl) (by decide) rfl (fun ls hl => ?_)
                            refine lv_goto (tgt := 27) hx hb dX9_source_194 (by decide) ?_
                            exact ih _ _ _ (by first | omega | assumption) (by omega) (lv_sub hl [0, 1, 3, 4, 5] rfl)
                          · refine lv_aload_n hx hb dX9_source_165 rfl (lv_at hl 3 rfl) ?_
                            refine va_get (D := D) (ci := 9) (v := .ref b8) (C := RX9) (T := TX9) (N := 37) hx hb hts hin_X9 hown hK hP 0 rfl rfl 14 (by decide) (hts (.fieldLink RX9 38 "CryOrderModel" "state" "[I") (List.mem_cons_of_mem _ (List.mem_append_left _ (List.mem_of_getElem? (i := 5) rfl)))) (fun _ h9 => h9) rfl dX9_source_166 ?_
                            refine lv_iload hx hb dX9_source_169 (lv_at hl 1 rfl) ?_
                            refine va_iald hx hb hK hP 5 4 rfl rfl (vp_in_iff.mpr (by omega)) dX9_source_171 ?_
                            refine lv_topi (fun z_283 ez_283 => ?_)
                            refine lv_iconst (v := 1) hx hb dX9_source_172 (by decide) ?_
                            refine bi_ne (zx := (z_283).toInt) (zy := 1) (tgt := 185) hx hb dX9_source_173 (by decide) rfl (by decide) (fun c_284 => ?_) (fun c_284 => ?_)
                            · refine lv_iconst (v := 0) hx hb dX9_source_185 (by decide) ?_
                              refine vp_callSi (zrS (As := [.int 0]) (rest := [.int x]) (wc := []) ⟨hx, hb, hml, hown, hts⟩ hN hK hP hD (m_one0 l D  ) (va_cwS 1 hts gX9_source_X9_one rfl rfl rfl (by decide +kernel) ⟨Nat.le_trans (m := 1) (Nat.le_of_ble_eq_true rfl) hR.1, Nat.le_trans (m := 20) (Nat.le_of_ble_eq_true rfl) hR.2⟩) [] [] rfl rfl (by decide) rfl hl.1 rfl (Nat.le_of_ble_eq_true rfl) dX9_source_186 ⟨hcs.1, hcs.2⟩) (fun r_285 h_286 => ?_)
                              subst h_286
                              refine lv_iadd hx hb dX9_source_189 ?_
                              refine lv_topi (fun z_287 ez_287 => ?_)
                              have tz_287 := ad_toInt (zx := (x).toInt) (zy := 0) ez_287 rfl (by decide)
                              refine lv_istore_n (lv' := [(3, .int z_287), (5, .int 0), (4, .int k), (0, .ref h0), (1, .int p0), (2, .int p1)]) hx hb dX9_source_190 rfl hl (by decide) rfl (fun ls hl => ?_)
                              obtain ⟨x_288, ex_288⟩ : ∃ z : Int32, z = k + 1 := ⟨_, rfl⟩
                              have tx_288 := ad_toInt (x := k) (y := 1) (z := x_288) (zx := (k).toInt) (zy := 1) ex_288 rfl (by decide)
                              refine lv_iinc (v := x_288) (lv' := [(4, .int x_288), (3, .int z_287), (5, .int 0), (0, .ref h0), (1, .int p0), (2, .int p1)]) hx hb dX9_source_191 hl (k := 2) rfl (by rw [ex_288]; rfl) (by decide) rfl (fun ls hl => ?_)
                              refine lv_goto (tgt := 27) hx hb dX9_source_194 (by decide) ?_
                              exact ih _ _ _ (by first | omega | assumption) (by omega) (lv_sub hl [0, 1, 3, 4, 5] rfl)
                            · refine lv_iload hx hb dX9_source_176 (lv_at hl 0 rfl) ?_
                              refine lv_if_ne (tgt := 185) hx hb dX9_source_178 (by decide) (fun c_ => absurd c_ (by decide)) (fun _ => ?_)
                              refine lv_iconst (v := 1) hx hb dX9_source_181 (by decide) ?_
                              refine lv_goto (tgt := 186) hx hb dX9_source_182 (by decide) ?_
                              refine vp_callSi (zrS (As := [.int 1]) (rest := [.int x]) (wc := []) ⟨hx, hb, hml, hown, hts⟩ hN hK hP hD (m_one1 l D  ) (va_cwS 1 hts gX9_source_X9_one rfl rfl rfl (by decide +kernel) ⟨Nat.le_trans (m := 1) (Nat.le_of_ble_eq_true rfl) hR.1, Nat.le_trans (m := 20) (Nat.le_of_ble_eq_true rfl) hR.2⟩) [] [] rfl rfl (by decide) rfl hl.1 rfl (Nat.le_of_ble_eq_true rfl) dX9_source_186 ⟨hcs.1, hcs.2⟩) (fun r_289 h_290 => ?_)
                              subst h_290
                              refine lv_iadd hx hb dX9_source_189 ?_
                              refine lv_topi (fun z_291 ez_291 => ?_)
                              have tz_291 := ad_toInt (zx := (x).toInt) (zy := 1) ez_291 rfl (by decide)
                              refine lv_istore_n (lv' := [(3, .int z_291), (5, .int 0), (4, .int k), (0, .ref h0), (1, .int p0), (2, .int p1)]) hx hb dX9_source_190 rfl hl (by decide) rfl (fun ls hl => ?_)
                              obtain ⟨x_292, ex_292⟩ : ∃ z : Int32, z = k + 1 := ⟨_, rfl⟩
                              have tx_292 := ad_toInt (x := k) (y := 1) (z := x_292) (zx := (k).toInt) (zy := 1) ex_292 rfl (by decide)
                              refine lv_iinc (v := x_292) (lv' := [(4, .int x_292), (3, .int z_291), (5, .int 0), (0, .ref h0), (1, .int p0), (2, .int p1)]) hx hb dX9_source_191 hl (k := 2) rfl (by rw [ex_292]; rfl) (by decide) rfl (fun ls hl => ?_)
                              refine lv_goto (tgt := 27) hx hb dX9_source_194 (by decide) ?_
                              exact ih _ _ _ (by first | omega | assumption) (by omega) (lv_sub hl [0, 1, 3, 4, 5] rfl)
                        · refine lv_aload_n hx hb dX9_source_148 rfl (lv_at hl 3 rfl) ?_
                          refine va_get (D := D) (ci := 9) (v := .ref b8) (C := RX9) (T := TX9) (N := 37) hx hb hts hin_X9 hown hK hP 0 rfl rfl 14 (by decide) (hts (.fieldLink RX9 38 "CryOrderModel" "state" "[I") (List.mem_cons_of_mem _ (List.mem_append_left _ (List.mem_of_getElem? (i := 5) rfl)))) (fun _ h9 => h9) rfl dX9_source_149 ?_
                          refine lv_iload hx hb dX9_source_152 (lv_at hl 1 rfl) ?_
                          refine va_iald hx hb hK hP 5 4 rfl rfl (vp_in_iff.mpr (by omega)) dX9_source_154 ?_
                          refine lv_topi (fun z_293 ez_293 => ?_)
                          refine lv_iconst (v := 2) hx hb dX9_source_155 (by decide) ?_
                          refine bi_eq (zx := (z_293).toInt) (zy := 2) (tgt := 181) hx hb dX9_source_156 (by decide) rfl (by decide) (fun c_294 => ?_) (fun c_294 => ?_)
                          · refine lv_iconst (v := 1) hx hb dX9_source_181 (by decide) ?_
                            refine lv_goto (tgt := 186) hx hb dX9_source_182 (by decide) ?_
                            refine vp_callSi (zrS (As := [.int 1]) (rest := [.int x]) (wc := []) ⟨hx, hb, hml, hown, hts⟩ hN hK hP hD (m_one1 l D  ) (va_cwS 1 hts gX9_source_X9_one rfl rfl rfl (by decide +kernel) ⟨Nat.le_trans (m := 1) (Nat.le_of_ble_eq_true rfl) hR.1, Nat.le_trans (m := 20) (Nat.le_of_ble_eq_true rfl) hR.2⟩) [] [] rfl rfl (by decide) rfl hl.1 rfl (Nat.le_of_ble_eq_true rfl) dX9_source_186 ⟨hcs.1, hcs.2⟩) (fun r_295 h_296 => ?_)
                            subst h_296
                            refine lv_iadd hx hb dX9_source_189 ?_
                            refine lv_topi (fun z_297 ez_297 => ?_)
                            have tz_297 := ad_toInt (zx := (x).toInt) (zy := 1) ez_297 rfl (by decide)
                            refine lv_istore_n (lv' := [(3, .int z_297), (5, .int 0), (4, .int k), (0, .ref h0), (1, .int p0), (2, .int p1)]) hx hb dX9_source_190 rfl hl (by decide) rfl (fun ls hl => ?_)
                            obtain ⟨x_298, ex_298⟩ : ∃ z : Int32, z = k + 1 := ⟨_, rfl⟩
                            have tx_298 := ad_toInt (x := k) (y := 1) (z := x_298) (zx := (k).toInt) (zy := 1) ex_298 rfl (by decide)
                            refine lv_iinc (v := x_298) (lv' := [(4, .int x_298), (3, .int z_297), (5, .int 0), (0, .ref h0), (1, .int p0), (2, .int p1)]) hx hb dX9_source_191 hl (k := 2) rfl (by rw [ex_298]; rfl) (by decide) rfl (fun ls hl => ?_)
                            refine lv_goto (tgt := 27) hx hb dX9_source_194 (by decide) ?_
                            exact ih _ _ _ (by first | omega | assumption) (by omega) (lv_sub hl [0, 1, 3, 4, 5] rfl)
                          · refine lv_iload_n hx hb dX9_source_159 rfl (lv_at hl 5 rfl) ?_
                            refine lv_bipush (v := 6) hx hb dX9_source_160 (by decide) ?_
                            refine bi_ne (zx := (p1).toInt) (zy := 6) (tgt := 185) hx hb dX9_source_162 (by decide) rfl (by decide) (fun c_299 => ?_) (fun c_299 => ?_)
                            · refine lv_iconst (v := 0) hx hb dX9_source_185 (by decide) ?_
                              refine vp_callSi (zrS (As := [.int 0]) (rest := [.int x]) (wc := []) ⟨hx, hb, hml, hown, hts⟩ hN hK hP hD (m_one0 l D  ) (va_cwS 1 hts gX9_source_X9_one rfl rfl rfl (by decide +kernel) ⟨Nat.le_trans (m := 1) (Nat.le_of_ble_eq_true rfl) hR.1, Nat.le_trans (m := 20) (Nat.le_of_ble_eq_true rfl) hR.2⟩) [] [] rfl rfl (by decide) rfl hl.1 rfl (Nat.le_of_ble_eq_true rfl) dX9_source_186 ⟨hcs.1, hcs.2⟩) (fun r_300 h_301 => ?_)
                              subst h_301
                              refine lv_iadd hx hb dX9_source_189 ?_
                              refine lv_topi (fun z_302 ez_302 => ?_)
                              have tz_302 := ad_toInt (zx := (x).toInt) (zy := 0) ez_302 rfl (by decide)
                              refine lv_istore_n (lv' := [(3, .int z_302), (5, .int 0), (4, .int k), (0, .ref h0), (1, .int p0), (2, .int p1)]) hx hb dX9_source_190 rfl hl (by decide) rfl (fun ls hl => ?_)
                              obtain ⟨x_303, ex_303⟩ : ∃ z : Int32, z = k + 1 := ⟨_, rfl⟩
                              have tx_303 := ad_toInt (x := k) (y := 1) (z := x_303) (zx := (k).toInt) (zy := 1) ex_303 rfl (by decide)
                              refine lv_iinc (v := x_303) (lv' := [(4, .int x_303), (3, .int z_302), (5, .int 0), (0, .ref h0), (1, .int p0), (2, .int p1)]) hx hb dX9_source_191 hl (k := 2) rfl (by rw [ex_303]; rfl) (by decide) rfl (fun ls hl => ?_)
                              refine lv_goto (tgt := 27) hx hb dX9_source_194 (by decide) ?_
                              exact ih _ _ _ (by first | omega | assumption) (by omega) (lv_sub hl [0, 1, 3, 4, 5] rfl)
                            · refine lv_aload_n hx hb dX9_source_165 rfl (lv_at hl 3 rfl) ?_
                              refine va_get (D := D) (ci := 9) (v := .ref b8) (C := RX9) (T := TX9) (N := 37) hx hb hts hin_X9 hown hK hP 0 rfl rfl 14 (by decide) (hts (.fieldLink RX9 38 "CryOrderModel" "state" "[I") (List.mem_cons_of_mem _ (List.mem_append_left _ (List.mem_of_getElem? (i := 5) rfl)))) (fun _ h9 => h9) rfl dX9_source_166 ?_
                              refine lv_iload hx hb dX9_source_169 (lv_at hl 1 rfl) ?_
                              refine va_iald hx hb hK hP 5 4 rfl rfl (vp_in_iff.mpr (by omega)) dX9_source_171 ?_
                              refine lv_topi (fun z_304 ez_304 => ?_)
                              have qz_304 : (z_304).toInt = (z_293).toInt := by rw [ez_304, ez_293]
                              refine lv_iconst (v := 1) hx hb dX9_source_172 (by decide) ?_
                              refine bi_ne (zx := (z_304).toInt) (zy := 1) (tgt := 185) hx hb dX9_source_173 (by decide) rfl (by decide) (fun c_305 => ?_) (fun c_305 => ?_)
                              · refine lv_iconst (v := 0) hx hb dX9_source_185 (by decide) ?_
                                refine vp_callSi (zrS (As := [.int 0]) (rest := [.int x]) (wc := []) ⟨hx, hb, hml, hown, hts⟩ hN hK hP hD (m_one0 l D  ) (va_cwS 1 hts gX9_source_X9_one rfl rfl rfl (by decide +kernel) ⟨Nat.le_trans (m := 1) (Nat.le_of_ble_eq_true rfl) hR.1, Nat.le_trans (m := 20) (Nat.le_of_ble_eq_true rfl) hR.2⟩) [] [] rfl rfl (by decide) rfl hl.1 rfl (Nat.le_of_ble_eq_true rfl) dX9_source_186 ⟨hcs.1, hcs.2⟩) (fun r_306 h_307 => ?_)
                                subst h_307
                                refine lv_iadd hx hb dX9_source_189 ?_
                                refine lv_topi (fun z_308 ez_308 => ?_)
                                have tz_308 := ad_toInt (zx := (x).toInt) (zy := 0) ez_308 rfl (by decide)
                                refine lv_istore_n (lv' := [(3, .int z_308), (5, .int 0), (4, .int k), (0, .ref h0), (1, .int p0), (2, .int p1)]) hx hb dX9_source_190 rfl hl (by decide) rfl (fun ls hl => ?_)
                                obtain ⟨x_309, ex_309⟩ : ∃ z : Int32, z = k + 1 := ⟨_, rfl⟩
                                have tx_309 := ad_toInt (x := k) (y := 1) (z := x_309) (zx := (k).toInt) (zy := 1) ex_309 rfl (by decide)
                                refine lv_iinc (v := x_309) (lv' := [(4, .int x_309), (3, .int z_308), (5, .int 0), (0, .ref h0), (1, .int p0), (2, .int p1)]) hx hb dX9_source_191 hl (k := 2) rfl (by rw [ex_309]; rfl) (by decide) rfl (fun ls hl => ?_)
                                refine lv_goto (tgt := 27) hx hb dX9_source_194 (by decide) ?_
                                exact ih _ _ _ (by first | omega | assumption) (by omega) (lv_sub hl [0, 1, 3, 4, 5] rfl)
                              · refine lv_iload hx hb dX9_source_176 (lv_at hl 0 rfl) ?_
                                refine lv_if_ne (tgt := 185) hx hb dX9_source_178 (by decide) (fun c_ => absurd c_ (by decide)) (fun _ => ?_)
                                refine lv_iconst (v := 1) hx hb dX9_source_181 (by decide) ?_
                                refine lv_goto (tgt := 186) hx hb dX9_source_182 (by decide) ?_
                                refine vp_callSi (zrS (As := [.int 1]) (rest := [.int x]) (wc := []) ⟨hx, hb, hml, hown, hts⟩ hN hK hP hD (m_one1 l D  ) (va_cwS 1 hts gX9_source_X9_one rfl rfl rfl (by decide +kernel) ⟨Nat.le_trans (m := 1) (Nat.le_of_ble_eq_true rfl) hR.1, Nat.le_trans (m := 20) (Nat.le_of_ble_eq_true rfl) hR.2⟩) [] [] rfl rfl (by decide) rfl hl.1 rfl (Nat.le_of_ble_eq_true rfl) dX9_source_186 ⟨hcs.1, hcs.2⟩) (fun r_310 h_311 => ?_)
                                subst h_311
                                refine lv_iadd hx hb dX9_source_189 ?_
                                refine lv_topi (fun z_312 ez_312 => ?_)
                                have tz_312 := ad_toInt (zx := (x).toInt) (zy := 1) ez_312 rfl (by decide)
                                refine lv_istore_n (lv' := [(3, .int z_312), (5, .int 0), (4, .int k), (0, .ref h0), (1, .int p0), (2, .int p1)]) hx hb dX9_source_190 rfl hl (by decide) rfl (fun ls hl => ?_)
                                obtain ⟨x_313, ex_313⟩ : ∃ z : Int32, z = k + 1 := ⟨_, rfl⟩
                                have tx_313 := ad_toInt (x := k) (y := 1) (z := x_313) (zx := (k).toInt) (zy := 1) ex_313 rfl (by decide)
                                refine lv_iinc (v := x_313) (lv' := [(4, .int x_313), (3, .int z_312), (5, .int 0), (0, .ref h0), (1, .int p0), (2, .int p1)]) hx hb dX9_source_191 hl (k := 2) rfl (by rw [ex_313]; rfl) (by decide) rfl (fun ls hl => ?_)
                                refine lv_goto (tgt := 27) hx hb dX9_source_194 (by decide) ?_
                                exact ih _ _ _ (by first | omega | assumption) (by omega) (lv_sub hl [0, 1, 3, 4, 5] rfl)
                      · refine lv_aload_n hx hb dX9_source_132 rfl (lv_at hl 3 rfl) ?_
                        refine va_get (D := D) (ci := 9) (v := .ref b8) (C := RX9) (T := TX9) (N := 37) hx hb hts hin_X9 hown hK hP 0 rfl rfl 14 (by decide) (hts (.fieldLink RX9 38 "CryOrderModel" "state" "[I") (List.mem_cons_of_mem _ (List.mem_append_left _ (List.mem_of_getElem? (i := 5) rfl)))) (fun _ h9 => h9) rfl dX9_source_133 ?_
                        refine lv_iload hx hb dX9_source_136 (lv_at hl 1 rfl) ?_
                        refine va_iald hx hb hK hP 5 4 rfl rfl (vp_in_iff.mpr (by omega)) dX9_source_138 ?_
                        refine lv_topi (fun z_314 ez_314 => ?_)
                        refine lv_iconst (v := 1) hx hb dX9_source_139 (by decide) ?_
                        refine bi_eq (zx := (z_314).toInt) (zy := 1) (tgt := 181) hx hb dX9_source_140 (by decide) rfl (by decide) (fun c_315 => ?_) (fun c_315 => ?_)
                        · refine lv_iconst (v := 1) hx hb dX9_source_181 (by decide) ?_
                          refine lv_goto (tgt := 186) hx hb dX9_source_182 (by decide) ?_
                          refine vp_callSi (zrS (As := [.int 1]) (rest := [.int x]) (wc := []) ⟨hx, hb, hml, hown, hts⟩ hN hK hP hD (m_one1 l D  ) (va_cwS 1 hts gX9_source_X9_one rfl rfl rfl (by decide +kernel) ⟨Nat.le_trans (m := 1) (Nat.le_of_ble_eq_true rfl) hR.1, Nat.le_trans (m := 20) (Nat.le_of_ble_eq_true rfl) hR.2⟩) [] [] rfl rfl (by decide) rfl hl.1 rfl (Nat.le_of_ble_eq_true rfl) dX9_source_186 ⟨hcs.1, hcs.2⟩) (fun r_316 h_317 => ?_)
                          subst h_317
                          refine lv_iadd hx hb dX9_source_189 ?_
                          refine lv_topi (fun z_318 ez_318 => ?_)
                          have tz_318 := ad_toInt (zx := (x).toInt) (zy := 1) ez_318 rfl (by decide)
                          refine lv_istore_n (lv' := [(3, .int z_318), (5, .int 0), (4, .int k), (0, .ref h0), (1, .int p0), (2, .int p1)]) hx hb dX9_source_190 rfl hl (by decide) rfl (fun ls hl => ?_)
                          obtain ⟨x_319, ex_319⟩ : ∃ z : Int32, z = k + 1 := ⟨_, rfl⟩
                          have tx_319 := ad_toInt (x := k) (y := 1) (z := x_319) (zx := (k).toInt) (zy := 1) ex_319 rfl (by decide)
                          refine lv_iinc (v := x_319) (lv' := [(4, .int x_319), (3, .int z_318), (5, .int 0), (0, .ref h0), (1, .int p0), (2, .int p1)]) hx hb dX9_source_191 hl (k := 2) rfl (by rw [ex_319]; rfl) (by decide) rfl (fun ls hl => ?_)
                          refine lv_goto (tgt := 27) hx hb dX9_source_194 (by decide) ?_
                          exact ih _ _ _ (by first | omega | assumption) (by omega) (lv_sub hl [0, 1, 3, 4, 5] rfl)
                        · refine lv_iload_n hx hb dX9_source_143 rfl (lv_at hl 5 rfl) ?_
                          refine lv_iconst (v := 5) hx hb dX9_source_144 (by decide) ?_
                          refine bi_ne (zx := (p1).toInt) (zy := 5) (tgt := 159) hx hb dX9_source_145 (by decide) rfl (by decide) (fun c_320 => ?_) (fun c_320 => ?_)
                          · refine lv_iload_n hx hb dX9_source_159 rfl (lv_at hl 5 rfl) ?_
                            refine lv_bipush (v := 6) hx hb dX9_source_160 (by decide) ?_
                            refine bi_ne (zx := (p1).toInt) (zy := 6) (tgt := 185) hx hb dX9_source_162 (by decide) rfl (by decide) (fun c_321 => ?_) (fun c_321 => ?_)
                            · refine lv_iconst (v := 0) hx hb dX9_source_185 (by decide) ?_
                              refine vp_callSi (zrS (As := [.int 0]) (rest := [.int x]) (wc := []) ⟨hx, hb, hml, hown, hts⟩ hN hK hP hD (m_one0 l D  ) (va_cwS 1 hts gX9_source_X9_one rfl rfl rfl (by decide +kernel) ⟨Nat.le_trans (m := 1) (Nat.le_of_ble_eq_true rfl) hR.1, Nat.le_trans (m := 20) (Nat.le_of_ble_eq_true rfl) hR.2⟩) [] [] rfl rfl (by decide) rfl hl.1 rfl (Nat.le_of_ble_eq_true rfl) dX9_source_186 ⟨hcs.1, hcs.2⟩) (fun r_322 h_323 => ?_)
                              subst h_323
                              refine lv_iadd hx hb dX9_source_189 ?_
                              refine lv_topi (fun z_324 ez_324 => ?_)
                              have tz_324 := ad_toInt (zx := (x).toInt) (zy := 0) ez_324 rfl (by decide)
                              refine lv_istore_n (lv' := [(3, .int z_324), (5, .int 0), (4, .int k), (0, .ref h0), (1, .int p0), (2, .int p1)]) hx hb dX9_source_190 rfl hl (by decide) rfl (fun ls hl => ?_)
                              obtain ⟨x_325, ex_325⟩ : ∃ z : Int32, z = k + 1 := ⟨_, rfl⟩
                              have tx_325 := ad_toInt (x := k) (y := 1) (z := x_325) (zx := (k).toInt) (zy := 1) ex_325 rfl (by decide)
                              refine lv_iinc (v := x_325) (lv' := [(4, .int x_325), (3, .int z_324), (5, .int 0), (0, .ref h0), (1, .int p0), (2, .int p1)]) hx hb dX9_source_191 hl (k := 2) rfl (by rw [ex_325]; rfl) (by decide) rfl (fun ls hl => ?_)
                              refine lv_goto (tgt := 27) hx hb dX9_source_194 (by decide) ?_
                              exact ih _ _ _ (by first | omega | assumption) (by omega) (lv_sub hl [0, 1, 3, 4, 5] rfl)
                            · refine lv_aload_n hx hb dX9_source_165 rfl (lv_at hl 3 rfl) ?_
                              refine va_get (D := D) (ci := 9) (v := .ref b8) (C := RX9) (T := TX9) (N := 37) hx hb hts hin_X9 hown hK hP 0 rfl rfl 14 (by decide) (hts (.fieldLink RX9 38 "CryOrderModel" "state" "[I") (List.mem_cons_of_mem _ (List.mem_append_left _ (List.mem_of_getElem? (i := 5) rfl)))) (fun _ h9 => h9) rfl dX9_source_166 ?_
                              refine lv_iload hx hb dX9_source_169 (lv_at hl 1 rfl) ?_
                              refine va_iald hx hb hK hP 5 4 rfl rfl (vp_in_iff.mpr (by omega)) dX9_source_171 ?_
                              refine lv_topi (fun z_326 ez_326 => ?_)
                              have qz_326 : (z_326).toInt = (z_314).toInt := by rw [ez_326, ez_314]
                              refine lv_iconst (v := 1) hx hb dX9_source_172 (by decide) ?_
                              refine bi_ne (zx := (z_326).toInt) (zy := 1) (tgt := 185) hx hb dX9_source_173 (by decide) rfl (by decide) (fun c_327 => ?_) (fun c_327 => ?_)
                              · refine lv_iconst (v := 0) hx hb dX9_source_185 (by decide) ?_
                                refine vp_callSi (zrS (As := [.int 0]) (rest := [.int x]) (wc := []) ⟨hx, hb, hml, hown, hts⟩ hN hK hP hD (m_one0 l D  ) (va_cwS 1 hts gX9_source_X9_one rfl rfl rfl (by decide +kernel) ⟨Nat.le_trans (m := 1) (Nat.le_of_ble_eq_true rfl) hR.1, Nat.le_trans (m := 20) (Nat.le_of_ble_eq_true rfl) hR.2⟩) [] [] rfl rfl (by decide) rfl hl.1 rfl (Nat.le_of_ble_eq_true rfl) dX9_source_186 ⟨hcs.1, hcs.2⟩) (fun r_328 h_329 => ?_)
                                subst h_329
                                refine lv_iadd hx hb dX9_source_189 ?_
                                refine lv_topi (fun z_330 ez_330 => ?_)
                                have tz_330 := ad_toInt (zx := (x).toInt) (zy := 0) ez_330 rfl (by decide)
                                refine lv_istore_n (lv' := [(3, .int z_330), (5, .int 0), (4, .int k), (0, .ref h0), (1, .int p0), (2, .int p1)]) hx hb dX9_source_190 rfl hl (by decide) rfl (fun ls hl => ?_)
                                obtain ⟨x_331, ex_331⟩ : ∃ z : Int32, z = k + 1 := ⟨_, rfl⟩
                                have tx_331 := ad_toInt (x := k) (y := 1) (z := x_331) (zx := (k).toInt) (zy := 1) ex_331 rfl (by decide)
                                refine lv_iinc (v := x_331) (lv' := [(4, .int x_331), (3, .int z_330), (5, .int 0), (0, .ref h0), (1, .int p0), (2, .int p1)]) hx hb dX9_source_191 hl (k := 2) rfl (by rw [ex_331]; rfl) (by decide) rfl (fun ls hl => ?_)
                                refine lv_goto (tgt := 27) hx hb dX9_source_194 (by decide) ?_
                                exact ih _ _ _ (by first | omega | assumption) (by omega) (lv_sub hl [0, 1, 3, 4, 5] rfl)
                              · refine lv_iload hx hb dX9_source_176 (lv_at hl 0 rfl) ?_
                                refine lv_if_ne (tgt := 185) hx hb dX9_source_178 (by decide) (fun c_ => absurd c_ (by decide)) (fun _ => ?_)
                                refine lv_iconst (v := 1) hx hb dX9_source_181 (by decide) ?_
                                refine lv_goto (tgt := 186) hx hb dX9_source_182 (by decide) ?_
                                refine vp_callSi (zrS (As := [.int 1]) (rest := [.int x]) (wc := []) ⟨hx, hb, hml, hown, hts⟩ hN hK hP hD (m_one1 l D  ) (va_cwS 1 hts gX9_source_X9_one rfl rfl rfl (by decide +kernel) ⟨Nat.le_trans (m := 1) (Nat.le_of_ble_eq_true rfl) hR.1, Nat.le_trans (m := 20) (Nat.le_of_ble_eq_true rfl) hR.2⟩) [] [] rfl rfl (by decide) rfl hl.1 rfl (Nat.le_of_ble_eq_true rfl) dX9_source_186 ⟨hcs.1, hcs.2⟩) (fun r_332 h_333 => ?_)
                                subst h_333
                                refine lv_iadd hx hb dX9_source_189 ?_
                                refine lv_topi (fun z_334 ez_334 => ?_)
                                have tz_334 := ad_toInt (zx := (x).toInt) (zy := 1) ez_334 rfl (by decide)
                                refine lv_istore_n (lv' := [(3, .int z_334), (5, .int 0), (4, .int k), (0, .ref h0), (1, .int p0), (2, .int p1)]) hx hb dX9_source_190 rfl hl (by decide) rfl (fun ls hl => ?_)
                                obtain ⟨x_335, ex_335⟩ : ∃ z : Int32, z = k + 1 := ⟨_, rfl⟩
                                have tx_335 := ad_toInt (x := k) (y := 1) (z := x_335) (zx := (k).toInt) (zy := 1) ex_335 rfl (by decide)
                                refine lv_iinc (v := x_335) (lv' := [(4, .int x_335), (3, .int z_334), (5, .int 0), (0, .ref h0), (1, .int p0), (2, .int p1)]) hx hb dX9_source_191 hl (k := 2) rfl (by rw [ex_335]; rfl) (by decide) rfl (fun ls hl => ?_)
                                refine lv_goto (tgt := 27) hx hb dX9_source_194 (by decide) ?_
                                exact ih _ _ _ (by first | omega | assumption) (by omega) (lv_sub hl [0, 1, 3, 4, 5] rfl)
                          · refine lv_aload_n hx hb dX9_source_148 rfl (lv_at hl 3 rfl) ?_
                            refine va_get (D := D) (ci := 9) (v := .ref b8) (C := RX9) (T := TX9) (N := 37) hx hb hts hin_X9 hown hK hP 0 rfl rfl 14 (by decide) (hts (.fieldLink RX9 38 "CryOrderModel" "state" "[I") (List.mem_cons_of_mem _ (List.mem_append_left _ (List.mem_of_getElem? (i := 5) rfl)))) (fun _ h9 => h9) rfl dX9_source_149 ?_
                            refine lv_iload hx hb dX9_source_152 (lv_at hl 1 rfl) ?_
                            refine va_iald hx hb hK hP 5 4 rfl rfl (vp_in_iff.mpr (by omega)) dX9_source_154 ?_
                            refine lv_topi (fun z_336 ez_336 => ?_)
                            have qz_336 : (z_336).toInt = (z_314).toInt := by rw [ez_336, ez_314]
                            refine lv_iconst (v := 2) hx hb dX9_source_155 (by decide) ?_
                            refine bi_eq (zx := (z_336).toInt) (zy := 2) (tgt := 181) hx hb dX9_source_156 (by decide) rfl (by decide) (fun c_337 => ?_) (fun c_337 => ?_)
                            · refine lv_iconst (v := 1) hx hb dX9_source_181 (by decide) ?_
                              refine lv_goto (tgt := 186) hx hb dX9_source_182 (by decide) ?_
                              refine vp_callSi (zrS (As := [.int 1]) (rest := [.int x]) (wc := []) ⟨hx, hb, hml, hown, hts⟩ hN hK hP hD (m_one1 l D  ) (va_cwS 1 hts gX9_source_X9_one rfl rfl rfl (by decide +kernel) ⟨Nat.le_trans (m := 1) (Nat.le_of_ble_eq_true rfl) hR.1, Nat.le_trans (m := 20) (Nat.le_of_ble_eq_true rfl) hR.2⟩) [] [] rfl rfl (by decide) rfl hl.1 rfl (Nat.le_of_ble_eq_true rfl) dX9_source_186 ⟨hcs.1, hcs.2⟩) (fun r_338 h_339 => ?_)
                              subst h_339
                              refine lv_iadd hx hb dX9_source_189 ?_
                              refine lv_topi (fun z_340 ez_340 => ?_)
                              have tz_340 := ad_toInt (zx := (x).toInt) (zy := 1) ez_340 rfl (by decide)
                              refine lv_istore_n (lv' := [(3, .int z_340), (5, .int 0), (4, .int k), (0, .ref h0), (1, .int p0), (2, .int p1)]) hx hb dX9_source_190 rfl hl (by decide) rfl (fun ls hl => ?_)
                              obtain ⟨x_341, ex_341⟩ : ∃ z : Int32, z = k + 1 := ⟨_, rfl⟩
                              have tx_341 := ad_toInt (x := k) (y := 1) (z := x_341) (zx := (k).toInt) (zy := 1) ex_341 rfl (by decide)
                              refine lv_iinc (v := x_341) (lv' := [(4, .int x_341), (3, .int z_340), (5, .int 0), (0, .ref h0), (1, .int p0), (2, .int p1)]) hx hb dX9_source_191 hl (k := 2) rfl (by rw [ex_341]; rfl) (by decide) rfl (fun ls hl => ?_)
                              refine lv_goto (tgt := 27) hx hb dX9_source_194 (by decide) ?_
                              exact ih _ _ _ (by first | omega | assumption) (by omega) (lv_sub hl [0, 1, 3, 4, 5] rfl)
                            · refine lv_iload_n hx hb dX9_source_159 rfl (lv_at hl 5 rfl) ?_
                              refine lv_bipush (v := 6) hx hb dX9_source_160 (by decide) ?_
                              refine bi_ne (zx := (p1).toInt) (zy := 6) (tgt := 185) hx hb dX9_source_162 (by decide) rfl (by decide) (fun c_342 => ?_) (fun c_342 => ?_)
                              · refine lv_iconst (v := 0) hx hb dX9_source_185 (by decide) ?_
                                refine vp_callSi (zrS (As := [.int 0]) (rest := [.int x]) (wc := []) ⟨hx, hb, hml, hown, hts⟩ hN hK hP hD (m_one0 l D  ) (va_cwS 1 hts gX9_source_X9_one rfl rfl rfl (by decide +kernel) ⟨Nat.le_trans (m := 1) (Nat.le_of_ble_eq_true rfl) hR.1, Nat.le_trans (m := 20) (Nat.le_of_ble_eq_true rfl) hR.2⟩) [] [] rfl rfl (by decide) rfl hl.1 rfl (Nat.le_of_ble_eq_true rfl) dX9_source_186 ⟨hcs.1, hcs.2⟩) (fun r_343 h_344 => ?_)
                                subst h_344
                                refine lv_iadd hx hb dX9_source_189 ?_
                                refine lv_topi (fun z_345 ez_345 => ?_)
                                have tz_345 := ad_toInt (zx := (x).toInt) (zy := 0) ez_345 rfl (by decide)
                                refine lv_istore_n (lv' := [(3, .int z_345), (5, .int 0), (4, .int k), (0, .ref h0), (1, .int p0), (2, .int p1)]) hx hb dX9_source_190 rfl hl (by decide) rfl (fun ls hl => ?_)
                                obtain ⟨x_346, ex_346⟩ : ∃ z : Int32, z = k + 1 := ⟨_, rfl⟩
                                have tx_346 := ad_toInt (x := k) (y := 1) (z := x_346) (zx := (k).toInt) (zy := 1) ex_346 rfl (by decide)
                                refine lv_iinc (v := x_346) (lv' := [(4, .int x_346), (3, .int z_345), (5, .int 0), (0, .ref h0), (1, .int p0), (2, .int p1)]) hx hb dX9_source_191 hl (k := 2) rfl (by rw [ex_346]; rfl) (by decide) rfl (fun ls hl => ?_)
                                refine lv_goto (tgt := 27) hx hb dX9_source_194 (by decide) ?_
                                exact ih _ _ _ (by first | omega | assumption) (by omega) (lv_sub hl [0, 1, 3, 4, 5] rfl)
                              · refine lv_aload_n hx hb dX9_source_165 rfl (lv_at hl 3 rfl) ?_
                                refine va_get (D := D) (ci := 9) (v := .ref b8) (C := RX9) (T := TX9) (N := 37) hx hb hts hin_X9 hown hK hP 0 rfl rfl 14 (by decide) (hts (.fieldLink RX9 38 "CryOrderModel" "state" "[I") (List.mem_cons_of_mem _ (List.mem_append_left _ (List.mem_of_getElem? (i := 5) rfl)))) (fun _ h9 => h9) rfl dX9_source_166 ?_
                                refine lv_iload hx hb dX9_source_169 (lv_at hl 1 rfl) ?_
                                refine va_iald hx hb hK hP 5 4 rfl rfl (vp_in_iff.mpr (by omega)) dX9_source_171 ?_
                                refine lv_topi (fun z_347 ez_347 => ?_)
                                have qz_347 : (z_347).toInt = (z_314).toInt := by rw [ez_347, ez_314]
                                refine lv_iconst (v := 1) hx hb dX9_source_172 (by decide) ?_
                                refine bi_ne (zx := (z_347).toInt) (zy := 1) (tgt := 185) hx hb dX9_source_173 (by decide) rfl (by decide) (fun c_348 => ?_) (fun c_348 => ?_)
                                · refine lv_iconst (v := 0) hx hb dX9_source_185 (by decide) ?_
                                  refine vp_callSi (zrS (As := [.int 0]) (rest := [.int x]) (wc := []) ⟨hx, hb, hml, hown, hts⟩ hN hK hP hD (m_one0 l D  ) (va_cwS 1 hts gX9_source_X9_one rfl rfl rfl (by decide +kernel) ⟨Nat.le_trans (m := 1) (Nat.le_of_ble_eq_true rfl) hR.1, Nat.le_trans (m := 20) (Nat.le_of_ble_eq_true rfl) hR.2⟩) [] [] rfl rfl (by decide) rfl hl.1 rfl (Nat.le_of_ble_eq_true rfl) dX9_source_186 ⟨hcs.1, hcs.2⟩) (fun r_349 h_350 => ?_)
                                  subst h_350
                                  refine lv_iadd hx hb dX9_source_189 ?_
                                  refine lv_topi (fun z_351 ez_351 => ?_)
                                  have tz_351 := ad_toInt (zx := (x).toInt) (zy := 0) ez_351 rfl (by decide)
                                  refine lv_istore_n (lv' := [(3, .int z_351), (5, .int 0), (4, .int k), (0, .ref h0), (1, .int p0), (2, .int p1)]) hx hb dX9_source_190 rfl hl (by decide) rfl (fun ls hl => ?_)
                                  obtain ⟨x_352, ex_352⟩ : ∃ z : Int32, z = k + 1 := ⟨_, rfl⟩
                                  have tx_352 := ad_toInt (x := k) (y := 1) (z := x_352) (zx := (k).toInt) (zy := 1) ex_352 rfl (by decide)
                                  refine lv_iinc (v := x_352) (lv' := [(4, .int x_352), (3, .int z_351), (5, .int 0), (0, .ref h0), (1, .int p0), (2, .int p1)]) hx hb dX9_source_191 hl (k := 2) rfl (by rw [ex_352]; rfl) (by decide) rfl (fun ls hl => ?_)
                                  refine lv_goto (tgt := 27) hx hb dX9_source_194 (by decide) ?_
                                  exact ih _ _ _ (by first | omega | assumption) (by omega) (lv_sub hl [0, 1, 3, 4, 5] rfl)
                                · refine lv_iload hx hb dX9_source_176 (lv_at hl 0 rfl) ?_
                                  refine lv_if_ne (tgt := 185) hx hb dX9_source_178 (by decide) (fun c_ => absurd c_ (by decide)) (fun _ => ?_)
                                  refine lv_iconst (v := 1) hx hb dX9_source_181 (by decide) ?_
                                  refine lv_goto (tgt := 186) hx hb dX9_source_182 (by decide) ?_
                                  refine vp_callSi (zrS (As := [.int 1]) (rest := [.int x]) (wc := []) ⟨hx, hb, hml, hown, hts⟩ hN hK hP hD (m_one1 l D  ) (va_cwS 1 hts gX9_source_X9_one rfl rfl rfl (by decide +kernel) ⟨Nat.le_trans (m := 1) (Nat.le_of_ble_eq_true rfl) hR.1, Nat.le_trans (m := 20) (Nat.le_of_ble_eq_true rfl) hR.2⟩) [] [] rfl rfl (by decide) rfl hl.1 rfl (Nat.le_of_ble_eq_true rfl) dX9_source_186 ⟨hcs.1, hcs.2⟩) (fun r_353 h_354 => ?_)
                                  subst h_354
                                  refine lv_iadd hx hb dX9_source_189 ?_
                                  refine lv_topi (fun z_355 ez_355 => ?_)
                                  have tz_355 := ad_toInt (zx := (x).toInt) (zy := 1) ez_355 rfl (by decide)
                                  refine lv_istore_n (lv' := [(3, .int z_355), (5, .int 0), (4, .int k), (0, .ref h0), (1, .int p0), (2, .int p1)]) hx hb dX9_source_190 rfl hl (by decide) rfl (fun ls hl => ?_)
                                  obtain ⟨x_356, ex_356⟩ : ∃ z : Int32, z = k + 1 := ⟨_, rfl⟩
                                  have tx_356 := ad_toInt (x := k) (y := 1) (z := x_356) (zx := (k).toInt) (zy := 1) ex_356 rfl (by decide)
                                  refine lv_iinc (v := x_356) (lv' := [(4, .int x_356), (3, .int z_355), (5, .int 0), (0, .ref h0), (1, .int p0), (2, .int p1)]) hx hb dX9_source_191 hl (k := 2) rfl (by rw [ex_356]; rfl) (by decide) rfl (fun ls hl => ?_)
                                  refine lv_goto (tgt := 27) hx hb dX9_source_194 (by decide) ?_
                                  exact ih _ _ _ (by first | omega | assumption) (by omega) (lv_sub hl [0, 1, 3, 4, 5] rfl)
          · refine lv_aload_n hx hb dX9_source_83 rfl (lv_at hl 3 rfl) ?_
            refine va_get (D := D) (ci := 9) (v := .ref b7) (C := RX9) (T := TX9) (N := 37) hx hb hts hin_X9 hown hK hP 0 rfl rfl 13 (by decide) (hts (.fieldLink RX9 35 "CryOrderModel" "repeats" "[I") (List.mem_cons_of_mem _ (List.mem_append_left _ (List.mem_of_getElem? (i := 4) rfl)))) (fun _ h9 => h9) rfl dX9_source_84 ?_
            refine lv_iload hx hb dX9_source_87 (lv_at hl 1 rfl) ?_
            refine va_iald hx hb hK hP 4 3 rfl rfl (vp_in_iff.mpr (by omega)) dX9_source_89 ?_
            refine lv_topi (fun z_357 ez_357 => ?_)
            refine lv_goto (tgt := 189) hx hb dX9_source_90 (by decide) ?_
            refine lv_iadd hx hb dX9_source_189 ?_
            refine lv_topi (fun z_358 ez_358 => ?_)
            have tz_358 := ad_toInt (zx := (x).toInt) (zy := (z_357).toInt) ez_358 rfl rfl
            refine lv_istore_n (lv' := [(3, .int z_358), (5, .int 0), (4, .int k), (0, .ref h0), (1, .int p0), (2, .int p1)]) hx hb dX9_source_190 rfl hl (by decide) rfl (fun ls hl => ?_)
            obtain ⟨x_359, ex_359⟩ : ∃ z : Int32, z = k + 1 := ⟨_, rfl⟩
            have tx_359 := ad_toInt (x := k) (y := 1) (z := x_359) (zx := (k).toInt) (zy := 1) ex_359 rfl (by decide)
            refine lv_iinc (v := x_359) (lv' := [(4, .int x_359), (3, .int z_358), (5, .int 0), (0, .ref h0), (1, .int p0), (2, .int p1)]) hx hb dX9_source_191 hl (k := 2) rfl (by rw [ex_359]; rfl) (by decide) rfl (fun ls hl => ?_)
            refine lv_goto (tgt := 27) hx hb dX9_source_194 (by decide) ?_
            exact ih _ _ _ (by first | omega | assumption) (by omega) (lv_sub hl [0, 1, 3, 4, 5] rfl)
        · refine lv_aload_n hx hb dX9_source_60 rfl (lv_at hl 2 rfl) ?_
          refine va_get (D := D) (ci := 9) (v := .ref b12) (C := RX9) (T := TX9) (N := 37) hx hb hts hin_X9 hown hK hP 0 rfl rfl 18 (by decide) (hts (.fieldLink RX9 51 "CryOrderModel" "isCapped" "[Z") (List.mem_cons_of_mem _ (List.mem_append_left _ (List.mem_of_getElem? (i := 3) rfl)))) (fun _ h9 => h9) rfl dX9_source_61 ?_
          refine lv_iload hx hb dX9_source_64 (lv_at hl 0 rfl) ?_
          refine va_zald hx hb hK hP 3 2 rfl rfl (vp_in_iff.mpr (by omega)) dX9_source_66 ?_
          refine lv_topi (fun z_360 ez_360 => ?_)
          refine bz_ne (zx := (z_360).toInt) (tgt := 74) hx hb dX9_source_67 (by decide) rfl (fun c_361 => ?_) (fun c_361 => ?_)
          · refine lv_iconst (v := 0) hx hb dX9_source_74 (by decide) ?_
            refine lv_istore (lv' := [(5, .int 0), (4, .int k), (3, .int x), (0, .ref h0), (1, .int p0), (2, .int p1)]) hx hb dX9_source_75 hl (by decide) rfl (fun ls hl => ?_)
            refine lv_iload_n hx hb dX9_source_77 rfl (lv_at hl 2 rfl) ?_
            refine lv_iload_n hx hb dX9_source_78 rfl (lv_at hl 5 rfl) ?_
            refine lv_iconst (v := 1) hx hb dX9_source_79 (by decide) ?_
            refine bi_ne (zx := (p1).toInt) (zy := 1) (tgt := 93) hx hb dX9_source_80 (by decide) rfl (by decide) (fun c_362 => ?_) (fun c_362 => ?_)
            · refine lv_iload_n hx hb dX9_source_93 rfl (lv_at hl 5 rfl) ?_
              refine bz_eq (zx := (p1).toInt) (tgt := 181) hx hb dX9_source_94 (by decide) rfl (fun c_363 => ?_) (fun c_363 => ?_)
              · refine lv_iconst (v := 1) hx hb dX9_source_181 (by decide) ?_
                refine lv_goto (tgt := 186) hx hb dX9_source_182 (by decide) ?_
                refine vp_callSi (zrS (As := [.int 1]) (rest := [.int x]) (wc := []) ⟨hx, hb, hml, hown, hts⟩ hN hK hP hD (m_one1 l D  ) (va_cwS 1 hts gX9_source_X9_one rfl rfl rfl (by decide +kernel) ⟨Nat.le_trans (m := 1) (Nat.le_of_ble_eq_true rfl) hR.1, Nat.le_trans (m := 20) (Nat.le_of_ble_eq_true rfl) hR.2⟩) [] [] rfl rfl (by decide) rfl hl.1 rfl (Nat.le_of_ble_eq_true rfl) dX9_source_186 ⟨hcs.1, hcs.2⟩) (fun r_364 h_365 => ?_)
                subst h_365
                refine lv_iadd hx hb dX9_source_189 ?_
                refine lv_topi (fun z_366 ez_366 => ?_)
                have tz_366 := ad_toInt (zx := (x).toInt) (zy := 1) ez_366 rfl (by decide)
                refine lv_istore_n (lv' := [(3, .int z_366), (5, .int 0), (4, .int k), (0, .ref h0), (1, .int p0), (2, .int p1)]) hx hb dX9_source_190 rfl hl (by decide) rfl (fun ls hl => ?_)
                obtain ⟨x_367, ex_367⟩ : ∃ z : Int32, z = k + 1 := ⟨_, rfl⟩
                have tx_367 := ad_toInt (x := k) (y := 1) (z := x_367) (zx := (k).toInt) (zy := 1) ex_367 rfl (by decide)
                refine lv_iinc (v := x_367) (lv' := [(4, .int x_367), (3, .int z_366), (5, .int 0), (0, .ref h0), (1, .int p0), (2, .int p1)]) hx hb dX9_source_191 hl (k := 2) rfl (by rw [ex_367]; rfl) (by decide) rfl (fun ls hl => ?_)
                refine lv_goto (tgt := 27) hx hb dX9_source_194 (by decide) ?_
                exact ih _ _ _ (by first | omega | assumption) (by omega) (lv_sub hl [0, 1, 3, 4, 5] rfl)
              · refine lv_iload_n hx hb dX9_source_97 rfl (lv_at hl 5 rfl) ?_
                refine lv_iconst (v := 2) hx hb dX9_source_98 (by decide) ?_
                refine bi_ne (zx := (p1).toInt) (zy := 2) (tgt := 112) hx hb dX9_source_99 (by decide) rfl (by decide) (fun c_368 => ?_) (fun c_368 => ?_)
                · refine lv_iload_n hx hb dX9_source_112 rfl (lv_at hl 5 rfl) ?_
                  refine lv_iconst (v := 3) hx hb dX9_source_113 (by decide) ?_
                  refine bi_ne (zx := (p1).toInt) (zy := 3) (tgt := 127) hx hb dX9_source_114 (by decide) rfl (by decide) (fun c_369 => ?_) (fun c_369 => ?_)
                  · refine lv_iload_n hx hb dX9_source_127 rfl (lv_at hl 5 rfl) ?_
                    refine lv_iconst (v := 4) hx hb dX9_source_128 (by decide) ?_
                    refine bi_ne (zx := (p1).toInt) (zy := 4) (tgt := 143) hx hb dX9_source_129 (by decide) rfl (by decide) (fun c_370 => ?_) (fun c_370 => ?_)
                    · refine lv_iload_n hx hb dX9_source_143 rfl (lv_at hl 5 rfl) ?_
                      refine lv_iconst (v := 5) hx hb dX9_source_144 (by decide) ?_
                      refine bi_ne (zx := (p1).toInt) (zy := 5) (tgt := 159) hx hb dX9_source_145 (by decide) rfl (by decide) (fun c_371 => ?_) (fun c_371 => ?_)
                      · refine lv_iload_n hx hb dX9_source_159 rfl (lv_at hl 5 rfl) ?_
                        refine lv_bipush (v := 6) hx hb dX9_source_160 (by decide) ?_
                        refine bi_ne (zx := (p1).toInt) (zy := 6) (tgt := 185) hx hb dX9_source_162 (by decide) rfl (by decide) (fun c_372 => ?_) (fun c_372 => ?_)
                        · refine lv_iconst (v := 0) hx hb dX9_source_185 (by decide) ?_
                          refine vp_callSi (zrS (As := [.int 0]) (rest := [.int x]) (wc := []) ⟨hx, hb, hml, hown, hts⟩ hN hK hP hD (m_one0 l D  ) (va_cwS 1 hts gX9_source_X9_one rfl rfl rfl (by decide +kernel) ⟨Nat.le_trans (m := 1) (Nat.le_of_ble_eq_true rfl) hR.1, Nat.le_trans (m := 20) (Nat.le_of_ble_eq_true rfl) hR.2⟩) [] [] rfl rfl (by decide) rfl hl.1 rfl (Nat.le_of_ble_eq_true rfl) dX9_source_186 ⟨hcs.1, hcs.2⟩) (fun r_373 h_374 => ?_)
                          subst h_374
                          refine lv_iadd hx hb dX9_source_189 ?_
                          refine lv_topi (fun z_375 ez_375 => ?_)
                          have tz_375 := ad_toInt (zx := (x).toInt) (zy := 0) ez_375 rfl (by decide)
                          refine lv_istore_n (lv' := [(3, .int z_375), (5, .int 0), (4, .int k), (0, .ref h0), (1, .int p0), (2, .int p1)]) hx hb dX9_source_190 rfl hl (by decide) rfl (fun ls hl => ?_)
                          obtain ⟨x_376, ex_376⟩ : ∃ z : Int32, z = k + 1 := ⟨_, rfl⟩
                          have tx_376 := ad_toInt (x := k) (y := 1) (z := x_376) (zx := (k).toInt) (zy := 1) ex_376 rfl (by decide)
                          refine lv_iinc (v := x_376) (lv' := [(4, .int x_376), (3, .int z_375), (5, .int 0), (0, .ref h0), (1, .int p0), (2, .int p1)]) hx hb dX9_source_191 hl (k := 2) rfl (by rw [ex_376]; rfl) (by decide) rfl (fun ls hl => ?_)
                          refine lv_goto (tgt := 27) hx hb dX9_source_194 (by decide) ?_
                          exact ih _ _ _ (by first | omega | assumption) (by omega) (lv_sub hl [0, 1, 3, 4, 5] rfl)
                        · refine lv_aload_n hx hb dX9_source_165 rfl (lv_at hl 3 rfl) ?_
                          refine va_get (D := D) (ci := 9) (v := .ref b8) (C := RX9) (T := TX9) (N := 37) hx hb hts hin_X9 hown hK hP 0 rfl rfl 14 (by decide) (hts (.fieldLink RX9 38 "CryOrderModel" "state" "[I") (List.mem_cons_of_mem _ (List.mem_append_left _ (List.mem_of_getElem? (i := 5) rfl)))) (fun _ h9 => h9) rfl dX9_source_166 ?_
                          refine lv_iload hx hb dX9_source_169 (lv_at hl 1 rfl) ?_
                          refine va_iald hx hb hK hP 5 4 rfl rfl (vp_in_iff.mpr (by omega)) dX9_source_171 ?_
                          refine lv_topi (fun z_377 ez_377 => ?_)
                          refine lv_iconst (v := 1) hx hb dX9_source_172 (by decide) ?_
                          refine bi_ne (zx := (z_377).toInt) (zy := 1) (tgt := 185) hx hb dX9_source_173 (by decide) rfl (by decide) (fun c_378 => ?_) (fun c_378 => ?_)
                          · refine lv_iconst (v := 0) hx hb dX9_source_185 (by decide) ?_
                            refine vp_callSi (zrS (As := [.int 0]) (rest := [.int x]) (wc := []) ⟨hx, hb, hml, hown, hts⟩ hN hK hP hD (m_one0 l D  ) (va_cwS 1 hts gX9_source_X9_one rfl rfl rfl (by decide +kernel) ⟨Nat.le_trans (m := 1) (Nat.le_of_ble_eq_true rfl) hR.1, Nat.le_trans (m := 20) (Nat.le_of_ble_eq_true rfl) hR.2⟩) [] [] rfl rfl (by decide) rfl hl.1 rfl (Nat.le_of_ble_eq_true rfl) dX9_source_186 ⟨hcs.1, hcs.2⟩) (fun r_379 h_380 => ?_)
                            subst h_380
                            refine lv_iadd hx hb dX9_source_189 ?_
                            refine lv_topi (fun z_381 ez_381 => ?_)
                            have tz_381 := ad_toInt (zx := (x).toInt) (zy := 0) ez_381 rfl (by decide)
                            refine lv_istore_n (lv' := [(3, .int z_381), (5, .int 0), (4, .int k), (0, .ref h0), (1, .int p0), (2, .int p1)]) hx hb dX9_source_190 rfl hl (by decide) rfl (fun ls hl => ?_)
                            obtain ⟨x_382, ex_382⟩ : ∃ z : Int32, z = k + 1 := ⟨_, rfl⟩
                            have tx_382 := ad_toInt (x := k) (y := 1) (z := x_382) (zx := (k).toInt) (zy := 1) ex_382 rfl (by decide)
                            refine lv_iinc (v := x_382) (lv' := [(4, .int x_382), (3, .int z_381), (5, .int 0), (0, .ref h0), (1, .int p0), (2, .int p1)]) hx hb dX9_source_191 hl (k := 2) rfl (by rw [ex_382]; rfl) (by decide) rfl (fun ls hl => ?_)
                            refine lv_goto (tgt := 27) hx hb dX9_source_194 (by decide) ?_
                            exact ih _ _ _ (by first | omega | assumption) (by omega) (lv_sub hl [0, 1, 3, 4, 5] rfl)
                          · refine lv_iload hx hb dX9_source_176 (lv_at hl 0 rfl) ?_
                            refine lv_if_ne (tgt := 185) hx hb dX9_source_178 (by decide) (fun c_ => absurd c_ (by decide)) (fun _ => ?_)
                            refine lv_iconst (v := 1) hx hb dX9_source_181 (by decide) ?_
                            refine lv_goto (tgt := 186) hx hb dX9_source_182 (by decide) ?_
                            refine vp_callSi (zrS (As := [.int 1]) (rest := [.int x]) (wc := []) ⟨hx, hb, hml, hown, hts⟩ hN hK hP hD (m_one1 l D  ) (va_cwS 1 hts gX9_source_X9_one rfl rfl rfl (by decide +kernel) ⟨Nat.le_trans (m := 1) (Nat.le_of_ble_eq_true rfl) hR.1, Nat.le_trans (m := 20) (Nat.le_of_ble_eq_true rfl) hR.2⟩) [] [] rfl rfl (by decide) rfl hl.1 rfl (Nat.le_of_ble_eq_true rfl) dX9_source_186 ⟨hcs.1, hcs.2⟩) (fun r_383 h_384 => ?_)
                            subst h_384
                            refine lv_iadd hx hb dX9_source_189 ?_
                            refine lv_topi (fun z_385 ez_385 => ?_)
                            have tz_385 := ad_toInt (zx := (x).toInt) (zy := 1) ez_385 rfl (by decide)
                            refine lv_istore_n (lv' := [(3, .int z_385), (5, .int 0), (4, .int k), (0, .ref h0), (1, .int p0), (2, .int p1)]) hx hb dX9_source_190 rfl hl (by decide) rfl (fun ls hl => ?_)
                            obtain ⟨x_386, ex_386⟩ : ∃ z : Int32, z = k + 1 := ⟨_, rfl⟩
                            have tx_386 := ad_toInt (x := k) (y := 1) (z := x_386) (zx := (k).toInt) (zy := 1) ex_386 rfl (by decide)
                            refine lv_iinc (v := x_386) (lv' := [(4, .int x_386), (3, .int z_385), (5, .int 0), (0, .ref h0), (1, .int p0), (2, .int p1)]) hx hb dX9_source_191 hl (k := 2) rfl (by rw [ex_386]; rfl) (by decide) rfl (fun ls hl => ?_)
                            refine lv_goto (tgt := 27) hx hb dX9_source_194 (by decide) ?_
                            exact ih _ _ _ (by first | omega | assumption) (by omega) (lv_sub hl [0, 1, 3, 4, 5] rfl)
                      · refine lv_aload_n hx hb dX9_source_148 rfl (lv_at hl 3 rfl) ?_
                        refine va_get (D := D) (ci := 9) (v := .ref b8) (C := RX9) (T := TX9) (N := 37) hx hb hts hin_X9 hown hK hP 0 rfl rfl 14 (by decide) (hts (.fieldLink RX9 38 "CryOrderModel" "state" "[I") (List.mem_cons_of_mem _ (List.mem_append_left _ (List.mem_of_getElem? (i := 5) rfl)))) (fun _ h9 => h9) rfl dX9_source_149 ?_
                        refine lv_iload hx hb dX9_source_152 (lv_at hl 1 rfl) ?_
                        refine va_iald hx hb hK hP 5 4 rfl rfl (vp_in_iff.mpr (by omega)) dX9_source_154 ?_
                        refine lv_topi (fun z_387 ez_387 => ?_)
                        refine lv_iconst (v := 2) hx hb dX9_source_155 (by decide) ?_
                        refine bi_eq (zx := (z_387).toInt) (zy := 2) (tgt := 181) hx hb dX9_source_156 (by decide) rfl (by decide) (fun c_388 => ?_) (fun c_388 => ?_)
                        · refine lv_iconst (v := 1) hx hb dX9_source_181 (by decide) ?_
                          refine lv_goto (tgt := 186) hx hb dX9_source_182 (by decide) ?_
                          refine vp_callSi (zrS (As := [.int 1]) (rest := [.int x]) (wc := []) ⟨hx, hb, hml, hown, hts⟩ hN hK hP hD (m_one1 l D  ) (va_cwS 1 hts gX9_source_X9_one rfl rfl rfl (by decide +kernel) ⟨Nat.le_trans (m := 1) (Nat.le_of_ble_eq_true rfl) hR.1, Nat.le_trans (m := 20) (Nat.le_of_ble_eq_true rfl) hR.2⟩) [] [] rfl rfl (by decide) rfl hl.1 rfl (Nat.le_of_ble_eq_true rfl) dX9_source_186 ⟨hcs.1, hcs.2⟩) (fun r_389 h_390 => ?_)
                          subst h_390
                          refine lv_iadd hx hb dX9_source_189 ?_
                          refine lv_topi (fun z_391 ez_391 => ?_)
                          have tz_391 := ad_toInt (zx := (x).toInt) (zy := 1) ez_391 rfl (by decide)
                          refine lv_istore_n (lv' := [(3, .int z_391), (5, .int 0), (4, .int k), (0, .ref h0), (1, .int p0), (2, .int p1)]) hx hb dX9_source_190 rfl hl (by decide) rfl (fun ls hl => ?_)
                          obtain ⟨x_392, ex_392⟩ : ∃ z : Int32, z = k + 1 := ⟨_, rfl⟩
                          have tx_392 := ad_toInt (x := k) (y := 1) (z := x_392) (zx := (k).toInt) (zy := 1) ex_392 rfl (by decide)
                          refine lv_iinc (v := x_392) (lv' := [(4, .int x_392), (3, .int z_391), (5, .int 0), (0, .ref h0), (1, .int p0), (2, .int p1)]) hx hb dX9_source_191 hl (k := 2) rfl (by rw [ex_392]; rfl) (by decide) rfl (fun ls hl => ?_)
                          refine lv_goto (tgt := 27) hx hb dX9_source_194 (by decide) ?_
                          exact ih _ _ _ (by first | omega | assumption) (by omega) (lv_sub hl [0, 1, 3, 4, 5] rfl)
                        · refine lv_iload_n hx hb dX9_source_159 rfl (lv_at hl 5 rfl) ?_
                          refine lv_bipush (v := 6) hx hb dX9_source_160 (by decide) ?_
                          refine bi_ne (zx := (p1).toInt) (zy := 6) (tgt := 185) hx hb dX9_source_162 (by decide) rfl (by decide) (fun c_393 => ?_) (fun c_393 => ?_)
                          · refine lv_iconst (v := 0) hx hb dX9_source_185 (by decide) ?_
                            refine vp_callSi (zrS (As := [.int 0]) (rest := [.int x]) (wc := []) ⟨hx, hb, hml, hown, hts⟩ hN hK hP hD (m_one0 l D  ) (va_cwS 1 hts gX9_source_X9_one rfl rfl rfl (by decide +kernel) ⟨Nat.le_trans (m := 1) (Nat.le_of_ble_eq_true rfl) hR.1, Nat.le_trans (m := 20) (Nat.le_of_ble_eq_true rfl) hR.2⟩) [] [] rfl rfl (by decide) rfl hl.1 rfl (Nat.le_of_ble_eq_true rfl) dX9_source_186 ⟨hcs.1, hcs.2⟩) (fun r_394 h_395 => ?_)
                            subst h_395
                            refine lv_iadd hx hb dX9_source_189 ?_
                            refine lv_topi (fun z_396 ez_396 => ?_)
                            have tz_396 := ad_toInt (zx := (x).toInt) (zy := 0) ez_396 rfl (by decide)
                            refine lv_istore_n (lv' := [(3, .int z_396), (5, .int 0), (4, .int k), (0, .ref h0), (1, .int p0), (2, .int p1)]) hx hb dX9_source_190 rfl hl (by decide) rfl (fun ls hl => ?_)
                            obtain ⟨x_397, ex_397⟩ : ∃ z : Int32, z = k + 1 := ⟨_, rfl⟩
                            have tx_397 := ad_toInt (x := k) (y := 1) (z := x_397) (zx := (k).toInt) (zy := 1) ex_397 rfl (by decide)
                            refine lv_iinc (v := x_397) (lv' := [(4, .int x_397), (3, .int z_396), (5, .int 0), (0, .ref h0), (1, .int p0), (2, .int p1)]) hx hb dX9_source_191 hl (k := 2) rfl (by rw [ex_397]; rfl) (by decide) rfl (fun ls hl => ?_)
                            refine lv_goto (tgt := 27) hx hb dX9_source_194 (by decide) ?_
                            exact ih _ _ _ (by first | omega | assumption) (by omega) (lv_sub hl [0, 1, 3, 4, 5] rfl)
                          · refine lv_aload_n hx hb dX9_source_165 rfl (lv_at hl 3 rfl) ?_
                            refine va_get (D := D) (ci := 9) (v := .ref b8) (C := RX9) (T := TX9) (N := 37) hx hb hts hin_X9 hown hK hP 0 rfl rfl 14 (by decide) (hts (.fieldLink RX9 38 "CryOrderModel" "state" "[I") (List.mem_cons_of_mem _ (List.mem_append_left _ (List.mem_of_getElem? (i := 5) rfl)))) (fun _ h9 => h9) rfl dX9_source_166 ?_
                            refine lv_iload hx hb dX9_source_169 (lv_at hl 1 rfl) ?_
                            refine va_iald hx hb hK hP 5 4 rfl rfl (vp_in_iff.mpr (by omega)) dX9_source_171 ?_
                            refine lv_topi (fun z_398 ez_398 => ?_)
                            have qz_398 : (z_398).toInt = (z_387).toInt := by rw [ez_398, ez_387]
                            refine lv_iconst (v := 1) hx hb dX9_source_172 (by decide) ?_
                            refine bi_ne (zx := (z_398).toInt) (zy := 1) (tgt := 185) hx hb dX9_source_173 (by decide) rfl (by decide) (fun c_399 => ?_) (fun c_399 => ?_)
                            · refine lv_iconst (v := 0) hx hb dX9_source_185 (by decide) ?_
                              refine vp_callSi (zrS (As := [.int 0]) (rest := [.int x]) (wc := []) ⟨hx, hb, hml, hown, hts⟩ hN hK hP hD (m_one0 l D  ) (va_cwS 1 hts gX9_source_X9_one rfl rfl rfl (by decide +kernel) ⟨Nat.le_trans (m := 1) (Nat.le_of_ble_eq_true rfl) hR.1, Nat.le_trans (m := 20) (Nat.le_of_ble_eq_true rfl) hR.2⟩) [] [] rfl rfl (by decide) rfl hl.1 rfl (Nat.le_of_ble_eq_true rfl) dX9_source_186 ⟨hcs.1, hcs.2⟩) (fun r_400 h_401 => ?_)
                              subst h_401
                              refine lv_iadd hx hb dX9_source_189 ?_
                              refine lv_topi (fun z_402 ez_402 => ?_)
                              have tz_402 := ad_toInt (zx := (x).toInt) (zy := 0) ez_402 rfl (by decide)
                              refine lv_istore_n (lv' := [(3, .int z_402), (5, .int 0), (4, .int k), (0, .ref h0), (1, .int p0), (2, .int p1)]) hx hb dX9_source_190 rfl hl (by decide) rfl (fun ls hl => ?_)
                              obtain ⟨x_403, ex_403⟩ : ∃ z : Int32, z = k + 1 := ⟨_, rfl⟩
                              have tx_403 := ad_toInt (x := k) (y := 1) (z := x_403) (zx := (k).toInt) (zy := 1) ex_403 rfl (by decide)
                              refine lv_iinc (v := x_403) (lv' := [(4, .int x_403), (3, .int z_402), (5, .int 0), (0, .ref h0), (1, .int p0), (2, .int p1)]) hx hb dX9_source_191 hl (k := 2) rfl (by rw [ex_403]; rfl) (by decide) rfl (fun ls hl => ?_)
                              refine lv_goto (tgt := 27) hx hb dX9_source_194 (by decide) ?_
                              exact ih _ _ _ (by first | omega | assumption) (by omega) (lv_sub hl [0, 1, 3, 4, 5] rfl)
                            · refine lv_iload hx hb dX9_source_176 (lv_at hl 0 rfl) ?_
                              refine lv_if_ne (tgt := 185) hx hb dX9_source_178 (by decide) (fun c_ => absurd c_ (by decide)) (fun _ => ?_)
                              refine lv_iconst (v := 1) hx hb dX9_source_181 (by decide) ?_
                              refine lv_goto (tgt := 186) hx hb dX9_source_182 (by decide) ?_
                              refine vp_callSi (zrS (As := [.int 1]) (rest := [.int x]) (wc := []) ⟨hx, hb, hml, hown, hts⟩ hN hK hP hD (m_one1 l D  ) (va_cwS 1 hts gX9_source_X9_one rfl rfl rfl (by decide +kernel) ⟨Nat.le_trans (m := 1) (Nat.le_of_ble_eq_true rfl) hR.1, Nat.le_trans (m := 20) (Nat.le_of_ble_eq_true rfl) hR.2⟩) [] [] rfl rfl (by decide) rfl hl.1 rfl (Nat.le_of_ble_eq_true rfl) dX9_source_186 ⟨hcs.1, hcs.2⟩) (fun r_404 h_405 => ?_)
                              subst h_405
                              refine lv_iadd hx hb dX9_source_189 ?_
                              refine lv_topi (fun z_406 ez_406 => ?_)
                              have tz_406 := ad_toInt (zx := (x).toInt) (zy := 1) ez_406 rfl (by decide)
                              refine lv_istore_n (lv' := [(3, .int z_406), (5, .int 0), (4, .int k), (0, .ref h0), (1, .int p0), (2, .int p1)]) hx hb dX9_source_190 rfl hl (by decide) rfl (fun ls hl => ?_)
                              obtain ⟨x_407, ex_407⟩ : ∃ z : Int32, z = k + 1 := ⟨_, rfl⟩
                              have tx_407 := ad_toInt (x := k) (y := 1) (z := x_407) (zx := (k).toInt) (zy := 1) ex_407 rfl (by decide)
                              refine lv_iinc (v := x_407) (lv' := [(4, .int x_407), (3, .int z_406), (5, .int 0), (0, .ref h0), (1, .int p0), (2, .int p1)]) hx hb dX9_source_191 hl (k := 2) rfl (by rw [ex_407]; rfl) (by decide) rfl (fun ls hl => ?_)
                              refine lv_goto (tgt := 27) hx hb dX9_source_194 (by decide) ?_
                              exact ih _ _ _ (by first | omega | assumption) (by omega) (lv_sub hl [0, 1, 3, 4, 5] rfl)
                    · refine lv_aload_n hx hb dX9_source_132 rfl (lv_at hl 3 rfl) ?_
                      refine va_get (D := D) (ci := 9) (v := .ref b8) (C := RX9) (T := TX9) (N := 37) hx hb hts hin_X9 hown hK hP 0 rfl rfl 14 (by decide) (hts (.fieldLink RX9 38 "CryOrderModel" "state" "[I") (List.mem_cons_of_mem _ (List.mem_append_left _ (List.mem_of_getElem? (i := 5) rfl)))) (fun _ h9 => h9) rfl dX9_source_133 ?_
                      refine lv_iload hx hb dX9_source_136 (lv_at hl 1 rfl) ?_
                      refine va_iald hx hb hK hP 5 4 rfl rfl (vp_in_iff.mpr (by omega)) dX9_source_138 ?_
                      refine lv_topi (fun z_408 ez_408 => ?_)
                      refine lv_iconst (v := 1) hx hb dX9_source_139 (by decide) ?_
                      refine bi_eq (zx := (z_408).toInt) (zy := 1) (tgt := 181) hx hb dX9_source_140 (by decide) rfl (by decide) (fun c_409 => ?_) (fun c_409 => ?_)
                      · refine lv_iconst (v := 1) hx hb dX9_source_181 (by decide) ?_
                        refine lv_goto (tgt := 186) hx hb dX9_source_182 (by decide) ?_
                        refine vp_callSi (zrS (As := [.int 1]) (rest := [.int x]) (wc := []) ⟨hx, hb, hml, hown, hts⟩ hN hK hP hD (m_one1 l D  ) (va_cwS 1 hts gX9_source_X9_one rfl rfl rfl (by decide +kernel) ⟨Nat.le_trans (m := 1) (Nat.le_of_ble_eq_true rfl) hR.1, Nat.le_trans (m := 20) (Nat.le_of_ble_eq_true rfl) hR.2⟩) [] [] rfl rfl (by decide) rfl hl.1 rfl (Nat.le_of_ble_eq_true rfl) dX9_source_186 ⟨hcs.1, hcs.2⟩) (fun r_410 h_411 => ?_)
                        subst h_411
                        refine lv_iadd hx hb dX9_source_189 ?_
                        refine lv_topi (fun z_412 ez_412 => ?_)
                        have tz_412 := ad_toInt (zx := (x).toInt) (zy := 1) ez_412 rfl (by decide)
                        refine lv_istore_n (lv' := [(3, .int z_412), (5, .int 0), (4, .int k), (0, .ref h0), (1, .int p0), (2, .int p1)]) hx hb dX9_source_190 rfl hl (by decide) rfl (fun ls hl => ?_)
                        obtain ⟨x_413, ex_413⟩ : ∃ z : Int32, z = k + 1 := ⟨_, rfl⟩
                        have tx_413 := ad_toInt (x := k) (y := 1) (z := x_413) (zx := (k).toInt) (zy := 1) ex_413 rfl (by decide)
                        refine lv_iinc (v := x_413) (lv' := [(4, .int x_413), (3, .int z_412), (5, .int 0), (0, .ref h0), (1, .int p0), (2, .int p1)]) hx hb dX9_source_191 hl (k := 2) rfl (by rw [ex_413]; rfl) (by decide) rfl (fun ls hl => ?_)
                        refine lv_goto (tgt := 27) hx hb dX9_source_194 (by decide) ?_
                        exact ih _ _ _ (by first | omega | assumption) (by omega) (lv_sub hl [0, 1, 3, 4, 5] rfl)
                      · refine lv_iload_n hx hb dX9_source_143 rfl (lv_at hl 5 rfl) ?_
                        refine lv_iconst (v := 5) hx hb dX9_source_144 (by decide) ?_
                        refine bi_ne (zx := (p1).toInt) (zy := 5) (tgt := 159) hx hb dX9_source_145 (by decide) rfl (by decide) (fun c_414 => ?_) (fun c_414 => ?_)
                        · refine lv_iload_n hx hb dX9_source_159 rfl (lv_at hl 5 rfl) ?_
                          refine lv_bipush (v := 6) hx hb dX9_source_160 (by decide) ?_
                          refine bi_ne (zx := (p1).toInt) (zy := 6) (tgt := 185) hx hb dX9_source_162 (by decide) rfl (by decide) (fun c_415 => ?_) (fun c_415 => ?_)
                          · refine lv_iconst (v := 0) hx hb dX9_source_185 (by decide) ?_
                            refine vp_callSi (zrS (As := [.int 0]) (rest := [.int x]) (wc := []) ⟨hx, hb, hml, hown, hts⟩ hN hK hP hD (m_one0 l D  ) (va_cwS 1 hts gX9_source_X9_one rfl rfl rfl (by decide +kernel) ⟨Nat.le_trans (m := 1) (Nat.le_of_ble_eq_true rfl) hR.1, Nat.le_trans (m := 20) (Nat.le_of_ble_eq_true rfl) hR.2⟩) [] [] rfl rfl (by decide) rfl hl.1 rfl (Nat.le_of_ble_eq_true rfl) dX9_source_186 ⟨hcs.1, hcs.2⟩) (fun r_416 h_417 => ?_)
                            subst h_417
                            refine lv_iadd hx hb dX9_source_189 ?_
                            refine lv_topi (fun z_418 ez_418 => ?_)
                            have tz_418 := ad_toInt (zx := (x).toInt) (zy := 0) ez_418 rfl (by decide)
                            refine lv_istore_n (lv' := [(3, .int z_418), (5, .int 0), (4, .int k), (0, .ref h0), (1, .int p0), (2, .int p1)]) hx hb dX9_source_190 rfl hl (by decide) rfl (fun ls hl => ?_)
                            obtain ⟨x_419, ex_419⟩ : ∃ z : Int32, z = k + 1 := ⟨_, rfl⟩
                            have tx_419 := ad_toInt (x := k) (y := 1) (z := x_419) (zx := (k).toInt) (zy := 1) ex_419 rfl (by decide)
                            refine lv_iinc (v := x_419) (lv' := [(4, .int x_419), (3, .int z_418), (5, .int 0), (0, .ref h0), (1, .int p0), (2, .int p1)]) hx hb dX9_source_191 hl (k := 2) rfl (by rw [ex_419]; rfl) (by decide) rfl (fun ls hl => ?_)
                            refine lv_goto (tgt := 27) hx hb dX9_source_194 (by decide) ?_
                            exact ih _ _ _ (by first | omega | assumption) (by omega) (lv_sub hl [0, 1, 3, 4, 5] rfl)
                          · refine lv_aload_n hx hb dX9_source_165 rfl (lv_at hl 3 rfl) ?_
                            refine va_get (D := D) (ci := 9) (v := .ref b8) (C := RX9) (T := TX9) (N := 37) hx hb hts hin_X9 hown hK hP 0 rfl rfl 14 (by decide) (hts (.fieldLink RX9 38 "CryOrderModel" "state" "[I") (List.mem_cons_of_mem _ (List.mem_append_left _ (List.mem_of_getElem? (i := 5) rfl)))) (fun _ h9 => h9) rfl dX9_source_166 ?_
                            refine lv_iload hx hb dX9_source_169 (lv_at hl 1 rfl) ?_
                            refine va_iald hx hb hK hP 5 4 rfl rfl (vp_in_iff.mpr (by omega)) dX9_source_171 ?_
                            refine lv_topi (fun z_420 ez_420 => ?_)
                            have qz_420 : (z_420).toInt = (z_408).toInt := by rw [ez_420, ez_408]
                            refine lv_iconst (v := 1) hx hb dX9_source_172 (by decide) ?_
                            refine bi_ne (zx := (z_420).toInt) (zy := 1) (tgt := 185) hx hb dX9_source_173 (by decide) rfl (by decide) (fun c_421 => ?_) (fun c_421 => ?_)
                            · refine lv_iconst (v := 0) hx hb dX9_source_185 (by decide) ?_
                              refine vp_callSi (zrS (As := [.int 0]) (rest := [.int x]) (wc := []) ⟨hx, hb, hml, hown, hts⟩ hN hK hP hD (m_one0 l D  ) (va_cwS 1 hts gX9_source_X9_one rfl rfl rfl (by decide +kernel) ⟨Nat.le_trans (m := 1) (Nat.le_of_ble_eq_true rfl) hR.1, Nat.le_trans (m := 20) (Nat.le_of_ble_eq_true rfl) hR.2⟩) [] [] rfl rfl (by decide) rfl hl.1 rfl (Nat.le_of_ble_eq_true rfl) dX9_source_186 ⟨hcs.1, hcs.2⟩) (fun r_422 h_423 => ?_)
                              subst h_423
                              refine lv_iadd hx hb dX9_source_189 ?_
                              refine lv_topi (fun z_424 ez_424 => ?_)
                              have tz_424 := ad_toInt (zx := (x).toInt) (zy := 0) ez_424 rfl (by decide)
                              refine lv_istore_n (lv' := [(3, .int z_424), (5, .int 0), (4, .int k), (0, .ref h0), (1, .int p0), (2, .int p1)]) hx hb dX9_source_190 rfl hl (by decide) rfl (fun ls hl => ?_)
                              obtain ⟨x_425, ex_425⟩ : ∃ z : Int32, z = k + 1 := ⟨_, rfl⟩
                              have tx_425 := ad_toInt (x := k) (y := 1) (z := x_425) (zx := (k).toInt) (zy := 1) ex_425 rfl (by decide)
                              refine lv_iinc (v := x_425) (lv' := [(4, .int x_425), (3, .int z_424), (5, .int 0), (0, .ref h0), (1, .int p0), (2, .int p1)]) hx hb dX9_source_191 hl (k := 2) rfl (by rw [ex_425]; rfl) (by decide) rfl (fun ls hl => ?_)
                              refine lv_goto (tgt := 27) hx hb dX9_source_194 (by decide) ?_
                              exact ih _ _ _ (by first | omega | assumption) (by omega) (lv_sub hl [0, 1, 3, 4, 5] rfl)
                            · refine lv_iload hx hb dX9_source_176 (lv_at hl 0 rfl) ?_
                              refine lv_if_ne (tgt := 185) hx hb dX9_source_178 (by decide) (fun c_ => absurd c_ (by decide)) (fun _ => ?_)
                              refine lv_iconst (v := 1) hx hb dX9_source_181 (by decide) ?_
                              refine lv_goto (tgt := 186) hx hb dX9_source_182 (by decide) ?_
                              refine vp_callSi (zrS (As := [.int 1]) (rest := [.int x]) (wc := []) ⟨hx, hb, hml, hown, hts⟩ hN hK hP hD (m_one1 l D  ) (va_cwS 1 hts gX9_source_X9_one rfl rfl rfl (by decide +kernel) ⟨Nat.le_trans (m := 1) (Nat.le_of_ble_eq_true rfl) hR.1, Nat.le_trans (m := 20) (Nat.le_of_ble_eq_true rfl) hR.2⟩) [] [] rfl rfl (by decide) rfl hl.1 rfl (Nat.le_of_ble_eq_true rfl) dX9_source_186 ⟨hcs.1, hcs.2⟩) (fun r_426 h_427 => ?_)
                              subst h_427
                              refine lv_iadd hx hb dX9_source_189 ?_
                              refine lv_topi (fun z_428 ez_428 => ?_)
                              have tz_428 := ad_toInt (zx := (x).toInt) (zy := 1) ez_428 rfl (by decide)
                              refine lv_istore_n (lv' := [(3, .int z_428), (5, .int 0), (4, .int k), (0, .ref h0), (1, .int p0), (2, .int p1)]) hx hb dX9_source_190 rfl hl (by decide) rfl (fun ls hl => ?_)
                              obtain ⟨x_429, ex_429⟩ : ∃ z : Int32, z = k + 1 := ⟨_, rfl⟩
                              have tx_429 := ad_toInt (x := k) (y := 1) (z := x_429) (zx := (k).toInt) (zy := 1) ex_429 rfl (by decide)
                              refine lv_iinc (v := x_429) (lv' := [(4, .int x_429), (3, .int z_428), (5, .int 0), (0, .ref h0), (1, .int p0), (2, .int p1)]) hx hb dX9_source_191 hl (k := 2) rfl (by rw [ex_429]; rfl) (by decide) rfl (fun ls hl => ?_)
                              refine lv_goto (tgt := 27) hx hb dX9_source_194 (by decide) ?_
                              exact ih _ _ _ (by first | omega | assumption) (by omega) (lv_sub hl [0, 1, 3, 4, 5] rfl)
                        · refine lv_aload_n hx hb dX9_source_148 rfl (lv_at hl 3 rfl) ?_
                          refine va_get (D := D) (ci := 9) (v := .ref b8) (C := RX9) (T := TX9) (N := 37) hx hb hts hin_X9 hown hK hP 0 rfl rfl 14 (by decide) (hts (.fieldLink RX9 38 "CryOrderModel" "state" "[I") (List.mem_cons_of_mem _ (List.mem_append_left _ (List.mem_of_getElem? (i := 5) rfl)))) (fun _ h9 => h9) rfl dX9_source_149 ?_
                          refine lv_iload hx hb dX9_source_152 (lv_at hl 1 rfl) ?_
                          refine va_iald hx hb hK hP 5 4 rfl rfl (vp_in_iff.mpr (by omega)) dX9_source_154 ?_
                          refine lv_topi (fun z_430 ez_430 => ?_)
                          have qz_430 : (z_430).toInt = (z_408).toInt := by rw [ez_430, ez_408]
                          refine lv_iconst (v := 2) hx hb dX9_source_155 (by decide) ?_
                          refine bi_eq (zx := (z_430).toInt) (zy := 2) (tgt := 181) hx hb dX9_source_156 (by decide) rfl (by decide) (fun c_431 => ?_) (fun c_431 => ?_)
                          · refine lv_iconst (v := 1) hx hb dX9_source_181 (by decide) ?_
                            refine lv_goto (tgt := 186) hx hb dX9_source_182 (by decide) ?_
                            refine vp_callSi (zrS (As := [.int 1]) (rest := [.int x]) (wc := []) ⟨hx, hb, hml, hown, hts⟩ hN hK hP hD (m_one1 l D  ) (va_cwS 1 hts gX9_source_X9_one rfl rfl rfl (by decide +kernel) ⟨Nat.le_trans (m := 1) (Nat.le_of_ble_eq_true rfl) hR.1, Nat.le_trans (m := 20) (Nat.le_of_ble_eq_true rfl) hR.2⟩) [] [] rfl rfl (by decide) rfl hl.1 rfl (Nat.le_of_ble_eq_true rfl) dX9_source_186 ⟨hcs.1, hcs.2⟩) (fun r_432 h_433 => ?_)
                            subst h_433
                            refine lv_iadd hx hb dX9_source_189 ?_
                            refine lv_topi (fun z_434 ez_434 => ?_)
                            have tz_434 := ad_toInt (zx := (x).toInt) (zy := 1) ez_434 rfl (by decide)
                            refine lv_istore_n (lv' := [(3, .int z_434), (5, .int 0), (4, .int k), (0, .ref h0), (1, .int p0), (2, .int p1)]) hx hb dX9_source_190 rfl hl (by decide) rfl (fun ls hl => ?_)
                            obtain ⟨x_435, ex_435⟩ : ∃ z : Int32, z = k + 1 := ⟨_, rfl⟩
                            have tx_435 := ad_toInt (x := k) (y := 1) (z := x_435) (zx := (k).toInt) (zy := 1) ex_435 rfl (by decide)
                            refine lv_iinc (v := x_435) (lv' := [(4, .int x_435), (3, .int z_434), (5, .int 0), (0, .ref h0), (1, .int p0), (2, .int p1)]) hx hb dX9_source_191 hl (k := 2) rfl (by rw [ex_435]; rfl) (by decide) rfl (fun ls hl => ?_)
                            refine lv_goto (tgt := 27) hx hb dX9_source_194 (by decide) ?_
                            exact ih _ _ _ (by first | omega | assumption) (by omega) (lv_sub hl [0, 1, 3, 4, 5] rfl)
                          · refine lv_iload_n hx hb dX9_source_159 rfl (lv_at hl 5 rfl) ?_
                            refine lv_bipush (v := 6) hx hb dX9_source_160 (by decide) ?_
                            refine bi_ne (zx := (p1).toInt) (zy := 6) (tgt := 185) hx hb dX9_source_162 (by decide) rfl (by decide) (fun c_436 => ?_) (fun c_436 => ?_)
                            · refine lv_iconst (v := 0) hx hb dX9_source_185 (by decide) ?_
                              refine vp_callSi (zrS (As := [.int 0]) (rest := [.int x]) (wc := []) ⟨hx, hb, hml, hown, hts⟩ hN hK hP hD (m_one0 l D  ) (va_cwS 1 hts gX9_source_X9_one rfl rfl rfl (by decide +kernel) ⟨Nat.le_trans (m := 1) (Nat.le_of_ble_eq_true rfl) hR.1, Nat.le_trans (m := 20) (Nat.le_of_ble_eq_true rfl) hR.2⟩) [] [] rfl rfl (by decide) rfl hl.1 rfl (Nat.le_of_ble_eq_true rfl) dX9_source_186 ⟨hcs.1, hcs.2⟩) (fun r_437 h_438 => ?_)
                              subst h_438
                              refine lv_iadd hx hb dX9_source_189 ?_
                              refine lv_topi (fun z_439 ez_439 => ?_)
                              have tz_439 := ad_toInt (zx := (x).toInt) (zy := 0) ez_439 rfl (by decide)
                              refine lv_istore_n (lv' := [(3, .int z_439), (5, .int 0), (4, .int k), (0, .ref h0), (1, .int p0), (2, .int p1)]) hx hb dX9_source_190 rfl hl (by decide) rfl (fun ls hl => ?_)
                              obtain ⟨x_440, ex_440⟩ : ∃ z : Int32, z = k + 1 := ⟨_, rfl⟩
                              have tx_440 := ad_toInt (x := k) (y := 1) (z := x_440) (zx := (k).toInt) (zy := 1) ex_440 rfl (by decide)
                              refine lv_iinc (v := x_440) (lv' := [(4, .int x_440), (3, .int z_439), (5, .int 0), (0, .ref h0), (1, .int p0), (2, .int p1)]) hx hb dX9_source_191 hl (k := 2) rfl (by rw [ex_440]; rfl) (by decide) rfl (fun ls hl => ?_)
                              refine lv_goto (tgt := 27) hx hb dX9_source_194 (by decide) ?_
                              exact ih _ _ _ (by first | omega | assumption) (by omega) (lv_sub hl [0, 1, 3, 4, 5] rfl)
                            · refine lv_aload_n hx hb dX9_source_165 rfl (lv_at hl 3 rfl) ?_
                              refine va_get (D := D) (ci := 9) (v := .ref b8) (C := RX9) (T := TX9) (N := 37) hx hb hts hin_X9 hown hK hP 0 rfl rfl 14 (by decide) (hts (.fieldLink RX9 38 "CryOrderModel" "state" "[I") (List.mem_cons_of_mem _ (List.mem_append_left _ (List.mem_of_getElem? (i := 5) rfl)))) (fun _ h9 => h9) rfl dX9_source_166 ?_
                              refine lv_iload hx hb dX9_source_169 (lv_at hl 1 rfl) ?_
                              refine va_iald hx hb hK hP 5 4 rfl rfl (vp_in_iff.mpr (by omega)) dX9_source_171 ?_
                              refine lv_topi (fun z_441 ez_441 => ?_)
                              have qz_441 : (z_441).toInt = (z_408).toInt := by rw [ez_441, ez_408]
                              refine lv_iconst (v := 1) hx hb dX9_source_172 (by decide) ?_
                              refine bi_ne (zx := (z_441).toInt) (zy := 1) (tgt := 185) hx hb dX9_source_173 (by decide) rfl (by decide) (fun c_442 => ?_) (fun c_442 => ?_)
                              · refine lv_iconst (v := 0) hx hb dX9_source_185 (by decide) ?_
                                refine vp_callSi (zrS (As := [.int 0]) (rest := [.int x]) (wc := []) ⟨hx, hb, hml, hown, hts⟩ hN hK hP hD (m_one0 l D  ) (va_cwS 1 hts gX9_source_X9_one rfl rfl rfl (by decide +kernel) ⟨Nat.le_trans (m := 1) (Nat.le_of_ble_eq_true rfl) hR.1, Nat.le_trans (m := 20) (Nat.le_of_ble_eq_true rfl) hR.2⟩) [] [] rfl rfl (by decide) rfl hl.1 rfl (Nat.le_of_ble_eq_true rfl) dX9_source_186 ⟨hcs.1, hcs.2⟩) (fun r_443 h_444 => ?_)
                                subst h_444
                                refine lv_iadd hx hb dX9_source_189 ?_
                                refine lv_topi (fun z_445 ez_445 => ?_)
                                have tz_445 := ad_toInt (zx := (x).toInt) (zy := 0) ez_445 rfl (by decide)
                                refine lv_istore_n (lv' := [(3, .int z_445), (5, .int 0), (4, .int k), (0, .ref h0), (1, .int p0), (2, .int p1)]) hx hb dX9_source_190 rfl hl (by decide) rfl (fun ls hl => ?_)
                                obtain ⟨x_446, ex_446⟩ : ∃ z : Int32, z = k + 1 := ⟨_, rfl⟩
                                have tx_446 := ad_toInt (x := k) (y := 1) (z := x_446) (zx := (k).toInt) (zy := 1) ex_446 rfl (by decide)
                                refine lv_iinc (v := x_446) (lv' := [(4, .int x_446), (3, .int z_445), (5, .int 0), (0, .ref h0), (1, .int p0), (2, .int p1)]) hx hb dX9_source_191 hl (k := 2) rfl (by rw [ex_446]; rfl) (by decide) rfl (fun ls hl => ?_)
                                refine lv_goto (tgt := 27) hx hb dX9_source_194 (by decide) ?_
                                exact ih _ _ _ (by first | omega | assumption) (by omega) (lv_sub hl [0, 1, 3, 4, 5] rfl)
                              · refine lv_iload hx hb dX9_source_176 (lv_at hl 0 rfl) ?_
                                refine lv_if_ne (tgt := 185) hx hb dX9_source_178 (by decide) (fun c_ => absurd c_ (by decide)) (fun _ => ?_)
                                refine lv_iconst (v := 1) hx hb dX9_source_181 (by decide) ?_
                                refine lv_goto (tgt := 186) hx hb dX9_source_182 (by decide) ?_
                                refine vp_callSi (zrS (As := [.int 1]) (rest := [.int x]) (wc := []) ⟨hx, hb, hml, hown, hts⟩ hN hK hP hD (m_one1 l D  ) (va_cwS 1 hts gX9_source_X9_one rfl rfl rfl (by decide +kernel) ⟨Nat.le_trans (m := 1) (Nat.le_of_ble_eq_true rfl) hR.1, Nat.le_trans (m := 20) (Nat.le_of_ble_eq_true rfl) hR.2⟩) [] [] rfl rfl (by decide) rfl hl.1 rfl (Nat.le_of_ble_eq_true rfl) dX9_source_186 ⟨hcs.1, hcs.2⟩) (fun r_447 h_448 => ?_)
                                subst h_448
                                refine lv_iadd hx hb dX9_source_189 ?_
                                refine lv_topi (fun z_449 ez_449 => ?_)
                                have tz_449 := ad_toInt (zx := (x).toInt) (zy := 1) ez_449 rfl (by decide)
                                refine lv_istore_n (lv' := [(3, .int z_449), (5, .int 0), (4, .int k), (0, .ref h0), (1, .int p0), (2, .int p1)]) hx hb dX9_source_190 rfl hl (by decide) rfl (fun ls hl => ?_)
                                obtain ⟨x_450, ex_450⟩ : ∃ z : Int32, z = k + 1 := ⟨_, rfl⟩
                                have tx_450 := ad_toInt (x := k) (y := 1) (z := x_450) (zx := (k).toInt) (zy := 1) ex_450 rfl (by decide)
                                refine lv_iinc (v := x_450) (lv' := [(4, .int x_450), (3, .int z_449), (5, .int 0), (0, .ref h0), (1, .int p0), (2, .int p1)]) hx hb dX9_source_191 hl (k := 2) rfl (by rw [ex_450]; rfl) (by decide) rfl (fun ls hl => ?_)
                                refine lv_goto (tgt := 27) hx hb dX9_source_194 (by decide) ?_
                                exact ih _ _ _ (by first | omega | assumption) (by omega) (lv_sub hl [0, 1, 3, 4, 5] rfl)
                  · refine lv_aload_n hx hb dX9_source_117 rfl (lv_at hl 3 rfl) ?_
                    refine va_get (D := D) (ci := 9) (v := .ref b12) (C := RX9) (T := TX9) (N := 37) hx hb hts hin_X9 hown hK hP 0 rfl rfl 18 (by decide) (hts (.fieldLink RX9 51 "CryOrderModel" "isCapped" "[Z") (List.mem_cons_of_mem _ (List.mem_append_left _ (List.mem_of_getElem? (i := 3) rfl)))) (fun _ h9 => h9) rfl dX9_source_118 ?_
                    refine lv_iload hx hb dX9_source_121 (lv_at hl 1 rfl) ?_
                    refine va_zald hx hb hK hP 3 2 rfl rfl (vp_in_iff.mpr (by omega)) dX9_source_123 ?_
                    refine lv_topi (fun z_451 ez_451 => ?_)
                    have qz_451 : (z_451).toInt = (z_360).toInt := by rw [ez_451, ez_360]
                    refine bz_ne (zx := (z_451).toInt) (tgt := 181) hx hb dX9_source_124 (by decide) rfl (fun c_452 => ?_) (fun c_452 => ?_)
                    · refine lv_iconst (v := 1) hx hb dX9_source_181 (by decide) ?_
                      refine lv_goto (tgt := 186) hx hb dX9_source_182 (by decide) ?_
                      refine vp_callSi (zrS (As := [.int 1]) (rest := [.int x]) (wc := []) ⟨hx, hb, hml, hown, hts⟩ hN hK hP hD (m_one1 l D  ) (va_cwS 1 hts gX9_source_X9_one rfl rfl rfl (by decide +kernel) ⟨Nat.le_trans (m := 1) (Nat.le_of_ble_eq_true rfl) hR.1, Nat.le_trans (m := 20) (Nat.le_of_ble_eq_true rfl) hR.2⟩) [] [] rfl rfl (by decide) rfl hl.1 rfl (Nat.le_of_ble_eq_true rfl) dX9_source_186 ⟨hcs.1, hcs.2⟩) (fun r_453 h_454 => ?_)
                      subst h_454
                      refine lv_iadd hx hb dX9_source_189 ?_
                      refine lv_topi (fun z_455 ez_455 => ?_)
                      have tz_455 := ad_toInt (zx := (x).toInt) (zy := 1) ez_455 rfl (by decide)
                      refine lv_istore_n (lv' := [(3, .int z_455), (5, .int 0), (4, .int k), (0, .ref h0), (1, .int p0), (2, .int p1)]) hx hb dX9_source_190 rfl hl (by decide) rfl (fun ls hl => ?_)
                      obtain ⟨x_456, ex_456⟩ : ∃ z : Int32, z = k + 1 := ⟨_, rfl⟩
                      have tx_456 := ad_toInt (x := k) (y := 1) (z := x_456) (zx := (k).toInt) (zy := 1) ex_456 rfl (by decide)
                      refine lv_iinc (v := x_456) (lv' := [(4, .int x_456), (3, .int z_455), (5, .int 0), (0, .ref h0), (1, .int p0), (2, .int p1)]) hx hb dX9_source_191 hl (k := 2) rfl (by rw [ex_456]; rfl) (by decide) rfl (fun ls hl => ?_)
                      refine lv_goto (tgt := 27) hx hb dX9_source_194 (by decide) ?_
                      exact ih _ _ _ (by first | omega | assumption) (by omega) (lv_sub hl [0, 1, 3, 4, 5] rfl)
                    · refine lv_iload_n hx hb dX9_source_127 rfl (lv_at hl 5 rfl) ?_
                      refine lv_iconst (v := 4) hx hb dX9_source_128 (by decide) ?_
                      refine bi_ne (zx := (p1).toInt) (zy := 4) (tgt := 143) hx hb dX9_source_129 (by decide) rfl (by decide) (fun c_457 => ?_) (fun c_457 => ?_)
                      · refine lv_iload_n hx hb dX9_source_143 rfl (lv_at hl 5 rfl) ?_
                        refine lv_iconst (v := 5) hx hb dX9_source_144 (by decide) ?_
                        refine bi_ne (zx := (p1).toInt) (zy := 5) (tgt := 159) hx hb dX9_source_145 (by decide) rfl (by decide) (fun c_458 => ?_) (fun c_458 => ?_)
                        · refine lv_iload_n hx hb dX9_source_159 rfl (lv_at hl 5 rfl) ?_
                          refine lv_bipush (v := 6) hx hb dX9_source_160 (by decide) ?_
                          refine bi_ne (zx := (p1).toInt) (zy := 6) (tgt := 185) hx hb dX9_source_162 (by decide) rfl (by decide) (fun c_459 => ?_) (fun c_459 => ?_)
                          · refine lv_iconst (v := 0) hx hb dX9_source_185 (by decide) ?_
                            refine vp_callSi (zrS (As := [.int 0]) (rest := [.int x]) (wc := []) ⟨hx, hb, hml, hown, hts⟩ hN hK hP hD (m_one0 l D  ) (va_cwS 1 hts gX9_source_X9_one rfl rfl rfl (by decide +kernel) ⟨Nat.le_trans (m := 1) (Nat.le_of_ble_eq_true rfl) hR.1, Nat.le_trans (m := 20) (Nat.le_of_ble_eq_true rfl) hR.2⟩) [] [] rfl rfl (by decide) rfl hl.1 rfl (Nat.le_of_ble_eq_true rfl) dX9_source_186 ⟨hcs.1, hcs.2⟩) (fun r_460 h_461 => ?_)
                            subst h_461
                            refine lv_iadd hx hb dX9_source_189 ?_
                            refine lv_topi (fun z_462 ez_462 => ?_)
                            have tz_462 := ad_toInt (zx := (x).toInt) (zy := 0) ez_462 rfl (by decide)
                            refine lv_istore_n (lv' := [(3, .int z_462), (5, .int 0), (4, .int k), (0, .ref h0), (1, .int p0), (2, .int p1)]) hx hb dX9_source_190 rfl hl (by decide) rfl (fun ls hl => ?_)
                            obtain ⟨x_463, ex_463⟩ : ∃ z : Int32, z = k + 1 := ⟨_, rfl⟩
                            have tx_463 := ad_toInt (x := k) (y := 1) (z := x_463) (zx := (k).toInt) (zy := 1) ex_463 rfl (by decide)
                            refine lv_iinc (v := x_463) (lv' := [(4, .int x_463), (3, .int z_462), (5, .int 0), (0, .ref h0), (1, .int p0), (2, .int p1)]) hx hb dX9_source_191 hl (k := 2) rfl (by rw [ex_463]; rfl) (by decide) rfl (fun ls hl => ?_)
                            refine lv_goto (tgt := 27) hx hb dX9_source_194 (by decide) ?_
                            exact ih _ _ _ (by first | omega | assumption) (by omega) (lv_sub hl [0, 1, 3, 4, 5] rfl)
                          · refine lv_aload_n hx hb dX9_source_165 rfl (lv_at hl 3 rfl) ?_
                            refine va_get (D := D) (ci := 9) (v := .ref b8) (C := RX9) (T := TX9) (N := 37) hx hb hts hin_X9 hown hK hP 0 rfl rfl 14 (by decide) (hts (.fieldLink RX9 38 "CryOrderModel" "state" "[I") (List.mem_cons_of_mem _ (List.mem_append_left _ (List.mem_of_getElem? (i := 5) rfl)))) (fun _ h9 => h9) rfl dX9_source_166 ?_
                            refine lv_iload hx hb dX9_source_169 (lv_at hl 1 rfl) ?_
                            refine va_iald hx hb hK hP 5 4 rfl rfl (vp_in_iff.mpr (by omega)) dX9_source_171 ?_
                            refine lv_topi (fun z_464 ez_464 => ?_)
                            refine lv_iconst (v := 1) hx hb dX9_source_172 (by decide) ?_
                            refine bi_ne (zx := (z_464).toInt) (zy := 1) (tgt := 185) hx hb dX9_source_173 (by decide) rfl (by decide) (fun c_465 => ?_) (fun c_465 => ?_)
                            · refine lv_iconst (v := 0) hx hb dX9_source_185 (by decide) ?_
                              refine vp_callSi (zrS (As := [.int 0]) (rest := [.int x]) (wc := []) ⟨hx, hb, hml, hown, hts⟩ hN hK hP hD (m_one0 l D  ) (va_cwS 1 hts gX9_source_X9_one rfl rfl rfl (by decide +kernel) ⟨Nat.le_trans (m := 1) (Nat.le_of_ble_eq_true rfl) hR.1, Nat.le_trans (m := 20) (Nat.le_of_ble_eq_true rfl) hR.2⟩) [] [] rfl rfl (by decide) rfl hl.1 rfl (Nat.le_of_ble_eq_true rfl) dX9_source_186 ⟨hcs.1, hcs.2⟩) (fun r_466 h_467 => ?_)
                              subst h_467
                              refine lv_iadd hx hb dX9_source_189 ?_
                              refine lv_topi (fun z_468 ez_468 => ?_)
                              have tz_468 := ad_toInt (zx := (x).toInt) (zy := 0) ez_468 rfl (by decide)
                              refine lv_istore_n (lv' := [(3, .int z_468), (5, .int 0), (4, .int k), (0, .ref h0), (1, .int p0), (2, .int p1)]) hx hb dX9_source_190 rfl hl (by decide) rfl (fun ls hl => ?_)
                              obtain ⟨x_469, ex_469⟩ : ∃ z : Int32, z = k + 1 := ⟨_, rfl⟩
                              have tx_469 := ad_toInt (x := k) (y := 1) (z := x_469) (zx := (k).toInt) (zy := 1) ex_469 rfl (by decide)
                              refine lv_iinc (v := x_469) (lv' := [(4, .int x_469), (3, .int z_468), (5, .int 0), (0, .ref h0), (1, .int p0), (2, .int p1)]) hx hb dX9_source_191 hl (k := 2) rfl (by rw [ex_469]; rfl) (by decide) rfl (fun ls hl => ?_)
                              refine lv_goto (tgt := 27) hx hb dX9_source_194 (by decide) ?_
                              exact ih _ _ _ (by first | omega | assumption) (by omega) (lv_sub hl [0, 1, 3, 4, 5] rfl)
                            · refine lv_iload hx hb dX9_source_176 (lv_at hl 0 rfl) ?_
                              refine lv_if_ne (tgt := 185) hx hb dX9_source_178 (by decide) (fun c_ => absurd c_ (by decide)) (fun _ => ?_)
                              refine lv_iconst (v := 1) hx hb dX9_source_181 (by decide) ?_
                              refine lv_goto (tgt := 186) hx hb dX9_source_182 (by decide) ?_
                              refine vp_callSi (zrS (As := [.int 1]) (rest := [.int x]) (wc := []) ⟨hx, hb, hml, hown, hts⟩ hN hK hP hD (m_one1 l D  ) (va_cwS 1 hts gX9_source_X9_one rfl rfl rfl (by decide +kernel) ⟨Nat.le_trans (m := 1) (Nat.le_of_ble_eq_true rfl) hR.1, Nat.le_trans (m := 20) (Nat.le_of_ble_eq_true rfl) hR.2⟩) [] [] rfl rfl (by decide) rfl hl.1 rfl (Nat.le_of_ble_eq_true rfl) dX9_source_186 ⟨hcs.1, hcs.2⟩) (fun r_470 h_471 => ?_)
                              subst h_471
                              refine lv_iadd hx hb dX9_source_189 ?_
                              refine lv_topi (fun z_472 ez_472 => ?_)
                              have tz_472 := ad_toInt (zx := (x).toInt) (zy := 1) ez_472 rfl (by decide)
                              refine lv_istore_n (lv' := [(3, .int z_472), (5, .int 0), (4, .int k), (0, .ref h0), (1, .int p0), (2, .int p1)]) hx hb dX9_source_190 rfl hl (by decide) rfl (fun ls hl => ?_)
                              obtain ⟨x_473, ex_473⟩ : ∃ z : Int32, z = k + 1 := ⟨_, rfl⟩
                              have tx_473 := ad_toInt (x := k) (y := 1) (z := x_473) (zx := (k).toInt) (zy := 1) ex_473 rfl (by decide)
                              refine lv_iinc (v := x_473) (lv' := [(4, .int x_473), (3, .int z_472), (5, .int 0), (0, .ref h0), (1, .int p0), (2, .int p1)]) hx hb dX9_source_191 hl (k := 2) rfl (by rw [ex_473]; rfl) (by decide) rfl (fun ls hl => ?_)
                              refine lv_goto (tgt := 27) hx hb dX9_source_194 (by decide) ?_
                              exact ih _ _ _ (by first | omega | assumption) (by omega) (lv_sub hl [0, 1, 3, 4, 5] rfl)
                        · refine lv_aload_n hx hb dX9_source_148 rfl (lv_at hl 3 rfl) ?_
                          refine va_get (D := D) (ci := 9) (v := .ref b8) (C := RX9) (T := TX9) (N := 37) hx hb hts hin_X9 hown hK hP 0 rfl rfl 14 (by decide) (hts (.fieldLink RX9 38 "CryOrderModel" "state" "[I") (List.mem_cons_of_mem _ (List.mem_append_left _ (List.mem_of_getElem? (i := 5) rfl)))) (fun _ h9 => h9) rfl dX9_source_149 ?_
                          refine lv_iload hx hb dX9_source_152 (lv_at hl 1 rfl) ?_
                          refine va_iald hx hb hK hP 5 4 rfl rfl (vp_in_iff.mpr (by omega)) dX9_source_154 ?_
                          refine lv_topi (fun z_474 ez_474 => ?_)
                          refine lv_iconst (v := 2) hx hb dX9_source_155 (by decide) ?_
                          refine bi_eq (zx := (z_474).toInt) (zy := 2) (tgt := 181) hx hb dX9_source_156 (by decide) rfl (by decide) (fun c_475 => ?_) (fun c_475 => ?_)
                          · refine lv_iconst (v := 1) hx hb dX9_source_181 (by decide) ?_
                            refine lv_goto (tgt := 186) hx hb dX9_source_182 (by decide) ?_
                            refine vp_callSi (zrS (As := [.int 1]) (rest := [.int x]) (wc := []) ⟨hx, hb, hml, hown, hts⟩ hN hK hP hD (m_one1 l D  ) (va_cwS 1 hts gX9_source_X9_one rfl rfl rfl (by decide +kernel) ⟨Nat.le_trans (m := 1) (Nat.le_of_ble_eq_true rfl) hR.1, Nat.le_trans (m := 20) (Nat.le_of_ble_eq_true rfl) hR.2⟩) [] [] rfl rfl (by decide) rfl hl.1 rfl (Nat.le_of_ble_eq_true rfl) dX9_source_186 ⟨hcs.1, hcs.2⟩) (fun r_476 h_477 => ?_)
                            subst h_477
                            refine lv_iadd hx hb dX9_source_189 ?_
                            refine lv_topi (fun z_478 ez_478 => ?_)
                            have tz_478 := ad_toInt (zx := (x).toInt) (zy := 1) ez_478 rfl (by decide)
                            refine lv_istore_n (lv' := [(3, .int z_478), (5, .int 0), (4, .int k), (0, .ref h0), (1, .int p0), (2, .int p1)]) hx hb dX9_source_190 rfl hl (by decide) rfl (fun ls hl => ?_)
                            obtain ⟨x_479, ex_479⟩ : ∃ z : Int32, z = k + 1 := ⟨_, rfl⟩
                            have tx_479 := ad_toInt (x := k) (y := 1) (z := x_479) (zx := (k).toInt) (zy := 1) ex_479 rfl (by decide)
                            refine lv_iinc (v := x_479) (lv' := [(4, .int x_479), (3, .int z_478), (5, .int 0), (0, .ref h0), (1, .int p0), (2, .int p1)]) hx hb dX9_source_191 hl (k := 2) rfl (by rw [ex_479]; rfl) (by decide) rfl (fun ls hl => ?_)
                            refine lv_goto (tgt := 27) hx hb dX9_source_194 (by decide) ?_
                            exact ih _ _ _ (by first | omega | assumption) (by omega) (lv_sub hl [0, 1, 3, 4, 5] rfl)
                          · refine lv_iload_n hx hb dX9_source_159 rfl (lv_at hl 5 rfl) ?_
                            refine lv_bipush (v := 6) hx hb dX9_source_160 (by decide) ?_
                            refine bi_ne (zx := (p1).toInt) (zy := 6) (tgt := 185) hx hb dX9_source_162 (by decide) rfl (by decide) (fun c_480 => ?_) (fun c_480 => ?_)
                            · refine lv_iconst (v := 0) hx hb dX9_source_185 (by decide) ?_
                              refine vp_callSi (zrS (As := [.int 0]) (rest := [.int x]) (wc := []) ⟨hx, hb, hml, hown, hts⟩ hN hK hP hD (m_one0 l D  ) (va_cwS 1 hts gX9_source_X9_one rfl rfl rfl (by decide +kernel) ⟨Nat.le_trans (m := 1) (Nat.le_of_ble_eq_true rfl) hR.1, Nat.le_trans (m := 20) (Nat.le_of_ble_eq_true rfl) hR.2⟩) [] [] rfl rfl (by decide) rfl hl.1 rfl (Nat.le_of_ble_eq_true rfl) dX9_source_186 ⟨hcs.1, hcs.2⟩) (fun r_481 h_482 => ?_)
                              subst h_482
                              refine lv_iadd hx hb dX9_source_189 ?_
                              refine lv_topi (fun z_483 ez_483 => ?_)
                              have tz_483 := ad_toInt (zx := (x).toInt) (zy := 0) ez_483 rfl (by decide)
                              refine lv_istore_n (lv' := [(3, .int z_483), (5, .int 0), (4, .int k), (0, .ref h0), (1, .int p0), (2, .int p1)]) hx hb dX9_source_190 rfl hl (by decide) rfl (fun ls hl => ?_)
                              obtain ⟨x_484, ex_484⟩ : ∃ z : Int32, z = k + 1 := ⟨_, rfl⟩
                              have tx_484 := ad_toInt (x := k) (y := 1) (z := x_484) (zx := (k).toInt) (zy := 1) ex_484 rfl (by decide)
                              refine lv_iinc (v := x_484) (lv' := [(4, .int x_484), (3, .int z_483), (5, .int 0), (0, .ref h0), (1, .int p0), (2, .int p1)]) hx hb dX9_source_191 hl (k := 2) rfl (by rw [ex_484]; rfl) (by decide) rfl (fun ls hl => ?_)
                              refine lv_goto (tgt := 27) hx hb dX9_source_194 (by decide) ?_
                              exact ih _ _ _ (by first | omega | assumption) (by omega) (lv_sub hl [0, 1, 3, 4, 5] rfl)
                            · refine lv_aload_n hx hb dX9_source_165 rfl (lv_at hl 3 rfl) ?_
                              refine va_get (D := D) (ci := 9) (v := .ref b8) (C := RX9) (T := TX9) (N := 37) hx hb hts hin_X9 hown hK hP 0 rfl rfl 14 (by decide) (hts (.fieldLink RX9 38 "CryOrderModel" "state" "[I") (List.mem_cons_of_mem _ (List.mem_append_left _ (List.mem_of_getElem? (i := 5) rfl)))) (fun _ h9 => h9) rfl dX9_source_166 ?_
                              refine lv_iload hx hb dX9_source_169 (lv_at hl 1 rfl) ?_
                              refine va_iald hx hb hK hP 5 4 rfl rfl (vp_in_iff.mpr (by omega)) dX9_source_171 ?_
                              refine lv_topi (fun z_485 ez_485 => ?_)
                              have qz_485 : (z_485).toInt = (z_474).toInt := by rw [ez_485, ez_474]
                              refine lv_iconst (v := 1) hx hb dX9_source_172 (by decide) ?_
                              refine bi_ne (zx := (z_485).toInt) (zy := 1) (tgt := 185) hx hb dX9_source_173 (by decide) rfl (by decide) (fun c_486 => ?_) (fun c_486 => ?_)
                              · refine lv_iconst (v := 0) hx hb dX9_source_185 (by decide) ?_
                                refine vp_callSi (zrS (As := [.int 0]) (rest := [.int x]) (wc := []) ⟨hx, hb, hml, hown, hts⟩ hN hK hP hD (m_one0 l D  ) (va_cwS 1 hts gX9_source_X9_one rfl rfl rfl (by decide +kernel) ⟨Nat.le_trans (m := 1) (Nat.le_of_ble_eq_true rfl) hR.1, Nat.le_trans (m := 20) (Nat.le_of_ble_eq_true rfl) hR.2⟩) [] [] rfl rfl (by decide) rfl hl.1 rfl (Nat.le_of_ble_eq_true rfl) dX9_source_186 ⟨hcs.1, hcs.2⟩) (fun r_487 h_488 => ?_)
                                subst h_488
                                refine lv_iadd hx hb dX9_source_189 ?_
                                refine lv_topi (fun z_489 ez_489 => ?_)
                                have tz_489 := ad_toInt (zx := (x).toInt) (zy := 0) ez_489 rfl (by decide)
                                refine lv_istore_n (lv' := [(3, .int z_489), (5, .int 0), (4, .int k), (0, .ref h0), (1, .int p0), (2, .int p1)]) hx hb dX9_source_190 rfl hl (by decide) rfl (fun ls hl => ?_)
                                obtain ⟨x_490, ex_490⟩ : ∃ z : Int32, z = k + 1 := ⟨_, rfl⟩
                                have tx_490 := ad_toInt (x := k) (y := 1) (z := x_490) (zx := (k).toInt) (zy := 1) ex_490 rfl (by decide)
                                refine lv_iinc (v := x_490) (lv' := [(4, .int x_490), (3, .int z_489), (5, .int 0), (0, .ref h0), (1, .int p0), (2, .int p1)]) hx hb dX9_source_191 hl (k := 2) rfl (by rw [ex_490]; rfl) (by decide) rfl (fun ls hl => ?_)
                                refine lv_goto (tgt := 27) hx hb dX9_source_194 (by decide) ?_
                                exact ih _ _ _ (by first | omega | assumption) (by omega) (lv_sub hl [0, 1, 3, 4, 5] rfl)
                              · refine lv_iload hx hb dX9_source_176 (lv_at hl 0 rfl) ?_
                                refine lv_if_ne (tgt := 185) hx hb dX9_source_178 (by decide) (fun c_ => absurd c_ (by decide)) (fun _ => ?_)
                                refine lv_iconst (v := 1) hx hb dX9_source_181 (by decide) ?_
                                refine lv_goto (tgt := 186) hx hb dX9_source_182 (by decide) ?_
                                refine vp_callSi (zrS (As := [.int 1]) (rest := [.int x]) (wc := []) ⟨hx, hb, hml, hown, hts⟩ hN hK hP hD (m_one1 l D  ) (va_cwS 1 hts gX9_source_X9_one rfl rfl rfl (by decide +kernel) ⟨Nat.le_trans (m := 1) (Nat.le_of_ble_eq_true rfl) hR.1, Nat.le_trans (m := 20) (Nat.le_of_ble_eq_true rfl) hR.2⟩) [] [] rfl rfl (by decide) rfl hl.1 rfl (Nat.le_of_ble_eq_true rfl) dX9_source_186 ⟨hcs.1, hcs.2⟩) (fun r_491 h_492 => ?_)
                                subst h_492
                                refine lv_iadd hx hb dX9_source_189 ?_
                                refine lv_topi (fun z_493 ez_493 => ?_)
                                have tz_493 := ad_toInt (zx := (x).toInt) (zy := 1) ez_493 rfl (by decide)
                                refine lv_istore_n (lv' := [(3, .int z_493), (5, .int 0), (4, .int k), (0, .ref h0), (1, .int p0), (2, .int p1)]) hx hb dX9_source_190 rfl hl (by decide) rfl (fun ls hl => ?_)
                                obtain ⟨x_494, ex_494⟩ : ∃ z : Int32, z = k + 1 := ⟨_, rfl⟩
                                have tx_494 := ad_toInt (x := k) (y := 1) (z := x_494) (zx := (k).toInt) (zy := 1) ex_494 rfl (by decide)
                                refine lv_iinc (v := x_494) (lv' := [(4, .int x_494), (3, .int z_493), (5, .int 0), (0, .ref h0), (1, .int p0), (2, .int p1)]) hx hb dX9_source_191 hl (k := 2) rfl (by rw [ex_494]; rfl) (by decide) rfl (fun ls hl => ?_)
                                refine lv_goto (tgt := 27) hx hb dX9_source_194 (by decide) ?_
                                exact ih _ _ _ (by first | omega | assumption) (by omega) (lv_sub hl [0, 1, 3, 4, 5] rfl)
                      · refine lv_aload_n hx hb dX9_source_132 rfl (lv_at hl 3 rfl) ?_
                        refine va_get (D := D) (ci := 9) (v := .ref b8) (C := RX9) (T := TX9) (N := 37) hx hb hts hin_X9 hown hK hP 0 rfl rfl 14 (by decide) (hts (.fieldLink RX9 38 "CryOrderModel" "state" "[I") (List.mem_cons_of_mem _ (List.mem_append_left _ (List.mem_of_getElem? (i := 5) rfl)))) (fun _ h9 => h9) rfl dX9_source_133 ?_
                        refine lv_iload hx hb dX9_source_136 (lv_at hl 1 rfl) ?_
                        refine va_iald hx hb hK hP 5 4 rfl rfl (vp_in_iff.mpr (by omega)) dX9_source_138 ?_
                        refine lv_topi (fun z_495 ez_495 => ?_)
                        refine lv_iconst (v := 1) hx hb dX9_source_139 (by decide) ?_
                        refine bi_eq (zx := (z_495).toInt) (zy := 1) (tgt := 181) hx hb dX9_source_140 (by decide) rfl (by decide) (fun c_496 => ?_) (fun c_496 => ?_)
                        · refine lv_iconst (v := 1) hx hb dX9_source_181 (by decide) ?_
                          refine lv_goto (tgt := 186) hx hb dX9_source_182 (by decide) ?_
                          refine vp_callSi (zrS (As := [.int 1]) (rest := [.int x]) (wc := []) ⟨hx, hb, hml, hown, hts⟩ hN hK hP hD (m_one1 l D  ) (va_cwS 1 hts gX9_source_X9_one rfl rfl rfl (by decide +kernel) ⟨Nat.le_trans (m := 1) (Nat.le_of_ble_eq_true rfl) hR.1, Nat.le_trans (m := 20) (Nat.le_of_ble_eq_true rfl) hR.2⟩) [] [] rfl rfl (by decide) rfl hl.1 rfl (Nat.le_of_ble_eq_true rfl) dX9_source_186 ⟨hcs.1, hcs.2⟩) (fun r_497 h_498 => ?_)
                          subst h_498
                          refine lv_iadd hx hb dX9_source_189 ?_
                          refine lv_topi (fun z_499 ez_499 => ?_)
                          have tz_499 := ad_toInt (zx := (x).toInt) (zy := 1) ez_499 rfl (by decide)
                          refine lv_istore_n (lv' := [(3, .int z_499), (5, .int 0), (4, .int k), (0, .ref h0), (1, .int p0), (2, .int p1)]) hx hb dX9_source_190 rfl hl (by decide) rfl (fun ls hl => ?_)
                          obtain ⟨x_500, ex_500⟩ : ∃ z : Int32, z = k + 1 := ⟨_, rfl⟩
                          have tx_500 := ad_toInt (x := k) (y := 1) (z := x_500) (zx := (k).toInt) (zy := 1) ex_500 rfl (by decide)
                          refine lv_iinc (v := x_500) (lv' := [(4, .int x_500), (3, .int z_499), (5, .int 0), (0, .ref h0), (1, .int p0), (2, .int p1)]) hx hb dX9_source_191 hl (k := 2) rfl (by rw [ex_500]; rfl) (by decide) rfl (fun ls hl => ?_)
                          refine lv_goto (tgt := 27) hx hb dX9_source_194 (by decide) ?_
                          exact ih _ _ _ (by first | omega | assumption) (by omega) (lv_sub hl [0, 1, 3, 4, 5] rfl)
                        · refine lv_iload_n hx hb dX9_source_143 rfl (lv_at hl 5 rfl) ?_
                          refine lv_iconst (v := 5) hx hb dX9_source_144 (by decide) ?_
                          refine bi_ne (zx := (p1).toInt) (zy := 5) (tgt := 159) hx hb dX9_source_145 (by decide) rfl (by decide) (fun c_501 => ?_) (fun c_501 => ?_)
                          · refine lv_iload_n hx hb dX9_source_159 rfl (lv_at hl 5 rfl) ?_
                            refine lv_bipush (v := 6) hx hb dX9_source_160 (by decide) ?_
                            refine bi_ne (zx := (p1).toInt) (zy := 6) (tgt := 185) hx hb dX9_source_162 (by decide) rfl (by decide) (fun c_502 => ?_) (fun c_502 => ?_)
                            · refine lv_iconst (v := 0) hx hb dX9_source_185 (by decide) ?_
                              refine vp_callSi (zrS (As := [.int 0]) (rest := [.int x]) (wc := []) ⟨hx, hb, hml, hown, hts⟩ hN hK hP hD (m_one0 l D  ) (va_cwS 1 hts gX9_source_X9_one rfl rfl rfl (by decide +kernel) ⟨Nat.le_trans (m := 1) (Nat.le_of_ble_eq_true rfl) hR.1, Nat.le_trans (m := 20) (Nat.le_of_ble_eq_true rfl) hR.2⟩) [] [] rfl rfl (by decide) rfl hl.1 rfl (Nat.le_of_ble_eq_true rfl) dX9_source_186 ⟨hcs.1, hcs.2⟩) (fun r_503 h_504 => ?_)
                              subst h_504
                              refine lv_iadd hx hb dX9_source_189 ?_
                              refine lv_topi (fun z_505 ez_505 => ?_)
                              have tz_505 := ad_toInt (zx := (x).toInt) (zy := 0) ez_505 rfl (by decide)
                              refine lv_istore_n (lv' := [(3, .int z_505), (5, .int 0), (4, .int k), (0, .ref h0), (1, .int p0), (2, .int p1)]) hx hb dX9_source_190 rfl hl (by decide) rfl (fun ls hl => ?_)
                              obtain ⟨x_506, ex_506⟩ : ∃ z : Int32, z = k + 1 := ⟨_, rfl⟩
                              have tx_506 := ad_toInt (x := k) (y := 1) (z := x_506) (zx := (k).toInt) (zy := 1) ex_506 rfl (by decide)
                              refine lv_iinc (v := x_506) (lv' := [(4, .int x_506), (3, .int z_505), (5, .int 0), (0, .ref h0), (1, .int p0), (2, .int p1)]) hx hb dX9_source_191 hl (k := 2) rfl (by rw [ex_506]; rfl) (by decide) rfl (fun ls hl => ?_)
                              refine lv_goto (tgt := 27) hx hb dX9_source_194 (by decide) ?_
                              exact ih _ _ _ (by first | omega | assumption) (by omega) (lv_sub hl [0, 1, 3, 4, 5] rfl)
                            · refine lv_aload_n hx hb dX9_source_165 rfl (lv_at hl 3 rfl) ?_
                              refine va_get (D := D) (ci := 9) (v := .ref b8) (C := RX9) (T := TX9) (N := 37) hx hb hts hin_X9 hown hK hP 0 rfl rfl 14 (by decide) (hts (.fieldLink RX9 38 "CryOrderModel" "state" "[I") (List.mem_cons_of_mem _ (List.mem_append_left _ (List.mem_of_getElem? (i := 5) rfl)))) (fun _ h9 => h9) rfl dX9_source_166 ?_
                              refine lv_iload hx hb dX9_source_169 (lv_at hl 1 rfl) ?_
                              refine va_iald hx hb hK hP 5 4 rfl rfl (vp_in_iff.mpr (by omega)) dX9_source_171 ?_
                              refine lv_topi (fun z_507 ez_507 => ?_)
                              have qz_507 : (z_507).toInt = (z_495).toInt := by rw [ez_507, ez_495]
                              refine lv_iconst (v := 1) hx hb dX9_source_172 (by decide) ?_
                              refine bi_ne (zx := (z_507).toInt) (zy := 1) (tgt := 185) hx hb dX9_source_173 (by decide) rfl (by decide) (fun c_508 => ?_) (fun c_508 => ?_)
                              · refine lv_iconst (v := 0) hx hb dX9_source_185 (by decide) ?_
                                refine vp_callSi (zrS (As := [.int 0]) (rest := [.int x]) (wc := []) ⟨hx, hb, hml, hown, hts⟩ hN hK hP hD (m_one0 l D  ) (va_cwS 1 hts gX9_source_X9_one rfl rfl rfl (by decide +kernel) ⟨Nat.le_trans (m := 1) (Nat.le_of_ble_eq_true rfl) hR.1, Nat.le_trans (m := 20) (Nat.le_of_ble_eq_true rfl) hR.2⟩) [] [] rfl rfl (by decide) rfl hl.1 rfl (Nat.le_of_ble_eq_true rfl) dX9_source_186 ⟨hcs.1, hcs.2⟩) (fun r_509 h_510 => ?_)
                                subst h_510
                                refine lv_iadd hx hb dX9_source_189 ?_
                                refine lv_topi (fun z_511 ez_511 => ?_)
                                have tz_511 := ad_toInt (zx := (x).toInt) (zy := 0) ez_511 rfl (by decide)
                                refine lv_istore_n (lv' := [(3, .int z_511), (5, .int 0), (4, .int k), (0, .ref h0), (1, .int p0), (2, .int p1)]) hx hb dX9_source_190 rfl hl (by decide) rfl (fun ls hl => ?_)
                                obtain ⟨x_512, ex_512⟩ : ∃ z : Int32, z = k + 1 := ⟨_, rfl⟩
                                have tx_512 := ad_toInt (x := k) (y := 1) (z := x_512) (zx := (k).toInt) (zy := 1) ex_512 rfl (by decide)
                                refine lv_iinc (v := x_512) (lv' := [(4, .int x_512), (3, .int z_511), (5, .int 0), (0, .ref h0), (1, .int p0), (2, .int p1)]) hx hb dX9_source_191 hl (k := 2) rfl (by rw [ex_512]; rfl) (by decide) rfl (fun ls hl => ?_)
                                refine lv_goto (tgt := 27) hx hb dX9_source_194 (by decide) ?_
                                exact ih _ _ _ (by first | omega | assumption) (by omega) (lv_sub hl [0, 1, 3, 4, 5] rfl)
                              · refine lv_iload hx hb dX9_source_176 (lv_at hl 0 rfl) ?_
                                refine lv_if_ne (tgt := 185) hx hb dX9_source_178 (by decide) (fun c_ => absurd c_ (by decide)) (fun _ => ?_)
                                refine lv_iconst (v := 1) hx hb dX9_source_181 (by decide) ?_
                                refine lv_goto (tgt := 186) hx hb dX9_source_182 (by decide) ?_
                                refine vp_callSi (zrS (As := [.int 1]) (rest := [.int x]) (wc := []) ⟨hx, hb, hml, hown, hts⟩ hN hK hP hD (m_one1 l D  ) (va_cwS 1 hts gX9_source_X9_one rfl rfl rfl (by decide +kernel) ⟨Nat.le_trans (m := 1) (Nat.le_of_ble_eq_true rfl) hR.1, Nat.le_trans (m := 20) (Nat.le_of_ble_eq_true rfl) hR.2⟩) [] [] rfl rfl (by decide) rfl hl.1 rfl (Nat.le_of_ble_eq_true rfl) dX9_source_186 ⟨hcs.1, hcs.2⟩) (fun r_513 h_514 => ?_)
                                subst h_514
                                refine lv_iadd hx hb dX9_source_189 ?_
                                refine lv_topi (fun z_515 ez_515 => ?_)
                                have tz_515 := ad_toInt (zx := (x).toInt) (zy := 1) ez_515 rfl (by decide)
                                refine lv_istore_n (lv' := [(3, .int z_515), (5, .int 0), (4, .int k), (0, .ref h0), (1, .int p0), (2, .int p1)]) hx hb dX9_source_190 rfl hl (by decide) rfl (fun ls hl => ?_)
                                obtain ⟨x_516, ex_516⟩ : ∃ z : Int32, z = k + 1 := ⟨_, rfl⟩
                                have tx_516 := ad_toInt (x := k) (y := 1) (z := x_516) (zx := (k).toInt) (zy := 1) ex_516 rfl (by decide)
                                refine lv_iinc (v := x_516) (lv' := [(4, .int x_516), (3, .int z_515), (5, .int 0), (0, .ref h0), (1, .int p0), (2, .int p1)]) hx hb dX9_source_191 hl (k := 2) rfl (by rw [ex_516]; rfl) (by decide) rfl (fun ls hl => ?_)
                                refine lv_goto (tgt := 27) hx hb dX9_source_194 (by decide) ?_
                                exact ih _ _ _ (by first | omega | assumption) (by omega) (lv_sub hl [0, 1, 3, 4, 5] rfl)
                          · refine lv_aload_n hx hb dX9_source_148 rfl (lv_at hl 3 rfl) ?_
                            refine va_get (D := D) (ci := 9) (v := .ref b8) (C := RX9) (T := TX9) (N := 37) hx hb hts hin_X9 hown hK hP 0 rfl rfl 14 (by decide) (hts (.fieldLink RX9 38 "CryOrderModel" "state" "[I") (List.mem_cons_of_mem _ (List.mem_append_left _ (List.mem_of_getElem? (i := 5) rfl)))) (fun _ h9 => h9) rfl dX9_source_149 ?_
                            refine lv_iload hx hb dX9_source_152 (lv_at hl 1 rfl) ?_
                            refine va_iald hx hb hK hP 5 4 rfl rfl (vp_in_iff.mpr (by omega)) dX9_source_154 ?_
                            refine lv_topi (fun z_517 ez_517 => ?_)
                            have qz_517 : (z_517).toInt = (z_495).toInt := by rw [ez_517, ez_495]
                            refine lv_iconst (v := 2) hx hb dX9_source_155 (by decide) ?_
                            refine bi_eq (zx := (z_517).toInt) (zy := 2) (tgt := 181) hx hb dX9_source_156 (by decide) rfl (by decide) (fun c_518 => ?_) (fun c_518 => ?_)
                            · refine lv_iconst (v := 1) hx hb dX9_source_181 (by decide) ?_
                              refine lv_goto (tgt := 186) hx hb dX9_source_182 (by decide) ?_
                              refine vp_callSi (zrS (As := [.int 1]) (rest := [.int x]) (wc := []) ⟨hx, hb, hml, hown, hts⟩ hN hK hP hD (m_one1 l D  ) (va_cwS 1 hts gX9_source_X9_one rfl rfl rfl (by decide +kernel) ⟨Nat.le_trans (m := 1) (Nat.le_of_ble_eq_true rfl) hR.1, Nat.le_trans (m := 20) (Nat.le_of_ble_eq_true rfl) hR.2⟩) [] [] rfl rfl (by decide) rfl hl.1 rfl (Nat.le_of_ble_eq_true rfl) dX9_source_186 ⟨hcs.1, hcs.2⟩) (fun r_519 h_520 => ?_)
                              subst h_520
                              refine lv_iadd hx hb dX9_source_189 ?_
                              refine lv_topi (fun z_521 ez_521 => ?_)
                              have tz_521 := ad_toInt (zx := (x).toInt) (zy := 1) ez_521 rfl (by decide)
                              refine lv_istore_n (lv' := [(3, .int z_521), (5, .int 0), (4, .int k), (0, .ref h0), (1, .int p0), (2, .int p1)]) hx hb dX9_source_190 rfl hl (by decide) rfl (fun ls hl => ?_)
                              obtain ⟨x_522, ex_522⟩ : ∃ z : Int32, z = k + 1 := ⟨_, rfl⟩
                              have tx_522 := ad_toInt (x := k) (y := 1) (z := x_522) (zx := (k).toInt) (zy := 1) ex_522 rfl (by decide)
                              refine lv_iinc (v := x_522) (lv' := [(4, .int x_522), (3, .int z_521), (5, .int 0), (0, .ref h0), (1, .int p0), (2, .int p1)]) hx hb dX9_source_191 hl (k := 2) rfl (by rw [ex_522]; rfl) (by decide) rfl (fun ls hl => ?_)
                              refine lv_goto (tgt := 27) hx hb dX9_source_194 (by decide) ?_
                              exact ih _ _ _ (by first | omega | assumption) (by omega) (lv_sub hl [0, 1, 3, 4, 5] rfl)
                            · refine lv_iload_n hx hb dX9_source_159 rfl (lv_at hl 5 rfl) ?_
                              refine lv_bipush (v := 6) hx hb dX9_source_160 (by decide) ?_
                              refine bi_ne (zx := (p1).toInt) (zy := 6) (tgt := 185) hx hb dX9_source_162 (by decide) rfl (by decide) (fun c_523 => ?_) (fun c_523 => ?_)
                              · refine lv_iconst (v := 0) hx hb dX9_source_185 (by decide) ?_
                                refine vp_callSi (zrS (As := [.int 0]) (rest := [.int x]) (wc := []) ⟨hx, hb, hml, hown, hts⟩ hN hK hP hD (m_one0 l D  ) (va_cwS 1 hts gX9_source_X9_one rfl rfl rfl (by decide +kernel) ⟨Nat.le_trans (m := 1) (Nat.le_of_ble_eq_true rfl) hR.1, Nat.le_trans (m := 20) (Nat.le_of_ble_eq_true rfl) hR.2⟩) [] [] rfl rfl (by decide) rfl hl.1 rfl (Nat.le_of_ble_eq_true rfl) dX9_source_186 ⟨hcs.1, hcs.2⟩) (fun r_524 h_525 => ?_)
                                subst h_525
                                refine lv_iadd hx hb dX9_source_189 ?_
                                refine lv_topi (fun z_526 ez_526 => ?_)
                                have tz_526 := ad_toInt (zx := (x).toInt) (zy := 0) ez_526 rfl (by decide)
                                refine lv_istore_n (lv' := [(3, .int z_526), (5, .int 0), (4, .int k), (0, .ref h0), (1, .int p0), (2, .int p1)]) hx hb dX9_source_190 rfl hl (by decide) rfl (fun ls hl => ?_)
                                obtain ⟨x_527, ex_527⟩ : ∃ z : Int32, z = k + 1 := ⟨_, rfl⟩
                                have tx_527 := ad_toInt (x := k) (y := 1) (z := x_527) (zx := (k).toInt) (zy := 1) ex_527 rfl (by decide)
                                refine lv_iinc (v := x_527) (lv' := [(4, .int x_527), (3, .int z_526), (5, .int 0), (0, .ref h0), (1, .int p0), (2, .int p1)]) hx hb dX9_source_191 hl (k := 2) rfl (by rw [ex_527]; rfl) (by decide) rfl (fun ls hl => ?_)
                                refine lv_goto (tgt := 27) hx hb dX9_source_194 (by decide) ?_
                                exact ih _ _ _ (by first | omega | assumption) (by omega) (lv_sub hl [0, 1, 3, 4, 5] rfl)
                              · refine lv_aload_n hx hb dX9_source_165 rfl (lv_at hl 3 rfl) ?_
                                refine va_get (D := D) (ci := 9) (v := .ref b8) (C := RX9) (T := TX9) (N := 37) hx hb hts hin_X9 hown hK hP 0 rfl rfl 14 (by decide) (hts (.fieldLink RX9 38 "CryOrderModel" "state" "[I") (List.mem_cons_of_mem _ (List.mem_append_left _ (List.mem_of_getElem? (i := 5) rfl)))) (fun _ h9 => h9) rfl dX9_source_166 ?_
                                refine lv_iload hx hb dX9_source_169 (lv_at hl 1 rfl) ?_
                                refine va_iald hx hb hK hP 5 4 rfl rfl (vp_in_iff.mpr (by omega)) dX9_source_171 ?_
                                refine lv_topi (fun z_528 ez_528 => ?_)
                                have qz_528 : (z_528).toInt = (z_495).toInt := by rw [ez_528, ez_495]
                                refine lv_iconst (v := 1) hx hb dX9_source_172 (by decide) ?_
                                refine bi_ne (zx := (z_528).toInt) (zy := 1) (tgt := 185) hx hb dX9_source_173 (by decide) rfl (by decide) (fun c_529 => ?_) (fun c_529 => ?_)
                                · refine lv_iconst (v := 0) hx hb dX9_source_185 (by decide) ?_
                                  refine vp_callSi (zrS (As := [.int 0]) (rest := [.int x]) (wc := []) ⟨hx, hb, hml, hown, hts⟩ hN hK hP hD (m_one0 l D  ) (va_cwS 1 hts gX9_source_X9_one rfl rfl rfl (by decide +kernel) ⟨Nat.le_trans (m := 1) (Nat.le_of_ble_eq_true rfl) hR.1, Nat.le_trans (m := 20) (Nat.le_of_ble_eq_true rfl) hR.2⟩) [] [] rfl rfl (by decide) rfl hl.1 rfl (Nat.le_of_ble_eq_true rfl) dX9_source_186 ⟨hcs.1, hcs.2⟩) (fun r_530 h_531 => ?_)
                                  subst h_531
                                  refine lv_iadd hx hb dX9_source_189 ?_
                                  refine lv_topi (fun z_532 ez_532 => ?_)
                                  have tz_532 := ad_toInt (zx := (x).toInt) (zy := 0) ez_532 rfl (by decide)
                                  refine lv_istore_n (lv' := [(3, .int z_532), (5, .int 0), (4, .int k), (0, .ref h0), (1, .int p0), (2, .int p1)]) hx hb dX9_source_190 rfl hl (by decide) rfl (fun ls hl => ?_)
                                  obtain ⟨x_533, ex_533⟩ : ∃ z : Int32, z = k + 1 := ⟨_, rfl⟩
                                  have tx_533 := ad_toInt (x := k) (y := 1) (z := x_533) (zx := (k).toInt) (zy := 1) ex_533 rfl (by decide)
                                  refine lv_iinc (v := x_533) (lv' := [(4, .int x_533), (3, .int z_532), (5, .int 0), (0, .ref h0), (1, .int p0), (2, .int p1)]) hx hb dX9_source_191 hl (k := 2) rfl (by rw [ex_533]; rfl) (by decide) rfl (fun ls hl => ?_)
                                  refine lv_goto (tgt := 27) hx hb dX9_source_194 (by decide) ?_
                                  exact ih _ _ _ (by first | omega | assumption) (by omega) (lv_sub hl [0, 1, 3, 4, 5] rfl)
                                · refine lv_iload hx hb dX9_source_176 (lv_at hl 0 rfl) ?_
                                  refine lv_if_ne (tgt := 185) hx hb dX9_source_178 (by decide) (fun c_ => absurd c_ (by decide)) (fun _ => ?_)
                                  refine lv_iconst (v := 1) hx hb dX9_source_181 (by decide) ?_
                                  refine lv_goto (tgt := 186) hx hb dX9_source_182 (by decide) ?_
                                  refine vp_callSi (zrS (As := [.int 1]) (rest := [.int x]) (wc := []) ⟨hx, hb, hml, hown, hts⟩ hN hK hP hD (m_one1 l D  ) (va_cwS 1 hts gX9_source_X9_one rfl rfl rfl (by decide +kernel) ⟨Nat.le_trans (m := 1) (Nat.le_of_ble_eq_true rfl) hR.1, Nat.le_trans (m := 20) (Nat.le_of_ble_eq_true rfl) hR.2⟩) [] [] rfl rfl (by decide) rfl hl.1 rfl (Nat.le_of_ble_eq_true rfl) dX9_source_186 ⟨hcs.1, hcs.2⟩) (fun r_534 h_535 => ?_)
                                  subst h_535
                                  refine lv_iadd hx hb dX9_source_189 ?_
                                  refine lv_topi (fun z_536 ez_536 => ?_)
                                  have tz_536 := ad_toInt (zx := (x).toInt) (zy := 1) ez_536 rfl (by decide)
                                  refine lv_istore_n (lv' := [(3, .int z_536), (5, .int 0), (4, .int k), (0, .ref h0), (1, .int p0), (2, .int p1)]) hx hb dX9_source_190 rfl hl (by decide) rfl (fun ls hl => ?_)
                                  obtain ⟨x_537, ex_537⟩ : ∃ z : Int32, z = k + 1 := ⟨_, rfl⟩
                                  have tx_537 := ad_toInt (x := k) (y := 1) (z := x_537) (zx := (k).toInt) (zy := 1) ex_537 rfl (by decide)
                                  refine lv_iinc (v := x_537) (lv' := [(4, .int x_537), (3, .int z_536), (5, .int 0), (0, .ref h0), (1, .int p0), (2, .int p1)]) hx hb dX9_source_191 hl (k := 2) rfl (by rw [ex_537]; rfl) (by decide) rfl (fun ls hl => ?_)
                                  refine lv_goto (tgt := 27) hx hb dX9_source_194 (by decide) ?_
                                  exact ih _ _ _ (by first | omega | assumption) (by omega) (lv_sub hl [0, 1, 3, 4, 5] rfl)
                · refine lv_aload_n hx hb dX9_source_102 rfl (lv_at hl 3 rfl) ?_
                  refine va_get (D := D) (ci := 9) (v := .ref b11) (C := RX9) (T := TX9) (N := 37) hx hb hts hin_X9 hown hK hP 0 rfl rfl 17 (by decide) (hts (.fieldLink RX9 47 "CryOrderModel" "isSilenced" "[Z") (List.mem_cons_of_mem _ (List.mem_append_left _ (List.mem_of_getElem? (i := 2) rfl)))) (fun _ h9 => h9) rfl dX9_source_103 ?_
                  refine lv_iload hx hb dX9_source_106 (lv_at hl 1 rfl) ?_
                  refine va_zald hx hb hK hP 2 1 rfl rfl (vp_in_iff.mpr (by omega)) dX9_source_108 ?_
                  refine lv_topi (fun z_538 ez_538 => ?_)
                  have qz_538 : (z_538).toInt = (z_4).toInt := by rw [ez_538, ez_4]
                  refine bz_ne (zx := (z_538).toInt) (tgt := 181) hx hb dX9_source_109 (by decide) rfl (fun c_539 => ?_) (fun c_539 => ?_)
                  · refine lv_iconst (v := 1) hx hb dX9_source_181 (by decide) ?_
                    refine lv_goto (tgt := 186) hx hb dX9_source_182 (by decide) ?_
                    refine vp_callSi (zrS (As := [.int 1]) (rest := [.int x]) (wc := []) ⟨hx, hb, hml, hown, hts⟩ hN hK hP hD (m_one1 l D  ) (va_cwS 1 hts gX9_source_X9_one rfl rfl rfl (by decide +kernel) ⟨Nat.le_trans (m := 1) (Nat.le_of_ble_eq_true rfl) hR.1, Nat.le_trans (m := 20) (Nat.le_of_ble_eq_true rfl) hR.2⟩) [] [] rfl rfl (by decide) rfl hl.1 rfl (Nat.le_of_ble_eq_true rfl) dX9_source_186 ⟨hcs.1, hcs.2⟩) (fun r_540 h_541 => ?_)
                    subst h_541
                    refine lv_iadd hx hb dX9_source_189 ?_
                    refine lv_topi (fun z_542 ez_542 => ?_)
                    have tz_542 := ad_toInt (zx := (x).toInt) (zy := 1) ez_542 rfl (by decide)
                    refine lv_istore_n (lv' := [(3, .int z_542), (5, .int 0), (4, .int k), (0, .ref h0), (1, .int p0), (2, .int p1)]) hx hb dX9_source_190 rfl hl (by decide) rfl (fun ls hl => ?_)
                    obtain ⟨x_543, ex_543⟩ : ∃ z : Int32, z = k + 1 := ⟨_, rfl⟩
                    have tx_543 := ad_toInt (x := k) (y := 1) (z := x_543) (zx := (k).toInt) (zy := 1) ex_543 rfl (by decide)
                    refine lv_iinc (v := x_543) (lv' := [(4, .int x_543), (3, .int z_542), (5, .int 0), (0, .ref h0), (1, .int p0), (2, .int p1)]) hx hb dX9_source_191 hl (k := 2) rfl (by rw [ex_543]; rfl) (by decide) rfl (fun ls hl => ?_)
                    refine lv_goto (tgt := 27) hx hb dX9_source_194 (by decide) ?_
                    exact ih _ _ _ (by first | omega | assumption) (by omega) (lv_sub hl [0, 1, 3, 4, 5] rfl)
                  · refine lv_iload_n hx hb dX9_source_112 rfl (lv_at hl 5 rfl) ?_
                    refine lv_iconst (v := 3) hx hb dX9_source_113 (by decide) ?_
                    refine bi_ne (zx := (p1).toInt) (zy := 3) (tgt := 127) hx hb dX9_source_114 (by decide) rfl (by decide) (fun c_544 => ?_) (fun c_544 => ?_)
                    · refine lv_iload_n hx hb dX9_source_127 rfl (lv_at hl 5 rfl) ?_
                      refine lv_iconst (v := 4) hx hb dX9_source_128 (by decide) ?_
                      refine bi_ne (zx := (p1).toInt) (zy := 4) (tgt := 143) hx hb dX9_source_129 (by decide) rfl (by decide) (fun c_545 => ?_) (fun c_545 => ?_)
                      · refine lv_iload_n hx hb dX9_source_143 rfl (lv_at hl 5 rfl) ?_
                        refine lv_iconst (v := 5) hx hb dX9_source_144 (by decide) ?_
                        refine bi_ne (zx := (p1).toInt) (zy := 5) (tgt := 159) hx hb dX9_source_145 (by decide) rfl (by decide) (fun c_546 => ?_) (fun c_546 => ?_)
                        · refine lv_iload_n hx hb dX9_source_159 rfl (lv_at hl 5 rfl) ?_
                          refine lv_bipush (v := 6) hx hb dX9_source_160 (by decide) ?_
                          refine bi_ne (zx := (p1).toInt) (zy := 6) (tgt := 185) hx hb dX9_source_162 (by decide) rfl (by decide) (fun c_547 => ?_) (fun c_547 => ?_)
                          · refine lv_iconst (v := 0) hx hb dX9_source_185 (by decide) ?_
                            refine vp_callSi (zrS (As := [.int 0]) (rest := [.int x]) (wc := []) ⟨hx, hb, hml, hown, hts⟩ hN hK hP hD (m_one0 l D  ) (va_cwS 1 hts gX9_source_X9_one rfl rfl rfl (by decide +kernel) ⟨Nat.le_trans (m := 1) (Nat.le_of_ble_eq_true rfl) hR.1, Nat.le_trans (m := 20) (Nat.le_of_ble_eq_true rfl) hR.2⟩) [] [] rfl rfl (by decide) rfl hl.1 rfl (Nat.le_of_ble_eq_true rfl) dX9_source_186 ⟨hcs.1, hcs.2⟩) (fun r_548 h_549 => ?_)
                            subst h_549
                            refine lv_iadd hx hb dX9_source_189 ?_
                            refine lv_topi (fun z_550 ez_550 => ?_)
                            have tz_550 := ad_toInt (zx := (x).toInt) (zy := 0) ez_550 rfl (by decide)
                            refine lv_istore_n (lv' := [(3, .int z_550), (5, .int 0), (4, .int k), (0, .ref h0), (1, .int p0), (2, .int p1)]) hx hb dX9_source_190 rfl hl (by decide) rfl (fun ls hl => ?_)
                            obtain ⟨x_551, ex_551⟩ : ∃ z : Int32, z = k + 1 := ⟨_, rfl⟩
                            have tx_551 := ad_toInt (x := k) (y := 1) (z := x_551) (zx := (k).toInt) (zy := 1) ex_551 rfl (by decide)
                            refine lv_iinc (v := x_551) (lv' := [(4, .int x_551), (3, .int z_550), (5, .int 0), (0, .ref h0), (1, .int p0), (2, .int p1)]) hx hb dX9_source_191 hl (k := 2) rfl (by rw [ex_551]; rfl) (by decide) rfl (fun ls hl => ?_)
                            refine lv_goto (tgt := 27) hx hb dX9_source_194 (by decide) ?_
                            exact ih _ _ _ (by first | omega | assumption) (by omega) (lv_sub hl [0, 1, 3, 4, 5] rfl)
                          · refine lv_aload_n hx hb dX9_source_165 rfl (lv_at hl 3 rfl) ?_
                            refine va_get (D := D) (ci := 9) (v := .ref b8) (C := RX9) (T := TX9) (N := 37) hx hb hts hin_X9 hown hK hP 0 rfl rfl 14 (by decide) (hts (.fieldLink RX9 38 "CryOrderModel" "state" "[I") (List.mem_cons_of_mem _ (List.mem_append_left _ (List.mem_of_getElem? (i := 5) rfl)))) (fun _ h9 => h9) rfl dX9_source_166 ?_
                            refine lv_iload hx hb dX9_source_169 (lv_at hl 1 rfl) ?_
                            refine va_iald hx hb hK hP 5 4 rfl rfl (vp_in_iff.mpr (by omega)) dX9_source_171 ?_
                            refine lv_topi (fun z_552 ez_552 => ?_)
                            refine lv_iconst (v := 1) hx hb dX9_source_172 (by decide) ?_
                            refine bi_ne (zx := (z_552).toInt) (zy := 1) (tgt := 185) hx hb dX9_source_173 (by decide) rfl (by decide) (fun c_553 => ?_) (fun c_553 => ?_)
                            · refine lv_iconst (v := 0) hx hb dX9_source_185 (by decide) ?_
                              refine vp_callSi (zrS (As := [.int 0]) (rest := [.int x]) (wc := []) ⟨hx, hb, hml, hown, hts⟩ hN hK hP hD (m_one0 l D  ) (va_cwS 1 hts gX9_source_X9_one rfl rfl rfl (by decide +kernel) ⟨Nat.le_trans (m := 1) (Nat.le_of_ble_eq_true rfl) hR.1, Nat.le_trans (m := 20) (Nat.le_of_ble_eq_true rfl) hR.2⟩) [] [] rfl rfl (by decide) rfl hl.1 rfl (Nat.le_of_ble_eq_true rfl) dX9_source_186 ⟨hcs.1, hcs.2⟩) (fun r_554 h_555 => ?_)
                              subst h_555
                              refine lv_iadd hx hb dX9_source_189 ?_
                              refine lv_topi (fun z_556 ez_556 => ?_)
                              have tz_556 := ad_toInt (zx := (x).toInt) (zy := 0) ez_556 rfl (by decide)
                              refine lv_istore_n (lv' := [(3, .int z_556), (5, .int 0), (4, .int k), (0, .ref h0), (1, .int p0), (2, .int p1)]) hx hb dX9_source_190 rfl hl (by decide) rfl (fun ls hl => ?_)
                              obtain ⟨x_557, ex_557⟩ : ∃ z : Int32, z = k + 1 := ⟨_, rfl⟩
                              have tx_557 := ad_toInt (x := k) (y := 1) (z := x_557) (zx := (k).toInt) (zy := 1) ex_557 rfl (by decide)
                              refine lv_iinc (v := x_557) (lv' := [(4, .int x_557), (3, .int z_556), (5, .int 0), (0, .ref h0), (1, .int p0), (2, .int p1)]) hx hb dX9_source_191 hl (k := 2) rfl (by rw [ex_557]; rfl) (by decide) rfl (fun ls hl => ?_)
                              refine lv_goto (tgt := 27) hx hb dX9_source_194 (by decide) ?_
                              exact ih _ _ _ (by first | omega | assumption) (by omega) (lv_sub hl [0, 1, 3, 4, 5] rfl)
                            · refine lv_iload hx hb dX9_source_176 (lv_at hl 0 rfl) ?_
                              refine lv_if_ne (tgt := 185) hx hb dX9_source_178 (by decide) (fun c_ => absurd c_ (by decide)) (fun _ => ?_)
                              refine lv_iconst (v := 1) hx hb dX9_source_181 (by decide) ?_
                              refine lv_goto (tgt := 186) hx hb dX9_source_182 (by decide) ?_
                              refine vp_callSi (zrS (As := [.int 1]) (rest := [.int x]) (wc := []) ⟨hx, hb, hml, hown, hts⟩ hN hK hP hD (m_one1 l D  ) (va_cwS 1 hts gX9_source_X9_one rfl rfl rfl (by decide +kernel) ⟨Nat.le_trans (m := 1) (Nat.le_of_ble_eq_true rfl) hR.1, Nat.le_trans (m := 20) (Nat.le_of_ble_eq_true rfl) hR.2⟩) [] [] rfl rfl (by decide) rfl hl.1 rfl (Nat.le_of_ble_eq_true rfl) dX9_source_186 ⟨hcs.1, hcs.2⟩) (fun r_558 h_559 => ?_)
                              subst h_559
                              refine lv_iadd hx hb dX9_source_189 ?_
                              refine lv_topi (fun z_560 ez_560 => ?_)
                              have tz_560 := ad_toInt (zx := (x).toInt) (zy := 1) ez_560 rfl (by decide)
                              refine lv_istore_n (lv' := [(3, .int z_560), (5, .int 0), (4, .int k), (0, .ref h0), (1, .int p0), (2, .int p1)]) hx hb dX9_source_190 rfl hl (by decide) rfl (fun ls hl => ?_)
                              obtain ⟨x_561, ex_561⟩ : ∃ z : Int32, z = k + 1 := ⟨_, rfl⟩
                              have tx_561 := ad_toInt (x := k) (y := 1) (z := x_561) (zx := (k).toInt) (zy := 1) ex_561 rfl (by decide)
                              refine lv_iinc (v := x_561) (lv' := [(4, .int x_561), (3, .int z_560), (5, .int 0), (0, .ref h0), (1, .int p0), (2, .int p1)]) hx hb dX9_source_191 hl (k := 2) rfl (by rw [ex_561]; rfl) (by decide) rfl (fun ls hl => ?_)
                              refine lv_goto (tgt := 27) hx hb dX9_source_194 (by decide) ?_
                              exact ih _ _ _ (by first | omega | assumption) (by omega) (lv_sub hl [0, 1, 3, 4, 5] rfl)
                        · refine lv_aload_n hx hb dX9_source_148 rfl (lv_at hl 3 rfl) ?_
                          refine va_get (D := D) (ci := 9) (v := .ref b8) (C := RX9) (T := TX9) (N := 37) hx hb hts hin_X9 hown hK hP 0 rfl rfl 14 (by decide) (hts (.fieldLink RX9 38 "CryOrderModel" "state" "[I") (List.mem_cons_of_mem _ (List.mem_append_left _ (List.mem_of_getElem? (i := 5) rfl)))) (fun _ h9 => h9) rfl dX9_source_149 ?_
                          refine lv_iload hx hb dX9_source_152 (lv_at hl 1 rfl) ?_
                          refine va_iald hx hb hK hP 5 4 rfl rfl (vp_in_iff.mpr (by omega)) dX9_source_154 ?_
                          refine lv_topi (fun z_562 ez_562 => ?_)
                          refine lv_iconst (v := 2) hx hb dX9_source_155 (by decide) ?_
                          refine bi_eq (zx := (z_562).toInt) (zy := 2) (tgt := 181) hx hb dX9_source_156 (by decide) rfl (by decide) (fun c_563 => ?_) (fun c_563 => ?_)
                          · refine lv_iconst (v := 1) hx hb dX9_source_181 (by decide) ?_
                            refine lv_goto (tgt := 186) hx hb dX9_source_182 (by decide) ?_
                            refine vp_callSi (zrS (As := [.int 1]) (rest := [.int x]) (wc := []) ⟨hx, hb, hml, hown, hts⟩ hN hK hP hD (m_one1 l D  ) (va_cwS 1 hts gX9_source_X9_one rfl rfl rfl (by decide +kernel) ⟨Nat.le_trans (m := 1) (Nat.le_of_ble_eq_true rfl) hR.1, Nat.le_trans (m := 20) (Nat.le_of_ble_eq_true rfl) hR.2⟩) [] [] rfl rfl (by decide) rfl hl.1 rfl (Nat.le_of_ble_eq_true rfl) dX9_source_186 ⟨hcs.1, hcs.2⟩) (fun r_564 h_565 => ?_)
                            subst h_565
                            refine lv_iadd hx hb dX9_source_189 ?_
                            refine lv_topi (fun z_566 ez_566 => ?_)
                            have tz_566 := ad_toInt (zx := (x).toInt) (zy := 1) ez_566 rfl (by decide)
                            refine lv_istore_n (lv' := [(3, .int z_566), (5, .int 0), (4, .int k), (0, .ref h0), (1, .int p0), (2, .int p1)]) hx hb dX9_source_190 rfl hl (by decide) rfl (fun ls hl => ?_)
                            obtain ⟨x_567, ex_567⟩ : ∃ z : Int32, z = k + 1 := ⟨_, rfl⟩
                            have tx_567 := ad_toInt (x := k) (y := 1) (z := x_567) (zx := (k).toInt) (zy := 1) ex_567 rfl (by decide)
                            refine lv_iinc (v := x_567) (lv' := [(4, .int x_567), (3, .int z_566), (5, .int 0), (0, .ref h0), (1, .int p0), (2, .int p1)]) hx hb dX9_source_191 hl (k := 2) rfl (by rw [ex_567]; rfl) (by decide) rfl (fun ls hl => ?_)
                            refine lv_goto (tgt := 27) hx hb dX9_source_194 (by decide) ?_
                            exact ih _ _ _ (by first | omega | assumption) (by omega) (lv_sub hl [0, 1, 3, 4, 5] rfl)
                          · refine lv_iload_n hx hb dX9_source_159 rfl (lv_at hl 5 rfl) ?_
                            refine lv_bipush (v := 6) hx hb dX9_source_160 (by decide) ?_
                            refine bi_ne (zx := (p1).toInt) (zy := 6) (tgt := 185) hx hb dX9_source_162 (by decide) rfl (by decide) (fun c_568 => ?_) (fun c_568 => ?_)
                            · refine lv_iconst (v := 0) hx hb dX9_source_185 (by decide) ?_
                              refine vp_callSi (zrS (As := [.int 0]) (rest := [.int x]) (wc := []) ⟨hx, hb, hml, hown, hts⟩ hN hK hP hD (m_one0 l D  ) (va_cwS 1 hts gX9_source_X9_one rfl rfl rfl (by decide +kernel) ⟨Nat.le_trans (m := 1) (Nat.le_of_ble_eq_true rfl) hR.1, Nat.le_trans (m := 20) (Nat.le_of_ble_eq_true rfl) hR.2⟩) [] [] rfl rfl (by decide) rfl hl.1 rfl (Nat.le_of_ble_eq_true rfl) dX9_source_186 ⟨hcs.1, hcs.2⟩) (fun r_569 h_570 => ?_)
                              subst h_570
                              refine lv_iadd hx hb dX9_source_189 ?_
                              refine lv_topi (fun z_571 ez_571 => ?_)
                              have tz_571 := ad_toInt (zx := (x).toInt) (zy := 0) ez_571 rfl (by decide)
                              refine lv_istore_n (lv' := [(3, .int z_571), (5, .int 0), (4, .int k), (0, .ref h0), (1, .int p0), (2, .int p1)]) hx hb dX9_source_190 rfl hl (by decide) rfl (fun ls hl => ?_)
                              obtain ⟨x_572, ex_572⟩ : ∃ z : Int32, z = k + 1 := ⟨_, rfl⟩
                              have tx_572 := ad_toInt (x := k) (y := 1) (z := x_572) (zx := (k).toInt) (zy := 1) ex_572 rfl (by decide)
                              refine lv_iinc (v := x_572) (lv' := [(4, .int x_572), (3, .int z_571), (5, .int 0), (0, .ref h0), (1, .int p0), (2, .int p1)]) hx hb dX9_source_191 hl (k := 2) rfl (by rw [ex_572]; rfl) (by decide) rfl (fun ls hl => ?_)
                              refine lv_goto (tgt := 27) hx hb dX9_source_194 (by decide) ?_
                              exact ih _ _ _ (by first | omega | assumption) (by omega) (lv_sub hl [0, 1, 3, 4, 5] rfl)
                            · refine lv_aload_n hx hb dX9_source_165 rfl (lv_at hl 3 rfl) ?_
                              refine va_get (D := D) (ci := 9) (v := .ref b8) (C := RX9) (T := TX9) (N := 37) hx hb hts hin_X9 hown hK hP 0 rfl rfl 14 (by decide) (hts (.fieldLink RX9 38 "CryOrderModel" "state" "[I") (List.mem_cons_of_mem _ (List.mem_append_left _ (List.mem_of_getElem? (i := 5) rfl)))) (fun _ h9 => h9) rfl dX9_source_166 ?_
                              refine lv_iload hx hb dX9_source_169 (lv_at hl 1 rfl) ?_
                              refine va_iald hx hb hK hP 5 4 rfl rfl (vp_in_iff.mpr (by omega)) dX9_source_171 ?_
                              refine lv_topi (fun z_573 ez_573 => ?_)
                              have qz_573 : (z_573).toInt = (z_562).toInt := by rw [ez_573, ez_562]
                              refine lv_iconst (v := 1) hx hb dX9_source_172 (by decide) ?_
                              refine bi_ne (zx := (z_573).toInt) (zy := 1) (tgt := 185) hx hb dX9_source_173 (by decide) rfl (by decide) (fun c_574 => ?_) (fun c_574 => ?_)
                              · refine lv_iconst (v := 0) hx hb dX9_source_185 (by decide) ?_
                                refine vp_callSi (zrS (As := [.int 0]) (rest := [.int x]) (wc := []) ⟨hx, hb, hml, hown, hts⟩ hN hK hP hD (m_one0 l D  ) (va_cwS 1 hts gX9_source_X9_one rfl rfl rfl (by decide +kernel) ⟨Nat.le_trans (m := 1) (Nat.le_of_ble_eq_true rfl) hR.1, Nat.le_trans (m := 20) (Nat.le_of_ble_eq_true rfl) hR.2⟩) [] [] rfl rfl (by decide) rfl hl.1 rfl (Nat.le_of_ble_eq_true rfl) dX9_source_186 ⟨hcs.1, hcs.2⟩) (fun r_575 h_576 => ?_)
                                subst h_576
                                refine lv_iadd hx hb dX9_source_189 ?_
                                refine lv_topi (fun z_577 ez_577 => ?_)
                                have tz_577 := ad_toInt (zx := (x).toInt) (zy := 0) ez_577 rfl (by decide)
                                refine lv_istore_n (lv' := [(3, .int z_577), (5, .int 0), (4, .int k), (0, .ref h0), (1, .int p0), (2, .int p1)]) hx hb dX9_source_190 rfl hl (by decide) rfl (fun ls hl => ?_)
                                obtain ⟨x_578, ex_578⟩ : ∃ z : Int32, z = k + 1 := ⟨_, rfl⟩
                                have tx_578 := ad_toInt (x := k) (y := 1) (z := x_578) (zx := (k).toInt) (zy := 1) ex_578 rfl (by decide)
                                refine lv_iinc (v := x_578) (lv' := [(4, .int x_578), (3, .int z_577), (5, .int 0), (0, .ref h0), (1, .int p0), (2, .int p1)]) hx hb dX9_source_191 hl (k := 2) rfl (by rw [ex_578]; rfl) (by decide) rfl (fun ls hl => ?_)
                                refine lv_goto (tgt := 27) hx hb dX9_source_194 (by decide) ?_
                                exact ih _ _ _ (by first | omega | assumption) (by omega) (lv_sub hl [0, 1, 3, 4, 5] rfl)
                              · refine lv_iload hx hb dX9_source_176 (lv_at hl 0 rfl) ?_
                                refine lv_if_ne (tgt := 185) hx hb dX9_source_178 (by decide) (fun c_ => absurd c_ (by decide)) (fun _ => ?_)
                                refine lv_iconst (v := 1) hx hb dX9_source_181 (by decide) ?_
                                refine lv_goto (tgt := 186) hx hb dX9_source_182 (by decide) ?_
                                refine vp_callSi (zrS (As := [.int 1]) (rest := [.int x]) (wc := []) ⟨hx, hb, hml, hown, hts⟩ hN hK hP hD (m_one1 l D  ) (va_cwS 1 hts gX9_source_X9_one rfl rfl rfl (by decide +kernel) ⟨Nat.le_trans (m := 1) (Nat.le_of_ble_eq_true rfl) hR.1, Nat.le_trans (m := 20) (Nat.le_of_ble_eq_true rfl) hR.2⟩) [] [] rfl rfl (by decide) rfl hl.1 rfl (Nat.le_of_ble_eq_true rfl) dX9_source_186 ⟨hcs.1, hcs.2⟩) (fun r_579 h_580 => ?_)
                                subst h_580
                                refine lv_iadd hx hb dX9_source_189 ?_
                                refine lv_topi (fun z_581 ez_581 => ?_)
                                have tz_581 := ad_toInt (zx := (x).toInt) (zy := 1) ez_581 rfl (by decide)
                                refine lv_istore_n (lv' := [(3, .int z_581), (5, .int 0), (4, .int k), (0, .ref h0), (1, .int p0), (2, .int p1)]) hx hb dX9_source_190 rfl hl (by decide) rfl (fun ls hl => ?_)
                                obtain ⟨x_582, ex_582⟩ : ∃ z : Int32, z = k + 1 := ⟨_, rfl⟩
                                have tx_582 := ad_toInt (x := k) (y := 1) (z := x_582) (zx := (k).toInt) (zy := 1) ex_582 rfl (by decide)
                                refine lv_iinc (v := x_582) (lv' := [(4, .int x_582), (3, .int z_581), (5, .int 0), (0, .ref h0), (1, .int p0), (2, .int p1)]) hx hb dX9_source_191 hl (k := 2) rfl (by rw [ex_582]; rfl) (by decide) rfl (fun ls hl => ?_)
                                refine lv_goto (tgt := 27) hx hb dX9_source_194 (by decide) ?_
                                exact ih _ _ _ (by first | omega | assumption) (by omega) (lv_sub hl [0, 1, 3, 4, 5] rfl)
                      · refine lv_aload_n hx hb dX9_source_132 rfl (lv_at hl 3 rfl) ?_
                        refine va_get (D := D) (ci := 9) (v := .ref b8) (C := RX9) (T := TX9) (N := 37) hx hb hts hin_X9 hown hK hP 0 rfl rfl 14 (by decide) (hts (.fieldLink RX9 38 "CryOrderModel" "state" "[I") (List.mem_cons_of_mem _ (List.mem_append_left _ (List.mem_of_getElem? (i := 5) rfl)))) (fun _ h9 => h9) rfl dX9_source_133 ?_
                        refine lv_iload hx hb dX9_source_136 (lv_at hl 1 rfl) ?_
                        refine va_iald hx hb hK hP 5 4 rfl rfl (vp_in_iff.mpr (by omega)) dX9_source_138 ?_
                        refine lv_topi (fun z_583 ez_583 => ?_)
                        refine lv_iconst (v := 1) hx hb dX9_source_139 (by decide) ?_
                        refine bi_eq (zx := (z_583).toInt) (zy := 1) (tgt := 181) hx hb dX9_source_140 (by decide) rfl (by decide) (fun c_584 => ?_) (fun c_584 => ?_)
                        · refine lv_iconst (v := 1) hx hb dX9_source_181 (by decide) ?_
                          refine lv_goto (tgt := 186) hx hb dX9_source_182 (by decide) ?_
                          refine vp_callSi (zrS (As := [.int 1]) (rest := [.int x]) (wc := []) ⟨hx, hb, hml, hown, hts⟩ hN hK hP hD (m_one1 l D  ) (va_cwS 1 hts gX9_source_X9_one rfl rfl rfl (by decide +kernel) ⟨Nat.le_trans (m := 1) (Nat.le_of_ble_eq_true rfl) hR.1, Nat.le_trans (m := 20) (Nat.le_of_ble_eq_true rfl) hR.2⟩) [] [] rfl rfl (by decide) rfl hl.1 rfl (Nat.le_of_ble_eq_true rfl) dX9_source_186 ⟨hcs.1, hcs.2⟩) (fun r_585 h_586 => ?_)
                          subst h_586
                          refine lv_iadd hx hb dX9_source_189 ?_
                          refine lv_topi (fun z_587 ez_587 => ?_)
                          have tz_587 := ad_toInt (zx := (x).toInt) (zy := 1) ez_587 rfl (by decide)
                          refine lv_istore_n (lv' := [(3, .int z_587), (5, .int 0), (4, .int k), (0, .ref h0), (1, .int p0), (2, .int p1)]) hx hb dX9_source_190 rfl hl (by decide) rfl (fun ls hl => ?_)
                          obtain ⟨x_588, ex_588⟩ : ∃ z : Int32, z = k + 1 := ⟨_, rfl⟩
                          have tx_588 := ad_toInt (x := k) (y := 1) (z := x_588) (zx := (k).toInt) (zy := 1) ex_588 rfl (by decide)
                          refine lv_iinc (v := x_588) (lv' := [(4, .int x_588), (3, .int z_587), (5, .int 0), (0, .ref h0), (1, .int p0), (2, .int p1)]) hx hb dX9_source_191 hl (k := 2) rfl (by rw [ex_588]; rfl) (by decide) rfl (fun ls hl => ?_)
                          refine lv_goto (tgt := 27) hx hb dX9_source_194 (by decide) ?_
                          exact ih _ _ _ (by first | omega | assumption) (by omega) (lv_sub hl [0, 1, 3, 4, 5] rfl)
                        · refine lv_iload_n hx hb dX9_source_143 rfl (lv_at hl 5 rfl) ?_
                          refine lv_iconst (v := 5) hx hb dX9_source_144 (by decide) ?_
                          refine bi_ne (zx := (p1).toInt) (zy := 5) (tgt := 159) hx hb dX9_source_145 (by decide) rfl (by decide) (fun c_589 => ?_) (fun c_589 => ?_)
                          · refine lv_iload_n hx hb dX9_source_159 rfl (lv_at hl 5 rfl) ?_
                            refine lv_bipush (v := 6) hx hb dX9_source_160 (by decide) ?_
                            refine bi_ne (zx := (p1).toInt) (zy := 6) (tgt := 185) hx hb dX9_source_162 (by decide) rfl (by decide) (fun c_590 => ?_) (fun c_590 => ?_)
                            · refine lv_iconst (v := 0) hx hb dX9_source_185 (by decide) ?_
                              refine vp_callSi (zrS (As := [.int 0]) (rest := [.int x]) (wc := []) ⟨hx, hb, hml, hown, hts⟩ hN hK hP hD (m_one0 l D  ) (va_cwS 1 hts gX9_source_X9_one rfl rfl rfl (by decide +kernel) ⟨Nat.le_trans (m := 1) (Nat.le_of_ble_eq_true rfl) hR.1, Nat.le_trans (m := 20) (Nat.le_of_ble_eq_true rfl) hR.2⟩) [] [] rfl rfl (by decide) rfl hl.1 rfl (Nat.le_of_ble_eq_true rfl) dX9_source_186 ⟨hcs.1, hcs.2⟩) (fun r_591 h_592 => ?_)
                              subst h_592
                              refine lv_iadd hx hb dX9_source_189 ?_
                              refine lv_topi (fun z_593 ez_593 => ?_)
                              have tz_593 := ad_toInt (zx := (x).toInt) (zy := 0) ez_593 rfl (by decide)
                              refine lv_istore_n (lv' := [(3, .int z_593), (5, .int 0), (4, .int k), (0, .ref h0), (1, .int p0), (2, .int p1)]) hx hb dX9_source_190 rfl hl (by decide) rfl (fun ls hl => ?_)
                              obtain ⟨x_594, ex_594⟩ : ∃ z : Int32, z = k + 1 := ⟨_, rfl⟩
                              have tx_594 := ad_toInt (x := k) (y := 1) (z := x_594) (zx := (k).toInt) (zy := 1) ex_594 rfl (by decide)
                              refine lv_iinc (v := x_594) (lv' := [(4, .int x_594), (3, .int z_593), (5, .int 0), (0, .ref h0), (1, .int p0), (2, .int p1)]) hx hb dX9_source_191 hl (k := 2) rfl (by rw [ex_594]; rfl) (by decide) rfl (fun ls hl => ?_)
                              refine lv_goto (tgt := 27) hx hb dX9_source_194 (by decide) ?_
                              exact ih _ _ _ (by first | omega | assumption) (by omega) (lv_sub hl [0, 1, 3, 4, 5] rfl)
                            · refine lv_aload_n hx hb dX9_source_165 rfl (lv_at hl 3 rfl) ?_
                              refine va_get (D := D) (ci := 9) (v := .ref b8) (C := RX9) (T := TX9) (N := 37) hx hb hts hin_X9 hown hK hP 0 rfl rfl 14 (by decide) (hts (.fieldLink RX9 38 "CryOrderModel" "state" "[I") (List.mem_cons_of_mem _ (List.mem_append_left _ (List.mem_of_getElem? (i := 5) rfl)))) (fun _ h9 => h9) rfl dX9_source_166 ?_
                              refine lv_iload hx hb dX9_source_169 (lv_at hl 1 rfl) ?_
                              refine va_iald hx hb hK hP 5 4 rfl rfl (vp_in_iff.mpr (by omega)) dX9_source_171 ?_
                              refine lv_topi (fun z_595 ez_595 => ?_)
                              have qz_595 : (z_595).toInt = (z_583).toInt := by rw [ez_595, ez_583]
                              refine lv_iconst (v := 1) hx hb dX9_source_172 (by decide) ?_
                              refine bi_ne (zx := (z_595).toInt) (zy := 1) (tgt := 185) hx hb dX9_source_173 (by decide) rfl (by decide) (fun c_596 => ?_) (fun c_596 => ?_)
                              · refine lv_iconst (v := 0) hx hb dX9_source_185 (by decide) ?_
                                refine vp_callSi (zrS (As := [.int 0]) (rest := [.int x]) (wc := []) ⟨hx, hb, hml, hown, hts⟩ hN hK hP hD (m_one0 l D  ) (va_cwS 1 hts gX9_source_X9_one rfl rfl rfl (by decide +kernel) ⟨Nat.le_trans (m := 1) (Nat.le_of_ble_eq_true rfl) hR.1, Nat.le_trans (m := 20) (Nat.le_of_ble_eq_true rfl) hR.2⟩) [] [] rfl rfl (by decide) rfl hl.1 rfl (Nat.le_of_ble_eq_true rfl) dX9_source_186 ⟨hcs.1, hcs.2⟩) (fun r_597 h_598 => ?_)
                                subst h_598
                                refine lv_iadd hx hb dX9_source_189 ?_
                                refine lv_topi (fun z_599 ez_599 => ?_)
                                have tz_599 := ad_toInt (zx := (x).toInt) (zy := 0) ez_599 rfl (by decide)
                                refine lv_istore_n (lv' := [(3, .int z_599), (5, .int 0), (4, .int k), (0, .ref h0), (1, .int p0), (2, .int p1)]) hx hb dX9_source_190 rfl hl (by decide) rfl (fun ls hl => ?_)
                                obtain ⟨x_600, ex_600⟩ : ∃ z : Int32, z = k + 1 := ⟨_, rfl⟩
                                have tx_600 := ad_toInt (x := k) (y := 1) (z := x_600) (zx := (k).toInt) (zy := 1) ex_600 rfl (by decide)
                                refine lv_iinc (v := x_600) (lv' := [(4, .int x_600), (3, .int z_599), (5, .int 0), (0, .ref h0), (1, .int p0), (2, .int p1)]) hx hb dX9_source_191 hl (k := 2) rfl (by rw [ex_600]; rfl) (by decide) rfl (fun ls hl => ?_)
                                refine lv_goto (tgt := 27) hx hb dX9_source_194 (by decide) ?_
                                exact ih _ _ _ (by first | omega | assumption) (by omega) (lv_sub hl [0, 1, 3, 4, 5] rfl)
                              · refine lv_iload hx hb dX9_source_176 (lv_at hl 0 rfl) ?_
                                refine lv_if_ne (tgt := 185) hx hb dX9_source_178 (by decide) (fun c_ => absurd c_ (by decide)) (fun _ => ?_)
                                refine lv_iconst (v := 1) hx hb dX9_source_181 (by decide) ?_
                                refine lv_goto (tgt := 186) hx hb dX9_source_182 (by decide) ?_
                                refine vp_callSi (zrS (As := [.int 1]) (rest := [.int x]) (wc := []) ⟨hx, hb, hml, hown, hts⟩ hN hK hP hD (m_one1 l D  ) (va_cwS 1 hts gX9_source_X9_one rfl rfl rfl (by decide +kernel) ⟨Nat.le_trans (m := 1) (Nat.le_of_ble_eq_true rfl) hR.1, Nat.le_trans (m := 20) (Nat.le_of_ble_eq_true rfl) hR.2⟩) [] [] rfl rfl (by decide) rfl hl.1 rfl (Nat.le_of_ble_eq_true rfl) dX9_source_186 ⟨hcs.1, hcs.2⟩) (fun r_601 h_602 => ?_)
                                subst h_602
                                refine lv_iadd hx hb dX9_source_189 ?_
                                refine lv_topi (fun z_603 ez_603 => ?_)
                                have tz_603 := ad_toInt (zx := (x).toInt) (zy := 1) ez_603 rfl (by decide)
                                refine lv_istore_n (lv' := [(3, .int z_603), (5, .int 0), (4, .int k), (0, .ref h0), (1, .int p0), (2, .int p1)]) hx hb dX9_source_190 rfl hl (by decide) rfl (fun ls hl => ?_)
                                obtain ⟨x_604, ex_604⟩ : ∃ z : Int32, z = k + 1 := ⟨_, rfl⟩
                                have tx_604 := ad_toInt (x := k) (y := 1) (z := x_604) (zx := (k).toInt) (zy := 1) ex_604 rfl (by decide)
                                refine lv_iinc (v := x_604) (lv' := [(4, .int x_604), (3, .int z_603), (5, .int 0), (0, .ref h0), (1, .int p0), (2, .int p1)]) hx hb dX9_source_191 hl (k := 2) rfl (by rw [ex_604]; rfl) (by decide) rfl (fun ls hl => ?_)
                                refine lv_goto (tgt := 27) hx hb dX9_source_194 (by decide) ?_
                                exact ih _ _ _ (by first | omega | assumption) (by omega) (lv_sub hl [0, 1, 3, 4, 5] rfl)
                          · refine lv_aload_n hx hb dX9_source_148 rfl (lv_at hl 3 rfl) ?_
                            refine va_get (D := D) (ci := 9) (v := .ref b8) (C := RX9) (T := TX9) (N := 37) hx hb hts hin_X9 hown hK hP 0 rfl rfl 14 (by decide) (hts (.fieldLink RX9 38 "CryOrderModel" "state" "[I") (List.mem_cons_of_mem _ (List.mem_append_left _ (List.mem_of_getElem? (i := 5) rfl)))) (fun _ h9 => h9) rfl dX9_source_149 ?_
                            refine lv_iload hx hb dX9_source_152 (lv_at hl 1 rfl) ?_
                            refine va_iald hx hb hK hP 5 4 rfl rfl (vp_in_iff.mpr (by omega)) dX9_source_154 ?_
                            refine lv_topi (fun z_605 ez_605 => ?_)
                            have qz_605 : (z_605).toInt = (z_583).toInt := by rw [ez_605, ez_583]
                            refine lv_iconst (v := 2) hx hb dX9_source_155 (by decide) ?_
                            refine bi_eq (zx := (z_605).toInt) (zy := 2) (tgt := 181) hx hb dX9_source_156 (by decide) rfl (by decide) (fun c_606 => ?_) (fun c_606 => ?_)
                            · refine lv_iconst (v := 1) hx hb dX9_source_181 (by decide) ?_
                              refine lv_goto (tgt := 186) hx hb dX9_source_182 (by decide) ?_
                              refine vp_callSi (zrS (As := [.int 1]) (rest := [.int x]) (wc := []) ⟨hx, hb, hml, hown, hts⟩ hN hK hP hD (m_one1 l D  ) (va_cwS 1 hts gX9_source_X9_one rfl rfl rfl (by decide +kernel) ⟨Nat.le_trans (m := 1) (Nat.le_of_ble_eq_true rfl) hR.1, Nat.le_trans (m := 20) (Nat.le_of_ble_eq_true rfl) hR.2⟩) [] [] rfl rfl (by decide) rfl hl.1 rfl (Nat.le_of_ble_eq_true rfl) dX9_source_186 ⟨hcs.1, hcs.2⟩) (fun r_607 h_608 => ?_)
                              subst h_608
                              refine lv_iadd hx hb dX9_source_189 ?_
                              refine lv_topi (fun z_609 ez_609 => ?_)
                              have tz_609 := ad_toInt (zx := (x).toInt) (zy := 1) ez_609 rfl (by decide)
                              refine lv_istore_n (lv' := [(3, .int z_609), (5, .int 0), (4, .int k), (0, .ref h0), (1, .int p0), (2, .int p1)]) hx hb dX9_source_190 rfl hl (by decide) rfl (fun ls hl => ?_)
                              obtain ⟨x_610, ex_610⟩ : ∃ z : Int32, z = k + 1 := ⟨_, rfl⟩
                              have tx_610 := ad_toInt (x := k) (y := 1) (z := x_610) (zx := (k).toInt) (zy := 1) ex_610 rfl (by decide)
                              refine lv_iinc (v := x_610) (lv' := [(4, .int x_610), (3, .int z_609), (5, .int 0), (0, .ref h0), (1, .int p0), (2, .int p1)]) hx hb dX9_source_191 hl (k := 2) rfl (by rw [ex_610]; rfl) (by decide) rfl (fun ls hl => ?_)
                              refine lv_goto (tgt := 27) hx hb dX9_source_194 (by decide) ?_
                              exact ih _ _ _ (by first | omega | assumption) (by omega) (lv_sub hl [0, 1, 3, 4, 5] rfl)
                            · refine lv_iload_n hx hb dX9_source_159 rfl (lv_at hl 5 rfl) ?_
                              refine lv_bipush (v := 6) hx hb dX9_source_160 (by decide) ?_
                              refine bi_ne (zx := (p1).toInt) (zy := 6) (tgt := 185) hx hb dX9_source_162 (by decide) rfl (by decide) (fun c_611 => ?_) (fun c_611 => ?_)
                              · refine lv_iconst (v := 0) hx hb dX9_source_185 (by decide) ?_
                                refine vp_callSi (zrS (As := [.int 0]) (rest := [.int x]) (wc := []) ⟨hx, hb, hml, hown, hts⟩ hN hK hP hD (m_one0 l D  ) (va_cwS 1 hts gX9_source_X9_one rfl rfl rfl (by decide +kernel) ⟨Nat.le_trans (m := 1) (Nat.le_of_ble_eq_true rfl) hR.1, Nat.le_trans (m := 20) (Nat.le_of_ble_eq_true rfl) hR.2⟩) [] [] rfl rfl (by decide) rfl hl.1 rfl (Nat.le_of_ble_eq_true rfl) dX9_source_186 ⟨hcs.1, hcs.2⟩) (fun r_612 h_613 => ?_)
                                subst h_613
                                refine lv_iadd hx hb dX9_source_189 ?_
                                refine lv_topi (fun z_614 ez_614 => ?_)
                                have tz_614 := ad_toInt (zx := (x).toInt) (zy := 0) ez_614 rfl (by decide)
                                refine lv_istore_n (lv' := [(3, .int z_614), (5, .int 0), (4, .int k), (0, .ref h0), (1, .int p0), (2, .int p1)]) hx hb dX9_source_190 rfl hl (by decide) rfl (fun ls hl => ?_)
                                obtain ⟨x_615, ex_615⟩ : ∃ z : Int32, z = k + 1 := ⟨_, rfl⟩
                                have tx_615 := ad_toInt (x := k) (y := 1) (z := x_615) (zx := (k).toInt) (zy := 1) ex_615 rfl (by decide)
                                refine lv_iinc (v := x_615) (lv' := [(4, .int x_615), (3, .int z_614), (5, .int 0), (0, .ref h0), (1, .int p0), (2, .int p1)]) hx hb dX9_source_191 hl (k := 2) rfl (by rw [ex_615]; rfl) (by decide) rfl (fun ls hl => ?_)
                                refine lv_goto (tgt := 27) hx hb dX9_source_194 (by decide) ?_
                                exact ih _ _ _ (by first | omega | assumption) (by omega) (lv_sub hl [0, 1, 3, 4, 5] rfl)
                              · refine lv_aload_n hx hb dX9_source_165 rfl (lv_at hl 3 rfl) ?_
                                refine va_get (D := D) (ci := 9) (v := .ref b8) (C := RX9) (T := TX9) (N := 37) hx hb hts hin_X9 hown hK hP 0 rfl rfl 14 (by decide) (hts (.fieldLink RX9 38 "CryOrderModel" "state" "[I") (List.mem_cons_of_mem _ (List.mem_append_left _ (List.mem_of_getElem? (i := 5) rfl)))) (fun _ h9 => h9) rfl dX9_source_166 ?_
                                refine lv_iload hx hb dX9_source_169 (lv_at hl 1 rfl) ?_
                                refine va_iald hx hb hK hP 5 4 rfl rfl (vp_in_iff.mpr (by omega)) dX9_source_171 ?_
                                refine lv_topi (fun z_616 ez_616 => ?_)
                                have qz_616 : (z_616).toInt = (z_583).toInt := by rw [ez_616, ez_583]
                                refine lv_iconst (v := 1) hx hb dX9_source_172 (by decide) ?_
                                refine bi_ne (zx := (z_616).toInt) (zy := 1) (tgt := 185) hx hb dX9_source_173 (by decide) rfl (by decide) (fun c_617 => ?_) (fun c_617 => ?_)
                                · refine lv_iconst (v := 0) hx hb dX9_source_185 (by decide) ?_
                                  refine vp_callSi (zrS (As := [.int 0]) (rest := [.int x]) (wc := []) ⟨hx, hb, hml, hown, hts⟩ hN hK hP hD (m_one0 l D  ) (va_cwS 1 hts gX9_source_X9_one rfl rfl rfl (by decide +kernel) ⟨Nat.le_trans (m := 1) (Nat.le_of_ble_eq_true rfl) hR.1, Nat.le_trans (m := 20) (Nat.le_of_ble_eq_true rfl) hR.2⟩) [] [] rfl rfl (by decide) rfl hl.1 rfl (Nat.le_of_ble_eq_true rfl) dX9_source_186 ⟨hcs.1, hcs.2⟩) (fun r_618 h_619 => ?_)
                                  subst h_619
                                  refine lv_iadd hx hb dX9_source_189 ?_
                                  refine lv_topi (fun z_620 ez_620 => ?_)
                                  have tz_620 := ad_toInt (zx := (x).toInt) (zy := 0) ez_620 rfl (by decide)
                                  refine lv_istore_n (lv' := [(3, .int z_620), (5, .int 0), (4, .int k), (0, .ref h0), (1, .int p0), (2, .int p1)]) hx hb dX9_source_190 rfl hl (by decide) rfl (fun ls hl => ?_)
                                  obtain ⟨x_621, ex_621⟩ : ∃ z : Int32, z = k + 1 := ⟨_, rfl⟩
                                  have tx_621 := ad_toInt (x := k) (y := 1) (z := x_621) (zx := (k).toInt) (zy := 1) ex_621 rfl (by decide)
                                  refine lv_iinc (v := x_621) (lv' := [(4, .int x_621), (3, .int z_620), (5, .int 0), (0, .ref h0), (1, .int p0), (2, .int p1)]) hx hb dX9_source_191 hl (k := 2) rfl (by rw [ex_621]; rfl) (by decide) rfl (fun ls hl => ?_)
                                  refine lv_goto (tgt := 27) hx hb dX9_source_194 (by decide) ?_
                                  exact ih _ _ _ (by first | omega | assumption) (by omega) (lv_sub hl [0, 1, 3, 4, 5] rfl)
                                · refine lv_iload hx hb dX9_source_176 (lv_at hl 0 rfl) ?_
                                  refine lv_if_ne (tgt := 185) hx hb dX9_source_178 (by decide) (fun c_ => absurd c_ (by decide)) (fun _ => ?_)
                                  refine lv_iconst (v := 1) hx hb dX9_source_181 (by decide) ?_
                                  refine lv_goto (tgt := 186) hx hb dX9_source_182 (by decide) ?_
                                  refine vp_callSi (zrS (As := [.int 1]) (rest := [.int x]) (wc := []) ⟨hx, hb, hml, hown, hts⟩ hN hK hP hD (m_one1 l D  ) (va_cwS 1 hts gX9_source_X9_one rfl rfl rfl (by decide +kernel) ⟨Nat.le_trans (m := 1) (Nat.le_of_ble_eq_true rfl) hR.1, Nat.le_trans (m := 20) (Nat.le_of_ble_eq_true rfl) hR.2⟩) [] [] rfl rfl (by decide) rfl hl.1 rfl (Nat.le_of_ble_eq_true rfl) dX9_source_186 ⟨hcs.1, hcs.2⟩) (fun r_622 h_623 => ?_)
                                  subst h_623
                                  refine lv_iadd hx hb dX9_source_189 ?_
                                  refine lv_topi (fun z_624 ez_624 => ?_)
                                  have tz_624 := ad_toInt (zx := (x).toInt) (zy := 1) ez_624 rfl (by decide)
                                  refine lv_istore_n (lv' := [(3, .int z_624), (5, .int 0), (4, .int k), (0, .ref h0), (1, .int p0), (2, .int p1)]) hx hb dX9_source_190 rfl hl (by decide) rfl (fun ls hl => ?_)
                                  obtain ⟨x_625, ex_625⟩ : ∃ z : Int32, z = k + 1 := ⟨_, rfl⟩
                                  have tx_625 := ad_toInt (x := k) (y := 1) (z := x_625) (zx := (k).toInt) (zy := 1) ex_625 rfl (by decide)
                                  refine lv_iinc (v := x_625) (lv' := [(4, .int x_625), (3, .int z_624), (5, .int 0), (0, .ref h0), (1, .int p0), (2, .int p1)]) hx hb dX9_source_191 hl (k := 2) rfl (by rw [ex_625]; rfl) (by decide) rfl (fun ls hl => ?_)
                                  refine lv_goto (tgt := 27) hx hb dX9_source_194 (by decide) ?_
                                  exact ih _ _ _ (by first | omega | assumption) (by omega) (lv_sub hl [0, 1, 3, 4, 5] rfl)
                    · refine lv_aload_n hx hb dX9_source_117 rfl (lv_at hl 3 rfl) ?_
                      refine va_get (D := D) (ci := 9) (v := .ref b12) (C := RX9) (T := TX9) (N := 37) hx hb hts hin_X9 hown hK hP 0 rfl rfl 18 (by decide) (hts (.fieldLink RX9 51 "CryOrderModel" "isCapped" "[Z") (List.mem_cons_of_mem _ (List.mem_append_left _ (List.mem_of_getElem? (i := 3) rfl)))) (fun _ h9 => h9) rfl dX9_source_118 ?_
                      refine lv_iload hx hb dX9_source_121 (lv_at hl 1 rfl) ?_
                      refine va_zald hx hb hK hP 3 2 rfl rfl (vp_in_iff.mpr (by omega)) dX9_source_123 ?_
                      refine lv_topi (fun z_626 ez_626 => ?_)
                      have qz_626 : (z_626).toInt = (z_360).toInt := by rw [ez_626, ez_360]
                      refine bz_ne (zx := (z_626).toInt) (tgt := 181) hx hb dX9_source_124 (by decide) rfl (fun c_627 => ?_) (fun c_627 => ?_)
                      · refine lv_iconst (v := 1) hx hb dX9_source_181 (by decide) ?_
                        refine lv_goto (tgt := 186) hx hb dX9_source_182 (by decide) ?_
                        refine vp_callSi (zrS (As := [.int 1]) (rest := [.int x]) (wc := []) ⟨hx, hb, hml, hown, hts⟩ hN hK hP hD (m_one1 l D  ) (va_cwS 1 hts gX9_source_X9_one rfl rfl rfl (by decide +kernel) ⟨Nat.le_trans (m := 1) (Nat.le_of_ble_eq_true rfl) hR.1, Nat.le_trans (m := 20) (Nat.le_of_ble_eq_true rfl) hR.2⟩) [] [] rfl rfl (by decide) rfl hl.1 rfl (Nat.le_of_ble_eq_true rfl) dX9_source_186 ⟨hcs.1, hcs.2⟩) (fun r_628 h_629 => ?_)
                        subst h_629
                        refine lv_iadd hx hb dX9_source_189 ?_
                        refine lv_topi (fun z_630 ez_630 => ?_)
                        have tz_630 := ad_toInt (zx := (x).toInt) (zy := 1) ez_630 rfl (by decide)
                        refine lv_istore_n (lv' := [(3, .int z_630), (5, .int 0), (4, .int k), (0, .ref h0), (1, .int p0), (2, .int p1)]) hx hb dX9_source_190 rfl hl (by decide) rfl (fun ls hl => ?_)
                        obtain ⟨x_631, ex_631⟩ : ∃ z : Int32, z = k + 1 := ⟨_, rfl⟩
                        have tx_631 := ad_toInt (x := k) (y := 1) (z := x_631) (zx := (k).toInt) (zy := 1) ex_631 rfl (by decide)
                        refine lv_iinc (v := x_631) (lv' := [(4, .int x_631), (3, .int z_630), (5, .int 0), (0, .ref h0), (1, .int p0), (2, .int p1)]) hx hb dX9_source_191 hl (k := 2) rfl (by rw [ex_631]; rfl) (by decide) rfl (fun ls hl => ?_)
                        refine lv_goto (tgt := 27) hx hb dX9_source_194 (by decide) ?_
                        exact ih _ _ _ (by first | omega | assumption) (by omega) (lv_sub hl [0, 1, 3, 4, 5] rfl)
                      · refine lv_iload_n hx hb dX9_source_127 rfl (lv_at hl 5 rfl) ?_
                        refine lv_iconst (v := 4) hx hb dX9_source_128 (by decide) ?_
                        refine bi_ne (zx := (p1).toInt) (zy := 4) (tgt := 143) hx hb dX9_source_129 (by decide) rfl (by decide) (fun c_632 => ?_) (fun c_632 => ?_)
                        · refine lv_iload_n hx hb dX9_source_143 rfl (lv_at hl 5 rfl) ?_
                          refine lv_iconst (v := 5) hx hb dX9_source_144 (by decide) ?_
                          refine bi_ne (zx := (p1).toInt) (zy := 5) (tgt := 159) hx hb dX9_source_145 (by decide) rfl (by decide) (fun c_633 => ?_) (fun c_633 => ?_)
                          · refine lv_iload_n hx hb dX9_source_159 rfl (lv_at hl 5 rfl) ?_
                            refine lv_bipush (v := 6) hx hb dX9_source_160 (by decide) ?_
                            refine bi_ne (zx := (p1).toInt) (zy := 6) (tgt := 185) hx hb dX9_source_162 (by decide) rfl (by decide) (fun c_634 => ?_) (fun c_634 => ?_)
                            · refine lv_iconst (v := 0) hx hb dX9_source_185 (by decide) ?_
                              refine vp_callSi (zrS (As := [.int 0]) (rest := [.int x]) (wc := []) ⟨hx, hb, hml, hown, hts⟩ hN hK hP hD (m_one0 l D  ) (va_cwS 1 hts gX9_source_X9_one rfl rfl rfl (by decide +kernel) ⟨Nat.le_trans (m := 1) (Nat.le_of_ble_eq_true rfl) hR.1, Nat.le_trans (m := 20) (Nat.le_of_ble_eq_true rfl) hR.2⟩) [] [] rfl rfl (by decide) rfl hl.1 rfl (Nat.le_of_ble_eq_true rfl) dX9_source_186 ⟨hcs.1, hcs.2⟩) (fun r_635 h_636 => ?_)
                              subst h_636
                              refine lv_iadd hx hb dX9_source_189 ?_
                              refine lv_topi (fun z_637 ez_637 => ?_)
                              have tz_637 := ad_toInt (zx := (x).toInt) (zy := 0) ez_637 rfl (by decide)
                              refine lv_istore_n (lv' := [(3, .int z_637), (5, .int 0), (4, .int k), (0, .ref h0), (1, .int p0), (2, .int p1)]) hx hb dX9_source_190 rfl hl (by decide) rfl (fun ls hl => ?_)
                              obtain ⟨x_638, ex_638⟩ : ∃ z : Int32, z = k + 1 := ⟨_, rfl⟩
                              have tx_638 := ad_toInt (x := k) (y := 1) (z := x_638) (zx := (k).toInt) (zy := 1) ex_638 rfl (by decide)
                              refine lv_iinc (v := x_638) (lv' := [(4, .int x_638), (3, .int z_637), (5, .int 0), (0, .ref h0), (1, .int p0), (2, .int p1)]) hx hb dX9_source_191 hl (k := 2) rfl (by rw [ex_638]; rfl) (by decide) rfl (fun ls hl => ?_)
                              refine lv_goto (tgt := 27) hx hb dX9_source_194 (by decide) ?_
                              exact ih _ _ _ (by first | omega | assumption) (by omega) (lv_sub hl [0, 1, 3, 4, 5] rfl)
                            · refine lv_aload_n hx hb dX9_source_165 rfl (lv_at hl 3 rfl) ?_
                              refine va_get (D := D) (ci := 9) (v := .ref b8) (C := RX9) (T := TX9) (N := 37) hx hb hts hin_X9 hown hK hP 0 rfl rfl 14 (by decide) (hts (.fieldLink RX9 38 "CryOrderModel" "state" "[I") (List.mem_cons_of_mem _ (List.mem_append_left _ (List.mem_of_getElem? (i := 5) rfl)))) (fun _ h9 => h9) rfl dX9_source_166 ?_
                              refine lv_iload hx hb dX9_source_169 (lv_at hl 1 rfl) ?_
                              refine va_iald hx hb hK hP 5 4 rfl rfl (vp_in_iff.mpr (by omega)) dX9_source_171 ?_
                              refine lv_topi (fun z_639 ez_639 => ?_)
                              refine lv_iconst (v := 1) hx hb dX9_source_172 (by decide) ?_
                              refine bi_ne (zx := (z_639).toInt) (zy := 1) (tgt := 185) hx hb dX9_source_173 (by decide) rfl (by decide) (fun c_640 => ?_) (fun c_640 => ?_)
                              · refine lv_iconst (v := 0) hx hb dX9_source_185 (by decide) ?_
                                refine vp_callSi (zrS (As := [.int 0]) (rest := [.int x]) (wc := []) ⟨hx, hb, hml, hown, hts⟩ hN hK hP hD (m_one0 l D  ) (va_cwS 1 hts gX9_source_X9_one rfl rfl rfl (by decide +kernel) ⟨Nat.le_trans (m := 1) (Nat.le_of_ble_eq_true rfl) hR.1, Nat.le_trans (m := 20) (Nat.le_of_ble_eq_true rfl) hR.2⟩) [] [] rfl rfl (by decide) rfl hl.1 rfl (Nat.le_of_ble_eq_true rfl) dX9_source_186 ⟨hcs.1, hcs.2⟩) (fun r_641 h_642 => ?_)
                                subst h_642
                                refine lv_iadd hx hb dX9_source_189 ?_
                                refine lv_topi (fun z_643 ez_643 => ?_)
                                have tz_643 := ad_toInt (zx := (x).toInt) (zy := 0) ez_643 rfl (by decide)
                                refine lv_istore_n (lv' := [(3, .int z_643), (5, .int 0), (4, .int k), (0, .ref h0), (1, .int p0), (2, .int p1)]) hx hb dX9_source_190 rfl hl (by decide) rfl (fun ls hl => ?_)
                                obtain ⟨x_644, ex_644⟩ : ∃ z : Int32, z = k + 1 := ⟨_, rfl⟩
                                have tx_644 := ad_toInt (x := k) (y := 1) (z := x_644) (zx := (k).toInt) (zy := 1) ex_644 rfl (by decide)
                                refine lv_iinc (v := x_644) (lv' := [(4, .int x_644), (3, .int z_643), (5, .int 0), (0, .ref h0), (1, .int p0), (2, .int p1)]) hx hb dX9_source_191 hl (k := 2) rfl (by rw [ex_644]; rfl) (by decide) rfl (fun ls hl => ?_)
                                refine lv_goto (tgt := 27) hx hb dX9_source_194 (by decide) ?_
                                exact ih _ _ _ (by first | omega | assumption) (by omega) (lv_sub hl [0, 1, 3, 4, 5] rfl)
                              · refine lv_iload hx hb dX9_source_176 (lv_at hl 0 rfl) ?_
                                refine lv_if_ne (tgt := 185) hx hb dX9_source_178 (by decide) (fun c_ => absurd c_ (by decide)) (fun _ => ?_)
                                refine lv_iconst (v := 1) hx hb dX9_source_181 (by decide) ?_
                                refine lv_goto (tgt := 186) hx hb dX9_source_182 (by decide) ?_
                                refine vp_callSi (zrS (As := [.int 1]) (rest := [.int x]) (wc := []) ⟨hx, hb, hml, hown, hts⟩ hN hK hP hD (m_one1 l D  ) (va_cwS 1 hts gX9_source_X9_one rfl rfl rfl (by decide +kernel) ⟨Nat.le_trans (m := 1) (Nat.le_of_ble_eq_true rfl) hR.1, Nat.le_trans (m := 20) (Nat.le_of_ble_eq_true rfl) hR.2⟩) [] [] rfl rfl (by decide) rfl hl.1 rfl (Nat.le_of_ble_eq_true rfl) dX9_source_186 ⟨hcs.1, hcs.2⟩) (fun r_645 h_646 => ?_)
                                subst h_646
                                refine lv_iadd hx hb dX9_source_189 ?_
                                refine lv_topi (fun z_647 ez_647 => ?_)
                                have tz_647 := ad_toInt (zx := (x).toInt) (zy := 1) ez_647 rfl (by decide)
                                refine lv_istore_n (lv' := [(3, .int z_647), (5, .int 0), (4, .int k), (0, .ref h0), (1, .int p0), (2, .int p1)]) hx hb dX9_source_190 rfl hl (by decide) rfl (fun ls hl => ?_)
                                obtain ⟨x_648, ex_648⟩ : ∃ z : Int32, z = k + 1 := ⟨_, rfl⟩
                                have tx_648 := ad_toInt (x := k) (y := 1) (z := x_648) (zx := (k).toInt) (zy := 1) ex_648 rfl (by decide)
                                refine lv_iinc (v := x_648) (lv' := [(4, .int x_648), (3, .int z_647), (5, .int 0), (0, .ref h0), (1, .int p0), (2, .int p1)]) hx hb dX9_source_191 hl (k := 2) rfl (by rw [ex_648]; rfl) (by decide) rfl (fun ls hl => ?_)
                                refine lv_goto (tgt := 27) hx hb dX9_source_194 (by decide) ?_
                                exact ih _ _ _ (by first | omega | assumption) (by omega) (lv_sub hl [0, 1, 3, 4, 5] rfl)
                          · refine lv_aload_n hx hb dX9_source_148 rfl (lv_at hl 3 rfl) ?_
                            refine va_get (D := D) (ci := 9) (v := .ref b8) (C := RX9) (T := TX9) (N := 37) hx hb hts hin_X9 hown hK hP 0 rfl rfl 14 (by decide) (hts (.fieldLink RX9 38 "CryOrderModel" "state" "[I") (List.mem_cons_of_mem _ (List.mem_append_left _ (List.mem_of_getElem? (i := 5) rfl)))) (fun _ h9 => h9) rfl dX9_source_149 ?_
                            refine lv_iload hx hb dX9_source_152 (lv_at hl 1 rfl) ?_
                            refine va_iald hx hb hK hP 5 4 rfl rfl (vp_in_iff.mpr (by omega)) dX9_source_154 ?_
                            refine lv_topi (fun z_649 ez_649 => ?_)
                            refine lv_iconst (v := 2) hx hb dX9_source_155 (by decide) ?_
                            refine bi_eq (zx := (z_649).toInt) (zy := 2) (tgt := 181) hx hb dX9_source_156 (by decide) rfl (by decide) (fun c_650 => ?_) (fun c_650 => ?_)
                            · refine lv_iconst (v := 1) hx hb dX9_source_181 (by decide) ?_
                              refine lv_goto (tgt := 186) hx hb dX9_source_182 (by decide) ?_
                              refine vp_callSi (zrS (As := [.int 1]) (rest := [.int x]) (wc := []) ⟨hx, hb, hml, hown, hts⟩ hN hK hP hD (m_one1 l D  ) (va_cwS 1 hts gX9_source_X9_one rfl rfl rfl (by decide +kernel) ⟨Nat.le_trans (m := 1) (Nat.le_of_ble_eq_true rfl) hR.1, Nat.le_trans (m := 20) (Nat.le_of_ble_eq_true rfl) hR.2⟩) [] [] rfl rfl (by decide) rfl hl.1 rfl (Nat.le_of_ble_eq_true rfl) dX9_source_186 ⟨hcs.1, hcs.2⟩) (fun r_651 h_652 => ?_)
                              subst h_652
                              refine lv_iadd hx hb dX9_source_189 ?_
                              refine lv_topi (fun z_653 ez_653 => ?_)
                              have tz_653 := ad_toInt (zx := (x).toInt) (zy := 1) ez_653 rfl (by decide)
                              refine lv_istore_n (lv' := [(3, .int z_653), (5, .int 0), (4, .int k), (0, .ref h0), (1, .int p0), (2, .int p1)]) hx hb dX9_source_190 rfl hl (by decide) rfl (fun ls hl => ?_)
                              obtain ⟨x_654, ex_654⟩ : ∃ z : Int32, z = k + 1 := ⟨_, rfl⟩
                              have tx_654 := ad_toInt (x := k) (y := 1) (z := x_654) (zx := (k).toInt) (zy := 1) ex_654 rfl (by decide)
                              refine lv_iinc (v := x_654) (lv' := [(4, .int x_654), (3, .int z_653), (5, .int 0), (0, .ref h0), (1, .int p0), (2, .int p1)]) hx hb dX9_source_191 hl (k := 2) rfl (by rw [ex_654]; rfl) (by decide) rfl (fun ls hl => ?_)
                              refine lv_goto (tgt := 27) hx hb dX9_source_194 (by decide) ?_
                              exact ih _ _ _ (by first | omega | assumption) (by omega) (lv_sub hl [0, 1, 3, 4, 5] rfl)
                            · refine lv_iload_n hx hb dX9_source_159 rfl (lv_at hl 5 rfl) ?_
                              refine lv_bipush (v := 6) hx hb dX9_source_160 (by decide) ?_
                              refine bi_ne (zx := (p1).toInt) (zy := 6) (tgt := 185) hx hb dX9_source_162 (by decide) rfl (by decide) (fun c_655 => ?_) (fun c_655 => ?_)
                              · refine lv_iconst (v := 0) hx hb dX9_source_185 (by decide) ?_
                                refine vp_callSi (zrS (As := [.int 0]) (rest := [.int x]) (wc := []) ⟨hx, hb, hml, hown, hts⟩ hN hK hP hD (m_one0 l D  ) (va_cwS 1 hts gX9_source_X9_one rfl rfl rfl (by decide +kernel) ⟨Nat.le_trans (m := 1) (Nat.le_of_ble_eq_true rfl) hR.1, Nat.le_trans (m := 20) (Nat.le_of_ble_eq_true rfl) hR.2⟩) [] [] rfl rfl (by decide) rfl hl.1 rfl (Nat.le_of_ble_eq_true rfl) dX9_source_186 ⟨hcs.1, hcs.2⟩) (fun r_656 h_657 => ?_)
                                subst h_657
                                refine lv_iadd hx hb dX9_source_189 ?_
                                refine lv_topi (fun z_658 ez_658 => ?_)
                                have tz_658 := ad_toInt (zx := (x).toInt) (zy := 0) ez_658 rfl (by decide)
                                refine lv_istore_n (lv' := [(3, .int z_658), (5, .int 0), (4, .int k), (0, .ref h0), (1, .int p0), (2, .int p1)]) hx hb dX9_source_190 rfl hl (by decide) rfl (fun ls hl => ?_)
                                obtain ⟨x_659, ex_659⟩ : ∃ z : Int32, z = k + 1 := ⟨_, rfl⟩
                                have tx_659 := ad_toInt (x := k) (y := 1) (z := x_659) (zx := (k).toInt) (zy := 1) ex_659 rfl (by decide)
                                refine lv_iinc (v := x_659) (lv' := [(4, .int x_659), (3, .int z_658), (5, .int 0), (0, .ref h0), (1, .int p0), (2, .int p1)]) hx hb dX9_source_191 hl (k := 2) rfl (by rw [ex_659]; rfl) (by decide) rfl (fun ls hl => ?_)
                                refine lv_goto (tgt := 27) hx hb dX9_source_194 (by decide) ?_
                                exact ih _ _ _ (by first | omega | assumption) (by omega) (lv_sub hl [0, 1, 3, 4, 5] rfl)
                              · refine lv_aload_n hx hb dX9_source_165 rfl (lv_at hl 3 rfl) ?_
                                refine va_get (D := D) (ci := 9) (v := .ref b8) (C := RX9) (T := TX9) (N := 37) hx hb hts hin_X9 hown hK hP 0 rfl rfl 14 (by decide) (hts (.fieldLink RX9 38 "CryOrderModel" "state" "[I") (List.mem_cons_of_mem _ (List.mem_append_left _ (List.mem_of_getElem? (i := 5) rfl)))) (fun _ h9 => h9) rfl dX9_source_166 ?_
                                refine lv_iload hx hb dX9_source_169 (lv_at hl 1 rfl) ?_
                                refine va_iald hx hb hK hP 5 4 rfl rfl (vp_in_iff.mpr (by omega)) dX9_source_171 ?_
                                refine lv_topi (fun z_660 ez_660 => ?_)
                                have qz_660 : (z_660).toInt = (z_649).toInt := by rw [ez_660, ez_649]
                                refine lv_iconst (v := 1) hx hb dX9_source_172 (by decide) ?_
                                refine bi_ne (zx := (z_660).toInt) (zy := 1) (tgt := 185) hx hb dX9_source_173 (by decide) rfl (by decide) (fun c_661 => ?_) (fun c_661 => ?_)
                                · refine lv_iconst (v := 0) hx hb dX9_source_185 (by decide) ?_
                                  refine vp_callSi (zrS (As := [.int 0]) (rest := [.int x]) (wc := []) ⟨hx, hb, hml, hown, hts⟩ hN hK hP hD (m_one0 l D  ) (va_cwS 1 hts gX9_source_X9_one rfl rfl rfl (by decide +kernel) ⟨Nat.le_trans (m := 1) (Nat.le_of_ble_eq_true rfl) hR.1, Nat.le_trans (m := 20) (Nat.le_of_ble_eq_true rfl) hR.2⟩) [] [] rfl rfl (by decide) rfl hl.1 rfl (Nat.le_of_ble_eq_true rfl) dX9_source_186 ⟨hcs.1, hcs.2⟩) (fun r_662 h_663 => ?_)
                                  subst h_663
                                  refine lv_iadd hx hb dX9_source_189 ?_
                                  refine lv_topi (fun z_664 ez_664 => ?_)
                                  have tz_664 := ad_toInt (zx := (x).toInt) (zy := 0) ez_664 rfl (by decide)
                                  refine lv_istore_n (lv' := [(3, .int z_664), (5, .int 0), (4, .int k), (0, .ref h0), (1, .int p0), (2, .int p1)]) hx hb dX9_source_190 rfl hl (by decide) rfl (fun ls hl => ?_)
                                  obtain ⟨x_665, ex_665⟩ : ∃ z : Int32, z = k + 1 := ⟨_, rfl⟩
                                  have tx_665 := ad_toInt (x := k) (y := 1) (z := x_665) (zx := (k).toInt) (zy := 1) ex_665 rfl (by decide)
                                  refine lv_iinc (v := x_665) (lv' := [(4, .int x_665), (3, .int z_664), (5, .int 0), (0, .ref h0), (1, .int p0), (2, .int p1)]) hx hb dX9_source_191 hl (k := 2) rfl (by rw [ex_665]; rfl) (by decide) rfl (fun ls hl => ?_)
                                  refine lv_goto (tgt := 27) hx hb dX9_source_194 (by decide) ?_
                                  exact ih _ _ _ (by first | omega | assumption) (by omega) (lv_sub hl [0, 1, 3, 4, 5] rfl)
                                · refine lv_iload hx hb dX9_source_176 (lv_at hl 0 rfl) ?_
                                  refine lv_if_ne (tgt := 185) hx hb dX9_source_178 (by decide) (fun c_ => absurd c_ (by decide)) (fun _ => ?_)
                                  refine lv_iconst (v := 1) hx hb dX9_source_181 (by decide) ?_
                                  refine lv_goto (tgt := 186) hx hb dX9_source_182 (by decide) ?_
                                  refine vp_callSi (zrS (As := [.int 1]) (rest := [.int x]) (wc := []) ⟨hx, hb, hml, hown, hts⟩ hN hK hP hD (m_one1 l D  ) (va_cwS 1 hts gX9_source_X9_one rfl rfl rfl (by decide +kernel) ⟨Nat.le_trans (m := 1) (Nat.le_of_ble_eq_true rfl) hR.1, Nat.le_trans (m := 20) (Nat.le_of_ble_eq_true rfl) hR.2⟩) [] [] rfl rfl (by decide) rfl hl.1 rfl (Nat.le_of_ble_eq_true rfl) dX9_source_186 ⟨hcs.1, hcs.2⟩) (fun r_666 h_667 => ?_)
                                  subst h_667
                                  refine lv_iadd hx hb dX9_source_189 ?_
                                  refine lv_topi (fun z_668 ez_668 => ?_)
                                  have tz_668 := ad_toInt (zx := (x).toInt) (zy := 1) ez_668 rfl (by decide)
                                  refine lv_istore_n (lv' := [(3, .int z_668), (5, .int 0), (4, .int k), (0, .ref h0), (1, .int p0), (2, .int p1)]) hx hb dX9_source_190 rfl hl (by decide) rfl (fun ls hl => ?_)
                                  obtain ⟨x_669, ex_669⟩ : ∃ z : Int32, z = k + 1 := ⟨_, rfl⟩
                                  have tx_669 := ad_toInt (x := k) (y := 1) (z := x_669) (zx := (k).toInt) (zy := 1) ex_669 rfl (by decide)
                                  refine lv_iinc (v := x_669) (lv' := [(4, .int x_669), (3, .int z_668), (5, .int 0), (0, .ref h0), (1, .int p0), (2, .int p1)]) hx hb dX9_source_191 hl (k := 2) rfl (by rw [ex_669]; rfl) (by decide) rfl (fun ls hl => ?_)
                                  refine lv_goto (tgt := 27) hx hb dX9_source_194 (by decide) ?_
                                  exact ih _ _ _ (by first | omega | assumption) (by omega) (lv_sub hl [0, 1, 3, 4, 5] rfl)
                        · refine lv_aload_n hx hb dX9_source_132 rfl (lv_at hl 3 rfl) ?_
                          refine va_get (D := D) (ci := 9) (v := .ref b8) (C := RX9) (T := TX9) (N := 37) hx hb hts hin_X9 hown hK hP 0 rfl rfl 14 (by decide) (hts (.fieldLink RX9 38 "CryOrderModel" "state" "[I") (List.mem_cons_of_mem _ (List.mem_append_left _ (List.mem_of_getElem? (i := 5) rfl)))) (fun _ h9 => h9) rfl dX9_source_133 ?_
                          refine lv_iload hx hb dX9_source_136 (lv_at hl 1 rfl) ?_
                          refine va_iald hx hb hK hP 5 4 rfl rfl (vp_in_iff.mpr (by omega)) dX9_source_138 ?_
                          refine lv_topi (fun z_670 ez_670 => ?_)
                          refine lv_iconst (v := 1) hx hb dX9_source_139 (by decide) ?_
                          refine bi_eq (zx := (z_670).toInt) (zy := 1) (tgt := 181) hx hb dX9_source_140 (by decide) rfl (by decide) (fun c_671 => ?_) (fun c_671 => ?_)
                          · refine lv_iconst (v := 1) hx hb dX9_source_181 (by decide) ?_
                            refine lv_goto (tgt := 186) hx hb dX9_source_182 (by decide) ?_
                            refine vp_callSi (zrS (As := [.int 1]) (rest := [.int x]) (wc := []) ⟨hx, hb, hml, hown, hts⟩ hN hK hP hD (m_one1 l D  ) (va_cwS 1 hts gX9_source_X9_one rfl rfl rfl (by decide +kernel) ⟨Nat.le_trans (m := 1) (Nat.le_of_ble_eq_true rfl) hR.1, Nat.le_trans (m := 20) (Nat.le_of_ble_eq_true rfl) hR.2⟩) [] [] rfl rfl (by decide) rfl hl.1 rfl (Nat.le_of_ble_eq_true rfl) dX9_source_186 ⟨hcs.1, hcs.2⟩) (fun r_672 h_673 => ?_)
                            subst h_673
                            refine lv_iadd hx hb dX9_source_189 ?_
                            refine lv_topi (fun z_674 ez_674 => ?_)
                            have tz_674 := ad_toInt (zx := (x).toInt) (zy := 1) ez_674 rfl (by decide)
                            refine lv_istore_n (lv' := [(3, .int z_674), (5, .int 0), (4, .int k), (0, .ref h0), (1, .int p0), (2, .int p1)]) hx hb dX9_source_190 rfl hl (by decide) rfl (fun ls hl => ?_)
                            obtain ⟨x_675, ex_675⟩ : ∃ z : Int32, z = k + 1 := ⟨_, rfl⟩
                            have tx_675 := ad_toInt (x := k) (y := 1) (z := x_675) (zx := (k).toInt) (zy := 1) ex_675 rfl (by decide)
                            refine lv_iinc (v := x_675) (lv' := [(4, .int x_675), (3, .int z_674), (5, .int 0), (0, .ref h0), (1, .int p0), (2, .int p1)]) hx hb dX9_source_191 hl (k := 2) rfl (by rw [ex_675]; rfl) (by decide) rfl (fun ls hl => ?_)
                            refine lv_goto (tgt := 27) hx hb dX9_source_194 (by decide) ?_
                            exact ih _ _ _ (by first | omega | assumption) (by omega) (lv_sub hl [0, 1, 3, 4, 5] rfl)
                          · refine lv_iload_n hx hb dX9_source_143 rfl (lv_at hl 5 rfl) ?_
                            refine lv_iconst (v := 5) hx hb dX9_source_144 (by decide) ?_
                            refine bi_ne (zx := (p1).toInt) (zy := 5) (tgt := 159) hx hb dX9_source_145 (by decide) rfl (by decide) (fun c_676 => ?_) (fun c_676 => ?_)
                            · refine lv_iload_n hx hb dX9_source_159 rfl (lv_at hl 5 rfl) ?_
                              refine lv_bipush (v := 6) hx hb dX9_source_160 (by decide) ?_
                              refine bi_ne (zx := (p1).toInt) (zy := 6) (tgt := 185) hx hb dX9_source_162 (by decide) rfl (by decide) (fun c_677 => ?_) (fun c_677 => ?_)
                              · refine lv_iconst (v := 0) hx hb dX9_source_185 (by decide) ?_
                                refine vp_callSi (zrS (As := [.int 0]) (rest := [.int x]) (wc := []) ⟨hx, hb, hml, hown, hts⟩ hN hK hP hD (m_one0 l D  ) (va_cwS 1 hts gX9_source_X9_one rfl rfl rfl (by decide +kernel) ⟨Nat.le_trans (m := 1) (Nat.le_of_ble_eq_true rfl) hR.1, Nat.le_trans (m := 20) (Nat.le_of_ble_eq_true rfl) hR.2⟩) [] [] rfl rfl (by decide) rfl hl.1 rfl (Nat.le_of_ble_eq_true rfl) dX9_source_186 ⟨hcs.1, hcs.2⟩) (fun r_678 h_679 => ?_)
                                subst h_679
                                refine lv_iadd hx hb dX9_source_189 ?_
                                refine lv_topi (fun z_680 ez_680 => ?_)
                                have tz_680 := ad_toInt (zx := (x).toInt) (zy := 0) ez_680 rfl (by decide)
                                refine lv_istore_n (lv' := [(3, .int z_680), (5, .int 0), (4, .int k), (0, .ref h0), (1, .int p0), (2, .int p1)]) hx hb dX9_source_190 rfl hl (by decide) rfl (fun ls hl => ?_)
                                obtain ⟨x_681, ex_681⟩ : ∃ z : Int32, z = k + 1 := ⟨_, rfl⟩
                                have tx_681 := ad_toInt (x := k) (y := 1) (z := x_681) (zx := (k).toInt) (zy := 1) ex_681 rfl (by decide)
                                refine lv_iinc (v := x_681) (lv' := [(4, .int x_681), (3, .int z_680), (5, .int 0), (0, .ref h0), (1, .int p0), (2, .int p1)]) hx hb dX9_source_191 hl (k := 2) rfl (by rw [ex_681]; rfl) (by decide) rfl (fun ls hl => ?_)
                                refine lv_goto (tgt := 27) hx hb dX9_source_194 (by decide) ?_
                                exact ih _ _ _ (by first | omega | assumption) (by omega) (lv_sub hl [0, 1, 3, 4, 5] rfl)
                              · refine lv_aload_n hx hb dX9_source_165 rfl (lv_at hl 3 rfl) ?_
                                refine va_get (D := D) (ci := 9) (v := .ref b8) (C := RX9) (T := TX9) (N := 37) hx hb hts hin_X9 hown hK hP 0 rfl rfl 14 (by decide) (hts (.fieldLink RX9 38 "CryOrderModel" "state" "[I") (List.mem_cons_of_mem _ (List.mem_append_left _ (List.mem_of_getElem? (i := 5) rfl)))) (fun _ h9 => h9) rfl dX9_source_166 ?_
                                refine lv_iload hx hb dX9_source_169 (lv_at hl 1 rfl) ?_
                                refine va_iald hx hb hK hP 5 4 rfl rfl (vp_in_iff.mpr (by omega)) dX9_source_171 ?_
                                refine lv_topi (fun z_682 ez_682 => ?_)
                                have qz_682 : (z_682).toInt = (z_670).toInt := by rw [ez_682, ez_670]
                                refine lv_iconst (v := 1) hx hb dX9_source_172 (by decide) ?_
                                refine bi_ne (zx := (z_682).toInt) (zy := 1) (tgt := 185) hx hb dX9_source_173 (by decide) rfl (by decide) (fun c_683 => ?_) (fun c_683 => ?_)
                                · refine lv_iconst (v := 0) hx hb dX9_source_185 (by decide) ?_
                                  refine vp_callSi (zrS (As := [.int 0]) (rest := [.int x]) (wc := []) ⟨hx, hb, hml, hown, hts⟩ hN hK hP hD (m_one0 l D  ) (va_cwS 1 hts gX9_source_X9_one rfl rfl rfl (by decide +kernel) ⟨Nat.le_trans (m := 1) (Nat.le_of_ble_eq_true rfl) hR.1, Nat.le_trans (m := 20) (Nat.le_of_ble_eq_true rfl) hR.2⟩) [] [] rfl rfl (by decide) rfl hl.1 rfl (Nat.le_of_ble_eq_true rfl) dX9_source_186 ⟨hcs.1, hcs.2⟩) (fun r_684 h_685 => ?_)
                                  subst h_685
                                  refine lv_iadd hx hb dX9_source_189 ?_
                                  refine lv_topi (fun z_686 ez_686 => ?_)
                                  have tz_686 := ad_toInt (zx := (x).toInt) (zy := 0) ez_686 rfl (by decide)
                                  refine lv_istore_n (lv' := [(3, .int z_686), (5, .int 0), (4, .int k), (0, .ref h0), (1, .int p0), (2, .int p1)]) hx hb dX9_source_190 rfl hl (by decide) rfl (fun ls hl => ?_)
                                  obtain ⟨x_687, ex_687⟩ : ∃ z : Int32, z = k + 1 := ⟨_, rfl⟩
                                  have tx_687 := ad_toInt (x := k) (y := 1) (z := x_687) (zx := (k).toInt) (zy := 1) ex_687 rfl (by decide)
                                  refine lv_iinc (v := x_687) (lv' := [(4, .int x_687), (3, .int z_686), (5, .int 0), (0, .ref h0), (1, .int p0), (2, .int p1)]) hx hb dX9_source_191 hl (k := 2) rfl (by rw [ex_687]; rfl) (by decide) rfl (fun ls hl => ?_)
                                  refine lv_goto (tgt := 27) hx hb dX9_source_194 (by decide) ?_
                                  exact ih _ _ _ (by first | omega | assumption) (by omega) (lv_sub hl [0, 1, 3, 4, 5] rfl)
                                · refine lv_iload hx hb dX9_source_176 (lv_at hl 0 rfl) ?_
                                  refine lv_if_ne (tgt := 185) hx hb dX9_source_178 (by decide) (fun c_ => absurd c_ (by decide)) (fun _ => ?_)
                                  refine lv_iconst (v := 1) hx hb dX9_source_181 (by decide) ?_
                                  refine lv_goto (tgt := 186) hx hb dX9_source_182 (by decide) ?_
                                  refine vp_callSi (zrS (As := [.int 1]) (rest := [.int x]) (wc := []) ⟨hx, hb, hml, hown, hts⟩ hN hK hP hD (m_one1 l D  ) (va_cwS 1 hts gX9_source_X9_one rfl rfl rfl (by decide +kernel) ⟨Nat.le_trans (m := 1) (Nat.le_of_ble_eq_true rfl) hR.1, Nat.le_trans (m := 20) (Nat.le_of_ble_eq_true rfl) hR.2⟩) [] [] rfl rfl (by decide) rfl hl.1 rfl (Nat.le_of_ble_eq_true rfl) dX9_source_186 ⟨hcs.1, hcs.2⟩) (fun r_688 h_689 => ?_)
                                  subst h_689
                                  refine lv_iadd hx hb dX9_source_189 ?_
                                  refine lv_topi (fun z_690 ez_690 => ?_)
                                  have tz_690 := ad_toInt (zx := (x).toInt) (zy := 1) ez_690 rfl (by decide)
                                  refine lv_istore_n (lv' := [(3, .int z_690), (5, .int 0), (4, .int k), (0, .ref h0), (1, .int p0), (2, .int p1)]) hx hb dX9_source_190 rfl hl (by decide) rfl (fun ls hl => ?_)
                                  obtain ⟨x_691, ex_691⟩ : ∃ z : Int32, z = k + 1 := ⟨_, rfl⟩
                                  have tx_691 := ad_toInt (x := k) (y := 1) (z := x_691) (zx := (k).toInt) (zy := 1) ex_691 rfl (by decide)
                                  refine lv_iinc (v := x_691) (lv' := [(4, .int x_691), (3, .int z_690), (5, .int 0), (0, .ref h0), (1, .int p0), (2, .int p1)]) hx hb dX9_source_191 hl (k := 2) rfl (by rw [ex_691]; rfl) (by decide) rfl (fun ls hl => ?_)
                                  refine lv_goto (tgt := 27) hx hb dX9_source_194 (by decide) ?_
                                  exact ih _ _ _ (by first | omega | assumption) (by omega) (lv_sub hl [0, 1, 3, 4, 5] rfl)
                            · refine lv_aload_n hx hb dX9_source_148 rfl (lv_at hl 3 rfl) ?_
                              refine va_get (D := D) (ci := 9) (v := .ref b8) (C := RX9) (T := TX9) (N := 37) hx hb hts hin_X9 hown hK hP 0 rfl rfl 14 (by decide) (hts (.fieldLink RX9 38 "CryOrderModel" "state" "[I") (List.mem_cons_of_mem _ (List.mem_append_left _ (List.mem_of_getElem? (i := 5) rfl)))) (fun _ h9 => h9) rfl dX9_source_149 ?_
                              refine lv_iload hx hb dX9_source_152 (lv_at hl 1 rfl) ?_
                              refine va_iald hx hb hK hP 5 4 rfl rfl (vp_in_iff.mpr (by omega)) dX9_source_154 ?_
                              refine lv_topi (fun z_692 ez_692 => ?_)
                              have qz_692 : (z_692).toInt = (z_670).toInt := by rw [ez_692, ez_670]
                              refine lv_iconst (v := 2) hx hb dX9_source_155 (by decide) ?_
                              refine bi_eq (zx := (z_692).toInt) (zy := 2) (tgt := 181) hx hb dX9_source_156 (by decide) rfl (by decide) (fun c_693 => ?_) (fun c_693 => ?_)
                              · refine lv_iconst (v := 1) hx hb dX9_source_181 (by decide) ?_
                                refine lv_goto (tgt := 186) hx hb dX9_source_182 (by decide) ?_
                                refine vp_callSi (zrS (As := [.int 1]) (rest := [.int x]) (wc := []) ⟨hx, hb, hml, hown, hts⟩ hN hK hP hD (m_one1 l D  ) (va_cwS 1 hts gX9_source_X9_one rfl rfl rfl (by decide +kernel) ⟨Nat.le_trans (m := 1) (Nat.le_of_ble_eq_true rfl) hR.1, Nat.le_trans (m := 20) (Nat.le_of_ble_eq_true rfl) hR.2⟩) [] [] rfl rfl (by decide) rfl hl.1 rfl (Nat.le_of_ble_eq_true rfl) dX9_source_186 ⟨hcs.1, hcs.2⟩) (fun r_694 h_695 => ?_)
                                subst h_695
                                refine lv_iadd hx hb dX9_source_189 ?_
                                refine lv_topi (fun z_696 ez_696 => ?_)
                                have tz_696 := ad_toInt (zx := (x).toInt) (zy := 1) ez_696 rfl (by decide)
                                refine lv_istore_n (lv' := [(3, .int z_696), (5, .int 0), (4, .int k), (0, .ref h0), (1, .int p0), (2, .int p1)]) hx hb dX9_source_190 rfl hl (by decide) rfl (fun ls hl => ?_)
                                obtain ⟨x_697, ex_697⟩ : ∃ z : Int32, z = k + 1 := ⟨_, rfl⟩
                                have tx_697 := ad_toInt (x := k) (y := 1) (z := x_697) (zx := (k).toInt) (zy := 1) ex_697 rfl (by decide)
                                refine lv_iinc (v := x_697) (lv' := [(4, .int x_697), (3, .int z_696), (5, .int 0), (0, .ref h0), (1, .int p0), (2, .int p1)]) hx hb dX9_source_191 hl (k := 2) rfl (by rw [ex_697]; rfl) (by decide) rfl (fun ls hl => ?_)
                                refine lv_goto (tgt := 27) hx hb dX9_source_194 (by decide) ?_
                                exact ih _ _ _ (by first | omega | assumption) (by omega) (lv_sub hl [0, 1, 3, 4, 5] rfl)
                              · refine lv_iload_n hx hb dX9_source_159 rfl (lv_at hl 5 rfl) ?_
                                refine lv_bipush (v := 6) hx hb dX9_source_160 (by decide) ?_
                                refine bi_ne (zx := (p1).toInt) (zy := 6) (tgt := 185) hx hb dX9_source_162 (by decide) rfl (by decide) (fun c_698 => ?_) (fun c_698 => ?_)
                                · refine lv_iconst (v := 0) hx hb dX9_source_185 (by decide) ?_
                                  refine vp_callSi (zrS (As := [.int 0]) (rest := [.int x]) (wc := []) ⟨hx, hb, hml, hown, hts⟩ hN hK hP hD (m_one0 l D  ) (va_cwS 1 hts gX9_source_X9_one rfl rfl rfl (by decide +kernel) ⟨Nat.le_trans (m := 1) (Nat.le_of_ble_eq_true rfl) hR.1, Nat.le_trans (m := 20) (Nat.le_of_ble_eq_true rfl) hR.2⟩) [] [] rfl rfl (by decide) rfl hl.1 rfl (Nat.le_of_ble_eq_true rfl) dX9_source_186 ⟨hcs.1, hcs.2⟩) (fun r_699 h_700 => ?_)
                                  subst h_700
                                  refine lv_iadd hx hb dX9_source_189 ?_
                                  refine lv_topi (fun z_701 ez_701 => ?_)
                                  have tz_701 := ad_toInt (zx := (x).toInt) (zy := 0) ez_701 rfl (by decide)
                                  refine lv_istore_n (lv' := [(3, .int z_701), (5, .int 0), (4, .int k), (0, .ref h0), (1, .int p0), (2, .int p1)]) hx hb dX9_source_190 rfl hl (by decide) rfl (fun ls hl => ?_)
                                  obtain ⟨x_702, ex_702⟩ : ∃ z : Int32, z = k + 1 := ⟨_, rfl⟩
                                  have tx_702 := ad_toInt (x := k) (y := 1) (z := x_702) (zx := (k).toInt) (zy := 1) ex_702 rfl (by decide)
                                  refine lv_iinc (v := x_702) (lv' := [(4, .int x_702), (3, .int z_701), (5, .int 0), (0, .ref h0), (1, .int p0), (2, .int p1)]) hx hb dX9_source_191 hl (k := 2) rfl (by rw [ex_702]; rfl) (by decide) rfl (fun ls hl => ?_)
                                  refine lv_goto (tgt := 27) hx hb dX9_source_194 (by decide) ?_
                                  exact ih _ _ _ (by first | omega | assumption) (by omega) (lv_sub hl [0, 1, 3, 4, 5] rfl)
                                · refine lv_aload_n hx hb dX9_source_165 rfl (lv_at hl 3 rfl) ?_
                                  refine va_get (D := D) (ci := 9) (v := .ref b8) (C := RX9) (T := TX9) (N := 37) hx hb hts hin_X9 hown hK hP 0 rfl rfl 14 (by decide) (hts (.fieldLink RX9 38 "CryOrderModel" "state" "[I") (List.mem_cons_of_mem _ (List.mem_append_left _ (List.mem_of_getElem? (i := 5) rfl)))) (fun _ h9 => h9) rfl dX9_source_166 ?_
                                  refine lv_iload hx hb dX9_source_169 (lv_at hl 1 rfl) ?_
                                  refine va_iald hx hb hK hP 5 4 rfl rfl (vp_in_iff.mpr (by omega)) dX9_source_171 ?_
                                  refine lv_topi (fun z_703 ez_703 => ?_)
                                  have qz_703 : (z_703).toInt = (z_670).toInt := by rw [ez_703, ez_670]
                                  refine lv_iconst (v := 1) hx hb dX9_source_172 (by decide) ?_
                                  refine bi_ne (zx := (z_703).toInt) (zy := 1) (tgt := 185) hx hb dX9_source_173 (by decide) rfl (by decide) (fun c_704 => ?_) (fun c_704 => ?_)
                                  · refine lv_iconst (v := 0) hx hb dX9_source_185 (by decide) ?_
                                    refine vp_callSi (zrS (As := [.int 0]) (rest := [.int x]) (wc := []) ⟨hx, hb, hml, hown, hts⟩ hN hK hP hD (m_one0 l D  ) (va_cwS 1 hts gX9_source_X9_one rfl rfl rfl (by decide +kernel) ⟨Nat.le_trans (m := 1) (Nat.le_of_ble_eq_true rfl) hR.1, Nat.le_trans (m := 20) (Nat.le_of_ble_eq_true rfl) hR.2⟩) [] [] rfl rfl (by decide) rfl hl.1 rfl (Nat.le_of_ble_eq_true rfl) dX9_source_186 ⟨hcs.1, hcs.2⟩) (fun r_705 h_706 => ?_)
                                    subst h_706
                                    refine lv_iadd hx hb dX9_source_189 ?_
                                    refine lv_topi (fun z_707 ez_707 => ?_)
                                    have tz_707 := ad_toInt (zx := (x).toInt) (zy := 0) ez_707 rfl (by decide)
                                    refine lv_istore_n (lv' := [(3, .int z_707), (5, .int 0), (4, .int k), (0, .ref h0), (1, .int p0), (2, .int p1)]) hx hb dX9_source_190 rfl hl (by decide) rfl (fun ls hl => ?_)
                                    obtain ⟨x_708, ex_708⟩ : ∃ z : Int32, z = k + 1 := ⟨_, rfl⟩
                                    have tx_708 := ad_toInt (x := k) (y := 1) (z := x_708) (zx := (k).toInt) (zy := 1) ex_708 rfl (by decide)
                                    refine lv_iinc (v := x_708) (lv' := [(4, .int x_708), (3, .int z_707), (5, .int 0), (0, .ref h0), (1, .int p0), (2, .int p1)]) hx hb dX9_source_191 hl (k := 2) rfl (by rw [ex_708]; rfl) (by decide) rfl (fun ls hl => ?_)
                                    refine lv_goto (tgt := 27) hx hb dX9_source_194 (by decide) ?_
                                    exact ih _ _ _ (by first | omega | assumption) (by omega) (lv_sub hl [0, 1, 3, 4, 5] rfl)
                                  · refine lv_iload hx hb dX9_source_176 (lv_at hl 0 rfl) ?_
                                    refine lv_if_ne (tgt := 185) hx hb dX9_source_178 (by decide) (fun c_ => absurd c_ (by decide)) (fun _ => ?_)
                                    refine lv_iconst (v := 1) hx hb dX9_source_181 (by decide) ?_
                                    refine lv_goto (tgt := 186) hx hb dX9_source_182 (by decide) ?_
                                    refine vp_callSi (zrS (As := [.int 1]) (rest := [.int x]) (wc := []) ⟨hx, hb, hml, hown, hts⟩ hN hK hP hD (m_one1 l D  ) (va_cwS 1 hts gX9_source_X9_one rfl rfl rfl (by decide +kernel) ⟨Nat.le_trans (m := 1) (Nat.le_of_ble_eq_true rfl) hR.1, Nat.le_trans (m := 20) (Nat.le_of_ble_eq_true rfl) hR.2⟩) [] [] rfl rfl (by decide) rfl hl.1 rfl (Nat.le_of_ble_eq_true rfl) dX9_source_186 ⟨hcs.1, hcs.2⟩) (fun r_709 h_710 => ?_)
                                    subst h_710
                                    refine lv_iadd hx hb dX9_source_189 ?_
                                    refine lv_topi (fun z_711 ez_711 => ?_)
                                    have tz_711 := ad_toInt (zx := (x).toInt) (zy := 1) ez_711 rfl (by decide)
                                    refine lv_istore_n (lv' := [(3, .int z_711), (5, .int 0), (4, .int k), (0, .ref h0), (1, .int p0), (2, .int p1)]) hx hb dX9_source_190 rfl hl (by decide) rfl (fun ls hl => ?_)
                                    obtain ⟨x_712, ex_712⟩ : ∃ z : Int32, z = k + 1 := ⟨_, rfl⟩
                                    have tx_712 := ad_toInt (x := k) (y := 1) (z := x_712) (zx := (k).toInt) (zy := 1) ex_712 rfl (by decide)
                                    refine lv_iinc (v := x_712) (lv' := [(4, .int x_712), (3, .int z_711), (5, .int 0), (0, .ref h0), (1, .int p0), (2, .int p1)]) hx hb dX9_source_191 hl (k := 2) rfl (by rw [ex_712]; rfl) (by decide) rfl (fun ls hl => ?_)
                                    refine lv_goto (tgt := 27) hx hb dX9_source_194 (by decide) ?_
                                    exact ih _ _ _ (by first | omega | assumption) (by omega) (lv_sub hl [0, 1, 3, 4, 5] rfl)
            · refine lv_aload_n hx hb dX9_source_83 rfl (lv_at hl 3 rfl) ?_
              refine va_get (D := D) (ci := 9) (v := .ref b7) (C := RX9) (T := TX9) (N := 37) hx hb hts hin_X9 hown hK hP 0 rfl rfl 13 (by decide) (hts (.fieldLink RX9 35 "CryOrderModel" "repeats" "[I") (List.mem_cons_of_mem _ (List.mem_append_left _ (List.mem_of_getElem? (i := 4) rfl)))) (fun _ h9 => h9) rfl dX9_source_84 ?_
              refine lv_iload hx hb dX9_source_87 (lv_at hl 1 rfl) ?_
              refine va_iald hx hb hK hP 4 3 rfl rfl (vp_in_iff.mpr (by omega)) dX9_source_89 ?_
              refine lv_topi (fun z_713 ez_713 => ?_)
              refine lv_goto (tgt := 189) hx hb dX9_source_90 (by decide) ?_
              refine lv_iadd hx hb dX9_source_189 ?_
              refine lv_topi (fun z_714 ez_714 => ?_)
              have tz_714 := ad_toInt (zx := (x).toInt) (zy := (z_713).toInt) ez_714 rfl rfl
              refine lv_istore_n (lv' := [(3, .int z_714), (5, .int 0), (4, .int k), (0, .ref h0), (1, .int p0), (2, .int p1)]) hx hb dX9_source_190 rfl hl (by decide) rfl (fun ls hl => ?_)
              obtain ⟨x_715, ex_715⟩ : ∃ z : Int32, z = k + 1 := ⟨_, rfl⟩
              have tx_715 := ad_toInt (x := k) (y := 1) (z := x_715) (zx := (k).toInt) (zy := 1) ex_715 rfl (by decide)
              refine lv_iinc (v := x_715) (lv' := [(4, .int x_715), (3, .int z_714), (5, .int 0), (0, .ref h0), (1, .int p0), (2, .int p1)]) hx hb dX9_source_191 hl (k := 2) rfl (by rw [ex_715]; rfl) (by decide) rfl (fun ls hl => ?_)
              refine lv_goto (tgt := 27) hx hb dX9_source_194 (by decide) ?_
              exact ih _ _ _ (by first | omega | assumption) (by omega) (lv_sub hl [0, 1, 3, 4, 5] rfl)
          · refine lv_iconst (v := 1) hx hb dX9_source_70 (by decide) ?_
            refine lv_goto (tgt := 75) hx hb dX9_source_71 (by decide) ?_
            refine lv_istore (lv' := [(5, .int 1), (4, .int k), (3, .int x), (0, .ref h0), (1, .int p0), (2, .int p1)]) hx hb dX9_source_75 hl (by decide) rfl (fun ls hl => ?_)
            refine lv_iload_n hx hb dX9_source_77 rfl (lv_at hl 2 rfl) ?_
            refine lv_iload_n hx hb dX9_source_78 rfl (lv_at hl 5 rfl) ?_
            refine lv_iconst (v := 1) hx hb dX9_source_79 (by decide) ?_
            refine bi_ne (zx := (p1).toInt) (zy := 1) (tgt := 93) hx hb dX9_source_80 (by decide) rfl (by decide) (fun c_716 => ?_) (fun c_716 => ?_)
            · refine lv_iload_n hx hb dX9_source_93 rfl (lv_at hl 5 rfl) ?_
              refine bz_eq (zx := (p1).toInt) (tgt := 181) hx hb dX9_source_94 (by decide) rfl (fun c_717 => ?_) (fun c_717 => ?_)
              · refine lv_iconst (v := 1) hx hb dX9_source_181 (by decide) ?_
                refine lv_goto (tgt := 186) hx hb dX9_source_182 (by decide) ?_
                refine vp_callSi (zrS (As := [.int 1]) (rest := [.int x]) (wc := []) ⟨hx, hb, hml, hown, hts⟩ hN hK hP hD (m_one1 l D  ) (va_cwS 1 hts gX9_source_X9_one rfl rfl rfl (by decide +kernel) ⟨Nat.le_trans (m := 1) (Nat.le_of_ble_eq_true rfl) hR.1, Nat.le_trans (m := 20) (Nat.le_of_ble_eq_true rfl) hR.2⟩) [] [] rfl rfl (by decide) rfl hl.1 rfl (Nat.le_of_ble_eq_true rfl) dX9_source_186 ⟨hcs.1, hcs.2⟩) (fun r_718 h_719 => ?_)
                subst h_719
                refine lv_iadd hx hb dX9_source_189 ?_
                refine lv_topi (fun z_720 ez_720 => ?_)
                have tz_720 := ad_toInt (zx := (x).toInt) (zy := 1) ez_720 rfl (by decide)
                refine lv_istore_n (lv' := [(3, .int z_720), (5, .int 1), (4, .int k), (0, .ref h0), (1, .int p0), (2, .int p1)]) hx hb dX9_source_190 rfl hl (by decide) rfl (fun ls hl => ?_)
                obtain ⟨x_721, ex_721⟩ : ∃ z : Int32, z = k + 1 := ⟨_, rfl⟩
                have tx_721 := ad_toInt (x := k) (y := 1) (z := x_721) (zx := (k).toInt) (zy := 1) ex_721 rfl (by decide)
                refine lv_iinc (v := x_721) (lv' := [(4, .int x_721), (3, .int z_720), (5, .int 1), (0, .ref h0), (1, .int p0), (2, .int p1)]) hx hb dX9_source_191 hl (k := 2) rfl (by rw [ex_721]; rfl) (by decide) rfl (fun ls hl => ?_)
                refine lv_goto (tgt := 27) hx hb dX9_source_194 (by decide) ?_
                exact ih _ _ _ (by first | omega | assumption) (by omega) (lv_sub hl [0, 1, 3, 4, 5] rfl)
              · refine lv_iload_n hx hb dX9_source_97 rfl (lv_at hl 5 rfl) ?_
                refine lv_iconst (v := 2) hx hb dX9_source_98 (by decide) ?_
                refine bi_ne (zx := (p1).toInt) (zy := 2) (tgt := 112) hx hb dX9_source_99 (by decide) rfl (by decide) (fun c_722 => ?_) (fun c_722 => ?_)
                · refine lv_iload_n hx hb dX9_source_112 rfl (lv_at hl 5 rfl) ?_
                  refine lv_iconst (v := 3) hx hb dX9_source_113 (by decide) ?_
                  refine bi_ne (zx := (p1).toInt) (zy := 3) (tgt := 127) hx hb dX9_source_114 (by decide) rfl (by decide) (fun c_723 => ?_) (fun c_723 => ?_)
                  · refine lv_iload_n hx hb dX9_source_127 rfl (lv_at hl 5 rfl) ?_
                    refine lv_iconst (v := 4) hx hb dX9_source_128 (by decide) ?_
                    refine bi_ne (zx := (p1).toInt) (zy := 4) (tgt := 143) hx hb dX9_source_129 (by decide) rfl (by decide) (fun c_724 => ?_) (fun c_724 => ?_)
                    · refine lv_iload_n hx hb dX9_source_143 rfl (lv_at hl 5 rfl) ?_
                      refine lv_iconst (v := 5) hx hb dX9_source_144 (by decide) ?_
                      refine bi_ne (zx := (p1).toInt) (zy := 5) (tgt := 159) hx hb dX9_source_145 (by decide) rfl (by decide) (fun c_725 => ?_) (fun c_725 => ?_)
                      · refine lv_iload_n hx hb dX9_source_159 rfl (lv_at hl 5 rfl) ?_
                        refine lv_bipush (v := 6) hx hb dX9_source_160 (by decide) ?_
                        refine bi_ne (zx := (p1).toInt) (zy := 6) (tgt := 185) hx hb dX9_source_162 (by decide) rfl (by decide) (fun c_726 => ?_) (fun c_726 => ?_)
                        · refine lv_iconst (v := 0) hx hb dX9_source_185 (by decide) ?_
                          refine vp_callSi (zrS (As := [.int 0]) (rest := [.int x]) (wc := []) ⟨hx, hb, hml, hown, hts⟩ hN hK hP hD (m_one0 l D  ) (va_cwS 1 hts gX9_source_X9_one rfl rfl rfl (by decide +kernel) ⟨Nat.le_trans (m := 1) (Nat.le_of_ble_eq_true rfl) hR.1, Nat.le_trans (m := 20) (Nat.le_of_ble_eq_true rfl) hR.2⟩) [] [] rfl rfl (by decide) rfl hl.1 rfl (Nat.le_of_ble_eq_true rfl) dX9_source_186 ⟨hcs.1, hcs.2⟩) (fun r_727 h_728 => ?_)
                          subst h_728
                          refine lv_iadd hx hb dX9_source_189 ?_
                          refine lv_topi (fun z_729 ez_729 => ?_)
                          have tz_729 := ad_toInt (zx := (x).toInt) (zy := 0) ez_729 rfl (by decide)
                          refine lv_istore_n (lv' := [(3, .int z_729), (5, .int 1), (4, .int k), (0, .ref h0), (1, .int p0), (2, .int p1)]) hx hb dX9_source_190 rfl hl (by decide) rfl (fun ls hl => ?_)
                          obtain ⟨x_730, ex_730⟩ : ∃ z : Int32, z = k + 1 := ⟨_, rfl⟩
                          have tx_730 := ad_toInt (x := k) (y := 1) (z := x_730) (zx := (k).toInt) (zy := 1) ex_730 rfl (by decide)
                          refine lv_iinc (v := x_730) (lv' := [(4, .int x_730), (3, .int z_729), (5, .int 1), (0, .ref h0), (1, .int p0), (2, .int p1)]) hx hb dX9_source_191 hl (k := 2) rfl (by rw [ex_730]; rfl) (by decide) rfl (fun ls hl => ?_)
                          refine lv_goto (tgt := 27) hx hb dX9_source_194 (by decide) ?_
                          exact ih _ _ _ (by first | omega | assumption) (by omega) (lv_sub hl [0, 1, 3, 4, 5] rfl)
                        · refine lv_aload_n hx hb dX9_source_165 rfl (lv_at hl 3 rfl) ?_
                          refine va_get (D := D) (ci := 9) (v := .ref b8) (C := RX9) (T := TX9) (N := 37) hx hb hts hin_X9 hown hK hP 0 rfl rfl 14 (by decide) (hts (.fieldLink RX9 38 "CryOrderModel" "state" "[I") (List.mem_cons_of_mem _ (List.mem_append_left _ (List.mem_of_getElem? (i := 5) rfl)))) (fun _ h9 => h9) rfl dX9_source_166 ?_
                          refine lv_iload hx hb dX9_source_169 (lv_at hl 1 rfl) ?_
                          refine va_iald hx hb hK hP 5 4 rfl rfl (vp_in_iff.mpr (by omega)) dX9_source_171 ?_
                          refine lv_topi (fun z_731 ez_731 => ?_)
                          refine lv_iconst (v := 1) hx hb dX9_source_172 (by decide) ?_
                          refine bi_ne (zx := (z_731).toInt) (zy := 1) (tgt := 185) hx hb dX9_source_173 (by decide) rfl (by decide) (fun c_732 => ?_) (fun c_732 => ?_)
                          · refine lv_iconst (v := 0) hx hb dX9_source_185 (by decide) ?_
                            refine vp_callSi (zrS (As := [.int 0]) (rest := [.int x]) (wc := []) ⟨hx, hb, hml, hown, hts⟩ hN hK hP hD (m_one0 l D  ) (va_cwS 1 hts gX9_source_X9_one rfl rfl rfl (by decide +kernel) ⟨Nat.le_trans (m := 1) (Nat.le_of_ble_eq_true rfl) hR.1, Nat.le_trans (m := 20) (Nat.le_of_ble_eq_true rfl) hR.2⟩) [] [] rfl rfl (by decide) rfl hl.1 rfl (Nat.le_of_ble_eq_true rfl) dX9_source_186 ⟨hcs.1, hcs.2⟩) (fun r_733 h_734 => ?_)
                            subst h_734
                            refine lv_iadd hx hb dX9_source_189 ?_
                            refine lv_topi (fun z_735 ez_735 => ?_)
                            have tz_735 := ad_toInt (zx := (x).toInt) (zy := 0) ez_735 rfl (by decide)
                            refine lv_istore_n (lv' := [(3, .int z_735), (5, .int 1), (4, .int k), (0, .ref h0), (1, .int p0), (2, .int p1)]) hx hb dX9_source_190 rfl hl (by decide) rfl (fun ls hl => ?_)
                            obtain ⟨x_736, ex_736⟩ : ∃ z : Int32, z = k + 1 := ⟨_, rfl⟩
                            have tx_736 := ad_toInt (x := k) (y := 1) (z := x_736) (zx := (k).toInt) (zy := 1) ex_736 rfl (by decide)
                            refine lv_iinc (v := x_736) (lv' := [(4, .int x_736), (3, .int z_735), (5, .int 1), (0, .ref h0), (1, .int p0), (2, .int p1)]) hx hb dX9_source_191 hl (k := 2) rfl (by rw [ex_736]; rfl) (by decide) rfl (fun ls hl => ?_)
                            refine lv_goto (tgt := 27) hx hb dX9_source_194 (by decide) ?_
                            exact ih _ _ _ (by first | omega | assumption) (by omega) (lv_sub hl [0, 1, 3, 4, 5] rfl)
                          · refine lv_iload hx hb dX9_source_176 (lv_at hl 0 rfl) ?_
                            refine lv_if_ne (tgt := 185) hx hb dX9_source_178 (by decide) (fun _ => ?_) (fun c_ => absurd c_ (by decide))
                            refine lv_iconst (v := 0) hx hb dX9_source_185 (by decide) ?_
                            refine vp_callSi (zrS (As := [.int 0]) (rest := [.int x]) (wc := []) ⟨hx, hb, hml, hown, hts⟩ hN hK hP hD (m_one0 l D  ) (va_cwS 1 hts gX9_source_X9_one rfl rfl rfl (by decide +kernel) ⟨Nat.le_trans (m := 1) (Nat.le_of_ble_eq_true rfl) hR.1, Nat.le_trans (m := 20) (Nat.le_of_ble_eq_true rfl) hR.2⟩) [] [] rfl rfl (by decide) rfl hl.1 rfl (Nat.le_of_ble_eq_true rfl) dX9_source_186 ⟨hcs.1, hcs.2⟩) (fun r_737 h_738 => ?_)
                            subst h_738
                            refine lv_iadd hx hb dX9_source_189 ?_
                            refine lv_topi (fun z_739 ez_739 => ?_)
                            have tz_739 := ad_toInt (zx := (x).toInt) (zy := 0) ez_739 rfl (by decide)
                            refine lv_istore_n (lv' := [(3, .int z_739), (5, .int 1), (4, .int k), (0, .ref h0), (1, .int p0), (2, .int p1)]) hx hb dX9_source_190 rfl hl (by decide) rfl (fun ls hl => ?_)
                            obtain ⟨x_740, ex_740⟩ : ∃ z : Int32, z = k + 1 := ⟨_, rfl⟩
                            have tx_740 := ad_toInt (x := k) (y := 1) (z := x_740) (zx := (k).toInt) (zy := 1) ex_740 rfl (by decide)
                            refine lv_iinc (v := x_740) (lv' := [(4, .int x_740), (3, .int z_739), (5, .int 1), (0, .ref h0), (1, .int p0), (2, .int p1)]) hx hb dX9_source_191 hl (k := 2) rfl (by rw [ex_740]; rfl) (by decide) rfl (fun ls hl => ?_)
                            refine lv_goto (tgt := 27) hx hb dX9_source_194 (by decide) ?_
                            exact ih _ _ _ (by first | omega | assumption) (by omega) (lv_sub hl [0, 1, 3, 4, 5] rfl)
                      · refine lv_aload_n hx hb dX9_source_148 rfl (lv_at hl 3 rfl) ?_
                        refine va_get (D := D) (ci := 9) (v := .ref b8) (C := RX9) (T := TX9) (N := 37) hx hb hts hin_X9 hown hK hP 0 rfl rfl 14 (by decide) (hts (.fieldLink RX9 38 "CryOrderModel" "state" "[I") (List.mem_cons_of_mem _ (List.mem_append_left _ (List.mem_of_getElem? (i := 5) rfl)))) (fun _ h9 => h9) rfl dX9_source_149 ?_
                        refine lv_iload hx hb dX9_source_152 (lv_at hl 1 rfl) ?_
                        refine va_iald hx hb hK hP 5 4 rfl rfl (vp_in_iff.mpr (by omega)) dX9_source_154 ?_
                        refine lv_topi (fun z_741 ez_741 => ?_)
                        refine lv_iconst (v := 2) hx hb dX9_source_155 (by decide) ?_
                        refine bi_eq (zx := (z_741).toInt) (zy := 2) (tgt := 181) hx hb dX9_source_156 (by decide) rfl (by decide) (fun c_742 => ?_) (fun c_742 => ?_)
                        · refine lv_iconst (v := 1) hx hb dX9_source_181 (by decide) ?_
                          refine lv_goto (tgt := 186) hx hb dX9_source_182 (by decide) ?_
                          refine vp_callSi (zrS (As := [.int 1]) (rest := [.int x]) (wc := []) ⟨hx, hb, hml, hown, hts⟩ hN hK hP hD (m_one1 l D  ) (va_cwS 1 hts gX9_source_X9_one rfl rfl rfl (by decide +kernel) ⟨Nat.le_trans (m := 1) (Nat.le_of_ble_eq_true rfl) hR.1, Nat.le_trans (m := 20) (Nat.le_of_ble_eq_true rfl) hR.2⟩) [] [] rfl rfl (by decide) rfl hl.1 rfl (Nat.le_of_ble_eq_true rfl) dX9_source_186 ⟨hcs.1, hcs.2⟩) (fun r_743 h_744 => ?_)
                          subst h_744
                          refine lv_iadd hx hb dX9_source_189 ?_
                          refine lv_topi (fun z_745 ez_745 => ?_)
                          have tz_745 := ad_toInt (zx := (x).toInt) (zy := 1) ez_745 rfl (by decide)
                          refine lv_istore_n (lv' := [(3, .int z_745), (5, .int 1), (4, .int k), (0, .ref h0), (1, .int p0), (2, .int p1)]) hx hb dX9_source_190 rfl hl (by decide) rfl (fun ls hl => ?_)
                          obtain ⟨x_746, ex_746⟩ : ∃ z : Int32, z = k + 1 := ⟨_, rfl⟩
                          have tx_746 := ad_toInt (x := k) (y := 1) (z := x_746) (zx := (k).toInt) (zy := 1) ex_746 rfl (by decide)
                          refine lv_iinc (v := x_746) (lv' := [(4, .int x_746), (3, .int z_745), (5, .int 1), (0, .ref h0), (1, .int p0), (2, .int p1)]) hx hb dX9_source_191 hl (k := 2) rfl (by rw [ex_746]; rfl) (by decide) rfl (fun ls hl => ?_)
                          refine lv_goto (tgt := 27) hx hb dX9_source_194 (by decide) ?_
                          exact ih _ _ _ (by first | omega | assumption) (by omega) (lv_sub hl [0, 1, 3, 4, 5] rfl)
                        · refine lv_iload_n hx hb dX9_source_159 rfl (lv_at hl 5 rfl) ?_
                          refine lv_bipush (v := 6) hx hb dX9_source_160 (by decide) ?_
                          refine bi_ne (zx := (p1).toInt) (zy := 6) (tgt := 185) hx hb dX9_source_162 (by decide) rfl (by decide) (fun c_747 => ?_) (fun c_747 => ?_)
                          · refine lv_iconst (v := 0) hx hb dX9_source_185 (by decide) ?_
                            refine vp_callSi (zrS (As := [.int 0]) (rest := [.int x]) (wc := []) ⟨hx, hb, hml, hown, hts⟩ hN hK hP hD (m_one0 l D  ) (va_cwS 1 hts gX9_source_X9_one rfl rfl rfl (by decide +kernel) ⟨Nat.le_trans (m := 1) (Nat.le_of_ble_eq_true rfl) hR.1, Nat.le_trans (m := 20) (Nat.le_of_ble_eq_true rfl) hR.2⟩) [] [] rfl rfl (by decide) rfl hl.1 rfl (Nat.le_of_ble_eq_true rfl) dX9_source_186 ⟨hcs.1, hcs.2⟩) (fun r_748 h_749 => ?_)
                            subst h_749
                            refine lv_iadd hx hb dX9_source_189 ?_
                            refine lv_topi (fun z_750 ez_750 => ?_)
                            have tz_750 := ad_toInt (zx := (x).toInt) (zy := 0) ez_750 rfl (by decide)
                            refine lv_istore_n (lv' := [(3, .int z_750), (5, .int 1), (4, .int k), (0, .ref h0), (1, .int p0), (2, .int p1)]) hx hb dX9_source_190 rfl hl (by decide) rfl (fun ls hl => ?_)
                            obtain ⟨x_751, ex_751⟩ : ∃ z : Int32, z = k + 1 := ⟨_, rfl⟩
                            have tx_751 := ad_toInt (x := k) (y := 1) (z := x_751) (zx := (k).toInt) (zy := 1) ex_751 rfl (by decide)
                            refine lv_iinc (v := x_751) (lv' := [(4, .int x_751), (3, .int z_750), (5, .int 1), (0, .ref h0), (1, .int p0), (2, .int p1)]) hx hb dX9_source_191 hl (k := 2) rfl (by rw [ex_751]; rfl) (by decide) rfl (fun ls hl => ?_)
                            refine lv_goto (tgt := 27) hx hb dX9_source_194 (by decide) ?_
                            exact ih _ _ _ (by first | omega | assumption) (by omega) (lv_sub hl [0, 1, 3, 4, 5] rfl)
                          · refine lv_aload_n hx hb dX9_source_165 rfl (lv_at hl 3 rfl) ?_
                            refine va_get (D := D) (ci := 9) (v := .ref b8) (C := RX9) (T := TX9) (N := 37) hx hb hts hin_X9 hown hK hP 0 rfl rfl 14 (by decide) (hts (.fieldLink RX9 38 "CryOrderModel" "state" "[I") (List.mem_cons_of_mem _ (List.mem_append_left _ (List.mem_of_getElem? (i := 5) rfl)))) (fun _ h9 => h9) rfl dX9_source_166 ?_
                            refine lv_iload hx hb dX9_source_169 (lv_at hl 1 rfl) ?_
                            refine va_iald hx hb hK hP 5 4 rfl rfl (vp_in_iff.mpr (by omega)) dX9_source_171 ?_
                            refine lv_topi (fun z_752 ez_752 => ?_)
                            have qz_752 : (z_752).toInt = (z_741).toInt := by rw [ez_752, ez_741]
                            refine lv_iconst (v := 1) hx hb dX9_source_172 (by decide) ?_
                            refine bi_ne (zx := (z_752).toInt) (zy := 1) (tgt := 185) hx hb dX9_source_173 (by decide) rfl (by decide) (fun c_753 => ?_) (fun c_753 => ?_)
                            · refine lv_iconst (v := 0) hx hb dX9_source_185 (by decide) ?_
                              refine vp_callSi (zrS (As := [.int 0]) (rest := [.int x]) (wc := []) ⟨hx, hb, hml, hown, hts⟩ hN hK hP hD (m_one0 l D  ) (va_cwS 1 hts gX9_source_X9_one rfl rfl rfl (by decide +kernel) ⟨Nat.le_trans (m := 1) (Nat.le_of_ble_eq_true rfl) hR.1, Nat.le_trans (m := 20) (Nat.le_of_ble_eq_true rfl) hR.2⟩) [] [] rfl rfl (by decide) rfl hl.1 rfl (Nat.le_of_ble_eq_true rfl) dX9_source_186 ⟨hcs.1, hcs.2⟩) (fun r_754 h_755 => ?_)
                              subst h_755
                              refine lv_iadd hx hb dX9_source_189 ?_
                              refine lv_topi (fun z_756 ez_756 => ?_)
                              have tz_756 := ad_toInt (zx := (x).toInt) (zy := 0) ez_756 rfl (by decide)
                              refine lv_istore_n (lv' := [(3, .int z_756), (5, .int 1), (4, .int k), (0, .ref h0), (1, .int p0), (2, .int p1)]) hx hb dX9_source_190 rfl hl (by decide) rfl (fun ls hl => ?_)
                              obtain ⟨x_757, ex_757⟩ : ∃ z : Int32, z = k + 1 := ⟨_, rfl⟩
                              have tx_757 := ad_toInt (x := k) (y := 1) (z := x_757) (zx := (k).toInt) (zy := 1) ex_757 rfl (by decide)
                              refine lv_iinc (v := x_757) (lv' := [(4, .int x_757), (3, .int z_756), (5, .int 1), (0, .ref h0), (1, .int p0), (2, .int p1)]) hx hb dX9_source_191 hl (k := 2) rfl (by rw [ex_757]; rfl) (by decide) rfl (fun ls hl => ?_)
                              refine lv_goto (tgt := 27) hx hb dX9_source_194 (by decide) ?_
                              exact ih _ _ _ (by first | omega | assumption) (by omega) (lv_sub hl [0, 1, 3, 4, 5] rfl)
                            · refine lv_iload hx hb dX9_source_176 (lv_at hl 0 rfl) ?_
                              refine lv_if_ne (tgt := 185) hx hb dX9_source_178 (by decide) (fun _ => ?_) (fun c_ => absurd c_ (by decide))
                              refine lv_iconst (v := 0) hx hb dX9_source_185 (by decide) ?_
                              refine vp_callSi (zrS (As := [.int 0]) (rest := [.int x]) (wc := []) ⟨hx, hb, hml, hown, hts⟩ hN hK hP hD (m_one0 l D  ) (va_cwS 1 hts gX9_source_X9_one rfl rfl rfl (by decide +kernel) ⟨Nat.le_trans (m := 1) (Nat.le_of_ble_eq_true rfl) hR.1, Nat.le_trans (m := 20) (Nat.le_of_ble_eq_true rfl) hR.2⟩) [] [] rfl rfl (by decide) rfl hl.1 rfl (Nat.le_of_ble_eq_true rfl) dX9_source_186 ⟨hcs.1, hcs.2⟩) (fun r_758 h_759 => ?_)
                              subst h_759
                              refine lv_iadd hx hb dX9_source_189 ?_
                              refine lv_topi (fun z_760 ez_760 => ?_)
                              have tz_760 := ad_toInt (zx := (x).toInt) (zy := 0) ez_760 rfl (by decide)
                              refine lv_istore_n (lv' := [(3, .int z_760), (5, .int 1), (4, .int k), (0, .ref h0), (1, .int p0), (2, .int p1)]) hx hb dX9_source_190 rfl hl (by decide) rfl (fun ls hl => ?_)
                              obtain ⟨x_761, ex_761⟩ : ∃ z : Int32, z = k + 1 := ⟨_, rfl⟩
                              have tx_761 := ad_toInt (x := k) (y := 1) (z := x_761) (zx := (k).toInt) (zy := 1) ex_761 rfl (by decide)
                              refine lv_iinc (v := x_761) (lv' := [(4, .int x_761), (3, .int z_760), (5, .int 1), (0, .ref h0), (1, .int p0), (2, .int p1)]) hx hb dX9_source_191 hl (k := 2) rfl (by rw [ex_761]; rfl) (by decide) rfl (fun ls hl => ?_)
                              refine lv_goto (tgt := 27) hx hb dX9_source_194 (by decide) ?_
                              exact ih _ _ _ (by first | omega | assumption) (by omega) (lv_sub hl [0, 1, 3, 4, 5] rfl)
                    · refine lv_aload_n hx hb dX9_source_132 rfl (lv_at hl 3 rfl) ?_
                      refine va_get (D := D) (ci := 9) (v := .ref b8) (C := RX9) (T := TX9) (N := 37) hx hb hts hin_X9 hown hK hP 0 rfl rfl 14 (by decide) (hts (.fieldLink RX9 38 "CryOrderModel" "state" "[I") (List.mem_cons_of_mem _ (List.mem_append_left _ (List.mem_of_getElem? (i := 5) rfl)))) (fun _ h9 => h9) rfl dX9_source_133 ?_
                      refine lv_iload hx hb dX9_source_136 (lv_at hl 1 rfl) ?_
                      refine va_iald hx hb hK hP 5 4 rfl rfl (vp_in_iff.mpr (by omega)) dX9_source_138 ?_
                      refine lv_topi (fun z_762 ez_762 => ?_)
                      refine lv_iconst (v := 1) hx hb dX9_source_139 (by decide) ?_
                      refine bi_eq (zx := (z_762).toInt) (zy := 1) (tgt := 181) hx hb dX9_source_140 (by decide) rfl (by decide) (fun c_763 => ?_) (fun c_763 => ?_)
                      · refine lv_iconst (v := 1) hx hb dX9_source_181 (by decide) ?_
                        refine lv_goto (tgt := 186) hx hb dX9_source_182 (by decide) ?_
                        refine vp_callSi (zrS (As := [.int 1]) (rest := [.int x]) (wc := []) ⟨hx, hb, hml, hown, hts⟩ hN hK hP hD (m_one1 l D  ) (va_cwS 1 hts gX9_source_X9_one rfl rfl rfl (by decide +kernel) ⟨Nat.le_trans (m := 1) (Nat.le_of_ble_eq_true rfl) hR.1, Nat.le_trans (m := 20) (Nat.le_of_ble_eq_true rfl) hR.2⟩) [] [] rfl rfl (by decide) rfl hl.1 rfl (Nat.le_of_ble_eq_true rfl) dX9_source_186 ⟨hcs.1, hcs.2⟩) (fun r_764 h_765 => ?_)
                        subst h_765
                        refine lv_iadd hx hb dX9_source_189 ?_
                        refine lv_topi (fun z_766 ez_766 => ?_)
                        have tz_766 := ad_toInt (zx := (x).toInt) (zy := 1) ez_766 rfl (by decide)
                        refine lv_istore_n (lv' := [(3, .int z_766), (5, .int 1), (4, .int k), (0, .ref h0), (1, .int p0), (2, .int p1)]) hx hb dX9_source_190 rfl hl (by decide) rfl (fun ls hl => ?_)
                        obtain ⟨x_767, ex_767⟩ : ∃ z : Int32, z = k + 1 := ⟨_, rfl⟩
                        have tx_767 := ad_toInt (x := k) (y := 1) (z := x_767) (zx := (k).toInt) (zy := 1) ex_767 rfl (by decide)
                        refine lv_iinc (v := x_767) (lv' := [(4, .int x_767), (3, .int z_766), (5, .int 1), (0, .ref h0), (1, .int p0), (2, .int p1)]) hx hb dX9_source_191 hl (k := 2) rfl (by rw [ex_767]; rfl) (by decide) rfl (fun ls hl => ?_)
                        refine lv_goto (tgt := 27) hx hb dX9_source_194 (by decide) ?_
                        exact ih _ _ _ (by first | omega | assumption) (by omega) (lv_sub hl [0, 1, 3, 4, 5] rfl)
                      · refine lv_iload_n hx hb dX9_source_143 rfl (lv_at hl 5 rfl) ?_
                        refine lv_iconst (v := 5) hx hb dX9_source_144 (by decide) ?_
                        refine bi_ne (zx := (p1).toInt) (zy := 5) (tgt := 159) hx hb dX9_source_145 (by decide) rfl (by decide) (fun c_768 => ?_) (fun c_768 => ?_)
                        · refine lv_iload_n hx hb dX9_source_159 rfl (lv_at hl 5 rfl) ?_
                          refine lv_bipush (v := 6) hx hb dX9_source_160 (by decide) ?_
                          refine bi_ne (zx := (p1).toInt) (zy := 6) (tgt := 185) hx hb dX9_source_162 (by decide) rfl (by decide) (fun c_769 => ?_) (fun c_769 => ?_)
                          · refine lv_iconst (v := 0) hx hb dX9_source_185 (by decide) ?_
                            refine vp_callSi (zrS (As := [.int 0]) (rest := [.int x]) (wc := []) ⟨hx, hb, hml, hown, hts⟩ hN hK hP hD (m_one0 l D  ) (va_cwS 1 hts gX9_source_X9_one rfl rfl rfl (by decide +kernel) ⟨Nat.le_trans (m := 1) (Nat.le_of_ble_eq_true rfl) hR.1, Nat.le_trans (m := 20) (Nat.le_of_ble_eq_true rfl) hR.2⟩) [] [] rfl rfl (by decide) rfl hl.1 rfl (Nat.le_of_ble_eq_true rfl) dX9_source_186 ⟨hcs.1, hcs.2⟩) (fun r_770 h_771 => ?_)
                            subst h_771
                            refine lv_iadd hx hb dX9_source_189 ?_
                            refine lv_topi (fun z_772 ez_772 => ?_)
                            have tz_772 := ad_toInt (zx := (x).toInt) (zy := 0) ez_772 rfl (by decide)
                            refine lv_istore_n (lv' := [(3, .int z_772), (5, .int 1), (4, .int k), (0, .ref h0), (1, .int p0), (2, .int p1)]) hx hb dX9_source_190 rfl hl (by decide) rfl (fun ls hl => ?_)
                            obtain ⟨x_773, ex_773⟩ : ∃ z : Int32, z = k + 1 := ⟨_, rfl⟩
                            have tx_773 := ad_toInt (x := k) (y := 1) (z := x_773) (zx := (k).toInt) (zy := 1) ex_773 rfl (by decide)
                            refine lv_iinc (v := x_773) (lv' := [(4, .int x_773), (3, .int z_772), (5, .int 1), (0, .ref h0), (1, .int p0), (2, .int p1)]) hx hb dX9_source_191 hl (k := 2) rfl (by rw [ex_773]; rfl) (by decide) rfl (fun ls hl => ?_)
                            refine lv_goto (tgt := 27) hx hb dX9_source_194 (by decide) ?_
                            exact ih _ _ _ (by first | omega | assumption) (by omega) (lv_sub hl [0, 1, 3, 4, 5] rfl)
                          · refine lv_aload_n hx hb dX9_source_165 rfl (lv_at hl 3 rfl) ?_
                            refine va_get (D := D) (ci := 9) (v := .ref b8) (C := RX9) (T := TX9) (N := 37) hx hb hts hin_X9 hown hK hP 0 rfl rfl 14 (by decide) (hts (.fieldLink RX9 38 "CryOrderModel" "state" "[I") (List.mem_cons_of_mem _ (List.mem_append_left _ (List.mem_of_getElem? (i := 5) rfl)))) (fun _ h9 => h9) rfl dX9_source_166 ?_
                            refine lv_iload hx hb dX9_source_169 (lv_at hl 1 rfl) ?_
                            refine va_iald hx hb hK hP 5 4 rfl rfl (vp_in_iff.mpr (by omega)) dX9_source_171 ?_
                            refine lv_topi (fun z_774 ez_774 => ?_)
                            have qz_774 : (z_774).toInt = (z_762).toInt := by rw [ez_774, ez_762]
                            refine lv_iconst (v := 1) hx hb dX9_source_172 (by decide) ?_
                            refine bi_ne (zx := (z_774).toInt) (zy := 1) (tgt := 185) hx hb dX9_source_173 (by decide) rfl (by decide) (fun c_775 => ?_) (fun c_775 => ?_)
                            · refine lv_iconst (v := 0) hx hb dX9_source_185 (by decide) ?_
                              refine vp_callSi (zrS (As := [.int 0]) (rest := [.int x]) (wc := []) ⟨hx, hb, hml, hown, hts⟩ hN hK hP hD (m_one0 l D  ) (va_cwS 1 hts gX9_source_X9_one rfl rfl rfl (by decide +kernel) ⟨Nat.le_trans (m := 1) (Nat.le_of_ble_eq_true rfl) hR.1, Nat.le_trans (m := 20) (Nat.le_of_ble_eq_true rfl) hR.2⟩) [] [] rfl rfl (by decide) rfl hl.1 rfl (Nat.le_of_ble_eq_true rfl) dX9_source_186 ⟨hcs.1, hcs.2⟩) (fun r_776 h_777 => ?_)
                              subst h_777
                              refine lv_iadd hx hb dX9_source_189 ?_
                              refine lv_topi (fun z_778 ez_778 => ?_)
                              have tz_778 := ad_toInt (zx := (x).toInt) (zy := 0) ez_778 rfl (by decide)
                              refine lv_istore_n (lv' := [(3, .int z_778), (5, .int 1), (4, .int k), (0, .ref h0), (1, .int p0), (2, .int p1)]) hx hb dX9_source_190 rfl hl (by decide) rfl (fun ls hl => ?_)
                              obtain ⟨x_779, ex_779⟩ : ∃ z : Int32, z = k + 1 := ⟨_, rfl⟩
                              have tx_779 := ad_toInt (x := k) (y := 1) (z := x_779) (zx := (k).toInt) (zy := 1) ex_779 rfl (by decide)
                              refine lv_iinc (v := x_779) (lv' := [(4, .int x_779), (3, .int z_778), (5, .int 1), (0, .ref h0), (1, .int p0), (2, .int p1)]) hx hb dX9_source_191 hl (k := 2) rfl (by rw [ex_779]; rfl) (by decide) rfl (fun ls hl => ?_)
                              refine lv_goto (tgt := 27) hx hb dX9_source_194 (by decide) ?_
                              exact ih _ _ _ (by first | omega | assumption) (by omega) (lv_sub hl [0, 1, 3, 4, 5] rfl)
                            · refine lv_iload hx hb dX9_source_176 (lv_at hl 0 rfl) ?_
                              refine lv_if_ne (tgt := 185) hx hb dX9_source_178 (by decide) (fun _ => ?_) (fun c_ => absurd c_ (by decide))
                              refine lv_iconst (v := 0) hx hb dX9_source_185 (by decide) ?_
                              refine vp_callSi (zrS (As := [.int 0]) (rest := [.int x]) (wc := []) ⟨hx, hb, hml, hown, hts⟩ hN hK hP hD (m_one0 l D  ) (va_cwS 1 hts gX9_source_X9_one rfl rfl rfl (by decide +kernel) ⟨Nat.le_trans (m := 1) (Nat.le_of_ble_eq_true rfl) hR.1, Nat.le_trans (m := 20) (Nat.le_of_ble_eq_true rfl) hR.2⟩) [] [] rfl rfl (by decide) rfl hl.1 rfl (Nat.le_of_ble_eq_true rfl) dX9_source_186 ⟨hcs.1, hcs.2⟩) (fun r_780 h_781 => ?_)
                              subst h_781
                              refine lv_iadd hx hb dX9_source_189 ?_
                              refine lv_topi (fun z_782 ez_782 => ?_)
                              have tz_782 := ad_toInt (zx := (x).toInt) (zy := 0) ez_782 rfl (by decide)
                              refine lv_istore_n (lv' := [(3, .int z_782), (5, .int 1), (4, .int k), (0, .ref h0), (1, .int p0), (2, .int p1)]) hx hb dX9_source_190 rfl hl (by decide) rfl (fun ls hl => ?_)
                              obtain ⟨x_783, ex_783⟩ : ∃ z : Int32, z = k + 1 := ⟨_, rfl⟩
                              have tx_783 := ad_toInt (x := k) (y := 1) (z := x_783) (zx := (k).toInt) (zy := 1) ex_783 rfl (by decide)
                              refine lv_iinc (v := x_783) (lv' := [(4, .int x_783), (3, .int z_782), (5, .int 1), (0, .ref h0), (1, .int p0), (2, .int p1)]) hx hb dX9_source_191 hl (k := 2) rfl (by rw [ex_783]; rfl) (by decide) rfl (fun ls hl => ?_)
                              refine lv_goto (tgt := 27) hx hb dX9_source_194 (by decide) ?_
                              exact ih _ _ _ (by first | omega | assumption) (by omega) (lv_sub hl [0, 1, 3, 4, 5] rfl)
                        · refine lv_aload_n hx hb dX9_source_148 rfl (lv_at hl 3 rfl) ?_
                          refine va_get (D := D) (ci := 9) (v := .ref b8) (C := RX9) (T := TX9) (N := 37) hx hb hts hin_X9 hown hK hP 0 rfl rfl 14 (by decide) (hts (.fieldLink RX9 38 "CryOrderModel" "state" "[I") (List.mem_cons_of_mem _ (List.mem_append_left _ (List.mem_of_getElem? (i := 5) rfl)))) (fun _ h9 => h9) rfl dX9_source_149 ?_
                          refine lv_iload hx hb dX9_source_152 (lv_at hl 1 rfl) ?_
                          refine va_iald hx hb hK hP 5 4 rfl rfl (vp_in_iff.mpr (by omega)) dX9_source_154 ?_
                          refine lv_topi (fun z_784 ez_784 => ?_)
                          have qz_784 : (z_784).toInt = (z_762).toInt := by rw [ez_784, ez_762]
                          refine lv_iconst (v := 2) hx hb dX9_source_155 (by decide) ?_
                          refine bi_eq (zx := (z_784).toInt) (zy := 2) (tgt := 181) hx hb dX9_source_156 (by decide) rfl (by decide) (fun c_785 => ?_) (fun c_785 => ?_)
                          · refine lv_iconst (v := 1) hx hb dX9_source_181 (by decide) ?_
                            refine lv_goto (tgt := 186) hx hb dX9_source_182 (by decide) ?_
                            refine vp_callSi (zrS (As := [.int 1]) (rest := [.int x]) (wc := []) ⟨hx, hb, hml, hown, hts⟩ hN hK hP hD (m_one1 l D  ) (va_cwS 1 hts gX9_source_X9_one rfl rfl rfl (by decide +kernel) ⟨Nat.le_trans (m := 1) (Nat.le_of_ble_eq_true rfl) hR.1, Nat.le_trans (m := 20) (Nat.le_of_ble_eq_true rfl) hR.2⟩) [] [] rfl rfl (by decide) rfl hl.1 rfl (Nat.le_of_ble_eq_true rfl) dX9_source_186 ⟨hcs.1, hcs.2⟩) (fun r_786 h_787 => ?_)
                            subst h_787
                            refine lv_iadd hx hb dX9_source_189 ?_
                            refine lv_topi (fun z_788 ez_788 => ?_)
                            have tz_788 := ad_toInt (zx := (x).toInt) (zy := 1) ez_788 rfl (by decide)
                            refine lv_istore_n (lv' := [(3, .int z_788), (5, .int 1), (4, .int k), (0, .ref h0), (1, .int p0), (2, .int p1)]) hx hb dX9_source_190 rfl hl (by decide) rfl (fun ls hl => ?_)
                            obtain ⟨x_789, ex_789⟩ : ∃ z : Int32, z = k + 1 := ⟨_, rfl⟩
                            have tx_789 := ad_toInt (x := k) (y := 1) (z := x_789) (zx := (k).toInt) (zy := 1) ex_789 rfl (by decide)
                            refine lv_iinc (v := x_789) (lv' := [(4, .int x_789), (3, .int z_788), (5, .int 1), (0, .ref h0), (1, .int p0), (2, .int p1)]) hx hb dX9_source_191 hl (k := 2) rfl (by rw [ex_789]; rfl) (by decide) rfl (fun ls hl => ?_)
                            refine lv_goto (tgt := 27) hx hb dX9_source_194 (by decide) ?_
                            exact ih _ _ _ (by first | omega | assumption) (by omega) (lv_sub hl [0, 1, 3, 4, 5] rfl)
                          · refine lv_iload_n hx hb dX9_source_159 rfl (lv_at hl 5 rfl) ?_
                            refine lv_bipush (v := 6) hx hb dX9_source_160 (by decide) ?_
                            refine bi_ne (zx := (p1).toInt) (zy := 6) (tgt := 185) hx hb dX9_source_162 (by decide) rfl (by decide) (fun c_790 => ?_) (fun c_790 => ?_)
                            · refine lv_iconst (v := 0) hx hb dX9_source_185 (by decide) ?_
                              refine vp_callSi (zrS (As := [.int 0]) (rest := [.int x]) (wc := []) ⟨hx, hb, hml, hown, hts⟩ hN hK hP hD (m_one0 l D  ) (va_cwS 1 hts gX9_source_X9_one rfl rfl rfl (by decide +kernel) ⟨Nat.le_trans (m := 1) (Nat.le_of_ble_eq_true rfl) hR.1, Nat.le_trans (m := 20) (Nat.le_of_ble_eq_true rfl) hR.2⟩) [] [] rfl rfl (by decide) rfl hl.1 rfl (Nat.le_of_ble_eq_true rfl) dX9_source_186 ⟨hcs.1, hcs.2⟩) (fun r_791 h_792 => ?_)
                              subst h_792
                              refine lv_iadd hx hb dX9_source_189 ?_
                              refine lv_topi (fun z_793 ez_793 => ?_)
                              have tz_793 := ad_toInt (zx := (x).toInt) (zy := 0) ez_793 rfl (by decide)
                              refine lv_istore_n (lv' := [(3, .int z_793), (5, .int 1), (4, .int k), (0, .ref h0), (1, .int p0), (2, .int p1)]) hx hb dX9_source_190 rfl hl (by decide) rfl (fun ls hl => ?_)
                              obtain ⟨x_794, ex_794⟩ : ∃ z : Int32, z = k + 1 := ⟨_, rfl⟩
                              have tx_794 := ad_toInt (x := k) (y := 1) (z := x_794) (zx := (k).toInt) (zy := 1) ex_794 rfl (by decide)
                              refine lv_iinc (v := x_794) (lv' := [(4, .int x_794), (3, .int z_793), (5, .int 1), (0, .ref h0), (1, .int p0), (2, .int p1)]) hx hb dX9_source_191 hl (k := 2) rfl (by rw [ex_794]; rfl) (by decide) rfl (fun ls hl => ?_)
                              refine lv_goto (tgt := 27) hx hb dX9_source_194 (by decide) ?_
                              exact ih _ _ _ (by first | omega | assumption) (by omega) (lv_sub hl [0, 1, 3, 4, 5] rfl)
                            · refine lv_aload_n hx hb dX9_source_165 rfl (lv_at hl 3 rfl) ?_
                              refine va_get (D := D) (ci := 9) (v := .ref b8) (C := RX9) (T := TX9) (N := 37) hx hb hts hin_X9 hown hK hP 0 rfl rfl 14 (by decide) (hts (.fieldLink RX9 38 "CryOrderModel" "state" "[I") (List.mem_cons_of_mem _ (List.mem_append_left _ (List.mem_of_getElem? (i := 5) rfl)))) (fun _ h9 => h9) rfl dX9_source_166 ?_
                              refine lv_iload hx hb dX9_source_169 (lv_at hl 1 rfl) ?_
                              refine va_iald hx hb hK hP 5 4 rfl rfl (vp_in_iff.mpr (by omega)) dX9_source_171 ?_
                              refine lv_topi (fun z_795 ez_795 => ?_)
                              have qz_795 : (z_795).toInt = (z_762).toInt := by rw [ez_795, ez_762]
                              refine lv_iconst (v := 1) hx hb dX9_source_172 (by decide) ?_
                              refine bi_ne (zx := (z_795).toInt) (zy := 1) (tgt := 185) hx hb dX9_source_173 (by decide) rfl (by decide) (fun c_796 => ?_) (fun c_796 => ?_)
                              · refine lv_iconst (v := 0) hx hb dX9_source_185 (by decide) ?_
                                refine vp_callSi (zrS (As := [.int 0]) (rest := [.int x]) (wc := []) ⟨hx, hb, hml, hown, hts⟩ hN hK hP hD (m_one0 l D  ) (va_cwS 1 hts gX9_source_X9_one rfl rfl rfl (by decide +kernel) ⟨Nat.le_trans (m := 1) (Nat.le_of_ble_eq_true rfl) hR.1, Nat.le_trans (m := 20) (Nat.le_of_ble_eq_true rfl) hR.2⟩) [] [] rfl rfl (by decide) rfl hl.1 rfl (Nat.le_of_ble_eq_true rfl) dX9_source_186 ⟨hcs.1, hcs.2⟩) (fun r_797 h_798 => ?_)
                                subst h_798
                                refine lv_iadd hx hb dX9_source_189 ?_
                                refine lv_topi (fun z_799 ez_799 => ?_)
                                have tz_799 := ad_toInt (zx := (x).toInt) (zy := 0) ez_799 rfl (by decide)
                                refine lv_istore_n (lv' := [(3, .int z_799), (5, .int 1), (4, .int k), (0, .ref h0), (1, .int p0), (2, .int p1)]) hx hb dX9_source_190 rfl hl (by decide) rfl (fun ls hl => ?_)
                                obtain ⟨x_800, ex_800⟩ : ∃ z : Int32, z = k + 1 := ⟨_, rfl⟩
                                have tx_800 := ad_toInt (x := k) (y := 1) (z := x_800) (zx := (k).toInt) (zy := 1) ex_800 rfl (by decide)
                                refine lv_iinc (v := x_800) (lv' := [(4, .int x_800), (3, .int z_799), (5, .int 1), (0, .ref h0), (1, .int p0), (2, .int p1)]) hx hb dX9_source_191 hl (k := 2) rfl (by rw [ex_800]; rfl) (by decide) rfl (fun ls hl => ?_)
                                refine lv_goto (tgt := 27) hx hb dX9_source_194 (by decide) ?_
                                exact ih _ _ _ (by first | omega | assumption) (by omega) (lv_sub hl [0, 1, 3, 4, 5] rfl)
                              · refine lv_iload hx hb dX9_source_176 (lv_at hl 0 rfl) ?_
                                refine lv_if_ne (tgt := 185) hx hb dX9_source_178 (by decide) (fun _ => ?_) (fun c_ => absurd c_ (by decide))
                                refine lv_iconst (v := 0) hx hb dX9_source_185 (by decide) ?_
                                refine vp_callSi (zrS (As := [.int 0]) (rest := [.int x]) (wc := []) ⟨hx, hb, hml, hown, hts⟩ hN hK hP hD (m_one0 l D  ) (va_cwS 1 hts gX9_source_X9_one rfl rfl rfl (by decide +kernel) ⟨Nat.le_trans (m := 1) (Nat.le_of_ble_eq_true rfl) hR.1, Nat.le_trans (m := 20) (Nat.le_of_ble_eq_true rfl) hR.2⟩) [] [] rfl rfl (by decide) rfl hl.1 rfl (Nat.le_of_ble_eq_true rfl) dX9_source_186 ⟨hcs.1, hcs.2⟩) (fun r_801 h_802 => ?_)
                                subst h_802
                                refine lv_iadd hx hb dX9_source_189 ?_
                                refine lv_topi (fun z_803 ez_803 => ?_)
                                have tz_803 := ad_toInt (zx := (x).toInt) (zy := 0) ez_803 rfl (by decide)
                                refine lv_istore_n (lv' := [(3, .int z_803), (5, .int 1), (4, .int k), (0, .ref h0), (1, .int p0), (2, .int p1)]) hx hb dX9_source_190 rfl hl (by decide) rfl (fun ls hl => ?_)
                                obtain ⟨x_804, ex_804⟩ : ∃ z : Int32, z = k + 1 := ⟨_, rfl⟩
                                have tx_804 := ad_toInt (x := k) (y := 1) (z := x_804) (zx := (k).toInt) (zy := 1) ex_804 rfl (by decide)
                                refine lv_iinc (v := x_804) (lv' := [(4, .int x_804), (3, .int z_803), (5, .int 1), (0, .ref h0), (1, .int p0), (2, .int p1)]) hx hb dX9_source_191 hl (k := 2) rfl (by rw [ex_804]; rfl) (by decide) rfl (fun ls hl => ?_)
                                refine lv_goto (tgt := 27) hx hb dX9_source_194 (by decide) ?_
                                exact ih _ _ _ (by first | omega | assumption) (by omega) (lv_sub hl [0, 1, 3, 4, 5] rfl)
                  · refine lv_aload_n hx hb dX9_source_117 rfl (lv_at hl 3 rfl) ?_
                    refine va_get (D := D) (ci := 9) (v := .ref b12) (C := RX9) (T := TX9) (N := 37) hx hb hts hin_X9 hown hK hP 0 rfl rfl 18 (by decide) (hts (.fieldLink RX9 51 "CryOrderModel" "isCapped" "[Z") (List.mem_cons_of_mem _ (List.mem_append_left _ (List.mem_of_getElem? (i := 3) rfl)))) (fun _ h9 => h9) rfl dX9_source_118 ?_
                    refine lv_iload hx hb dX9_source_121 (lv_at hl 1 rfl) ?_
                    refine va_zald hx hb hK hP 3 2 rfl rfl (vp_in_iff.mpr (by omega)) dX9_source_123 ?_
                    refine lv_topi (fun z_805 ez_805 => ?_)
                    have qz_805 : (z_805).toInt = (z_360).toInt := by rw [ez_805, ez_360]
                    refine bz_ne (zx := (z_805).toInt) (tgt := 181) hx hb dX9_source_124 (by decide) rfl (fun c_806 => ?_) (fun c_806 => ?_)
                    · refine lv_iconst (v := 1) hx hb dX9_source_181 (by decide) ?_
                      refine lv_goto (tgt := 186) hx hb dX9_source_182 (by decide) ?_
                      refine vp_callSi (zrS (As := [.int 1]) (rest := [.int x]) (wc := []) ⟨hx, hb, hml, hown, hts⟩ hN hK hP hD (m_one1 l D  ) (va_cwS 1 hts gX9_source_X9_one rfl rfl rfl (by decide +kernel) ⟨Nat.le_trans (m := 1) (Nat.le_of_ble_eq_true rfl) hR.1, Nat.le_trans (m := 20) (Nat.le_of_ble_eq_true rfl) hR.2⟩) [] [] rfl rfl (by decide) rfl hl.1 rfl (Nat.le_of_ble_eq_true rfl) dX9_source_186 ⟨hcs.1, hcs.2⟩) (fun r_807 h_808 => ?_)
                      subst h_808
                      refine lv_iadd hx hb dX9_source_189 ?_
                      refine lv_topi (fun z_809 ez_809 => ?_)
                      have tz_809 := ad_toInt (zx := (x).toInt) (zy := 1) ez_809 rfl (by decide)
                      refine lv_istore_n (lv' := [(3, .int z_809), (5, .int 1), (4, .int k), (0, .ref h0), (1, .int p0), (2, .int p1)]) hx hb dX9_source_190 rfl hl (by decide) rfl (fun ls hl => ?_)
                      obtain ⟨x_810, ex_810⟩ : ∃ z : Int32, z = k + 1 := ⟨_, rfl⟩
                      have tx_810 := ad_toInt (x := k) (y := 1) (z := x_810) (zx := (k).toInt) (zy := 1) ex_810 rfl (by decide)
                      refine lv_iinc (v := x_810) (lv' := [(4, .int x_810), (3, .int z_809), (5, .int 1), (0, .ref h0), (1, .int p0), (2, .int p1)]) hx hb dX9_source_191 hl (k := 2) rfl (by rw [ex_810]; rfl) (by decide) rfl (fun ls hl => ?_)
                      refine lv_goto (tgt := 27) hx hb dX9_source_194 (by decide) ?_
                      exact ih _ _ _ (by first | omega | assumption) (by omega) (lv_sub hl [0, 1, 3, 4, 5] rfl)
                    · refine lv_iload_n hx hb dX9_source_127 rfl (lv_at hl 5 rfl) ?_
                      refine lv_iconst (v := 4) hx hb dX9_source_128 (by decide) ?_
                      refine bi_ne (zx := (p1).toInt) (zy := 4) (tgt := 143) hx hb dX9_source_129 (by decide) rfl (by decide) (fun c_811 => ?_) (fun c_811 => ?_)
                      · refine lv_iload_n hx hb dX9_source_143 rfl (lv_at hl 5 rfl) ?_
                        refine lv_iconst (v := 5) hx hb dX9_source_144 (by decide) ?_
                        refine bi_ne (zx := (p1).toInt) (zy := 5) (tgt := 159) hx hb dX9_source_145 (by decide) rfl (by decide) (fun c_812 => ?_) (fun c_812 => ?_)
                        · refine lv_iload_n hx hb dX9_source_159 rfl (lv_at hl 5 rfl) ?_
                          refine lv_bipush (v := 6) hx hb dX9_source_160 (by decide) ?_
                          refine bi_ne (zx := (p1).toInt) (zy := 6) (tgt := 185) hx hb dX9_source_162 (by decide) rfl (by decide) (fun c_813 => ?_) (fun c_813 => ?_)
                          · refine lv_iconst (v := 0) hx hb dX9_source_185 (by decide) ?_
                            refine vp_callSi (zrS (As := [.int 0]) (rest := [.int x]) (wc := []) ⟨hx, hb, hml, hown, hts⟩ hN hK hP hD (m_one0 l D  ) (va_cwS 1 hts gX9_source_X9_one rfl rfl rfl (by decide +kernel) ⟨Nat.le_trans (m := 1) (Nat.le_of_ble_eq_true rfl) hR.1, Nat.le_trans (m := 20) (Nat.le_of_ble_eq_true rfl) hR.2⟩) [] [] rfl rfl (by decide) rfl hl.1 rfl (Nat.le_of_ble_eq_true rfl) dX9_source_186 ⟨hcs.1, hcs.2⟩) (fun r_814 h_815 => ?_)
                            subst h_815
                            refine lv_iadd hx hb dX9_source_189 ?_
                            refine lv_topi (fun z_816 ez_816 => ?_)
                            have tz_816 := ad_toInt (zx := (x).toInt) (zy := 0) ez_816 rfl (by decide)
                            refine lv_istore_n (lv' := [(3, .int z_816), (5, .int 1), (4, .int k), (0, .ref h0), (1, .int p0), (2, .int p1)]) hx hb dX9_source_190 rfl hl (by decide) rfl (fun ls hl => ?_)
                            obtain ⟨x_817, ex_817⟩ : ∃ z : Int32, z = k + 1 := ⟨_, rfl⟩
                            have tx_817 := ad_toInt (x := k) (y := 1) (z := x_817) (zx := (k).toInt) (zy := 1) ex_817 rfl (by decide)
                            refine lv_iinc (v := x_817) (lv' := [(4, .int x_817), (3, .int z_816), (5, .int 1), (0, .ref h0), (1, .int p0), (2, .int p1)]) hx hb dX9_source_191 hl (k := 2) rfl (by rw [ex_817]; rfl) (by decide) rfl (fun ls hl => ?_)
                            refine lv_goto (tgt := 27) hx hb dX9_source_194 (by decide) ?_
                            exact ih _ _ _ (by first | omega | assumption) (by omega) (lv_sub hl [0, 1, 3, 4, 5] rfl)
                          · refine lv_aload_n hx hb dX9_source_165 rfl (lv_at hl 3 rfl) ?_
                            refine va_get (D := D) (ci := 9) (v := .ref b8) (C := RX9) (T := TX9) (N := 37) hx hb hts hin_X9 hown hK hP 0 rfl rfl 14 (by decide) (hts (.fieldLink RX9 38 "CryOrderModel" "state" "[I") (List.mem_cons_of_mem _ (List.mem_append_left _ (List.mem_of_getElem? (i := 5) rfl)))) (fun _ h9 => h9) rfl dX9_source_166 ?_
                            refine lv_iload hx hb dX9_source_169 (lv_at hl 1 rfl) ?_
                            refine va_iald hx hb hK hP 5 4 rfl rfl (vp_in_iff.mpr (by omega)) dX9_source_171 ?_
                            refine lv_topi (fun z_818 ez_818 => ?_)
                            refine lv_iconst (v := 1) hx hb dX9_source_172 (by decide) ?_
                            refine bi_ne (zx := (z_818).toInt) (zy := 1) (tgt := 185) hx hb dX9_source_173 (by decide) rfl (by decide) (fun c_819 => ?_) (fun c_819 => ?_)
                            · refine lv_iconst (v := 0) hx hb dX9_source_185 (by decide) ?_
                              refine vp_callSi (zrS (As := [.int 0]) (rest := [.int x]) (wc := []) ⟨hx, hb, hml, hown, hts⟩ hN hK hP hD (m_one0 l D  ) (va_cwS 1 hts gX9_source_X9_one rfl rfl rfl (by decide +kernel) ⟨Nat.le_trans (m := 1) (Nat.le_of_ble_eq_true rfl) hR.1, Nat.le_trans (m := 20) (Nat.le_of_ble_eq_true rfl) hR.2⟩) [] [] rfl rfl (by decide) rfl hl.1 rfl (Nat.le_of_ble_eq_true rfl) dX9_source_186 ⟨hcs.1, hcs.2⟩) (fun r_820 h_821 => ?_)
                              subst h_821
                              refine lv_iadd hx hb dX9_source_189 ?_
                              refine lv_topi (fun z_822 ez_822 => ?_)
                              have tz_822 := ad_toInt (zx := (x).toInt) (zy := 0) ez_822 rfl (by decide)
                              refine lv_istore_n (lv' := [(3, .int z_822), (5, .int 1), (4, .int k), (0, .ref h0), (1, .int p0), (2, .int p1)]) hx hb dX9_source_190 rfl hl (by decide) rfl (fun ls hl => ?_)
                              obtain ⟨x_823, ex_823⟩ : ∃ z : Int32, z = k + 1 := ⟨_, rfl⟩
                              have tx_823 := ad_toInt (x := k) (y := 1) (z := x_823) (zx := (k).toInt) (zy := 1) ex_823 rfl (by decide)
                              refine lv_iinc (v := x_823) (lv' := [(4, .int x_823), (3, .int z_822), (5, .int 1), (0, .ref h0), (1, .int p0), (2, .int p1)]) hx hb dX9_source_191 hl (k := 2) rfl (by rw [ex_823]; rfl) (by decide) rfl (fun ls hl => ?_)
                              refine lv_goto (tgt := 27) hx hb dX9_source_194 (by decide) ?_
                              exact ih _ _ _ (by first | omega | assumption) (by omega) (lv_sub hl [0, 1, 3, 4, 5] rfl)
                            · refine lv_iload hx hb dX9_source_176 (lv_at hl 0 rfl) ?_
                              refine lv_if_ne (tgt := 185) hx hb dX9_source_178 (by decide) (fun _ => ?_) (fun c_ => absurd c_ (by decide))
                              refine lv_iconst (v := 0) hx hb dX9_source_185 (by decide) ?_
                              refine vp_callSi (zrS (As := [.int 0]) (rest := [.int x]) (wc := []) ⟨hx, hb, hml, hown, hts⟩ hN hK hP hD (m_one0 l D  ) (va_cwS 1 hts gX9_source_X9_one rfl rfl rfl (by decide +kernel) ⟨Nat.le_trans (m := 1) (Nat.le_of_ble_eq_true rfl) hR.1, Nat.le_trans (m := 20) (Nat.le_of_ble_eq_true rfl) hR.2⟩) [] [] rfl rfl (by decide) rfl hl.1 rfl (Nat.le_of_ble_eq_true rfl) dX9_source_186 ⟨hcs.1, hcs.2⟩) (fun r_824 h_825 => ?_)
                              subst h_825
                              refine lv_iadd hx hb dX9_source_189 ?_
                              refine lv_topi (fun z_826 ez_826 => ?_)
                              have tz_826 := ad_toInt (zx := (x).toInt) (zy := 0) ez_826 rfl (by decide)
                              refine lv_istore_n (lv' := [(3, .int z_826), (5, .int 1), (4, .int k), (0, .ref h0), (1, .int p0), (2, .int p1)]) hx hb dX9_source_190 rfl hl (by decide) rfl (fun ls hl => ?_)
                              obtain ⟨x_827, ex_827⟩ : ∃ z : Int32, z = k + 1 := ⟨_, rfl⟩
                              have tx_827 := ad_toInt (x := k) (y := 1) (z := x_827) (zx := (k).toInt) (zy := 1) ex_827 rfl (by decide)
                              refine lv_iinc (v := x_827) (lv' := [(4, .int x_827), (3, .int z_826), (5, .int 1), (0, .ref h0), (1, .int p0), (2, .int p1)]) hx hb dX9_source_191 hl (k := 2) rfl (by rw [ex_827]; rfl) (by decide) rfl (fun ls hl => ?_)
                              refine lv_goto (tgt := 27) hx hb dX9_source_194 (by decide) ?_
                              exact ih _ _ _ (by first | omega | assumption) (by omega) (lv_sub hl [0, 1, 3, 4, 5] rfl)
                        · refine lv_aload_n hx hb dX9_source_148 rfl (lv_at hl 3 rfl) ?_
                          refine va_get (D := D) (ci := 9) (v := .ref b8) (C := RX9) (T := TX9) (N := 37) hx hb hts hin_X9 hown hK hP 0 rfl rfl 14 (by decide) (hts (.fieldLink RX9 38 "CryOrderModel" "state" "[I") (List.mem_cons_of_mem _ (List.mem_append_left _ (List.mem_of_getElem? (i := 5) rfl)))) (fun _ h9 => h9) rfl dX9_source_149 ?_
                          refine lv_iload hx hb dX9_source_152 (lv_at hl 1 rfl) ?_
                          refine va_iald hx hb hK hP 5 4 rfl rfl (vp_in_iff.mpr (by omega)) dX9_source_154 ?_
                          refine lv_topi (fun z_828 ez_828 => ?_)
                          refine lv_iconst (v := 2) hx hb dX9_source_155 (by decide) ?_
                          refine bi_eq (zx := (z_828).toInt) (zy := 2) (tgt := 181) hx hb dX9_source_156 (by decide) rfl (by decide) (fun c_829 => ?_) (fun c_829 => ?_)
                          · refine lv_iconst (v := 1) hx hb dX9_source_181 (by decide) ?_
                            refine lv_goto (tgt := 186) hx hb dX9_source_182 (by decide) ?_
                            refine vp_callSi (zrS (As := [.int 1]) (rest := [.int x]) (wc := []) ⟨hx, hb, hml, hown, hts⟩ hN hK hP hD (m_one1 l D  ) (va_cwS 1 hts gX9_source_X9_one rfl rfl rfl (by decide +kernel) ⟨Nat.le_trans (m := 1) (Nat.le_of_ble_eq_true rfl) hR.1, Nat.le_trans (m := 20) (Nat.le_of_ble_eq_true rfl) hR.2⟩) [] [] rfl rfl (by decide) rfl hl.1 rfl (Nat.le_of_ble_eq_true rfl) dX9_source_186 ⟨hcs.1, hcs.2⟩) (fun r_830 h_831 => ?_)
                            subst h_831
                            refine lv_iadd hx hb dX9_source_189 ?_
                            refine lv_topi (fun z_832 ez_832 => ?_)
                            have tz_832 := ad_toInt (zx := (x).toInt) (zy := 1) ez_832 rfl (by decide)
                            refine lv_istore_n (lv' := [(3, .int z_832), (5, .int 1), (4, .int k), (0, .ref h0), (1, .int p0), (2, .int p1)]) hx hb dX9_source_190 rfl hl (by decide) rfl (fun ls hl => ?_)
                            obtain ⟨x_833, ex_833⟩ : ∃ z : Int32, z = k + 1 := ⟨_, rfl⟩
                            have tx_833 := ad_toInt (x := k) (y := 1) (z := x_833) (zx := (k).toInt) (zy := 1) ex_833 rfl (by decide)
                            refine lv_iinc (v := x_833) (lv' := [(4, .int x_833), (3, .int z_832), (5, .int 1), (0, .ref h0), (1, .int p0), (2, .int p1)]) hx hb dX9_source_191 hl (k := 2) rfl (by rw [ex_833]; rfl) (by decide) rfl (fun ls hl => ?_)
                            refine lv_goto (tgt := 27) hx hb dX9_source_194 (by decide) ?_
                            exact ih _ _ _ (by first | omega | assumption) (by omega) (lv_sub hl [0, 1, 3, 4, 5] rfl)
                          · refine lv_iload_n hx hb dX9_source_159 rfl (lv_at hl 5 rfl) ?_
                            refine lv_bipush (v := 6) hx hb dX9_source_160 (by decide) ?_
                            refine bi_ne (zx := (p1).toInt) (zy := 6) (tgt := 185) hx hb dX9_source_162 (by decide) rfl (by decide) (fun c_834 => ?_) (fun c_834 => ?_)
                            · refine lv_iconst (v := 0) hx hb dX9_source_185 (by decide) ?_
                              refine vp_callSi (zrS (As := [.int 0]) (rest := [.int x]) (wc := []) ⟨hx, hb, hml, hown, hts⟩ hN hK hP hD (m_one0 l D  ) (va_cwS 1 hts gX9_source_X9_one rfl rfl rfl (by decide +kernel) ⟨Nat.le_trans (m := 1) (Nat.le_of_ble_eq_true rfl) hR.1, Nat.le_trans (m := 20) (Nat.le_of_ble_eq_true rfl) hR.2⟩) [] [] rfl rfl (by decide) rfl hl.1 rfl (Nat.le_of_ble_eq_true rfl) dX9_source_186 ⟨hcs.1, hcs.2⟩) (fun r_835 h_836 => ?_)
                              subst h_836
                              refine lv_iadd hx hb dX9_source_189 ?_
                              refine lv_topi (fun z_837 ez_837 => ?_)
                              have tz_837 := ad_toInt (zx := (x).toInt) (zy := 0) ez_837 rfl (by decide)
                              refine lv_istore_n (lv' := [(3, .int z_837), (5, .int 1), (4, .int k), (0, .ref h0), (1, .int p0), (2, .int p1)]) hx hb dX9_source_190 rfl hl (by decide) rfl (fun ls hl => ?_)
                              obtain ⟨x_838, ex_838⟩ : ∃ z : Int32, z = k + 1 := ⟨_, rfl⟩
                              have tx_838 := ad_toInt (x := k) (y := 1) (z := x_838) (zx := (k).toInt) (zy := 1) ex_838 rfl (by decide)
                              refine lv_iinc (v := x_838) (lv' := [(4, .int x_838), (3, .int z_837), (5, .int 1), (0, .ref h0), (1, .int p0), (2, .int p1)]) hx hb dX9_source_191 hl (k := 2) rfl (by rw [ex_838]; rfl) (by decide) rfl (fun ls hl => ?_)
                              refine lv_goto (tgt := 27) hx hb dX9_source_194 (by decide) ?_
                              exact ih _ _ _ (by first | omega | assumption) (by omega) (lv_sub hl [0, 1, 3, 4, 5] rfl)
                            · refine lv_aload_n hx hb dX9_source_165 rfl (lv_at hl 3 rfl) ?_
                              refine va_get (D := D) (ci := 9) (v := .ref b8) (C := RX9) (T := TX9) (N := 37) hx hb hts hin_X9 hown hK hP 0 rfl rfl 14 (by decide) (hts (.fieldLink RX9 38 "CryOrderModel" "state" "[I") (List.mem_cons_of_mem _ (List.mem_append_left _ (List.mem_of_getElem? (i := 5) rfl)))) (fun _ h9 => h9) rfl dX9_source_166 ?_
                              refine lv_iload hx hb dX9_source_169 (lv_at hl 1 rfl) ?_
                              refine va_iald hx hb hK hP 5 4 rfl rfl (vp_in_iff.mpr (by omega)) dX9_source_171 ?_
                              refine lv_topi (fun z_839 ez_839 => ?_)
                              have qz_839 : (z_839).toInt = (z_828).toInt := by rw [ez_839, ez_828]
                              refine lv_iconst (v := 1) hx hb dX9_source_172 (by decide) ?_
                              refine bi_ne (zx := (z_839).toInt) (zy := 1) (tgt := 185) hx hb dX9_source_173 (by decide) rfl (by decide) (fun c_840 => ?_) (fun c_840 => ?_)
                              · refine lv_iconst (v := 0) hx hb dX9_source_185 (by decide) ?_
                                refine vp_callSi (zrS (As := [.int 0]) (rest := [.int x]) (wc := []) ⟨hx, hb, hml, hown, hts⟩ hN hK hP hD (m_one0 l D  ) (va_cwS 1 hts gX9_source_X9_one rfl rfl rfl (by decide +kernel) ⟨Nat.le_trans (m := 1) (Nat.le_of_ble_eq_true rfl) hR.1, Nat.le_trans (m := 20) (Nat.le_of_ble_eq_true rfl) hR.2⟩) [] [] rfl rfl (by decide) rfl hl.1 rfl (Nat.le_of_ble_eq_true rfl) dX9_source_186 ⟨hcs.1, hcs.2⟩) (fun r_841 h_842 => ?_)
                                subst h_842
                                refine lv_iadd hx hb dX9_source_189 ?_
                                refine lv_topi (fun z_843 ez_843 => ?_)
                                have tz_843 := ad_toInt (zx := (x).toInt) (zy := 0) ez_843 rfl (by decide)
                                refine lv_istore_n (lv' := [(3, .int z_843), (5, .int 1), (4, .int k), (0, .ref h0), (1, .int p0), (2, .int p1)]) hx hb dX9_source_190 rfl hl (by decide) rfl (fun ls hl => ?_)
                                obtain ⟨x_844, ex_844⟩ : ∃ z : Int32, z = k + 1 := ⟨_, rfl⟩
                                have tx_844 := ad_toInt (x := k) (y := 1) (z := x_844) (zx := (k).toInt) (zy := 1) ex_844 rfl (by decide)
                                refine lv_iinc (v := x_844) (lv' := [(4, .int x_844), (3, .int z_843), (5, .int 1), (0, .ref h0), (1, .int p0), (2, .int p1)]) hx hb dX9_source_191 hl (k := 2) rfl (by rw [ex_844]; rfl) (by decide) rfl (fun ls hl => ?_)
                                refine lv_goto (tgt := 27) hx hb dX9_source_194 (by decide) ?_
                                exact ih _ _ _ (by first | omega | assumption) (by omega) (lv_sub hl [0, 1, 3, 4, 5] rfl)
                              · refine lv_iload hx hb dX9_source_176 (lv_at hl 0 rfl) ?_
                                refine lv_if_ne (tgt := 185) hx hb dX9_source_178 (by decide) (fun _ => ?_) (fun c_ => absurd c_ (by decide))
                                refine lv_iconst (v := 0) hx hb dX9_source_185 (by decide) ?_
                                refine vp_callSi (zrS (As := [.int 0]) (rest := [.int x]) (wc := []) ⟨hx, hb, hml, hown, hts⟩ hN hK hP hD (m_one0 l D  ) (va_cwS 1 hts gX9_source_X9_one rfl rfl rfl (by decide +kernel) ⟨Nat.le_trans (m := 1) (Nat.le_of_ble_eq_true rfl) hR.1, Nat.le_trans (m := 20) (Nat.le_of_ble_eq_true rfl) hR.2⟩) [] [] rfl rfl (by decide) rfl hl.1 rfl (Nat.le_of_ble_eq_true rfl) dX9_source_186 ⟨hcs.1, hcs.2⟩) (fun r_845 h_846 => ?_)
                                subst h_846
                                refine lv_iadd hx hb dX9_source_189 ?_
                                refine lv_topi (fun z_847 ez_847 => ?_)
                                have tz_847 := ad_toInt (zx := (x).toInt) (zy := 0) ez_847 rfl (by decide)
                                refine lv_istore_n (lv' := [(3, .int z_847), (5, .int 1), (4, .int k), (0, .ref h0), (1, .int p0), (2, .int p1)]) hx hb dX9_source_190 rfl hl (by decide) rfl (fun ls hl => ?_)
                                obtain ⟨x_848, ex_848⟩ : ∃ z : Int32, z = k + 1 := ⟨_, rfl⟩
                                have tx_848 := ad_toInt (x := k) (y := 1) (z := x_848) (zx := (k).toInt) (zy := 1) ex_848 rfl (by decide)
                                refine lv_iinc (v := x_848) (lv' := [(4, .int x_848), (3, .int z_847), (5, .int 1), (0, .ref h0), (1, .int p0), (2, .int p1)]) hx hb dX9_source_191 hl (k := 2) rfl (by rw [ex_848]; rfl) (by decide) rfl (fun ls hl => ?_)
                                refine lv_goto (tgt := 27) hx hb dX9_source_194 (by decide) ?_
                                exact ih _ _ _ (by first | omega | assumption) (by omega) (lv_sub hl [0, 1, 3, 4, 5] rfl)
                      · refine lv_aload_n hx hb dX9_source_132 rfl (lv_at hl 3 rfl) ?_
                        refine va_get (D := D) (ci := 9) (v := .ref b8) (C := RX9) (T := TX9) (N := 37) hx hb hts hin_X9 hown hK hP 0 rfl rfl 14 (by decide) (hts (.fieldLink RX9 38 "CryOrderModel" "state" "[I") (List.mem_cons_of_mem _ (List.mem_append_left _ (List.mem_of_getElem? (i := 5) rfl)))) (fun _ h9 => h9) rfl dX9_source_133 ?_
                        refine lv_iload hx hb dX9_source_136 (lv_at hl 1 rfl) ?_
                        refine va_iald hx hb hK hP 5 4 rfl rfl (vp_in_iff.mpr (by omega)) dX9_source_138 ?_
                        refine lv_topi (fun z_849 ez_849 => ?_)
                        refine lv_iconst (v := 1) hx hb dX9_source_139 (by decide) ?_
                        refine bi_eq (zx := (z_849).toInt) (zy := 1) (tgt := 181) hx hb dX9_source_140 (by decide) rfl (by decide) (fun c_850 => ?_) (fun c_850 => ?_)
                        · refine lv_iconst (v := 1) hx hb dX9_source_181 (by decide) ?_
                          refine lv_goto (tgt := 186) hx hb dX9_source_182 (by decide) ?_
                          refine vp_callSi (zrS (As := [.int 1]) (rest := [.int x]) (wc := []) ⟨hx, hb, hml, hown, hts⟩ hN hK hP hD (m_one1 l D  ) (va_cwS 1 hts gX9_source_X9_one rfl rfl rfl (by decide +kernel) ⟨Nat.le_trans (m := 1) (Nat.le_of_ble_eq_true rfl) hR.1, Nat.le_trans (m := 20) (Nat.le_of_ble_eq_true rfl) hR.2⟩) [] [] rfl rfl (by decide) rfl hl.1 rfl (Nat.le_of_ble_eq_true rfl) dX9_source_186 ⟨hcs.1, hcs.2⟩) (fun r_851 h_852 => ?_)
                          subst h_852
                          refine lv_iadd hx hb dX9_source_189 ?_
                          refine lv_topi (fun z_853 ez_853 => ?_)
                          have tz_853 := ad_toInt (zx := (x).toInt) (zy := 1) ez_853 rfl (by decide)
                          refine lv_istore_n (lv' := [(3, .int z_853), (5, .int 1), (4, .int k), (0, .ref h0), (1, .int p0), (2, .int p1)]) hx hb dX9_source_190 rfl hl (by decide) rfl (fun ls hl => ?_)
                          obtain ⟨x_854, ex_854⟩ : ∃ z : Int32, z = k + 1 := ⟨_, rfl⟩
                          have tx_854 := ad_toInt (x := k) (y := 1) (z := x_854) (zx := (k).toInt) (zy := 1) ex_854 rfl (by decide)
                          refine lv_iinc (v := x_854) (lv' := [(4, .int x_854), (3, .int z_853), (5, .int 1), (0, .ref h0), (1, .int p0), (2, .int p1)]) hx hb dX9_source_191 hl (k := 2) rfl (by rw [ex_854]; rfl) (by decide) rfl (fun ls hl => ?_)
                          refine lv_goto (tgt := 27) hx hb dX9_source_194 (by decide) ?_
                          exact ih _ _ _ (by first | omega | assumption) (by omega) (lv_sub hl [0, 1, 3, 4, 5] rfl)
                        · refine lv_iload_n hx hb dX9_source_143 rfl (lv_at hl 5 rfl) ?_
                          refine lv_iconst (v := 5) hx hb dX9_source_144 (by decide) ?_
                          refine bi_ne (zx := (p1).toInt) (zy := 5) (tgt := 159) hx hb dX9_source_145 (by decide) rfl (by decide) (fun c_855 => ?_) (fun c_855 => ?_)
                          · refine lv_iload_n hx hb dX9_source_159 rfl (lv_at hl 5 rfl) ?_
                            refine lv_bipush (v := 6) hx hb dX9_source_160 (by decide) ?_
                            refine bi_ne (zx := (p1).toInt) (zy := 6) (tgt := 185) hx hb dX9_source_162 (by decide) rfl (by decide) (fun c_856 => ?_) (fun c_856 => ?_)
                            · refine lv_iconst (v := 0) hx hb dX9_source_185 (by decide) ?_
                              refine vp_callSi (zrS (As := [.int 0]) (rest := [.int x]) (wc := []) ⟨hx, hb, hml, hown, hts⟩ hN hK hP hD (m_one0 l D  ) (va_cwS 1 hts gX9_source_X9_one rfl rfl rfl (by decide +kernel) ⟨Nat.le_trans (m := 1) (Nat.le_of_ble_eq_true rfl) hR.1, Nat.le_trans (m := 20) (Nat.le_of_ble_eq_true rfl) hR.2⟩) [] [] rfl rfl (by decide) rfl hl.1 rfl (Nat.le_of_ble_eq_true rfl) dX9_source_186 ⟨hcs.1, hcs.2⟩) (fun r_857 h_858 => ?_)
                              subst h_858
                              refine lv_iadd hx hb dX9_source_189 ?_
                              refine lv_topi (fun z_859 ez_859 => ?_)
                              have tz_859 := ad_toInt (zx := (x).toInt) (zy := 0) ez_859 rfl (by decide)
                              refine lv_istore_n (lv' := [(3, .int z_859), (5, .int 1), (4, .int k), (0, .ref h0), (1, .int p0), (2, .int p1)]) hx hb dX9_source_190 rfl hl (by decide) rfl (fun ls hl => ?_)
                              obtain ⟨x_860, ex_860⟩ : ∃ z : Int32, z = k + 1 := ⟨_, rfl⟩
                              have tx_860 := ad_toInt (x := k) (y := 1) (z := x_860) (zx := (k).toInt) (zy := 1) ex_860 rfl (by decide)
                              refine lv_iinc (v := x_860) (lv' := [(4, .int x_860), (3, .int z_859), (5, .int 1), (0, .ref h0), (1, .int p0), (2, .int p1)]) hx hb dX9_source_191 hl (k := 2) rfl (by rw [ex_860]; rfl) (by decide) rfl (fun ls hl => ?_)
                              refine lv_goto (tgt := 27) hx hb dX9_source_194 (by decide) ?_
                              exact ih _ _ _ (by first | omega | assumption) (by omega) (lv_sub hl [0, 1, 3, 4, 5] rfl)
                            · refine lv_aload_n hx hb dX9_source_165 rfl (lv_at hl 3 rfl) ?_
                              refine va_get (D := D) (ci := 9) (v := .ref b8) (C := RX9) (T := TX9) (N := 37) hx hb hts hin_X9 hown hK hP 0 rfl rfl 14 (by decide) (hts (.fieldLink RX9 38 "CryOrderModel" "state" "[I") (List.mem_cons_of_mem _ (List.mem_append_left _ (List.mem_of_getElem? (i := 5) rfl)))) (fun _ h9 => h9) rfl dX9_source_166 ?_
                              refine lv_iload hx hb dX9_source_169 (lv_at hl 1 rfl) ?_
                              refine va_iald hx hb hK hP 5 4 rfl rfl (vp_in_iff.mpr (by omega)) dX9_source_171 ?_
                              refine lv_topi (fun z_861 ez_861 => ?_)
                              have qz_861 : (z_861).toInt = (z_849).toInt := by rw [ez_861, ez_849]
                              refine lv_iconst (v := 1) hx hb dX9_source_172 (by decide) ?_
                              refine bi_ne (zx := (z_861).toInt) (zy := 1) (tgt := 185) hx hb dX9_source_173 (by decide) rfl (by decide) (fun c_862 => ?_) (fun c_862 => ?_)
                              · refine lv_iconst (v := 0) hx hb dX9_source_185 (by decide) ?_
                                refine vp_callSi (zrS (As := [.int 0]) (rest := [.int x]) (wc := []) ⟨hx, hb, hml, hown, hts⟩ hN hK hP hD (m_one0 l D  ) (va_cwS 1 hts gX9_source_X9_one rfl rfl rfl (by decide +kernel) ⟨Nat.le_trans (m := 1) (Nat.le_of_ble_eq_true rfl) hR.1, Nat.le_trans (m := 20) (Nat.le_of_ble_eq_true rfl) hR.2⟩) [] [] rfl rfl (by decide) rfl hl.1 rfl (Nat.le_of_ble_eq_true rfl) dX9_source_186 ⟨hcs.1, hcs.2⟩) (fun r_863 h_864 => ?_)
                                subst h_864
                                refine lv_iadd hx hb dX9_source_189 ?_
                                refine lv_topi (fun z_865 ez_865 => ?_)
                                have tz_865 := ad_toInt (zx := (x).toInt) (zy := 0) ez_865 rfl (by decide)
                                refine lv_istore_n (lv' := [(3, .int z_865), (5, .int 1), (4, .int k), (0, .ref h0), (1, .int p0), (2, .int p1)]) hx hb dX9_source_190 rfl hl (by decide) rfl (fun ls hl => ?_)
                                obtain ⟨x_866, ex_866⟩ : ∃ z : Int32, z = k + 1 := ⟨_, rfl⟩
                                have tx_866 := ad_toInt (x := k) (y := 1) (z := x_866) (zx := (k).toInt) (zy := 1) ex_866 rfl (by decide)
                                refine lv_iinc (v := x_866) (lv' := [(4, .int x_866), (3, .int z_865), (5, .int 1), (0, .ref h0), (1, .int p0), (2, .int p1)]) hx hb dX9_source_191 hl (k := 2) rfl (by rw [ex_866]; rfl) (by decide) rfl (fun ls hl => ?_)
                                refine lv_goto (tgt := 27) hx hb dX9_source_194 (by decide) ?_
                                exact ih _ _ _ (by first | omega | assumption) (by omega) (lv_sub hl [0, 1, 3, 4, 5] rfl)
                              · refine lv_iload hx hb dX9_source_176 (lv_at hl 0 rfl) ?_
                                refine lv_if_ne (tgt := 185) hx hb dX9_source_178 (by decide) (fun _ => ?_) (fun c_ => absurd c_ (by decide))
                                refine lv_iconst (v := 0) hx hb dX9_source_185 (by decide) ?_
                                refine vp_callSi (zrS (As := [.int 0]) (rest := [.int x]) (wc := []) ⟨hx, hb, hml, hown, hts⟩ hN hK hP hD (m_one0 l D  ) (va_cwS 1 hts gX9_source_X9_one rfl rfl rfl (by decide +kernel) ⟨Nat.le_trans (m := 1) (Nat.le_of_ble_eq_true rfl) hR.1, Nat.le_trans (m := 20) (Nat.le_of_ble_eq_true rfl) hR.2⟩) [] [] rfl rfl (by decide) rfl hl.1 rfl (Nat.le_of_ble_eq_true rfl) dX9_source_186 ⟨hcs.1, hcs.2⟩) (fun r_867 h_868 => ?_)
                                subst h_868
                                refine lv_iadd hx hb dX9_source_189 ?_
                                refine lv_topi (fun z_869 ez_869 => ?_)
                                have tz_869 := ad_toInt (zx := (x).toInt) (zy := 0) ez_869 rfl (by decide)
                                refine lv_istore_n (lv' := [(3, .int z_869), (5, .int 1), (4, .int k), (0, .ref h0), (1, .int p0), (2, .int p1)]) hx hb dX9_source_190 rfl hl (by decide) rfl (fun ls hl => ?_)
                                obtain ⟨x_870, ex_870⟩ : ∃ z : Int32, z = k + 1 := ⟨_, rfl⟩
                                have tx_870 := ad_toInt (x := k) (y := 1) (z := x_870) (zx := (k).toInt) (zy := 1) ex_870 rfl (by decide)
                                refine lv_iinc (v := x_870) (lv' := [(4, .int x_870), (3, .int z_869), (5, .int 1), (0, .ref h0), (1, .int p0), (2, .int p1)]) hx hb dX9_source_191 hl (k := 2) rfl (by rw [ex_870]; rfl) (by decide) rfl (fun ls hl => ?_)
                                refine lv_goto (tgt := 27) hx hb dX9_source_194 (by decide) ?_
                                exact ih _ _ _ (by first | omega | assumption) (by omega) (lv_sub hl [0, 1, 3, 4, 5] rfl)
                          · refine lv_aload_n hx hb dX9_source_148 rfl (lv_at hl 3 rfl) ?_
                            refine va_get (D := D) (ci := 9) (v := .ref b8) (C := RX9) (T := TX9) (N := 37) hx hb hts hin_X9 hown hK hP 0 rfl rfl 14 (by decide) (hts (.fieldLink RX9 38 "CryOrderModel" "state" "[I") (List.mem_cons_of_mem _ (List.mem_append_left _ (List.mem_of_getElem? (i := 5) rfl)))) (fun _ h9 => h9) rfl dX9_source_149 ?_
                            refine lv_iload hx hb dX9_source_152 (lv_at hl 1 rfl) ?_
                            refine va_iald hx hb hK hP 5 4 rfl rfl (vp_in_iff.mpr (by omega)) dX9_source_154 ?_
                            refine lv_topi (fun z_871 ez_871 => ?_)
                            have qz_871 : (z_871).toInt = (z_849).toInt := by rw [ez_871, ez_849]
                            refine lv_iconst (v := 2) hx hb dX9_source_155 (by decide) ?_
                            refine bi_eq (zx := (z_871).toInt) (zy := 2) (tgt := 181) hx hb dX9_source_156 (by decide) rfl (by decide) (fun c_872 => ?_) (fun c_872 => ?_)
                            · refine lv_iconst (v := 1) hx hb dX9_source_181 (by decide) ?_
                              refine lv_goto (tgt := 186) hx hb dX9_source_182 (by decide) ?_
                              refine vp_callSi (zrS (As := [.int 1]) (rest := [.int x]) (wc := []) ⟨hx, hb, hml, hown, hts⟩ hN hK hP hD (m_one1 l D  ) (va_cwS 1 hts gX9_source_X9_one rfl rfl rfl (by decide +kernel) ⟨Nat.le_trans (m := 1) (Nat.le_of_ble_eq_true rfl) hR.1, Nat.le_trans (m := 20) (Nat.le_of_ble_eq_true rfl) hR.2⟩) [] [] rfl rfl (by decide) rfl hl.1 rfl (Nat.le_of_ble_eq_true rfl) dX9_source_186 ⟨hcs.1, hcs.2⟩) (fun r_873 h_874 => ?_)
                              subst h_874
                              refine lv_iadd hx hb dX9_source_189 ?_
                              refine lv_topi (fun z_875 ez_875 => ?_)
                              have tz_875 := ad_toInt (zx := (x).toInt) (zy := 1) ez_875 rfl (by decide)
                              refine lv_istore_n (lv' := [(3, .int z_875), (5, .int 1), (4, .int k), (0, .ref h0), (1, .int p0), (2, .int p1)]) hx hb dX9_source_190 rfl hl (by decide) rfl (fun ls hl => ?_)
                              obtain ⟨x_876, ex_876⟩ : ∃ z : Int32, z = k + 1 := ⟨_, rfl⟩
                              have tx_876 := ad_toInt (x := k) (y := 1) (z := x_876) (zx := (k).toInt) (zy := 1) ex_876 rfl (by decide)
                              refine lv_iinc (v := x_876) (lv' := [(4, .int x_876), (3, .int z_875), (5, .int 1), (0, .ref h0), (1, .int p0), (2, .int p1)]) hx hb dX9_source_191 hl (k := 2) rfl (by rw [ex_876]; rfl) (by decide) rfl (fun ls hl => ?_)
                              refine lv_goto (tgt := 27) hx hb dX9_source_194 (by decide) ?_
                              exact ih _ _ _ (by first | omega | assumption) (by omega) (lv_sub hl [0, 1, 3, 4, 5] rfl)
                            · refine lv_iload_n hx hb dX9_source_159 rfl (lv_at hl 5 rfl) ?_
                              refine lv_bipush (v := 6) hx hb dX9_source_160 (by decide) ?_
                              refine bi_ne (zx := (p1).toInt) (zy := 6) (tgt := 185) hx hb dX9_source_162 (by decide) rfl (by decide) (fun c_877 => ?_) (fun c_877 => ?_)
                              · refine lv_iconst (v := 0) hx hb dX9_source_185 (by decide) ?_
                                refine vp_callSi (zrS (As := [.int 0]) (rest := [.int x]) (wc := []) ⟨hx, hb, hml, hown, hts⟩ hN hK hP hD (m_one0 l D  ) (va_cwS 1 hts gX9_source_X9_one rfl rfl rfl (by decide +kernel) ⟨Nat.le_trans (m := 1) (Nat.le_of_ble_eq_true rfl) hR.1, Nat.le_trans (m := 20) (Nat.le_of_ble_eq_true rfl) hR.2⟩) [] [] rfl rfl (by decide) rfl hl.1 rfl (Nat.le_of_ble_eq_true rfl) dX9_source_186 ⟨hcs.1, hcs.2⟩) (fun r_878 h_879 => ?_)
                                subst h_879
                                refine lv_iadd hx hb dX9_source_189 ?_
                                refine lv_topi (fun z_880 ez_880 => ?_)
                                have tz_880 := ad_toInt (zx := (x).toInt) (zy := 0) ez_880 rfl (by decide)
                                refine lv_istore_n (lv' := [(3, .int z_880), (5, .int 1), (4, .int k), (0, .ref h0), (1, .int p0), (2, .int p1)]) hx hb dX9_source_190 rfl hl (by decide) rfl (fun ls hl => ?_)
                                obtain ⟨x_881, ex_881⟩ : ∃ z : Int32, z = k + 1 := ⟨_, rfl⟩
                                have tx_881 := ad_toInt (x := k) (y := 1) (z := x_881) (zx := (k).toInt) (zy := 1) ex_881 rfl (by decide)
                                refine lv_iinc (v := x_881) (lv' := [(4, .int x_881), (3, .int z_880), (5, .int 1), (0, .ref h0), (1, .int p0), (2, .int p1)]) hx hb dX9_source_191 hl (k := 2) rfl (by rw [ex_881]; rfl) (by decide) rfl (fun ls hl => ?_)
                                refine lv_goto (tgt := 27) hx hb dX9_source_194 (by decide) ?_
                                exact ih _ _ _ (by first | omega | assumption) (by omega) (lv_sub hl [0, 1, 3, 4, 5] rfl)
                              · refine lv_aload_n hx hb dX9_source_165 rfl (lv_at hl 3 rfl) ?_
                                refine va_get (D := D) (ci := 9) (v := .ref b8) (C := RX9) (T := TX9) (N := 37) hx hb hts hin_X9 hown hK hP 0 rfl rfl 14 (by decide) (hts (.fieldLink RX9 38 "CryOrderModel" "state" "[I") (List.mem_cons_of_mem _ (List.mem_append_left _ (List.mem_of_getElem? (i := 5) rfl)))) (fun _ h9 => h9) rfl dX9_source_166 ?_
                                refine lv_iload hx hb dX9_source_169 (lv_at hl 1 rfl) ?_
                                refine va_iald hx hb hK hP 5 4 rfl rfl (vp_in_iff.mpr (by omega)) dX9_source_171 ?_
                                refine lv_topi (fun z_882 ez_882 => ?_)
                                have qz_882 : (z_882).toInt = (z_849).toInt := by rw [ez_882, ez_849]
                                refine lv_iconst (v := 1) hx hb dX9_source_172 (by decide) ?_
                                refine bi_ne (zx := (z_882).toInt) (zy := 1) (tgt := 185) hx hb dX9_source_173 (by decide) rfl (by decide) (fun c_883 => ?_) (fun c_883 => ?_)
                                · refine lv_iconst (v := 0) hx hb dX9_source_185 (by decide) ?_
                                  refine vp_callSi (zrS (As := [.int 0]) (rest := [.int x]) (wc := []) ⟨hx, hb, hml, hown, hts⟩ hN hK hP hD (m_one0 l D  ) (va_cwS 1 hts gX9_source_X9_one rfl rfl rfl (by decide +kernel) ⟨Nat.le_trans (m := 1) (Nat.le_of_ble_eq_true rfl) hR.1, Nat.le_trans (m := 20) (Nat.le_of_ble_eq_true rfl) hR.2⟩) [] [] rfl rfl (by decide) rfl hl.1 rfl (Nat.le_of_ble_eq_true rfl) dX9_source_186 ⟨hcs.1, hcs.2⟩) (fun r_884 h_885 => ?_)
                                  subst h_885
                                  refine lv_iadd hx hb dX9_source_189 ?_
                                  refine lv_topi (fun z_886 ez_886 => ?_)
                                  have tz_886 := ad_toInt (zx := (x).toInt) (zy := 0) ez_886 rfl (by decide)
                                  refine lv_istore_n (lv' := [(3, .int z_886), (5, .int 1), (4, .int k), (0, .ref h0), (1, .int p0), (2, .int p1)]) hx hb dX9_source_190 rfl hl (by decide) rfl (fun ls hl => ?_)
                                  obtain ⟨x_887, ex_887⟩ : ∃ z : Int32, z = k + 1 := ⟨_, rfl⟩
                                  have tx_887 := ad_toInt (x := k) (y := 1) (z := x_887) (zx := (k).toInt) (zy := 1) ex_887 rfl (by decide)
                                  refine lv_iinc (v := x_887) (lv' := [(4, .int x_887), (3, .int z_886), (5, .int 1), (0, .ref h0), (1, .int p0), (2, .int p1)]) hx hb dX9_source_191 hl (k := 2) rfl (by rw [ex_887]; rfl) (by decide) rfl (fun ls hl => ?_)
                                  refine lv_goto (tgt := 27) hx hb dX9_source_194 (by decide) ?_
                                  exact ih _ _ _ (by first | omega | assumption) (by omega) (lv_sub hl [0, 1, 3, 4, 5] rfl)
                                · refine lv_iload hx hb dX9_source_176 (lv_at hl 0 rfl) ?_
                                  refine lv_if_ne (tgt := 185) hx hb dX9_source_178 (by decide) (fun _ => ?_) (fun c_ => absurd c_ (by decide))
                                  refine lv_iconst (v := 0) hx hb dX9_source_185 (by decide) ?_
                                  refine vp_callSi (zrS (As := [.int 0]) (rest := [.int x]) (wc := []) ⟨hx, hb, hml, hown, hts⟩ hN hK hP hD (m_one0 l D  ) (va_cwS 1 hts gX9_source_X9_one rfl rfl rfl (by decide +kernel) ⟨Nat.le_trans (m := 1) (Nat.le_of_ble_eq_true rfl) hR.1, Nat.le_trans (m := 20) (Nat.le_of_ble_eq_true rfl) hR.2⟩) [] [] rfl rfl (by decide) rfl hl.1 rfl (Nat.le_of_ble_eq_true rfl) dX9_source_186 ⟨hcs.1, hcs.2⟩) (fun r_888 h_889 => ?_)
                                  subst h_889
                                  refine lv_iadd hx hb dX9_source_189 ?_
                                  refine lv_topi (fun z_890 ez_890 => ?_)
                                  have tz_890 := ad_toInt (zx := (x).toInt) (zy := 0) ez_890 rfl (by decide)
                                  refine lv_istore_n (lv' := [(3, .int z_890), (5, .int 1), (4, .int k), (0, .ref h0), (1, .int p0), (2, .int p1)]) hx hb dX9_source_190 rfl hl (by decide) rfl (fun ls hl => ?_)
                                  obtain ⟨x_891, ex_891⟩ : ∃ z : Int32, z = k + 1 := ⟨_, rfl⟩
                                  have tx_891 := ad_toInt (x := k) (y := 1) (z := x_891) (zx := (k).toInt) (zy := 1) ex_891 rfl (by decide)
                                  refine lv_iinc (v := x_891) (lv' := [(4, .int x_891), (3, .int z_890), (5, .int 1), (0, .ref h0), (1, .int p0), (2, .int p1)]) hx hb dX9_source_191 hl (k := 2) rfl (by rw [ex_891]; rfl) (by decide) rfl (fun ls hl => ?_)
                                  refine lv_goto (tgt := 27) hx hb dX9_source_194 (by decide) ?_
                                  exact ih _ _ _ (by first | omega | assumption) (by omega) (lv_sub hl [0, 1, 3, 4, 5] rfl)
                · refine lv_aload_n hx hb dX9_source_102 rfl (lv_at hl 3 rfl) ?_
                  refine va_get (D := D) (ci := 9) (v := .ref b11) (C := RX9) (T := TX9) (N := 37) hx hb hts hin_X9 hown hK hP 0 rfl rfl 17 (by decide) (hts (.fieldLink RX9 47 "CryOrderModel" "isSilenced" "[Z") (List.mem_cons_of_mem _ (List.mem_append_left _ (List.mem_of_getElem? (i := 2) rfl)))) (fun _ h9 => h9) rfl dX9_source_103 ?_
                  refine lv_iload hx hb dX9_source_106 (lv_at hl 1 rfl) ?_
                  refine va_zald hx hb hK hP 2 1 rfl rfl (vp_in_iff.mpr (by omega)) dX9_source_108 ?_
                  refine lv_topi (fun z_892 ez_892 => ?_)
                  have qz_892 : (z_892).toInt = (z_4).toInt := by rw [ez_892, ez_4]
                  refine bz_ne (zx := (z_892).toInt) (tgt := 181) hx hb dX9_source_109 (by decide) rfl (fun c_893 => ?_) (fun c_893 => ?_)
                  · refine lv_iconst (v := 1) hx hb dX9_source_181 (by decide) ?_
                    refine lv_goto (tgt := 186) hx hb dX9_source_182 (by decide) ?_
                    refine vp_callSi (zrS (As := [.int 1]) (rest := [.int x]) (wc := []) ⟨hx, hb, hml, hown, hts⟩ hN hK hP hD (m_one1 l D  ) (va_cwS 1 hts gX9_source_X9_one rfl rfl rfl (by decide +kernel) ⟨Nat.le_trans (m := 1) (Nat.le_of_ble_eq_true rfl) hR.1, Nat.le_trans (m := 20) (Nat.le_of_ble_eq_true rfl) hR.2⟩) [] [] rfl rfl (by decide) rfl hl.1 rfl (Nat.le_of_ble_eq_true rfl) dX9_source_186 ⟨hcs.1, hcs.2⟩) (fun r_894 h_895 => ?_)
                    subst h_895
                    refine lv_iadd hx hb dX9_source_189 ?_
                    refine lv_topi (fun z_896 ez_896 => ?_)
                    have tz_896 := ad_toInt (zx := (x).toInt) (zy := 1) ez_896 rfl (by decide)
                    refine lv_istore_n (lv' := [(3, .int z_896), (5, .int 1), (4, .int k), (0, .ref h0), (1, .int p0), (2, .int p1)]) hx hb dX9_source_190 rfl hl (by decide) rfl (fun ls hl => ?_)
                    obtain ⟨x_897, ex_897⟩ : ∃ z : Int32, z = k + 1 := ⟨_, rfl⟩
                    have tx_897 := ad_toInt (x := k) (y := 1) (z := x_897) (zx := (k).toInt) (zy := 1) ex_897 rfl (by decide)
                    refine lv_iinc (v := x_897) (lv' := [(4, .int x_897), (3, .int z_896), (5, .int 1), (0, .ref h0), (1, .int p0), (2, .int p1)]) hx hb dX9_source_191 hl (k := 2) rfl (by rw [ex_897]; rfl) (by decide) rfl (fun ls hl => ?_)
                    refine lv_goto (tgt := 27) hx hb dX9_source_194 (by decide) ?_
                    exact ih _ _ _ (by first | omega | assumption) (by omega) (lv_sub hl [0, 1, 3, 4, 5] rfl)
                  · refine lv_iload_n hx hb dX9_source_112 rfl (lv_at hl 5 rfl) ?_
                    refine lv_iconst (v := 3) hx hb dX9_source_113 (by decide) ?_
                    refine bi_ne (zx := (p1).toInt) (zy := 3) (tgt := 127) hx hb dX9_source_114 (by decide) rfl (by decide) (fun c_898 => ?_) (fun c_898 => ?_)
                    · refine lv_iload_n hx hb dX9_source_127 rfl (lv_at hl 5 rfl) ?_
                      refine lv_iconst (v := 4) hx hb dX9_source_128 (by decide) ?_
                      refine bi_ne (zx := (p1).toInt) (zy := 4) (tgt := 143) hx hb dX9_source_129 (by decide) rfl (by decide) (fun c_899 => ?_) (fun c_899 => ?_)
                      · refine lv_iload_n hx hb dX9_source_143 rfl (lv_at hl 5 rfl) ?_
                        refine lv_iconst (v := 5) hx hb dX9_source_144 (by decide) ?_
                        refine bi_ne (zx := (p1).toInt) (zy := 5) (tgt := 159) hx hb dX9_source_145 (by decide) rfl (by decide) (fun c_900 => ?_) (fun c_900 => ?_)
                        · refine lv_iload_n hx hb dX9_source_159 rfl (lv_at hl 5 rfl) ?_
                          refine lv_bipush (v := 6) hx hb dX9_source_160 (by decide) ?_
                          refine bi_ne (zx := (p1).toInt) (zy := 6) (tgt := 185) hx hb dX9_source_162 (by decide) rfl (by decide) (fun c_901 => ?_) (fun c_901 => ?_)
                          · refine lv_iconst (v := 0) hx hb dX9_source_185 (by decide) ?_
                            refine vp_callSi (zrS (As := [.int 0]) (rest := [.int x]) (wc := []) ⟨hx, hb, hml, hown, hts⟩ hN hK hP hD (m_one0 l D  ) (va_cwS 1 hts gX9_source_X9_one rfl rfl rfl (by decide +kernel) ⟨Nat.le_trans (m := 1) (Nat.le_of_ble_eq_true rfl) hR.1, Nat.le_trans (m := 20) (Nat.le_of_ble_eq_true rfl) hR.2⟩) [] [] rfl rfl (by decide) rfl hl.1 rfl (Nat.le_of_ble_eq_true rfl) dX9_source_186 ⟨hcs.1, hcs.2⟩) (fun r_902 h_903 => ?_)
                            subst h_903
                            refine lv_iadd hx hb dX9_source_189 ?_
                            refine lv_topi (fun z_904 ez_904 => ?_)
                            have tz_904 := ad_toInt (zx := (x).toInt) (zy := 0) ez_904 rfl (by decide)
                            refine lv_istore_n (lv' := [(3, .int z_904), (5, .int 1), (4, .int k), (0, .ref h0), (1, .int p0), (2, .int p1)]) hx hb dX9_source_190 rfl hl (by decide) rfl (fun ls hl => ?_)
                            obtain ⟨x_905, ex_905⟩ : ∃ z : Int32, z = k + 1 := ⟨_, rfl⟩
                            have tx_905 := ad_toInt (x := k) (y := 1) (z := x_905) (zx := (k).toInt) (zy := 1) ex_905 rfl (by decide)
                            refine lv_iinc (v := x_905) (lv' := [(4, .int x_905), (3, .int z_904), (5, .int 1), (0, .ref h0), (1, .int p0), (2, .int p1)]) hx hb dX9_source_191 hl (k := 2) rfl (by rw [ex_905]; rfl) (by decide) rfl (fun ls hl => ?_)
                            refine lv_goto (tgt := 27) hx hb dX9_source_194 (by decide) ?_
                            exact ih _ _ _ (by first | omega | assumption) (by omega) (lv_sub hl [0, 1, 3, 4, 5] rfl)
                          · refine lv_aload_n hx hb dX9_source_165 rfl (lv_at hl 3 rfl) ?_
                            refine va_get (D := D) (ci := 9) (v := .ref b8) (C := RX9) (T := TX9) (N := 37) hx hb hts hin_X9 hown hK hP 0 rfl rfl 14 (by decide) (hts (.fieldLink RX9 38 "CryOrderModel" "state" "[I") (List.mem_cons_of_mem _ (List.mem_append_left _ (List.mem_of_getElem? (i := 5) rfl)))) (fun _ h9 => h9) rfl dX9_source_166 ?_
                            refine lv_iload hx hb dX9_source_169 (lv_at hl 1 rfl) ?_
                            refine va_iald hx hb hK hP 5 4 rfl rfl (vp_in_iff.mpr (by omega)) dX9_source_171 ?_
                            refine lv_topi (fun z_906 ez_906 => ?_)
                            refine lv_iconst (v := 1) hx hb dX9_source_172 (by decide) ?_
                            refine bi_ne (zx := (z_906).toInt) (zy := 1) (tgt := 185) hx hb dX9_source_173 (by decide) rfl (by decide) (fun c_907 => ?_) (fun c_907 => ?_)
                            · refine lv_iconst (v := 0) hx hb dX9_source_185 (by decide) ?_
                              refine vp_callSi (zrS (As := [.int 0]) (rest := [.int x]) (wc := []) ⟨hx, hb, hml, hown, hts⟩ hN hK hP hD (m_one0 l D  ) (va_cwS 1 hts gX9_source_X9_one rfl rfl rfl (by decide +kernel) ⟨Nat.le_trans (m := 1) (Nat.le_of_ble_eq_true rfl) hR.1, Nat.le_trans (m := 20) (Nat.le_of_ble_eq_true rfl) hR.2⟩) [] [] rfl rfl (by decide) rfl hl.1 rfl (Nat.le_of_ble_eq_true rfl) dX9_source_186 ⟨hcs.1, hcs.2⟩) (fun r_908 h_909 => ?_)
                              subst h_909
                              refine lv_iadd hx hb dX9_source_189 ?_
                              refine lv_topi (fun z_910 ez_910 => ?_)
                              have tz_910 := ad_toInt (zx := (x).toInt) (zy := 0) ez_910 rfl (by decide)
                              refine lv_istore_n (lv' := [(3, .int z_910), (5, .int 1), (4, .int k), (0, .ref h0), (1, .int p0), (2, .int p1)]) hx hb dX9_source_190 rfl hl (by decide) rfl (fun ls hl => ?_)
                              obtain ⟨x_911, ex_911⟩ : ∃ z : Int32, z = k + 1 := ⟨_, rfl⟩
                              have tx_911 := ad_toInt (x := k) (y := 1) (z := x_911) (zx := (k).toInt) (zy := 1) ex_911 rfl (by decide)
                              refine lv_iinc (v := x_911) (lv' := [(4, .int x_911), (3, .int z_910), (5, .int 1), (0, .ref h0), (1, .int p0), (2, .int p1)]) hx hb dX9_source_191 hl (k := 2) rfl (by rw [ex_911]; rfl) (by decide) rfl (fun ls hl => ?_)
                              refine lv_goto (tgt := 27) hx hb dX9_source_194 (by decide) ?_
                              exact ih _ _ _ (by first | omega | assumption) (by omega) (lv_sub hl [0, 1, 3, 4, 5] rfl)
                            · refine lv_iload hx hb dX9_source_176 (lv_at hl 0 rfl) ?_
                              refine lv_if_ne (tgt := 185) hx hb dX9_source_178 (by decide) (fun _ => ?_) (fun c_ => absurd c_ (by decide))
                              refine lv_iconst (v := 0) hx hb dX9_source_185 (by decide) ?_
                              refine vp_callSi (zrS (As := [.int 0]) (rest := [.int x]) (wc := []) ⟨hx, hb, hml, hown, hts⟩ hN hK hP hD (m_one0 l D  ) (va_cwS 1 hts gX9_source_X9_one rfl rfl rfl (by decide +kernel) ⟨Nat.le_trans (m := 1) (Nat.le_of_ble_eq_true rfl) hR.1, Nat.le_trans (m := 20) (Nat.le_of_ble_eq_true rfl) hR.2⟩) [] [] rfl rfl (by decide) rfl hl.1 rfl (Nat.le_of_ble_eq_true rfl) dX9_source_186 ⟨hcs.1, hcs.2⟩) (fun r_912 h_913 => ?_)
                              subst h_913
                              refine lv_iadd hx hb dX9_source_189 ?_
                              refine lv_topi (fun z_914 ez_914 => ?_)
                              have tz_914 := ad_toInt (zx := (x).toInt) (zy := 0) ez_914 rfl (by decide)
                              refine lv_istore_n (lv' := [(3, .int z_914), (5, .int 1), (4, .int k), (0, .ref h0), (1, .int p0), (2, .int p1)]) hx hb dX9_source_190 rfl hl (by decide) rfl (fun ls hl => ?_)
                              obtain ⟨x_915, ex_915⟩ : ∃ z : Int32, z = k + 1 := ⟨_, rfl⟩
                              have tx_915 := ad_toInt (x := k) (y := 1) (z := x_915) (zx := (k).toInt) (zy := 1) ex_915 rfl (by decide)
                              refine lv_iinc (v := x_915) (lv' := [(4, .int x_915), (3, .int z_914), (5, .int 1), (0, .ref h0), (1, .int p0), (2, .int p1)]) hx hb dX9_source_191 hl (k := 2) rfl (by rw [ex_915]; rfl) (by decide) rfl (fun ls hl => ?_)
                              refine lv_goto (tgt := 27) hx hb dX9_source_194 (by decide) ?_
                              exact ih _ _ _ (by first | omega | assumption) (by omega) (lv_sub hl [0, 1, 3, 4, 5] rfl)
                        · refine lv_aload_n hx hb dX9_source_148 rfl (lv_at hl 3 rfl) ?_
                          refine va_get (D := D) (ci := 9) (v := .ref b8) (C := RX9) (T := TX9) (N := 37) hx hb hts hin_X9 hown hK hP 0 rfl rfl 14 (by decide) (hts (.fieldLink RX9 38 "CryOrderModel" "state" "[I") (List.mem_cons_of_mem _ (List.mem_append_left _ (List.mem_of_getElem? (i := 5) rfl)))) (fun _ h9 => h9) rfl dX9_source_149 ?_
                          refine lv_iload hx hb dX9_source_152 (lv_at hl 1 rfl) ?_
                          refine va_iald hx hb hK hP 5 4 rfl rfl (vp_in_iff.mpr (by omega)) dX9_source_154 ?_
                          refine lv_topi (fun z_916 ez_916 => ?_)
                          refine lv_iconst (v := 2) hx hb dX9_source_155 (by decide) ?_
                          refine bi_eq (zx := (z_916).toInt) (zy := 2) (tgt := 181) hx hb dX9_source_156 (by decide) rfl (by decide) (fun c_917 => ?_) (fun c_917 => ?_)
                          · refine lv_iconst (v := 1) hx hb dX9_source_181 (by decide) ?_
                            refine lv_goto (tgt := 186) hx hb dX9_source_182 (by decide) ?_
                            refine vp_callSi (zrS (As := [.int 1]) (rest := [.int x]) (wc := []) ⟨hx, hb, hml, hown, hts⟩ hN hK hP hD (m_one1 l D  ) (va_cwS 1 hts gX9_source_X9_one rfl rfl rfl (by decide +kernel) ⟨Nat.le_trans (m := 1) (Nat.le_of_ble_eq_true rfl) hR.1, Nat.le_trans (m := 20) (Nat.le_of_ble_eq_true rfl) hR.2⟩) [] [] rfl rfl (by decide) rfl hl.1 rfl (Nat.le_of_ble_eq_true rfl) dX9_source_186 ⟨hcs.1, hcs.2⟩) (fun r_918 h_919 => ?_)
                            subst h_919
                            refine lv_iadd hx hb dX9_source_189 ?_
                            refine lv_topi (fun z_920 ez_920 => ?_)
                            have tz_920 := ad_toInt (zx := (x).toInt) (zy := 1) ez_920 rfl (by decide)
                            refine lv_istore_n (lv' := [(3, .int z_920), (5, .int 1), (4, .int k), (0, .ref h0), (1, .int p0), (2, .int p1)]) hx hb dX9_source_190 rfl hl (by decide) rfl (fun ls hl => ?_)
                            obtain ⟨x_921, ex_921⟩ : ∃ z : Int32, z = k + 1 := ⟨_, rfl⟩
                            have tx_921 := ad_toInt (x := k) (y := 1) (z := x_921) (zx := (k).toInt) (zy := 1) ex_921 rfl (by decide)
                            refine lv_iinc (v := x_921) (lv' := [(4, .int x_921), (3, .int z_920), (5, .int 1), (0, .ref h0), (1, .int p0), (2, .int p1)]) hx hb dX9_source_191 hl (k := 2) rfl (by rw [ex_921]; rfl) (by decide) rfl (fun ls hl => ?_)
                            refine lv_goto (tgt := 27) hx hb dX9_source_194 (by decide) ?_
                            exact ih _ _ _ (by first | omega | assumption) (by omega) (lv_sub hl [0, 1, 3, 4, 5] rfl)
                          · refine lv_iload_n hx hb dX9_source_159 rfl (lv_at hl 5 rfl) ?_
                            refine lv_bipush (v := 6) hx hb dX9_source_160 (by decide) ?_
                            refine bi_ne (zx := (p1).toInt) (zy := 6) (tgt := 185) hx hb dX9_source_162 (by decide) rfl (by decide) (fun c_922 => ?_) (fun c_922 => ?_)
                            · refine lv_iconst (v := 0) hx hb dX9_source_185 (by decide) ?_
                              refine vp_callSi (zrS (As := [.int 0]) (rest := [.int x]) (wc := []) ⟨hx, hb, hml, hown, hts⟩ hN hK hP hD (m_one0 l D  ) (va_cwS 1 hts gX9_source_X9_one rfl rfl rfl (by decide +kernel) ⟨Nat.le_trans (m := 1) (Nat.le_of_ble_eq_true rfl) hR.1, Nat.le_trans (m := 20) (Nat.le_of_ble_eq_true rfl) hR.2⟩) [] [] rfl rfl (by decide) rfl hl.1 rfl (Nat.le_of_ble_eq_true rfl) dX9_source_186 ⟨hcs.1, hcs.2⟩) (fun r_923 h_924 => ?_)
                              subst h_924
                              refine lv_iadd hx hb dX9_source_189 ?_
                              refine lv_topi (fun z_925 ez_925 => ?_)
                              have tz_925 := ad_toInt (zx := (x).toInt) (zy := 0) ez_925 rfl (by decide)
                              refine lv_istore_n (lv' := [(3, .int z_925), (5, .int 1), (4, .int k), (0, .ref h0), (1, .int p0), (2, .int p1)]) hx hb dX9_source_190 rfl hl (by decide) rfl (fun ls hl => ?_)
                              obtain ⟨x_926, ex_926⟩ : ∃ z : Int32, z = k + 1 := ⟨_, rfl⟩
                              have tx_926 := ad_toInt (x := k) (y := 1) (z := x_926) (zx := (k).toInt) (zy := 1) ex_926 rfl (by decide)
                              refine lv_iinc (v := x_926) (lv' := [(4, .int x_926), (3, .int z_925), (5, .int 1), (0, .ref h0), (1, .int p0), (2, .int p1)]) hx hb dX9_source_191 hl (k := 2) rfl (by rw [ex_926]; rfl) (by decide) rfl (fun ls hl => ?_)
                              refine lv_goto (tgt := 27) hx hb dX9_source_194 (by decide) ?_
                              exact ih _ _ _ (by first | omega | assumption) (by omega) (lv_sub hl [0, 1, 3, 4, 5] rfl)
                            · refine lv_aload_n hx hb dX9_source_165 rfl (lv_at hl 3 rfl) ?_
                              refine va_get (D := D) (ci := 9) (v := .ref b8) (C := RX9) (T := TX9) (N := 37) hx hb hts hin_X9 hown hK hP 0 rfl rfl 14 (by decide) (hts (.fieldLink RX9 38 "CryOrderModel" "state" "[I") (List.mem_cons_of_mem _ (List.mem_append_left _ (List.mem_of_getElem? (i := 5) rfl)))) (fun _ h9 => h9) rfl dX9_source_166 ?_
                              refine lv_iload hx hb dX9_source_169 (lv_at hl 1 rfl) ?_
                              refine va_iald hx hb hK hP 5 4 rfl rfl (vp_in_iff.mpr (by omega)) dX9_source_171 ?_
                              refine lv_topi (fun z_927 ez_927 => ?_)
                              have qz_927 : (z_927).toInt = (z_916).toInt := by rw [ez_927, ez_916]
                              refine lv_iconst (v := 1) hx hb dX9_source_172 (by decide) ?_
                              refine bi_ne (zx := (z_927).toInt) (zy := 1) (tgt := 185) hx hb dX9_source_173 (by decide) rfl (by decide) (fun c_928 => ?_) (fun c_928 => ?_)
                              · refine lv_iconst (v := 0) hx hb dX9_source_185 (by decide) ?_
                                refine vp_callSi (zrS (As := [.int 0]) (rest := [.int x]) (wc := []) ⟨hx, hb, hml, hown, hts⟩ hN hK hP hD (m_one0 l D  ) (va_cwS 1 hts gX9_source_X9_one rfl rfl rfl (by decide +kernel) ⟨Nat.le_trans (m := 1) (Nat.le_of_ble_eq_true rfl) hR.1, Nat.le_trans (m := 20) (Nat.le_of_ble_eq_true rfl) hR.2⟩) [] [] rfl rfl (by decide) rfl hl.1 rfl (Nat.le_of_ble_eq_true rfl) dX9_source_186 ⟨hcs.1, hcs.2⟩) (fun r_929 h_930 => ?_)
                                subst h_930
                                refine lv_iadd hx hb dX9_source_189 ?_
                                refine lv_topi (fun z_931 ez_931 => ?_)
                                have tz_931 := ad_toInt (zx := (x).toInt) (zy := 0) ez_931 rfl (by decide)
                                refine lv_istore_n (lv' := [(3, .int z_931), (5, .int 1), (4, .int k), (0, .ref h0), (1, .int p0), (2, .int p1)]) hx hb dX9_source_190 rfl hl (by decide) rfl (fun ls hl => ?_)
                                obtain ⟨x_932, ex_932⟩ : ∃ z : Int32, z = k + 1 := ⟨_, rfl⟩
                                have tx_932 := ad_toInt (x := k) (y := 1) (z := x_932) (zx := (k).toInt) (zy := 1) ex_932 rfl (by decide)
                                refine lv_iinc (v := x_932) (lv' := [(4, .int x_932), (3, .int z_931), (5, .int 1), (0, .ref h0), (1, .int p0), (2, .int p1)]) hx hb dX9_source_191 hl (k := 2) rfl (by rw [ex_932]; rfl) (by decide) rfl (fun ls hl => ?_)
                                refine lv_goto (tgt := 27) hx hb dX9_source_194 (by decide) ?_
                                exact ih _ _ _ (by first | omega | assumption) (by omega) (lv_sub hl [0, 1, 3, 4, 5] rfl)
                              · refine lv_iload hx hb dX9_source_176 (lv_at hl 0 rfl) ?_
                                refine lv_if_ne (tgt := 185) hx hb dX9_source_178 (by decide) (fun _ => ?_) (fun c_ => absurd c_ (by decide))
                                refine lv_iconst (v := 0) hx hb dX9_source_185 (by decide) ?_
                                refine vp_callSi (zrS (As := [.int 0]) (rest := [.int x]) (wc := []) ⟨hx, hb, hml, hown, hts⟩ hN hK hP hD (m_one0 l D  ) (va_cwS 1 hts gX9_source_X9_one rfl rfl rfl (by decide +kernel) ⟨Nat.le_trans (m := 1) (Nat.le_of_ble_eq_true rfl) hR.1, Nat.le_trans (m := 20) (Nat.le_of_ble_eq_true rfl) hR.2⟩) [] [] rfl rfl (by decide) rfl hl.1 rfl (Nat.le_of_ble_eq_true rfl) dX9_source_186 ⟨hcs.1, hcs.2⟩) (fun r_933 h_934 => ?_)
                                subst h_934
                                refine lv_iadd hx hb dX9_source_189 ?_
                                refine lv_topi (fun z_935 ez_935 => ?_)
                                have tz_935 := ad_toInt (zx := (x).toInt) (zy := 0) ez_935 rfl (by decide)
                                refine lv_istore_n (lv' := [(3, .int z_935), (5, .int 1), (4, .int k), (0, .ref h0), (1, .int p0), (2, .int p1)]) hx hb dX9_source_190 rfl hl (by decide) rfl (fun ls hl => ?_)
                                obtain ⟨x_936, ex_936⟩ : ∃ z : Int32, z = k + 1 := ⟨_, rfl⟩
                                have tx_936 := ad_toInt (x := k) (y := 1) (z := x_936) (zx := (k).toInt) (zy := 1) ex_936 rfl (by decide)
                                refine lv_iinc (v := x_936) (lv' := [(4, .int x_936), (3, .int z_935), (5, .int 1), (0, .ref h0), (1, .int p0), (2, .int p1)]) hx hb dX9_source_191 hl (k := 2) rfl (by rw [ex_936]; rfl) (by decide) rfl (fun ls hl => ?_)
                                refine lv_goto (tgt := 27) hx hb dX9_source_194 (by decide) ?_
                                exact ih _ _ _ (by first | omega | assumption) (by omega) (lv_sub hl [0, 1, 3, 4, 5] rfl)
                      · refine lv_aload_n hx hb dX9_source_132 rfl (lv_at hl 3 rfl) ?_
                        refine va_get (D := D) (ci := 9) (v := .ref b8) (C := RX9) (T := TX9) (N := 37) hx hb hts hin_X9 hown hK hP 0 rfl rfl 14 (by decide) (hts (.fieldLink RX9 38 "CryOrderModel" "state" "[I") (List.mem_cons_of_mem _ (List.mem_append_left _ (List.mem_of_getElem? (i := 5) rfl)))) (fun _ h9 => h9) rfl dX9_source_133 ?_
                        refine lv_iload hx hb dX9_source_136 (lv_at hl 1 rfl) ?_
                        refine va_iald hx hb hK hP 5 4 rfl rfl (vp_in_iff.mpr (by omega)) dX9_source_138 ?_
                        refine lv_topi (fun z_937 ez_937 => ?_)
                        refine lv_iconst (v := 1) hx hb dX9_source_139 (by decide) ?_
                        refine bi_eq (zx := (z_937).toInt) (zy := 1) (tgt := 181) hx hb dX9_source_140 (by decide) rfl (by decide) (fun c_938 => ?_) (fun c_938 => ?_)
                        · refine lv_iconst (v := 1) hx hb dX9_source_181 (by decide) ?_
                          refine lv_goto (tgt := 186) hx hb dX9_source_182 (by decide) ?_
                          refine vp_callSi (zrS (As := [.int 1]) (rest := [.int x]) (wc := []) ⟨hx, hb, hml, hown, hts⟩ hN hK hP hD (m_one1 l D  ) (va_cwS 1 hts gX9_source_X9_one rfl rfl rfl (by decide +kernel) ⟨Nat.le_trans (m := 1) (Nat.le_of_ble_eq_true rfl) hR.1, Nat.le_trans (m := 20) (Nat.le_of_ble_eq_true rfl) hR.2⟩) [] [] rfl rfl (by decide) rfl hl.1 rfl (Nat.le_of_ble_eq_true rfl) dX9_source_186 ⟨hcs.1, hcs.2⟩) (fun r_939 h_940 => ?_)
                          subst h_940
                          refine lv_iadd hx hb dX9_source_189 ?_
                          refine lv_topi (fun z_941 ez_941 => ?_)
                          have tz_941 := ad_toInt (zx := (x).toInt) (zy := 1) ez_941 rfl (by decide)
                          refine lv_istore_n (lv' := [(3, .int z_941), (5, .int 1), (4, .int k), (0, .ref h0), (1, .int p0), (2, .int p1)]) hx hb dX9_source_190 rfl hl (by decide) rfl (fun ls hl => ?_)
                          obtain ⟨x_942, ex_942⟩ : ∃ z : Int32, z = k + 1 := ⟨_, rfl⟩
                          have tx_942 := ad_toInt (x := k) (y := 1) (z := x_942) (zx := (k).toInt) (zy := 1) ex_942 rfl (by decide)
                          refine lv_iinc (v := x_942) (lv' := [(4, .int x_942), (3, .int z_941), (5, .int 1), (0, .ref h0), (1, .int p0), (2, .int p1)]) hx hb dX9_source_191 hl (k := 2) rfl (by rw [ex_942]; rfl) (by decide) rfl (fun ls hl => ?_)
                          refine lv_goto (tgt := 27) hx hb dX9_source_194 (by decide) ?_
                          exact ih _ _ _ (by first | omega | assumption) (by omega) (lv_sub hl [0, 1, 3, 4, 5] rfl)
                        · refine lv_iload_n hx hb dX9_source_143 rfl (lv_at hl 5 rfl) ?_
                          refine lv_iconst (v := 5) hx hb dX9_source_144 (by decide) ?_
                          refine bi_ne (zx := (p1).toInt) (zy := 5) (tgt := 159) hx hb dX9_source_145 (by decide) rfl (by decide) (fun c_943 => ?_) (fun c_943 => ?_)
                          · refine lv_iload_n hx hb dX9_source_159 rfl (lv_at hl 5 rfl) ?_
                            refine lv_bipush (v := 6) hx hb dX9_source_160 (by decide) ?_
                            refine bi_ne (zx := (p1).toInt) (zy := 6) (tgt := 185) hx hb dX9_source_162 (by decide) rfl (by decide) (fun c_944 => ?_) (fun c_944 => ?_)
                            · refine lv_iconst (v := 0) hx hb dX9_source_185 (by decide) ?_
                              refine vp_callSi (zrS (As := [.int 0]) (rest := [.int x]) (wc := []) ⟨hx, hb, hml, hown, hts⟩ hN hK hP hD (m_one0 l D  ) (va_cwS 1 hts gX9_source_X9_one rfl rfl rfl (by decide +kernel) ⟨Nat.le_trans (m := 1) (Nat.le_of_ble_eq_true rfl) hR.1, Nat.le_trans (m := 20) (Nat.le_of_ble_eq_true rfl) hR.2⟩) [] [] rfl rfl (by decide) rfl hl.1 rfl (Nat.le_of_ble_eq_true rfl) dX9_source_186 ⟨hcs.1, hcs.2⟩) (fun r_945 h_946 => ?_)
                              subst h_946
                              refine lv_iadd hx hb dX9_source_189 ?_
                              refine lv_topi (fun z_947 ez_947 => ?_)
                              have tz_947 := ad_toInt (zx := (x).toInt) (zy := 0) ez_947 rfl (by decide)
                              refine lv_istore_n (lv' := [(3, .int z_947), (5, .int 1), (4, .int k), (0, .ref h0), (1, .int p0), (2, .int p1)]) hx hb dX9_source_190 rfl hl (by decide) rfl (fun ls hl => ?_)
                              obtain ⟨x_948, ex_948⟩ : ∃ z : Int32, z = k + 1 := ⟨_, rfl⟩
                              have tx_948 := ad_toInt (x := k) (y := 1) (z := x_948) (zx := (k).toInt) (zy := 1) ex_948 rfl (by decide)
                              refine lv_iinc (v := x_948) (lv' := [(4, .int x_948), (3, .int z_947), (5, .int 1), (0, .ref h0), (1, .int p0), (2, .int p1)]) hx hb dX9_source_191 hl (k := 2) rfl (by rw [ex_948]; rfl) (by decide) rfl (fun ls hl => ?_)
                              refine lv_goto (tgt := 27) hx hb dX9_source_194 (by decide) ?_
                              exact ih _ _ _ (by first | omega | assumption) (by omega) (lv_sub hl [0, 1, 3, 4, 5] rfl)
                            · refine lv_aload_n hx hb dX9_source_165 rfl (lv_at hl 3 rfl) ?_
                              refine va_get (D := D) (ci := 9) (v := .ref b8) (C := RX9) (T := TX9) (N := 37) hx hb hts hin_X9 hown hK hP 0 rfl rfl 14 (by decide) (hts (.fieldLink RX9 38 "CryOrderModel" "state" "[I") (List.mem_cons_of_mem _ (List.mem_append_left _ (List.mem_of_getElem? (i := 5) rfl)))) (fun _ h9 => h9) rfl dX9_source_166 ?_
                              refine lv_iload hx hb dX9_source_169 (lv_at hl 1 rfl) ?_
                              refine va_iald hx hb hK hP 5 4 rfl rfl (vp_in_iff.mpr (by omega)) dX9_source_171 ?_
                              refine lv_topi (fun z_949 ez_949 => ?_)
                              have qz_949 : (z_949).toInt = (z_937).toInt := by rw [ez_949, ez_937]
                              refine lv_iconst (v := 1) hx hb dX9_source_172 (by decide) ?_
                              refine bi_ne (zx := (z_949).toInt) (zy := 1) (tgt := 185) hx hb dX9_source_173 (by decide) rfl (by decide) (fun c_950 => ?_) (fun c_950 => ?_)
                              · refine lv_iconst (v := 0) hx hb dX9_source_185 (by decide) ?_
                                refine vp_callSi (zrS (As := [.int 0]) (rest := [.int x]) (wc := []) ⟨hx, hb, hml, hown, hts⟩ hN hK hP hD (m_one0 l D  ) (va_cwS 1 hts gX9_source_X9_one rfl rfl rfl (by decide +kernel) ⟨Nat.le_trans (m := 1) (Nat.le_of_ble_eq_true rfl) hR.1, Nat.le_trans (m := 20) (Nat.le_of_ble_eq_true rfl) hR.2⟩) [] [] rfl rfl (by decide) rfl hl.1 rfl (Nat.le_of_ble_eq_true rfl) dX9_source_186 ⟨hcs.1, hcs.2⟩) (fun r_951 h_952 => ?_)
                                subst h_952
                                refine lv_iadd hx hb dX9_source_189 ?_
                                refine lv_topi (fun z_953 ez_953 => ?_)
                                have tz_953 := ad_toInt (zx := (x).toInt) (zy := 0) ez_953 rfl (by decide)
                                refine lv_istore_n (lv' := [(3, .int z_953), (5, .int 1), (4, .int k), (0, .ref h0), (1, .int p0), (2, .int p1)]) hx hb dX9_source_190 rfl hl (by decide) rfl (fun ls hl => ?_)
                                obtain ⟨x_954, ex_954⟩ : ∃ z : Int32, z = k + 1 := ⟨_, rfl⟩
                                have tx_954 := ad_toInt (x := k) (y := 1) (z := x_954) (zx := (k).toInt) (zy := 1) ex_954 rfl (by decide)
                                refine lv_iinc (v := x_954) (lv' := [(4, .int x_954), (3, .int z_953), (5, .int 1), (0, .ref h0), (1, .int p0), (2, .int p1)]) hx hb dX9_source_191 hl (k := 2) rfl (by rw [ex_954]; rfl) (by decide) rfl (fun ls hl => ?_)
                                refine lv_goto (tgt := 27) hx hb dX9_source_194 (by decide) ?_
                                exact ih _ _ _ (by first | omega | assumption) (by omega) (lv_sub hl [0, 1, 3, 4, 5] rfl)
                              · refine lv_iload hx hb dX9_source_176 (lv_at hl 0 rfl) ?_
                                refine lv_if_ne (tgt := 185) hx hb dX9_source_178 (by decide) (fun _ => ?_) (fun c_ => absurd c_ (by decide))
                                refine lv_iconst (v := 0) hx hb dX9_source_185 (by decide) ?_
                                refine vp_callSi (zrS (As := [.int 0]) (rest := [.int x]) (wc := []) ⟨hx, hb, hml, hown, hts⟩ hN hK hP hD (m_one0 l D  ) (va_cwS 1 hts gX9_source_X9_one rfl rfl rfl (by decide +kernel) ⟨Nat.le_trans (m := 1) (Nat.le_of_ble_eq_true rfl) hR.1, Nat.le_trans (m := 20) (Nat.le_of_ble_eq_true rfl) hR.2⟩) [] [] rfl rfl (by decide) rfl hl.1 rfl (Nat.le_of_ble_eq_true rfl) dX9_source_186 ⟨hcs.1, hcs.2⟩) (fun r_955 h_956 => ?_)
                                subst h_956
                                refine lv_iadd hx hb dX9_source_189 ?_
                                refine lv_topi (fun z_957 ez_957 => ?_)
                                have tz_957 := ad_toInt (zx := (x).toInt) (zy := 0) ez_957 rfl (by decide)
                                refine lv_istore_n (lv' := [(3, .int z_957), (5, .int 1), (4, .int k), (0, .ref h0), (1, .int p0), (2, .int p1)]) hx hb dX9_source_190 rfl hl (by decide) rfl (fun ls hl => ?_)
                                obtain ⟨x_958, ex_958⟩ : ∃ z : Int32, z = k + 1 := ⟨_, rfl⟩
                                have tx_958 := ad_toInt (x := k) (y := 1) (z := x_958) (zx := (k).toInt) (zy := 1) ex_958 rfl (by decide)
                                refine lv_iinc (v := x_958) (lv' := [(4, .int x_958), (3, .int z_957), (5, .int 1), (0, .ref h0), (1, .int p0), (2, .int p1)]) hx hb dX9_source_191 hl (k := 2) rfl (by rw [ex_958]; rfl) (by decide) rfl (fun ls hl => ?_)
                                refine lv_goto (tgt := 27) hx hb dX9_source_194 (by decide) ?_
                                exact ih _ _ _ (by first | omega | assumption) (by omega) (lv_sub hl [0, 1, 3, 4, 5] rfl)
                          · refine lv_aload_n hx hb dX9_source_148 rfl (lv_at hl 3 rfl) ?_
                            refine va_get (D := D) (ci := 9) (v := .ref b8) (C := RX9) (T := TX9) (N := 37) hx hb hts hin_X9 hown hK hP 0 rfl rfl 14 (by decide) (hts (.fieldLink RX9 38 "CryOrderModel" "state" "[I") (List.mem_cons_of_mem _ (List.mem_append_left _ (List.mem_of_getElem? (i := 5) rfl)))) (fun _ h9 => h9) rfl dX9_source_149 ?_
                            refine lv_iload hx hb dX9_source_152 (lv_at hl 1 rfl) ?_
                            refine va_iald hx hb hK hP 5 4 rfl rfl (vp_in_iff.mpr (by omega)) dX9_source_154 ?_
                            refine lv_topi (fun z_959 ez_959 => ?_)
                            have qz_959 : (z_959).toInt = (z_937).toInt := by rw [ez_959, ez_937]
                            refine lv_iconst (v := 2) hx hb dX9_source_155 (by decide) ?_
                            refine bi_eq (zx := (z_959).toInt) (zy := 2) (tgt := 181) hx hb dX9_source_156 (by decide) rfl (by decide) (fun c_960 => ?_) (fun c_960 => ?_)
                            · refine lv_iconst (v := 1) hx hb dX9_source_181 (by decide) ?_
                              refine lv_goto (tgt := 186) hx hb dX9_source_182 (by decide) ?_
                              refine vp_callSi (zrS (As := [.int 1]) (rest := [.int x]) (wc := []) ⟨hx, hb, hml, hown, hts⟩ hN hK hP hD (m_one1 l D  ) (va_cwS 1 hts gX9_source_X9_one rfl rfl rfl (by decide +kernel) ⟨Nat.le_trans (m := 1) (Nat.le_of_ble_eq_true rfl) hR.1, Nat.le_trans (m := 20) (Nat.le_of_ble_eq_true rfl) hR.2⟩) [] [] rfl rfl (by decide) rfl hl.1 rfl (Nat.le_of_ble_eq_true rfl) dX9_source_186 ⟨hcs.1, hcs.2⟩) (fun r_961 h_962 => ?_)
                              subst h_962
                              refine lv_iadd hx hb dX9_source_189 ?_
                              refine lv_topi (fun z_963 ez_963 => ?_)
                              have tz_963 := ad_toInt (zx := (x).toInt) (zy := 1) ez_963 rfl (by decide)
                              refine lv_istore_n (lv' := [(3, .int z_963), (5, .int 1), (4, .int k), (0, .ref h0), (1, .int p0), (2, .int p1)]) hx hb dX9_source_190 rfl hl (by decide) rfl (fun ls hl => ?_)
                              obtain ⟨x_964, ex_964⟩ : ∃ z : Int32, z = k + 1 := ⟨_, rfl⟩
                              have tx_964 := ad_toInt (x := k) (y := 1) (z := x_964) (zx := (k).toInt) (zy := 1) ex_964 rfl (by decide)
                              refine lv_iinc (v := x_964) (lv' := [(4, .int x_964), (3, .int z_963), (5, .int 1), (0, .ref h0), (1, .int p0), (2, .int p1)]) hx hb dX9_source_191 hl (k := 2) rfl (by rw [ex_964]; rfl) (by decide) rfl (fun ls hl => ?_)
                              refine lv_goto (tgt := 27) hx hb dX9_source_194 (by decide) ?_
                              exact ih _ _ _ (by first | omega | assumption) (by omega) (lv_sub hl [0, 1, 3, 4, 5] rfl)
                            · refine lv_iload_n hx hb dX9_source_159 rfl (lv_at hl 5 rfl) ?_
                              refine lv_bipush (v := 6) hx hb dX9_source_160 (by decide) ?_
                              refine bi_ne (zx := (p1).toInt) (zy := 6) (tgt := 185) hx hb dX9_source_162 (by decide) rfl (by decide) (fun c_965 => ?_) (fun c_965 => ?_)
                              · refine lv_iconst (v := 0) hx hb dX9_source_185 (by decide) ?_
                                refine vp_callSi (zrS (As := [.int 0]) (rest := [.int x]) (wc := []) ⟨hx, hb, hml, hown, hts⟩ hN hK hP hD (m_one0 l D  ) (va_cwS 1 hts gX9_source_X9_one rfl rfl rfl (by decide +kernel) ⟨Nat.le_trans (m := 1) (Nat.le_of_ble_eq_true rfl) hR.1, Nat.le_trans (m := 20) (Nat.le_of_ble_eq_true rfl) hR.2⟩) [] [] rfl rfl (by decide) rfl hl.1 rfl (Nat.le_of_ble_eq_true rfl) dX9_source_186 ⟨hcs.1, hcs.2⟩) (fun r_966 h_967 => ?_)
                                subst h_967
                                refine lv_iadd hx hb dX9_source_189 ?_
                                refine lv_topi (fun z_968 ez_968 => ?_)
                                have tz_968 := ad_toInt (zx := (x).toInt) (zy := 0) ez_968 rfl (by decide)
                                refine lv_istore_n (lv' := [(3, .int z_968), (5, .int 1), (4, .int k), (0, .ref h0), (1, .int p0), (2, .int p1)]) hx hb dX9_source_190 rfl hl (by decide) rfl (fun ls hl => ?_)
                                obtain ⟨x_969, ex_969⟩ : ∃ z : Int32, z = k + 1 := ⟨_, rfl⟩
                                have tx_969 := ad_toInt (x := k) (y := 1) (z := x_969) (zx := (k).toInt) (zy := 1) ex_969 rfl (by decide)
                                refine lv_iinc (v := x_969) (lv' := [(4, .int x_969), (3, .int z_968), (5, .int 1), (0, .ref h0), (1, .int p0), (2, .int p1)]) hx hb dX9_source_191 hl (k := 2) rfl (by rw [ex_969]; rfl) (by decide) rfl (fun ls hl => ?_)
                                refine lv_goto (tgt := 27) hx hb dX9_source_194 (by decide) ?_
                                exact ih _ _ _ (by first | omega | assumption) (by omega) (lv_sub hl [0, 1, 3, 4, 5] rfl)
                              · refine lv_aload_n hx hb dX9_source_165 rfl (lv_at hl 3 rfl) ?_
                                refine va_get (D := D) (ci := 9) (v := .ref b8) (C := RX9) (T := TX9) (N := 37) hx hb hts hin_X9 hown hK hP 0 rfl rfl 14 (by decide) (hts (.fieldLink RX9 38 "CryOrderModel" "state" "[I") (List.mem_cons_of_mem _ (List.mem_append_left _ (List.mem_of_getElem? (i := 5) rfl)))) (fun _ h9 => h9) rfl dX9_source_166 ?_
                                refine lv_iload hx hb dX9_source_169 (lv_at hl 1 rfl) ?_
                                refine va_iald hx hb hK hP 5 4 rfl rfl (vp_in_iff.mpr (by omega)) dX9_source_171 ?_
                                refine lv_topi (fun z_970 ez_970 => ?_)
                                have qz_970 : (z_970).toInt = (z_937).toInt := by rw [ez_970, ez_937]
                                refine lv_iconst (v := 1) hx hb dX9_source_172 (by decide) ?_
                                refine bi_ne (zx := (z_970).toInt) (zy := 1) (tgt := 185) hx hb dX9_source_173 (by decide) rfl (by decide) (fun c_971 => ?_) (fun c_971 => ?_)
                                · refine lv_iconst (v := 0) hx hb dX9_source_185 (by decide) ?_
                                  refine vp_callSi (zrS (As := [.int 0]) (rest := [.int x]) (wc := []) ⟨hx, hb, hml, hown, hts⟩ hN hK hP hD (m_one0 l D  ) (va_cwS 1 hts gX9_source_X9_one rfl rfl rfl (by decide +kernel) ⟨Nat.le_trans (m := 1) (Nat.le_of_ble_eq_true rfl) hR.1, Nat.le_trans (m := 20) (Nat.le_of_ble_eq_true rfl) hR.2⟩) [] [] rfl rfl (by decide) rfl hl.1 rfl (Nat.le_of_ble_eq_true rfl) dX9_source_186 ⟨hcs.1, hcs.2⟩) (fun r_972 h_973 => ?_)
                                  subst h_973
                                  refine lv_iadd hx hb dX9_source_189 ?_
                                  refine lv_topi (fun z_974 ez_974 => ?_)
                                  have tz_974 := ad_toInt (zx := (x).toInt) (zy := 0) ez_974 rfl (by decide)
                                  refine lv_istore_n (lv' := [(3, .int z_974), (5, .int 1), (4, .int k), (0, .ref h0), (1, .int p0), (2, .int p1)]) hx hb dX9_source_190 rfl hl (by decide) rfl (fun ls hl => ?_)
                                  obtain ⟨x_975, ex_975⟩ : ∃ z : Int32, z = k + 1 := ⟨_, rfl⟩
                                  have tx_975 := ad_toInt (x := k) (y := 1) (z := x_975) (zx := (k).toInt) (zy := 1) ex_975 rfl (by decide)
                                  refine lv_iinc (v := x_975) (lv' := [(4, .int x_975), (3, .int z_974), (5, .int 1), (0, .ref h0), (1, .int p0), (2, .int p1)]) hx hb dX9_source_191 hl (k := 2) rfl (by rw [ex_975]; rfl) (by decide) rfl (fun ls hl => ?_)
                                  refine lv_goto (tgt := 27) hx hb dX9_source_194 (by decide) ?_
                                  exact ih _ _ _ (by first | omega | assumption) (by omega) (lv_sub hl [0, 1, 3, 4, 5] rfl)
                                · refine lv_iload hx hb dX9_source_176 (lv_at hl 0 rfl) ?_
                                  refine lv_if_ne (tgt := 185) hx hb dX9_source_178 (by decide) (fun _ => ?_) (fun c_ => absurd c_ (by decide))
                                  refine lv_iconst (v := 0) hx hb dX9_source_185 (by decide) ?_
                                  refine vp_callSi (zrS (As := [.int 0]) (rest := [.int x]) (wc := []) ⟨hx, hb, hml, hown, hts⟩ hN hK hP hD (m_one0 l D  ) (va_cwS 1 hts gX9_source_X9_one rfl rfl rfl (by decide +kernel) ⟨Nat.le_trans (m := 1) (Nat.le_of_ble_eq_true rfl) hR.1, Nat.le_trans (m := 20) (Nat.le_of_ble_eq_true rfl) hR.2⟩) [] [] rfl rfl (by decide) rfl hl.1 rfl (Nat.le_of_ble_eq_true rfl) dX9_source_186 ⟨hcs.1, hcs.2⟩) (fun r_976 h_977 => ?_)
                                  subst h_977
                                  refine lv_iadd hx hb dX9_source_189 ?_
                                  refine lv_topi (fun z_978 ez_978 => ?_)
                                  have tz_978 := ad_toInt (zx := (x).toInt) (zy := 0) ez_978 rfl (by decide)
                                  refine lv_istore_n (lv' := [(3, .int z_978), (5, .int 1), (4, .int k), (0, .ref h0), (1, .int p0), (2, .int p1)]) hx hb dX9_source_190 rfl hl (by decide) rfl (fun ls hl => ?_)
                                  obtain ⟨x_979, ex_979⟩ : ∃ z : Int32, z = k + 1 := ⟨_, rfl⟩
                                  have tx_979 := ad_toInt (x := k) (y := 1) (z := x_979) (zx := (k).toInt) (zy := 1) ex_979 rfl (by decide)
                                  refine lv_iinc (v := x_979) (lv' := [(4, .int x_979), (3, .int z_978), (5, .int 1), (0, .ref h0), (1, .int p0), (2, .int p1)]) hx hb dX9_source_191 hl (k := 2) rfl (by rw [ex_979]; rfl) (by decide) rfl (fun ls hl => ?_)
                                  refine lv_goto (tgt := 27) hx hb dX9_source_194 (by decide) ?_
                                  exact ih _ _ _ (by first | omega | assumption) (by omega) (lv_sub hl [0, 1, 3, 4, 5] rfl)
                    · refine lv_aload_n hx hb dX9_source_117 rfl (lv_at hl 3 rfl) ?_
                      refine va_get (D := D) (ci := 9) (v := .ref b12) (C := RX9) (T := TX9) (N := 37) hx hb hts hin_X9 hown hK hP 0 rfl rfl 18 (by decide) (hts (.fieldLink RX9 51 "CryOrderModel" "isCapped" "[Z") (List.mem_cons_of_mem _ (List.mem_append_left _ (List.mem_of_getElem? (i := 3) rfl)))) (fun _ h9 => h9) rfl dX9_source_118 ?_
                      refine lv_iload hx hb dX9_source_121 (lv_at hl 1 rfl) ?_
                      refine va_zald hx hb hK hP 3 2 rfl rfl (vp_in_iff.mpr (by omega)) dX9_source_123 ?_
                      refine lv_topi (fun z_980 ez_980 => ?_)
                      have qz_980 : (z_980).toInt = (z_360).toInt := by rw [ez_980, ez_360]
                      refine bz_ne (zx := (z_980).toInt) (tgt := 181) hx hb dX9_source_124 (by decide) rfl (fun c_981 => ?_) (fun c_981 => ?_)
                      · refine lv_iconst (v := 1) hx hb dX9_source_181 (by decide) ?_
                        refine lv_goto (tgt := 186) hx hb dX9_source_182 (by decide) ?_
                        refine vp_callSi (zrS (As := [.int 1]) (rest := [.int x]) (wc := []) ⟨hx, hb, hml, hown, hts⟩ hN hK hP hD (m_one1 l D  ) (va_cwS 1 hts gX9_source_X9_one rfl rfl rfl (by decide +kernel) ⟨Nat.le_trans (m := 1) (Nat.le_of_ble_eq_true rfl) hR.1, Nat.le_trans (m := 20) (Nat.le_of_ble_eq_true rfl) hR.2⟩) [] [] rfl rfl (by decide) rfl hl.1 rfl (Nat.le_of_ble_eq_true rfl) dX9_source_186 ⟨hcs.1, hcs.2⟩) (fun r_982 h_983 => ?_)
                        subst h_983
                        refine lv_iadd hx hb dX9_source_189 ?_
                        refine lv_topi (fun z_984 ez_984 => ?_)
                        have tz_984 := ad_toInt (zx := (x).toInt) (zy := 1) ez_984 rfl (by decide)
                        refine lv_istore_n (lv' := [(3, .int z_984), (5, .int 1), (4, .int k), (0, .ref h0), (1, .int p0), (2, .int p1)]) hx hb dX9_source_190 rfl hl (by decide) rfl (fun ls hl => ?_)
                        obtain ⟨x_985, ex_985⟩ : ∃ z : Int32, z = k + 1 := ⟨_, rfl⟩
                        have tx_985 := ad_toInt (x := k) (y := 1) (z := x_985) (zx := (k).toInt) (zy := 1) ex_985 rfl (by decide)
                        refine lv_iinc (v := x_985) (lv' := [(4, .int x_985), (3, .int z_984), (5, .int 1), (0, .ref h0), (1, .int p0), (2, .int p1)]) hx hb dX9_source_191 hl (k := 2) rfl (by rw [ex_985]; rfl) (by decide) rfl (fun ls hl => ?_)
                        refine lv_goto (tgt := 27) hx hb dX9_source_194 (by decide) ?_
                        exact ih _ _ _ (by first | omega | assumption) (by omega) (lv_sub hl [0, 1, 3, 4, 5] rfl)
                      · refine lv_iload_n hx hb dX9_source_127 rfl (lv_at hl 5 rfl) ?_
                        refine lv_iconst (v := 4) hx hb dX9_source_128 (by decide) ?_
                        refine bi_ne (zx := (p1).toInt) (zy := 4) (tgt := 143) hx hb dX9_source_129 (by decide) rfl (by decide) (fun c_986 => ?_) (fun c_986 => ?_)
                        · refine lv_iload_n hx hb dX9_source_143 rfl (lv_at hl 5 rfl) ?_
                          refine lv_iconst (v := 5) hx hb dX9_source_144 (by decide) ?_
                          refine bi_ne (zx := (p1).toInt) (zy := 5) (tgt := 159) hx hb dX9_source_145 (by decide) rfl (by decide) (fun c_987 => ?_) (fun c_987 => ?_)
                          · refine lv_iload_n hx hb dX9_source_159 rfl (lv_at hl 5 rfl) ?_
                            refine lv_bipush (v := 6) hx hb dX9_source_160 (by decide) ?_
                            refine bi_ne (zx := (p1).toInt) (zy := 6) (tgt := 185) hx hb dX9_source_162 (by decide) rfl (by decide) (fun c_988 => ?_) (fun c_988 => ?_)
                            · refine lv_iconst (v := 0) hx hb dX9_source_185 (by decide) ?_
                              refine vp_callSi (zrS (As := [.int 0]) (rest := [.int x]) (wc := []) ⟨hx, hb, hml, hown, hts⟩ hN hK hP hD (m_one0 l D  ) (va_cwS 1 hts gX9_source_X9_one rfl rfl rfl (by decide +kernel) ⟨Nat.le_trans (m := 1) (Nat.le_of_ble_eq_true rfl) hR.1, Nat.le_trans (m := 20) (Nat.le_of_ble_eq_true rfl) hR.2⟩) [] [] rfl rfl (by decide) rfl hl.1 rfl (Nat.le_of_ble_eq_true rfl) dX9_source_186 ⟨hcs.1, hcs.2⟩) (fun r_989 h_990 => ?_)
                              subst h_990
                              refine lv_iadd hx hb dX9_source_189 ?_
                              refine lv_topi (fun z_991 ez_991 => ?_)
                              have tz_991 := ad_toInt (zx := (x).toInt) (zy := 0) ez_991 rfl (by decide)
                              refine lv_istore_n (lv' := [(3, .int z_991), (5, .int 1), (4, .int k), (0, .ref h0), (1, .int p0), (2, .int p1)]) hx hb dX9_source_190 rfl hl (by decide) rfl (fun ls hl => ?_)
                              obtain ⟨x_992, ex_992⟩ : ∃ z : Int32, z = k + 1 := ⟨_, rfl⟩
                              have tx_992 := ad_toInt (x := k) (y := 1) (z := x_992) (zx := (k).toInt) (zy := 1) ex_992 rfl (by decide)
                              refine lv_iinc (v := x_992) (lv' := [(4, .int x_992), (3, .int z_991), (5, .int 1), (0, .ref h0), (1, .int p0), (2, .int p1)]) hx hb dX9_source_191 hl (k := 2) rfl (by rw [ex_992]; rfl) (by decide) rfl (fun ls hl => ?_)
                              refine lv_goto (tgt := 27) hx hb dX9_source_194 (by decide) ?_
                              exact ih _ _ _ (by first | omega | assumption) (by omega) (lv_sub hl [0, 1, 3, 4, 5] rfl)
                            · refine lv_aload_n hx hb dX9_source_165 rfl (lv_at hl 3 rfl) ?_
                              refine va_get (D := D) (ci := 9) (v := .ref b8) (C := RX9) (T := TX9) (N := 37) hx hb hts hin_X9 hown hK hP 0 rfl rfl 14 (by decide) (hts (.fieldLink RX9 38 "CryOrderModel" "state" "[I") (List.mem_cons_of_mem _ (List.mem_append_left _ (List.mem_of_getElem? (i := 5) rfl)))) (fun _ h9 => h9) rfl dX9_source_166 ?_
                              refine lv_iload hx hb dX9_source_169 (lv_at hl 1 rfl) ?_
                              refine va_iald hx hb hK hP 5 4 rfl rfl (vp_in_iff.mpr (by omega)) dX9_source_171 ?_
                              refine lv_topi (fun z_993 ez_993 => ?_)
                              refine lv_iconst (v := 1) hx hb dX9_source_172 (by decide) ?_
                              refine bi_ne (zx := (z_993).toInt) (zy := 1) (tgt := 185) hx hb dX9_source_173 (by decide) rfl (by decide) (fun c_994 => ?_) (fun c_994 => ?_)
                              · refine lv_iconst (v := 0) hx hb dX9_source_185 (by decide) ?_
                                refine vp_callSi (zrS (As := [.int 0]) (rest := [.int x]) (wc := []) ⟨hx, hb, hml, hown, hts⟩ hN hK hP hD (m_one0 l D  ) (va_cwS 1 hts gX9_source_X9_one rfl rfl rfl (by decide +kernel) ⟨Nat.le_trans (m := 1) (Nat.le_of_ble_eq_true rfl) hR.1, Nat.le_trans (m := 20) (Nat.le_of_ble_eq_true rfl) hR.2⟩) [] [] rfl rfl (by decide) rfl hl.1 rfl (Nat.le_of_ble_eq_true rfl) dX9_source_186 ⟨hcs.1, hcs.2⟩) (fun r_995 h_996 => ?_)
                                subst h_996
                                refine lv_iadd hx hb dX9_source_189 ?_
                                refine lv_topi (fun z_997 ez_997 => ?_)
                                have tz_997 := ad_toInt (zx := (x).toInt) (zy := 0) ez_997 rfl (by decide)
                                refine lv_istore_n (lv' := [(3, .int z_997), (5, .int 1), (4, .int k), (0, .ref h0), (1, .int p0), (2, .int p1)]) hx hb dX9_source_190 rfl hl (by decide) rfl (fun ls hl => ?_)
                                obtain ⟨x_998, ex_998⟩ : ∃ z : Int32, z = k + 1 := ⟨_, rfl⟩
                                have tx_998 := ad_toInt (x := k) (y := 1) (z := x_998) (zx := (k).toInt) (zy := 1) ex_998 rfl (by decide)
                                refine lv_iinc (v := x_998) (lv' := [(4, .int x_998), (3, .int z_997), (5, .int 1), (0, .ref h0), (1, .int p0), (2, .int p1)]) hx hb dX9_source_191 hl (k := 2) rfl (by rw [ex_998]; rfl) (by decide) rfl (fun ls hl => ?_)
                                refine lv_goto (tgt := 27) hx hb dX9_source_194 (by decide) ?_
                                exact ih _ _ _ (by first | omega | assumption) (by omega) (lv_sub hl [0, 1, 3, 4, 5] rfl)
                              · refine lv_iload hx hb dX9_source_176 (lv_at hl 0 rfl) ?_
                                refine lv_if_ne (tgt := 185) hx hb dX9_source_178 (by decide) (fun _ => ?_) (fun c_ => absurd c_ (by decide))
                                refine lv_iconst (v := 0) hx hb dX9_source_185 (by decide) ?_
                                refine vp_callSi (zrS (As := [.int 0]) (rest := [.int x]) (wc := []) ⟨hx, hb, hml, hown, hts⟩ hN hK hP hD (m_one0 l D  ) (va_cwS 1 hts gX9_source_X9_one rfl rfl rfl (by decide +kernel) ⟨Nat.le_trans (m := 1) (Nat.le_of_ble_eq_true rfl) hR.1, Nat.le_trans (m := 20) (Nat.le_of_ble_eq_true rfl) hR.2⟩) [] [] rfl rfl (by decide) rfl hl.1 rfl (Nat.le_of_ble_eq_true rfl) dX9_source_186 ⟨hcs.1, hcs.2⟩) (fun r_999 h_1000 => ?_)
                                subst h_1000
                                refine lv_iadd hx hb dX9_source_189 ?_
                                refine lv_topi (fun z_1001 ez_1001 => ?_)
                                have tz_1001 := ad_toInt (zx := (x).toInt) (zy := 0) ez_1001 rfl (by decide)
                                refine lv_istore_n (lv' := [(3, .int z_1001), (5, .int 1), (4, .int k), (0, .ref h0), (1, .int p0), (2, .int p1)]) hx hb dX9_source_190 rfl hl (by decide) rfl (fun ls hl => ?_)
                                obtain ⟨x_1002, ex_1002⟩ : ∃ z : Int32, z = k + 1 := ⟨_, rfl⟩
                                have tx_1002 := ad_toInt (x := k) (y := 1) (z := x_1002) (zx := (k).toInt) (zy := 1) ex_1002 rfl (by decide)
                                refine lv_iinc (v := x_1002) (lv' := [(4, .int x_1002), (3, .int z_1001), (5, .int 1), (0, .ref h0), (1, .int p0), (2, .int p1)]) hx hb dX9_source_191 hl (k := 2) rfl (by rw [ex_1002]; rfl) (by decide) rfl (fun ls hl => ?_)
                                refine lv_goto (tgt := 27) hx hb dX9_source_194 (by decide) ?_
                                exact ih _ _ _ (by first | omega | assumption) (by omega) (lv_sub hl [0, 1, 3, 4, 5] rfl)
                          · refine lv_aload_n hx hb dX9_source_148 rfl (lv_at hl 3 rfl) ?_
                            refine va_get (D := D) (ci := 9) (v := .ref b8) (C := RX9) (T := TX9) (N := 37) hx hb hts hin_X9 hown hK hP 0 rfl rfl 14 (by decide) (hts (.fieldLink RX9 38 "CryOrderModel" "state" "[I") (List.mem_cons_of_mem _ (List.mem_append_left _ (List.mem_of_getElem? (i := 5) rfl)))) (fun _ h9 => h9) rfl dX9_source_149 ?_
                            refine lv_iload hx hb dX9_source_152 (lv_at hl 1 rfl) ?_
                            refine va_iald hx hb hK hP 5 4 rfl rfl (vp_in_iff.mpr (by omega)) dX9_source_154 ?_
                            refine lv_topi (fun z_1003 ez_1003 => ?_)
                            refine lv_iconst (v := 2) hx hb dX9_source_155 (by decide) ?_
                            refine bi_eq (zx := (z_1003).toInt) (zy := 2) (tgt := 181) hx hb dX9_source_156 (by decide) rfl (by decide) (fun c_1004 => ?_) (fun c_1004 => ?_)
                            · refine lv_iconst (v := 1) hx hb dX9_source_181 (by decide) ?_
                              refine lv_goto (tgt := 186) hx hb dX9_source_182 (by decide) ?_
                              refine vp_callSi (zrS (As := [.int 1]) (rest := [.int x]) (wc := []) ⟨hx, hb, hml, hown, hts⟩ hN hK hP hD (m_one1 l D  ) (va_cwS 1 hts gX9_source_X9_one rfl rfl rfl (by decide +kernel) ⟨Nat.le_trans (m := 1) (Nat.le_of_ble_eq_true rfl) hR.1, Nat.le_trans (m := 20) (Nat.le_of_ble_eq_true rfl) hR.2⟩) [] [] rfl rfl (by decide) rfl hl.1 rfl (Nat.le_of_ble_eq_true rfl) dX9_source_186 ⟨hcs.1, hcs.2⟩) (fun r_1005 h_1006 => ?_)
                              subst h_1006
                              refine lv_iadd hx hb dX9_source_189 ?_
                              refine lv_topi (fun z_1007 ez_1007 => ?_)
                              have tz_1007 := ad_toInt (zx := (x).toInt) (zy := 1) ez_1007 rfl (by decide)
                              refine lv_istore_n (lv' := [(3, .int z_1007), (5, .int 1), (4, .int k), (0, .ref h0), (1, .int p0), (2, .int p1)]) hx hb dX9_source_190 rfl hl (by decide) rfl (fun ls hl => ?_)
                              obtain ⟨x_1008, ex_1008⟩ : ∃ z : Int32, z = k + 1 := ⟨_, rfl⟩
                              have tx_1008 := ad_toInt (x := k) (y := 1) (z := x_1008) (zx := (k).toInt) (zy := 1) ex_1008 rfl (by decide)
                              refine lv_iinc (v := x_1008) (lv' := [(4, .int x_1008), (3, .int z_1007), (5, .int 1), (0, .ref h0), (1, .int p0), (2, .int p1)]) hx hb dX9_source_191 hl (k := 2) rfl (by rw [ex_1008]; rfl) (by decide) rfl (fun ls hl => ?_)
                              refine lv_goto (tgt := 27) hx hb dX9_source_194 (by decide) ?_
                              exact ih _ _ _ (by first | omega | assumption) (by omega) (lv_sub hl [0, 1, 3, 4, 5] rfl)
                            · refine lv_iload_n hx hb dX9_source_159 rfl (lv_at hl 5 rfl) ?_
                              refine lv_bipush (v := 6) hx hb dX9_source_160 (by decide) ?_
                              refine bi_ne (zx := (p1).toInt) (zy := 6) (tgt := 185) hx hb dX9_source_162 (by decide) rfl (by decide) (fun c_1009 => ?_) (fun c_1009 => ?_)
                              · refine lv_iconst (v := 0) hx hb dX9_source_185 (by decide) ?_
                                refine vp_callSi (zrS (As := [.int 0]) (rest := [.int x]) (wc := []) ⟨hx, hb, hml, hown, hts⟩ hN hK hP hD (m_one0 l D  ) (va_cwS 1 hts gX9_source_X9_one rfl rfl rfl (by decide +kernel) ⟨Nat.le_trans (m := 1) (Nat.le_of_ble_eq_true rfl) hR.1, Nat.le_trans (m := 20) (Nat.le_of_ble_eq_true rfl) hR.2⟩) [] [] rfl rfl (by decide) rfl hl.1 rfl (Nat.le_of_ble_eq_true rfl) dX9_source_186 ⟨hcs.1, hcs.2⟩) (fun r_1010 h_1011 => ?_)
                                subst h_1011
                                refine lv_iadd hx hb dX9_source_189 ?_
                                refine lv_topi (fun z_1012 ez_1012 => ?_)
                                have tz_1012 := ad_toInt (zx := (x).toInt) (zy := 0) ez_1012 rfl (by decide)
                                refine lv_istore_n (lv' := [(3, .int z_1012), (5, .int 1), (4, .int k), (0, .ref h0), (1, .int p0), (2, .int p1)]) hx hb dX9_source_190 rfl hl (by decide) rfl (fun ls hl => ?_)
                                obtain ⟨x_1013, ex_1013⟩ : ∃ z : Int32, z = k + 1 := ⟨_, rfl⟩
                                have tx_1013 := ad_toInt (x := k) (y := 1) (z := x_1013) (zx := (k).toInt) (zy := 1) ex_1013 rfl (by decide)
                                refine lv_iinc (v := x_1013) (lv' := [(4, .int x_1013), (3, .int z_1012), (5, .int 1), (0, .ref h0), (1, .int p0), (2, .int p1)]) hx hb dX9_source_191 hl (k := 2) rfl (by rw [ex_1013]; rfl) (by decide) rfl (fun ls hl => ?_)
                                refine lv_goto (tgt := 27) hx hb dX9_source_194 (by decide) ?_
                                exact ih _ _ _ (by first | omega | assumption) (by omega) (lv_sub hl [0, 1, 3, 4, 5] rfl)
                              · refine lv_aload_n hx hb dX9_source_165 rfl (lv_at hl 3 rfl) ?_
                                refine va_get (D := D) (ci := 9) (v := .ref b8) (C := RX9) (T := TX9) (N := 37) hx hb hts hin_X9 hown hK hP 0 rfl rfl 14 (by decide) (hts (.fieldLink RX9 38 "CryOrderModel" "state" "[I") (List.mem_cons_of_mem _ (List.mem_append_left _ (List.mem_of_getElem? (i := 5) rfl)))) (fun _ h9 => h9) rfl dX9_source_166 ?_
                                refine lv_iload hx hb dX9_source_169 (lv_at hl 1 rfl) ?_
                                refine va_iald hx hb hK hP 5 4 rfl rfl (vp_in_iff.mpr (by omega)) dX9_source_171 ?_
                                refine lv_topi (fun z_1014 ez_1014 => ?_)
                                have qz_1014 : (z_1014).toInt = (z_1003).toInt := by rw [ez_1014, ez_1003]
                                refine lv_iconst (v := 1) hx hb dX9_source_172 (by decide) ?_
                                refine bi_ne (zx := (z_1014).toInt) (zy := 1) (tgt := 185) hx hb dX9_source_173 (by decide) rfl (by decide) (fun c_1015 => ?_) (fun c_1015 => ?_)
                                · refine lv_iconst (v := 0) hx hb dX9_source_185 (by decide) ?_
                                  refine vp_callSi (zrS (As := [.int 0]) (rest := [.int x]) (wc := []) ⟨hx, hb, hml, hown, hts⟩ hN hK hP hD (m_one0 l D  ) (va_cwS 1 hts gX9_source_X9_one rfl rfl rfl (by decide +kernel) ⟨Nat.le_trans (m := 1) (Nat.le_of_ble_eq_true rfl) hR.1, Nat.le_trans (m := 20) (Nat.le_of_ble_eq_true rfl) hR.2⟩) [] [] rfl rfl (by decide) rfl hl.1 rfl (Nat.le_of_ble_eq_true rfl) dX9_source_186 ⟨hcs.1, hcs.2⟩) (fun r_1016 h_1017 => ?_)
                                  subst h_1017
                                  refine lv_iadd hx hb dX9_source_189 ?_
                                  refine lv_topi (fun z_1018 ez_1018 => ?_)
                                  have tz_1018 := ad_toInt (zx := (x).toInt) (zy := 0) ez_1018 rfl (by decide)
                                  refine lv_istore_n (lv' := [(3, .int z_1018), (5, .int 1), (4, .int k), (0, .ref h0), (1, .int p0), (2, .int p1)]) hx hb dX9_source_190 rfl hl (by decide) rfl (fun ls hl => ?_)
                                  obtain ⟨x_1019, ex_1019⟩ : ∃ z : Int32, z = k + 1 := ⟨_, rfl⟩
                                  have tx_1019 := ad_toInt (x := k) (y := 1) (z := x_1019) (zx := (k).toInt) (zy := 1) ex_1019 rfl (by decide)
                                  refine lv_iinc (v := x_1019) (lv' := [(4, .int x_1019), (3, .int z_1018), (5, .int 1), (0, .ref h0), (1, .int p0), (2, .int p1)]) hx hb dX9_source_191 hl (k := 2) rfl (by rw [ex_1019]; rfl) (by decide) rfl (fun ls hl => ?_)
                                  refine lv_goto (tgt := 27) hx hb dX9_source_194 (by decide) ?_
                                  exact ih _ _ _ (by first | omega | assumption) (by omega) (lv_sub hl [0, 1, 3, 4, 5] rfl)
                                · refine lv_iload hx hb dX9_source_176 (lv_at hl 0 rfl) ?_
                                  refine lv_if_ne (tgt := 185) hx hb dX9_source_178 (by decide) (fun _ => ?_) (fun c_ => absurd c_ (by decide))
                                  refine lv_iconst (v := 0) hx hb dX9_source_185 (by decide) ?_
                                  refine vp_callSi (zrS (As := [.int 0]) (rest := [.int x]) (wc := []) ⟨hx, hb, hml, hown, hts⟩ hN hK hP hD (m_one0 l D  ) (va_cwS 1 hts gX9_source_X9_one rfl rfl rfl (by decide +kernel) ⟨Nat.le_trans (m := 1) (Nat.le_of_ble_eq_true rfl) hR.1, Nat.le_trans (m := 20) (Nat.le_of_ble_eq_true rfl) hR.2⟩) [] [] rfl rfl (by decide) rfl hl.1 rfl (Nat.le_of_ble_eq_true rfl) dX9_source_186 ⟨hcs.1, hcs.2⟩) (fun r_1020 h_1021 => ?_)
                                  subst h_1021
                                  refine lv_iadd hx hb dX9_source_189 ?_
                                  refine lv_topi (fun z_1022 ez_1022 => ?_)
                                  have tz_1022 := ad_toInt (zx := (x).toInt) (zy := 0) ez_1022 rfl (by decide)
                                  refine lv_istore_n (lv' := [(3, .int z_1022), (5, .int 1), (4, .int k), (0, .ref h0), (1, .int p0), (2, .int p1)]) hx hb dX9_source_190 rfl hl (by decide) rfl (fun ls hl => ?_)
                                  obtain ⟨x_1023, ex_1023⟩ : ∃ z : Int32, z = k + 1 := ⟨_, rfl⟩
                                  have tx_1023 := ad_toInt (x := k) (y := 1) (z := x_1023) (zx := (k).toInt) (zy := 1) ex_1023 rfl (by decide)
                                  refine lv_iinc (v := x_1023) (lv' := [(4, .int x_1023), (3, .int z_1022), (5, .int 1), (0, .ref h0), (1, .int p0), (2, .int p1)]) hx hb dX9_source_191 hl (k := 2) rfl (by rw [ex_1023]; rfl) (by decide) rfl (fun ls hl => ?_)
                                  refine lv_goto (tgt := 27) hx hb dX9_source_194 (by decide) ?_
                                  exact ih _ _ _ (by first | omega | assumption) (by omega) (lv_sub hl [0, 1, 3, 4, 5] rfl)
                        · refine lv_aload_n hx hb dX9_source_132 rfl (lv_at hl 3 rfl) ?_
                          refine va_get (D := D) (ci := 9) (v := .ref b8) (C := RX9) (T := TX9) (N := 37) hx hb hts hin_X9 hown hK hP 0 rfl rfl 14 (by decide) (hts (.fieldLink RX9 38 "CryOrderModel" "state" "[I") (List.mem_cons_of_mem _ (List.mem_append_left _ (List.mem_of_getElem? (i := 5) rfl)))) (fun _ h9 => h9) rfl dX9_source_133 ?_
                          refine lv_iload hx hb dX9_source_136 (lv_at hl 1 rfl) ?_
                          refine va_iald hx hb hK hP 5 4 rfl rfl (vp_in_iff.mpr (by omega)) dX9_source_138 ?_
                          refine lv_topi (fun z_1024 ez_1024 => ?_)
                          refine lv_iconst (v := 1) hx hb dX9_source_139 (by decide) ?_
                          refine bi_eq (zx := (z_1024).toInt) (zy := 1) (tgt := 181) hx hb dX9_source_140 (by decide) rfl (by decide) (fun c_1025 => ?_) (fun c_1025 => ?_)
                          · refine lv_iconst (v := 1) hx hb dX9_source_181 (by decide) ?_
                            refine lv_goto (tgt := 186) hx hb dX9_source_182 (by decide) ?_
                            refine vp_callSi (zrS (As := [.int 1]) (rest := [.int x]) (wc := []) ⟨hx, hb, hml, hown, hts⟩ hN hK hP hD (m_one1 l D  ) (va_cwS 1 hts gX9_source_X9_one rfl rfl rfl (by decide +kernel) ⟨Nat.le_trans (m := 1) (Nat.le_of_ble_eq_true rfl) hR.1, Nat.le_trans (m := 20) (Nat.le_of_ble_eq_true rfl) hR.2⟩) [] [] rfl rfl (by decide) rfl hl.1 rfl (Nat.le_of_ble_eq_true rfl) dX9_source_186 ⟨hcs.1, hcs.2⟩) (fun r_1026 h_1027 => ?_)
                            subst h_1027
                            refine lv_iadd hx hb dX9_source_189 ?_
                            refine lv_topi (fun z_1028 ez_1028 => ?_)
                            have tz_1028 := ad_toInt (zx := (x).toInt) (zy := 1) ez_1028 rfl (by decide)
                            refine lv_istore_n (lv' := [(3, .int z_1028), (5, .int 1), (4, .int k), (0, .ref h0), (1, .int p0), (2, .int p1)]) hx hb dX9_source_190 rfl hl (by decide) rfl (fun ls hl => ?_)
                            obtain ⟨x_1029, ex_1029⟩ : ∃ z : Int32, z = k + 1 := ⟨_, rfl⟩
                            have tx_1029 := ad_toInt (x := k) (y := 1) (z := x_1029) (zx := (k).toInt) (zy := 1) ex_1029 rfl (by decide)
                            refine lv_iinc (v := x_1029) (lv' := [(4, .int x_1029), (3, .int z_1028), (5, .int 1), (0, .ref h0), (1, .int p0), (2, .int p1)]) hx hb dX9_source_191 hl (k := 2) rfl (by rw [ex_1029]; rfl) (by decide) rfl (fun ls hl => ?_)
                            refine lv_goto (tgt := 27) hx hb dX9_source_194 (by decide) ?_
                            exact ih _ _ _ (by first | omega | assumption) (by omega) (lv_sub hl [0, 1, 3, 4, 5] rfl)
                          · refine lv_iload_n hx hb dX9_source_143 rfl (lv_at hl 5 rfl) ?_
                            refine lv_iconst (v := 5) hx hb dX9_source_144 (by decide) ?_
                            refine bi_ne (zx := (p1).toInt) (zy := 5) (tgt := 159) hx hb dX9_source_145 (by decide) rfl (by decide) (fun c_1030 => ?_) (fun c_1030 => ?_)
                            · refine lv_iload_n hx hb dX9_source_159 rfl (lv_at hl 5 rfl) ?_
                              refine lv_bipush (v := 6) hx hb dX9_source_160 (by decide) ?_
                              refine bi_ne (zx := (p1).toInt) (zy := 6) (tgt := 185) hx hb dX9_source_162 (by decide) rfl (by decide) (fun c_1031 => ?_) (fun c_1031 => ?_)
                              · refine lv_iconst (v := 0) hx hb dX9_source_185 (by decide) ?_
                                refine vp_callSi (zrS (As := [.int 0]) (rest := [.int x]) (wc := []) ⟨hx, hb, hml, hown, hts⟩ hN hK hP hD (m_one0 l D  ) (va_cwS 1 hts gX9_source_X9_one rfl rfl rfl (by decide +kernel) ⟨Nat.le_trans (m := 1) (Nat.le_of_ble_eq_true rfl) hR.1, Nat.le_trans (m := 20) (Nat.le_of_ble_eq_true rfl) hR.2⟩) [] [] rfl rfl (by decide) rfl hl.1 rfl (Nat.le_of_ble_eq_true rfl) dX9_source_186 ⟨hcs.1, hcs.2⟩) (fun r_1032 h_1033 => ?_)
                                subst h_1033
                                refine lv_iadd hx hb dX9_source_189 ?_
                                refine lv_topi (fun z_1034 ez_1034 => ?_)
                                have tz_1034 := ad_toInt (zx := (x).toInt) (zy := 0) ez_1034 rfl (by decide)
                                refine lv_istore_n (lv' := [(3, .int z_1034), (5, .int 1), (4, .int k), (0, .ref h0), (1, .int p0), (2, .int p1)]) hx hb dX9_source_190 rfl hl (by decide) rfl (fun ls hl => ?_)
                                obtain ⟨x_1035, ex_1035⟩ : ∃ z : Int32, z = k + 1 := ⟨_, rfl⟩
                                have tx_1035 := ad_toInt (x := k) (y := 1) (z := x_1035) (zx := (k).toInt) (zy := 1) ex_1035 rfl (by decide)
                                refine lv_iinc (v := x_1035) (lv' := [(4, .int x_1035), (3, .int z_1034), (5, .int 1), (0, .ref h0), (1, .int p0), (2, .int p1)]) hx hb dX9_source_191 hl (k := 2) rfl (by rw [ex_1035]; rfl) (by decide) rfl (fun ls hl => ?_)
                                refine lv_goto (tgt := 27) hx hb dX9_source_194 (by decide) ?_
                                exact ih _ _ _ (by first | omega | assumption) (by omega) (lv_sub hl [0, 1, 3, 4, 5] rfl)
                              · refine lv_aload_n hx hb dX9_source_165 rfl (lv_at hl 3 rfl) ?_
                                refine va_get (D := D) (ci := 9) (v := .ref b8) (C := RX9) (T := TX9) (N := 37) hx hb hts hin_X9 hown hK hP 0 rfl rfl 14 (by decide) (hts (.fieldLink RX9 38 "CryOrderModel" "state" "[I") (List.mem_cons_of_mem _ (List.mem_append_left _ (List.mem_of_getElem? (i := 5) rfl)))) (fun _ h9 => h9) rfl dX9_source_166 ?_
                                refine lv_iload hx hb dX9_source_169 (lv_at hl 1 rfl) ?_
                                refine va_iald hx hb hK hP 5 4 rfl rfl (vp_in_iff.mpr (by omega)) dX9_source_171 ?_
                                refine lv_topi (fun z_1036 ez_1036 => ?_)
                                have qz_1036 : (z_1036).toInt = (z_1024).toInt := by rw [ez_1036, ez_1024]
                                refine lv_iconst (v := 1) hx hb dX9_source_172 (by decide) ?_
                                refine bi_ne (zx := (z_1036).toInt) (zy := 1) (tgt := 185) hx hb dX9_source_173 (by decide) rfl (by decide) (fun c_1037 => ?_) (fun c_1037 => ?_)
                                · refine lv_iconst (v := 0) hx hb dX9_source_185 (by decide) ?_
                                  refine vp_callSi (zrS (As := [.int 0]) (rest := [.int x]) (wc := []) ⟨hx, hb, hml, hown, hts⟩ hN hK hP hD (m_one0 l D  ) (va_cwS 1 hts gX9_source_X9_one rfl rfl rfl (by decide +kernel) ⟨Nat.le_trans (m := 1) (Nat.le_of_ble_eq_true rfl) hR.1, Nat.le_trans (m := 20) (Nat.le_of_ble_eq_true rfl) hR.2⟩) [] [] rfl rfl (by decide) rfl hl.1 rfl (Nat.le_of_ble_eq_true rfl) dX9_source_186 ⟨hcs.1, hcs.2⟩) (fun r_1038 h_1039 => ?_)
                                  subst h_1039
                                  refine lv_iadd hx hb dX9_source_189 ?_
                                  refine lv_topi (fun z_1040 ez_1040 => ?_)
                                  have tz_1040 := ad_toInt (zx := (x).toInt) (zy := 0) ez_1040 rfl (by decide)
                                  refine lv_istore_n (lv' := [(3, .int z_1040), (5, .int 1), (4, .int k), (0, .ref h0), (1, .int p0), (2, .int p1)]) hx hb dX9_source_190 rfl hl (by decide) rfl (fun ls hl => ?_)
                                  obtain ⟨x_1041, ex_1041⟩ : ∃ z : Int32, z = k + 1 := ⟨_, rfl⟩
                                  have tx_1041 := ad_toInt (x := k) (y := 1) (z := x_1041) (zx := (k).toInt) (zy := 1) ex_1041 rfl (by decide)
                                  refine lv_iinc (v := x_1041) (lv' := [(4, .int x_1041), (3, .int z_1040), (5, .int 1), (0, .ref h0), (1, .int p0), (2, .int p1)]) hx hb dX9_source_191 hl (k := 2) rfl (by rw [ex_1041]; rfl) (by decide) rfl (fun ls hl => ?_)
                                  refine lv_goto (tgt := 27) hx hb dX9_source_194 (by decide) ?_
                                  exact ih _ _ _ (by first | omega | assumption) (by omega) (lv_sub hl [0, 1, 3, 4, 5] rfl)
                                · refine lv_iload hx hb dX9_source_176 (lv_at hl 0 rfl) ?_
                                  refine lv_if_ne (tgt := 185) hx hb dX9_source_178 (by decide) (fun _ => ?_) (fun c_ => absurd c_ (by decide))
                                  refine lv_iconst (v := 0) hx hb dX9_source_185 (by decide) ?_
                                  refine vp_callSi (zrS (As := [.int 0]) (rest := [.int x]) (wc := []) ⟨hx, hb, hml, hown, hts⟩ hN hK hP hD (m_one0 l D  ) (va_cwS 1 hts gX9_source_X9_one rfl rfl rfl (by decide +kernel) ⟨Nat.le_trans (m := 1) (Nat.le_of_ble_eq_true rfl) hR.1, Nat.le_trans (m := 20) (Nat.le_of_ble_eq_true rfl) hR.2⟩) [] [] rfl rfl (by decide) rfl hl.1 rfl (Nat.le_of_ble_eq_true rfl) dX9_source_186 ⟨hcs.1, hcs.2⟩) (fun r_1042 h_1043 => ?_)
                                  subst h_1043
                                  refine lv_iadd hx hb dX9_source_189 ?_
                                  refine lv_topi (fun z_1044 ez_1044 => ?_)
                                  have tz_1044 := ad_toInt (zx := (x).toInt) (zy := 0) ez_1044 rfl (by decide)
                                  refine lv_istore_n (lv' := [(3, .int z_1044), (5, .int 1), (4, .int k), (0, .ref h0), (1, .int p0), (2, .int p1)]) hx hb dX9_source_190 rfl hl (by decide) rfl (fun ls hl => ?_)
                                  obtain ⟨x_1045, ex_1045⟩ : ∃ z : Int32, z = k + 1 := ⟨_, rfl⟩
                                  have tx_1045 := ad_toInt (x := k) (y := 1) (z := x_1045) (zx := (k).toInt) (zy := 1) ex_1045 rfl (by decide)
                                  refine lv_iinc (v := x_1045) (lv' := [(4, .int x_1045), (3, .int z_1044), (5, .int 1), (0, .ref h0), (1, .int p0), (2, .int p1)]) hx hb dX9_source_191 hl (k := 2) rfl (by rw [ex_1045]; rfl) (by decide) rfl (fun ls hl => ?_)
                                  refine lv_goto (tgt := 27) hx hb dX9_source_194 (by decide) ?_
                                  exact ih _ _ _ (by first | omega | assumption) (by omega) (lv_sub hl [0, 1, 3, 4, 5] rfl)
                            · refine lv_aload_n hx hb dX9_source_148 rfl (lv_at hl 3 rfl) ?_
                              refine va_get (D := D) (ci := 9) (v := .ref b8) (C := RX9) (T := TX9) (N := 37) hx hb hts hin_X9 hown hK hP 0 rfl rfl 14 (by decide) (hts (.fieldLink RX9 38 "CryOrderModel" "state" "[I") (List.mem_cons_of_mem _ (List.mem_append_left _ (List.mem_of_getElem? (i := 5) rfl)))) (fun _ h9 => h9) rfl dX9_source_149 ?_
                              refine lv_iload hx hb dX9_source_152 (lv_at hl 1 rfl) ?_
                              refine va_iald hx hb hK hP 5 4 rfl rfl (vp_in_iff.mpr (by omega)) dX9_source_154 ?_
                              refine lv_topi (fun z_1046 ez_1046 => ?_)
                              have qz_1046 : (z_1046).toInt = (z_1024).toInt := by rw [ez_1046, ez_1024]
                              refine lv_iconst (v := 2) hx hb dX9_source_155 (by decide) ?_
                              refine bi_eq (zx := (z_1046).toInt) (zy := 2) (tgt := 181) hx hb dX9_source_156 (by decide) rfl (by decide) (fun c_1047 => ?_) (fun c_1047 => ?_)
                              · refine lv_iconst (v := 1) hx hb dX9_source_181 (by decide) ?_
                                refine lv_goto (tgt := 186) hx hb dX9_source_182 (by decide) ?_
                                refine vp_callSi (zrS (As := [.int 1]) (rest := [.int x]) (wc := []) ⟨hx, hb, hml, hown, hts⟩ hN hK hP hD (m_one1 l D  ) (va_cwS 1 hts gX9_source_X9_one rfl rfl rfl (by decide +kernel) ⟨Nat.le_trans (m := 1) (Nat.le_of_ble_eq_true rfl) hR.1, Nat.le_trans (m := 20) (Nat.le_of_ble_eq_true rfl) hR.2⟩) [] [] rfl rfl (by decide) rfl hl.1 rfl (Nat.le_of_ble_eq_true rfl) dX9_source_186 ⟨hcs.1, hcs.2⟩) (fun r_1048 h_1049 => ?_)
                                subst h_1049
                                refine lv_iadd hx hb dX9_source_189 ?_
                                refine lv_topi (fun z_1050 ez_1050 => ?_)
                                have tz_1050 := ad_toInt (zx := (x).toInt) (zy := 1) ez_1050 rfl (by decide)
                                refine lv_istore_n (lv' := [(3, .int z_1050), (5, .int 1), (4, .int k), (0, .ref h0), (1, .int p0), (2, .int p1)]) hx hb dX9_source_190 rfl hl (by decide) rfl (fun ls hl => ?_)
                                obtain ⟨x_1051, ex_1051⟩ : ∃ z : Int32, z = k + 1 := ⟨_, rfl⟩
                                have tx_1051 := ad_toInt (x := k) (y := 1) (z := x_1051) (zx := (k).toInt) (zy := 1) ex_1051 rfl (by decide)
                                refine lv_iinc (v := x_1051) (lv' := [(4, .int x_1051), (3, .int z_1050), (5, .int 1), (0, .ref h0), (1, .int p0), (2, .int p1)]) hx hb dX9_source_191 hl (k := 2) rfl (by rw [ex_1051]; rfl) (by decide) rfl (fun ls hl => ?_)
                                refine lv_goto (tgt := 27) hx hb dX9_source_194 (by decide) ?_
                                exact ih _ _ _ (by first | omega | assumption) (by omega) (lv_sub hl [0, 1, 3, 4, 5] rfl)
                              · refine lv_iload_n hx hb dX9_source_159 rfl (lv_at hl 5 rfl) ?_
                                refine lv_bipush (v := 6) hx hb dX9_source_160 (by decide) ?_
                                refine bi_ne (zx := (p1).toInt) (zy := 6) (tgt := 185) hx hb dX9_source_162 (by decide) rfl (by decide) (fun c_1052 => ?_) (fun c_1052 => ?_)
                                · refine lv_iconst (v := 0) hx hb dX9_source_185 (by decide) ?_
                                  refine vp_callSi (zrS (As := [.int 0]) (rest := [.int x]) (wc := []) ⟨hx, hb, hml, hown, hts⟩ hN hK hP hD (m_one0 l D  ) (va_cwS 1 hts gX9_source_X9_one rfl rfl rfl (by decide +kernel) ⟨Nat.le_trans (m := 1) (Nat.le_of_ble_eq_true rfl) hR.1, Nat.le_trans (m := 20) (Nat.le_of_ble_eq_true rfl) hR.2⟩) [] [] rfl rfl (by decide) rfl hl.1 rfl (Nat.le_of_ble_eq_true rfl) dX9_source_186 ⟨hcs.1, hcs.2⟩) (fun r_1053 h_1054 => ?_)
                                  subst h_1054
                                  refine lv_iadd hx hb dX9_source_189 ?_
                                  refine lv_topi (fun z_1055 ez_1055 => ?_)
                                  have tz_1055 := ad_toInt (zx := (x).toInt) (zy := 0) ez_1055 rfl (by decide)
                                  refine lv_istore_n (lv' := [(3, .int z_1055), (5, .int 1), (4, .int k), (0, .ref h0), (1, .int p0), (2, .int p1)]) hx hb dX9_source_190 rfl hl (by decide) rfl (fun ls hl => ?_)
                                  obtain ⟨x_1056, ex_1056⟩ : ∃ z : Int32, z = k + 1 := ⟨_, rfl⟩
                                  have tx_1056 := ad_toInt (x := k) (y := 1) (z := x_1056) (zx := (k).toInt) (zy := 1) ex_1056 rfl (by decide)
                                  refine lv_iinc (v := x_1056) (lv' := [(4, .int x_1056), (3, .int z_1055), (5, .int 1), (0, .ref h0), (1, .int p0), (2, .int p1)]) hx hb dX9_source_191 hl (k := 2) rfl (by rw [ex_1056]; rfl) (by decide) rfl (fun ls hl => ?_)
                                  refine lv_goto (tgt := 27) hx hb dX9_source_194 (by decide) ?_
                                  exact ih _ _ _ (by first | omega | assumption) (by omega) (lv_sub hl [0, 1, 3, 4, 5] rfl)
                                · refine lv_aload_n hx hb dX9_source_165 rfl (lv_at hl 3 rfl) ?_
                                  refine va_get (D := D) (ci := 9) (v := .ref b8) (C := RX9) (T := TX9) (N := 37) hx hb hts hin_X9 hown hK hP 0 rfl rfl 14 (by decide) (hts (.fieldLink RX9 38 "CryOrderModel" "state" "[I") (List.mem_cons_of_mem _ (List.mem_append_left _ (List.mem_of_getElem? (i := 5) rfl)))) (fun _ h9 => h9) rfl dX9_source_166 ?_
                                  refine lv_iload hx hb dX9_source_169 (lv_at hl 1 rfl) ?_
                                  refine va_iald hx hb hK hP 5 4 rfl rfl (vp_in_iff.mpr (by omega)) dX9_source_171 ?_
                                  refine lv_topi (fun z_1057 ez_1057 => ?_)
                                  have qz_1057 : (z_1057).toInt = (z_1024).toInt := by rw [ez_1057, ez_1024]
                                  refine lv_iconst (v := 1) hx hb dX9_source_172 (by decide) ?_
                                  refine bi_ne (zx := (z_1057).toInt) (zy := 1) (tgt := 185) hx hb dX9_source_173 (by decide) rfl (by decide) (fun c_1058 => ?_) (fun c_1058 => ?_)
                                  · refine lv_iconst (v := 0) hx hb dX9_source_185 (by decide) ?_
                                    refine vp_callSi (zrS (As := [.int 0]) (rest := [.int x]) (wc := []) ⟨hx, hb, hml, hown, hts⟩ hN hK hP hD (m_one0 l D  ) (va_cwS 1 hts gX9_source_X9_one rfl rfl rfl (by decide +kernel) ⟨Nat.le_trans (m := 1) (Nat.le_of_ble_eq_true rfl) hR.1, Nat.le_trans (m := 20) (Nat.le_of_ble_eq_true rfl) hR.2⟩) [] [] rfl rfl (by decide) rfl hl.1 rfl (Nat.le_of_ble_eq_true rfl) dX9_source_186 ⟨hcs.1, hcs.2⟩) (fun r_1059 h_1060 => ?_)
                                    subst h_1060
                                    refine lv_iadd hx hb dX9_source_189 ?_
                                    refine lv_topi (fun z_1061 ez_1061 => ?_)
                                    have tz_1061 := ad_toInt (zx := (x).toInt) (zy := 0) ez_1061 rfl (by decide)
                                    refine lv_istore_n (lv' := [(3, .int z_1061), (5, .int 1), (4, .int k), (0, .ref h0), (1, .int p0), (2, .int p1)]) hx hb dX9_source_190 rfl hl (by decide) rfl (fun ls hl => ?_)
                                    obtain ⟨x_1062, ex_1062⟩ : ∃ z : Int32, z = k + 1 := ⟨_, rfl⟩
                                    have tx_1062 := ad_toInt (x := k) (y := 1) (z := x_1062) (zx := (k).toInt) (zy := 1) ex_1062 rfl (by decide)
                                    refine lv_iinc (v := x_1062) (lv' := [(4, .int x_1062), (3, .int z_1061), (5, .int 1), (0, .ref h0), (1, .int p0), (2, .int p1)]) hx hb dX9_source_191 hl (k := 2) rfl (by rw [ex_1062]; rfl) (by decide) rfl (fun ls hl => ?_)
                                    refine lv_goto (tgt := 27) hx hb dX9_source_194 (by decide) ?_
                                    exact ih _ _ _ (by first | omega | assumption) (by omega) (lv_sub hl [0, 1, 3, 4, 5] rfl)
                                  · refine lv_iload hx hb dX9_source_176 (lv_at hl 0 rfl) ?_
                                    refine lv_if_ne (tgt := 185) hx hb dX9_source_178 (by decide) (fun _ => ?_) (fun c_ => absurd c_ (by decide))
                                    refine lv_iconst (v := 0) hx hb dX9_source_185 (by decide) ?_
                                    refine vp_callSi (zrS (As := [.int 0]) (rest := [.int x]) (wc := []) ⟨hx, hb, hml, hown, hts⟩ hN hK hP hD (m_one0 l D  ) (va_cwS 1 hts gX9_source_X9_one rfl rfl rfl (by decide +kernel) ⟨Nat.le_trans (m := 1) (Nat.le_of_ble_eq_true rfl) hR.1, Nat.le_trans (m := 20) (Nat.le_of_ble_eq_true rfl) hR.2⟩) [] [] rfl rfl (by decide) rfl hl.1 rfl (Nat.le_of_ble_eq_true rfl) dX9_source_186 ⟨hcs.1, hcs.2⟩) (fun r_1063 h_1064 => ?_)
                                    subst h_1064
                                    refine lv_iadd hx hb dX9_source_189 ?_
                                    refine lv_topi (fun z_1065 ez_1065 => ?_)
                                    have tz_1065 := ad_toInt (zx := (x).toInt) (zy := 0) ez_1065 rfl (by decide)
                                    refine lv_istore_n (lv' := [(3, .int z_1065), (5, .int 1), (4, .int k), (0, .ref h0), (1, .int p0), (2, .int p1)]) hx hb dX9_source_190 rfl hl (by decide) rfl (fun ls hl => ?_)
                                    obtain ⟨x_1066, ex_1066⟩ : ∃ z : Int32, z = k + 1 := ⟨_, rfl⟩
                                    have tx_1066 := ad_toInt (x := k) (y := 1) (z := x_1066) (zx := (k).toInt) (zy := 1) ex_1066 rfl (by decide)
                                    refine lv_iinc (v := x_1066) (lv' := [(4, .int x_1066), (3, .int z_1065), (5, .int 1), (0, .ref h0), (1, .int p0), (2, .int p1)]) hx hb dX9_source_191 hl (k := 2) rfl (by rw [ex_1066]; rfl) (by decide) rfl (fun ls hl => ?_)
                                    refine lv_goto (tgt := 27) hx hb dX9_source_194 (by decide) ?_
                                    exact ih _ _ _ (by first | omega | assumption) (by omega) (lv_sub hl [0, 1, 3, 4, 5] rfl)
            · refine lv_aload_n hx hb dX9_source_83 rfl (lv_at hl 3 rfl) ?_
              refine va_get (D := D) (ci := 9) (v := .ref b7) (C := RX9) (T := TX9) (N := 37) hx hb hts hin_X9 hown hK hP 0 rfl rfl 13 (by decide) (hts (.fieldLink RX9 35 "CryOrderModel" "repeats" "[I") (List.mem_cons_of_mem _ (List.mem_append_left _ (List.mem_of_getElem? (i := 4) rfl)))) (fun _ h9 => h9) rfl dX9_source_84 ?_
              refine lv_iload hx hb dX9_source_87 (lv_at hl 1 rfl) ?_
              refine va_iald hx hb hK hP 4 3 rfl rfl (vp_in_iff.mpr (by omega)) dX9_source_89 ?_
              refine lv_topi (fun z_1067 ez_1067 => ?_)
              refine lv_goto (tgt := 189) hx hb dX9_source_90 (by decide) ?_
              refine lv_iadd hx hb dX9_source_189 ?_
              refine lv_topi (fun z_1068 ez_1068 => ?_)
              have tz_1068 := ad_toInt (zx := (x).toInt) (zy := (z_1067).toInt) ez_1068 rfl rfl
              refine lv_istore_n (lv' := [(3, .int z_1068), (5, .int 1), (4, .int k), (0, .ref h0), (1, .int p0), (2, .int p1)]) hx hb dX9_source_190 rfl hl (by decide) rfl (fun ls hl => ?_)
              obtain ⟨x_1069, ex_1069⟩ : ∃ z : Int32, z = k + 1 := ⟨_, rfl⟩
              have tx_1069 := ad_toInt (x := k) (y := 1) (z := x_1069) (zx := (k).toInt) (zy := 1) ex_1069 rfl (by decide)
              refine lv_iinc (v := x_1069) (lv' := [(4, .int x_1069), (3, .int z_1068), (5, .int 1), (0, .ref h0), (1, .int p0), (2, .int p1)]) hx hb dX9_source_191 hl (k := 2) rfl (by rw [ex_1069]; rfl) (by decide) rfl (fun ls hl => ?_)
              refine lv_goto (tgt := 27) hx hb dX9_source_194 (by decide) ?_
              exact ih _ _ _ (by first | omega | assumption) (by omega) (lv_sub hl [0, 1, 3, 4, 5] rfl)
      · refine lv_goto (tgt := 191) hx hb dX9_source_47 (by decide) ?_
        obtain ⟨x_1070, ex_1070⟩ : ∃ z : Int32, z = k + 1 := ⟨_, rfl⟩
        have tx_1070 := ad_toInt (x := k) (y := 1) (z := x_1070) (zx := (k).toInt) (zy := 1) ex_1070 rfl (by decide)
        refine lv_iinc (v := x_1070) (lv' := [(4, .int x_1070), (3, .int x), (0, .ref h0), (1, .int p0), (2, .int p1)]) hx hb dX9_source_191 hl (k := 0) rfl (by rw [ex_1070]; rfl) (by decide) rfl (fun ls hl => ?_)
        refine lv_goto (tgt := 27) hx hb dX9_source_194 (by decide) ?_
        exact ih _ _ _ (by first | omega | assumption) (by omega) (lv_sub hl [0, 1, 2, 3, 4] rfl)
