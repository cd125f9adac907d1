set_option maxHeartbeats 4000000 in
set_option maxRecDepth 100000 in
theorem c_X8_isBelow (l : Launch) (D : va_G) (v : Int32) (w : Int32) : Met l yX8_isBelow wsX8_isBelow ({ frames := 0, cells := 0, slots := 0, locals := 0 }) (va_Pc [.int v, .int w] (wo D [] [])) (vp_Si (fun r => ((0 ≤ (v).toInt ∧ (v).toInt < (w).toInt) ∧ r = 1) ∨ (((v).toInt < 0 ∨ (w).toInt ≤ (v).toInt) ∧ r = 0))) 0 0 (fun _ => False) := by
  refine Met.ofW (cc := cX8_isBelow) (maxL := 2) (ret := (some .boolean)) (by decide) rfl ?_
  intro p e s m args below meth c s₁ B hml hv
  obtain ⟨rfl, hP, hK, hD, hN⟩ := hv
  have hx := B.exec
  have hb := B.bytes
  have hr := B.returns
  have hts := atoms_spec (ws := wsX8_isBelow) B.pre
  have hown : s.vm.findClass RX8 = some m.cls := findClass_of_methodNamed B.named
  have hlocks := B.notSynchronized
  have hl := lv_entry ([.int v, .int w]) (n := 2) (Nat.le_of_ble_eq_true rfl)
  rw [lg_entry_eq]
  generalize (lg_sl ([.int v, .int w]) ++ List.replicate (2 - (lg_sl ([.int v, .int w])).length) Slot.unset).toArray = ls at hl ⊢
  have hl : lv_has ls 2 [(0, .int v), (1, .int w)] := hl
  refine lv_iload_n hx hb dX8_isBelow_0 rfl (lv_at hl 0 rfl) ?_
  refine bz_lt (zx := (v).toInt) (tgt := 13) hx hb dX8_isBelow_1 (by decide) rfl (fun c_1 => ?_) (fun c_1 => ?_)
  · refine lv_iconst (v := 0) hx hb dX8_isBelow_13 (by decide) ?_
    exact W.zret (v := 0) hx hb hr rfl (fun t ht hW => ⟨0, rfl, Or.inr ⟨by omega, rfl⟩, ht⟩) (fun q h => by cases h) dX8_isBelow_14
  · refine lv_iload_n hx hb dX8_isBelow_4 rfl (lv_at hl 0 rfl) ?_
    refine lv_iload_n hx hb dX8_isBelow_5 rfl (lv_at hl 1 rfl) ?_
    refine bi_ge (zx := (v).toInt) (zy := (w).toInt) (tgt := 13) hx hb dX8_isBelow_6 (by decide) rfl rfl (fun c_2 => ?_) (fun c_2 => ?_)
    · refine lv_iconst (v := 0) hx hb dX8_isBelow_13 (by decide) ?_
      exact W.zret (v := 0) hx hb hr rfl (fun t ht hW => ⟨0, rfl, Or.inr ⟨by omega, rfl⟩, ht⟩) (fun q h => by cases h) dX8_isBelow_14
    · refine lv_iconst (v := 1) hx hb dX8_isBelow_9 (by decide) ?_
      refine lv_goto (tgt := 14) hx hb dX8_isBelow_10 (by decide) ?_
      exact W.zret (v := 1) hx hb hr rfl (fun t ht hW => ⟨1, rfl, Or.inl ⟨by omega, rfl⟩, ht⟩) (fun q h => by cases h) dX8_isBelow_14

set_option maxHeartbeats 4000000 in
set_option maxRecDepth 100000 in
theorem c_X8_oneIf (l : Launch) (D : va_G) (v : Int32) : Met l yX8_oneIf wsX8_oneIf ({ frames := 0, cells := 0, slots := 0, locals := 0 }) (va_Pc [.int v] (wo D [] [])) (vp_Si (fun r => r = 0 ∨ r = 1)) 0 0 (fun _ => False) := by
  refine Met.ofW (cc := cX8_oneIf) (maxL := 1) (ret := (some .int)) (by decide) rfl ?_
  intro p e s m args below meth c s₁ B hml hv
  obtain ⟨rfl, hP, hK, hD, hN⟩ := hv
  have hx := B.exec
  have hb := B.bytes
  have hr := B.returns
  have hts := atoms_spec (ws := wsX8_oneIf) B.pre
  have hown : s.vm.findClass RX8 = some m.cls := findClass_of_methodNamed B.named
  have hlocks := B.notSynchronized
  have hl := lv_entry ([.int v]) (n := 1) (Nat.le_of_ble_eq_true rfl)
  rw [lg_entry_eq]
  generalize (lg_sl ([.int v]) ++ List.replicate (1 - (lg_sl ([.int v])).length) Slot.unset).toArray = ls at hl ⊢
  have hl : lv_has ls 1 [(0, .int v)] := hl
  refine lv_iload_n hx hb dX8_oneIf_0 rfl (lv_at hl 0 rfl) ?_
  refine bz_eq (zx := (v).toInt) (tgt := 8) hx hb dX8_oneIf_1 (by decide) rfl (fun c_1 => ?_) (fun c_1 => ?_)
  · refine lv_iconst (v := 0) hx hb dX8_oneIf_8 (by decide) ?_
    exact W.iret (v := 0) hx hb hr (fun t ht hW => ⟨0, rfl, (Or.inl rfl), ht⟩) (fun q h => by cases h) dX8_oneIf_9
  · refine lv_iconst (v := 1) hx hb dX8_oneIf_4 (by decide) ?_
    refine lv_goto (tgt := 9) hx hb dX8_oneIf_5 (by decide) ?_
    exact W.iret (v := 1) hx hb hr (fun t ht hW => ⟨1, rfl, (Or.inr rfl), ht⟩) (fun q h => by cases h) dX8_oneIf_9

set_option maxHeartbeats 4000000 in
set_option maxRecDepth 100000 in
theorem c_X3_markAt (l : Launch) (D : va_G) (v : Int32) (w : Int32) : Met l yX3_markAt wsX3_markAt ({ frames := 0, cells := 0, slots := 0, locals := 0 }) (va_Pc [.int v, .int w] (wo D [] [])) (vp_Si (fun r => True)) 0 0 (fun _ => False) := by
  refine Met.ofW (cc := cX3_markAt) (maxL := 2) (ret := (some .int)) (by decide) rfl ?_
  intro p e s m args below meth c s₁ B hml hv
  obtain ⟨rfl, hP, hK, hD, hN⟩ := hv
  have hx := B.exec
  have hb := B.bytes
  have hr := B.returns
  have hts := atoms_spec (ws := wsX3_markAt) B.pre
  have hown : s.vm.findClass RX3 = some m.cls := findClass_of_methodNamed B.named
  have hlocks := B.notSynchronized
  have hl := lv_entry ([.int v, .int w]) (n := 2) (Nat.le_of_ble_eq_true rfl)
  rw [lg_entry_eq]
  generalize (lg_sl ([.int v, .int w]) ++ List.replicate (2 - (lg_sl ([.int v, .int w])).length) Slot.unset).toArray = ls at hl ⊢
  have hl : lv_has ls 2 [(0, .int v), (1, .int w)] := hl
  refine lv_iload_n hx hb dX3_markAt_0 rfl (lv_at hl 0 rfl) ?_
  refine lv_iconst (v := 3) hx hb dX3_markAt_1 (by decide) ?_
  refine lv_iconst (v := 3) hx hb dX3_markAt_2 (by decide) ?_
  refine lv_iload_n hx hb dX3_markAt_3 rfl (lv_at hl 1 rfl) ?_
  refine lv_isub hx hb dX3_markAt_4 ?_
  refine lv_topi (fun z_1 ez_1 => ?_)
  have tz_1 := sb_toInt (zx := 3) (zy := (w).toInt) ez_1 (by decide) rfl
  refine lv_imul hx hb dX3_markAt_5 ?_
  refine lv_topi (fun z_2 ez_2 => ?_)
  have tz_2 := ml_toInt (zx := 3) (zy := (z_1).toInt) ez_2 (by decide) rfl
  refine lv_ishr hx hb dX3_markAt_6 ?_
  refine lv_topi (fun z_3 ez_3 => ?_)
  refine lv_bipush (v := 7) hx hb dX3_markAt_7 (by decide) ?_
  refine lv_iand hx hb dX3_markAt_9 ?_
  refine lv_topi (fun z_4 ez_4 => ?_)
  exact W.iret (v := z_4) hx hb hr (fun t ht hW => ⟨z_4, rfl, trivial, ht⟩) (fun q h => by cases h) dX3_markAt_10

set_option maxHeartbeats 4000000 in
set_option maxRecDepth 100000 in
theorem c_J6_bitCount_0f7a4 (l : Launch) (D : va_G) (v : Int32) : Met l yJ6_bitCount_0f7a4 wsJ6_bitCount_0f7a4 ({ frames := 0, cells := 0, slots := 0, locals := 0 }) (va_Pc [.int v] (wo D [] [])) (vp_Si (fun r => True)) 0 0 (fun _ => False) := by
  refine Met.ofW (cc := cJ6_bitCount_0f7a4) (maxL := 1) (ret := (some .int)) (by decide) rfl ?_
  intro p e s m args below meth c s₁ B hml hv
  obtain ⟨rfl, hP, hK, hD, hN⟩ := hv
  have hx := B.exec
  have hb := B.bytes
  have hr := B.returns
  have hts := atoms_spec (ws := wsJ6_bitCount_0f7a4) B.pre
  have hown : s.vm.findClass RJ6 = some m.cls := findClass_of_methodNamed B.named
  have hlocks := B.notSynchronized
  have hl := lv_entry ([.int v]) (n := 1) (Nat.le_of_ble_eq_true rfl)
  rw [lg_entry_eq]
  generalize (lg_sl ([.int v]) ++ List.replicate (1 - (lg_sl ([.int v])).length) Slot.unset).toArray = ls at hl ⊢
  have hl : lv_has ls 1 [(0, .int v)] := hl
  refine lv_iload_n hx hb dJ6_bitCount_0f7a4_0 rfl (lv_at hl 0 rfl) ?_
  refine lv_iload_n hx hb dJ6_bitCount_0f7a4_1 rfl (lv_at hl 0 rfl) ?_
  refine lv_iconst (v := 1) hx hb dJ6_bitCount_0f7a4_2 (by decide) ?_
  refine lv_iushr hx hb dJ6_bitCount_0f7a4_3 rfl ?_
  refine lv_topi (fun z_1 ez_1 => ?_)
  refine lv_ldcw (v := (1431655765)) hx hb hown (hts (.constant RJ6 265 (1431655765)) (List.mem_cons_of_mem _ (List.mem_of_getElem? (i := 0) rfl))) dJ6_bitCount_0f7a4_4 ?_
  refine lv_iand hx hb dJ6_bitCount_0f7a4_7 ?_
  refine lv_topi (fun z_2 ez_2 => ?_)
  refine lv_isub hx hb dJ6_bitCount_0f7a4_8 ?_
  refine lv_topi (fun z_3 ez_3 => ?_)
  have tz_3 := sb_toInt (zx := (v).toInt) (zy := (z_2).toInt) ez_3 rfl rfl
  refine lv_istore_n (lv' := [(0, .int z_3)]) hx hb dJ6_bitCount_0f7a4_9 rfl hl (by decide) rfl (fun ls hl => ?_)
  refine lv_iload_n hx hb dJ6_bitCount_0f7a4_10 rfl (lv_at hl 0 rfl) ?_
  refine lv_ldcw (v := (858993459)) hx hb hown (hts (.constant RJ6 266 (858993459)) (List.mem_cons_of_mem _ (List.mem_of_getElem? (i := 1) rfl))) dJ6_bitCount_0f7a4_11 ?_
  refine lv_iand hx hb dJ6_bitCount_0f7a4_14 ?_
  refine lv_topi (fun z_4 ez_4 => ?_)
  refine lv_iload_n hx hb dJ6_bitCount_0f7a4_15 rfl (lv_at hl 0 rfl) ?_
  refine lv_iconst (v := 2) hx hb dJ6_bitCount_0f7a4_16 (by decide) ?_
  refine lv_iushr hx hb dJ6_bitCount_0f7a4_17 rfl ?_
  refine lv_topi (fun z_5 ez_5 => ?_)
  refine lv_ldcw (v := (858993459)) hx hb hown (hts (.constant RJ6 266 (858993459)) (List.mem_cons_of_mem _ (List.mem_of_getElem? (i := 1) rfl))) dJ6_bitCount_0f7a4_18 ?_
  refine lv_iand hx hb dJ6_bitCount_0f7a4_21 ?_
  refine lv_topi (fun z_6 ez_6 => ?_)
  refine lv_iadd hx hb dJ6_bitCount_0f7a4_22 ?_
  refine lv_topi (fun z_7 ez_7 => ?_)
  have tz_7 := ad_toInt (zx := (z_4).toInt) (zy := (z_6).toInt) ez_7 rfl rfl
  refine lv_istore_n (lv' := [(0, .int z_7)]) hx hb dJ6_bitCount_0f7a4_23 rfl hl (by decide) rfl (fun ls hl => ?_)
  refine lv_iload_n hx hb dJ6_bitCount_0f7a4_24 rfl (lv_at hl 0 rfl) ?_
  refine lv_iload_n hx hb dJ6_bitCount_0f7a4_25 rfl (lv_at hl 0 rfl) ?_
  refine lv_iconst (v := 4) hx hb dJ6_bitCount_0f7a4_26 (by decide) ?_
  refine lv_iushr hx hb dJ6_bitCount_0f7a4_27 rfl ?_
  refine lv_topi (fun z_8 ez_8 => ?_)
  refine lv_iadd hx hb dJ6_bitCount_0f7a4_28 ?_
  refine lv_topi (fun z_9 ez_9 => ?_)
  have tz_9 := ad_toInt (zx := (z_7).toInt) (zy := (z_8).toInt) ez_9 rfl rfl
  refine lv_ldcw (v := (252645135)) hx hb hown (hts (.constant RJ6 267 (252645135)) (List.mem_cons_of_mem _ (List.mem_of_getElem? (i := 2) rfl))) dJ6_bitCount_0f7a4_29 ?_
  refine lv_iand hx hb dJ6_bitCount_0f7a4_32 ?_
  refine lv_topi (fun z_10 ez_10 => ?_)
  refine lv_istore_n (lv' := [(0, .int z_10)]) hx hb dJ6_bitCount_0f7a4_33 rfl hl (by decide) rfl (fun ls hl => ?_)
  refine lv_iload_n hx hb dJ6_bitCount_0f7a4_34 rfl (lv_at hl 0 rfl) ?_
  refine lv_iload_n hx hb dJ6_bitCount_0f7a4_35 rfl (lv_at hl 0 rfl) ?_
  refine lv_bipush (v := 8) hx hb dJ6_bitCount_0f7a4_36 (by decide) ?_
  refine lv_iushr hx hb dJ6_bitCount_0f7a4_38 rfl ?_
  refine lv_topi (fun z_11 ez_11 => ?_)
  refine lv_iadd hx hb dJ6_bitCount_0f7a4_39 ?_
  refine lv_topi (fun z_12 ez_12 => ?_)
  have tz_12 := ad_toInt (zx := (z_10).toInt) (zy := (z_11).toInt) ez_12 rfl rfl
  refine lv_istore_n (lv' := [(0, .int z_12)]) hx hb dJ6_bitCount_0f7a4_40 rfl hl (by decide) rfl (fun ls hl => ?_)
  refine lv_iload_n hx hb dJ6_bitCount_0f7a4_41 rfl (lv_at hl 0 rfl) ?_
  refine lv_iload_n hx hb dJ6_bitCount_0f7a4_42 rfl (lv_at hl 0 rfl) ?_
  refine lv_bipush (v := 16) hx hb dJ6_bitCount_0f7a4_43 (by decide) ?_
  refine lv_iushr hx hb dJ6_bitCount_0f7a4_45 rfl ?_
  refine lv_topi (fun z_13 ez_13 => ?_)
  refine lv_iadd hx hb dJ6_bitCount_0f7a4_46 ?_
  refine lv_topi (fun z_14 ez_14 => ?_)
  have tz_14 := ad_toInt (zx := (z_12).toInt) (zy := (z_13).toInt) ez_14 rfl rfl
  refine lv_istore_n (lv' := [(0, .int z_14)]) hx hb dJ6_bitCount_0f7a4_47 rfl hl (by decide) rfl (fun ls hl => ?_)
  refine lv_iload_n hx hb dJ6_bitCount_0f7a4_48 rfl (lv_at hl 0 rfl) ?_
  refine lv_bipush (v := 63) hx hb dJ6_bitCount_0f7a4_49 (by decide) ?_
  refine lv_iand hx hb dJ6_bitCount_0f7a4_51 ?_
  refine lv_topi (fun z_15 ez_15 => ?_)
  exact W.iret (v := z_15) hx hb hr (fun t ht hW => ⟨z_15, rfl, trivial, ht⟩) (fun q h => by cases h) dJ6_bitCount_0f7a4_52

set_option maxHeartbeats 4000000 in
set_option maxRecDepth 100000 in
theorem cl_inLowestTerms {p : Program} {l : Launch} {e : Env} {R : Room} {s : State} {m : MethodId} {args : Array Value} {below : List Frame} {meth : Method} {c : Code} {Q : State → Prop} {A : Nat → Prop} {cells slots : Nat} {D : va_G} {H : Heap} {locs : List Loc} {u : Int32} {v : Int32} {w : Int32} (hx : p.tables.exec = Jvm.exec) (hb : c.code = cX8_inLowestTerms) (hts : ∀ w ∈ wsX8_inLowestTerms, w.before args s = true) (hml : c.maxLocals = 7) (hown : s.vm.findClass RX8 = some m.cls) (hN : Nq s) (hK : va_K D vwCl [] s) (hP : va_P D vwCl [] H) (hD : va_D A []) (hR : 0 ≤ R.frames ∧ 0 ≤ R.locals) (hcs : cells ≤ R.cells ∧ slots ≤ R.slots) (done_39 : ∀ (k : Int32) (rs : Int32) (cm : Int32) (ls : Array Slot), lv_has ls 7 [(5, .int k), (4, .int rs), (3, .int cm), (0, .int u), (1, .int v), (2, .int w)] → W p l e R s m args below meth c H locs cells slots Q (F0 m 39 ls [])) : ∀ (n : Nat), ∀ (k : Int32) (rs : Int32) (cm : Int32) (ls : Array Slot), (0 ≤ (k).toInt ∧ (k).toInt ≤ 100) → ((100 - (k).toInt).toNat < n) → lv_has ls 7 [(5, .int k), (4, .int rs), (3, .int cm), (0, .int u), (1, .int v), (2, .int w)] → W p l e R s m args below meth c H locs cells slots Q (F0 m 8 ls []) := by
  intro n
  induction n with
  | zero => intro k rs cm ls hk hmu hl; exact absurd hmu (Nat.not_lt_zero _)
  | succ n ih =>
    intro k rs cm ls hk hmu hl
    refine lv_iload hx hb dX8_inLowestTerms_8 (lv_at hl 0 rfl) ?_
    refine lv_bipush (v := 100) hx hb dX8_inLowestTerms_10 (by decide) ?_
    refine bi_ge (zx := (k).toInt) (zy := 100) (tgt := 39) hx hb dX8_inLowestTerms_12 (by decide) rfl (by decide) (fun c_1 => ?_) (fun c_1 => ?_)
    · exact done_39 _ _ _ _  (lv_sub hl [0, 1, 2, 3, 4, 5] rfl)
    · refine lv_iload hx hb dX8_inLowestTerms_15 (lv_at hl 1 rfl) ?_
      refine bz_le (zx := (rs).toInt) (tgt := 39) hx hb dX8_inLowestTerms_17 (by decide) rfl (fun c_2 => ?_) (fun c_2 => ?_)
      · exact done_39 _ _ _ _  (lv_sub hl [0, 1, 2, 3, 4, 5] rfl)
      · refine lv_iload_n hx hb dX8_inLowestTerms_20 rfl (lv_at hl 2 rfl) ?_
        refine lv_iload hx hb dX8_inLowestTerms_21 (lv_at hl 1 rfl) ?_
        refine lv_irem hx hb dX8_inLowestTerms_23 (ne0_of (zy := (rs).toInt) (by omega) rfl) ?_
        refine lv_topi (fun z_3 ez_3 => ?_)
        have tz_3 := fun a b => rm_toInt ez_3 a b
        refine lv_istore (lv' := [(6, .int z_3), (5, .int k), (4, .int rs), (3, .int cm), (0, .int u), (1, .int v), (2, .int w)]) hx hb dX8_inLowestTerms_24 hl (by decide) rfl (fun ls hl => ?_)
        refine lv_iload hx hb dX8_inLowestTerms_26 (lv_at hl 2 rfl) ?_
        refine lv_istore_n (lv' := [(3, .int rs), (6, .int z_3), (5, .int k), (4, .int rs), (0, .int u), (1, .int v), (2, .int w)]) hx hb dX8_inLowestTerms_28 rfl hl (by decide) rfl (fun ls hl => ?_)
        refine lv_iload hx hb dX8_inLowestTerms_29 (lv_at hl 1 rfl) ?_
        refine lv_istore (lv' := [(4, .int z_3), (3, .int rs), (6, .int z_3), (5, .int k), (0, .int u), (1, .int v), (2, .int w)]) hx hb dX8_inLowestTerms_31 hl (by decide) rfl (fun ls hl => ?_)
        obtain ⟨x_4, ex_4⟩ : ∃ z : Int32, z = k + 1 := ⟨_, rfl⟩
        have tx_4 := ad_toInt (x := k) (y := 1) (z := x_4) (zx := (k).toInt) (zy := 1) ex_4 rfl (by decide)
        refine lv_iinc (v := x_4) (lv' := [(5, .int x_4), (4, .int z_3), (3, .int rs), (6, .int z_3), (0, .int u), (1, .int v), (2, .int w)]) hx hb dX8_inLowestTerms_33 hl (k := 3) rfl (by rw [ex_4]; rfl) (by decide) rfl (fun ls hl => ?_)
        refine lv_goto (tgt := 8) hx hb dX8_inLowestTerms_36 (by decide) ?_
        exact ih _ _ _ _ (by first | omega | assumption) (by omega) (lv_sub hl [0, 1, 2, 4, 5, 6] rfl)

set_option maxHeartbeats 4000000 in
set_option maxRecDepth 100000 in
theorem c_X8_inLowestTerms (l : Launch) (D : va_G) (u : Int32) (v : Int32) (w : Int32) : Met l yX8_inLowestTerms wsX8_inLowestTerms ({ frames := 0, cells := 0, slots := 0, locals := 0 }) (va_Pc [.int u, .int v, .int w] (wo D [] [])) (vp_Si (fun r => True)) 0 0 (fun _ => False) := by
  refine Met.ofW (cc := cX8_inLowestTerms) (maxL := 7) (ret := (some .int)) (by decide) rfl ?_
  intro p e s m args below meth c s₁ B hml hv
  obtain ⟨rfl, hP, hK, hD, hN⟩ := hv
  have hx := B.exec
  have hb := B.bytes
  have hr := B.returns
  have hts := atoms_spec (ws := wsX8_inLowestTerms) B.pre
  have hown : s.vm.findClass RX8 = some m.cls := findClass_of_methodNamed B.named
  have hlocks := B.notSynchronized
  have hl := lv_entry ([.int u, .int v, .int w]) (n := 7) (Nat.le_of_ble_eq_true rfl)
  rw [lg_entry_eq]
  generalize (lg_sl ([.int u, .int v, .int w]) ++ List.replicate (7 - (lg_sl ([.int u, .int v, .int w])).length) Slot.unset).toArray = ls at hl ⊢
  have hl : lv_has ls 7 [(0, .int u), (1, .int v), (2, .int w)] := hl
  refine lv_iload_n hx hb dX8_inLowestTerms_0 rfl (lv_at hl 1 rfl) ?_
  refine lv_istore_n (lv' := [(3, .int v), (0, .int u), (1, .int v), (2, .int w)]) hx hb dX8_inLowestTerms_1 rfl hl (by decide) rfl (fun ls hl => ?_)
  refine lv_iload_n hx hb dX8_inLowestTerms_2 rfl (lv_at hl 1 rfl) ?_
  refine lv_istore (lv' := [(4, .int u), (3, .int v), (0, .int u), (1, .int v), (2, .int w)]) hx hb dX8_inLowestTerms_3 hl (by decide) rfl (fun ls hl => ?_)
  refine lv_iconst (v := 0) hx hb dX8_inLowestTerms_5 (by decide) ?_
  refine lv_istore (lv' := [(5, .int 0), (4, .int u), (3, .int v), (0, .int u), (1, .int v), (2, .int w)]) hx hb dX8_inLowestTerms_6 hl (by decide) rfl (fun ls hl => ?_)
  refine cl_inLowestTerms hx hb hts hml hown hN hK hP hD ⟨(Nat.le_of_ble_eq_true rfl), (Nat.le_of_ble_eq_true rfl)⟩ ⟨(Nat.le_of_ble_eq_true rfl), (Nat.le_of_ble_eq_true rfl)⟩ (fun k_1 rs_2 cm_3 ls hl => ?_) _ _ _ _ _ (by decide) (Nat.lt_succ_self _) (lv_sub hl [0, 1, 2, 3, 4, 5] rfl)
  refine lv_iload_n hx hb dX8_inLowestTerms_39 rfl (lv_at hl 2 rfl) ?_
  refine lv_iconst (v := 1) hx hb dX8_inLowestTerms_40 (by decide) ?_
  refine bi_ge (zx := (cm_3).toInt) (zy := 1) (tgt := 46) hx hb dX8_inLowestTerms_41 (by decide) rfl (by decide) (fun c_4 => ?_) (fun c_4 => ?_)
  · refine lv_iload_n hx hb dX8_inLowestTerms_46 rfl (lv_at hl 5 rfl) ?_
    refine bz_eq (zx := (w).toInt) (tgt := 54) hx hb dX8_inLowestTerms_47 (by decide) rfl (fun c_5 => ?_) (fun c_5 => ?_)
    · refine lv_iload_n hx hb dX8_inLowestTerms_54 rfl (lv_at hl 4 rfl) ?_
      refine lv_iload_n hx hb dX8_inLowestTerms_55 rfl (lv_at hl 2 rfl) ?_
      refine lv_idiv hx hb dX8_inLowestTerms_56 (ne0_of (zy := (cm_3).toInt) (by omega) rfl) ?_
      refine lv_topi (fun z_6 ez_6 => ?_)
      exact W.iret (v := z_6) hx hb hr (fun t ht hW => ⟨z_6, rfl, trivial, ht⟩) (fun q h => by cases h) dX8_inLowestTerms_57
    · refine lv_iload_n hx hb dX8_inLowestTerms_50 rfl (lv_at hl 3 rfl) ?_
      refine lv_goto (tgt := 55) hx hb dX8_inLowestTerms_51 (by decide) ?_
      refine lv_iload_n hx hb dX8_inLowestTerms_55 rfl (lv_at hl 2 rfl) ?_
      refine lv_idiv hx hb dX8_inLowestTerms_56 (ne0_of (zy := (cm_3).toInt) (by omega) rfl) ?_
      refine lv_topi (fun z_7 ez_7 => ?_)
      exact W.iret (v := z_7) hx hb hr (fun t ht hW => ⟨z_7, rfl, trivial, ht⟩) (fun q h => by cases h) dX8_inLowestTerms_57
  · refine lv_iconst (v := (-1)) hx hb dX8_inLowestTerms_44 (by decide) ?_
    exact W.iret (v := (-1)) hx hb hr (fun t ht hW => ⟨(-1), rfl, trivial, ht⟩) (fun q h => by cases h) dX8_inLowestTerms_45

set_option maxHeartbeats 4000000 in
set_option maxRecDepth 100000 in
theorem c_X0_isOpen (l : Launch) (D : va_G) (X0 : va_W) (L : List Nat) (K : Nat → Nat × Nat) (f : Nat → va_E) (S : Int) (tys : List (ClassId × FieldType)) (a : Nat) (hI : cqI S L K f) (ha : cqIs L K 0 a) : Met l yX0_isOpen wsX0_isOpen ({ frames := 0, cells := 0, slots := 0, locals := 0 }) (va_Pc [.ref a] (wo D tys (X0 ++ va_pl L f))) (vp_Si (fun r => ((True) ∧ r = 1) ∨ ((True) ∧ r = 0))) 0 0 (fun _ => False) := by
  refine Met.ofW (cc := cX0_isOpen) (maxL := 1) (ret := (some .boolean)) (by decide) rfl ?_
  intro p e s m args below meth c s₁ B hml hv
  obtain ⟨rfl, hP, hK, hD, hN⟩ := hv
  have hx := B.exec
  have hb := B.bytes
  have hr := B.returns
  have hts := atoms_spec (ws := wsX0_isOpen) B.pre
  have hown : s.vm.findClass RX0 = some m.cls := findClass_of_methodNamed B.named
  have hlocks := B.notSynchronized
  have hin_X0 : ∀ w ∈ u_ws RX0 TX0 17, w ∈ wsX0_isOpen := fun w h => List.mem_cons_of_mem _ (List.mem_append_right _ (h))
  have hl := lv_entry ([.ref a]) (n := 1) (Nat.le_of_ble_eq_true rfl)
  rw [lg_entry_eq]
  generalize (lg_sl ([.ref a]) ++ List.replicate (1 - (lg_sl ([.ref a])).length) Slot.unset).toArray = ls at hl ⊢
  have hl : lv_has ls 1 [(0, .ref a)] := hl
  refine lv_aload_n hx hb dX0_isOpen_0 rfl (lv_at hl 0 rfl) ?_
  obtain ⟨nu_1, ca_1, so_1, th_1, ma_1, wo_1, lf_1, ld_1, si_1, cp_1, he_1, re_1, sv_1, lt_1, lF_1, sn_1, ab_1, hf_1, hnu_1, hlf_1, hld_1, hsi_1, hcp_1, hsn_1, hab_1⟩ := hI.opA ha
  refine pl_get (D := D) (ci := 0) (v := .int sv_1) (C := RX0) (T := TX0) (N := 17) hx hb hts hin_X0 hown hK hP ha.1 hf_1 rfl 12 (by decide) (hts (.fieldLink RX0 9 "CryOrder$Alarm" "state" "I") (List.mem_cons_of_mem _ (List.mem_append_left _ (List.mem_of_getElem? (i := 0) rfl)))) (fun _ h9 => h9) rfl dX0_isOpen_1 ?_
  refine bz_ne (zx := (sv_1).toInt) (tgt := 11) hx hb dX0_isOpen_4 (by decide) rfl (fun c_2 => ?_) (fun c_2 => ?_)
  · refine lv_iconst (v := 0) hx hb dX0_isOpen_11 (by decide) ?_
    exact W.zret (v := 0) hx hb hr rfl (fun t ht hW => ⟨0, rfl, Or.inr ⟨trivial, rfl⟩, ht⟩) (fun q h => by cases h) dX0_isOpen_12
  · refine lv_iconst (v := 1) hx hb dX0_isOpen_7 (by decide) ?_
    refine lv_goto (tgt := 12) hx hb dX0_isOpen_8 (by decide) ?_
    exact W.zret (v := 1) hx hb hr rfl (fun t ht hW => ⟨1, rfl, Or.inl ⟨trivial, rfl⟩, ht⟩) (fun q h => by cases h) dX0_isOpen_12

set_option maxHeartbeats 4000000 in
set_option maxRecDepth 100000 in
theorem c_X0_isHushed (l : Launch) (D : va_G) (X0 : va_W) (L : List Nat) (K : Nat → Nat × Nat) (f : Nat → va_E) (S : Int) (tys : List (ClassId × FieldType)) (a : Nat) (hI : cqI S L K f) (ha : cqIs L K 0 a) : Met l yX0_isHushed wsX0_isHushed ({ frames := 0, cells := 0, slots := 0, locals := 0 }) (va_Pc [.ref a] (wo D tys (X0 ++ va_pl L f))) (vp_Si (fun r => ((True) ∧ r = 1) ∨ ((True) ∧ r = 0))) 0 0 (fun _ => False) := by
  refine Met.ofW (cc := cX0_isHushed) (maxL := 1) (ret := (some .boolean)) (by decide) rfl ?_
  intro p e s m args below meth c s₁ B hml hv
  obtain ⟨rfl, hP, hK, hD, hN⟩ := hv
  have hx := B.exec
  have hb := B.bytes
  have hr := B.returns
  have hts := atoms_spec (ws := wsX0_isHushed) B.pre
  have hown : s.vm.findClass RX0 = some m.cls := findClass_of_methodNamed B.named
  have hlocks := B.notSynchronized
  have hin_X0 : ∀ w ∈ u_ws RX0 TX0 17, w ∈ wsX0_isHushed := fun w h => List.mem_cons_of_mem _ (List.mem_append_right _ (h))
  have hl := lv_entry ([.ref a]) (n := 1) (Nat.le_of_ble_eq_true rfl)
  rw [lg_entry_eq]
  generalize (lg_sl ([.ref a]) ++ List.replicate (1 - (lg_sl ([.ref a])).length) Slot.unset).toArray = ls at hl ⊢
  have hl : lv_has ls 1 [(0, .ref a)] := hl
  refine lv_aload_n hx hb dX0_isHushed_0 rfl (lv_at hl 0 rfl) ?_
  obtain ⟨nu_1, ca_1, so_1, th_1, ma_1, wo_1, lf_1, ld_1, si_1, cp_1, he_1, re_1, sv_1, lt_1, lF_1, sn_1, ab_1, hf_1, hnu_1, hlf_1, hld_1, hsi_1, hcp_1, hsn_1, hab_1⟩ := hI.opA ha
  refine pl_get (D := D) (ci := 0) (v := .int si_1) (C := RX0) (T := TX0) (N := 17) hx hb hts hin_X0 hown hK hP ha.1 hf_1 rfl 8 (by decide) (hts (.fieldLink RX0 49 "CryOrder$Alarm" "silenced" "Z") (List.mem_cons_of_mem _ (List.mem_append_left _ (List.mem_of_getElem? (i := 0) rfl)))) (fun _ h9 => h9) rfl dX0_isHushed_1 ?_
  refine bz_ne (zx := (si_1).toInt) (tgt := 14) hx hb dX0_isHushed_4 (by decide) rfl (fun c_2 => ?_) (fun c_2 => ?_)
  · refine lv_iconst (v := 1) hx hb dX0_isHushed_14 (by decide) ?_
    refine lv_goto (tgt := 19) hx hb dX0_isHushed_15 (by decide) ?_
    exact W.zret (v := 1) hx hb hr rfl (fun t ht hW => ⟨1, rfl, Or.inl ⟨trivial, rfl⟩, ht⟩) (fun q h => by cases h) dX0_isHushed_19
  · refine lv_aload_n hx hb dX0_isHushed_7 rfl (lv_at hl 0 rfl) ?_
    refine pl_get (D := D) (ci := 0) (v := .int cp_1) (C := RX0) (T := TX0) (N := 17) hx hb hts hin_X0 hown hK hP ha.1 hf_1 rfl 9 (by decide) (hts (.fieldLink RX0 53 "CryOrder$Alarm" "capped" "Z") (List.mem_cons_of_mem _ (List.mem_append_left _ (List.mem_of_getElem? (i := 1) rfl)))) (fun _ h9 => h9) rfl dX0_isHushed_8 ?_
    refine bz_eq (zx := (cp_1).toInt) (tgt := 18) hx hb dX0_isHushed_11 (by decide) rfl (fun c_3 => ?_) (fun c_3 => ?_)
    · refine lv_iconst (v := 0) hx hb dX0_isHushed_18 (by decide) ?_
      exact W.zret (v := 0) hx hb hr rfl (fun t ht hW => ⟨0, rfl, Or.inr ⟨trivial, rfl⟩, ht⟩) (fun q h => by cases h) dX0_isHushed_19
    · refine lv_iconst (v := 1) hx hb dX0_isHushed_14 (by decide) ?_
      refine lv_goto (tgt := 19) hx hb dX0_isHushed_15 (by decide) ?_
      exact W.zret (v := 1) hx hb hr rfl (fun t ht hW => ⟨1, rfl, Or.inl ⟨trivial, rfl⟩, ht⟩) (fun q h => by cases h) dX0_isHushed_19

set_option maxHeartbeats 4000000 in
set_option maxRecDepth 100000 in
theorem c_X0_isLive (l : Launch) (D : va_G) (X0 : va_W) (L : List Nat) (K : Nat → Nat × Nat) (f : Nat → va_E) (S : Int) (tys : List (ClassId × FieldType)) (a : Nat) (hI : cqI S L K f) (ha : cqIs L K 0 a) : Met l yX0_isLive wsX0_isLive ({ frames := 1, cells := 0, slots := 0, locals := 20 }) (va_Pc [.ref a] (wo D tys (X0 ++ va_pl L f))) (vp_Si (fun r => ((True) ∧ r = 1) ∨ ((True) ∧ r = 0))) 0 0 (fun _ => False) := by
  refine Met.ofW (cc := cX0_isLive) (maxL := 1) (ret := (some .boolean)) (by decide) rfl ?_
  intro p e s m args below meth c s₁ B hml hv
  obtain ⟨rfl, hP, hK, hD, hN⟩ := hv
  have hx := B.exec
  have hb := B.bytes
  have hr := B.returns
  have hts := atoms_spec (ws := wsX0_isLive) B.pre
  have hown : s.vm.findClass RX0 = some m.cls := findClass_of_methodNamed B.named
  have hlocks := B.notSynchronized
  have hl := lv_entry ([.ref a]) (n := 1) (Nat.le_of_ble_eq_true rfl)
  rw [lg_entry_eq]
  generalize (lg_sl ([.ref a]) ++ List.replicate (1 - (lg_sl ([.ref a])).length) Slot.unset).toArray = ls at hl ⊢
  have hl : lv_has ls 1 [(0, .ref a)] := hl
  refine lv_aload_n hx hb dX0_isLive_0 rfl (lv_at hl 0 rfl) ?_
  refine vp_callSi (wrV (As := []) (rest := []) ⟨hx, hb, hml, hown, hts⟩ hN hK hP hD (c_X0_isOpen l D X0 L K f S tys a hI ha) (cwV 0 hts gX0_isLive_X0_isOpen rfl rfl rfl (by decide +kernel) ⟨(Nat.le_of_ble_eq_true rfl), (Nat.le_of_ble_eq_true rfl)⟩) 0 rfl (cq_rcA (X := X0) hI ha) rfl hl.1 rfl (Nat.le_of_ble_eq_true rfl) dX0_isLive_1 ⟨(Nat.le_of_ble_eq_true rfl), (Nat.le_of_ble_eq_true rfl)⟩) (fun r_1 h_2 => ?_)
  rcases h_2 with ⟨h_2, rfl⟩ | ⟨h_2, rfl⟩
  · have h_2 : True := h_2
    refine lv_if_eq (tgt := 18) hx hb dX0_isLive_4 (by decide) (fun c_ => absurd c_ (by decide)) (fun _ => ?_)
    refine lv_aload_n hx hb dX0_isLive_7 rfl (lv_at hl 0 rfl) ?_
    refine vp_callSi (wrV (As := []) (rest := []) ⟨hx, hb, hml, hown, hts⟩ hN hK hP hD (c_X0_isHushed l D X0 L K f S tys a hI ha) (cwV 0 hts gX0_isLive_X0_isHushed rfl rfl rfl (by decide +kernel) ⟨(Nat.le_of_ble_eq_true rfl), (Nat.le_of_ble_eq_true rfl)⟩) 0 rfl (cq_rcA (X := X0) hI ha) rfl hl.1 rfl (Nat.le_of_ble_eq_true rfl) dX0_isLive_8 ⟨(Nat.le_of_ble_eq_true rfl), (Nat.le_of_ble_eq_true rfl)⟩) (fun r_3 h_4 => ?_)
    rcases h_4 with ⟨h_4, rfl⟩ | ⟨h_4, rfl⟩
    · have h_4 : True := h_4
      refine lv_if_ne (tgt := 18) hx hb dX0_isLive_11 (by decide) (fun _ => ?_) (fun c_ => absurd c_ (by decide))
      refine lv_iconst (v := 0) hx hb dX0_isLive_18 (by decide) ?_
      exact W.zret (v := 0) hx hb hr rfl (fun t ht hW => ⟨0, rfl, Or.inr ⟨trivial, rfl⟩, ht⟩) (fun q h => by cases h) dX0_isLive_19
    · have h_4 : True := h_4
      refine lv_if_ne (tgt := 18) hx hb dX0_isLive_11 (by decide) (fun c_ => absurd c_ (by decide)) (fun _ => ?_)
      refine lv_iconst (v := 1) hx hb dX0_isLive_14 (by decide) ?_
      refine lv_goto (tgt := 19) hx hb dX0_isLive_15 (by decide) ?_
      exact W.zret (v := 1) hx hb hr rfl (fun t ht hW => ⟨1, rfl, Or.inl ⟨trivial, rfl⟩, ht⟩) (fun q h => by cases h) dX0_isLive_19
  · have h_2 : True := h_2
    refine lv_if_eq (tgt := 18) hx hb dX0_isLive_4 (by decide) (fun _ => ?_) (fun c_ => absurd c_ (by decide))
    refine lv_iconst (v := 0) hx hb dX0_isLive_18 (by decide) ?_
    exact W.zret (v := 0) hx hb hr rfl (fun t ht hW => ⟨0, rfl, Or.inr ⟨trivial, rfl⟩, ht⟩) (fun q h => by cases h) dX0_isLive_19
