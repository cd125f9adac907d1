set_option maxHeartbeats 4000000 in
set_option maxRecDepth 100000 in
theorem law_c0 {p : Program} {l : Launch} {e : Env} {s : State} {m : MethodId} {below : List Frame} {meth : Method} {c : Code} {b L : Nat} {xs : Nat → Int32} {A : Nat → Prop} {D : va_G} {xo h9 : Nat} {tC tM : List (ClassId × FieldType)} {S : Int} {az : aS} {i : Int32} {wC wM : va_W} {H : Heap} {locs : List Loc} {ls : Array Slot} {cells slots : Nat} (C0 : lw_At p s m meth c b L xs) (hN : Nq s) (hA : ∀ q : Nat, s.heap.size ≤ q → A q) (hAf : ∀ q : Nat, A q → s.heap.size ≤ q) (hKC : va_K D vwCl tC s) (hKM : va_K D vwCl tM s) (hC : cST S az tC xo wC) (hM : mST az tM h9 wM) (ok : vOK az) (hSS : 0 ≤ S ∧ S ≤ 400000) (hP : va_P D vwCl (wC ++ wM) H) (hD : va_D A (wC ++ wM)) (hS : va_S A s.heap H locs) (hl : lv_has ls 4 [(3, .int i), (2, .ref h9), (1, .ref xo), (0, .ref b)]) (hi : 0 ≤ i.toInt ∧ i.toInt + 5 ≤ L ∧ L ≤ 2560) (hcs : cells + 6 ≤ 600000 ∧ slots + 53 ≤ 7302250) (done : ∀ (az : aS) (wC wM : va_W) (H : Heap) (locs : List Loc) (ls : Array Slot) (cells9 slots9 : Nat), cST (S + 200) az tC xo wC → mST az tM h9 wM → vOK az → va_P D vwCl (wC ++ wM) H → va_D A (wC ++ wM) → va_S A s.heap H locs → lv_has ls 4 [(3, .int i), (2, .ref h9), (1, .ref xo), (0, .ref b)] → cells9 ≤ cells + 6 → slots9 ≤ slots + 53 → W p l e room_1 s m #[Value.ref b] below meth c H locs cells9 slots9 (lw_Z below #[Value.ref b] s) (F0 m 692 ls [])) : W p l e room_1 s m #[Value.ref b] below meth c H locs cells slots (lw_Z below #[Value.ref b] s) (F0 m 112 ls []) := by
  obtain ⟨hx, hb, hr, hml, hown, hts, hX, hbl, hlocks, hgv⟩ := C0
  have hts := fun w h => hts w (wsL_law_in w h)
  have hb : c.code = cL_law := hb
  have hown : s.vm.findClass RL = some m.cls := hown
  have hbA : ¬ A b := fun q => absurd (hAf b q) (Nat.not_le.mpr hbl)
  have t1 := ad_toInt (x := i) (y := 1) (z := i + 1) (zx := i.toInt) (zy := 1) rfl rfl (by decide)
  have t2 := ad_toInt (x := i) (y := 2) (z := i + 2) (zx := i.toInt) (zy := 2) rfl rfl (by decide)
  have t3 := ad_toInt (x := i) (y := 3) (z := i + 3) (zx := i.toInt) (zy := 3) rfl rfl (by decide)
  have t4 := ad_toInt (x := i) (y := 4) (z := i + 4) (zx := i.toInt) (zy := 4) rfl rfl (by decide)
  refine lv_aload_n hx hb dL_law_112 rfl (lv_at hl 2 rfl) ?_
  refine lv_aload_n hx hb dL_law_113 rfl (lv_at hl 3 rfl) ?_
  refine lv_iload_n hx hb dL_law_114 rfl (lv_at hl 0 rfl) ?_
  refine lv_iconst (v := 1) hx hb dL_law_115 (by decide) ?_
  refine lv_iadd hx hb dL_law_116 ?_
  refine va_sld hx hb hX hbl hbA hS (vp_in_iff.mpr (by omega)) dL_law_117 ?_
  refine lw_call (As := [.int (xs (i + 1).toNatClampNeg)]) (rest := []) ⟨hx, hb, hml, hown, hts⟩ hN hKC hP hD hS hA (u_pass l D H.size ((xs (i + 1).toNatClampNeg)) hC ok hSS ) (cwV 1 hts gL_law_X8_pass rfl rfl rfl (by decide +kernel) ⟨(Nat.le_of_ble_eq_true rfl), (Nat.le_of_ble_eq_true rfl)⟩) 8 rfl hC.rc rfl hl.1 rfl (Nat.le_of_ble_eq_true rfl) dL_law_118 ⟨by have : room_1.cells = 600000 := rfl; omega, by have : room_1.slots = 7302250 := rfl; omega⟩ (fun r_1 wC_3 H_2 locs hr_1 hC hP hD hS => ?_)
  have hP := wcomm hP
  have hD := wcommD hD
  refine lv_pop hx hb dL_law_121 rfl ?_
  refine lv_aload_n hx hb dL_law_122 rfl (lv_at hl 1 rfl) ?_
  refine lv_aload_n hx hb dL_law_123 rfl (lv_at hl 3 rfl) ?_
  refine lv_iload_n hx hb dL_law_124 rfl (lv_at hl 0 rfl) ?_
  refine lv_iconst (v := 1) hx hb dL_law_125 (by decide) ?_
  refine lv_iadd hx hb dL_law_126 ?_
  refine va_sld hx hb hX hbl hbA hS (vp_in_iff.mpr (by omega)) dL_law_127 ?_
  refine lw_call (As := [.int (xs (i + 1).toNatClampNeg)]) (rest := []) ⟨hx, hb, hml, hown, hts⟩ hN hKM hP hD hS hA (u9_pass l D H_2.size ((xs (i + 1).toNatClampNeg)) hM ok ) (cwV 1 hts gL_law_X9_pass rfl rfl rfl (by decide +kernel) ⟨(Nat.le_of_ble_eq_true rfl), (Nat.le_of_ble_eq_true rfl)⟩) 9 rfl hM.rc rfl hl.1 rfl (Nat.le_of_ble_eq_true rfl) dL_law_128 ⟨by have : room_1.cells = 600000 := rfl; omega, by have : room_1.slots = 7302250 := rfl; omega⟩ (fun r_4 wM_6 H_5 locs hr_4 hM hP hD hS => ?_)
  have hP := wcomm hP
  have hD := wcommD hD
  refine lv_pop hx hb dL_law_131 rfl ?_
  refine lv_goto (tgt := 692) hx hb dL_law_132 (by decide) ?_
  exact done _ _ _ _ _ _ _ _ hC hM (vOK_pass ok) hP hD hS (lv_sub hl [0, 1, 2, 3] rfl) (by omega) (by omega)

set_option maxHeartbeats 4000000 in
set_option maxRecDepth 100000 in
theorem law_c1 {p : Program} {l : Launch} {e : Env} {s : State} {m : MethodId} {below : List Frame} {meth : Method} {c : Code} {b L : Nat} {xs : Nat → Int32} {A : Nat → Prop} {D : va_G} {xo h9 : Nat} {tC tM : List (ClassId × FieldType)} {S : Int} {az : aS} {i : Int32} {wC wM : va_W} {H : Heap} {locs : List Loc} {ls : Array Slot} {cells slots : Nat} (C0 : lw_At p s m meth c b L xs) (hN : Nq s) (hA : ∀ q : Nat, s.heap.size ≤ q → A q) (hAf : ∀ q : Nat, A q → s.heap.size ≤ q) (hKC : va_K D vwCl tC s) (hKM : va_K D vwCl tM s) (hC : cST S az tC xo wC) (hM : mST az tM h9 wM) (ok : vOK az) (hSS : 0 ≤ S ∧ S ≤ 400000) (hP : va_P D vwCl (wC ++ wM) H) (hD : va_D A (wC ++ wM)) (hS : va_S A s.heap H locs) (hl : lv_has ls 4 [(3, .int i), (2, .ref h9), (1, .ref xo), (0, .ref b)]) (hi : 0 ≤ i.toInt ∧ i.toInt + 5 ≤ L ∧ L ≤ 2560) (hcs : cells + 6 ≤ 600000 ∧ slots + 53 ≤ 7302250) (done : ∀ (az : aS) (wC wM : va_W) (H : Heap) (locs : List Loc) (ls : Array Slot) (cells9 slots9 : Nat), cST (S + 200) az tC xo wC → mST az tM h9 wM → vOK az → va_P D vwCl (wC ++ wM) H → va_D A (wC ++ wM) → va_S A s.heap H locs → lv_has ls 4 [(3, .int i), (2, .ref h9), (1, .ref xo), (0, .ref b)] → cells9 ≤ cells + 6 → slots9 ≤ slots + 53 → W p l e room_1 s m #[Value.ref b] below meth c H locs cells9 slots9 (lw_Z below #[Value.ref b] s) (F0 m 692 ls [])) : W p l e room_1 s m #[Value.ref b] below meth c H locs cells slots (lw_Z below #[Value.ref b] s) (F0 m 135 ls []) := by
  obtain ⟨hx, hb, hr, hml, hown, hts, hX, hbl, hlocks, hgv⟩ := C0
  have hts := fun w h => hts w (wsL_law_in w h)
  have hb : c.code = cL_law := hb
  have hown : s.vm.findClass RL = some m.cls := hown
  have hbA : ¬ A b := fun q => absurd (hAf b q) (Nat.not_le.mpr hbl)
  have t1 := ad_toInt (x := i) (y := 1) (z := i + 1) (zx := i.toInt) (zy := 1) rfl rfl (by decide)
  have t2 := ad_toInt (x := i) (y := 2) (z := i + 2) (zx := i.toInt) (zy := 2) rfl rfl (by decide)
  have t3 := ad_toInt (x := i) (y := 3) (z := i + 3) (zx := i.toInt) (zy := 3) rfl rfl (by decide)
  have t4 := ad_toInt (x := i) (y := 4) (z := i + 4) (zx := i.toInt) (zy := 4) rfl rfl (by decide)
  refine lv_aload_n hx hb dL_law_135 rfl (lv_at hl 2 rfl) ?_
  refine lv_aload_n hx hb dL_law_136 rfl (lv_at hl 3 rfl) ?_
  refine lv_iload_n hx hb dL_law_137 rfl (lv_at hl 0 rfl) ?_
  refine lv_iconst (v := 1) hx hb dL_law_138 (by decide) ?_
  refine lv_iadd hx hb dL_law_139 ?_
  refine va_sld hx hb hX hbl hbA hS (vp_in_iff.mpr (by omega)) dL_law_140 ?_
  refine lv_aload_n hx hb dL_law_141 rfl (lv_at hl 3 rfl) ?_
  refine lv_iload_n hx hb dL_law_142 rfl (lv_at hl 0 rfl) ?_
  refine lv_iconst (v := 2) hx hb dL_law_143 (by decide) ?_
  refine lv_iadd hx hb dL_law_144 ?_
  refine va_sld hx hb hX hbl hbA hS (vp_in_iff.mpr (by omega)) dL_law_145 ?_
  refine lv_aload_n hx hb dL_law_146 rfl (lv_at hl 3 rfl) ?_
  refine lv_iload_n hx hb dL_law_147 rfl (lv_at hl 0 rfl) ?_
  refine lv_iconst (v := 3) hx hb dL_law_148 (by decide) ?_
  refine lv_iadd hx hb dL_law_149 ?_
  refine va_sld hx hb hX hbl hbA hS (vp_in_iff.mpr (by omega)) dL_law_150 ?_
  refine lv_aload_n hx hb dL_law_151 rfl (lv_at hl 3 rfl) ?_
  refine lv_iload_n hx hb dL_law_152 rfl (lv_at hl 0 rfl) ?_
  refine lv_iconst (v := 4) hx hb dL_law_153 (by decide) ?_
  refine lv_iadd hx hb dL_law_154 ?_
  refine va_sld hx hb hX hbl hbA hS (vp_in_iff.mpr (by omega)) dL_law_155 ?_
  refine lw_call (As := [.int (xs (i + 1).toNatClampNeg), .int (xs (i + 2).toNatClampNeg), .int (xs (i + 3).toNatClampNeg), .int (xs (i + 4).toNatClampNeg)]) (rest := []) ⟨hx, hb, hml, hown, hts⟩ hN hKC hP hD hS hA (u_alarm l D H.size ((xs (i + 1).toNatClampNeg)) ((xs (i + 2).toNatClampNeg)) ((xs (i + 3).toNatClampNeg)) ((xs (i + 4).toNatClampNeg)) hC ok hSS ) (cwV 4 hts gL_law_X8_alarm rfl rfl rfl (by decide +kernel) ⟨(Nat.le_of_ble_eq_true rfl), (Nat.le_of_ble_eq_true rfl)⟩) 8 rfl hC.rc rfl hl.1 rfl (Nat.le_of_ble_eq_true rfl) dL_law_156 ⟨by have : room_1.cells = 600000 := rfl; omega, by have : room_1.slots = 7302250 := rfl; omega⟩ (fun r_1 wC_3 H_2 locs hr_1 hC hP hD hS => ?_)
  have hP := wcomm hP
  have hD := wcommD hD
  refine lv_pop hx hb dL_law_159 rfl ?_
  refine lv_aload_n hx hb dL_law_160 rfl (lv_at hl 1 rfl) ?_
  refine lv_aload_n hx hb dL_law_161 rfl (lv_at hl 3 rfl) ?_
  refine lv_iload_n hx hb dL_law_162 rfl (lv_at hl 0 rfl) ?_
  refine lv_iconst (v := 1) hx hb dL_law_163 (by decide) ?_
  refine lv_iadd hx hb dL_law_164 ?_
  refine va_sld hx hb hX hbl hbA hS (vp_in_iff.mpr (by omega)) dL_law_165 ?_
  refine lv_aload_n hx hb dL_law_166 rfl (lv_at hl 3 rfl) ?_
  refine lv_iload_n hx hb dL_law_167 rfl (lv_at hl 0 rfl) ?_
  refine lv_iconst (v := 2) hx hb dL_law_168 (by decide) ?_
  refine lv_iadd hx hb dL_law_169 ?_
  refine va_sld hx hb hX hbl hbA hS (vp_in_iff.mpr (by omega)) dL_law_170 ?_
  refine lv_aload_n hx hb dL_law_171 rfl (lv_at hl 3 rfl) ?_
  refine lv_iload_n hx hb dL_law_172 rfl (lv_at hl 0 rfl) ?_
  refine lv_iconst (v := 3) hx hb dL_law_173 (by decide) ?_
  refine lv_iadd hx hb dL_law_174 ?_
  refine va_sld hx hb hX hbl hbA hS (vp_in_iff.mpr (by omega)) dL_law_175 ?_
  refine lv_aload_n hx hb dL_law_176 rfl (lv_at hl 3 rfl) ?_
  refine lv_iload_n hx hb dL_law_177 rfl (lv_at hl 0 rfl) ?_
  refine lv_iconst (v := 4) hx hb dL_law_178 (by decide) ?_
  refine lv_iadd hx hb dL_law_179 ?_
  refine va_sld hx hb hX hbl hbA hS (vp_in_iff.mpr (by omega)) dL_law_180 ?_
  refine lw_call (As := [.int (xs (i + 1).toNatClampNeg), .int (xs (i + 2).toNatClampNeg), .int (xs (i + 3).toNatClampNeg), .int (xs (i + 4).toNatClampNeg)]) (rest := []) ⟨hx, hb, hml, hown, hts⟩ hN hKM hP hD hS hA (u9_alarm l D H_2.size ((xs (i + 1).toNatClampNeg)) ((xs (i + 2).toNatClampNeg)) ((xs (i + 3).toNatClampNeg)) ((xs (i + 4).toNatClampNeg)) hM ok ) (cwV 4 hts gL_law_X9_alarm rfl rfl rfl (by decide +kernel) ⟨(Nat.le_of_ble_eq_true rfl), (Nat.le_of_ble_eq_true rfl)⟩) 9 rfl hM.rc rfl hl.1 rfl (Nat.le_of_ble_eq_true rfl) dL_law_181 ⟨by have : room_1.cells = 600000 := rfl; omega, by have : room_1.slots = 7302250 := rfl; omega⟩ (fun r_4 wM_6 H_5 locs hr_4 hM hP hD hS => ?_)
  have hP := wcomm hP
  have hD := wcommD hD
  refine lv_pop hx hb dL_law_184 rfl ?_
  refine lv_goto (tgt := 692) hx hb dL_law_185 (by decide) ?_
  exact done _ _ _ _ _ _ _ _ hC hM (vOK_alarm ok) hP hD hS (lv_sub hl [0, 1, 2, 3] rfl) (by omega) (by omega)

set_option maxHeartbeats 4000000 in
set_option maxRecDepth 100000 in
theorem law_c2 {p : Program} {l : Launch} {e : Env} {s : State} {m : MethodId} {below : List Frame} {meth : Method} {c : Code} {b L : Nat} {xs : Nat → Int32} {A : Nat → Prop} {D : va_G} {xo h9 : Nat} {tC tM : List (ClassId × FieldType)} {S : Int} {az : aS} {i : Int32} {wC wM : va_W} {H : Heap} {locs : List Loc} {ls : Array Slot} {cells slots : Nat} (C0 : lw_At p s m meth c b L xs) (hN : Nq s) (hA : ∀ q : Nat, s.heap.size ≤ q → A q) (hAf : ∀ q : Nat, A q → s.heap.size ≤ q) (hKC : va_K D vwCl tC s) (hKM : va_K D vwCl tM s) (hC : cST S az tC xo wC) (hM : mST az tM h9 wM) (ok : vOK az) (hSS : 0 ≤ S ∧ S ≤ 400000) (hP : va_P D vwCl (wC ++ wM) H) (hD : va_D A (wC ++ wM)) (hS : va_S A s.heap H locs) (hl : lv_has ls 4 [(3, .int i), (2, .ref h9), (1, .ref xo), (0, .ref b)]) (hi : 0 ≤ i.toInt ∧ i.toInt + 5 ≤ L ∧ L ≤ 2560) (hcs : cells + 6 ≤ 600000 ∧ slots + 53 ≤ 7302250) (done : ∀ (az : aS) (wC wM : va_W) (H : Heap) (locs : List Loc) (ls : Array Slot) (cells9 slots9 : Nat), cST (S + 200) az tC xo wC → mST az tM h9 wM → vOK az → va_P D vwCl (wC ++ wM) H → va_D A (wC ++ wM) → va_S A s.heap H locs → lv_has ls 4 [(3, .int i), (2, .ref h9), (1, .ref xo), (0, .ref b)] → cells9 ≤ cells + 6 → slots9 ≤ slots + 53 → W p l e room_1 s m #[Value.ref b] below meth c H locs cells9 slots9 (lw_Z below #[Value.ref b] s) (F0 m 692 ls [])) : W p l e room_1 s m #[Value.ref b] below meth c H locs cells slots (lw_Z below #[Value.ref b] s) (F0 m 188 ls []) := by
  obtain ⟨hx, hb, hr, hml, hown, hts, hX, hbl, hlocks, hgv⟩ := C0
  have hts := fun w h => hts w (wsL_law_in w h)
  have hb : c.code = cL_law := hb
  have hown : s.vm.findClass RL = some m.cls := hown
  have hbA : ¬ A b := fun q => absurd (hAf b q) (Nat.not_le.mpr hbl)
  have t1 := ad_toInt (x := i) (y := 1) (z := i + 1) (zx := i.toInt) (zy := 1) rfl rfl (by decide)
  have t2 := ad_toInt (x := i) (y := 2) (z := i + 2) (zx := i.toInt) (zy := 2) rfl rfl (by decide)
  have t3 := ad_toInt (x := i) (y := 3) (z := i + 3) (zx := i.toInt) (zy := 3) rfl rfl (by decide)
  have t4 := ad_toInt (x := i) (y := 4) (z := i + 4) (zx := i.toInt) (zy := 4) rfl rfl (by decide)
  refine lv_aload_n hx hb dL_law_188 rfl (lv_at hl 2 rfl) ?_
  refine lv_aload_n hx hb dL_law_189 rfl (lv_at hl 3 rfl) ?_
  refine lv_iload_n hx hb dL_law_190 rfl (lv_at hl 0 rfl) ?_
  refine lv_iconst (v := 1) hx hb dL_law_191 (by decide) ?_
  refine lv_iadd hx hb dL_law_192 ?_
  refine va_sld hx hb hX hbl hbA hS (vp_in_iff.mpr (by omega)) dL_law_193 ?_
  refine lv_aload_n hx hb dL_law_194 rfl (lv_at hl 3 rfl) ?_
  refine lv_iload_n hx hb dL_law_195 rfl (lv_at hl 0 rfl) ?_
  refine lv_iconst (v := 2) hx hb dL_law_196 (by decide) ?_
  refine lv_iadd hx hb dL_law_197 ?_
  refine va_sld hx hb hX hbl hbA hS (vp_in_iff.mpr (by omega)) dL_law_198 ?_
  refine lv_aload_n hx hb dL_law_199 rfl (lv_at hl 3 rfl) ?_
  refine lv_iload_n hx hb dL_law_200 rfl (lv_at hl 0 rfl) ?_
  refine lv_iconst (v := 3) hx hb dL_law_201 (by decide) ?_
  refine lv_iadd hx hb dL_law_202 ?_
  refine va_sld hx hb hX hbl hbA hS (vp_in_iff.mpr (by omega)) dL_law_203 ?_
  refine lw_call (As := [.int (xs (i + 1).toNatClampNeg), .int (xs (i + 2).toNatClampNeg), .int (xs (i + 3).toNatClampNeg)]) (rest := []) ⟨hx, hb, hml, hown, hts⟩ hN hKC hP hD hS hA (u_silence l D H.size ((xs (i + 1).toNatClampNeg)) ((xs (i + 2).toNatClampNeg)) ((xs (i + 3).toNatClampNeg)) hC ok hSS ) (cwV 3 hts gL_law_X8_silence rfl rfl rfl (by decide +kernel) ⟨(Nat.le_of_ble_eq_true rfl), (Nat.le_of_ble_eq_true rfl)⟩) 8 rfl hC.rc rfl hl.1 rfl (Nat.le_of_ble_eq_true rfl) dL_law_204 ⟨by have : room_1.cells = 600000 := rfl; omega, by have : room_1.slots = 7302250 := rfl; omega⟩ (fun r_1 wC_3 H_2 locs hr_1 hC hP hD hS => ?_)
  have hP := wcomm hP
  have hD := wcommD hD
  refine lv_pop hx hb dL_law_207 rfl ?_
  refine lv_aload_n hx hb dL_law_208 rfl (lv_at hl 1 rfl) ?_
  refine lv_aload_n hx hb dL_law_209 rfl (lv_at hl 3 rfl) ?_
  refine lv_iload_n hx hb dL_law_210 rfl (lv_at hl 0 rfl) ?_
  refine lv_iconst (v := 1) hx hb dL_law_211 (by decide) ?_
  refine lv_iadd hx hb dL_law_212 ?_
  refine va_sld hx hb hX hbl hbA hS (vp_in_iff.mpr (by omega)) dL_law_213 ?_
  refine lv_aload_n hx hb dL_law_214 rfl (lv_at hl 3 rfl) ?_
  refine lv_iload_n hx hb dL_law_215 rfl (lv_at hl 0 rfl) ?_
  refine lv_iconst (v := 2) hx hb dL_law_216 (by decide) ?_
  refine lv_iadd hx hb dL_law_217 ?_
  refine va_sld hx hb hX hbl hbA hS (vp_in_iff.mpr (by omega)) dL_law_218 ?_
  refine lv_aload_n hx hb dL_law_219 rfl (lv_at hl 3 rfl) ?_
  refine lv_iload_n hx hb dL_law_220 rfl (lv_at hl 0 rfl) ?_
  refine lv_iconst (v := 3) hx hb dL_law_221 (by decide) ?_
  refine lv_iadd hx hb dL_law_222 ?_
  refine va_sld hx hb hX hbl hbA hS (vp_in_iff.mpr (by omega)) dL_law_223 ?_
  refine lw_call (As := [.int (xs (i + 1).toNatClampNeg), .int (xs (i + 2).toNatClampNeg), .int (xs (i + 3).toNatClampNeg)]) (rest := []) ⟨hx, hb, hml, hown, hts⟩ hN hKM hP hD hS hA (u9_silence l D H_2.size ((xs (i + 1).toNatClampNeg)) ((xs (i + 2).toNatClampNeg)) ((xs (i + 3).toNatClampNeg)) hM ok ) (cwV 3 hts gL_law_X9_silence rfl rfl rfl (by decide +kernel) ⟨(Nat.le_of_ble_eq_true rfl), (Nat.le_of_ble_eq_true rfl)⟩) 9 rfl hM.rc rfl hl.1 rfl (Nat.le_of_ble_eq_true rfl) dL_law_224 ⟨by have : room_1.cells = 600000 := rfl; omega, by have : room_1.slots = 7302250 := rfl; omega⟩ (fun r_4 wM_6 H_5 locs hr_4 hM hP hD hS => ?_)
  have hP := wcomm hP
  have hD := wcommD hD
  refine lv_pop hx hb dL_law_227 rfl ?_
  refine lv_goto (tgt := 692) hx hb dL_law_228 (by decide) ?_
  exact done _ _ _ _ _ _ _ _ hC hM (vOK_silence ok) hP hD hS (lv_sub hl [0, 1, 2, 3] rfl) (by omega) (by omega)

set_option maxHeartbeats 4000000 in
set_option maxRecDepth 100000 in
theorem law_c3 {p : Program} {l : Launch} {e : Env} {s : State} {m : MethodId} {below : List Frame} {meth : Method} {c : Code} {b L : Nat} {xs : Nat → Int32} {A : Nat → Prop} {D : va_G} {xo h9 : Nat} {tC tM : List (ClassId × FieldType)} {S : Int} {az : aS} {i : Int32} {wC wM : va_W} {H : Heap} {locs : List Loc} {ls : Array Slot} {cells slots : Nat} (C0 : lw_At p s m meth c b L xs) (hN : Nq s) (hA : ∀ q : Nat, s.heap.size ≤ q → A q) (hAf : ∀ q : Nat, A q → s.heap.size ≤ q) (hKC : va_K D vwCl tC s) (hKM : va_K D vwCl tM s) (hC : cST S az tC xo wC) (hM : mST az tM h9 wM) (ok : vOK az) (hSS : 0 ≤ S ∧ S ≤ 400000) (hP : va_P D vwCl (wC ++ wM) H) (hD : va_D A (wC ++ wM)) (hS : va_S A s.heap H locs) (hl : lv_has ls 4 [(3, .int i), (2, .ref h9), (1, .ref xo), (0, .ref b)]) (hi : 0 ≤ i.toInt ∧ i.toInt + 5 ≤ L ∧ L ≤ 2560) (hcs : cells + 6 ≤ 600000 ∧ slots + 53 ≤ 7302250) (done : ∀ (az : aS) (wC wM : va_W) (H : Heap) (locs : List Loc) (ls : Array Slot) (cells9 slots9 : Nat), cST (S + 200) az tC xo wC → mST az tM h9 wM → vOK az → va_P D vwCl (wC ++ wM) H → va_D A (wC ++ wM) → va_S A s.heap H locs → lv_has ls 4 [(3, .int i), (2, .ref h9), (1, .ref xo), (0, .ref b)] → cells9 ≤ cells + 6 → slots9 ≤ slots + 53 → W p l e room_1 s m #[Value.ref b] below meth c H locs cells9 slots9 (lw_Z below #[Value.ref b] s) (F0 m 692 ls [])) : W p l e room_1 s m #[Value.ref b] below meth c H locs cells slots (lw_Z below #[Value.ref b] s) (F0 m 231 ls []) := by
  obtain ⟨hx, hb, hr, hml, hown, hts, hX, hbl, hlocks, hgv⟩ := C0
  have hts := fun w h => hts w (wsL_law_in w h)
  have hb : c.code = cL_law := hb
  have hown : s.vm.findClass RL = some m.cls := hown
  have hbA : ¬ A b := fun q => absurd (hAf b q) (Nat.not_le.mpr hbl)
  have t1 := ad_toInt (x := i) (y := 1) (z := i + 1) (zx := i.toInt) (zy := 1) rfl rfl (by decide)
  have t2 := ad_toInt (x := i) (y := 2) (z := i + 2) (zx := i.toInt) (zy := 2) rfl rfl (by decide)
  have t3 := ad_toInt (x := i) (y := 3) (z := i + 3) (zx := i.toInt) (zy := 3) rfl rfl (by decide)
  have t4 := ad_toInt (x := i) (y := 4) (z := i + 4) (zx := i.toInt) (zy := 4) rfl rfl (by decide)
  refine lv_aload_n hx hb dL_law_231 rfl (lv_at hl 2 rfl) ?_
  refine lv_aload_n hx hb dL_law_232 rfl (lv_at hl 3 rfl) ?_
  refine lv_iload_n hx hb dL_law_233 rfl (lv_at hl 0 rfl) ?_
  refine lv_iconst (v := 1) hx hb dL_law_234 (by decide) ?_
  refine lv_iadd hx hb dL_law_235 ?_
  refine va_sld hx hb hX hbl hbA hS (vp_in_iff.mpr (by omega)) dL_law_236 ?_
  refine lv_aload_n hx hb dL_law_237 rfl (lv_at hl 3 rfl) ?_
  refine lv_iload_n hx hb dL_law_238 rfl (lv_at hl 0 rfl) ?_
  refine lv_iconst (v := 2) hx hb dL_law_239 (by decide) ?_
  refine lv_iadd hx hb dL_law_240 ?_
  refine va_sld hx hb hX hbl hbA hS (vp_in_iff.mpr (by omega)) dL_law_241 ?_
  refine lw_call (As := [.int (xs (i + 1).toNatClampNeg), .int (xs (i + 2).toNatClampNeg)]) (rest := []) ⟨hx, hb, hml, hown, hts⟩ hN hKC hP hD hS hA (u_set l D H.size ((xs (i + 1).toNatClampNeg)) ((xs (i + 2).toNatClampNeg)) hC ok hSS ) (cwV 2 hts gL_law_X8_set rfl rfl rfl (by decide +kernel) ⟨(Nat.le_of_ble_eq_true rfl), (Nat.le_of_ble_eq_true rfl)⟩) 8 rfl hC.rc rfl hl.1 rfl (Nat.le_of_ble_eq_true rfl) dL_law_242 ⟨by have : room_1.cells = 600000 := rfl; omega, by have : room_1.slots = 7302250 := rfl; omega⟩ (fun r_1 wC_3 H_2 locs hr_1 hC hP hD hS => ?_)
  have hP := wcomm hP
  have hD := wcommD hD
  refine lv_aload_n hx hb dL_law_245 rfl (lv_at hl 1 rfl) ?_
  refine lv_aload_n hx hb dL_law_246 rfl (lv_at hl 3 rfl) ?_
  refine lv_iload_n hx hb dL_law_247 rfl (lv_at hl 0 rfl) ?_
  refine lv_iconst (v := 1) hx hb dL_law_248 (by decide) ?_
  refine lv_iadd hx hb dL_law_249 ?_
  refine va_sld hx hb hX hbl hbA hS (vp_in_iff.mpr (by omega)) dL_law_250 ?_
  refine lv_aload_n hx hb dL_law_251 rfl (lv_at hl 3 rfl) ?_
  refine lv_iload_n hx hb dL_law_252 rfl (lv_at hl 0 rfl) ?_
  refine lv_iconst (v := 2) hx hb dL_law_253 (by decide) ?_
  refine lv_iadd hx hb dL_law_254 ?_
  refine va_sld hx hb hX hbl hbA hS (vp_in_iff.mpr (by omega)) dL_law_255 ?_
  refine lw_call (As := [.int (xs (i + 1).toNatClampNeg), .int (xs (i + 2).toNatClampNeg)]) (rest := [.int r_1]) ⟨hx, hb, hml, hown, hts⟩ hN hKM hP hD hS hA (u9_set l D H_2.size ((xs (i + 1).toNatClampNeg)) ((xs (i + 2).toNatClampNeg)) hM ok ) (cwV 2 hts gL_law_X9_set rfl rfl rfl (by decide +kernel) ⟨(Nat.le_of_ble_eq_true rfl), (Nat.le_of_ble_eq_true rfl)⟩) 9 rfl hM.rc rfl hl.1 rfl (Nat.le_of_ble_eq_true rfl) dL_law_256 ⟨by have : room_1.cells = 600000 := rfl; omega, by have : room_1.slots = 7302250 := rfl; omega⟩ (fun r_4 wM_6 H_5 locs hr_4 hM hP hD hS => ?_)
  have hP := wcomm hP
  have hD := wcommD hD
  refine lv_icmp_eq (tgt := 692) hx hb dL_law_259 (by decide) (fun _ => ?_) (fun c_ => absurd (Int32.toInt_inj.mp (hr_1.trans hr_4.symm)) c_)
  exact done _ _ _ _ _ _ _ _ hC hM (vOK_set ok) hP hD hS (lv_sub hl [0, 1, 2, 3] rfl) (by omega) (by omega)
