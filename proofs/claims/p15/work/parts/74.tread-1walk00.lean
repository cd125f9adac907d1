set_option maxHeartbeats 4000000 in
set_option maxRecDepth 100000 in
theorem c_markAtR (l : Launch) (D : va_G) (v : Int32) (w : Int32) : Met l yX3_markAt wsX3_markAt ({ frames := 0, cells := 0, slots := 0, locals := 0 }) (va_Pc [.int v, .int w] (wo D [] [])) (vp_Si (fun r => ((0 ≤ (v).toInt ∧ (v).toInt < 4096) ∧ (0 ≤ (w).toInt ∧ (w).toInt < 4)) → (r).toInt = pfx ((w).toInt.toNat + 1) (v).toInt % 8)) 0 0 (fun _ => False) := by
  refine Met.ofW (cc := cX3_markAt) (maxL := 2) (ret := (some .int)) (by decide) rfl ?_
  intro p e s m args below meth c s₁ B hml hv
  obtain ⟨rfl, hP, hK, hD, hN⟩ := hv
  have hx := B.exec
  have hb := B.bytes
  have hr := B.returns
  have hts := atoms_spec (ws := wsX3_markAt) B.pre
  have hown : s.vm.findClass RX3 = some m.cls := findClass_of_methodNamed B.named
  have hlocks := B.notSynchronized
  have hl := lv_entry ([.int v, .int w]) (n := 2) (Nat.le_of_ble_eq_true rfl)
  rw [lg_entry_eq]
  generalize (lg_sl ([.int v, .int w]) ++ List.replicate (2 - (lg_sl ([.int v, .int w])).length) Slot.unset).toArray = ls at hl ⊢
  have hl : lv_has ls 2 [(0, .int v), (1, .int w)] := hl
  refine lv_iload_n hx hb dX3_markAt_0 rfl (lv_at hl 0 rfl) ?_
  refine lv_iconst (v := 3) hx hb dX3_markAt_1 (by decide) ?_
  refine lv_iconst (v := 3) hx hb dX3_markAt_2 (by decide) ?_
  refine lv_iload_n hx hb dX3_markAt_3 rfl (lv_at hl 1 rfl) ?_
  refine lv_isub hx hb dX3_markAt_4 ?_
  refine lv_topi (fun z_1 ez_1 => ?_)
  have tz_1 := sb_toInt (zx := 3) (zy := (w).toInt) ez_1 (by decide) rfl
  refine lv_imul hx hb dX3_markAt_5 ?_
  refine lv_topi (fun z_2 ez_2 => ?_)
  have tz_2 := ml_toInt (zx := 3) (zy := (z_1).toInt) ez_2 (by decide) rfl
  refine lv_ishr hx hb dX3_markAt_6 ?_
  refine lv_topi (fun z_3 ez_3 => ?_)
  refine lv_bipush (v := 7) hx hb dX3_markAt_7 (by decide) ?_
  refine lv_iand hx hb dX3_markAt_9 ?_
  refine lv_topi (fun z_4 ez_4 => ?_)
  exact W.iret (v := z_4) hx hb hr (fun t ht hW => ⟨z_4, rfl, (fun h9 => mk_at ez_1 ez_2 ez_3 ez_4 h9.1 h9.2), ht⟩) (fun q h => by cases h) dX3_markAt_10

set_option maxHeartbeats 4000000 in
set_option maxRecDepth 100000 in
theorem c_X3_oddsUpperR (l : Launch) (D : va_G) (X0 : va_W) (L : List Nat) (K : Nat → Nat × Nat) (f : Nat → va_E) (S : Int) (tys : List (ClassId × FieldType)) (a : Nat) (hI : cqI S L K f) (ha : cqIs L K 3 a) : Met l yX3_oddsUpper wsX3_oddsUpper ({ frames := 0, cells := 0, slots := 0, locals := 0 }) (va_Pc [.ref a] (wo D tys (X0 ++ va_pl L f))) (vp_Si (fun r => (cqF (f a) 6 = 0 ∧ (r).toInt = 1) ∨ (¬ cqF (f a) 6 = 0 ∧ (r).toInt = cqF (f a) 5))) 0 0 (fun _ => False) := by
  refine Met.ofW (cc := cX3_oddsUpper) (maxL := 1) (ret := (some .int)) (by decide) rfl ?_
  intro p e s m args below meth c s₁ B hml hv
  obtain ⟨rfl, hP, hK, hD, hN⟩ := hv
  have hx := B.exec
  have hb := B.bytes
  have hr := B.returns
  have hts := atoms_spec (ws := wsX3_oddsUpper) B.pre
  have hown : s.vm.findClass RX3 = some m.cls := findClass_of_methodNamed B.named
  have hlocks := B.notSynchronized
  have hin_X3 : ∀ w ∈ u_ws RX3 TX3 8, w ∈ wsX3_oddsUpper := fun w h => List.mem_cons_of_mem _ (List.mem_append_right _ (h))
  have hl := lv_entry ([.ref a]) (n := 1) (Nat.le_of_ble_eq_true rfl)
  rw [lg_entry_eq]
  generalize (lg_sl ([.ref a]) ++ List.replicate (1 - (lg_sl ([.ref a])).length) Slot.unset).toArray = ls at hl ⊢
  have hl : lv_has ls 1 [(0, .ref a)] := hl
  refine lv_aload_n hx hb dX3_oddsUpper_0 rfl (lv_at hl 0 rfl) ?_
  obtain ⟨pa_1, de_1, ma_1, sb_1, fc_1, tu_1, sd_1, op_1, hf_1, hpa_1, hsb_1, hfc_1⟩ := hI.opN ha
  have F1hf_1 : cqF (f a) 1 = (de_1).toInt := by rw [hf_1]; rfl
  have F2hf_1 : cqF (f a) 2 = (ma_1).toInt := by rw [hf_1]; rfl
  have F5hf_1 : cqF (f a) 5 = (tu_1).toInt := by rw [hf_1]; rfl
  have F6hf_1 : cqF (f a) 6 = (sd_1).toInt := by rw [hf_1]; rfl
  have F7hf_1 : cqF (f a) 7 = (op_1).toInt := by rw [hf_1]; rfl
  refine pl_get (D := D) (ci := 3) (v := .int sd_1) (C := RX3) (T := TX3) (N := 8) hx hb hts hin_X3 hown hK hP ha.1 hf_1 rfl 6 (by decide) (hts (.fieldLink RX3 42 "CryOrder$Node" "settled" "I") (List.mem_cons_of_mem _ (List.mem_append_left _ (List.mem_of_getElem? (i := 0) rfl)))) (fun _ h9 => h9) rfl dX3_oddsUpper_1 ?_
  refine bz_ne (zx := (sd_1).toInt) (tgt := 11) hx hb dX3_oddsUpper_4 (by decide) rfl (fun c_2 => ?_) (fun c_2 => ?_)
  · refine lv_aload_n hx hb dX3_oddsUpper_11 rfl (lv_at hl 0 rfl) ?_
    refine pl_get (D := D) (ci := 3) (v := .int tu_1) (C := RX3) (T := TX3) (N := 8) hx hb hts hin_X3 hown hK hP ha.1 hf_1 rfl 5 (by decide) (hts (.fieldLink RX3 45 "CryOrder$Node" "settledTrue" "I") (List.mem_cons_of_mem _ (List.mem_append_left _ (List.mem_of_getElem? (i := 1) rfl)))) (fun _ h9 => h9) rfl dX3_oddsUpper_12 ?_
    exact W.iret (v := tu_1) hx hb hr (fun t ht hW => ⟨tu_1, rfl, (Or.inr ⟨by omega, by omega⟩), ht⟩) (fun q h => by cases h) dX3_oddsUpper_15
  · refine lv_iconst (v := 1) hx hb dX3_oddsUpper_7 (by decide) ?_
    refine lv_goto (tgt := 15) hx hb dX3_oddsUpper_8 (by decide) ?_
    exact W.iret (v := 1) hx hb hr (fun t ht hW => ⟨1, rfl, (Or.inl ⟨by omega, by decide⟩), ht⟩) (fun q h => by cases h) dX3_oddsUpper_15

set_option maxHeartbeats 4000000 in
set_option maxRecDepth 100000 in
theorem c_X3_oddsLowerR (l : Launch) (D : va_G) (X0 : va_W) (L : List Nat) (K : Nat → Nat × Nat) (f : Nat → va_E) (S : Int) (tys : List (ClassId × FieldType)) (a : Nat) (hI : cqI S L K f) (ha : cqIs L K 3 a) : Met l yX3_oddsLower wsX3_oddsLower ({ frames := 0, cells := 0, slots := 0, locals := 0 }) (va_Pc [.ref a] (wo D tys (X0 ++ va_pl L f))) (vp_Si (fun r => (cqF (f a) 6 = 0 ∧ (r).toInt = 2) ∨ (¬ cqF (f a) 6 = 0 ∧ (r).toInt = cqF (f a) 6))) 0 0 (fun _ => False) := by
  refine Met.ofW (cc := cX3_oddsLower) (maxL := 1) (ret := (some .int)) (by decide) rfl ?_
  intro p e s m args below meth c s₁ B hml hv
  obtain ⟨rfl, hP, hK, hD, hN⟩ := hv
  have hx := B.exec
  have hb := B.bytes
  have hr := B.returns
  have hts := atoms_spec (ws := wsX3_oddsLower) B.pre
  have hown : s.vm.findClass RX3 = some m.cls := findClass_of_methodNamed B.named
  have hlocks := B.notSynchronized
  have hin_X3 : ∀ w ∈ u_ws RX3 TX3 8, w ∈ wsX3_oddsLower := fun w h => List.mem_cons_of_mem _ (List.mem_append_right _ (h))
  have hl := lv_entry ([.ref a]) (n := 1) (Nat.le_of_ble_eq_true rfl)
  rw [lg_entry_eq]
  generalize (lg_sl ([.ref a]) ++ List.replicate (1 - (lg_sl ([.ref a])).length) Slot.unset).toArray = ls at hl ⊢
  have hl : lv_has ls 1 [(0, .ref a)] := hl
  refine lv_aload_n hx hb dX3_oddsLower_0 rfl (lv_at hl 0 rfl) ?_
  obtain ⟨pa_1, de_1, ma_1, sb_1, fc_1, tu_1, sd_1, op_1, hf_1, hpa_1, hsb_1, hfc_1⟩ := hI.opN ha
  have F1hf_1 : cqF (f a) 1 = (de_1).toInt := by rw [hf_1]; rfl
  have F2hf_1 : cqF (f a) 2 = (ma_1).toInt := by rw [hf_1]; rfl
  have F5hf_1 : cqF (f a) 5 = (tu_1).toInt := by rw [hf_1]; rfl
  have F6hf_1 : cqF (f a) 6 = (sd_1).toInt := by rw [hf_1]; rfl
  have F7hf_1 : cqF (f a) 7 = (op_1).toInt := by rw [hf_1]; rfl
  refine pl_get (D := D) (ci := 3) (v := .int sd_1) (C := RX3) (T := TX3) (N := 8) hx hb hts hin_X3 hown hK hP ha.1 hf_1 rfl 6 (by decide) (hts (.fieldLink RX3 42 "CryOrder$Node" "settled" "I") (List.mem_cons_of_mem _ (List.mem_append_left _ (List.mem_of_getElem? (i := 0) rfl)))) (fun _ h9 => h9) rfl dX3_oddsLower_1 ?_
  refine bz_ne (zx := (sd_1).toInt) (tgt := 11) hx hb dX3_oddsLower_4 (by decide) rfl (fun c_2 => ?_) (fun c_2 => ?_)
  · refine lv_aload_n hx hb dX3_oddsLower_11 rfl (lv_at hl 0 rfl) ?_
    refine pl_get (D := D) (ci := 3) (v := .int sd_1) (C := RX3) (T := TX3) (N := 8) hx hb hts hin_X3 hown hK hP ha.1 hf_1 rfl 6 (by decide) (hts (.fieldLink RX3 42 "CryOrder$Node" "settled" "I") (List.mem_cons_of_mem _ (List.mem_append_left _ (List.mem_of_getElem? (i := 0) rfl)))) (fun _ h9 => h9) rfl dX3_oddsLower_12 ?_
    exact W.iret (v := sd_1) hx hb hr (fun t ht hW => ⟨sd_1, rfl, (Or.inr ⟨by omega, by omega⟩), ht⟩) (fun q h => by cases h) dX3_oddsLower_15
  · refine lv_iconst (v := 2) hx hb dX3_oddsLower_7 (by decide) ?_
    refine lv_goto (tgt := 15) hx hb dX3_oddsLower_8 (by decide) ?_
    exact W.iret (v := 2) hx hb hr (fun t ht hW => ⟨2, rfl, (Or.inl ⟨by omega, by decide⟩), ht⟩) (fun q h => by cases h) dX3_oddsLower_15

set_option maxHeartbeats 4000000 in
set_option maxRecDepth 100000 in
theorem tl_child {p : Program} {l : Launch} {e : Env} {R : Room} {s : State} {m : MethodId} {args : Array Value} {below : List Frame} {meth : Method} {c : Code} {Q : State → Prop} {A : Nat → Prop} {cells slots : Nat} {D : va_G} {H : Heap} {locs : List Loc} {X0 : va_W} {L : List Nat} {K : Nat → Nat × Nat} {f : Nat → va_E} {S : Int} {tys : List (ClassId × FieldType)} {a : Nat} {v : Int32} {r9 : Option Nat} (hx : p.tables.exec = Jvm.exec) (hb : c.code = cX3_child) (hts : ∀ w ∈ wsX3_child, w.before args s = true) (hml : c.maxLocals = 3) (hown : s.vm.findClass RX3 = some m.cls) (hN : Nq s) (hK : va_K D vwCl tys s) (hP : va_P D vwCl (X0 ++ va_pl L f) H) (hD : va_D A (X0 ++ va_pl L f)) (hR : 0 ≤ R.frames ∧ 0 ≤ R.locals) (hcs : cells ≤ R.cells ∧ slots ≤ R.slots) (hI : cqI S L K f) (done_25 : ∀ (ea : Option Nat) (ls : Array Slot), (cqOp L K 3 ea) → (r9 = ea) → lv_has ls 3 [(2, va_rf ea), (0, .ref a), (1, .int v)] → W p l e R s m args below meth c H locs cells slots Q (F0 m 25 ls [])) : ∀ (n : Nat), ∀ (ea : Option Nat) (j : Nat) (lc : List Nat) (ls : Array Slot), (cqLo L K 3 ea j) → (lnk f lc ea) → (r9 = chF f (v).toInt lc) → (j < n) → lv_has ls 3 [(2, va_rf ea), (0, .ref a), (1, .int v)] → W p l e R s m args below meth c H locs cells slots Q (F0 m 5 ls []) := by
  have hin_X3 : ∀ w ∈ u_ws RX3 TX3 8, w ∈ wsX3_child := fun w h => List.mem_cons_of_mem _ (List.mem_append_right _ (h))
  intro n
  induction n with
  | zero => intro ea j lc ls hlo hlk hch hmu hl; exact absurd hmu (Nat.not_lt_zero _)
  | succ n ih =>
    intro ea j lc ls hlo hlk hch hmu hl
    refine q_aload_n hx hb dX3_child_5 rfl (lv_at hl 0 rfl) ?_
    rcases ea with _ | b_1
    · have hl : lv_has ls 3 [(2, .null), (0, .ref a), (1, .int v)] := hl
      refine lv_ifnullN (tgt := 25) hx hb dX3_child_6 (by decide) ?_
      exact done_25 none _ cqOp.none (hch.trans (by rw [lnk_none hlk]; rfl)) (lv_sub hl [0, 1, 2] rfl)
    · have hl : lv_has ls 3 [(2, .ref b_1), (0, .ref a), (1, .int v)] := hl
      obtain ⟨is_2, lis_2⟩ := hlo b_1 rfl
      refine lv_ifnull hx hb dX3_child_6 ?_
      obtain ⟨lc2, el2, hlk2⟩ := lnk_some hlk
      refine lv_aload_n hx hb dX3_child_9 rfl (lv_at hl 0 rfl) ?_
      obtain ⟨pa_3, de_3, ma_3, sb_3, fc_3, tu_3, sd_3, op_3, hf_3, hpa_3, hsb_3, hfc_3⟩ := hI.opN is_2
      have F1hf_3 : cqF (f b_1) 1 = (de_3).toInt := by rw [hf_3]; rfl
      have F2hf_3 : cqF (f b_1) 2 = (ma_3).toInt := by rw [hf_3]; rfl
      have F5hf_3 : cqF (f b_1) 5 = (tu_3).toInt := by rw [hf_3]; rfl
      have F6hf_3 : cqF (f b_1) 6 = (sd_3).toInt := by rw [hf_3]; rfl
      have F7hf_3 : cqF (f b_1) 7 = (op_3).toInt := by rw [hf_3]; rfl
      refine pl_get (D := D) (ci := 3) (v := .int ma_3) (C := RX3) (T := TX3) (N := 8) hx hb hts hin_X3 hown hK hP is_2.1 hf_3 rfl 2 (by decide) (hts (.fieldLink RX3 19 "CryOrder$Node" "mark" "I") (List.mem_cons_of_mem _ (List.mem_append_left _ (List.mem_of_getElem? (i := 1) rfl)))) (fun _ h9 => h9) rfl dX3_child_10 ?_
      refine lv_iload_n hx hb dX3_child_13 rfl (lv_at hl 2 rfl) ?_
      refine bi_eq (zx := (ma_3).toInt) (zy := (v).toInt) (tgt := 25) hx hb dX3_child_14 (by decide) rfl rfl (fun c_4 => ?_) (fun c_4 => ?_)
      · exact done_25 (some b_1) _ (cqOp.some is_2) (hch.trans (by rw [el2]; exact if_pos (by omega))) (lv_sub hl [0, 1, 2] rfl)
      · refine lv_aload_n hx hb dX3_child_17 rfl (lv_at hl 0 rfl) ?_
        refine pl_get (D := D) (ci := 3) (v := va_rf sb_3) (C := RX3) (T := TX3) (N := 8) hx hb hts hin_X3 hown hK hP is_2.1 hf_3 rfl 3 (by decide) (hts (.fieldLink RX3 22 "CryOrder$Node" "sibling" "LCryOrder$Node;") (List.mem_cons_of_mem _ (List.mem_append_left _ (List.mem_of_getElem? (i := 2) rfl)))) (fun _ h9 => h9) rfl dX3_child_18 ?_
        refine q_astore_n (r := sb_3) (lv' := [(2, va_rf sb_3), (0, .ref a), (1, .int v)]) hx hb dX3_child_21 rfl hl (by decide) rfl (fun ls hl => ?_)
        refine lv_goto (tgt := 5) hx hb dX3_child_22 (by decide) ?_
        exact ih sb_3 ((K b_1).2) lc2 _ hsb_3 (by rw [← cqRf_of (e := f b_1) (k := 3) (v := sb_3) (by rw [hf_3]; rfl)]; exact hlk2) (hch.trans (by rw [el2]; exact if_neg (by omega))) (by omega) (lv_sub hl [0, 1, 2] rfl)

set_option maxHeartbeats 4000000 in
set_option maxRecDepth 100000 in
theorem c_X3_childR (l : Launch) (D : va_G) (X0 : va_W) (L : List Nat) (K : Nat → Nat × Nat) (f : Nat → va_E) (S : Int) (tys : List (ClassId × FieldType)) (a : Nat) (v : Int32) (lc : List Nat) (hI : cqI S L K f) (ha : cqIs L K 3 a) (hlk : lnk f lc (cqRf (f a) 4)) : Met l yX3_child wsX3_child ({ frames := 0, cells := 0, slots := 0, locals := 0 }) (va_Pc [.ref a, .int v] (wo D tys (X0 ++ va_pl L f))) (va_Sq (fun r => cqOp L K 3 r ∧ r = chF f (v).toInt lc)) 0 0 (fun _ => False) := by
  refine Met.ofW (cc := cX3_child) (maxL := 3) (ret := (some (.object "CryOrder$Node"))) (by decide) rfl ?_
  intro p e s m args below meth c s₁ B hml hv
  obtain ⟨rfl, hP, hK, hD, hN⟩ := hv
  have hx := B.exec
  have hb := B.bytes
  have hr := B.returns
  have hts := atoms_spec (ws := wsX3_child) B.pre
  have hown : s.vm.findClass RX3 = some m.cls := findClass_of_methodNamed B.named
  have hlocks := B.notSynchronized
  have hin_X3 : ∀ w ∈ u_ws RX3 TX3 8, w ∈ wsX3_child := fun w h => List.mem_cons_of_mem _ (List.mem_append_right _ (h))
  have hl := lv_entry ([.ref a, .int v]) (n := 3) (Nat.le_of_ble_eq_true rfl)
  rw [lg_entry_eq]
  generalize (lg_sl ([.ref a, .int v]) ++ List.replicate (3 - (lg_sl ([.ref a, .int v])).length) Slot.unset).toArray = ls at hl ⊢
  have hl : lv_has ls 3 [(0, .ref a), (1, .int v)] := hl
  refine lv_aload_n hx hb dX3_child_0 rfl (lv_at hl 0 rfl) ?_
  obtain ⟨pa_1, de_1, ma_1, sb_1, fc_1, tu_1, sd_1, op_1, hf_1, hpa_1, hsb_1, hfc_1⟩ := hI.opN ha
  have F1hf_1 : cqF (f a) 1 = (de_1).toInt := by rw [hf_1]; rfl
  have F2hf_1 : cqF (f a) 2 = (ma_1).toInt := by rw [hf_1]; rfl
  have F5hf_1 : cqF (f a) 5 = (tu_1).toInt := by rw [hf_1]; rfl
  have F6hf_1 : cqF (f a) 6 = (sd_1).toInt := by rw [hf_1]; rfl
  have F7hf_1 : cqF (f a) 7 = (op_1).toInt := by rw [hf_1]; rfl
  refine pl_get (D := D) (ci := 3) (v := va_rf fc_1) (C := RX3) (T := TX3) (N := 8) hx hb hts hin_X3 hown hK hP ha.1 hf_1 rfl 4 (by decide) (hts (.fieldLink RX3 25 "CryOrder$Node" "firstChild" "LCryOrder$Node;") (List.mem_cons_of_mem _ (List.mem_append_left _ (List.mem_of_getElem? (i := 0) rfl)))) (fun _ h9 => h9) rfl dX3_child_1 ?_
  refine q_astore_n (r := fc_1) (lv' := [(2, va_rf fc_1), (0, .ref a), (1, .int v)]) hx hb dX3_child_4 rfl hl (by decide) rfl (fun ls hl => ?_)
  obtain ⟨j_2, hj_2⟩ := cq_lo hfc_1
  refine tl_child hx hb hts hml hown hN hK hP hD ⟨(Nat.le_of_ble_eq_true rfl), (Nat.le_of_ble_eq_true rfl)⟩ ⟨(Nat.le_of_ble_eq_true rfl), (Nat.le_of_ble_eq_true rfl)⟩ hI (fun ea_3 ls h_5 h_6 hl => ?_) _ fc_1 j_2 lc _ hj_2 (by rw [← cqRf_of (e := f a) (k := 4) (v := fc_1) (by rw [hf_1]; rfl)]; exact hlk) rfl (Nat.lt_succ_self _) (lv_sub hl [0, 1, 2] rfl)
  have h_5 : cqOp L K 3 ea_3 := h_5
  have h_6 : (chF f (v).toInt lc) = ea_3 := h_6
  refine q_aload_n hx hb dX3_child_25 rfl (lv_at hl 0 rfl) ?_
  exact W.aret (v := va_rf ea_3) hx hb hr (Or.inl ⟨_, rfl⟩) (va_rf_or ea_3) (fun t ht hW => ⟨ea_3, rfl, ⟨h_5, h_6.symm⟩, ht⟩) (fun q h => by cases h) dX3_child_26

set_option maxHeartbeats 4000000 in
set_option maxRecDepth 100000 in
theorem tl_find {p : Program} {l : Launch} {e : Env} {R : Room} {s : State} {m : MethodId} {args : Array Value} {below : List Frame} {meth : Method} {c : Code} {Q : State → Prop} {A : Nat → Prop} {cells slots : Nat} {D : va_G} {H : Heap} {locs : List Loc} {X0 : va_W} {L : List Nat} {K : Nat → Nat × Nat} {f : Nat → va_E} {S : Int} {tys : List (ClassId × FieldType)} {a : Nat} {v : Int32} {w : Int32} {ro : Nat} {Nd : Nat → Int → Option Nat} {V : Nat → Nat → Int} {nn : Nat} (hx : p.tables.exec = Jvm.exec) (hb : c.code = cX3_find) (hts : ∀ w ∈ wsX3_find, w.before args s = true) (hml : c.maxLocals = 5) (hown : s.vm.findClass RX3 = some m.cls) (hN : Nq s) (hK : va_K D vwCl tys s) (hP : va_P D vwCl (X0 ++ va_pl L f) H) (hD : va_D A (X0 ++ va_pl L f)) (hR : 1 ≤ R.frames ∧ 22 ≤ R.locals) (hcs : cells ≤ R.cells ∧ slots ≤ R.slots) (hI : cqI S L K f) (hv : 0 ≤ (v).toInt ∧ (v).toInt ≤ 4) (hw : 0 ≤ (w).toInt ∧ (w).toInt < 4096) (hTR : tR L K f ro Nd V nn) (done_32 : ∀ (d : Int32) (at1 : Option Nat) (ls : Array Slot), (cqOp L K 3 at1) → (at1 = Nd (v).toInt.toNat (pfx (v).toInt.toNat (w).toInt)) → lv_has ls 5 [(4, .int d), (3, va_rf at1), (0, .ref a), (1, .int v), (2, .int w)] → W p l e R s m args below meth c H locs cells slots Q (F0 m 32 ls [])) : ∀ (n : Nat), ∀ (d : Int32) (at1 : Option Nat) (ls : Array Slot), (0 ≤ (d).toInt ∧ (d).toInt ≤ (v).toInt) → (cqOp L K 3 at1) → (at1 = Nd (d).toInt.toNat (pfx (d).toInt.toNat (w).toInt)) → ((4 - (d).toInt).toNat < n) → lv_has ls 5 [(4, .int d), (3, va_rf at1), (0, .ref a), (1, .int v), (2, .int w)] → W p l e R s m args below meth c H locs cells slots Q (F0 m 5 ls []) := by
  intro n
  induction n with
  | zero => intro d at1 ls hd hop hat hmu hl; exact absurd hmu (Nat.not_lt_zero _)
  | succ n ih =>
    intro d at1 ls hd hop hat hmu hl
    refine lv_iload hx hb dX3_find_5 (lv_at hl 0 rfl) ?_
    refine lv_iload_n hx hb dX3_find_7 rfl (lv_at hl 3 rfl) ?_
    refine bi_ge (zx := (d).toInt) (zy := (v).toInt) (tgt := 32) hx hb dX3_find_8 (by decide) rfl rfl (fun c_1 => ?_) (fun c_1 => ?_)
    · exact done_32 d at1 _ hop (by rw [show (v).toInt = (d).toInt by omega]; exact hat) (lv_sub hl [0, 1, 2, 3, 4] rfl)
    · refine q_aload_n hx hb dX3_find_11 rfl (lv_at hl 1 rfl) ?_
      rcases at1 with _ | b_2
      · have hl : lv_has ls 5 [(4, .int d), (3, .null), (0, .ref a), (1, .int v), (2, .int w)] := hl
        refine lv_ifnullN (tgt := 32) hx hb dX3_find_12 (by decide) ?_
        exact done_32 d none _ cqOp.none (by have h8 := hTR.gone (d := (d).toInt.toNat) hat.symm ((v).toInt.toNat - (d).toInt.toNat) (by omega); rw [show (d).toInt.toNat + ((v).toInt.toNat - (d).toInt.toNat) = (v).toInt.toNat by omega] at h8; exact h8.symm) (lv_sub hl [0, 1, 2, 3, 4] rfl)
      · have hl : lv_has ls 5 [(4, .int d), (3, .ref b_2), (0, .ref a), (1, .int v), (2, .int w)] := hl
        have is_3 := hop b_2 rfl
        refine lv_ifnull hx hb dX3_find_12 ?_
        refine lv_aload_n hx hb dX3_find_15 rfl (lv_at hl 1 rfl) ?_
        refine lv_iload_n hx hb dX3_find_16 rfl (lv_at hl 4 rfl) ?_
        refine lv_iload hx hb dX3_find_17 (lv_at hl 0 rfl) ?_
        obtain ⟨lc_b_2, l1_b_2, l2_b_2, l3_b_2⟩ := hTR.2.2.2.1 _ _ b_2 hat.symm (by omega)
        refine vp_callSi (zrS (As := [.int w, .int d]) (rest := [.ref b_2]) (wc := []) ⟨hx, hb, hml, hown, hts⟩ hN hK hP hD (c_markAtR l D w d ) (va_cwS 2 hts gX3_find_X3_markAt rfl rfl rfl (by decide +kernel) ⟨Nat.le_trans (m := 1) (Nat.le_of_ble_eq_true rfl) hR.1, Nat.le_trans (m := 22) (Nat.le_of_ble_eq_true rfl) hR.2⟩) [] [] rfl rfl (by decide) rfl hl.1 rfl (Nat.le_of_ble_eq_true rfl) dX3_find_19 ⟨hcs.1, hcs.2⟩) (fun r_4 h_5 => ?_)
        have h_5 : ((0 ≤ (w).toInt ∧ (w).toInt < 4096) ∧ (0 ≤ (d).toInt ∧ (d).toInt < 4)) → (r_4).toInt = pfx ((d).toInt.toNat + 1) (w).toInt % 8 := h_5
        refine va_csq (wrV (As := [.int r_4]) (rest := []) ⟨hx, hb, hml, hown, hts⟩ hN hK hP hD (c_X3_childR l D X0 L K f S tys b_2 r_4 lc_b_2 hI is_3 l1_b_2) (cwV 1 hts gX3_find_X3_child rfl rfl rfl (by decide +kernel) ⟨Nat.le_trans (m := 1) (Nat.le_of_ble_eq_true rfl) hR.1, Nat.le_trans (m := 22) (Nat.le_of_ble_eq_true rfl) hR.2⟩) 3 rfl (cq_rcN (X := X0) hI is_3) rfl hl.1 rfl (Nat.le_of_ble_eq_true rfl) dX3_find_22 ⟨hcs.1, hcs.2⟩) (fun r_6 h_7 => ?_)
        obtain ⟨h_7, xh_7⟩ := h_7
        have h_7 : cqOp L K 3 r_6 := h_7
        have xh_7 : r_6 = chF f (r_4).toInt lc_b_2 := xh_7
        refine q_astore_n (r := r_6) (lv' := [(3, va_rf r_6), (4, .int d), (0, .ref a), (1, .int v), (2, .int w)]) hx hb dX3_find_25 rfl hl (by decide) rfl (fun ls hl => ?_)
        obtain ⟨x_8, ex_8⟩ : ∃ z : Int32, z = d + 1 := ⟨_, rfl⟩
        have tx_8 := ad_toInt (x := d) (y := 1) (z := x_8) (zx := (d).toInt) (zy := 1) ex_8 rfl (by decide)
        refine lv_iinc (v := x_8) (lv' := [(4, .int x_8), (3, va_rf r_6), (0, .ref a), (1, .int v), (2, .int w)]) hx hb dX3_find_26 hl (k := 1) rfl (by rw [ex_8]; rfl) (by decide) (by cases r_6 <;> rfl) (fun ls hl => ?_)
        refine lv_goto (tgt := 5) hx hb dX3_find_29 (by decide) ?_
        exact ih x_8 r_6 _ (by first | omega | assumption | decide | (have h3 : (0 : Int32).toInt = 0 := rfl; omega) | (have h3 : (0 : Int32).toInt = 0 := rfl; have h4 : (1 : Int32).toInt = 1 := rfl; have h5 : (-1 : Int32).toInt = -1 := rfl; omega)) h_7 (by rw [xh_7, h_5 (by omega), show (x_8).toInt.toNat = (d).toInt.toNat + 1 by omega, l3_b_2 _ (by omega) (by omega)]; congr 1; have h9 := pfx_up (d := (d).toInt.toNat) (m := (w).toInt) (by omega); omega) (by omega) (lv_sub hl [0, 1, 2, 3, 4] rfl)

set_option maxHeartbeats 4000000 in
set_option maxRecDepth 100000 in
theorem c_X3_findR (l : Launch) (D : va_G) (X0 : va_W) (L : List Nat) (K : Nat → Nat × Nat) (f : Nat → va_E) (S : Int) (tys : List (ClassId × FieldType)) (a : Nat) (v : Int32) (w : Int32) (ro : Nat) (Nd : Nat → Int → Option Nat) (V : Nat → Nat → Int) (nn : Nat) (hI : cqI S L K f) (ha : cqIs L K 3 a) (hv : 0 ≤ (v).toInt ∧ (v).toInt ≤ 4) (hw : 0 ≤ (w).toInt ∧ (w).toInt < 4096) (hTR : tR L K f ro Nd V nn) (ha0 : Nd 0 0 = some a) : Met l yX3_find wsX3_find ({ frames := 1, cells := 0, slots := 0, locals := 22 }) (va_Pc [.ref a, .int v, .int w] (wo D tys (X0 ++ va_pl L f))) (va_Sq (fun r => cqOp L K 3 r ∧ r = Nd (v).toInt.toNat (pfx (v).toInt.toNat (w).toInt))) 0 0 (fun _ => False) := by
  refine Met.ofW (cc := cX3_find) (maxL := 5) (ret := (some (.object "CryOrder$Node"))) (by decide) rfl ?_
  intro p e s m args below meth c s₁ B hml hv
  obtain ⟨rfl, hP, hK, hD, hN⟩ := hv
  have hx := B.exec
  have hb := B.bytes
  have hr := B.returns
  have hts := atoms_spec (ws := wsX3_find) B.pre
  have hown : s.vm.findClass RX3 = some m.cls := findClass_of_methodNamed B.named
  have hlocks := B.notSynchronized
  have hl := lv_entry ([.ref a, .int v, .int w]) (n := 5) (Nat.le_of_ble_eq_true rfl)
  rw [lg_entry_eq]
  generalize (lg_sl ([.ref a, .int v, .int w]) ++ List.replicate (5 - (lg_sl ([.ref a, .int v, .int w])).length) Slot.unset).toArray = ls at hl ⊢
  have hl : lv_has ls 5 [(0, .ref a), (1, .int v), (2, .int w)] := hl
  refine lv_aload_n hx hb dX3_find_0 rfl (lv_at hl 0 rfl) ?_
  refine lv_astore_n (lv' := [(3, .ref a), (0, .ref a), (1, .int v), (2, .int w)]) hx hb dX3_find_1 rfl hl (by decide) rfl (fun ls hl => ?_)
  refine lv_iconst (v := 0) hx hb dX3_find_2 (by decide) ?_
  refine lv_istore (lv' := [(4, .int 0), (3, .ref a), (0, .ref a), (1, .int v), (2, .int w)]) hx hb dX3_find_3 hl (by decide) rfl (fun ls hl => ?_)
  refine tl_find hx hb hts hml hown hN hK hP hD ⟨(Nat.le_of_ble_eq_true rfl), (Nat.le_of_ble_eq_true rfl)⟩ ⟨(Nat.le_of_ble_eq_true rfl), (Nat.le_of_ble_eq_true rfl)⟩ hI (by first | omega | assumption | decide | (have h3 : (0 : Int32).toInt = 0 := rfl; omega) | (have h3 : (0 : Int32).toInt = 0 := rfl; have h4 : (1 : Int32).toInt = 1 := rfl; have h5 : (-1 : Int32).toInt = -1 := rfl; omega)) (by first | omega | assumption | decide | (have h3 : (0 : Int32).toInt = 0 := rfl; omega) | (have h3 : (0 : Int32).toInt = 0 := rfl; have h4 : (1 : Int32).toInt = 1 := rfl; have h5 : (-1 : Int32).toInt = -1 := rfl; omega)) (by first | omega | assumption | decide | (have h3 : (0 : Int32).toInt = 0 := rfl; omega) | (have h3 : (0 : Int32).toInt = 0 := rfl; have h4 : (1 : Int32).toInt = 1 := rfl; have h5 : (-1 : Int32).toInt = -1 := rfl; omega)) (fun d_1 at_2 ls h_4 h_5 hl => ?_) _ 0 (some a) _ (by first | omega | assumption | decide | (have h3 : (0 : Int32).toInt = 0 := rfl; omega) | (have h3 : (0 : Int32).toInt = 0 := rfl; have h4 : (1 : Int32).toInt = 1 := rfl; have h5 : (-1 : Int32).toInt = -1 := rfl; omega)) (cqOp.some ha) (show some a = Nd 0 (pfx 0 (w).toInt) by rw [pfx_0 hw]; exact ha0.symm) (Nat.lt_succ_self _) (lv_sub hl [0, 1, 2, 3, 4] rfl)
  have h_4 : cqOp L K 3 at_2 := h_4
  have h_5 : at_2 = Nd (v).toInt.toNat (pfx (v).toInt.toNat (w).toInt) := h_5
  refine q_aload_n hx hb dX3_find_32 rfl (lv_at hl 1 rfl) ?_
  exact W.aret (v := va_rf at_2) hx hb hr (Or.inl ⟨_, rfl⟩) (va_rf_or at_2) (fun t ht hW => ⟨at_2, rfl, ⟨h_4, h_5⟩, ht⟩) (fun q h => by cases h) dX3_find_33

set_option maxHeartbeats 4000000 in
set_option maxRecDepth 100000 in
theorem tl_nodeFor {p : Program} {l : Launch} {e : Env} {R : Room} {s : State} {m : MethodId} {args : Array Value} {below : List Frame} {meth : Method} {c : Code} {Q : State → Prop} {A : Nat → Prop} {cells slots : Nat} {D : va_G} {H : Heap} {locs : List Loc} {X0 : va_W} {L : List Nat} {K : Nat → Nat × Nat} {f : Nat → va_E} {S : Int} {tys : List (ClassId × FieldType)} {a : Nat} {v : Int32} {ro : Nat} {Nd : Nat → Int → Option Nat} {V : Nat → Nat → Int} {nn : Nat} {mk : Int} (hx : p.tables.exec = Jvm.exec) (hb : c.code = cX0_nodeFor) (hts : ∀ w ∈ wsX0_nodeFor, w.before args s = true) (hml : c.maxLocals = 3) (hown : s.vm.findClass RX0 = some m.cls) (hN : Nq s) (hK : va_K D vwCl tys s) (hP : va_P D vwCl (X0 ++ va_pl L f) H) (hD : va_D A (X0 ++ va_pl L f)) (hR : 0 ≤ R.frames ∧ 0 ≤ R.locals) (hcs : cells ≤ R.cells ∧ slots ≤ R.slots) (hI : cqI S L K f) (hTR : tR L K f ro Nd V nn) (done_28 : ∀ (at1 : Nat) (dd : Nat) (ls : Array Slot), (cqIs L K 3 at1) → (Nd dd (pfx dd mk) = some at1) → (dd = dpF V nn mk (v).toInt 4) → lv_has ls 3 [(2, .ref at1), (0, .ref a), (1, .int v)] → W p l e R s m args below meth c H locs cells slots Q (F0 m 28 ls [])) : ∀ (n : Nat), ∀ (at1 : Nat) (dd : Nat) (ls : Array Slot), (cqIs L K 3 at1) → (Nd dd (pfx dd mk) = some at1) → (∀ e, dd < e → e ≤ 4 → ctF (kC V 6 e (pfx e mk)) nn < (v).toInt) → ((K at1).2 < n) → lv_has ls 3 [(2, .ref at1), (0, .ref a), (1, .int v)] → W p l e R s m args below meth c H locs cells slots Q (F0 m 5 ls []) := by
  have hin_X3 : ∀ w ∈ u_ws RX3 TX3 8, w ∈ wsX0_nodeFor := fun w h => List.mem_cons_of_mem _ (List.mem_append_right _ (h))
  intro n
  induction n with
  | zero => intro at1 dd ls hat3 hat hdp hmu hl; exact absurd hmu (Nat.not_lt_zero _)
  | succ n ih =>
    intro at1 dd ls hat3 hat hdp hmu hl
    refine lv_aload_n hx hb dX0_nodeFor_5 rfl (lv_at hl 0 rfl) ?_
    obtain ⟨pa_1, de_1, ma_1, sb_1, fc_1, tu_1, sd_1, op_1, hf_1, hpa_1, hsb_1, hfc_1⟩ := hI.opN hat3
    have F1hf_1 : cqF (f at1) 1 = (de_1).toInt := by rw [hf_1]; rfl
    have F2hf_1 : cqF (f at1) 2 = (ma_1).toInt := by rw [hf_1]; rfl
    have F5hf_1 : cqF (f at1) 5 = (tu_1).toInt := by rw [hf_1]; rfl
    have F6hf_1 : cqF (f at1) 6 = (sd_1).toInt := by rw [hf_1]; rfl
    have F7hf_1 : cqF (f at1) 7 = (op_1).toInt := by rw [hf_1]; rfl
    refine pl_get (D := D) (ci := 3) (v := .int sd_1) (C := RX3) (T := TX3) (N := 8) hx hb hts hin_X3 hown hK hP hat3.1 hf_1 rfl 6 (by decide) (hts (.fieldLink RX0 78 "CryOrder$Node" "settled" "I") (List.mem_cons_of_mem _ (List.mem_append_left _ (List.mem_append_left _ (List.mem_of_getElem? (i := 1) rfl))))) (fun _ h9 => h9) rfl dX0_nodeFor_6 ?_
    refine lv_iload_n hx hb dX0_nodeFor_9 rfl (lv_at hl 2 rfl) ?_
    refine bi_ge (zx := (sd_1).toInt) (zy := (v).toInt) (tgt := 28) hx hb dX0_nodeFor_10 (by decide) rfl rfl (fun c_2 => ?_) (fun c_2 => ?_)
    · exact done_28 at1 dd _ hat3 hat (dpF_of (hTR.2.1 _ _ at1 hat).1 hdp (by have n6 := (hTR.2.1 _ _ at1 hat).2.2.2 6 (by decide); exact Or.inl (by rw [← n6]; omega))) (lv_sub hl [0, 1, 2] rfl)
    · refine lv_aload_n hx hb dX0_nodeFor_13 rfl (lv_at hl 0 rfl) ?_
      refine pl_get (D := D) (ci := 3) (v := va_rf pa_1) (C := RX3) (T := TX3) (N := 8) hx hb hts hin_X3 hown hK hP hat3.1 hf_1 rfl 0 (by decide) (hts (.fieldLink RX0 83 "CryOrder$Node" "parent" "LCryOrder$Node;") (List.mem_cons_of_mem _ (List.mem_append_left _ (List.mem_append_left _ (List.mem_of_getElem? (i := 2) rfl))))) (fun _ h9 => h9) rfl dX0_nodeFor_14 ?_
      rcases pa_1 with _ | b_3
      · have hf_1 : f at1 = .inr (3, [.null, .int de_1, .int ma_1, va_rf sb_1, va_rf fc_1, .int tu_1, .int sd_1, .int op_1]) := hf_1
        refine lv_ifnullN (tgt := 28) hx hb dX0_nodeFor_17 (by decide) ?_
        exact done_28 at1 dd _ hat3 hat (dpF_of (hTR.2.1 _ _ at1 hat).1 hdp (by have n6 := (hTR.2.1 _ _ at1 hat).2.2.2 6 (by decide); exact Or.inr (hTR.top hat (cqRf_of (v := none) (by rw [hf_1]; rfl))))) (lv_sub hl [0, 1, 2] rfl)
      · have hf_1 : f at1 = .inr (3, [.ref b_3, .int de_1, .int ma_1, va_rf sb_1, va_rf fc_1, .int tu_1, .int sd_1, .int op_1]) := hf_1
        obtain ⟨is_4, lis_4⟩ := hpa_1 b_3 rfl
        refine lv_ifnull hx hb dX0_nodeFor_17 ?_
        refine lv_aload_n hx hb dX0_nodeFor_20 rfl (lv_at hl 0 rfl) ?_
        refine pl_get (D := D) (ci := 3) (v := .ref b_3) (C := RX3) (T := TX3) (N := 8) hx hb hts hin_X3 hown hK hP hat3.1 hf_1 rfl 0 (by decide) (hts (.fieldLink RX0 83 "CryOrder$Node" "parent" "LCryOrder$Node;") (List.mem_cons_of_mem _ (List.mem_append_left _ (List.mem_append_left _ (List.mem_of_getElem? (i := 2) rfl))))) (fun _ h9 => h9) rfl dX0_nodeFor_21 ?_
        refine lv_astore_n (lv' := [(2, .ref b_3), (0, .ref a), (1, .int v)]) hx hb dX0_nodeFor_24 rfl hl (by decide) rfl (fun ls hl => ?_)
        refine lv_goto (tgt := 5) hx hb dX0_nodeFor_25 (by decide) ?_
        exact ih b_3 (dd - 1) _ is_4 (hTR.par hat (cqRf_of (v := some b_3) (by rw [hf_1]; rfl))).2 (fun e h1 h2 => by have n6 := (hTR.2.1 _ _ at1 hat).2.2.2 6 (by decide); rcases Nat.eq_or_lt_of_le (show dd ≤ e by omega) with q9 | q9; (rw [← q9, ← n6]; omega); exact hdp e q9 h2) (by omega) (lv_sub hl [0, 1, 2] rfl)
