set_option maxHeartbeats 4000000 in
set_option maxRecDepth 100000 in
theorem fl_X3_addOpen {p : Program} {l : Launch} {e : Env} {R : Room} {s : State} {m : MethodId} {args : Array Value} {below : List Frame} {meth : Method} {c : Code} {Q : State → Prop} {A : Nat → Prop} {cells slots : Nat} {D : va_G} {H0 : Heap} {X0 : va_W} {L : List Nat} {K : Nat → Nat × Nat} {S : Int} {tys : List (ClassId × FieldType)} {f0 : Nat → va_E} {a : Nat} (hx : p.tables.exec = Jvm.exec) (hb : c.code = cX3_addOpen) (hts : ∀ w ∈ wsX3_addOpen, w.before args s = true) (hml : c.maxLocals = 2) (hown : s.vm.findClass RX3 = some m.cls) (hN : Nq s) (hK : va_K D vwCl tys s) (hA : ∀ q : Nat, H0.size ≤ q → A q) (hR : 0 ≤ R.frames ∧ 0 ≤ R.locals) (hcs : cells ≤ R.cells ∧ slots ≤ R.slots) (done_24 : ∀ (f : Nat → va_E) (H : Heap) (locs : List Loc) (ls : Array Slot), (cqI S L K f) → (cqT [(3, 7)] L K f0 f) → va_P D vwCl (X0 ++ va_pl L f) H → va_D A (X0 ++ va_pl L f) → va_S A H0 H locs → lv_has ls 2 [(0, .ref a)] → W p l e R s m args below meth c H locs cells slots Q (F0 m 24 ls [])) : ∀ (n : Nat), ∀ (at1 : Option Nat) (j : Nat) (f : Nat → va_E) (H : Heap) (locs : List Loc) (ls : Array Slot), (cqLo L K 3 at1 j) → (cqI S L K f) → (cqT [(3, 7)] L K f0 f) → (j < n) → va_P D vwCl (X0 ++ va_pl L f) H → va_D A (X0 ++ va_pl L f) → va_S A H0 H locs → lv_has ls 2 [(1, va_rf at1), (0, .ref a)] → W p l e R s m args below meth c H locs cells slots Q (F0 m 2 ls []) := by
  have hin_X3 : ∀ w ∈ u_ws RX3 TX3 8, w ∈ wsX3_addOpen := fun w h => List.mem_cons_of_mem _ (List.mem_append_right _ (h))
  intro n
  induction n with
  | zero => intro at1 j f H locs ls hlo hI hT hmu hP hD hS hl; exact absurd hmu (Nat.not_lt_zero _)
  | succ n ih =>
    intro at1 j f H locs ls hlo hI hT hmu hP hD hS hl
    refine q_aload_n hx hb dX3_addOpen_2 rfl (lv_at hl 0 rfl) ?_
    rcases at1 with _ | b_1
    · have hl : lv_has ls 2 [(1, .null), (0, .ref a)] := hl
      refine lv_ifnullN (tgt := 24) hx hb dX3_addOpen_3 (by decide) ?_
      exact done_24 f _ _ _ hI hT hP hD hS (lv_sub hl [1] rfl)
    · have hl : lv_has ls 2 [(1, .ref b_1), (0, .ref a)] := hl
      obtain ⟨is_2, lis_2⟩ := hlo b_1 rfl
      refine lv_ifnull hx hb dX3_addOpen_3 ?_
      refine lv_aload_n hx hb dX3_addOpen_6 rfl (lv_at hl 0 rfl) ?_
      refine lv_dup hx hb dX3_addOpen_7 rfl ?_
      obtain ⟨pa_3, de_3, ma_3, sb_3, fc_3, tu_3, sd_3, op_3, hf_3, hpa_3, hsb_3, hfc_3⟩ := hI.opN is_2
      refine pl_get (D := D) (ci := 3) (v := .int op_3) (C := RX3) (T := TX3) (N := 8) hx hb hts hin_X3 hown hK hP is_2.1 hf_3 rfl 7 (by decide) (hts (.fieldLink RX3 39 "CryOrder$Node" "open" "I") (List.mem_cons_of_mem _ (List.mem_append_left _ (List.mem_of_getElem? (i := 0) rfl)))) (fun _ h9 => h9) rfl dX3_addOpen_8 ?_
      refine lv_iconst (v := 1) hx hb dX3_addOpen_11 (by decide) ?_
      refine lv_iadd hx hb dX3_addOpen_12 ?_
      refine lv_topi (fun z_4 ez_4 => ?_)
      have tz_4 := ad_toInt (zx := (op_3).toInt) (zy := 1) ez_4 rfl (by decide)
      refine pl_put (D := D) (ci := 3) (v := .int z_4) (ty := .int) (C := RX3) (T := TX3) (N := 8) hx hb hts hin_X3 tyX3 tyX3_ok nmX3 hown hK hP hD hS is_2.1 hf_3 rfl 7 (by decide) (hts (.fieldLink RX3 39 "CryOrder$Node" "open" "I") (List.mem_cons_of_mem _ (List.mem_append_left _ (List.mem_of_getElem? (i := 0) rfl)))) (fun _ h9 => h9) rfl (by decide +kernel) rfl rfl (Nat.le_of_ble_eq_true rfl) dX3_addOpen_13 (fun H_5 locs hP hD hS => ?_)
      obtain ⟨f_6, ef_6⟩ : ∃ g, g = va_up f b_1 (.inr (3, [va_rf pa_3, .int de_3, .int ma_3, va_rf sb_3, va_rf fc_3, .int tu_3, .int sd_3, .int z_4])) := ⟨_, rfl⟩
      have hP : va_P D vwCl (X0 ++ va_pl L f_6) H_5 := by rw [ef_6]; exact hP
      have hD : va_D A (X0 ++ va_pl L f_6) := by rw [ef_6]; exact hD
      have hI : cqI S L K f_6 := hI.ptN is_2 ef_6 ⟨pa_3, _, _, sb_3, fc_3, _, _, _, rfl, hpa_3, hsb_3, hfc_3⟩
      have hT_7 := hT.put (k := 7) cqG.rf is_2 ef_6 (.int z_4) hf_3 rfl (by decide)
      have hf_3 : f_6 b_1 = .inr (3, [va_rf pa_3, .int de_3, .int ma_3, va_rf sb_3, va_rf fc_3, .int tu_3, .int sd_3, .int z_4]) := cq_same ef_6
      refine lv_aload_n hx hb dX3_addOpen_16 rfl (lv_at hl 0 rfl) ?_
      refine pl_get (D := D) (ci := 3) (v := va_rf pa_3) (C := RX3) (T := TX3) (N := 8) hx hb hts hin_X3 hown hK hP is_2.1 hf_3 rfl 0 (by decide) (hts (.fieldLink RX3 9 "CryOrder$Node" "parent" "LCryOrder$Node;") (List.mem_cons_of_mem _ (List.mem_append_left _ (List.mem_of_getElem? (i := 1) rfl)))) (fun _ h9 => h9) rfl dX3_addOpen_17 ?_
      refine q_astore_n (r := pa_3) (lv' := [(1, va_rf pa_3), (0, .ref a)]) hx hb dX3_addOpen_20 rfl hl (by decide) rfl (fun ls hl => ?_)
      refine lv_goto (tgt := 2) hx hb dX3_addOpen_21 (by decide) ?_
      exact ih pa_3 ((K b_1).2) f_6 _ _ _ hpa_3 hI hT_7 (by omega) hP hD hS (lv_sub hl [0, 1] rfl)

set_option maxHeartbeats 4000000 in
set_option maxRecDepth 100000 in
theorem c_X3_addOpenF (l : Launch) (D : va_G) (sz : Nat) (X0 : va_W) (L : List Nat) (K : Nat → Nat × Nat) (f : Nat → va_E) (S : Int) (tys : List (ClassId × FieldType)) (a : Nat) (hI : cqI S L K f) (ha : cqIs L K 3 a) : Met l yX3_addOpen wsX3_addOpen ({ frames := 0, cells := 0, slots := 0, locals := 0 }) (va_Pc [.ref a] (wz sz D tys (X0 ++ va_pl L f))) (va_Qv (fun (_ : Unit) => True) (fun _ t => ∃ (f9 : Nat → va_E), (wp D [] (va_A (X0 ++ va_pl L f) sz) (X0 ++ va_pl L f9) t ∧ (cqI S L K f9) ∧ (cqT [(3, 7)] L K f f9))) (va_A (X0 ++ va_pl L f) sz)) 0 0 (va_A (X0 ++ va_pl L f) sz) := by
  refine Met.ofW (cc := cX3_addOpen) (maxL := 2) (ret := none) (by decide) rfl ?_
  intro p e s m args below meth c s₁ B hml hv
  obtain ⟨rfl, hsz, hP, hK, hD0, hN⟩ := hv
  have hx := B.exec
  have hb := B.bytes
  have hr := B.returns
  have hts := atoms_spec (ws := wsX3_addOpen) B.pre
  have hown : s.vm.findClass RX3 = some m.cls := findClass_of_methodNamed B.named
  have hlocks := B.notSynchronized
  subst hsz
  have hD := hD0.self (sz := s.heap.size)
  generalize hAe : va_A (X0 ++ va_pl L f) s.heap.size = A at hD ⊢
  have hA : ∀ q : Nat, s.heap.size ≤ q → A q := fun q h => by rw [← hAe]; exact Or.inr h
  have hS : va_S A s.heap s.heap [] := va_S.rf
  have hl := lv_entry ([.ref a]) (n := 2) (Nat.le_of_ble_eq_true rfl)
  rw [lg_entry_eq]
  generalize (lg_sl ([.ref a]) ++ List.replicate (2 - (lg_sl ([.ref a])).length) Slot.unset).toArray = ls at hl ⊢
  have hl : lv_has ls 2 [(0, .ref a)] := hl
  have hT0 : cqT [(3, 7)] L K f f := cqT.rf
  have hG0 : cqG L K L K := cqG.rf
  refine lv_aload_n hx hb dX3_addOpen_0 rfl (lv_at hl 0 rfl) ?_
  refine lv_astore_n (lv' := [(1, .ref a), (0, .ref a)]) hx hb dX3_addOpen_1 rfl hl (by decide) rfl (fun ls hl => ?_)
  refine fl_X3_addOpen hx hb hts hml hown hN hK hA ⟨(Nat.le_of_ble_eq_true rfl), (Nat.le_of_ble_eq_true rfl)⟩ ⟨(Nat.le_of_ble_eq_true rfl), (Nat.le_of_ble_eq_true rfl)⟩  (fun f_1 H_2 locs ls h_3 h_4 hP hD hS hl => ?_) _ (some a) ((K a).2 + 1) f _ _ _ (cqLo.some ha (by omega)) hI hT0 (Nat.lt_succ_self _) hP hD hS (lv_sub hl [0, 1] rfl)
  have h_3 : cqI S L K f_1 := h_3
  have h_4 : cqT [(3, 7)] L K f f_1 := h_4
  have hI : cqI S L K f_1 := h_3
  have hP : va_P D vwCl (X0 ++ va_pl L f_1) H_2 := hP
  have hD : va_D A (X0 ++ va_pl L f_1) := hD
  refine W.widen (k := 0) (n := 0) (Nat.le_of_ble_eq_true rfl) (Nat.le_of_ble_eq_true rfl) ?_
  exact W.vret hx hb hr (fun t ht hW => ⟨⟨(), rfl, trivial, f_1, ⟨by rw [ht]; exact hP, va_K.moved hW.alike (hK.sub (tys' := []) [] rfl), hD⟩, hI, h_4⟩, hS.F ht⟩) hS.2.2 dX3_addOpen_24

set_option maxHeartbeats 4000000 in
set_option maxRecDepth 100000 in
theorem fl_X3_settle {p : Program} {l : Launch} {e : Env} {R : Room} {s : State} {m : MethodId} {args : Array Value} {below : List Frame} {meth : Method} {c : Code} {Q : State → Prop} {A : Nat → Prop} {cells slots : Nat} {D : va_G} {H0 : Heap} {X0 : va_W} {L : List Nat} {K : Nat → Nat × Nat} {S : Int} {tys : List (ClassId × FieldType)} {f0 : Nat → va_E} {a : Nat} {v : Int32} (hx : p.tables.exec = Jvm.exec) (hb : c.code = cX3_settle) (hts : ∀ w ∈ wsX3_settle, w.before args s = true) (hml : c.maxLocals = 3) (hown : s.vm.findClass RX3 = some m.cls) (hN : Nq s) (hK : va_K D vwCl tys s) (hA : ∀ q : Nat, H0.size ≤ q → A q) (hR : 1 ≤ R.frames ∧ 20 ≤ R.locals) (hcs : cells ≤ R.cells ∧ slots ≤ R.slots) (done_47 : ∀ (f : Nat → va_E) (H : Heap) (locs : List Loc) (ls : Array Slot), (cqI S L K f) → (cqT [(3, 5), (3, 6), (3, 7)] L K f0 f) → va_P D vwCl (X0 ++ va_pl L f) H → va_D A (X0 ++ va_pl L f) → va_S A H0 H locs → lv_has ls 3 [(0, .ref a), (1, .int v)] → W p l e R s m args below meth c H locs cells slots Q (F0 m 47 ls [])) : ∀ (n : Nat), ∀ (at1 : Option Nat) (j : Nat) (f : Nat → va_E) (H : Heap) (locs : List Loc) (ls : Array Slot), (cqLo L K 3 at1 j) → (cqI S L K f) → (cqT [(3, 5), (3, 6), (3, 7)] L K f0 f) → (j < n) → va_P D vwCl (X0 ++ va_pl L f) H → va_D A (X0 ++ va_pl L f) → va_S A H0 H locs → lv_has ls 3 [(2, va_rf at1), (0, .ref a), (1, .int v)] → W p l e R s m args below meth c H locs cells slots Q (F0 m 2 ls []) := by
  have hin_X3 : ∀ w ∈ u_ws RX3 TX3 8, w ∈ wsX3_settle := fun w h => List.mem_cons_of_mem _ (List.mem_append_right _ (h))
  intro n
  induction n with
  | zero => intro at1 j f H locs ls hlo hI hT hmu hP hD hS hl; exact absurd hmu (Nat.not_lt_zero _)
  | succ n ih =>
    intro at1 j f H locs ls hlo hI hT hmu hP hD hS hl
    refine q_aload_n hx hb dX3_settle_2 rfl (lv_at hl 0 rfl) ?_
    rcases at1 with _ | b_1
    · have hl : lv_has ls 3 [(2, .null), (0, .ref a), (1, .int v)] := hl
      refine lv_ifnullN (tgt := 47) hx hb dX3_settle_3 (by decide) ?_
      exact done_47 f _ _ _ hI hT hP hD hS (lv_sub hl [1, 2] rfl)
    · have hl : lv_has ls 3 [(2, .ref b_1), (0, .ref a), (1, .int v)] := hl
      obtain ⟨is_2, lis_2⟩ := hlo b_1 rfl
      refine lv_ifnull hx hb dX3_settle_3 ?_
      refine lv_aload_n hx hb dX3_settle_6 rfl (lv_at hl 0 rfl) ?_
      refine lv_dup hx hb dX3_settle_7 rfl ?_
      obtain ⟨pa_3, de_3, ma_3, sb_3, fc_3, tu_3, sd_3, op_3, hf_3, hpa_3, hsb_3, hfc_3⟩ := hI.opN is_2
      refine pl_get (D := D) (ci := 3) (v := .int op_3) (C := RX3) (T := TX3) (N := 8) hx hb hts hin_X3 hown hK hP is_2.1 hf_3 rfl 7 (by decide) (hts (.fieldLink RX3 39 "CryOrder$Node" "open" "I") (List.mem_cons_of_mem _ (List.mem_append_left _ (List.mem_of_getElem? (i := 0) rfl)))) (fun _ h9 => h9) rfl dX3_settle_8 ?_
      refine lv_iconst (v := 1) hx hb dX3_settle_11 (by decide) ?_
      refine lv_isub hx hb dX3_settle_12 ?_
      refine lv_topi (fun z_4 ez_4 => ?_)
      have tz_4 := sb_toInt (zx := (op_3).toInt) (zy := 1) ez_4 rfl (by decide)
      refine pl_put (D := D) (ci := 3) (v := .int z_4) (ty := .int) (C := RX3) (T := TX3) (N := 8) hx hb hts hin_X3 tyX3 tyX3_ok nmX3 hown hK hP hD hS is_2.1 hf_3 rfl 7 (by decide) (hts (.fieldLink RX3 39 "CryOrder$Node" "open" "I") (List.mem_cons_of_mem _ (List.mem_append_left _ (List.mem_of_getElem? (i := 0) rfl)))) (fun _ h9 => h9) rfl (by decide +kernel) rfl rfl (Nat.le_of_ble_eq_true rfl) dX3_settle_13 (fun H_5 locs hP hD hS => ?_)
      obtain ⟨f_6, ef_6⟩ : ∃ g, g = va_up f b_1 (.inr (3, [va_rf pa_3, .int de_3, .int ma_3, va_rf sb_3, va_rf fc_3, .int tu_3, .int sd_3, .int z_4])) := ⟨_, rfl⟩
      have hP : va_P D vwCl (X0 ++ va_pl L f_6) H_5 := by rw [ef_6]; exact hP
      have hD : va_D A (X0 ++ va_pl L f_6) := by rw [ef_6]; exact hD
      have hI : cqI S L K f_6 := hI.ptN is_2 ef_6 ⟨pa_3, _, _, sb_3, fc_3, _, _, _, rfl, hpa_3, hsb_3, hfc_3⟩
      have hT_7 := hT.put (k := 7) cqG.rf is_2 ef_6 (.int z_4) hf_3 rfl (by decide)
      have hf_3 : f_6 b_1 = .inr (3, [va_rf pa_3, .int de_3, .int ma_3, va_rf sb_3, va_rf fc_3, .int tu_3, .int sd_3, .int z_4]) := cq_same ef_6
      refine lv_aload_n hx hb dX3_settle_16 rfl (lv_at hl 0 rfl) ?_
      refine lv_dup hx hb dX3_settle_17 rfl ?_
      refine pl_get (D := D) (ci := 3) (v := .int sd_3) (C := RX3) (T := TX3) (N := 8) hx hb hts hin_X3 hown hK hP is_2.1 hf_3 rfl 6 (by decide) (hts (.fieldLink RX3 42 "CryOrder$Node" "settled" "I") (List.mem_cons_of_mem _ (List.mem_append_left _ (List.mem_of_getElem? (i := 1) rfl)))) (fun _ h9 => h9) rfl dX3_settle_18 ?_
      refine lv_iconst (v := 1) hx hb dX3_settle_21 (by decide) ?_
      refine lv_iadd hx hb dX3_settle_22 ?_
      refine lv_topi (fun z_8 ez_8 => ?_)
      have tz_8 := ad_toInt (zx := (sd_3).toInt) (zy := 1) ez_8 rfl (by decide)
      refine pl_put (D := D) (ci := 3) (v := .int z_8) (ty := .int) (C := RX3) (T := TX3) (N := 8) hx hb hts hin_X3 tyX3 tyX3_ok nmX3 hown hK hP hD hS is_2.1 hf_3 rfl 6 (by decide) (hts (.fieldLink RX3 42 "CryOrder$Node" "settled" "I") (List.mem_cons_of_mem _ (List.mem_append_left _ (List.mem_of_getElem? (i := 1) rfl)))) (fun _ h9 => h9) rfl (by decide +kernel) rfl rfl (Nat.le_of_ble_eq_true rfl) dX3_settle_23 (fun H_9 locs hP hD hS => ?_)
      obtain ⟨f_10, ef_10⟩ : ∃ g, g = va_up f_6 b_1 (.inr (3, [va_rf pa_3, .int de_3, .int ma_3, va_rf sb_3, va_rf fc_3, .int tu_3, .int z_8, .int z_4])) := ⟨_, rfl⟩
      have hP : va_P D vwCl (X0 ++ va_pl L f_10) H_9 := by rw [ef_10]; exact hP
      have hD : va_D A (X0 ++ va_pl L f_10) := by rw [ef_10]; exact hD
      have hI : cqI S L K f_10 := hI.ptN is_2 ef_10 ⟨pa_3, _, _, sb_3, fc_3, _, _, _, rfl, hpa_3, hsb_3, hfc_3⟩
      have hT_11 := hT_7.put (k := 6) cqG.rf is_2 ef_10 (.int z_8) hf_3 rfl (by decide)
      have hf_3 : f_10 b_1 = .inr (3, [va_rf pa_3, .int de_3, .int ma_3, va_rf sb_3, va_rf fc_3, .int tu_3, .int z_8, .int z_4]) := cq_same ef_10
      refine lv_aload_n hx hb dX3_settle_26 rfl (lv_at hl 0 rfl) ?_
      refine lv_dup hx hb dX3_settle_27 rfl ?_
      refine pl_get (D := D) (ci := 3) (v := .int tu_3) (C := RX3) (T := TX3) (N := 8) hx hb hts hin_X3 hown hK hP is_2.1 hf_3 rfl 5 (by decide) (hts (.fieldLink RX3 45 "CryOrder$Node" "settledTrue" "I") (List.mem_cons_of_mem _ (List.mem_append_left _ (List.mem_of_getElem? (i := 2) rfl)))) (fun _ h9 => h9) rfl dX3_settle_28 ?_
      refine lv_iload_n hx hb dX3_settle_31 rfl (lv_at hl 2 rfl) ?_
      refine vp_callSi (zrN (As := [.int v]) (rest := [.int tu_3, .ref b_1]) (wc := []) ⟨hx, hb, hml, hown, hts⟩ hN hK hP hD (c_X8_oneIf l D v ) ⟨va_cnB 1 hts gX3_settle_X8_oneIf_n48 rfl rfl rfl hN.2.2.2.2 (hts (.initialized RX8) (List.mem_cons_of_mem _ (List.mem_append_left _ (List.mem_of_getElem? (i := 5) rfl)))) (by decide +kernel) ⟨Nat.le_trans (m := 1) (Nat.le_of_ble_eq_true rfl) hR.1, Nat.le_trans (m := 20) (Nat.le_of_ble_eq_true rfl) hR.2⟩, (hts (.static yX8_oneIf) (List.mem_cons_of_mem _ (List.mem_append_left _ (List.mem_of_getElem? (i := 4) rfl)))), trivial⟩ [] [] rfl rfl (by decide) rfl hl.1 rfl (Nat.le_of_ble_eq_true rfl) dX3_settle_32 ⟨hcs.1, hcs.2⟩) (fun r_12 h_13 => ?_)
      have h_13 : r_12 = 0 ∨ r_12 = 1 := h_13
      refine lv_iadd hx hb dX3_settle_35 ?_
      refine lv_topi (fun z_14 ez_14 => ?_)
      have tz_14 := ad_toInt (zx := (tu_3).toInt) (zy := (r_12).toInt) ez_14 rfl rfl
      refine pl_put (D := D) (ci := 3) (v := .int z_14) (ty := .int) (C := RX3) (T := TX3) (N := 8) hx hb hts hin_X3 tyX3 tyX3_ok nmX3 hown hK hP hD hS is_2.1 hf_3 rfl 5 (by decide) (hts (.fieldLink RX3 45 "CryOrder$Node" "settledTrue" "I") (List.mem_cons_of_mem _ (List.mem_append_left _ (List.mem_of_getElem? (i := 2) rfl)))) (fun _ h9 => h9) rfl (by decide +kernel) rfl rfl (Nat.le_of_ble_eq_true rfl) dX3_settle_36 (fun H_15 locs hP hD hS => ?_)
      obtain ⟨f_16, ef_16⟩ : ∃ g, g = va_up f_10 b_1 (.inr (3, [va_rf pa_3, .int de_3, .int ma_3, va_rf sb_3, va_rf fc_3, .int z_14, .int z_8, .int z_4])) := ⟨_, rfl⟩
      have hP : va_P D vwCl (X0 ++ va_pl L f_16) H_15 := by rw [ef_16]; exact hP
      have hD : va_D A (X0 ++ va_pl L f_16) := by rw [ef_16]; exact hD
      have hI : cqI S L K f_16 := hI.ptN is_2 ef_16 ⟨pa_3, _, _, sb_3, fc_3, _, _, _, rfl, hpa_3, hsb_3, hfc_3⟩
      have hT_17 := hT_11.put (k := 5) cqG.rf is_2 ef_16 (.int z_14) hf_3 rfl (by decide)
      have hf_3 : f_16 b_1 = .inr (3, [va_rf pa_3, .int de_3, .int ma_3, va_rf sb_3, va_rf fc_3, .int z_14, .int z_8, .int z_4]) := cq_same ef_16
      refine lv_aload_n hx hb dX3_settle_39 rfl (lv_at hl 0 rfl) ?_
      refine pl_get (D := D) (ci := 3) (v := va_rf pa_3) (C := RX3) (T := TX3) (N := 8) hx hb hts hin_X3 hown hK hP is_2.1 hf_3 rfl 0 (by decide) (hts (.fieldLink RX3 9 "CryOrder$Node" "parent" "LCryOrder$Node;") (List.mem_cons_of_mem _ (List.mem_append_left _ (List.mem_of_getElem? (i := 3) rfl)))) (fun _ h9 => h9) rfl dX3_settle_40 ?_
      refine q_astore_n (r := pa_3) (lv' := [(2, va_rf pa_3), (0, .ref a), (1, .int v)]) hx hb dX3_settle_43 rfl hl (by decide) rfl (fun ls hl => ?_)
      refine lv_goto (tgt := 2) hx hb dX3_settle_44 (by decide) ?_
      exact ih pa_3 ((K b_1).2) f_16 _ _ _ hpa_3 hI hT_17 (by omega) hP hD hS (lv_sub hl [0, 1, 2] rfl)

set_option maxHeartbeats 4000000 in
set_option maxRecDepth 100000 in
theorem c_X3_settleF (l : Launch) (D : va_G) (sz : Nat) (X0 : va_W) (L : List Nat) (K : Nat → Nat × Nat) (f : Nat → va_E) (S : Int) (tys : List (ClassId × FieldType)) (a : Nat) (v : Int32) (hI : cqI S L K f) (ha : cqIs L K 3 a) : Met l yX3_settle wsX3_settle ({ frames := 1, cells := 0, slots := 0, locals := 20 }) (va_Pc [.ref a, .int v] (wz sz D tys (X0 ++ va_pl L f))) (va_Qv (fun (_ : Unit) => True) (fun _ t => ∃ (f9 : Nat → va_E), (wp D [] (va_A (X0 ++ va_pl L f) sz) (X0 ++ va_pl L f9) t ∧ (cqI S L K f9) ∧ (cqT [(3, 5), (3, 6), (3, 7)] L K f f9))) (va_A (X0 ++ va_pl L f) sz)) 0 0 (va_A (X0 ++ va_pl L f) sz) := by
  refine Met.ofW (cc := cX3_settle) (maxL := 3) (ret := none) (by decide) rfl ?_
  intro p e s m args below meth c s₁ B hml hv
  obtain ⟨rfl, hsz, hP, hK, hD0, hN⟩ := hv
  have hx := B.exec
  have hb := B.bytes
  have hr := B.returns
  have hts := atoms_spec (ws := wsX3_settle) B.pre
  have hown : s.vm.findClass RX3 = some m.cls := findClass_of_methodNamed B.named
  have hlocks := B.notSynchronized
  subst hsz
  have hD := hD0.self (sz := s.heap.size)
  generalize hAe : va_A (X0 ++ va_pl L f) s.heap.size = A at hD ⊢
  have hA : ∀ q : Nat, s.heap.size ≤ q → A q := fun q h => by rw [← hAe]; exact Or.inr h
  have hS : va_S A s.heap s.heap [] := va_S.rf
  have hl := lv_entry ([.ref a, .int v]) (n := 3) (Nat.le_of_ble_eq_true rfl)
  rw [lg_entry_eq]
  generalize (lg_sl ([.ref a, .int v]) ++ List.replicate (3 - (lg_sl ([.ref a, .int v])).length) Slot.unset).toArray = ls at hl ⊢
  have hl : lv_has ls 3 [(0, .ref a), (1, .int v)] := hl
  have hT0 : cqT [(3, 5), (3, 6), (3, 7)] L K f f := cqT.rf
  have hG0 : cqG L K L K := cqG.rf
  refine lv_aload_n hx hb dX3_settle_0 rfl (lv_at hl 0 rfl) ?_
  refine lv_astore_n (lv' := [(2, .ref a), (0, .ref a), (1, .int v)]) hx hb dX3_settle_1 rfl hl (by decide) rfl (fun ls hl => ?_)
  refine fl_X3_settle hx hb hts hml hown hN hK hA ⟨(Nat.le_of_ble_eq_true rfl), (Nat.le_of_ble_eq_true rfl)⟩ ⟨(Nat.le_of_ble_eq_true rfl), (Nat.le_of_ble_eq_true rfl)⟩  (fun f_1 H_2 locs ls h_3 h_4 hP hD hS hl => ?_) _ (some a) ((K a).2 + 1) f _ _ _ (cqLo.some ha (by omega)) hI hT0 (Nat.lt_succ_self _) hP hD hS (lv_sub hl [0, 1, 2] rfl)
  have h_3 : cqI S L K f_1 := h_3
  have h_4 : cqT [(3, 5), (3, 6), (3, 7)] L K f f_1 := h_4
  have hI : cqI S L K f_1 := h_3
  have hP : va_P D vwCl (X0 ++ va_pl L f_1) H_2 := hP
  have hD : va_D A (X0 ++ va_pl L f_1) := hD
  refine W.widen (k := 0) (n := 0) (Nat.le_of_ble_eq_true rfl) (Nat.le_of_ble_eq_true rfl) ?_
  exact W.vret hx hb hr (fun t ht hW => ⟨⟨(), rfl, trivial, f_1, ⟨by rw [ht]; exact hP, va_K.moved hW.alike (hK.sub (tys' := []) [] rfl), hD⟩, hI, h_4⟩, hS.F ht⟩) hS.2.2 dX3_settle_47
