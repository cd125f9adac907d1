set_option maxHeartbeats 4000000 in
set_option maxRecDepth 100000 in
theorem c_X3_addOpen (l : Launch) (D : va_G) (sz : Nat) (X0 : va_W) (L : List Nat) (K : Nat → Nat × Nat) (f : Nat → va_E) (S : Int) (tys : List (ClassId × FieldType)) (a : Nat) (hI : cqI S L K f) (ha : cqIs L K 3 a) : Met l yX3_addOpen wsX3_addOpen ({ frames := 0, cells := 0, slots := 0, locals := 0 }) (va_Pc [.ref a] (wz sz D tys (X0 ++ va_pl L f))) (va_Qv (fun (_ : Unit) => True) (fun _ t => ∃ (f9 : Nat → va_E), (wp D [] (va_A (X0 ++ va_pl L f) sz) (X0 ++ va_pl L f9) t ∧ (cqI S L K f9))) (va_A (X0 ++ va_pl L f) sz)) 0 0 (va_A (X0 ++ va_pl L f) sz) := by
  refine Met.ofW (cc := cX3_addOpen) (maxL := 2) (ret := none) (by decide) rfl ?_
  intro p e s m args below meth c s₁ B hml hv
  obtain ⟨rfl, hsz, hP, hK, hD0, hN⟩ := hv
  have hx := B.exec
  have hb := B.bytes
  have hr := B.returns
  have hts := atoms_spec (ws := wsX3_addOpen) B.pre
  have hown : s.vm.findClass RX3 = some m.cls := findClass_of_methodNamed B.named
  have hlocks := B.notSynchronized
  subst hsz
  have hD := hD0.self (sz := s.heap.size)
  generalize hAe : va_A (X0 ++ va_pl L f) s.heap.size = A at hD ⊢
  have hA : ∀ q : Nat, s.heap.size ≤ q → A q := fun q h => by rw [← hAe]; exact Or.inr h
  have hS : va_S A s.heap s.heap [] := va_S.rf
  have hl := lv_entry ([.ref a]) (n := 2) (Nat.le_of_ble_eq_true rfl)
  rw [lg_entry_eq]
  generalize (lg_sl ([.ref a]) ++ List.replicate (2 - (lg_sl ([.ref a])).length) Slot.unset).toArray = ls at hl ⊢
  have hl : lv_has ls 2 [(0, .ref a)] := hl
  refine lv_aload_n hx hb dX3_addOpen_0 rfl (lv_at hl 0 rfl) ?_
  refine lv_astore_n (lv' := [(1, .ref a), (0, .ref a)]) hx hb dX3_addOpen_1 rfl hl (by decide) rfl (fun ls hl => ?_)
  refine cl_X3_addOpen hx hb hts hml hown hN hK hA ⟨(Nat.le_of_ble_eq_true rfl), (Nat.le_of_ble_eq_true rfl)⟩ ⟨(Nat.le_of_ble_eq_true rfl), (Nat.le_of_ble_eq_true rfl)⟩  (fun f_1 H_2 locs ls h_3 hP hD hS hl => ?_) _ (some a) ((K a).2 + 1) f _ _ _ (cqLo.some ha (by omega)) hI (Nat.lt_succ_self _) hP hD hS (lv_sub hl [0, 1] rfl)
  have h_3 : cqI S L K f_1 := h_3
  have hI : cqI S L K f_1 := h_3
  have hP : va_P D vwCl (X0 ++ va_pl L f_1) H_2 := hP
  have hD : va_D A (X0 ++ va_pl L f_1) := hD
  refine W.widen (k := 0) (n := 0) (Nat.le_of_ble_eq_true rfl) (Nat.le_of_ble_eq_true rfl) ?_
  exact W.vret hx hb hr (fun t ht hW => ⟨⟨(), rfl, trivial, f_1, ⟨by rw [ht]; exact hP, va_K.moved hW.alike (hK.sub (tys' := []) [] rfl), hD⟩, hI⟩, hS.F ht⟩) hS.2.2 dX3_addOpen_24

set_option maxHeartbeats 4000000 in
set_option maxRecDepth 100000 in
theorem cl_X3_settle {p : Program} {l : Launch} {e : Env} {R : Room} {s : State} {m : MethodId} {args : Array Value} {below : List Frame} {meth : Method} {c : Code} {Q : State → Prop} {A : Nat → Prop} {cells slots : Nat} {D : va_G} {H0 : Heap} {X0 : va_W} {L : List Nat} {K : Nat → Nat × Nat} {S : Int} {tys : List (ClassId × FieldType)} {a : Nat} {v : Int32} (hx : p.tables.exec = Jvm.exec) (hb : c.code = cX3_settle) (hts : ∀ w ∈ wsX3_settle, w.before args s = true) (hml : c.maxLocals = 3) (hown : s.vm.findClass RX3 = some m.cls) (hN : Nq s) (hK : va_K D vwCl tys s) (hA : ∀ q : Nat, H0.size ≤ q → A q) (hR : 1 ≤ R.frames ∧ 20 ≤ R.locals) (hcs : cells ≤ R.cells ∧ slots ≤ R.slots) (done_47 : ∀ (f : Nat → va_E) (H : Heap) (locs : List Loc) (ls : Array Slot), (cqI S L K f) → va_P D vwCl (X0 ++ va_pl L f) H → va_D A (X0 ++ va_pl L f) → va_S A H0 H locs → lv_has ls 3 [(0, .ref a), (1, .int v)] → W p l e R s m args below meth c H locs cells slots Q (F0 m 47 ls [])) : ∀ (n : Nat), ∀ (at1 : Option Nat) (j : Nat) (f : Nat → va_E) (H : Heap) (locs : List Loc) (ls : Array Slot), (cqLo L K 3 at1 j) → (cqI S L K f) → (j < n) → va_P D vwCl (X0 ++ va_pl L f) H → va_D A (X0 ++ va_pl L f) → va_S A H0 H locs → lv_has ls 3 [(2, va_rf at1), (0, .ref a), (1, .int v)] → W p l e R s m args below meth c H locs cells slots Q (F0 m 2 ls []) := by
  have hin_X3 : ∀ w ∈ u_ws RX3 TX3 8, w ∈ wsX3_settle := by decide +kernel
  intro n
  induction n with
  | zero => intro at1 j f H locs ls hlo hI hmu hP hD hS hl; exact absurd hmu (Nat.not_lt_zero _)
  | succ n ih =>
    intro at1 j f H locs ls hlo hI hmu hP hD hS hl
    refine q_aload_n hx hb dX3_settle_2 rfl (lv_at hl 0 rfl) ?_
    rcases at1 with _ | b_1
    · have hl : lv_has ls 3 [(2, .null), (0, .ref a), (1, .int v)] := hl
      refine lv_ifnullN (tgt := 47) hx hb dX3_settle_3 (by decide) ?_
      exact done_47 f _ _ _ hI hP hD hS (lv_sub hl [1, 2] rfl)
    · have hl : lv_has ls 3 [(2, .ref b_1), (0, .ref a), (1, .int v)] := hl
      obtain ⟨is_2, lis_2⟩ := hlo b_1 rfl
      refine lv_ifnull hx hb dX3_settle_3 ?_
      refine lv_aload_n hx hb dX3_settle_6 rfl (lv_at hl 0 rfl) ?_
      refine lv_dup hx hb dX3_settle_7 rfl ?_
      obtain ⟨pa_3, de_3, ma_3, sb_3, fc_3, tu_3, sd_3, op_3, hf_3, hpa_3, hsb_3, hfc_3⟩ := hI.opN is_2
      refine pl_get (D := D) (ci := 3) (v := .int op_3) (C := RX3) (T := TX3) (N := 8) hx hb hts hin_X3 hown hK hP is_2.1 hf_3 rfl 7 (by decide) (hts (.fieldLink RX3 39 "CryOrder$Node" "open" "I") (by decide +kernel)) (fun _ h9 => h9) rfl dX3_settle_8 ?_
      refine lv_iconst (v := 1) hx hb dX3_settle_11 (by decide) ?_
      refine lv_isub hx hb dX3_settle_12 ?_
      refine lv_topi (fun z_4 ez_4 => ?_)
      have tz_4 := sb_toInt (zx := (op_3).toInt) (zy := 1) ez_4 rfl (by decide)
      refine pl_put (D := D) (ci := 3) (v := .int z_4) (ty := .int) (C := RX3) (T := TX3) (N := 8) hx hb hts hin_X3 tyX3 tyX3_ok nmX3 hown hK hP hD hS is_2.1 hf_3 rfl 7 (by decide) (hts (.fieldLink RX3 39 "CryOrder$Node" "open" "I") (by decide +kernel)) (fun _ h9 => h9) rfl (by decide +kernel) rfl rfl (Nat.le_of_ble_eq_true rfl) dX3_settle_13 (fun H_5 locs hP hD hS => ?_)
      obtain ⟨f_6, ef_6⟩ : ∃ g, g = va_up f b_1 (.inr (3, [va_rf pa_3, .int de_3, .int ma_3, va_rf sb_3, va_rf fc_3, .int tu_3, .int sd_3, .int z_4])) := ⟨_, rfl⟩
      have hP : va_P D vwCl (X0 ++ va_pl L f_6) H_5 := by rw [ef_6]; exact hP
      have hD : va_D A (X0 ++ va_pl L f_6) := by rw [ef_6]; exact hD
      have hI : cqI S L K f_6 := hI.ptN is_2 ef_6 ⟨pa_3, _, _, sb_3, fc_3, _, _, _, rfl, hpa_3, hsb_3, hfc_3⟩
      have hf_3 : f_6 b_1 = .inr (3, [va_rf pa_3, .int de_3, .int ma_3, va_rf sb_3, va_rf fc_3, .int tu_3, .int sd_3, .int z_4]) := cq_same ef_6
      refine lv_aload_n hx hb dX3_settle_16 rfl (lv_at hl 0 rfl) ?_
      refine lv_dup hx hb dX3_settle_17 rfl ?_
      refine pl_get (D := D) (ci := 3) (v := .int sd_3) (C := RX3) (T := TX3) (N := 8) hx hb hts hin_X3 hown hK hP is_2.1 hf_3 rfl 6 (by decide) (hts (.fieldLink RX3 42 "CryOrder$Node" "settled" "I") (by decide +kernel)) (fun _ h9 => h9) rfl dX3_settle_18 ?_
      refine lv_iconst (v := 1) hx hb dX3_settle_21 (by decide) ?_
      refine lv_iadd hx hb dX3_settle_22 ?_
      refine lv_topi (fun z_7 ez_7 => ?_)
      have tz_7 := ad_toInt (zx := (sd_3).toInt) (zy := 1) ez_7 rfl (by decide)
      refine pl_put (D := D) (ci := 3) (v := .int z_7) (ty := .int) (C := RX3) (T := TX3) (N := 8) hx hb hts hin_X3 tyX3 tyX3_ok nmX3 hown hK hP hD hS is_2.1 hf_3 rfl 6 (by decide) (hts (.fieldLink RX3 42 "CryOrder$Node" "settled" "I") (by decide +kernel)) (fun _ h9 => h9) rfl (by decide +kernel) rfl rfl (Nat.le_of_ble_eq_true rfl) dX3_settle_23 (fun H_8 locs hP hD hS => ?_)
      obtain ⟨f_9, ef_9⟩ : ∃ g, g = va_up f_6 b_1 (.inr (3, [va_rf pa_3, .int de_3, .int ma_3, va_rf sb_3, va_rf fc_3, .int tu_3, .int z_7, .int z_4])) := ⟨_, rfl⟩
      have hP : va_P D vwCl (X0 ++ va_pl L f_9) H_8 := by rw [ef_9]; exact hP
      have hD : va_D A (X0 ++ va_pl L f_9) := by rw [ef_9]; exact hD
      have hI : cqI S L K f_9 := hI.ptN is_2 ef_9 ⟨pa_3, _, _, sb_3, fc_3, _, _, _, rfl, hpa_3, hsb_3, hfc_3⟩
      have hf_3 : f_9 b_1 = .inr (3, [va_rf pa_3, .int de_3, .int ma_3, va_rf sb_3, va_rf fc_3, .int tu_3, .int z_7, .int z_4]) := cq_same ef_9
      refine lv_aload_n hx hb dX3_settle_26 rfl (lv_at hl 0 rfl) ?_
      refine lv_dup hx hb dX3_settle_27 rfl ?_
      refine pl_get (D := D) (ci := 3) (v := .int tu_3) (C := RX3) (T := TX3) (N := 8) hx hb hts hin_X3 hown hK hP is_2.1 hf_3 rfl 5 (by decide) (hts (.fieldLink RX3 45 "CryOrder$Node" "settledTrue" "I") (by decide +kernel)) (fun _ h9 => h9) rfl dX3_settle_28 ?_
      refine lv_iload_n hx hb dX3_settle_31 rfl (lv_at hl 2 rfl) ?_
      refine vp_callSi (zrN (As := [.int v]) (rest := [.int tu_3, .ref b_1]) (wc := []) ⟨hx, hb, hml, hown, hts⟩ hN hK hP hD (c_X8_oneIf l D v ) ⟨va_cnB 1 hts gX3_settle_X8_oneIf_n48 rfl rfl rfl hN.2.2.2.2 (hts (.initialized RX8) (by decide +kernel)) (by decide +kernel) ⟨Nat.le_trans (m := 1) (Nat.le_of_ble_eq_true rfl) hR.1, Nat.le_trans (m := 20) (Nat.le_of_ble_eq_true rfl) hR.2⟩, (hts (.static yX8_oneIf) (by decide +kernel)), trivial⟩ [] [] rfl rfl (by decide) rfl hl.1 rfl (Nat.le_of_ble_eq_true rfl) dX3_settle_32 ⟨hcs.1, hcs.2⟩) (fun r_10 h_11 => ?_)
      have h_11 : r_10 = 0 ∨ r_10 = 1 := h_11
      refine lv_iadd hx hb dX3_settle_35 ?_
      refine lv_topi (fun z_12 ez_12 => ?_)
      have tz_12 := ad_toInt (zx := (tu_3).toInt) (zy := (r_10).toInt) ez_12 rfl rfl
      refine pl_put (D := D) (ci := 3) (v := .int z_12) (ty := .int) (C := RX3) (T := TX3) (N := 8) hx hb hts hin_X3 tyX3 tyX3_ok nmX3 hown hK hP hD hS is_2.1 hf_3 rfl 5 (by decide) (hts (.fieldLink RX3 45 "CryOrder$Node" "settledTrue" "I") (by decide +kernel)) (fun _ h9 => h9) rfl (by decide +kernel) rfl rfl (Nat.le_of_ble_eq_true rfl) dX3_settle_36 (fun H_13 locs hP hD hS => ?_)
      obtain ⟨f_14, ef_14⟩ : ∃ g, g = va_up f_9 b_1 (.inr (3, [va_rf pa_3, .int de_3, .int ma_3, va_rf sb_3, va_rf fc_3, .int z_12, .int z_7, .int z_4])) := ⟨_, rfl⟩
      have hP : va_P D vwCl (X0 ++ va_pl L f_14) H_13 := by rw [ef_14]; exact hP
      have hD : va_D A (X0 ++ va_pl L f_14) := by rw [ef_14]; exact hD
      have hI : cqI S L K f_14 := hI.ptN is_2 ef_14 ⟨pa_3, _, _, sb_3, fc_3, _, _, _, rfl, hpa_3, hsb_3, hfc_3⟩
      have hf_3 : f_14 b_1 = .inr (3, [va_rf pa_3, .int de_3, .int ma_3, va_rf sb_3, va_rf fc_3, .int z_12, .int z_7, .int z_4]) := cq_same ef_14
      refine lv_aload_n hx hb dX3_settle_39 rfl (lv_at hl 0 rfl) ?_
      refine pl_get (D := D) (ci := 3) (v := va_rf pa_3) (C := RX3) (T := TX3) (N := 8) hx hb hts hin_X3 hown hK hP is_2.1 hf_3 rfl 0 (by decide) (hts (.fieldLink RX3 9 "CryOrder$Node" "parent" "LCryOrder$Node;") (by decide +kernel)) (fun _ h9 => h9) rfl dX3_settle_40 ?_
      refine q_astore_n (r := pa_3) (lv' := [(2, va_rf pa_3), (0, .ref a), (1, .int v)]) hx hb dX3_settle_43 rfl hl (by decide) rfl (fun ls hl => ?_)
      refine lv_goto (tgt := 2) hx hb dX3_settle_44 (by decide) ?_
      exact ih pa_3 ((K b_1).2) f_14 _ _ _ hpa_3 hI (by omega) hP hD hS (lv_sub hl [0, 1, 2] rfl)

set_option maxHeartbeats 4000000 in
set_option maxRecDepth 100000 in
theorem c_X3_settle (l : Launch) (D : va_G) (sz : Nat) (X0 : va_W) (L : List Nat) (K : Nat → Nat × Nat) (f : Nat → va_E) (S : Int) (tys : List (ClassId × FieldType)) (a : Nat) (v : Int32) (hI : cqI S L K f) (ha : cqIs L K 3 a) : Met l yX3_settle wsX3_settle ({ frames := 1, cells := 0, slots := 0, locals := 20 }) (va_Pc [.ref a, .int v] (wz sz D tys (X0 ++ va_pl L f))) (va_Qv (fun (_ : Unit) => True) (fun _ t => ∃ (f9 : Nat → va_E), (wp D [] (va_A (X0 ++ va_pl L f) sz) (X0 ++ va_pl L f9) t ∧ (cqI S L K f9))) (va_A (X0 ++ va_pl L f) sz)) 0 0 (va_A (X0 ++ va_pl L f) sz) := by
  refine Met.ofW (cc := cX3_settle) (maxL := 3) (ret := none) (by decide) rfl ?_
  intro p e s m args below meth c s₁ B hml hv
  obtain ⟨rfl, hsz, hP, hK, hD0, hN⟩ := hv
  have hx := B.exec
  have hb := B.bytes
  have hr := B.returns
  have hts := atoms_spec (ws := wsX3_settle) B.pre
  have hown : s.vm.findClass RX3 = some m.cls := findClass_of_methodNamed B.named
  have hlocks := B.notSynchronized
  subst hsz
  have hD := hD0.self (sz := s.heap.size)
  generalize hAe : va_A (X0 ++ va_pl L f) s.heap.size = A at hD ⊢
  have hA : ∀ q : Nat, s.heap.size ≤ q → A q := fun q h => by rw [← hAe]; exact Or.inr h
  have hS : va_S A s.heap s.heap [] := va_S.rf
  have hl := lv_entry ([.ref a, .int v]) (n := 3) (Nat.le_of_ble_eq_true rfl)
  rw [lg_entry_eq]
  generalize (lg_sl ([.ref a, .int v]) ++ List.replicate (3 - (lg_sl ([.ref a, .int v])).length) Slot.unset).toArray = ls at hl ⊢
  have hl : lv_has ls 3 [(0, .ref a), (1, .int v)] := hl
  refine lv_aload_n hx hb dX3_settle_0 rfl (lv_at hl 0 rfl) ?_
  refine lv_astore_n (lv' := [(2, .ref a), (0, .ref a), (1, .int v)]) hx hb dX3_settle_1 rfl hl (by decide) rfl (fun ls hl => ?_)
  refine cl_X3_settle hx hb hts hml hown hN hK hA ⟨(Nat.le_of_ble_eq_true rfl), (Nat.le_of_ble_eq_true rfl)⟩ ⟨(Nat.le_of_ble_eq_true rfl), (Nat.le_of_ble_eq_true rfl)⟩  (fun f_1 H_2 locs ls h_3 hP hD hS hl => ?_) _ (some a) ((K a).2 + 1) f _ _ _ (cqLo.some ha (by omega)) hI (Nat.lt_succ_self _) hP hD hS (lv_sub hl [0, 1, 2] rfl)
  have h_3 : cqI S L K f_1 := h_3
  have hI : cqI S L K f_1 := h_3
  have hP : va_P D vwCl (X0 ++ va_pl L f_1) H_2 := hP
  have hD : va_D A (X0 ++ va_pl L f_1) := hD
  refine W.widen (k := 0) (n := 0) (Nat.le_of_ble_eq_true rfl) (Nat.le_of_ble_eq_true rfl) ?_
  exact W.vret hx hb hr (fun t ht hW => ⟨⟨(), rfl, trivial, f_1, ⟨by rw [ht]; exact hP, va_K.moved hW.alike (hK.sub (tys' := []) [] rfl), hD⟩, hI⟩, hS.F ht⟩) hS.2.2 dX3_settle_47

set_option maxHeartbeats 4000000 in
set_option maxRecDepth 100000 in
theorem c_X1_init (l : Launch) (D : va_G) (sz : Nat) (X0 : va_W) (L : List Nat) (K : Nat → Nat × Nat) (f : Nat → va_E) (S : Int) (tys : List (ClassId × FieldType)) (q0 : Nat) (v : Int32) (hI : cqI S L K f) : Met l yX1_init wsX1_init ({ frames := 1, cells := 0, slots := 0, locals := 12 }) (va_Pc [.ref q0, .int v] (wz sz D tys ((oC q0 1 [.int 0, .int 0, .int 0, .int 0] :: X0) ++ va_pl L f))) (va_Qv (fun (_ : Unit) => True) (fun _ t => wp D [] (va_A ((oC q0 1 [.int 0, .int 0, .int 0, .int 0] :: X0) ++ va_pl L f) sz) ((oC q0 1 [.int v, .int 0, .int 0, .int 0] :: X0) ++ va_pl L f) t) (va_A ((oC q0 1 [.int 0, .int 0, .int 0, .int 0] :: X0) ++ va_pl L f) sz)) 0 0 (va_A ((oC q0 1 [.int 0, .int 0, .int 0, .int 0] :: X0) ++ va_pl L f) sz) := by
  refine Met.ofW (cc := cX1_init) (maxL := 2) (ret := none) (by decide) rfl ?_
  intro p e s m args below meth c s₁ B hml hv
  obtain ⟨rfl, hsz, hP, hK, hD0, hN⟩ := hv
  have hx := B.exec
  have hb := B.bytes
  have hr := B.returns
  have hts := atoms_spec (ws := wsX1_init) B.pre
  have hown : s.vm.findClass RX1 = some m.cls := findClass_of_methodNamed B.named
  have hlocks := B.notSynchronized
  have hnm : meth.name = "<init>" := (name_of_methodNamed B.named B.method).1
  subst hsz
  have hD := hD0.self (sz := s.heap.size)
  generalize hAe : va_A ((oC q0 1 [.int 0, .int 0, .int 0, .int 0] :: X0) ++ va_pl L f) s.heap.size = A at hD ⊢
  have hA : ∀ q : Nat, s.heap.size ≤ q → A q := fun q h => by rw [← hAe]; exact Or.inr h
  have hS : va_S A s.heap s.heap [] := va_S.rf
  have hin_X1 : ∀ w ∈ u_ws RX1 TX1 4, w ∈ wsX1_init := by decide +kernel
  have hl := lv_entry ([.ref q0, .int v]) (n := 2) (Nat.le_of_ble_eq_true rfl)
  rw [lg_entry_eq]
  generalize (lg_sl ([.ref q0, .int v]) ++ List.replicate (2 - (lg_sl ([.ref q0, .int v])).length) Slot.unset).toArray = ls at hl ⊢
  have hl : lv_has ls 2 [(0, .ref q0), (1, .int v)] := hl
  refine lv_aload_n hx hb dX1_init_0 rfl (lv_at hl 0 rfl) ?_
  refine W.objInit hx hb hown (hts (.methodLink RX1 1 objectInit) (by decide +kernel)) (hts (.instanceMethod objectInit) (by decide +kernel)) (hts (.code objectInit ⟨#[0xb1]⟩ 1 none) (by decide +kernel)) rfl (by rw [hml]; exact hl.1) rfl dX1_init_1 (Nat.le_of_ble_eq_true rfl) (Nat.le_of_ble_eq_true rfl) ?_
  refine W.eq (g2 := F0 m 4 ls []) rfl ?_
  refine lv_aload_n hx hb dX1_init_4 rfl (lv_at hl 0 rfl) ?_
  refine lv_iload_n hx hb dX1_init_5 rfl (lv_at hl 1 rfl) ?_
  refine va_putF (D := D) (ci := 1) (v := .int v) (ty := .int) (C := RX1) (T := TX1) (N := 4) hx hb hts hin_X1 tyX1 tyX1_ok nmX1 hown hK hP hD hS 0 rfl rfl 0 (by decide) (hts (.fieldLink RX1 7 "CryOrder$Case" "number" "I") (by decide +kernel)) (fun _ h9 => h9) rfl hnm rfl (by decide +kernel) rfl rfl (Nat.le_of_ble_eq_true rfl) dX1_init_6 (fun H_1 locs hP hD hS => ?_)
  have hP : va_P D vwCl ((oC q0 1 [.int v, .int 0, .int 0, .int 0] :: X0) ++ va_pl L f) H_1 := hP
  have hD : va_D A ((oC q0 1 [.int v, .int 0, .int 0, .int 0] :: X0) ++ va_pl L f) := hD
  refine W.widen (k := 0) (n := 0) (Nat.le_of_ble_eq_true rfl) (Nat.le_of_ble_eq_true rfl) ?_
  exact W.vret hx hb hr (fun t ht hW => ⟨⟨(), rfl, trivial, by rw [ht]; exact hP, va_K.moved hW.alike (hK.sub (tys' := []) [] rfl), hD⟩, hS.F ht⟩) hS.2.2 dX1_init_9

set_option maxHeartbeats 4000000 in
set_option maxRecDepth 100000 in
theorem c_X4_init (l : Launch) (D : va_G) (sz : Nat) (X0 : va_W) (L : List Nat) (K : Nat → Nat × Nat) (f : Nat → va_E) (S : Int) (tys : List (ClassId × FieldType)) (q0 : Nat) (u : Int32) (v : Int32) (w : Int32) (hI : cqI S L K f) (hw0 : w = 0 ∨ w = 1) : Met l yX4_init wsX4_init ({ frames := 1, cells := 0, slots := 0, locals := 12 }) (va_Pc [.ref q0, .int u, .int v, .int w] (wz sz D tys ((oC q0 4 [.int 0, .int 0, .int 0] :: X0) ++ va_pl L f))) (va_Qv (fun (_ : Unit) => True) (fun _ t => wp D [] (va_A ((oC q0 4 [.int 0, .int 0, .int 0] :: X0) ++ va_pl L f) sz) ((oC q0 4 [.int u, .int v, .int w] :: X0) ++ va_pl L f) t) (va_A ((oC q0 4 [.int 0, .int 0, .int 0] :: X0) ++ va_pl L f) sz)) 0 0 (va_A ((oC q0 4 [.int 0, .int 0, .int 0] :: X0) ++ va_pl L f) sz) := by
  refine Met.ofW (cc := cX4_init) (maxL := 4) (ret := none) (by decide) rfl ?_
  intro p e s m args below meth c s₁ B hml hv
  obtain ⟨rfl, hsz, hP, hK, hD0, hN⟩ := hv
  have hx := B.exec
  have hb := B.bytes
  have hr := B.returns
  have hts := atoms_spec (ws := wsX4_init) B.pre
  have hown : s.vm.findClass RX4 = some m.cls := findClass_of_methodNamed B.named
  have hlocks := B.notSynchronized
  have hnm : meth.name = "<init>" := (name_of_methodNamed B.named B.method).1
  subst hsz
  have hD := hD0.self (sz := s.heap.size)
  generalize hAe : va_A ((oC q0 4 [.int 0, .int 0, .int 0] :: X0) ++ va_pl L f) s.heap.size = A at hD ⊢
  have hA : ∀ q : Nat, s.heap.size ≤ q → A q := fun q h => by rw [← hAe]; exact Or.inr h
  have hS : va_S A s.heap s.heap [] := va_S.rf
  have hin_X4 : ∀ w ∈ u_ws RX4 TX4 3, w ∈ wsX4_init := by decide +kernel
  have hl := lv_entry ([.ref q0, .int u, .int v, .int w]) (n := 4) (Nat.le_of_ble_eq_true rfl)
  rw [lg_entry_eq]
  generalize (lg_sl ([.ref q0, .int u, .int v, .int w]) ++ List.replicate (4 - (lg_sl ([.ref q0, .int u, .int v, .int w])).length) Slot.unset).toArray = ls at hl ⊢
  have hl : lv_has ls 4 [(0, .ref q0), (1, .int u), (2, .int v), (3, .int w)] := hl
  refine lv_aload_n hx hb dX4_init_0 rfl (lv_at hl 0 rfl) ?_
  refine W.objInit hx hb hown (hts (.methodLink RX4 1 objectInit) (by decide +kernel)) (hts (.instanceMethod objectInit) (by decide +kernel)) (hts (.code objectInit ⟨#[0xb1]⟩ 1 none) (by decide +kernel)) rfl (by rw [hml]; exact hl.1) rfl dX4_init_1 (Nat.le_of_ble_eq_true rfl) (Nat.le_of_ble_eq_true rfl) ?_
  refine W.eq (g2 := F0 m 4 ls []) rfl ?_
  refine lv_aload_n hx hb dX4_init_4 rfl (lv_at hl 0 rfl) ?_
  refine lv_iload_n hx hb dX4_init_5 rfl (lv_at hl 1 rfl) ?_
  refine va_putF (D := D) (ci := 4) (v := .int u) (ty := .int) (C := RX4) (T := TX4) (N := 3) hx hb hts hin_X4 tyX4 tyX4_ok nmX4 hown hK hP hD hS 0 rfl rfl 0 (by decide) (hts (.fieldLink RX4 7 "CryOrder$Pair" "lesser" "I") (by decide +kernel)) (fun _ h9 => h9) rfl hnm rfl (by decide +kernel) rfl rfl (Nat.le_of_ble_eq_true rfl) dX4_init_6 (fun H_1 locs hP hD hS => ?_)
  have hP : va_P D vwCl ((oC q0 4 [.int u, .int 0, .int 0] :: X0) ++ va_pl L f) H_1 := hP
  have hD : va_D A ((oC q0 4 [.int u, .int 0, .int 0] :: X0) ++ va_pl L f) := hD
  refine lv_aload_n hx hb dX4_init_9 rfl (lv_at hl 0 rfl) ?_
  refine lv_iload_n hx hb dX4_init_10 rfl (lv_at hl 2 rfl) ?_
  refine va_putF (D := D) (ci := 4) (v := .int v) (ty := .int) (C := RX4) (T := TX4) (N := 3) hx hb hts hin_X4 tyX4 tyX4_ok nmX4 hown hK hP hD hS 0 rfl rfl 1 (by decide) (hts (.fieldLink RX4 13 "CryOrder$Pair" "greater" "I") (by decide +kernel)) (fun _ h9 => h9) rfl hnm rfl (by decide +kernel) rfl rfl (Nat.le_of_ble_eq_true rfl) dX4_init_11 (fun H_2 locs hP hD hS => ?_)
  have hP : va_P D vwCl ((oC q0 4 [.int u, .int v, .int 0] :: X0) ++ va_pl L f) H_2 := hP
  have hD : va_D A ((oC q0 4 [.int u, .int v, .int 0] :: X0) ++ va_pl L f) := hD
  refine lv_aload_n hx hb dX4_init_14 rfl (lv_at hl 0 rfl) ?_
  refine lv_iload_n hx hb dX4_init_15 rfl (lv_at hl 3 rfl) ?_
  refine va_put (D := D) (ci := 4) (v := .int w) (ty := .boolean) (C := RX4) (T := TX4) (N := 3) hx hb hts hin_X4 tyX4 tyX4_ok nmX4 hown hK hP hD hS 0 rfl rfl 2 (by decide) (hts (.fieldLink RX4 16 "CryOrder$Pair" "joined" "Z") (by decide +kernel)) (fun _ h9 => h9) rfl (by decide +kernel) (by rcases hw0 with h9 | h9 <;> (rw [h9]; rfl)) (by rcases hw0 with h9 | h9 <;> (rw [h9]; rfl)) (Nat.le_of_ble_eq_true rfl) dX4_init_16 (fun H_3 locs hP hD hS => ?_)
  have hP : va_P D vwCl ((oC q0 4 [.int u, .int v, .int w] :: X0) ++ va_pl L f) H_3 := hP
  have hD : va_D A ((oC q0 4 [.int u, .int v, .int w] :: X0) ++ va_pl L f) := hD
  refine W.widen (k := 0) (n := 0) (Nat.le_of_ble_eq_true rfl) (Nat.le_of_ble_eq_true rfl) ?_
  exact W.vret hx hb hr (fun t ht hW => ⟨⟨(), rfl, trivial, by rw [ht]; exact hP, va_K.moved hW.alike (hK.sub (tys' := []) [] rfl), hD⟩, hS.F ht⟩) hS.2.2 dX4_init_19

set_option maxHeartbeats 4000000 in
set_option maxRecDepth 100000 in
theorem c_X6_init (l : Launch) (D : va_G) (sz : Nat) (X0 : va_W) (L : List Nat) (K : Nat → Nat × Nat) (f : Nat → va_E) (S : Int) (tys : List (ClassId × FieldType)) (q0 : Nat) (u : Int32) (v : Int32) (w : Int32) (hI : cqI S L K f) : Met l yX6_init wsX6_init ({ frames := 1, cells := 0, slots := 0, locals := 12 }) (va_Pc [.ref q0, .int u, .int v, .int w] (wz sz D tys ((oC q0 6 [.int 0, .int 0, .int 0] :: X0) ++ va_pl L f))) (va_Qv (fun (_ : Unit) => True) (fun _ t => wp D [] (va_A ((oC q0 6 [.int 0, .int 0, .int 0] :: X0) ++ va_pl L f) sz) ((oC q0 6 [.int u, .int v, .int w] :: X0) ++ va_pl L f) t) (va_A ((oC q0 6 [.int 0, .int 0, .int 0] :: X0) ++ va_pl L f) sz)) 0 0 (va_A ((oC q0 6 [.int 0, .int 0, .int 0] :: X0) ++ va_pl L f) sz) := by
  refine Met.ofW (cc := cX6_init) (maxL := 4) (ret := none) (by decide) rfl ?_
  intro p e s m args below meth c s₁ B hml hv
  obtain ⟨rfl, hsz, hP, hK, hD0, hN⟩ := hv
  have hx := B.exec
  have hb := B.bytes
  have hr := B.returns
  have hts := atoms_spec (ws := wsX6_init) B.pre
  have hown : s.vm.findClass RX6 = some m.cls := findClass_of_methodNamed B.named
  have hlocks := B.notSynchronized
  have hnm : meth.name = "<init>" := (name_of_methodNamed B.named B.method).1
  subst hsz
  have hD := hD0.self (sz := s.heap.size)
  generalize hAe : va_A ((oC q0 6 [.int 0, .int 0, .int 0] :: X0) ++ va_pl L f) s.heap.size = A at hD ⊢
  have hA : ∀ q : Nat, s.heap.size ≤ q → A q := fun q h => by rw [← hAe]; exact Or.inr h
  have hS : va_S A s.heap s.heap [] := va_S.rf
  have hin_X6 : ∀ w ∈ u_ws RX6 TX6 3, w ∈ wsX6_init := by decide +kernel
  have hl := lv_entry ([.ref q0, .int u, .int v, .int w]) (n := 4) (Nat.le_of_ble_eq_true rfl)
  rw [lg_entry_eq]
  generalize (lg_sl ([.ref q0, .int u, .int v, .int w]) ++ List.replicate (4 - (lg_sl ([.ref q0, .int u, .int v, .int w])).length) Slot.unset).toArray = ls at hl ⊢
  have hl : lv_has ls 4 [(0, .ref q0), (1, .int u), (2, .int v), (3, .int w)] := hl
  refine lv_aload_n hx hb dX6_init_0 rfl (lv_at hl 0 rfl) ?_
  refine W.objInit hx hb hown (hts (.methodLink RX6 1 objectInit) (by decide +kernel)) (hts (.instanceMethod objectInit) (by decide +kernel)) (hts (.code objectInit ⟨#[0xb1]⟩ 1 none) (by decide +kernel)) rfl (by rw [hml]; exact hl.1) rfl dX6_init_1 (Nat.le_of_ble_eq_true rfl) (Nat.le_of_ble_eq_true rfl) ?_
  refine W.eq (g2 := F0 m 4 ls []) rfl ?_
  refine lv_aload_n hx hb dX6_init_4 rfl (lv_at hl 0 rfl) ?_
  refine lv_iload_n hx hb dX6_init_5 rfl (lv_at hl 1 rfl) ?_
  refine va_putF (D := D) (ci := 6) (v := .int u) (ty := .int) (C := RX6) (T := TX6) (N := 3) hx hb hts hin_X6 tyX6 tyX6_ok nmX6 hown hK hP hD hS 0 rfl rfl 0 (by decide) (hts (.fieldLink RX6 7 "CryOrder$Silence" "source" "I") (by decide +kernel)) (fun _ h9 => h9) rfl hnm rfl (by decide +kernel) rfl rfl (Nat.le_of_ble_eq_true rfl) dX6_init_6 (fun H_1 locs hP hD hS => ?_)
  have hP : va_P D vwCl ((oC q0 6 [.int u, .int 0, .int 0] :: X0) ++ va_pl L f) H_1 := hP
  have hD : va_D A ((oC q0 6 [.int u, .int 0, .int 0] :: X0) ++ va_pl L f) := hD
  refine lv_aload_n hx hb dX6_init_9 rfl (lv_at hl 0 rfl) ?_
  refine lv_iload_n hx hb dX6_init_10 rfl (lv_at hl 2 rfl) ?_
  refine va_putF (D := D) (ci := 6) (v := .int v) (ty := .int) (C := RX6) (T := TX6) (N := 3) hx hb hts hin_X6 tyX6 tyX6_ok nmX6 hown hK hP hD hS 0 rfl rfl 1 (by decide) (hts (.fieldLink RX6 13 "CryOrder$Silence" "from" "I") (by decide +kernel)) (fun _ h9 => h9) rfl hnm rfl (by decide +kernel) rfl rfl (Nat.le_of_ble_eq_true rfl) dX6_init_11 (fun H_2 locs hP hD hS => ?_)
  have hP : va_P D vwCl ((oC q0 6 [.int u, .int v, .int 0] :: X0) ++ va_pl L f) H_2 := hP
  have hD : va_D A ((oC q0 6 [.int u, .int v, .int 0] :: X0) ++ va_pl L f) := hD
  refine lv_aload_n hx hb dX6_init_14 rfl (lv_at hl 0 rfl) ?_
  refine lv_iload_n hx hb dX6_init_15 rfl (lv_at hl 3 rfl) ?_
  refine va_putF (D := D) (ci := 6) (v := .int w) (ty := .int) (C := RX6) (T := TX6) (N := 3) hx hb hts hin_X6 tyX6 tyX6_ok nmX6 hown hK hP hD hS 0 rfl rfl 2 (by decide) (hts (.fieldLink RX6 16 "CryOrder$Silence" "to" "I") (by decide +kernel)) (fun _ h9 => h9) rfl hnm rfl (by decide +kernel) rfl rfl (Nat.le_of_ble_eq_true rfl) dX6_init_16 (fun H_3 locs hP hD hS => ?_)
  have hP : va_P D vwCl ((oC q0 6 [.int u, .int v, .int w] :: X0) ++ va_pl L f) H_3 := hP
  have hD : va_D A ((oC q0 6 [.int u, .int v, .int w] :: X0) ++ va_pl L f) := hD
  refine W.widen (k := 0) (n := 0) (Nat.le_of_ble_eq_true rfl) (Nat.le_of_ble_eq_true rfl) ?_
  exact W.vret hx hb hr (fun t ht hW => ⟨⟨(), rfl, trivial, by rw [ht]; exact hP, va_K.moved hW.alike (hK.sub (tys' := []) [] rfl), hD⟩, hS.F ht⟩) hS.2.2 dX6_init_19
