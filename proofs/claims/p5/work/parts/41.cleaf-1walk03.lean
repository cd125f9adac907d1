set_option maxHeartbeats 4000000 in
set_option maxRecDepth 100000 in
theorem cl_child {p : Program} {l : Launch} {e : Env} {R : Room} {s : State} {m : MethodId} {args : Array Value} {below : List Frame} {meth : Method} {c : Code} {Q : State → Prop} {A : Nat → Prop} {cells slots : Nat} {D : va_G} {H : Heap} {locs : List Loc} {X0 : va_W} {L : List Nat} {K : Nat → Nat × Nat} {f : Nat → va_E} {S : Int} {tys : List (ClassId × FieldType)} {a : Nat} {v : Int32} (hx : p.tables.exec = Jvm.exec) (hb : c.code = cX3_child) (hts : ∀ w ∈ wsX3_child, w.before args s = true) (hml : c.maxLocals = 3) (hown : s.vm.findClass RX3 = some m.cls) (hN : Nq s) (hK : va_K D vwCl tys s) (hP : va_P D vwCl (X0 ++ va_pl L f) H) (hD : va_D A (X0 ++ va_pl L f)) (hR : 0 ≤ R.frames ∧ 0 ≤ R.locals) (hcs : cells ≤ R.cells ∧ slots ≤ R.slots) (hI : cqI S L K f) (done_25 : ∀ (ea : Option Nat) (ls : Array Slot), (cqOp L K 3 ea) → lv_has ls 3 [(2, va_rf ea), (0, .ref a), (1, .int v)] → W p l e R s m args below meth c H locs cells slots Q (F0 m 25 ls [])) : ∀ (n : Nat), ∀ (ea : Option Nat) (j : Nat) (ls : Array Slot), (cqLo L K 3 ea j) → (j < n) → lv_has ls 3 [(2, va_rf ea), (0, .ref a), (1, .int v)] → W p l e R s m args below meth c H locs cells slots Q (F0 m 5 ls []) := by
  have hin_X3 : ∀ w ∈ u_ws RX3 TX3 8, w ∈ wsX3_child := fun w h => List.mem_cons_of_mem _ (List.mem_append_right _ (h))
  intro n
  induction n with
  | zero => intro ea j ls hlo hmu hl; exact absurd hmu (Nat.not_lt_zero _)
  | succ n ih =>
    intro ea j ls hlo hmu hl
    refine q_aload_n hx hb dX3_child_5 rfl (lv_at hl 0 rfl) ?_
    rcases ea with _ | b_1
    · have hl : lv_has ls 3 [(2, .null), (0, .ref a), (1, .int v)] := hl
      refine lv_ifnullN (tgt := 25) hx hb dX3_child_6 (by decide) ?_
      exact done_25 none _ cqOp.none (lv_sub hl [0, 1, 2] rfl)
    · have hl : lv_has ls 3 [(2, .ref b_1), (0, .ref a), (1, .int v)] := hl
      obtain ⟨is_2, lis_2⟩ := hlo b_1 rfl
      refine lv_ifnull hx hb dX3_child_6 ?_
      refine lv_aload_n hx hb dX3_child_9 rfl (lv_at hl 0 rfl) ?_
      obtain ⟨pa_3, de_3, ma_3, sb_3, fc_3, tu_3, sd_3, op_3, hf_3, hpa_3, hsb_3, hfc_3⟩ := hI.opN is_2
      refine pl_get (D := D) (ci := 3) (v := .int ma_3) (C := RX3) (T := TX3) (N := 8) hx hb hts hin_X3 hown hK hP is_2.1 hf_3 rfl 2 (by decide) (hts (.fieldLink RX3 19 "CryOrder$Node" "mark" "I") (List.mem_cons_of_mem _ (List.mem_append_left _ (List.mem_of_getElem? (i := 1) rfl)))) (fun _ h9 => h9) rfl dX3_child_10 ?_
      refine lv_iload_n hx hb dX3_child_13 rfl (lv_at hl 2 rfl) ?_
      refine bi_eq (zx := (ma_3).toInt) (zy := (v).toInt) (tgt := 25) hx hb dX3_child_14 (by decide) rfl rfl (fun c_4 => ?_) (fun c_4 => ?_)
      · exact done_25 (some b_1) _ (cqOp.some is_2) (lv_sub hl [0, 1, 2] rfl)
      · refine lv_aload_n hx hb dX3_child_17 rfl (lv_at hl 0 rfl) ?_
        refine pl_get (D := D) (ci := 3) (v := va_rf sb_3) (C := RX3) (T := TX3) (N := 8) hx hb hts hin_X3 hown hK hP is_2.1 hf_3 rfl 3 (by decide) (hts (.fieldLink RX3 22 "CryOrder$Node" "sibling" "LCryOrder$Node;") (List.mem_cons_of_mem _ (List.mem_append_left _ (List.mem_of_getElem? (i := 2) rfl)))) (fun _ h9 => h9) rfl dX3_child_18 ?_
        refine q_astore_n (r := sb_3) (lv' := [(2, va_rf sb_3), (0, .ref a), (1, .int v)]) hx hb dX3_child_21 rfl hl (by decide) rfl (fun ls hl => ?_)
        refine lv_goto (tgt := 5) hx hb dX3_child_22 (by decide) ?_
        exact ih sb_3 ((K b_1).2) _ hsb_3 (by omega) (lv_sub hl [0, 1, 2] rfl)

set_option maxHeartbeats 4000000 in
set_option maxRecDepth 100000 in
theorem c_X3_child (l : Launch) (D : va_G) (X0 : va_W) (L : List Nat) (K : Nat → Nat × Nat) (f : Nat → va_E) (S : Int) (tys : List (ClassId × FieldType)) (a : Nat) (v : Int32) (hI : cqI S L K f) (ha : cqIs L K 3 a) : Met l yX3_child wsX3_child ({ frames := 0, cells := 0, slots := 0, locals := 0 }) (va_Pc [.ref a, .int v] (wo D tys (X0 ++ va_pl L f))) (va_Sq (fun r => cqOp L K 3 r)) 0 0 (fun _ => False) := by
  refine Met.ofW (cc := cX3_child) (maxL := 3) (ret := (some (.object "CryOrder$Node"))) (by decide) rfl ?_
  intro p e s m args below meth c s₁ B hml hv
  obtain ⟨rfl, hP, hK, hD, hN⟩ := hv
  have hx := B.exec
  have hb := B.bytes
  have hr := B.returns
  have hts := atoms_spec (ws := wsX3_child) B.pre
  have hown : s.vm.findClass RX3 = some m.cls := findClass_of_methodNamed B.named
  have hlocks := B.notSynchronized
  have hin_X3 : ∀ w ∈ u_ws RX3 TX3 8, w ∈ wsX3_child := fun w h => List.mem_cons_of_mem _ (List.mem_append_right _ (h))
  have hl := lv_entry ([.ref a, .int v]) (n := 3) (Nat.le_of_ble_eq_true rfl)
  rw [lg_entry_eq]
  generalize (lg_sl ([.ref a, .int v]) ++ List.replicate (3 - (lg_sl ([.ref a, .int v])).length) Slot.unset).toArray = ls at hl ⊢
  have hl : lv_has ls 3 [(0, .ref a), (1, .int v)] := hl
  refine lv_aload_n hx hb dX3_child_0 rfl (lv_at hl 0 rfl) ?_
  obtain ⟨pa_1, de_1, ma_1, sb_1, fc_1, tu_1, sd_1, op_1, hf_1, hpa_1, hsb_1, hfc_1⟩ := hI.opN ha
  refine pl_get (D := D) (ci := 3) (v := va_rf fc_1) (C := RX3) (T := TX3) (N := 8) hx hb hts hin_X3 hown hK hP ha.1 hf_1 rfl 4 (by decide) (hts (.fieldLink RX3 25 "CryOrder$Node" "firstChild" "LCryOrder$Node;") (List.mem_cons_of_mem _ (List.mem_append_left _ (List.mem_of_getElem? (i := 0) rfl)))) (fun _ h9 => h9) rfl dX3_child_1 ?_
  refine q_astore_n (r := fc_1) (lv' := [(2, va_rf fc_1), (0, .ref a), (1, .int v)]) hx hb dX3_child_4 rfl hl (by decide) rfl (fun ls hl => ?_)
  obtain ⟨j_2, hj_2⟩ := cq_lo hfc_1
  refine cl_child hx hb hts hml hown hN hK hP hD ⟨(Nat.le_of_ble_eq_true rfl), (Nat.le_of_ble_eq_true rfl)⟩ ⟨(Nat.le_of_ble_eq_true rfl), (Nat.le_of_ble_eq_true rfl)⟩ hI (fun ea_3 ls h_5 hl => ?_) _ fc_1 j_2 _ hj_2 (Nat.lt_succ_self _) (lv_sub hl [0, 1, 2] rfl)
  have h_5 : cqOp L K 3 ea_3 := h_5
  refine q_aload_n hx hb dX3_child_25 rfl (lv_at hl 0 rfl) ?_
  exact W.aret (v := va_rf ea_3) hx hb hr (Or.inl ⟨_, rfl⟩) (va_rf_or ea_3) (fun t ht hW => ⟨ea_3, rfl, h_5, ht⟩) (fun q h => by cases h) dX3_child_26

set_option maxHeartbeats 4000000 in
set_option maxRecDepth 100000 in
theorem cl_find {p : Program} {l : Launch} {e : Env} {R : Room} {s : State} {m : MethodId} {args : Array Value} {below : List Frame} {meth : Method} {c : Code} {Q : State → Prop} {A : Nat → Prop} {cells slots : Nat} {D : va_G} {H : Heap} {locs : List Loc} {X0 : va_W} {L : List Nat} {K : Nat → Nat × Nat} {f : Nat → va_E} {S : Int} {tys : List (ClassId × FieldType)} {a : Nat} {v : Int32} {w : Int32} (hx : p.tables.exec = Jvm.exec) (hb : c.code = cX3_find) (hts : ∀ w ∈ wsX3_find, w.before args s = true) (hml : c.maxLocals = 5) (hown : s.vm.findClass RX3 = some m.cls) (hN : Nq s) (hK : va_K D vwCl tys s) (hP : va_P D vwCl (X0 ++ va_pl L f) H) (hD : va_D A (X0 ++ va_pl L f)) (hR : 1 ≤ R.frames ∧ 22 ≤ R.locals) (hcs : cells ≤ R.cells ∧ slots ≤ R.slots) (hI : cqI S L K f) (hv : 0 ≤ (v).toInt ∧ (v).toInt ≤ 4) (done_32 : ∀ (d : Int32) (at1 : Option Nat) (ls : Array Slot), (cqOp L K 3 at1) → lv_has ls 5 [(4, .int d), (3, va_rf at1), (0, .ref a), (1, .int v), (2, .int w)] → W p l e R s m args below meth c H locs cells slots Q (F0 m 32 ls [])) : ∀ (n : Nat), ∀ (d : Int32) (at1 : Option Nat) (ls : Array Slot), (0 ≤ (d).toInt ∧ (d).toInt ≤ 4) → (cqOp L K 3 at1) → ((4 - (d).toInt).toNat < n) → lv_has ls 5 [(4, .int d), (3, va_rf at1), (0, .ref a), (1, .int v), (2, .int w)] → W p l e R s m args below meth c H locs cells slots Q (F0 m 5 ls []) := by
  intro n
  induction n with
  | zero => intro d at1 ls hd hop hmu hl; exact absurd hmu (Nat.not_lt_zero _)
  | succ n ih =>
    intro d at1 ls hd hop hmu hl
    refine lv_iload hx hb dX3_find_5 (lv_at hl 0 rfl) ?_
    refine lv_iload_n hx hb dX3_find_7 rfl (lv_at hl 3 rfl) ?_
    refine bi_ge (zx := (d).toInt) (zy := (v).toInt) (tgt := 32) hx hb dX3_find_8 (by decide) rfl rfl (fun c_1 => ?_) (fun c_1 => ?_)
    · exact done_32 d at1 _ hop (lv_sub hl [0, 1, 2, 3, 4] rfl)
    · refine q_aload_n hx hb dX3_find_11 rfl (lv_at hl 1 rfl) ?_
      rcases at1 with _ | b_2
      · have hl : lv_has ls 5 [(4, .int d), (3, .null), (0, .ref a), (1, .int v), (2, .int w)] := hl
        refine lv_ifnullN (tgt := 32) hx hb dX3_find_12 (by decide) ?_
        exact done_32 d none _ cqOp.none (lv_sub hl [0, 1, 2, 3, 4] rfl)
      · have hl : lv_has ls 5 [(4, .int d), (3, .ref b_2), (0, .ref a), (1, .int v), (2, .int w)] := hl
        have is_3 := hop b_2 rfl
        refine lv_ifnull hx hb dX3_find_12 ?_
        refine lv_aload_n hx hb dX3_find_15 rfl (lv_at hl 1 rfl) ?_
        refine lv_iload_n hx hb dX3_find_16 rfl (lv_at hl 4 rfl) ?_
        refine lv_iload hx hb dX3_find_17 (lv_at hl 0 rfl) ?_
        refine vp_callSi (zrS (As := [.int w, .int d]) (rest := [.ref b_2]) (wc := []) ⟨hx, hb, hml, hown, hts⟩ hN hK hP hD (c_X3_markAt l D w d ) (va_cwS 2 hts gX3_find_X3_markAt rfl rfl rfl (by decide +kernel) ⟨Nat.le_trans (m := 1) (Nat.le_of_ble_eq_true rfl) hR.1, Nat.le_trans (m := 22) (Nat.le_of_ble_eq_true rfl) hR.2⟩) [] [] rfl rfl (by decide) rfl hl.1 rfl (Nat.le_of_ble_eq_true rfl) dX3_find_19 ⟨hcs.1, hcs.2⟩) (fun r_4 h_5 => ?_)
        refine va_csq (wrV (As := [.int r_4]) (rest := []) ⟨hx, hb, hml, hown, hts⟩ hN hK hP hD (c_X3_child l D X0 L K f S tys b_2 r_4 hI is_3) (cwV 1 hts gX3_find_X3_child rfl rfl rfl (by decide +kernel) ⟨Nat.le_trans (m := 1) (Nat.le_of_ble_eq_true rfl) hR.1, Nat.le_trans (m := 22) (Nat.le_of_ble_eq_true rfl) hR.2⟩) 3 rfl (cq_rcN (X := X0) hI is_3) rfl hl.1 rfl (Nat.le_of_ble_eq_true rfl) dX3_find_22 ⟨hcs.1, hcs.2⟩) (fun r_6 h_7 => ?_)
        have h_7 : cqOp L K 3 r_6 := h_7
        refine q_astore_n (r := r_6) (lv' := [(3, va_rf r_6), (4, .int d), (0, .ref a), (1, .int v), (2, .int w)]) hx hb dX3_find_25 rfl hl (by decide) rfl (fun ls hl => ?_)
        obtain ⟨x_8, ex_8⟩ : ∃ z : Int32, z = d + 1 := ⟨_, rfl⟩
        have tx_8 := ad_toInt (x := d) (y := 1) (z := x_8) (zx := (d).toInt) (zy := 1) ex_8 rfl (by decide)
        refine lv_iinc (v := x_8) (lv' := [(4, .int x_8), (3, va_rf r_6), (0, .ref a), (1, .int v), (2, .int w)]) hx hb dX3_find_26 hl (k := 1) rfl (by rw [ex_8]; rfl) (by decide) (by cases r_6 <;> rfl) (fun ls hl => ?_)
        refine lv_goto (tgt := 5) hx hb dX3_find_29 (by decide) ?_
        exact ih x_8 r_6 _ (by first | omega | assumption | decide | (have h3 : (0 : Int32).toInt = 0 := rfl; omega) | (have h3 : (0 : Int32).toInt = 0 := rfl; have h4 : (1 : Int32).toInt = 1 := rfl; have h5 : (-1 : Int32).toInt = -1 := rfl; omega)) h_7 (by omega) (lv_sub hl [0, 1, 2, 3, 4] rfl)

set_option maxHeartbeats 4000000 in
set_option maxRecDepth 100000 in
theorem c_X3_find (l : Launch) (D : va_G) (X0 : va_W) (L : List Nat) (K : Nat → Nat × Nat) (f : Nat → va_E) (S : Int) (tys : List (ClassId × FieldType)) (a : Nat) (v : Int32) (w : Int32) (hI : cqI S L K f) (ha : cqIs L K 3 a) (hv : 0 ≤ (v).toInt ∧ (v).toInt ≤ 4) : Met l yX3_find wsX3_find ({ frames := 1, cells := 0, slots := 0, locals := 22 }) (va_Pc [.ref a, .int v, .int w] (wo D tys (X0 ++ va_pl L f))) (va_Sq (fun r => cqOp L K 3 r)) 0 0 (fun _ => False) := by
  refine Met.ofW (cc := cX3_find) (maxL := 5) (ret := (some (.object "CryOrder$Node"))) (by decide) rfl ?_
  intro p e s m args below meth c s₁ B hml hv
  obtain ⟨rfl, hP, hK, hD, hN⟩ := hv
  have hx := B.exec
  have hb := B.bytes
  have hr := B.returns
  have hts := atoms_spec (ws := wsX3_find) B.pre
  have hown : s.vm.findClass RX3 = some m.cls := findClass_of_methodNamed B.named
  have hlocks := B.notSynchronized
  have hl := lv_entry ([.ref a, .int v, .int w]) (n := 5) (Nat.le_of_ble_eq_true rfl)
  rw [lg_entry_eq]
  generalize (lg_sl ([.ref a, .int v, .int w]) ++ List.replicate (5 - (lg_sl ([.ref a, .int v, .int w])).length) Slot.unset).toArray = ls at hl ⊢
  have hl : lv_has ls 5 [(0, .ref a), (1, .int v), (2, .int w)] := hl
  refine lv_aload_n hx hb dX3_find_0 rfl (lv_at hl 0 rfl) ?_
  refine lv_astore_n (lv' := [(3, .ref a), (0, .ref a), (1, .int v), (2, .int w)]) hx hb dX3_find_1 rfl hl (by decide) rfl (fun ls hl => ?_)
  refine lv_iconst (v := 0) hx hb dX3_find_2 (by decide) ?_
  refine lv_istore (lv' := [(4, .int 0), (3, .ref a), (0, .ref a), (1, .int v), (2, .int w)]) hx hb dX3_find_3 hl (by decide) rfl (fun ls hl => ?_)
  refine cl_find hx hb hts hml hown hN hK hP hD ⟨(Nat.le_of_ble_eq_true rfl), (Nat.le_of_ble_eq_true rfl)⟩ ⟨(Nat.le_of_ble_eq_true rfl), (Nat.le_of_ble_eq_true rfl)⟩ hI (by first | omega | assumption | decide | (have h3 : (0 : Int32).toInt = 0 := rfl; omega) | (have h3 : (0 : Int32).toInt = 0 := rfl; have h4 : (1 : Int32).toInt = 1 := rfl; have h5 : (-1 : Int32).toInt = -1 := rfl; omega)) (fun d_1 at_2 ls h_4 hl => ?_) _ 0 (some a) _ (by first | omega | assumption | decide | (have h3 : (0 : Int32).toInt = 0 := rfl; omega) | (have h3 : (0 : Int32).toInt = 0 := rfl; have h4 : (1 : Int32).toInt = 1 := rfl; have h5 : (-1 : Int32).toInt = -1 := rfl; omega)) (cqOp.some ha) (Nat.lt_succ_self _) (lv_sub hl [0, 1, 2, 3, 4] rfl)
  have h_4 : cqOp L K 3 at_2 := h_4
  refine q_aload_n hx hb dX3_find_32 rfl (lv_at hl 1 rfl) ?_
  exact W.aret (v := va_rf at_2) hx hb hr (Or.inl ⟨_, rfl⟩) (va_rf_or at_2) (fun t ht hW => ⟨at_2, rfl, h_4, ht⟩) (fun q h => by cases h) dX3_find_33
