set_option maxHeartbeats 4000000 in
set_option maxRecDepth 100000 in
theorem c_X0_init (l : Launch) (D : va_G) (sz : Nat) (X0 : va_W) (L : List Nat) (K : Nat → Nat × Nat) (f : Nat → va_E) (S : Int) (tys : List (ClassId × FieldType)) (q0 : Nat) (v1 : Int32) (v2 : Int32) (v3 : Int32) (v4 : Int32) (v5 : Int32) (v6 : Int32) (a : Nat) (hI : cqI S L K f) (ha : cqIs L K 3 a) : Met l yX0_init wsX0_init ({ frames := 2, cells := 1, slots := 4, locals := 33 }) (va_Pc [.ref q0, .int v1, .int v2, .int v3, .int v4, .int v5, .int v6, .ref a] (wz sz D tys ((oC q0 0 [.int 0, .int 0, .int 0, .int 0, .int 0, .int 0, .null, .null, .int 0, .int 0, .int 0, .int 0, .int 0, .int 0, .int 0, .null, .null] :: X0) ++ va_pl L f))) (va_Qv (fun (_ : Unit) => True) (fun _ t => ∃ (qc : Nat), wp D [] (va_A ((oC q0 0 [.int 0, .int 0, .int 0, .int 0, .int 0, .int 0, .null, .null, .int 0, .int 0, .int 0, .int 0, .int 0, .int 0, .int 0, .null, .null] :: X0) ++ va_pl L f) sz) ((oC qc 1 [.int v1, .int 0, .int 0, .int 0] :: oC q0 0 [.int v1, .int v2, .int v3, .int v4, .int v5, .int v6, .ref a, .ref qc, .int 0, .int 0, .int v2, .int 0, .int 0, .int 0, .int 0, .null, .null] :: X0) ++ va_pl L f) t) (va_A ((oC q0 0 [.int 0, .int 0, .int 0, .int 0, .int 0, .int 0, .null, .null, .int 0, .int 0, .int 0, .int 0, .int 0, .int 0, .int 0, .null, .null] :: X0) ++ va_pl L f) sz)) 1 4 (va_A ((oC q0 0 [.int 0, .int 0, .int 0, .int 0, .int 0, .int 0, .null, .null, .int 0, .int 0, .int 0, .int 0, .int 0, .int 0, .int 0, .null, .null] :: X0) ++ va_pl L f) sz) := by
  refine Met.ofW (cc := cX0_init) (maxL := 8) (ret := none) (by decide) rfl ?_
  intro p e s m args below meth c s₁ B hml hv
  obtain ⟨rfl, hsz, hP, hK, hD0, hN⟩ := hv
  have hx := B.exec
  have hb := B.bytes
  have hr := B.returns
  have hts := atoms_spec (ws := wsX0_init) B.pre
  have hown : s.vm.findClass RX0 = some m.cls := findClass_of_methodNamed B.named
  have hlocks := B.notSynchronized
  have hnm : meth.name = "<init>" := (name_of_methodNamed B.named B.method).1
  subst hsz
  have hD := hD0.self (sz := s.heap.size)
  generalize hAe : va_A ((oC q0 0 [.int 0, .int 0, .int 0, .int 0, .int 0, .int 0, .null, .null, .int 0, .int 0, .int 0, .int 0, .int 0, .int 0, .int 0, .null, .null] :: X0) ++ va_pl L f) s.heap.size = A at hD ⊢
  have hA : ∀ q : Nat, s.heap.size ≤ q → A q := fun q h => by rw [← hAe]; exact Or.inr h
  have hS : va_S A s.heap s.heap [] := va_S.rf
  have hin_X0 : ∀ w ∈ u_ws RX0 TX0 17, w ∈ wsX0_init := fun w h => List.mem_cons_of_mem _ (List.mem_append_left _ (List.mem_append_right _ (h)))
  have hin_X1 : ∀ w ∈ u_ws RX1 TX1 4, w ∈ wsX0_init := fun w h => List.mem_cons_of_mem _ (List.mem_append_right _ (h))
  have hl := lv_entry ([.ref q0, .int v1, .int v2, .int v3, .int v4, .int v5, .int v6, .ref a]) (n := 8) (Nat.le_of_ble_eq_true rfl)
  rw [lg_entry_eq]
  generalize (lg_sl ([.ref q0, .int v1, .int v2, .int v3, .int v4, .int v5, .int v6, .ref a]) ++ List.replicate (8 - (lg_sl ([.ref q0, .int v1, .int v2, .int v3, .int v4, .int v5, .int v6, .ref a])).length) Slot.unset).toArray = ls at hl ⊢
  have hl : lv_has ls 8 [(0, .ref q0), (1, .int v1), (2, .int v2), (3, .int v3), (4, .int v4), (5, .int v5), (6, .int v6), (7, .ref a)] := hl
  refine lv_aload_n hx hb dX0_init_0 rfl (lv_at hl 0 rfl) ?_
  refine W.objInit hx hb hown (hts (.methodLink RX0 3 objectInit) (List.mem_cons_of_mem _ (List.mem_append_left _ (List.mem_append_left _ (List.mem_of_getElem? (i := 0) rfl))))) (hts (.instanceMethod objectInit) (List.mem_cons_of_mem _ (List.mem_append_left _ (List.mem_append_left _ (List.mem_of_getElem? (i := 1) rfl))))) (hts (.code objectInit ⟨#[0xb1]⟩ 1 none) (List.mem_cons_of_mem _ (List.mem_append_left _ (List.mem_append_left _ (List.mem_of_getElem? (i := 2) rfl))))) rfl (by rw [hml]; exact hl.1) rfl dX0_init_1 (Nat.le_of_ble_eq_true rfl) (Nat.le_of_ble_eq_true rfl) ?_
  refine W.eq (g2 := F0 m 4 ls []) rfl ?_
  refine lv_aload_n hx hb dX0_init_4 rfl (lv_at hl 0 rfl) ?_
  refine lv_iconst (v := 0) hx hb dX0_init_5 (by decide) ?_
  refine va_put (D := D) (ci := 0) (v := .int 0) (ty := .int) (C := RX0) (T := TX0) (N := 17) hx hb hts hin_X0 tyX0 tyX0_ok nmX0 hown hK hP hD hS 0 rfl rfl 12 (by decide) (hts (.fieldLink RX0 9 "CryOrder$Alarm" "state" "I") (List.mem_cons_of_mem _ (List.mem_append_left _ (List.mem_append_left _ (List.mem_of_getElem? (i := 3) rfl))))) (fun _ h9 => h9) rfl (by decide +kernel) rfl rfl (Nat.le_of_ble_eq_true rfl) dX0_init_6 (fun H_1 locs hP hD hS => ?_)
  have hP : va_P D vwCl ((oC q0 0 [.int 0, .int 0, .int 0, .int 0, .int 0, .int 0, .null, .null, .int 0, .int 0, .int 0, .int 0, .int 0, .int 0, .int 0, .null, .null] :: X0) ++ va_pl L f) H_1 := hP
  have hD : va_D A ((oC q0 0 [.int 0, .int 0, .int 0, .int 0, .int 0, .int 0, .null, .null, .int 0, .int 0, .int 0, .int 0, .int 0, .int 0, .int 0, .null, .null] :: X0) ++ va_pl L f) := hD
  refine lv_aload_n hx hb dX0_init_9 rfl (lv_at hl 0 rfl) ?_
  refine lv_iload_n hx hb dX0_init_10 rfl (lv_at hl 1 rfl) ?_
  refine va_putF (D := D) (ci := 0) (v := .int v1) (ty := .int) (C := RX0) (T := TX0) (N := 17) hx hb hts hin_X0 tyX0 tyX0_ok nmX0 hown hK hP hD hS 0 rfl rfl 0 (by decide) (hts (.fieldLink RX0 15 "CryOrder$Alarm" "number" "I") (List.mem_cons_of_mem _ (List.mem_append_left _ (List.mem_append_left _ (List.mem_of_getElem? (i := 4) rfl))))) (fun _ h9 => h9) rfl hnm rfl (by decide +kernel) rfl rfl (Nat.le_of_ble_eq_true rfl) dX0_init_11 (fun H_2 locs hP hD hS => ?_)
  have hP : va_P D vwCl ((oC q0 0 [.int v1, .int 0, .int 0, .int 0, .int 0, .int 0, .null, .null, .int 0, .int 0, .int 0, .int 0, .int 0, .int 0, .int 0, .null, .null] :: X0) ++ va_pl L f) H_2 := hP
  have hD : va_D A ((oC q0 0 [.int v1, .int 0, .int 0, .int 0, .int 0, .int 0, .null, .null, .int 0, .int 0, .int 0, .int 0, .int 0, .int 0, .int 0, .null, .null] :: X0) ++ va_pl L f) := hD
  refine lv_aload_n hx hb dX0_init_14 rfl (lv_at hl 0 rfl) ?_
  refine lv_iload_n hx hb dX0_init_15 rfl (lv_at hl 2 rfl) ?_
  refine va_putF (D := D) (ci := 0) (v := .int v2) (ty := .int) (C := RX0) (T := TX0) (N := 17) hx hb hts hin_X0 tyX0 tyX0_ok nmX0 hown hK hP hD hS 0 rfl rfl 1 (by decide) (hts (.fieldLink RX0 18 "CryOrder$Alarm" "came" "I") (List.mem_cons_of_mem _ (List.mem_append_left _ (List.mem_append_left _ (List.mem_of_getElem? (i := 5) rfl))))) (fun _ h9 => h9) rfl hnm rfl (by decide +kernel) rfl rfl (Nat.le_of_ble_eq_true rfl) dX0_init_16 (fun H_3 locs hP hD hS => ?_)
  have hP : va_P D vwCl ((oC q0 0 [.int v1, .int v2, .int 0, .int 0, .int 0, .int 0, .null, .null, .int 0, .int 0, .int 0, .int 0, .int 0, .int 0, .int 0, .null, .null] :: X0) ++ va_pl L f) H_3 := hP
  have hD : va_D A ((oC q0 0 [.int v1, .int v2, .int 0, .int 0, .int 0, .int 0, .null, .null, .int 0, .int 0, .int 0, .int 0, .int 0, .int 0, .int 0, .null, .null] :: X0) ++ va_pl L f) := hD
  refine lv_aload_n hx hb dX0_init_19 rfl (lv_at hl 0 rfl) ?_
  refine lv_iload_n hx hb dX0_init_20 rfl (lv_at hl 3 rfl) ?_
  refine va_putF (D := D) (ci := 0) (v := .int v3) (ty := .int) (C := RX0) (T := TX0) (N := 17) hx hb hts hin_X0 tyX0 tyX0_ok nmX0 hown hK hP hD hS 0 rfl rfl 2 (by decide) (hts (.fieldLink RX0 21 "CryOrder$Alarm" "source" "I") (List.mem_cons_of_mem _ (List.mem_append_left _ (List.mem_append_left _ (List.mem_of_getElem? (i := 6) rfl))))) (fun _ h9 => h9) rfl hnm rfl (by decide +kernel) rfl rfl (Nat.le_of_ble_eq_true rfl) dX0_init_21 (fun H_4 locs hP hD hS => ?_)
  have hP : va_P D vwCl ((oC q0 0 [.int v1, .int v2, .int v3, .int 0, .int 0, .int 0, .null, .null, .int 0, .int 0, .int 0, .int 0, .int 0, .int 0, .int 0, .null, .null] :: X0) ++ va_pl L f) H_4 := hP
  have hD : va_D A ((oC q0 0 [.int v1, .int v2, .int v3, .int 0, .int 0, .int 0, .null, .null, .int 0, .int 0, .int 0, .int 0, .int 0, .int 0, .int 0, .null, .null] :: X0) ++ va_pl L f) := hD
  refine lv_aload_n hx hb dX0_init_24 rfl (lv_at hl 0 rfl) ?_
  refine lv_iload hx hb dX0_init_25 (lv_at hl 4 rfl) ?_
  refine va_putF (D := D) (ci := 0) (v := .int v4) (ty := .int) (C := RX0) (T := TX0) (N := 17) hx hb hts hin_X0 tyX0 tyX0_ok nmX0 hown hK hP hD hS 0 rfl rfl 3 (by decide) (hts (.fieldLink RX0 24 "CryOrder$Alarm" "thing" "I") (List.mem_cons_of_mem _ (List.mem_append_left _ (List.mem_append_left _ (List.mem_of_getElem? (i := 7) rfl))))) (fun _ h9 => h9) rfl hnm rfl (by decide +kernel) rfl rfl (Nat.le_of_ble_eq_true rfl) dX0_init_27 (fun H_5 locs hP hD hS => ?_)
  have hP : va_P D vwCl ((oC q0 0 [.int v1, .int v2, .int v3, .int v4, .int 0, .int 0, .null, .null, .int 0, .int 0, .int 0, .int 0, .int 0, .int 0, .int 0, .null, .null] :: X0) ++ va_pl L f) H_5 := hP
  have hD : va_D A ((oC q0 0 [.int v1, .int v2, .int v3, .int v4, .int 0, .int 0, .null, .null, .int 0, .int 0, .int 0, .int 0, .int 0, .int 0, .int 0, .null, .null] :: X0) ++ va_pl L f) := hD
  refine lv_aload_n hx hb dX0_init_30 rfl (lv_at hl 0 rfl) ?_
  refine lv_iload hx hb dX0_init_31 (lv_at hl 5 rfl) ?_
  refine va_putF (D := D) (ci := 0) (v := .int v5) (ty := .int) (C := RX0) (T := TX0) (N := 17) hx hb hts hin_X0 tyX0 tyX0_ok nmX0 hown hK hP hD hS 0 rfl rfl 4 (by decide) (hts (.fieldLink RX0 27 "CryOrder$Alarm" "marks" "I") (List.mem_cons_of_mem _ (List.mem_append_left _ (List.mem_append_left _ (List.mem_of_getElem? (i := 8) rfl))))) (fun _ h9 => h9) rfl hnm rfl (by decide +kernel) rfl rfl (Nat.le_of_ble_eq_true rfl) dX0_init_33 (fun H_6 locs hP hD hS => ?_)
  have hP : va_P D vwCl ((oC q0 0 [.int v1, .int v2, .int v3, .int v4, .int v5, .int 0, .null, .null, .int 0, .int 0, .int 0, .int 0, .int 0, .int 0, .int 0, .null, .null] :: X0) ++ va_pl L f) H_6 := hP
  have hD : va_D A ((oC q0 0 [.int v1, .int v2, .int v3, .int v4, .int v5, .int 0, .null, .null, .int 0, .int 0, .int 0, .int 0, .int 0, .int 0, .int 0, .null, .null] :: X0) ++ va_pl L f) := hD
  refine lv_aload_n hx hb dX0_init_36 rfl (lv_at hl 0 rfl) ?_
  refine lv_iload hx hb dX0_init_37 (lv_at hl 6 rfl) ?_
  refine va_putF (D := D) (ci := 0) (v := .int v6) (ty := .int) (C := RX0) (T := TX0) (N := 17) hx hb hts hin_X0 tyX0 tyX0_ok nmX0 hown hK hP hD hS 0 rfl rfl 5 (by decide) (hts (.fieldLink RX0 30 "CryOrder$Alarm" "worth" "I") (List.mem_cons_of_mem _ (List.mem_append_left _ (List.mem_append_left _ (List.mem_of_getElem? (i := 9) rfl))))) (fun _ h9 => h9) rfl hnm rfl (by decide +kernel) rfl rfl (Nat.le_of_ble_eq_true rfl) dX0_init_39 (fun H_7 locs hP hD hS => ?_)
  have hP : va_P D vwCl ((oC q0 0 [.int v1, .int v2, .int v3, .int v4, .int v5, .int v6, .null, .null, .int 0, .int 0, .int 0, .int 0, .int 0, .int 0, .int 0, .null, .null] :: X0) ++ va_pl L f) H_7 := hP
  have hD : va_D A ((oC q0 0 [.int v1, .int v2, .int v3, .int v4, .int v5, .int v6, .null, .null, .int 0, .int 0, .int 0, .int 0, .int 0, .int 0, .int 0, .null, .null] :: X0) ++ va_pl L f) := hD
  refine lv_aload_n hx hb dX0_init_42 rfl (lv_at hl 0 rfl) ?_
  refine lv_aload hx hb dX0_init_43 (lv_at hl 7 rfl) ?_
  refine va_putF (D := D) (ci := 0) (v := .ref a) (ty := .object "CryOrder$Node") (C := RX0) (T := TX0) (N := 17) hx hb hts hin_X0 tyX0 tyX0_ok nmX0 hown hK hP hD hS 0 rfl rfl 6 (by decide) (hts (.fieldLink RX0 33 "CryOrder$Alarm" "leaf" "LCryOrder$Node;") (List.mem_cons_of_mem _ (List.mem_append_left _ (List.mem_append_left _ (List.mem_of_getElem? (i := 10) rfl))))) (fun _ h9 => h9) rfl hnm rfl (by decide +kernel) rfl rfl (Nat.le_of_ble_eq_true rfl) dX0_init_45 (fun H_8 locs hP hD hS => ?_)
  have hP : va_P D vwCl ((oC q0 0 [.int v1, .int v2, .int v3, .int v4, .int v5, .int v6, .ref a, .null, .int 0, .int 0, .int 0, .int 0, .int 0, .int 0, .int 0, .null, .null] :: X0) ++ va_pl L f) H_8 := hP
  have hD : va_D A ((oC q0 0 [.int v1, .int v2, .int v3, .int v4, .int v5, .int v6, .ref a, .null, .int 0, .int 0, .int 0, .int 0, .int 0, .int 0, .int 0, .null, .null] :: X0) ++ va_pl L f) := hD
  refine lv_aload_n hx hb dX0_init_48 rfl (lv_at hl 0 rfl) ?_
  refine va_new (ci := 1) (fs := [.int 0, .int 0, .int 0, .int 0]) (C := RX1) (T := TX1) (N := 4) hx hb hts hin_X1 tyX1 tyX1_ok hown (hts (.classLink RX0 37 RX1) (List.mem_cons_of_mem _ (List.mem_append_left _ (List.mem_append_left _ (List.mem_of_getElem? (i := 11) rfl))))) (hts (.instantiable RX1 4) (List.mem_cons_of_mem _ (List.mem_append_left _ (List.mem_append_left _ (List.mem_of_getElem? (i := 12) rfl))))) (hts (.initialized RX1) (List.mem_cons_of_mem _ (List.mem_append_left _ (List.mem_append_left _ (List.mem_of_getElem? (i := 13) rfl))))) hK hP hD hS hA rfl dfX1 (Nat.le_of_ble_eq_true rfl) (Nat.le_of_ble_eq_true rfl) dX0_init_49 (fun q_9 H_10 hP hD hS => ?_)
  have hP : va_P D vwCl ((oC q_9 1 [.int 0, .int 0, .int 0, .int 0] :: oC q0 0 [.int v1, .int v2, .int v3, .int v4, .int v5, .int v6, .ref a, .null, .int 0, .int 0, .int 0, .int 0, .int 0, .int 0, .int 0, .null, .null] :: X0) ++ va_pl L f) H_10 := rotP hP
  have hD : va_D A ((oC q_9 1 [.int 0, .int 0, .int 0, .int 0] :: oC q0 0 [.int v1, .int v2, .int v3, .int v4, .int v5, .int v6, .ref a, .null, .int 0, .int 0, .int 0, .int 0, .int 0, .int 0, .int 0, .null, .null] :: X0) ++ va_pl L f) := rotD hD
  refine lv_dup hx hb dX0_init_52 rfl ?_
  refine lv_iload_n hx hb dX0_init_53 rfl (lv_at hl 1 rfl) ?_
  refine va_callv (wwI (mc := 0) (ms := 0) (As := [.int v1]) (rest := [.ref q_9, .ref q0]) ⟨hx, hb, hml, hown, hts⟩ hN hK hP hD (c_X1_init l D H_10.size (oC q0 0 [.int v1, .int v2, .int v3, .int v4, .int v5, .int v6, .ref a, .null, .int 0, .int 0, .int 0, .int 0, .int 0, .int 0, .int 0, .null, .null] :: X0) L K f S tys q_9 v1 hI) (cwI 1 hts gX0_init_X1_init rfl rfl rfl (hts (.initialized RX1) (List.mem_cons_of_mem _ (List.mem_append_left _ (List.mem_append_left _ (List.mem_of_getElem? (i := 13) rfl))))) (hts (.methodLink RX0 39 yX1_init) (List.mem_cons_of_mem _ (List.mem_append_left _ (List.mem_append_left _ (List.mem_of_getElem? (i := 16) rfl))))) (hts (.instanceMethod yX1_init) (List.mem_cons_of_mem _ (List.mem_append_left _ (List.mem_append_left _ (List.mem_of_getElem? (i := 17) rfl))))) rfl (by decide +kernel) ⟨(Nat.le_of_ble_eq_true rfl), (Nat.le_of_ble_eq_true rfl)⟩) rfl hl.1 rfl (Nat.le_of_ble_eq_true rfl) dX0_init_54 ⟨(Nat.le_of_ble_eq_true rfl), (Nat.le_of_ble_eq_true rfl)⟩) hS (fun q _ h => wfree hD hS hA q h) (wfree hD hS hA) (fun u t H_11 locs1 ht hvm hw hB hz1 hk1 hS1 => ?_)
  obtain ⟨hP, hD⟩ := wj hB ht (wfree hD hS hA)
  have hS := hS1
  have hP : va_P D vwCl ((oC q_9 1 [.int v1, .int 0, .int 0, .int 0] :: oC q0 0 [.int v1, .int v2, .int v3, .int v4, .int v5, .int v6, .ref a, .null, .int 0, .int 0, .int 0, .int 0, .int 0, .int 0, .int 0, .null, .null] :: X0) ++ va_pl L f) H_11 := hP
  have hD : va_D A ((oC q_9 1 [.int v1, .int 0, .int 0, .int 0] :: oC q0 0 [.int v1, .int v2, .int v3, .int v4, .int v5, .int v6, .ref a, .null, .int 0, .int 0, .int 0, .int 0, .int 0, .int 0, .int 0, .null, .null] :: X0) ++ va_pl L f) := hD
  refine va_putF (D := D) (ci := 0) (v := .ref q_9) (ty := .object "CryOrder$Case") (C := RX0) (T := TX0) (N := 17) hx hb hts hin_X0 tyX0 tyX0_ok nmX0 hown hK hP hD hS 1 rfl rfl 7 (by decide) (hts (.fieldLink RX0 42 "CryOrder$Alarm" "led" "LCryOrder$Case;") (List.mem_cons_of_mem _ (List.mem_append_left _ (List.mem_append_left _ (List.mem_of_getElem? (i := 14) rfl))))) (fun _ h9 => h9) rfl hnm rfl (by decide +kernel) rfl rfl (Nat.le_of_ble_eq_true rfl) dX0_init_57 (fun H_13 locs hP hD hS => ?_)
  have hP : va_P D vwCl ((oC q_9 1 [.int v1, .int 0, .int 0, .int 0] :: oC q0 0 [.int v1, .int v2, .int v3, .int v4, .int v5, .int v6, .ref a, .ref q_9, .int 0, .int 0, .int 0, .int 0, .int 0, .int 0, .int 0, .null, .null] :: X0) ++ va_pl L f) H_13 := hP
  have hD : va_D A ((oC q_9 1 [.int v1, .int 0, .int 0, .int 0] :: oC q0 0 [.int v1, .int v2, .int v3, .int v4, .int v5, .int v6, .ref a, .ref q_9, .int 0, .int 0, .int 0, .int 0, .int 0, .int 0, .int 0, .null, .null] :: X0) ++ va_pl L f) := hD
  refine lv_aload_n hx hb dX0_init_60 rfl (lv_at hl 0 rfl) ?_
  refine lv_iload_n hx hb dX0_init_61 rfl (lv_at hl 2 rfl) ?_
  refine va_put (D := D) (ci := 0) (v := .int v2) (ty := .int) (C := RX0) (T := TX0) (N := 17) hx hb hts hin_X0 tyX0 tyX0_ok nmX0 hown hK hP hD hS 1 rfl rfl 10 (by decide) (hts (.fieldLink RX0 46 "CryOrder$Alarm" "heardLast" "I") (List.mem_cons_of_mem _ (List.mem_append_left _ (List.mem_append_left _ (List.mem_of_getElem? (i := 15) rfl))))) (fun _ h9 => h9) rfl (by decide +kernel) rfl rfl (Nat.le_of_ble_eq_true rfl) dX0_init_62 (fun H_14 locs hP hD hS => ?_)
  have hP : va_P D vwCl ((oC q_9 1 [.int v1, .int 0, .int 0, .int 0] :: oC q0 0 [.int v1, .int v2, .int v3, .int v4, .int v5, .int v6, .ref a, .ref q_9, .int 0, .int 0, .int v2, .int 0, .int 0, .int 0, .int 0, .null, .null] :: X0) ++ va_pl L f) H_14 := hP
  have hD : va_D A ((oC q_9 1 [.int v1, .int 0, .int 0, .int 0] :: oC q0 0 [.int v1, .int v2, .int v3, .int v4, .int v5, .int v6, .ref a, .ref q_9, .int 0, .int 0, .int v2, .int 0, .int 0, .int 0, .int 0, .null, .null] :: X0) ++ va_pl L f) := hD
  refine W.widen (k := 1) (n := 4) (Nat.le_of_ble_eq_true rfl) (Nat.le_of_ble_eq_true rfl) ?_
  exact W.vret hx hb hr (fun t ht hW => ⟨⟨(), rfl, trivial, q_9, by rw [ht]; exact hP, va_K.moved hW.alike (hK.sub (tys' := []) [] rfl), hD⟩, hS.F ht⟩) hS.2.2 dX0_init_65
