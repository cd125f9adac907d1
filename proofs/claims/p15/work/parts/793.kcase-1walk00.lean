set_option maxHeartbeats 4000000 in
set_option maxRecDepth 100000 in
theorem c_X1_clearK (l : Launch) (D : va_G) (sz : Nat) (X0 : va_W) (L : List Nat) (K : Nat → Nat × Nat) (f : Nat → va_E) (S : Int) (tys : List (ClassId × FieldType)) (a : Nat) (hI : cqI S L K f) (ha : cqIs L K 1 a) (hS0 : 0 ≤ S) : Met l yX1_clear wsX1_clear ({ frames := 0, cells := 0, slots := 0, locals := 0 }) (va_Pc [.ref a] (wz sz D tys (X0 ++ va_pl L f))) (va_Qv (fun (_ : Unit) => True) (fun _ t => ∃ (f9 : Nat → va_E), (wp D [] (va_A (X0 ++ va_pl L f) sz) (X0 ++ va_pl L f9) t ∧ (cqI S L K f9) ∧ (cqT [(1, 1), (1, 2), (1, 3)] L K f f9) ∧ (cqO a f f9) ∧ (cqF (f9 a) 0 = cqF (f a) 0) ∧ (cqF (f9 a) 1 = 0) ∧ (cqF (f9 a) 2 = 0) ∧ (cqF (f9 a) 3 = 0))) (va_A (X0 ++ va_pl L f) sz)) 0 0 (va_A (X0 ++ va_pl L f) sz) := by
  refine Met.ofW (cc := cX1_clear) (maxL := 1) (ret := none) (by decide) rfl ?_
  intro p e s m args below meth c s₁ B hml hv
  obtain ⟨rfl, hsz, hP, hK, hD0, hN⟩ := hv
  have hx := B.exec
  have hb := B.bytes
  have hr := B.returns
  have hts := atoms_spec (ws := wsX1_clear) B.pre
  have hown : s.vm.findClass RX1 = some m.cls := findClass_of_methodNamed B.named
  have hlocks := B.notSynchronized
  subst hsz
  have hD := hD0.self (sz := s.heap.size)
  generalize hAe : va_A (X0 ++ va_pl L f) s.heap.size = A at hD ⊢
  have hA : ∀ q : Nat, s.heap.size ≤ q → A q := fun q h => by rw [← hAe]; exact Or.inr h
  have hS : va_S A s.heap s.heap [] := va_S.rf
  have hin_X1 : ∀ w ∈ u_ws RX1 TX1 4, w ∈ wsX1_clear := fun w h => List.mem_cons_of_mem _ (List.mem_append_right _ (h))
  have hl := lv_entry ([.ref a]) (n := 1) (Nat.le_of_ble_eq_true rfl)
  rw [lg_entry_eq]
  generalize (lg_sl ([.ref a]) ++ List.replicate (1 - (lg_sl ([.ref a])).length) Slot.unset).toArray = ls at hl ⊢
  have hl : lv_has ls 1 [(0, .ref a)] := hl
  have hT0 : cqT [(1, 1), (1, 2), (1, 3)] L K f f := cqT.rf
  have hG0 : cqG L K L K := cqG.rf
  have hO0 : cqO a f f := cqO.rf
  refine lv_aload_n hx hb dX1_clear_0 rfl (lv_at hl 0 rfl) ?_
  refine lv_iconst (v := 0) hx hb dX1_clear_1 (by decide) ?_
  obtain ⟨cn_1, sz_1, sc_1, li_1, hf_1, hs0_1, hs1_1⟩ := hI.opC ha
  have hqhf_1 := hf_1
  refine pl_put (D := D) (ci := 1) (v := .int 0) (ty := .int) (C := RX1) (T := TX1) (N := 4) hx hb hts hin_X1 tyX1 tyX1_ok nmX1 hown hK hP hD hS ha.1 hf_1 rfl 1 (by decide) (hts (.fieldLink RX1 13 "CryOrder$Case" "size" "I") (List.mem_cons_of_mem _ (List.mem_append_left _ (List.mem_of_getElem? (i := 0) rfl)))) (fun _ h9 => h9) rfl (by decide +kernel) rfl rfl (Nat.le_of_ble_eq_true rfl) dX1_clear_2 (fun H_2 locs hP hD hS => ?_)
  obtain ⟨f_3, ef_3⟩ : ∃ g, g = va_up f a (.inr (1, [.int cn_1, .int 0, .int sc_1, .int li_1])) := ⟨_, rfl⟩
  have hP : va_P D vwCl (X0 ++ va_pl L f_3) H_2 := by rw [ef_3]; exact hP
  have hD : va_D A (X0 ++ va_pl L f_3) := by rw [ef_3]; exact hD
  have hI : cqI S L K f_3 := hI.ptC ha ef_3 ⟨_, _, _, _, rfl, (by first | omega | decide), (by first | omega | (have h3 : (0 : Int32).toInt = 0 := rfl; omega))⟩
  have hT_4 := hT0.put (k := 1) hG0 ha ef_3 (.int 0) hf_1 rfl (by decide)
  have hO_5 := hO0.put ef_3
  have hf_1 : f_3 a = .inr (1, [.int cn_1, .int 0, .int sc_1, .int li_1]) := cq_same ef_3
  refine lv_aload_n hx hb dX1_clear_5 rfl (lv_at hl 0 rfl) ?_
  refine lv_iconst (v := 0) hx hb dX1_clear_6 (by decide) ?_
  refine pl_put (D := D) (ci := 1) (v := .int 0) (ty := .int) (C := RX1) (T := TX1) (N := 4) hx hb hts hin_X1 tyX1 tyX1_ok nmX1 hown hK hP hD hS ha.1 hf_1 rfl 2 (by decide) (hts (.fieldLink RX1 16 "CryOrder$Case" "score" "I") (List.mem_cons_of_mem _ (List.mem_append_left _ (List.mem_of_getElem? (i := 1) rfl)))) (fun _ h9 => h9) rfl (by decide +kernel) rfl rfl (Nat.le_of_ble_eq_true rfl) dX1_clear_7 (fun H_6 locs hP hD hS => ?_)
  obtain ⟨f_7, ef_7⟩ : ∃ g, g = va_up f_3 a (.inr (1, [.int cn_1, .int 0, .int 0, .int li_1])) := ⟨_, rfl⟩
  have hP : va_P D vwCl (X0 ++ va_pl L f_7) H_6 := by rw [ef_7]; exact hP
  have hD : va_D A (X0 ++ va_pl L f_7) := by rw [ef_7]; exact hD
  have hI : cqI S L K f_7 := hI.ptC ha ef_7 ⟨_, _, _, _, rfl, (by first | omega | decide), (by first | omega | (have h3 : (0 : Int32).toInt = 0 := rfl; omega))⟩
  have hT_8 := hT_4.put (k := 2) hG0 ha ef_7 (.int 0) hf_1 rfl (by decide)
  have hO_9 := hO_5.put ef_7
  have hf_1 : f_7 a = .inr (1, [.int cn_1, .int 0, .int 0, .int li_1]) := cq_same ef_7
  refine lv_aload_n hx hb dX1_clear_10 rfl (lv_at hl 0 rfl) ?_
  refine lv_iconst (v := 0) hx hb dX1_clear_11 (by decide) ?_
  refine pl_put (D := D) (ci := 1) (v := .int 0) (ty := .boolean) (C := RX1) (T := TX1) (N := 4) hx hb hts hin_X1 tyX1 tyX1_ok nmX1 hown hK hP hD hS ha.1 hf_1 rfl 3 (by decide) (hts (.fieldLink RX1 19 "CryOrder$Case" "littleKnown" "Z") (List.mem_cons_of_mem _ (List.mem_append_left _ (List.mem_of_getElem? (i := 2) rfl)))) (fun _ h9 => h9) rfl (by decide +kernel) rfl rfl (Nat.le_of_ble_eq_true rfl) dX1_clear_12 (fun H_10 locs hP hD hS => ?_)
  obtain ⟨f_11, ef_11⟩ : ∃ g, g = va_up f_7 a (.inr (1, [.int cn_1, .int 0, .int 0, .int 0])) := ⟨_, rfl⟩
  have hP : va_P D vwCl (X0 ++ va_pl L f_11) H_10 := by rw [ef_11]; exact hP
  have hD : va_D A (X0 ++ va_pl L f_11) := by rw [ef_11]; exact hD
  have hI : cqI S L K f_11 := hI.ptC ha ef_11 ⟨_, _, _, _, rfl, (by first | omega | decide), (by first | omega | (have h3 : (0 : Int32).toInt = 0 := rfl; omega))⟩
  have hT_12 := hT_8.put (k := 3) hG0 ha ef_11 (.int 0) hf_1 rfl (by decide)
  have hO_13 := hO_9.put ef_11
  have hf_1 : f_11 a = .inr (1, [.int cn_1, .int 0, .int 0, .int 0]) := cq_same ef_11
  refine W.widen (k := 0) (n := 0) (Nat.le_of_ble_eq_true rfl) (Nat.le_of_ble_eq_true rfl) ?_
  exact W.vret hx hb hr (fun t ht hW => ⟨⟨(), rfl, trivial, f_11, ⟨by rw [ht]; exact hP, va_K.moved hW.alike (hK.sub (tys' := []) [] rfl), hD⟩, hI, hT_12, hO_13, (by rw [hf_1, hqhf_1]; rfl), (by rw [hf_1]; rfl), (by rw [hf_1]; rfl), (by rw [hf_1]; rfl)⟩, hS.F ht⟩) hS.2.2 dX1_clear_15

set_option maxHeartbeats 4000000 in
set_option maxRecDepth 100000 in
theorem c_X1_addK (l : Launch) (D : va_G) (sz : Nat) (X0 : va_W) (L : List Nat) (K : Nat → Nat × Nat) (f : Nat → va_E) (S : Int) (tys : List (ClassId × FieldType)) (a : Nat) (v : Int32) (w : Int32) (hI : cqI S L K f) (ha : cqIs L K 1 a) (hS0 : 0 ≤ S ∧ S ≤ 1000000) : Met l yX1_add wsX1_add ({ frames := 1, cells := 0, slots := 0, locals := 14 }) (va_Pc [.ref a, .int v, .int w] (wz sz D tys (X0 ++ va_pl L f))) (va_Qv (fun (_ : Unit) => True) (fun _ t => ∃ (f9 : Nat → va_E), (wp D [] (va_A (X0 ++ va_pl L f) sz) (X0 ++ va_pl L f9) t ∧ (cqI (S + 1) L K f9) ∧ (cqT [(1, 1), (1, 2), (1, 3)] L K f f9) ∧ (cqO a f f9) ∧ (cqF (f9 a) 0 = cqF (f a) 0) ∧ (cqF (f9 a) 1 = cqF (f a) 1 + 1) ∧ (cqF (f9 a) 2 = max (cqF (f a) 2) (v).toInt) ∧ (cqF (f9 a) 3 = if ¬ cqF (f a) 3 = 0 ∨ (w).toInt = 0 then 1 else 0))) (va_A (X0 ++ va_pl L f) sz)) 0 0 (va_A (X0 ++ va_pl L f) sz) := by
  refine Met.ofW (cc := cX1_add) (maxL := 3) (ret := none) (by decide) rfl ?_
  intro p e s m args below meth c s₁ B hml hv
  obtain ⟨rfl, hsz, hP, hK, hD0, hN⟩ := hv
  have hx := B.exec
  have hb := B.bytes
  have hr := B.returns
  have hts := atoms_spec (ws := wsX1_add) B.pre
  have hown : s.vm.findClass RX1 = some m.cls := findClass_of_methodNamed B.named
  have hlocks := B.notSynchronized
  subst hsz
  have hD := hD0.self (sz := s.heap.size)
  generalize hAe : va_A (X0 ++ va_pl L f) s.heap.size = A at hD ⊢
  have hA : ∀ q : Nat, s.heap.size ≤ q → A q := fun q h => by rw [← hAe]; exact Or.inr h
  have hS : va_S A s.heap s.heap [] := va_S.rf
  have hin_X1 : ∀ w ∈ u_ws RX1 TX1 4, w ∈ wsX1_add := fun w h => List.mem_cons_of_mem _ (List.mem_append_right _ (h))
  have hl := lv_entry ([.ref a, .int v, .int w]) (n := 3) (Nat.le_of_ble_eq_true rfl)
  rw [lg_entry_eq]
  generalize (lg_sl ([.ref a, .int v, .int w]) ++ List.replicate (3 - (lg_sl ([.ref a, .int v, .int w])).length) Slot.unset).toArray = ls at hl ⊢
  have hl : lv_has ls 3 [(0, .ref a), (1, .int v), (2, .int w)] := hl
  have hT0 : cqT [(1, 1), (1, 2), (1, 3)] L K f f := cqT.rf
  have hG0 : cqG L K L K := cqG.rf
  have hO0 : cqO a f f := cqO.rf
  obtain ⟨cn_1, sz_1, sc_1, li_1, hf_1, hs0_1, hs1_1⟩ := hI.opC ha
  have hqhf_1 := hf_1
  have hI : cqI (S + 1) L K f := hI.more (by omega)
  refine lv_aload_n hx hb dX1_add_0 rfl (lv_at hl 0 rfl) ?_
  refine lv_dup hx hb dX1_add_1 rfl ?_
  refine pl_get (D := D) (ci := 1) (v := .int sz_1) (C := RX1) (T := TX1) (N := 4) hx hb hts hin_X1 hown hK hP ha.1 hf_1 rfl 1 (by decide) (hts (.fieldLink RX1 13 "CryOrder$Case" "size" "I") (List.mem_cons_of_mem _ (List.mem_append_left _ (List.mem_of_getElem? (i := 0) rfl)))) (fun _ h9 => h9) rfl dX1_add_2 ?_
  refine lv_iconst (v := 1) hx hb dX1_add_5 (by decide) ?_
  refine lv_iadd hx hb dX1_add_6 ?_
  refine lv_topi (fun z_2 ez_2 => ?_)
  have tz_2 := ad_toInt (zx := (sz_1).toInt) (zy := 1) ez_2 rfl (by decide)
  refine pl_put (D := D) (ci := 1) (v := .int z_2) (ty := .int) (C := RX1) (T := TX1) (N := 4) hx hb hts hin_X1 tyX1 tyX1_ok nmX1 hown hK hP hD hS ha.1 hf_1 rfl 1 (by decide) (hts (.fieldLink RX1 13 "CryOrder$Case" "size" "I") (List.mem_cons_of_mem _ (List.mem_append_left _ (List.mem_of_getElem? (i := 0) rfl)))) (fun _ h9 => h9) rfl (by decide +kernel) rfl rfl (Nat.le_of_ble_eq_true rfl) dX1_add_7 (fun H_3 locs hP hD hS => ?_)
  obtain ⟨f_4, ef_4⟩ : ∃ g, g = va_up f a (.inr (1, [.int cn_1, .int z_2, .int sc_1, .int li_1])) := ⟨_, rfl⟩
  have hP : va_P D vwCl (X0 ++ va_pl L f_4) H_3 := by rw [ef_4]; exact hP
  have hD : va_D A (X0 ++ va_pl L f_4) := by rw [ef_4]; exact hD
  have hI : cqI (S + 1) L K f_4 := hI.ptC ha ef_4 ⟨_, _, _, _, rfl, (by first | omega | decide), (by first | omega | (have h3 : (0 : Int32).toInt = 0 := rfl; omega))⟩
  have hT_5 := hT0.put (k := 1) hG0 ha ef_4 (.int z_2) hf_1 rfl (by decide)
  have hO_6 := hO0.put ef_4
  have hf_1 : f_4 a = .inr (1, [.int cn_1, .int z_2, .int sc_1, .int li_1]) := cq_same ef_4
  refine lv_aload_n hx hb dX1_add_10 rfl (lv_at hl 0 rfl) ?_
  refine lv_aload_n hx hb dX1_add_11 rfl (lv_at hl 0 rfl) ?_
  refine pl_get (D := D) (ci := 1) (v := .int sc_1) (C := RX1) (T := TX1) (N := 4) hx hb hts hin_X1 hown hK hP ha.1 hf_1 rfl 2 (by decide) (hts (.fieldLink RX1 16 "CryOrder$Case" "score" "I") (List.mem_cons_of_mem _ (List.mem_append_left _ (List.mem_of_getElem? (i := 1) rfl)))) (fun _ h9 => h9) rfl dX1_add_12 ?_
  refine lv_iload_n hx hb dX1_add_15 rfl (lv_at hl 1 rfl) ?_
  refine va_mmax hx hb (by rw [hml]; exact hl.1.symm) hown (hts (.methodLink RX1 23 Lib.Math.max.name) (List.mem_cons_of_mem _ (List.mem_append_left _ (List.mem_of_getElem? (i := 2) rfl)))) (hts (.static Lib.Math.max.name) (List.mem_cons_of_mem _ (List.mem_append_left _ (List.mem_of_getElem? (i := 3) rfl)))) (hts (.initialized "java/lang/Math") (List.mem_cons_of_mem _ (List.mem_append_left _ (List.mem_of_getElem? (i := 4) rfl)))) (hts (.code Lib.Math.max.name Lib.Math.max.code 2 (some .int)) (List.mem_cons_of_mem _ (List.mem_append_left _ (List.mem_of_getElem? (i := 5) rfl)))) (Nat.le_of_ble_eq_true rfl) (Nat.le_of_ble_eq_true rfl) (Nat.le_of_ble_eq_true rfl) (Nat.le_of_ble_eq_true rfl) dX1_add_16 ?_
  refine lv_topi (fun z_7 ez_7 => ?_)
  have tz_7 := mx_toInt (zx := (sc_1).toInt) (zy := (v).toInt) ez_7 rfl rfl
  refine pl_put (D := D) (ci := 1) (v := .int z_7) (ty := .int) (C := RX1) (T := TX1) (N := 4) hx hb hts hin_X1 tyX1 tyX1_ok nmX1 hown hK hP hD hS ha.1 hf_1 rfl 2 (by decide) (hts (.fieldLink RX1 16 "CryOrder$Case" "score" "I") (List.mem_cons_of_mem _ (List.mem_append_left _ (List.mem_of_getElem? (i := 1) rfl)))) (fun _ h9 => h9) rfl (by decide +kernel) rfl rfl (Nat.le_of_ble_eq_true rfl) dX1_add_19 (fun H_8 locs hP hD hS => ?_)
  obtain ⟨f_9, ef_9⟩ : ∃ g, g = va_up f_4 a (.inr (1, [.int cn_1, .int z_2, .int z_7, .int li_1])) := ⟨_, rfl⟩
  have hP : va_P D vwCl (X0 ++ va_pl L f_9) H_8 := by rw [ef_9]; exact hP
  have hD : va_D A (X0 ++ va_pl L f_9) := by rw [ef_9]; exact hD
  have hI : cqI (S + 1) L K f_9 := hI.ptC ha ef_9 ⟨_, _, _, _, rfl, (by first | omega | decide), (by first | omega | (have h3 : (0 : Int32).toInt = 0 := rfl; omega))⟩
  have hT_10 := hT_5.put (k := 2) hG0 ha ef_9 (.int z_7) hf_1 rfl (by decide)
  have hO_11 := hO_6.put ef_9
  have hf_1 : f_9 a = .inr (1, [.int cn_1, .int z_2, .int z_7, .int li_1]) := cq_same ef_9
  refine lv_aload_n hx hb dX1_add_22 rfl (lv_at hl 0 rfl) ?_
  refine lv_aload_n hx hb dX1_add_23 rfl (lv_at hl 0 rfl) ?_
  refine pl_get (D := D) (ci := 1) (v := .int li_1) (C := RX1) (T := TX1) (N := 4) hx hb hts hin_X1 hown hK hP ha.1 hf_1 rfl 3 (by decide) (hts (.fieldLink RX1 19 "CryOrder$Case" "littleKnown" "Z") (List.mem_cons_of_mem _ (List.mem_append_left _ (List.mem_of_getElem? (i := 6) rfl)))) (fun _ h9 => h9) rfl dX1_add_24 ?_
  refine bz_ne (zx := (li_1).toInt) (tgt := 34) hx hb dX1_add_27 (by decide) rfl (fun c_12 => ?_) (fun c_12 => ?_)
  · refine lv_iconst (v := 1) hx hb dX1_add_34 (by decide) ?_
    refine lv_goto (tgt := 39) hx hb dX1_add_35 (by decide) ?_
    refine pl_put (D := D) (ci := 1) (v := .int 1) (ty := .boolean) (C := RX1) (T := TX1) (N := 4) hx hb hts hin_X1 tyX1 tyX1_ok nmX1 hown hK hP hD hS ha.1 hf_1 rfl 3 (by decide) (hts (.fieldLink RX1 19 "CryOrder$Case" "littleKnown" "Z") (List.mem_cons_of_mem _ (List.mem_append_left _ (List.mem_of_getElem? (i := 6) rfl)))) (fun _ h9 => h9) rfl (by decide +kernel) rfl rfl (Nat.le_of_ble_eq_true rfl) dX1_add_39 (fun H_13 locs hP hD hS => ?_)
    obtain ⟨f_14, ef_14⟩ : ∃ g, g = va_up f_9 a (.inr (1, [.int cn_1, .int z_2, .int z_7, .int 1])) := ⟨_, rfl⟩
    have hP : va_P D vwCl (X0 ++ va_pl L f_14) H_13 := by rw [ef_14]; exact hP
    have hD : va_D A (X0 ++ va_pl L f_14) := by rw [ef_14]; exact hD
    have hI : cqI (S + 1) L K f_14 := hI.ptC ha ef_14 ⟨_, _, _, _, rfl, (by first | omega | decide), (by first | omega | (have h3 : (0 : Int32).toInt = 0 := rfl; omega))⟩
    have hT_15 := hT_10.put (k := 3) hG0 ha ef_14 (.int 1) hf_1 rfl (by decide)
    have hO_16 := hO_11.put ef_14
    have hf_1 : f_14 a = .inr (1, [.int cn_1, .int z_2, .int z_7, .int 1]) := cq_same ef_14
    refine W.widen (k := 0) (n := 0) (Nat.le_of_ble_eq_true rfl) (Nat.le_of_ble_eq_true rfl) ?_
    exact W.vret hx hb hr (fun t ht hW => ⟨⟨(), rfl, trivial, f_14, ⟨by rw [ht]; exact hP, va_K.moved hW.alike (hK.sub (tys' := []) [] rfl), hD⟩, hI, hT_15, hO_16, (by rw [hf_1, hqhf_1]; rfl), (by rw [hf_1, hqhf_1]; show (z_2).toInt = (sz_1).toInt + 1; omega), (by rw [hf_1, hqhf_1]; show (z_7).toInt = max (sc_1).toInt (v).toInt; omega), (by rw [hf_1, hqhf_1]; show (1 : Int32).toInt = if ¬ (li_1).toInt = 0 ∨ (w).toInt = 0 then 1 else 0; rw [if_pos (by omega)]; decide)⟩, hS.F ht⟩) hS.2.2 dX1_add_42
  · refine lv_iload_n hx hb dX1_add_30 rfl (lv_at hl 2 rfl) ?_
    refine bz_ne (zx := (w).toInt) (tgt := 38) hx hb dX1_add_31 (by decide) rfl (fun c_17 => ?_) (fun c_17 => ?_)
    · refine lv_iconst (v := 0) hx hb dX1_add_38 (by decide) ?_
      refine pl_put (D := D) (ci := 1) (v := .int 0) (ty := .boolean) (C := RX1) (T := TX1) (N := 4) hx hb hts hin_X1 tyX1 tyX1_ok nmX1 hown hK hP hD hS ha.1 hf_1 rfl 3 (by decide) (hts (.fieldLink RX1 19 "CryOrder$Case" "littleKnown" "Z") (List.mem_cons_of_mem _ (List.mem_append_left _ (List.mem_of_getElem? (i := 6) rfl)))) (fun _ h9 => h9) rfl (by decide +kernel) rfl rfl (Nat.le_of_ble_eq_true rfl) dX1_add_39 (fun H_18 locs hP hD hS => ?_)
      obtain ⟨f_19, ef_19⟩ : ∃ g, g = va_up f_9 a (.inr (1, [.int cn_1, .int z_2, .int z_7, .int 0])) := ⟨_, rfl⟩
      have hP : va_P D vwCl (X0 ++ va_pl L f_19) H_18 := by rw [ef_19]; exact hP
      have hD : va_D A (X0 ++ va_pl L f_19) := by rw [ef_19]; exact hD
      have hI : cqI (S + 1) L K f_19 := hI.ptC ha ef_19 ⟨_, _, _, _, rfl, (by first | omega | decide), (by first | omega | (have h3 : (0 : Int32).toInt = 0 := rfl; omega))⟩
      have hT_20 := hT_10.put (k := 3) hG0 ha ef_19 (.int 0) hf_1 rfl (by decide)
      have hO_21 := hO_11.put ef_19
      have hf_1 : f_19 a = .inr (1, [.int cn_1, .int z_2, .int z_7, .int 0]) := cq_same ef_19
      refine W.widen (k := 0) (n := 0) (Nat.le_of_ble_eq_true rfl) (Nat.le_of_ble_eq_true rfl) ?_
      exact W.vret hx hb hr (fun t ht hW => ⟨⟨(), rfl, trivial, f_19, ⟨by rw [ht]; exact hP, va_K.moved hW.alike (hK.sub (tys' := []) [] rfl), hD⟩, hI, hT_20, hO_21, (by rw [hf_1, hqhf_1]; rfl), (by rw [hf_1, hqhf_1]; show (z_2).toInt = (sz_1).toInt + 1; omega), (by rw [hf_1, hqhf_1]; show (z_7).toInt = max (sc_1).toInt (v).toInt; omega), (by rw [hf_1, hqhf_1]; show (0 : Int32).toInt = if ¬ (li_1).toInt = 0 ∨ (w).toInt = 0 then 1 else 0; rw [if_neg (by omega)]; decide)⟩, hS.F ht⟩) hS.2.2 dX1_add_42
    · refine lv_iconst (v := 1) hx hb dX1_add_34 (by decide) ?_
      refine lv_goto (tgt := 39) hx hb dX1_add_35 (by decide) ?_
      refine pl_put (D := D) (ci := 1) (v := .int 1) (ty := .boolean) (C := RX1) (T := TX1) (N := 4) hx hb hts hin_X1 tyX1 tyX1_ok nmX1 hown hK hP hD hS ha.1 hf_1 rfl 3 (by decide) (hts (.fieldLink RX1 19 "CryOrder$Case" "littleKnown" "Z") (List.mem_cons_of_mem _ (List.mem_append_left _ (List.mem_of_getElem? (i := 6) rfl)))) (fun _ h9 => h9) rfl (by decide +kernel) rfl rfl (Nat.le_of_ble_eq_true rfl) dX1_add_39 (fun H_22 locs hP hD hS => ?_)
      obtain ⟨f_23, ef_23⟩ : ∃ g, g = va_up f_9 a (.inr (1, [.int cn_1, .int z_2, .int z_7, .int 1])) := ⟨_, rfl⟩
      have hP : va_P D vwCl (X0 ++ va_pl L f_23) H_22 := by rw [ef_23]; exact hP
      have hD : va_D A (X0 ++ va_pl L f_23) := by rw [ef_23]; exact hD
      have hI : cqI (S + 1) L K f_23 := hI.ptC ha ef_23 ⟨_, _, _, _, rfl, (by first | omega | decide), (by first | omega | (have h3 : (0 : Int32).toInt = 0 := rfl; omega))⟩
      have hT_24 := hT_10.put (k := 3) hG0 ha ef_23 (.int 1) hf_1 rfl (by decide)
      have hO_25 := hO_11.put ef_23
      have hf_1 : f_23 a = .inr (1, [.int cn_1, .int z_2, .int z_7, .int 1]) := cq_same ef_23
      refine W.widen (k := 0) (n := 0) (Nat.le_of_ble_eq_true rfl) (Nat.le_of_ble_eq_true rfl) ?_
      exact W.vret hx hb hr (fun t ht hW => ⟨⟨(), rfl, trivial, f_23, ⟨by rw [ht]; exact hP, va_K.moved hW.alike (hK.sub (tys' := []) [] rfl), hD⟩, hI, hT_24, hO_25, (by rw [hf_1, hqhf_1]; rfl), (by rw [hf_1, hqhf_1]; show (z_2).toInt = (sz_1).toInt + 1; omega), (by rw [hf_1, hqhf_1]; show (z_7).toInt = max (sc_1).toInt (v).toInt; omega), (by rw [hf_1, hqhf_1]; show (1 : Int32).toInt = if ¬ (li_1).toInt = 0 ∨ (w).toInt = 0 then 1 else 0; rw [if_pos (by omega)]; decide)⟩, hS.F ht⟩) hS.2.2 dX1_add_42

set_option maxHeartbeats 4000000 in
set_option maxRecDepth 100000 in
theorem c_X1_isAheadOfK (l : Launch) (D : va_G) (X0 : va_W) (L : List Nat) (K : Nat → Nat × Nat) (f : Nat → va_E) (S : Int) (tys : List (ClassId × FieldType)) (a : Nat) (b : Nat) (hI : cqI S L K f) (ha : cqIs L K 1 a) (hb2 : cqIs L K 1 b) : Met l yX1_isAheadOf wsX1_isAheadOf ({ frames := 0, cells := 0, slots := 0, locals := 0 }) (va_Pc [.ref a, .ref b] (wo D tys (X0 ++ va_pl L f))) (vp_Si (fun r => ((cqF (f b) 2 < cqF (f a) 2 ∨ (cqF (f a) 2 = cqF (f b) 2 ∧ cqF (f a) 0 < cqF (f b) 0)) ∧ r = 1) ∨ ((¬ (cqF (f b) 2 < cqF (f a) 2 ∨ (cqF (f a) 2 = cqF (f b) 2 ∧ cqF (f a) 0 < cqF (f b) 0))) ∧ r = 0))) 0 0 (fun _ => False) := by
  refine Met.ofW (cc := cX1_isAheadOf) (maxL := 2) (ret := (some .boolean)) (by decide) rfl ?_
  intro p e s m args below meth c s₁ B hml hv
  obtain ⟨rfl, hP, hK, hD, hN⟩ := hv
  have hx := B.exec
  have hb := B.bytes
  have hr := B.returns
  have hts := atoms_spec (ws := wsX1_isAheadOf) B.pre
  have hown : s.vm.findClass RX1 = some m.cls := findClass_of_methodNamed B.named
  have hlocks := B.notSynchronized
  have hin_X1 : ∀ w ∈ u_ws RX1 TX1 4, w ∈ wsX1_isAheadOf := fun w h => List.mem_cons_of_mem _ (List.mem_append_right _ (h))
  have hl := lv_entry ([.ref a, .ref b]) (n := 2) (Nat.le_of_ble_eq_true rfl)
  rw [lg_entry_eq]
  generalize (lg_sl ([.ref a, .ref b]) ++ List.replicate (2 - (lg_sl ([.ref a, .ref b])).length) Slot.unset).toArray = ls at hl ⊢
  have hl : lv_has ls 2 [(0, .ref a), (1, .ref b)] := hl
  refine lv_aload_n hx hb dX1_isAheadOf_0 rfl (lv_at hl 0 rfl) ?_
  obtain ⟨cn_1, sz_1, sc_1, li_1, hf_1, hs0_1, hs1_1⟩ := hI.opC ha
  have F0hf_1 : cqF (f a) 0 = (cn_1).toInt := by rw [hf_1]; rfl
  have F2hf_1 : cqF (f a) 2 = (sc_1).toInt := by rw [hf_1]; rfl
  refine pl_get (D := D) (ci := 1) (v := .int sc_1) (C := RX1) (T := TX1) (N := 4) hx hb hts hin_X1 hown hK hP ha.1 hf_1 rfl 2 (by decide) (hts (.fieldLink RX1 16 "CryOrder$Case" "score" "I") (List.mem_cons_of_mem _ (List.mem_append_left _ (List.mem_of_getElem? (i := 0) rfl)))) (fun _ h9 => h9) rfl dX1_isAheadOf_1 ?_
  refine lv_aload_n hx hb dX1_isAheadOf_4 rfl (lv_at hl 1 rfl) ?_
  obtain ⟨cn_2, sz_2, sc_2, li_2, hf_2, hs0_2, hs1_2⟩ := hI.opC hb2
  have F0hf_2 : cqF (f b) 0 = (cn_2).toInt := by rw [hf_2]; rfl
  have F2hf_2 : cqF (f b) 2 = (sc_2).toInt := by rw [hf_2]; rfl
  refine pl_get (D := D) (ci := 1) (v := .int sc_2) (C := RX1) (T := TX1) (N := 4) hx hb hts hin_X1 hown hK hP hb2.1 hf_2 rfl 2 (by decide) (hts (.fieldLink RX1 16 "CryOrder$Case" "score" "I") (List.mem_cons_of_mem _ (List.mem_append_left _ (List.mem_of_getElem? (i := 0) rfl)))) (fun _ h9 => h9) rfl dX1_isAheadOf_5 ?_
  refine bi_gt (zx := (sc_1).toInt) (zy := (sc_2).toInt) (tgt := 33) hx hb dX1_isAheadOf_8 (by decide) rfl rfl (fun c_3 => ?_) (fun c_3 => ?_)
  · refine lv_iconst (v := 1) hx hb dX1_isAheadOf_33 (by decide) ?_
    refine lv_goto (tgt := 38) hx hb dX1_isAheadOf_34 (by decide) ?_
    exact W.zret (v := 1) hx hb hr rfl (fun t ht hW => ⟨1, rfl, Or.inl ⟨by omega, rfl⟩, ht⟩) (fun q h => by cases h) dX1_isAheadOf_38
  · refine lv_aload_n hx hb dX1_isAheadOf_11 rfl (lv_at hl 0 rfl) ?_
    refine pl_get (D := D) (ci := 1) (v := .int sc_1) (C := RX1) (T := TX1) (N := 4) hx hb hts hin_X1 hown hK hP ha.1 hf_1 rfl 2 (by decide) (hts (.fieldLink RX1 16 "CryOrder$Case" "score" "I") (List.mem_cons_of_mem _ (List.mem_append_left _ (List.mem_of_getElem? (i := 0) rfl)))) (fun _ h9 => h9) rfl dX1_isAheadOf_12 ?_
    refine lv_aload_n hx hb dX1_isAheadOf_15 rfl (lv_at hl 1 rfl) ?_
    refine pl_get (D := D) (ci := 1) (v := .int sc_2) (C := RX1) (T := TX1) (N := 4) hx hb hts hin_X1 hown hK hP hb2.1 hf_2 rfl 2 (by decide) (hts (.fieldLink RX1 16 "CryOrder$Case" "score" "I") (List.mem_cons_of_mem _ (List.mem_append_left _ (List.mem_of_getElem? (i := 0) rfl)))) (fun _ h9 => h9) rfl dX1_isAheadOf_16 ?_
    refine bi_ne (zx := (sc_1).toInt) (zy := (sc_2).toInt) (tgt := 37) hx hb dX1_isAheadOf_19 (by decide) rfl rfl (fun c_4 => ?_) (fun c_4 => ?_)
    · refine lv_iconst (v := 0) hx hb dX1_isAheadOf_37 (by decide) ?_
      exact W.zret (v := 0) hx hb hr rfl (fun t ht hW => ⟨0, rfl, Or.inr ⟨by omega, rfl⟩, ht⟩) (fun q h => by cases h) dX1_isAheadOf_38
    · refine lv_aload_n hx hb dX1_isAheadOf_22 rfl (lv_at hl 0 rfl) ?_
      refine pl_get (D := D) (ci := 1) (v := .int cn_1) (C := RX1) (T := TX1) (N := 4) hx hb hts hin_X1 hown hK hP ha.1 hf_1 rfl 0 (by decide) (hts (.fieldLink RX1 7 "CryOrder$Case" "number" "I") (List.mem_cons_of_mem _ (List.mem_append_left _ (List.mem_of_getElem? (i := 1) rfl)))) (fun _ h9 => h9) rfl dX1_isAheadOf_23 ?_
      refine lv_aload_n hx hb dX1_isAheadOf_26 rfl (lv_at hl 1 rfl) ?_
      refine pl_get (D := D) (ci := 1) (v := .int cn_2) (C := RX1) (T := TX1) (N := 4) hx hb hts hin_X1 hown hK hP hb2.1 hf_2 rfl 0 (by decide) (hts (.fieldLink RX1 7 "CryOrder$Case" "number" "I") (List.mem_cons_of_mem _ (List.mem_append_left _ (List.mem_of_getElem? (i := 1) rfl)))) (fun _ h9 => h9) rfl dX1_isAheadOf_27 ?_
      refine bi_ge (zx := (cn_1).toInt) (zy := (cn_2).toInt) (tgt := 37) hx hb dX1_isAheadOf_30 (by decide) rfl rfl (fun c_5 => ?_) (fun c_5 => ?_)
      · refine lv_iconst (v := 0) hx hb dX1_isAheadOf_37 (by decide) ?_
        exact W.zret (v := 0) hx hb hr rfl (fun t ht hW => ⟨0, rfl, Or.inr ⟨by omega, rfl⟩, ht⟩) (fun q h => by cases h) dX1_isAheadOf_38
      · refine lv_iconst (v := 1) hx hb dX1_isAheadOf_33 (by decide) ?_
        refine lv_goto (tgt := 38) hx hb dX1_isAheadOf_34 (by decide) ?_
        exact W.zret (v := 1) hx hb hr rfl (fun t ht hW => ⟨1, rfl, Or.inl ⟨by omega, rfl⟩, ht⟩) (fun q h => by cases h) dX1_isAheadOf_38
