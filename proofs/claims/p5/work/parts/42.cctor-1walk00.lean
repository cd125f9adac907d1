set_option maxHeartbeats 4000000 in
set_option maxRecDepth 100000 in
theorem c_X1_init (l : Launch) (D : va_G) (sz : Nat) (X0 : va_W) (L : List Nat) (K : Nat → Nat × Nat) (f : Nat → va_E) (S : Int) (tys : List (ClassId × FieldType)) (q0 : Nat) (v : Int32) (hI : cqI S L K f) : Met l yX1_init wsX1_init ({ frames := 1, cells := 0, slots := 0, locals := 12 }) (va_Pc [.ref q0, .int v] (wz sz D tys ((oC q0 1 [.int 0, .int 0, .int 0, .int 0] :: X0) ++ va_pl L f))) (va_Qv (fun (_ : Unit) => True) (fun _ t => wp D [] (va_A ((oC q0 1 [.int 0, .int 0, .int 0, .int 0] :: X0) ++ va_pl L f) sz) ((oC q0 1 [.int v, .int 0, .int 0, .int 0] :: X0) ++ va_pl L f) t) (va_A ((oC q0 1 [.int 0, .int 0, .int 0, .int 0] :: X0) ++ va_pl L f) sz)) 0 0 (va_A ((oC q0 1 [.int 0, .int 0, .int 0, .int 0] :: X0) ++ va_pl L f) sz) := by
  refine Met.ofW (cc := cX1_init) (maxL := 2) (ret := none) (by decide) rfl ?_
  intro p e s m args below meth c s₁ B hml hv
  obtain ⟨rfl, hsz, hP, hK, hD0, hN⟩ := hv
  have hx := B.exec
  have hb := B.bytes
  have hr := B.returns
  have hts := atoms_spec (ws := wsX1_init) B.pre
  have hown : s.vm.findClass RX1 = some m.cls := findClass_of_methodNamed B.named
  have hlocks := B.notSynchronized
  have hnm : meth.name = "<init>" := (name_of_methodNamed B.named B.method).1
  subst hsz
  have hD := hD0.self (sz := s.heap.size)
  generalize hAe : va_A ((oC q0 1 [.int 0, .int 0, .int 0, .int 0] :: X0) ++ va_pl L f) s.heap.size = A at hD ⊢
  have hA : ∀ q : Nat, s.heap.size ≤ q → A q := fun q h => by rw [← hAe]; exact Or.inr h
  have hS : va_S A s.heap s.heap [] := va_S.rf
  have hin_X1 : ∀ w ∈ u_ws RX1 TX1 4, w ∈ wsX1_init := fun w h => List.mem_cons_of_mem _ (List.mem_append_right _ (h))
  have hl := lv_entry ([.ref q0, .int v]) (n := 2) (Nat.le_of_ble_eq_true rfl)
  rw [lg_entry_eq]
  generalize (lg_sl ([.ref q0, .int v]) ++ List.replicate (2 - (lg_sl ([.ref q0, .int v])).length) Slot.unset).toArray = ls at hl ⊢
  have hl : lv_has ls 2 [(0, .ref q0), (1, .int v)] := hl
  refine lv_aload_n hx hb dX1_init_0 rfl (lv_at hl 0 rfl) ?_
  refine W.objInit hx hb hown (hts (.methodLink RX1 1 objectInit) (List.mem_cons_of_mem _ (List.mem_append_left _ (List.mem_of_getElem? (i := 0) rfl)))) (hts (.instanceMethod objectInit) (List.mem_cons_of_mem _ (List.mem_append_left _ (List.mem_of_getElem? (i := 1) rfl)))) (hts (.code objectInit ⟨#[0xb1]⟩ 1 none) (List.mem_cons_of_mem _ (List.mem_append_left _ (List.mem_of_getElem? (i := 2) rfl)))) rfl (by rw [hml]; exact hl.1) rfl dX1_init_1 (Nat.le_of_ble_eq_true rfl) (Nat.le_of_ble_eq_true rfl) ?_
  refine W.eq (g2 := F0 m 4 ls []) rfl ?_
  refine lv_aload_n hx hb dX1_init_4 rfl (lv_at hl 0 rfl) ?_
  refine lv_iload_n hx hb dX1_init_5 rfl (lv_at hl 1 rfl) ?_
  refine va_putF (D := D) (ci := 1) (v := .int v) (ty := .int) (C := RX1) (T := TX1) (N := 4) hx hb hts hin_X1 tyX1 tyX1_ok nmX1 hown hK hP hD hS 0 rfl rfl 0 (by decide) (hts (.fieldLink RX1 7 "CryOrder$Case" "number" "I") (List.mem_cons_of_mem _ (List.mem_append_left _ (List.mem_of_getElem? (i := 3) rfl)))) (fun _ h9 => h9) rfl hnm rfl (by decide +kernel) rfl rfl (Nat.le_of_ble_eq_true rfl) dX1_init_6 (fun H_1 locs hP hD hS => ?_)
  have hP : va_P D vwCl ((oC q0 1 [.int v, .int 0, .int 0, .int 0] :: X0) ++ va_pl L f) H_1 := hP
  have hD : va_D A ((oC q0 1 [.int v, .int 0, .int 0, .int 0] :: X0) ++ va_pl L f) := hD
  refine W.widen (k := 0) (n := 0) (Nat.le_of_ble_eq_true rfl) (Nat.le_of_ble_eq_true rfl) ?_
  exact W.vret hx hb hr (fun t ht hW => ⟨⟨(), rfl, trivial, by rw [ht]; exact hP, va_K.moved hW.alike (hK.sub (tys' := []) [] rfl), hD⟩, hS.F ht⟩) hS.2.2 dX1_init_9

set_option maxHeartbeats 4000000 in
set_option maxRecDepth 100000 in
theorem c_X4_init (l : Launch) (D : va_G) (sz : Nat) (X0 : va_W) (L : List Nat) (K : Nat → Nat × Nat) (f : Nat → va_E) (S : Int) (tys : List (ClassId × FieldType)) (q0 : Nat) (u : Int32) (v : Int32) (w : Int32) (hI : cqI S L K f) (hw0 : w = 0 ∨ w = 1) : Met l yX4_init wsX4_init ({ frames := 1, cells := 0, slots := 0, locals := 12 }) (va_Pc [.ref q0, .int u, .int v, .int w] (wz sz D tys ((oC q0 4 [.int 0, .int 0, .int 0] :: X0) ++ va_pl L f))) (va_Qv (fun (_ : Unit) => True) (fun _ t => wp D [] (va_A ((oC q0 4 [.int 0, .int 0, .int 0] :: X0) ++ va_pl L f) sz) ((oC q0 4 [.int u, .int v, .int w] :: X0) ++ va_pl L f) t) (va_A ((oC q0 4 [.int 0, .int 0, .int 0] :: X0) ++ va_pl L f) sz)) 0 0 (va_A ((oC q0 4 [.int 0, .int 0, .int 0] :: X0) ++ va_pl L f) sz) := by
  refine Met.ofW (cc := cX4_init) (maxL := 4) (ret := none) (by decide) rfl ?_
  intro p e s m args below meth c s₁ B hml hv
  obtain ⟨rfl, hsz, hP, hK, hD0, hN⟩ := hv
  have hx := B.exec
  have hb := B.bytes
  have hr := B.returns
  have hts := atoms_spec (ws := wsX4_init) B.pre
  have hown : s.vm.findClass RX4 = some m.cls := findClass_of_methodNamed B.named
  have hlocks := B.notSynchronized
  have hnm : meth.name = "<init>" := (name_of_methodNamed B.named B.method).1
  subst hsz
  have hD := hD0.self (sz := s.heap.size)
  generalize hAe : va_A ((oC q0 4 [.int 0, .int 0, .int 0] :: X0) ++ va_pl L f) s.heap.size = A at hD ⊢
  have hA : ∀ q : Nat, s.heap.size ≤ q → A q := fun q h => by rw [← hAe]; exact Or.inr h
  have hS : va_S A s.heap s.heap [] := va_S.rf
  have hin_X4 : ∀ w ∈ u_ws RX4 TX4 3, w ∈ wsX4_init := fun w h => List.mem_cons_of_mem _ (List.mem_append_right _ (h))
  have hl := lv_entry ([.ref q0, .int u, .int v, .int w]) (n := 4) (Nat.le_of_ble_eq_true rfl)
  rw [lg_entry_eq]
  generalize (lg_sl ([.ref q0, .int u, .int v, .int w]) ++ List.replicate (4 - (lg_sl ([.ref q0, .int u, .int v, .int w])).length) Slot.unset).toArray = ls at hl ⊢
  have hl : lv_has ls 4 [(0, .ref q0), (1, .int u), (2, .int v), (3, .int w)] := hl
  refine lv_aload_n hx hb dX4_init_0 rfl (lv_at hl 0 rfl) ?_
  refine W.objInit hx hb hown (hts (.methodLink RX4 1 objectInit) (List.mem_cons_of_mem _ (List.mem_append_left _ (List.mem_of_getElem? (i := 0) rfl)))) (hts (.instanceMethod objectInit) (List.mem_cons_of_mem _ (List.mem_append_left _ (List.mem_of_getElem? (i := 1) rfl)))) (hts (.code objectInit ⟨#[0xb1]⟩ 1 none) (List.mem_cons_of_mem _ (List.mem_append_left _ (List.mem_of_getElem? (i := 2) rfl)))) rfl (by rw [hml]; exact hl.1) rfl dX4_init_1 (Nat.le_of_ble_eq_true rfl) (Nat.le_of_ble_eq_true rfl) ?_
  refine W.eq (g2 := F0 m 4 ls []) rfl ?_
  refine lv_aload_n hx hb dX4_init_4 rfl (lv_at hl 0 rfl) ?_
  refine lv_iload_n hx hb dX4_init_5 rfl (lv_at hl 1 rfl) ?_
  refine va_putF (D := D) (ci := 4) (v := .int u) (ty := .int) (C := RX4) (T := TX4) (N := 3) hx hb hts hin_X4 tyX4 tyX4_ok nmX4 hown hK hP hD hS 0 rfl rfl 0 (by decide) (hts (.fieldLink RX4 7 "CryOrder$Pair" "lesser" "I") (List.mem_cons_of_mem _ (List.mem_append_left _ (List.mem_of_getElem? (i := 3) rfl)))) (fun _ h9 => h9) rfl hnm rfl (by decide +kernel) rfl rfl (Nat.le_of_ble_eq_true rfl) dX4_init_6 (fun H_1 locs hP hD hS => ?_)
  have hP : va_P D vwCl ((oC q0 4 [.int u, .int 0, .int 0] :: X0) ++ va_pl L f) H_1 := hP
  have hD : va_D A ((oC q0 4 [.int u, .int 0, .int 0] :: X0) ++ va_pl L f) := hD
  refine lv_aload_n hx hb dX4_init_9 rfl (lv_at hl 0 rfl) ?_
  refine lv_iload_n hx hb dX4_init_10 rfl (lv_at hl 2 rfl) ?_
  refine va_putF (D := D) (ci := 4) (v := .int v) (ty := .int) (C := RX4) (T := TX4) (N := 3) hx hb hts hin_X4 tyX4 tyX4_ok nmX4 hown hK hP hD hS 0 rfl rfl 1 (by decide) (hts (.fieldLink RX4 13 "CryOrder$Pair" "greater" "I") (List.mem_cons_of_mem _ (List.mem_append_left _ (List.mem_of_getElem? (i := 4) rfl)))) (fun _ h9 => h9) rfl hnm rfl (by decide +kernel) rfl rfl (Nat.le_of_ble_eq_true rfl) dX4_init_11 (fun H_2 locs hP hD hS => ?_)
  have hP : va_P D vwCl ((oC q0 4 [.int u, .int v, .int 0] :: X0) ++ va_pl L f) H_2 := hP
  have hD : va_D A ((oC q0 4 [.int u, .int v, .int 0] :: X0) ++ va_pl L f) := hD
  refine lv_aload_n hx hb dX4_init_14 rfl (lv_at hl 0 rfl) ?_
  refine lv_iload_n hx hb dX4_init_15 rfl (lv_at hl 3 rfl) ?_
  refine va_put (D := D) (ci := 4) (v := .int w) (ty := .boolean) (C := RX4) (T := TX4) (N := 3) hx hb hts hin_X4 tyX4 tyX4_ok nmX4 hown hK hP hD hS 0 rfl rfl 2 (by decide) (hts (.fieldLink RX4 16 "CryOrder$Pair" "joined" "Z") (List.mem_cons_of_mem _ (List.mem_append_left _ (List.mem_of_getElem? (i := 5) rfl)))) (fun _ h9 => h9) rfl (by decide +kernel) (by rcases hw0 with h9 | h9 <;> (rw [h9]; rfl)) (by rcases hw0 with h9 | h9 <;> (rw [h9]; rfl)) (Nat.le_of_ble_eq_true rfl) dX4_init_16 (fun H_3 locs hP hD hS => ?_)
  have hP : va_P D vwCl ((oC q0 4 [.int u, .int v, .int w] :: X0) ++ va_pl L f) H_3 := hP
  have hD : va_D A ((oC q0 4 [.int u, .int v, .int w] :: X0) ++ va_pl L f) := hD
  refine W.widen (k := 0) (n := 0) (Nat.le_of_ble_eq_true rfl) (Nat.le_of_ble_eq_true rfl) ?_
  exact W.vret hx hb hr (fun t ht hW => ⟨⟨(), rfl, trivial, by rw [ht]; exact hP, va_K.moved hW.alike (hK.sub (tys' := []) [] rfl), hD⟩, hS.F ht⟩) hS.2.2 dX4_init_19

set_option maxHeartbeats 4000000 in
set_option maxRecDepth 100000 in
theorem c_X6_init (l : Launch) (D : va_G) (sz : Nat) (X0 : va_W) (L : List Nat) (K : Nat → Nat × Nat) (f : Nat → va_E) (S : Int) (tys : List (ClassId × FieldType)) (q0 : Nat) (u : Int32) (v : Int32) (w : Int32) (hI : cqI S L K f) : Met l yX6_init wsX6_init ({ frames := 1, cells := 0, slots := 0, locals := 12 }) (va_Pc [.ref q0, .int u, .int v, .int w] (wz sz D tys ((oC q0 6 [.int 0, .int 0, .int 0] :: X0) ++ va_pl L f))) (va_Qv (fun (_ : Unit) => True) (fun _ t => wp D [] (va_A ((oC q0 6 [.int 0, .int 0, .int 0] :: X0) ++ va_pl L f) sz) ((oC q0 6 [.int u, .int v, .int w] :: X0) ++ va_pl L f) t) (va_A ((oC q0 6 [.int 0, .int 0, .int 0] :: X0) ++ va_pl L f) sz)) 0 0 (va_A ((oC q0 6 [.int 0, .int 0, .int 0] :: X0) ++ va_pl L f) sz) := by
  refine Met.ofW (cc := cX6_init) (maxL := 4) (ret := none) (by decide) rfl ?_
  intro p e s m args below meth c s₁ B hml hv
  obtain ⟨rfl, hsz, hP, hK, hD0, hN⟩ := hv
  have hx := B.exec
  have hb := B.bytes
  have hr := B.returns
  have hts := atoms_spec (ws := wsX6_init) B.pre
  have hown : s.vm.findClass RX6 = some m.cls := findClass_of_methodNamed B.named
  have hlocks := B.notSynchronized
  have hnm : meth.name = "<init>" := (name_of_methodNamed B.named B.method).1
  subst hsz
  have hD := hD0.self (sz := s.heap.size)
  generalize hAe : va_A ((oC q0 6 [.int 0, .int 0, .int 0] :: X0) ++ va_pl L f) s.heap.size = A at hD ⊢
  have hA : ∀ q : Nat, s.heap.size ≤ q → A q := fun q h => by rw [← hAe]; exact Or.inr h
  have hS : va_S A s.heap s.heap [] := va_S.rf
  have hin_X6 : ∀ w ∈ u_ws RX6 TX6 3, w ∈ wsX6_init := fun w h => List.mem_cons_of_mem _ (List.mem_append_right _ (h))
  have hl := lv_entry ([.ref q0, .int u, .int v, .int w]) (n := 4) (Nat.le_of_ble_eq_true rfl)
  rw [lg_entry_eq]
  generalize (lg_sl ([.ref q0, .int u, .int v, .int w]) ++ List.replicate (4 - (lg_sl ([.ref q0, .int u, .int v, .int w])).length) Slot.unset).toArray = ls at hl ⊢
  have hl : lv_has ls 4 [(0, .ref q0), (1, .int u), (2, .int v), (3, .int w)] := hl
  refine lv_aload_n hx hb dX6_init_0 rfl (lv_at hl 0 rfl) ?_
  refine W.objInit hx hb hown (hts (.methodLink RX6 1 objectInit) (List.mem_cons_of_mem _ (List.mem_append_left _ (List.mem_of_getElem? (i := 0) rfl)))) (hts (.instanceMethod objectInit) (List.mem_cons_of_mem _ (List.mem_append_left _ (List.mem_of_getElem? (i := 1) rfl)))) (hts (.code objectInit ⟨#[0xb1]⟩ 1 none) (List.mem_cons_of_mem _ (List.mem_append_left _ (List.mem_of_getElem? (i := 2) rfl)))) rfl (by rw [hml]; exact hl.1) rfl dX6_init_1 (Nat.le_of_ble_eq_true rfl) (Nat.le_of_ble_eq_true rfl) ?_
  refine W.eq (g2 := F0 m 4 ls []) rfl ?_
  refine lv_aload_n hx hb dX6_init_4 rfl (lv_at hl 0 rfl) ?_
  refine lv_iload_n hx hb dX6_init_5 rfl (lv_at hl 1 rfl) ?_
  refine va_putF (D := D) (ci := 6) (v := .int u) (ty := .int) (C := RX6) (T := TX6) (N := 3) hx hb hts hin_X6 tyX6 tyX6_ok nmX6 hown hK hP hD hS 0 rfl rfl 0 (by decide) (hts (.fieldLink RX6 7 "CryOrder$Silence" "source" "I") (List.mem_cons_of_mem _ (List.mem_append_left _ (List.mem_of_getElem? (i := 3) rfl)))) (fun _ h9 => h9) rfl hnm rfl (by decide +kernel) rfl rfl (Nat.le_of_ble_eq_true rfl) dX6_init_6 (fun H_1 locs hP hD hS => ?_)
  have hP : va_P D vwCl ((oC q0 6 [.int u, .int 0, .int 0] :: X0) ++ va_pl L f) H_1 := hP
  have hD : va_D A ((oC q0 6 [.int u, .int 0, .int 0] :: X0) ++ va_pl L f) := hD
  refine lv_aload_n hx hb dX6_init_9 rfl (lv_at hl 0 rfl) ?_
  refine lv_iload_n hx hb dX6_init_10 rfl (lv_at hl 2 rfl) ?_
  refine va_putF (D := D) (ci := 6) (v := .int v) (ty := .int) (C := RX6) (T := TX6) (N := 3) hx hb hts hin_X6 tyX6 tyX6_ok nmX6 hown hK hP hD hS 0 rfl rfl 1 (by decide) (hts (.fieldLink RX6 13 "CryOrder$Silence" "from" "I") (List.mem_cons_of_mem _ (List.mem_append_left _ (List.mem_of_getElem? (i := 4) rfl)))) (fun _ h9 => h9) rfl hnm rfl (by decide +kernel) rfl rfl (Nat.le_of_ble_eq_true rfl) dX6_init_11 (fun H_2 locs hP hD hS => ?_)
  have hP : va_P D vwCl ((oC q0 6 [.int u, .int v, .int 0] :: X0) ++ va_pl L f) H_2 := hP
  have hD : va_D A ((oC q0 6 [.int u, .int v, .int 0] :: X0) ++ va_pl L f) := hD
  refine lv_aload_n hx hb dX6_init_14 rfl (lv_at hl 0 rfl) ?_
  refine lv_iload_n hx hb dX6_init_15 rfl (lv_at hl 3 rfl) ?_
  refine va_putF (D := D) (ci := 6) (v := .int w) (ty := .int) (C := RX6) (T := TX6) (N := 3) hx hb hts hin_X6 tyX6 tyX6_ok nmX6 hown hK hP hD hS 0 rfl rfl 2 (by decide) (hts (.fieldLink RX6 16 "CryOrder$Silence" "to" "I") (List.mem_cons_of_mem _ (List.mem_append_left _ (List.mem_of_getElem? (i := 5) rfl)))) (fun _ h9 => h9) rfl hnm rfl (by decide +kernel) rfl rfl (Nat.le_of_ble_eq_true rfl) dX6_init_16 (fun H_3 locs hP hD hS => ?_)
  have hP : va_P D vwCl ((oC q0 6 [.int u, .int v, .int w] :: X0) ++ va_pl L f) H_3 := hP
  have hD : va_D A ((oC q0 6 [.int u, .int v, .int w] :: X0) ++ va_pl L f) := hD
  refine W.widen (k := 0) (n := 0) (Nat.le_of_ble_eq_true rfl) (Nat.le_of_ble_eq_true rfl) ?_
  exact W.vret hx hb hr (fun t ht hW => ⟨⟨(), rfl, trivial, by rw [ht]; exact hP, va_K.moved hW.alike (hK.sub (tys' := []) [] rfl), hD⟩, hS.F ht⟩) hS.2.2 dX6_init_19

set_option maxHeartbeats 4000000 in
set_option maxRecDepth 100000 in
theorem c_X3_initN (l : Launch) (D : va_G) (sz : Nat) (X0 : va_W) (L : List Nat) (K : Nat → Nat × Nat) (f : Nat → va_E) (S : Int) (tys : List (ClassId × FieldType)) (q0 : Nat) (a : Nat) (v : Int32) (hI : cqI S L K f) (ha : cqIs L K 3 a) : Met l yX3_init wsX3_init ({ frames := 1, cells := 0, slots := 0, locals := 12 }) (va_Pc [.ref q0, .ref a, .int v, .null] (wz sz D tys ((oC q0 3 [.null, .int 0, .int 0, .null, .null, .int 0, .int 0, .int 0] :: X0) ++ va_pl L f))) (va_Qv (fun (_ : Unit) => True) (fun _ t => ∃ (de : Int32), wp D [] (va_A ((oC q0 3 [.null, .int 0, .int 0, .null, .null, .int 0, .int 0, .int 0] :: X0) ++ va_pl L f) sz) ((oC q0 3 [.ref a, .int de, .int v, .null, .null, .int 0, .int 0, .int 0] :: X0) ++ va_pl L f) t) (va_A ((oC q0 3 [.null, .int 0, .int 0, .null, .null, .int 0, .int 0, .int 0] :: X0) ++ va_pl L f) sz)) 0 0 (va_A ((oC q0 3 [.null, .int 0, .int 0, .null, .null, .int 0, .int 0, .int 0] :: X0) ++ va_pl L f) sz) := by
  refine Met.ofW (cc := cX3_init) (maxL := 4) (ret := none) (by decide) rfl ?_
  intro p e s m args below meth c s₁ B hml hv
  obtain ⟨rfl, hsz, hP, hK, hD0, hN⟩ := hv
  have hx := B.exec
  have hb := B.bytes
  have hr := B.returns
  have hts := atoms_spec (ws := wsX3_init) B.pre
  have hown : s.vm.findClass RX3 = some m.cls := findClass_of_methodNamed B.named
  have hlocks := B.notSynchronized
  have hnm : meth.name = "<init>" := (name_of_methodNamed B.named B.method).1
  subst hsz
  have hD := hD0.self (sz := s.heap.size)
  generalize hAe : va_A ((oC q0 3 [.null, .int 0, .int 0, .null, .null, .int 0, .int 0, .int 0] :: X0) ++ va_pl L f) s.heap.size = A at hD ⊢
  have hA : ∀ q : Nat, s.heap.size ≤ q → A q := fun q h => by rw [← hAe]; exact Or.inr h
  have hS : va_S A s.heap s.heap [] := va_S.rf
  have hin_X3 : ∀ w ∈ u_ws RX3 TX3 8, w ∈ wsX3_init := fun w h => List.mem_cons_of_mem _ (List.mem_append_right _ (h))
  have hl := lv_entry ([.ref q0, .ref a, .int v, .null]) (n := 4) (Nat.le_of_ble_eq_true rfl)
  rw [lg_entry_eq]
  generalize (lg_sl ([.ref q0, .ref a, .int v, .null]) ++ List.replicate (4 - (lg_sl ([.ref q0, .ref a, .int v, .null])).length) Slot.unset).toArray = ls at hl ⊢
  have hl : lv_has ls 4 [(0, .ref q0), (1, .ref a), (2, .int v), (3, .null)] := hl
  refine lv_aload_n hx hb dX3_init_0 rfl (lv_at hl 0 rfl) ?_
  refine W.objInit hx hb hown (hts (.methodLink RX3 3 objectInit) (List.mem_cons_of_mem _ (List.mem_append_left _ (List.mem_of_getElem? (i := 0) rfl)))) (hts (.instanceMethod objectInit) (List.mem_cons_of_mem _ (List.mem_append_left _ (List.mem_of_getElem? (i := 1) rfl)))) (hts (.code objectInit ⟨#[0xb1]⟩ 1 none) (List.mem_cons_of_mem _ (List.mem_append_left _ (List.mem_of_getElem? (i := 2) rfl)))) rfl (by rw [hml]; exact hl.1) rfl dX3_init_1 (Nat.le_of_ble_eq_true rfl) (Nat.le_of_ble_eq_true rfl) ?_
  refine W.eq (g2 := F0 m 4 ls []) rfl ?_
  refine lv_aload_n hx hb dX3_init_4 rfl (lv_at hl 0 rfl) ?_
  refine lv_aload_n hx hb dX3_init_5 rfl (lv_at hl 1 rfl) ?_
  refine va_putF (D := D) (ci := 3) (v := .ref a) (ty := .object "CryOrder$Node") (C := RX3) (T := TX3) (N := 8) hx hb hts hin_X3 tyX3 tyX3_ok nmX3 hown hK hP hD hS 0 rfl rfl 0 (by decide) (hts (.fieldLink RX3 9 "CryOrder$Node" "parent" "LCryOrder$Node;") (List.mem_cons_of_mem _ (List.mem_append_left _ (List.mem_of_getElem? (i := 3) rfl)))) (fun _ h9 => h9) rfl hnm rfl (by decide +kernel) rfl rfl (Nat.le_of_ble_eq_true rfl) dX3_init_6 (fun H_1 locs hP hD hS => ?_)
  have hP : va_P D vwCl ((oC q0 3 [.ref a, .int 0, .int 0, .null, .null, .int 0, .int 0, .int 0] :: X0) ++ va_pl L f) H_1 := hP
  have hD : va_D A ((oC q0 3 [.ref a, .int 0, .int 0, .null, .null, .int 0, .int 0, .int 0] :: X0) ++ va_pl L f) := hD
  refine lv_aload_n hx hb dX3_init_9 rfl (lv_at hl 0 rfl) ?_
  refine lv_aload_n hx hb dX3_init_10 rfl (lv_at hl 1 rfl) ?_
  refine lv_ifnonnull (tgt := 18) hx hb dX3_init_11 (by decide) ?_
  refine lv_aload_n hx hb dX3_init_18 rfl (lv_at hl 1 rfl) ?_
  obtain ⟨pa_2, de_2, ma_2, sb_2, fc_2, tu_2, sd_2, op_2, hf_2, hpa_2, hsb_2, hfc_2⟩ := hI.opN ha
  refine pl_get (D := D) (ci := 3) (v := .int de_2) (C := RX3) (T := TX3) (N := 8) hx hb hts hin_X3 hown hK hP ha.1 hf_2 rfl 1 (by decide) (hts (.fieldLink RX3 15 "CryOrder$Node" "depth" "I") (List.mem_cons_of_mem _ (List.mem_append_left _ (List.mem_of_getElem? (i := 4) rfl)))) (fun _ h9 => h9) rfl dX3_init_19 ?_
  refine lv_iconst (v := 1) hx hb dX3_init_22 (by decide) ?_
  refine lv_iadd hx hb dX3_init_23 ?_
  refine lv_topi (fun z_3 ez_3 => ?_)
  have tz_3 := ad_toInt (zx := (de_2).toInt) (zy := 1) ez_3 rfl (by decide)
  refine va_putF (D := D) (ci := 3) (v := .int z_3) (ty := .int) (C := RX3) (T := TX3) (N := 8) hx hb hts hin_X3 tyX3 tyX3_ok nmX3 hown hK hP hD hS 0 rfl rfl 1 (by decide) (hts (.fieldLink RX3 15 "CryOrder$Node" "depth" "I") (List.mem_cons_of_mem _ (List.mem_append_left _ (List.mem_of_getElem? (i := 4) rfl)))) (fun _ h9 => h9) rfl hnm rfl (by decide +kernel) rfl rfl (Nat.le_of_ble_eq_true rfl) dX3_init_24 (fun H_4 locs hP hD hS => ?_)
  have hP : va_P D vwCl ((oC q0 3 [.ref a, .int z_3, .int 0, .null, .null, .int 0, .int 0, .int 0] :: X0) ++ va_pl L f) H_4 := hP
  have hD : va_D A ((oC q0 3 [.ref a, .int z_3, .int 0, .null, .null, .int 0, .int 0, .int 0] :: X0) ++ va_pl L f) := hD
  refine lv_aload_n hx hb dX3_init_27 rfl (lv_at hl 0 rfl) ?_
  refine lv_iload_n hx hb dX3_init_28 rfl (lv_at hl 2 rfl) ?_
  refine va_putF (D := D) (ci := 3) (v := .int v) (ty := .int) (C := RX3) (T := TX3) (N := 8) hx hb hts hin_X3 tyX3 tyX3_ok nmX3 hown hK hP hD hS 0 rfl rfl 2 (by decide) (hts (.fieldLink RX3 19 "CryOrder$Node" "mark" "I") (List.mem_cons_of_mem _ (List.mem_append_left _ (List.mem_of_getElem? (i := 5) rfl)))) (fun _ h9 => h9) rfl hnm rfl (by decide +kernel) rfl rfl (Nat.le_of_ble_eq_true rfl) dX3_init_29 (fun H_5 locs hP hD hS => ?_)
  have hP : va_P D vwCl ((oC q0 3 [.ref a, .int z_3, .int v, .null, .null, .int 0, .int 0, .int 0] :: X0) ++ va_pl L f) H_5 := hP
  have hD : va_D A ((oC q0 3 [.ref a, .int z_3, .int v, .null, .null, .int 0, .int 0, .int 0] :: X0) ++ va_pl L f) := hD
  refine lv_aload_n hx hb dX3_init_32 rfl (lv_at hl 0 rfl) ?_
  refine lv_aload_nN hx hb dX3_init_33 rfl (lv_at hl 3 rfl) ?_
  refine va_putF (D := D) (ci := 3) (v := .null) (ty := .object "CryOrder$Node") (C := RX3) (T := TX3) (N := 8) hx hb hts hin_X3 tyX3 tyX3_ok nmX3 hown hK hP hD hS 0 rfl rfl 3 (by decide) (hts (.fieldLink RX3 22 "CryOrder$Node" "sibling" "LCryOrder$Node;") (List.mem_cons_of_mem _ (List.mem_append_left _ (List.mem_of_getElem? (i := 6) rfl)))) (fun _ h9 => h9) rfl hnm rfl (by decide +kernel) rfl rfl (Nat.le_of_ble_eq_true rfl) dX3_init_34 (fun H_6 locs hP hD hS => ?_)
  have hP : va_P D vwCl ((oC q0 3 [.ref a, .int z_3, .int v, .null, .null, .int 0, .int 0, .int 0] :: X0) ++ va_pl L f) H_6 := hP
  have hD : va_D A ((oC q0 3 [.ref a, .int z_3, .int v, .null, .null, .int 0, .int 0, .int 0] :: X0) ++ va_pl L f) := hD
  refine W.widen (k := 0) (n := 0) (Nat.le_of_ble_eq_true rfl) (Nat.le_of_ble_eq_true rfl) ?_
  exact W.vret hx hb hr (fun t ht hW => ⟨⟨(), rfl, trivial, z_3, by rw [ht]; exact hP, va_K.moved hW.alike (hK.sub (tys' := []) [] rfl), hD⟩, hS.F ht⟩) hS.2.2 dX3_init_37

set_option maxHeartbeats 4000000 in
set_option maxRecDepth 100000 in
theorem c_X3_initS (l : Launch) (D : va_G) (sz : Nat) (X0 : va_W) (L : List Nat) (K : Nat → Nat × Nat) (f : Nat → va_E) (S : Int) (tys : List (ClassId × FieldType)) (q0 : Nat) (a : Nat) (sb : Nat) (v : Int32) (hI : cqI S L K f) (ha : cqIs L K 3 a) : Met l yX3_init wsX3_init ({ frames := 1, cells := 0, slots := 0, locals := 12 }) (va_Pc [.ref q0, .ref a, .int v, .ref sb] (wz sz D tys ((oC q0 3 [.null, .int 0, .int 0, .null, .null, .int 0, .int 0, .int 0] :: X0) ++ va_pl L f))) (va_Qv (fun (_ : Unit) => True) (fun _ t => ∃ (de : Int32), wp D [] (va_A ((oC q0 3 [.null, .int 0, .int 0, .null, .null, .int 0, .int 0, .int 0] :: X0) ++ va_pl L f) sz) ((oC q0 3 [.ref a, .int de, .int v, .ref sb, .null, .int 0, .int 0, .int 0] :: X0) ++ va_pl L f) t) (va_A ((oC q0 3 [.null, .int 0, .int 0, .null, .null, .int 0, .int 0, .int 0] :: X0) ++ va_pl L f) sz)) 0 0 (va_A ((oC q0 3 [.null, .int 0, .int 0, .null, .null, .int 0, .int 0, .int 0] :: X0) ++ va_pl L f) sz) := by
  refine Met.ofW (cc := cX3_init) (maxL := 4) (ret := none) (by decide) rfl ?_
  intro p e s m args below meth c s₁ B hml hv
  obtain ⟨rfl, hsz, hP, hK, hD0, hN⟩ := hv
  have hx := B.exec
  have hb := B.bytes
  have hr := B.returns
  have hts := atoms_spec (ws := wsX3_init) B.pre
  have hown : s.vm.findClass RX3 = some m.cls := findClass_of_methodNamed B.named
  have hlocks := B.notSynchronized
  have hnm : meth.name = "<init>" := (name_of_methodNamed B.named B.method).1
  subst hsz
  have hD := hD0.self (sz := s.heap.size)
  generalize hAe : va_A ((oC q0 3 [.null, .int 0, .int 0, .null, .null, .int 0, .int 0, .int 0] :: X0) ++ va_pl L f) s.heap.size = A at hD ⊢
  have hA : ∀ q : Nat, s.heap.size ≤ q → A q := fun q h => by rw [← hAe]; exact Or.inr h
  have hS : va_S A s.heap s.heap [] := va_S.rf
  have hin_X3 : ∀ w ∈ u_ws RX3 TX3 8, w ∈ wsX3_init := fun w h => List.mem_cons_of_mem _ (List.mem_append_right _ (h))
  have hl := lv_entry ([.ref q0, .ref a, .int v, .ref sb]) (n := 4) (Nat.le_of_ble_eq_true rfl)
  rw [lg_entry_eq]
  generalize (lg_sl ([.ref q0, .ref a, .int v, .ref sb]) ++ List.replicate (4 - (lg_sl ([.ref q0, .ref a, .int v, .ref sb])).length) Slot.unset).toArray = ls at hl ⊢
  have hl : lv_has ls 4 [(0, .ref q0), (1, .ref a), (2, .int v), (3, .ref sb)] := hl
  refine lv_aload_n hx hb dX3_init_0 rfl (lv_at hl 0 rfl) ?_
  refine W.objInit hx hb hown (hts (.methodLink RX3 3 objectInit) (List.mem_cons_of_mem _ (List.mem_append_left _ (List.mem_of_getElem? (i := 0) rfl)))) (hts (.instanceMethod objectInit) (List.mem_cons_of_mem _ (List.mem_append_left _ (List.mem_of_getElem? (i := 1) rfl)))) (hts (.code objectInit ⟨#[0xb1]⟩ 1 none) (List.mem_cons_of_mem _ (List.mem_append_left _ (List.mem_of_getElem? (i := 2) rfl)))) rfl (by rw [hml]; exact hl.1) rfl dX3_init_1 (Nat.le_of_ble_eq_true rfl) (Nat.le_of_ble_eq_true rfl) ?_
  refine W.eq (g2 := F0 m 4 ls []) rfl ?_
  refine lv_aload_n hx hb dX3_init_4 rfl (lv_at hl 0 rfl) ?_
  refine lv_aload_n hx hb dX3_init_5 rfl (lv_at hl 1 rfl) ?_
  refine va_putF (D := D) (ci := 3) (v := .ref a) (ty := .object "CryOrder$Node") (C := RX3) (T := TX3) (N := 8) hx hb hts hin_X3 tyX3 tyX3_ok nmX3 hown hK hP hD hS 0 rfl rfl 0 (by decide) (hts (.fieldLink RX3 9 "CryOrder$Node" "parent" "LCryOrder$Node;") (List.mem_cons_of_mem _ (List.mem_append_left _ (List.mem_of_getElem? (i := 3) rfl)))) (fun _ h9 => h9) rfl hnm rfl (by decide +kernel) rfl rfl (Nat.le_of_ble_eq_true rfl) dX3_init_6 (fun H_1 locs hP hD hS => ?_)
  have hP : va_P D vwCl ((oC q0 3 [.ref a, .int 0, .int 0, .null, .null, .int 0, .int 0, .int 0] :: X0) ++ va_pl L f) H_1 := hP
  have hD : va_D A ((oC q0 3 [.ref a, .int 0, .int 0, .null, .null, .int 0, .int 0, .int 0] :: X0) ++ va_pl L f) := hD
  refine lv_aload_n hx hb dX3_init_9 rfl (lv_at hl 0 rfl) ?_
  refine lv_aload_n hx hb dX3_init_10 rfl (lv_at hl 1 rfl) ?_
  refine lv_ifnonnull (tgt := 18) hx hb dX3_init_11 (by decide) ?_
  refine lv_aload_n hx hb dX3_init_18 rfl (lv_at hl 1 rfl) ?_
  obtain ⟨pa_2, de_2, ma_2, sb_2, fc_2, tu_2, sd_2, op_2, hf_2, hpa_2, hsb_2, hfc_2⟩ := hI.opN ha
  refine pl_get (D := D) (ci := 3) (v := .int de_2) (C := RX3) (T := TX3) (N := 8) hx hb hts hin_X3 hown hK hP ha.1 hf_2 rfl 1 (by decide) (hts (.fieldLink RX3 15 "CryOrder$Node" "depth" "I") (List.mem_cons_of_mem _ (List.mem_append_left _ (List.mem_of_getElem? (i := 4) rfl)))) (fun _ h9 => h9) rfl dX3_init_19 ?_
  refine lv_iconst (v := 1) hx hb dX3_init_22 (by decide) ?_
  refine lv_iadd hx hb dX3_init_23 ?_
  refine lv_topi (fun z_3 ez_3 => ?_)
  have tz_3 := ad_toInt (zx := (de_2).toInt) (zy := 1) ez_3 rfl (by decide)
  refine va_putF (D := D) (ci := 3) (v := .int z_3) (ty := .int) (C := RX3) (T := TX3) (N := 8) hx hb hts hin_X3 tyX3 tyX3_ok nmX3 hown hK hP hD hS 0 rfl rfl 1 (by decide) (hts (.fieldLink RX3 15 "CryOrder$Node" "depth" "I") (List.mem_cons_of_mem _ (List.mem_append_left _ (List.mem_of_getElem? (i := 4) rfl)))) (fun _ h9 => h9) rfl hnm rfl (by decide +kernel) rfl rfl (Nat.le_of_ble_eq_true rfl) dX3_init_24 (fun H_4 locs hP hD hS => ?_)
  have hP : va_P D vwCl ((oC q0 3 [.ref a, .int z_3, .int 0, .null, .null, .int 0, .int 0, .int 0] :: X0) ++ va_pl L f) H_4 := hP
  have hD : va_D A ((oC q0 3 [.ref a, .int z_3, .int 0, .null, .null, .int 0, .int 0, .int 0] :: X0) ++ va_pl L f) := hD
  refine lv_aload_n hx hb dX3_init_27 rfl (lv_at hl 0 rfl) ?_
  refine lv_iload_n hx hb dX3_init_28 rfl (lv_at hl 2 rfl) ?_
  refine va_putF (D := D) (ci := 3) (v := .int v) (ty := .int) (C := RX3) (T := TX3) (N := 8) hx hb hts hin_X3 tyX3 tyX3_ok nmX3 hown hK hP hD hS 0 rfl rfl 2 (by decide) (hts (.fieldLink RX3 19 "CryOrder$Node" "mark" "I") (List.mem_cons_of_mem _ (List.mem_append_left _ (List.mem_of_getElem? (i := 5) rfl)))) (fun _ h9 => h9) rfl hnm rfl (by decide +kernel) rfl rfl (Nat.le_of_ble_eq_true rfl) dX3_init_29 (fun H_5 locs hP hD hS => ?_)
  have hP : va_P D vwCl ((oC q0 3 [.ref a, .int z_3, .int v, .null, .null, .int 0, .int 0, .int 0] :: X0) ++ va_pl L f) H_5 := hP
  have hD : va_D A ((oC q0 3 [.ref a, .int z_3, .int v, .null, .null, .int 0, .int 0, .int 0] :: X0) ++ va_pl L f) := hD
  refine lv_aload_n hx hb dX3_init_32 rfl (lv_at hl 0 rfl) ?_
  refine lv_aload_n hx hb dX3_init_33 rfl (lv_at hl 3 rfl) ?_
  refine va_putF (D := D) (ci := 3) (v := .ref sb) (ty := .object "CryOrder$Node") (C := RX3) (T := TX3) (N := 8) hx hb hts hin_X3 tyX3 tyX3_ok nmX3 hown hK hP hD hS 0 rfl rfl 3 (by decide) (hts (.fieldLink RX3 22 "CryOrder$Node" "sibling" "LCryOrder$Node;") (List.mem_cons_of_mem _ (List.mem_append_left _ (List.mem_of_getElem? (i := 6) rfl)))) (fun _ h9 => h9) rfl hnm rfl (by decide +kernel) rfl rfl (Nat.le_of_ble_eq_true rfl) dX3_init_34 (fun H_6 locs hP hD hS => ?_)
  have hP : va_P D vwCl ((oC q0 3 [.ref a, .int z_3, .int v, .ref sb, .null, .int 0, .int 0, .int 0] :: X0) ++ va_pl L f) H_6 := hP
  have hD : va_D A ((oC q0 3 [.ref a, .int z_3, .int v, .ref sb, .null, .int 0, .int 0, .int 0] :: X0) ++ va_pl L f) := hD
  refine W.widen (k := 0) (n := 0) (Nat.le_of_ble_eq_true rfl) (Nat.le_of_ble_eq_true rfl) ?_
  exact W.vret hx hb hr (fun t ht hW => ⟨⟨(), rfl, trivial, z_3, by rw [ht]; exact hP, va_K.moved hW.alike (hK.sub (tys' := []) [] rfl), hD⟩, hS.F ht⟩) hS.2.2 dX3_init_37
