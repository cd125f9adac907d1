set_option maxHeartbeats 4000000 in
set_option maxRecDepth 100000 in
theorem c_X1_minutes2 (l : Launch) (D : va_G) (X0 : va_W) (L : List Nat) (K : Nat → Nat × Nat) (f : Nat → va_E) (S : Int) (tys : List (ClassId × FieldType)) (a : Nat) (hI : cqI S L K f) (ha : cqIs L K 1 a) (hSb : S ≤ 1000000) : Met l yX1_minutes wsX1_minutes ({ frames := 0, cells := 0, slots := 0, locals := 0 }) (va_Pc [.ref a] (wo D tys (X0 ++ va_pl L f))) (vp_Si (fun r => 5 ≤ (r).toInt ∧ (r).toInt ≤ 5 + 2 * S ∧ (r).toInt = 5 + 2 * cqZ (f a))) 0 0 (fun _ => False) := by
  refine Met.ofW (cc := cX1_minutes) (maxL := 1) (ret := (some .int)) (by decide) rfl ?_
  intro p e s m args below meth c s₁ B hml hv
  obtain ⟨rfl, hP, hK, hD, hN⟩ := hv
  have hx := B.exec
  have hb := B.bytes
  have hr := B.returns
  have hts := atoms_spec (ws := wsX1_minutes) B.pre
  have hown : s.vm.findClass RX1 = some m.cls := findClass_of_methodNamed B.named
  have hlocks := B.notSynchronized
  have hin_X1 : ∀ w ∈ u_ws RX1 TX1 4, w ∈ wsX1_minutes := fun w h => List.mem_cons_of_mem _ (List.mem_append_right _ (h))
  have hl := lv_entry ([.ref a]) (n := 1) (Nat.le_of_ble_eq_true rfl)
  rw [lg_entry_eq]
  generalize (lg_sl ([.ref a]) ++ List.replicate (1 - (lg_sl ([.ref a])).length) Slot.unset).toArray = ls at hl ⊢
  have hl : lv_has ls 1 [(0, .ref a)] := hl
  refine lv_iconst (v := 5) hx hb dX1_minutes_0 (by decide) ?_
  refine lv_iconst (v := 2) hx hb dX1_minutes_1 (by decide) ?_
  refine lv_aload_n hx hb dX1_minutes_2 rfl (lv_at hl 0 rfl) ?_
  obtain ⟨cn_1, sz_1, sc_1, li_1, hf_1, hs0_1, hs1_1⟩ := hI.opC ha
  refine pl_get (D := D) (ci := 1) (v := .int sz_1) (C := RX1) (T := TX1) (N := 4) hx hb hts hin_X1 hown hK hP ha.1 hf_1 rfl 1 (by decide) (hts (.fieldLink RX1 13 "CryOrder$Case" "size" "I") (List.mem_cons_of_mem _ (List.mem_append_left _ (List.mem_of_getElem? (i := 0) rfl)))) (fun _ h9 => h9) rfl dX1_minutes_3 ?_
  refine lv_imul hx hb dX1_minutes_6 ?_
  refine lv_topi (fun z_2 ez_2 => ?_)
  have tz_2 := ml_toInt (zx := 2) (zy := (sz_1).toInt) ez_2 (by decide) rfl
  refine lv_iadd hx hb dX1_minutes_7 ?_
  refine lv_topi (fun z_3 ez_3 => ?_)
  have tz_3 := ad_toInt (zx := 5) (zy := (z_2).toInt) ez_3 (by decide) rfl
  exact W.iret (v := z_3) hx hb hr (fun t ht hW => ⟨z_3, rfl, (by have h9 : cqZ (f a) = (sz_1).toInt := (by rw [hf_1]; rfl); omega), ht⟩) (fun q h => by cases h) dX1_minutes_8
