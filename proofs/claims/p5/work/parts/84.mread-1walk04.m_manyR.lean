set_option maxHeartbeats 4000000 in
set_option maxRecDepth 100000 in
theorem m_manyR (l : Launch) (D : va_G) (p0 : Int32) : Met l yX9_many wsX9_many ({ frames := 0, cells := 0, slots := 0, locals := 0 }) (va_Pc [.int p0] (wo D [] [])) (vp_Si (fun r => (0 ≤ (p0).toInt ∧ (p0).toInt < 1024) → (r).toInt = (popF 10 (p0).toInt.toNat : Int))) 0 0 (fun _ => False) := by
  refine Met.ofW (cc := cX9_many) (maxL := 3) (ret := (some .int)) (by decide) rfl ?_
  intro p e s m args below meth c s₁ B hml hv
  obtain ⟨rfl, hP, hK, hD, hN⟩ := hv
  have hx := B.exec
  have hb := B.bytes
  have hr := B.returns
  have hts := atoms_spec (ws := wsX9_many) B.pre
  have hown : s.vm.findClass RX9 = some m.cls := findClass_of_methodNamed B.named
  have hlocks := B.notSynchronized
  have hl := lv_entry ([.int p0]) (n := 3) (Nat.le_of_ble_eq_true rfl)
  rw [lg_entry_eq]
  generalize (lg_sl ([.int p0]) ++ List.replicate (3 - (lg_sl ([.int p0])).length) Slot.unset).toArray = ls at hl ⊢
  have hl : lv_has ls 3 [(0, .int p0)] := hl
  refine lv_iconst (v := 0) hx hb dX9_many_0 (by decide) ?_
  refine lv_istore_n (lv' := [(1, .int 0), (0, .int p0)]) hx hb dX9_many_1 rfl hl (by decide) rfl (fun ls hl => ?_)
  refine lv_iload_n hx hb dX9_many_2 rfl (lv_at hl 1 rfl) ?_
  refine lv_istore_n (lv' := [(2, .int p0), (1, .int 0), (0, .int p0)]) hx hb dX9_many_3 rfl hl (by decide) rfl (fun ls hl => ?_)
  refine mr_many hx hb hts hml hown hN hK hP hD ⟨(Nat.le_of_ble_eq_true rfl), (Nat.le_of_ble_eq_true rfl)⟩ ⟨(Nat.le_of_ble_eq_true rfl), (Nat.le_of_ble_eq_true rfl)⟩  (fun v_1 x_2 ls h_4 hl => ?_) _ _ _ _ mnI.start (Nat.lt_succ_self _) (lv_sub hl [0, 1, 2] rfl)
  have h_4 : (0 ≤ (p0).toInt ∧ (p0).toInt < 1024) → (x_2).toInt = (popF 10 (p0).toInt.toNat : Int) := h_4
  refine lv_iload_n hx hb dX9_many_21 rfl (lv_at hl 1 rfl) ?_
  exact W.iret (v := x_2) hx hb hr (fun t ht hW => ⟨x_2, rfl, h_4, ht⟩) (fun q h => by cases h) dX9_many_22
