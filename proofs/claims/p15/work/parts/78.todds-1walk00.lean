set_option maxHeartbeats 4000000 in
set_option maxRecDepth 100000 in
theorem tl_lowest {p : Program} {l : Launch} {e : Env} {R : Room} {s : State} {m : MethodId} {args : Array Value} {below : List Frame} {meth : Method} {c : Code} {Q : State → Prop} {A : Nat → Prop} {cells slots : Nat} {D : va_G} {H : Heap} {locs : List Loc} {u : Int32} {v : Int32} {w : Int32} (hx : p.tables.exec = Jvm.exec) (hb : c.code = cX8_inLowestTerms) (hts : ∀ w ∈ wsX8_inLowestTerms, w.before args s = true) (hml : c.maxLocals = 7) (hown : s.vm.findClass RX8 = some m.cls) (hN : Nq s) (hK : va_K D vwCl [] s) (hP : va_P D vwCl [] H) (hD : va_D A []) (hR : 0 ≤ R.frames ∧ 0 ≤ R.locals) (hcs : cells ≤ R.cells ∧ slots ≤ R.slots) (done_39 : ∀ (k : Int32) (rs : Int32) (cm : Int32) (ls : Array Slot), ((0 ≤ (u).toInt ∧ (u).toInt ≤ (v).toInt ∧ 1 ≤ (v).toInt ∧ (v).toInt ≤ 400) → (cm).toInt = gcI (v).toInt (u).toInt ∧ 1 ≤ (cm).toInt) → lv_has ls 7 [(5, .int k), (4, .int rs), (3, .int cm), (0, .int u), (1, .int v), (2, .int w)] → W p l e R s m args below meth c H locs cells slots Q (F0 m 39 ls [])) : ∀ (n : Nat), ∀ (k : Int32) (rs : Int32) (cm : Int32) (ls : Array Slot), (0 ≤ (k).toInt ∧ (k).toInt ≤ 100) → ((0 ≤ (u).toInt ∧ (u).toInt ≤ (v).toInt ∧ 1 ≤ (v).toInt ∧ (v).toInt ≤ 400) → euI (gcI (v).toInt (u).toInt) (cm).toInt (rs).toInt (k).toInt) → ((100 - (k).toInt).toNat < n) → lv_has ls 7 [(5, .int k), (4, .int rs), (3, .int cm), (0, .int u), (1, .int v), (2, .int w)] → W p l e R s m args below meth c H locs cells slots Q (F0 m 8 ls []) := by
  intro n
  induction n with
  | zero => intro k rs cm ls hk he hmu hl; exact absurd hmu (Nat.not_lt_zero _)
  | succ n ih =>
    intro k rs cm ls hk he hmu hl
    refine lv_iload hx hb dX8_inLowestTerms_8 (lv_at hl 0 rfl) ?_
    refine lv_bipush (v := 100) hx hb dX8_inLowestTerms_10 (by decide) ?_
    refine bi_ge (zx := (k).toInt) (zy := 100) (tgt := 39) hx hb dX8_inLowestTerms_12 (by decide) rfl (by decide) (fun c_1 => ?_) (fun c_1 => ?_)
    · exact done_39 _ _ _ _ (fun h9 => ⟨(he h9).stop (by omega), (he h9).2.2.2.1⟩) (lv_sub hl [0, 1, 2, 3, 4, 5] rfl)
    · refine lv_iload hx hb dX8_inLowestTerms_15 (lv_at hl 1 rfl) ?_
      refine bz_le (zx := (rs).toInt) (tgt := 39) hx hb dX8_inLowestTerms_17 (by decide) rfl (fun c_2 => ?_) (fun c_2 => ?_)
      · exact done_39 _ _ _ _ (fun h9 => ⟨(he h9).stop (by omega), (he h9).2.2.2.1⟩) (lv_sub hl [0, 1, 2, 3, 4, 5] rfl)
      · refine lv_iload_n hx hb dX8_inLowestTerms_20 rfl (lv_at hl 2 rfl) ?_
        refine lv_iload hx hb dX8_inLowestTerms_21 (lv_at hl 1 rfl) ?_
        refine lv_irem hx hb dX8_inLowestTerms_23 (ne0_of (zy := (rs).toInt) (by omega) rfl) ?_
        refine lv_topi (fun z_3 ez_3 => ?_)
        have tz_3 := fun a b => rm_toInt ez_3 a b
        refine lv_istore (lv' := [(6, .int z_3), (5, .int k), (4, .int rs), (3, .int cm), (0, .int u), (1, .int v), (2, .int w)]) hx hb dX8_inLowestTerms_24 hl (by decide) rfl (fun ls hl => ?_)
        refine lv_iload hx hb dX8_inLowestTerms_26 (lv_at hl 2 rfl) ?_
        refine lv_istore_n (lv' := [(3, .int rs), (6, .int z_3), (5, .int k), (4, .int rs), (0, .int u), (1, .int v), (2, .int w)]) hx hb dX8_inLowestTerms_28 rfl hl (by decide) rfl (fun ls hl => ?_)
        refine lv_iload hx hb dX8_inLowestTerms_29 (lv_at hl 1 rfl) ?_
        refine lv_istore (lv' := [(4, .int z_3), (3, .int rs), (6, .int z_3), (5, .int k), (0, .int u), (1, .int v), (2, .int w)]) hx hb dX8_inLowestTerms_31 hl (by decide) rfl (fun ls hl => ?_)
        obtain ⟨x_4, ex_4⟩ : ∃ z : Int32, z = k + 1 := ⟨_, rfl⟩
        have tx_4 := ad_toInt (x := k) (y := 1) (z := x_4) (zx := (k).toInt) (zy := 1) ex_4 rfl (by decide)
        refine lv_iinc (v := x_4) (lv' := [(5, .int x_4), (4, .int z_3), (3, .int rs), (6, .int z_3), (0, .int u), (1, .int v), (2, .int w)]) hx hb dX8_inLowestTerms_33 hl (k := 3) rfl (by rw [ex_4]; rfl) (by decide) rfl (fun ls hl => ?_)
        refine lv_goto (tgt := 8) hx hb dX8_inLowestTerms_36 (by decide) ?_
        exact ih _ _ _ _ (by omega) (fun h9 => by have h8 := he h9; have h7 := rm_eq ez_3 (by have := h8.2.2.2.1; omega) (by omega); rw [h7]; exact h8.next (by omega) (by omega) (by omega)) (by omega) (lv_sub hl [0, 1, 2, 4, 5, 6] rfl)

set_option maxHeartbeats 4000000 in
set_option maxRecDepth 100000 in
theorem c_lowestR (l : Launch) (D : va_G) (u : Int32) (v : Int32) (w : Int32) : Met l yX8_inLowestTerms wsX8_inLowestTerms ({ frames := 0, cells := 0, slots := 0, locals := 0 }) (va_Pc [.int u, .int v, .int w] (wo D [] [])) (vp_Si (fun r => (0 ≤ (u).toInt ∧ (u).toInt ≤ (v).toInt ∧ 1 ≤ (v).toInt ∧ (v).toInt ≤ 400) → (r).toInt = (if (w).toInt = 0 then (v).toInt else (u).toInt) / gcI (v).toInt (u).toInt)) 0 0 (fun _ => False) := by
  refine Met.ofW (cc := cX8_inLowestTerms) (maxL := 7) (ret := (some .int)) (by decide) rfl ?_
  intro p e s m args below meth c s₁ B hml hv
  obtain ⟨rfl, hP, hK, hD, hN⟩ := hv
  have hx := B.exec
  have hb := B.bytes
  have hr := B.returns
  have hts := atoms_spec (ws := wsX8_inLowestTerms) B.pre
  have hown : s.vm.findClass RX8 = some m.cls := findClass_of_methodNamed B.named
  have hlocks := B.notSynchronized
  have hl := lv_entry ([.int u, .int v, .int w]) (n := 7) (Nat.le_of_ble_eq_true rfl)
  rw [lg_entry_eq]
  generalize (lg_sl ([.int u, .int v, .int w]) ++ List.replicate (7 - (lg_sl ([.int u, .int v, .int w])).length) Slot.unset).toArray = ls at hl ⊢
  have hl : lv_has ls 7 [(0, .int u), (1, .int v), (2, .int w)] := hl
  refine lv_iload_n hx hb dX8_inLowestTerms_0 rfl (lv_at hl 1 rfl) ?_
  refine lv_istore_n (lv' := [(3, .int v), (0, .int u), (1, .int v), (2, .int w)]) hx hb dX8_inLowestTerms_1 rfl hl (by decide) rfl (fun ls hl => ?_)
  refine lv_iload_n hx hb dX8_inLowestTerms_2 rfl (lv_at hl 1 rfl) ?_
  refine lv_istore (lv' := [(4, .int u), (3, .int v), (0, .int u), (1, .int v), (2, .int w)]) hx hb dX8_inLowestTerms_3 hl (by decide) rfl (fun ls hl => ?_)
  refine lv_iconst (v := 0) hx hb dX8_inLowestTerms_5 (by decide) ?_
  refine lv_istore (lv' := [(5, .int 0), (4, .int u), (3, .int v), (0, .int u), (1, .int v), (2, .int w)]) hx hb dX8_inLowestTerms_6 hl (by decide) rfl (fun ls hl => ?_)
  refine tl_lowest hx hb hts hml hown hN hK hP hD ⟨(Nat.le_of_ble_eq_true rfl), (Nat.le_of_ble_eq_true rfl)⟩ ⟨(Nat.le_of_ble_eq_true rfl), (Nat.le_of_ble_eq_true rfl)⟩ (fun k_1 rs_2 cm_3 ls hq9 hl => ?_) _ _ _ _ _ (by decide) (fun h9 => euI.start h9.1 h9.2.1 h9.2.2.1 h9.2.2.2) (Nat.lt_succ_self _) (lv_sub hl [0, 1, 2, 3, 4, 5] rfl)
  refine lv_iload_n hx hb dX8_inLowestTerms_39 rfl (lv_at hl 2 rfl) ?_
  refine lv_iconst (v := 1) hx hb dX8_inLowestTerms_40 (by decide) ?_
  refine bi_ge (zx := (cm_3).toInt) (zy := 1) (tgt := 46) hx hb dX8_inLowestTerms_41 (by decide) rfl (by decide) (fun c_4 => ?_) (fun c_4 => ?_)
  · refine lv_iload_n hx hb dX8_inLowestTerms_46 rfl (lv_at hl 5 rfl) ?_
    refine bz_eq (zx := (w).toInt) (tgt := 54) hx hb dX8_inLowestTerms_47 (by decide) rfl (fun c_5 => ?_) (fun c_5 => ?_)
    · refine lv_iload_n hx hb dX8_inLowestTerms_54 rfl (lv_at hl 4 rfl) ?_
      refine lv_iload_n hx hb dX8_inLowestTerms_55 rfl (lv_at hl 2 rfl) ?_
      refine lv_idiv hx hb dX8_inLowestTerms_56 (ne0_of (zy := (cm_3).toInt) (by omega) rfl) ?_
      refine lv_topi (fun z_6 ez_6 => ?_)
      exact W.iret (v := z_6) hx hb hr (fun t ht hW => ⟨z_6, rfl, (fun h9 => by have h8 := hq9 h9; have h7 := dv_eq ez_6 (by omega) (by omega); rw [h7, h8.1]; first | rw [if_pos (by omega)] | rw [if_neg (by omega)]), ht⟩) (fun q h => by cases h) dX8_inLowestTerms_57
    · refine lv_iload_n hx hb dX8_inLowestTerms_50 rfl (lv_at hl 3 rfl) ?_
      refine lv_goto (tgt := 55) hx hb dX8_inLowestTerms_51 (by decide) ?_
      refine lv_iload_n hx hb dX8_inLowestTerms_55 rfl (lv_at hl 2 rfl) ?_
      refine lv_idiv hx hb dX8_inLowestTerms_56 (ne0_of (zy := (cm_3).toInt) (by omega) rfl) ?_
      refine lv_topi (fun z_7 ez_7 => ?_)
      exact W.iret (v := z_7) hx hb hr (fun t ht hW => ⟨z_7, rfl, (fun h9 => by have h8 := hq9 h9; have h7 := dv_eq ez_7 (by omega) (by omega); rw [h7, h8.1]; first | rw [if_pos (by omega)] | rw [if_neg (by omega)]), ht⟩) (fun q h => by cases h) dX8_inLowestTerms_57
  · refine lv_iconst (v := (-1)) hx hb dX8_inLowestTerms_44 (by decide) ?_
    exact W.iret (v := (-1)) hx hb hr (fun t ht hW => ⟨(-1), rfl, (fun h9 => by have h8 := hq9 h9; omega), ht⟩) (fun q h => by cases h) dX8_inLowestTerms_45
