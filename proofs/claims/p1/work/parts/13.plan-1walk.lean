theorem inc_toInt {x : Int32} (h0 : 0 ≤ x.toInt) (h : x.toInt < 2147483647) : (x + 1).toInt = x.toInt + 1 := by
  have hn : ¬ x < 0 := by
    intro q
    have h2 := Int32.lt_iff_toInt_lt.mp q
    have h3 : (0 : Int32).toInt = 0 := by decide
    omega
  obtain ⟨j, hj, rfl⟩ := nI_of hn
  rw [nI_toInt hj] at h
  rw [nI_1, nI_toInt hj, nI_toInt (by omega)]
  omega
set_option maxHeartbeats 4000000 in
set_option maxRecDepth 100000 in
theorem lp_weigh {p : Program} {l : Launch} {e : Env} {R : Room} {s : State} {m : MethodId} {args : Array Value} {below : List Frame} {meth : Method} {c : Code} {Q : State → Prop} {A : Nat → Prop} {H0 : Heap} {cells slots : Nat} {D : va_G} {h0 t1 t2 t3 t4 : Nat} {ml : Int32} {c6 c7 : ClassId} (hx : p.tables.exec = Jvm.exec) (hb : c.code = cX5_weighPool) (hts : ∀ w ∈ wsX5_weighPool, w.before args s = true) (hown : s.vm.findClass RX5 = some m.cls) (hK : va_K D vwCl [(c6, .int), (c7, .int)] s) (hm : (ml).toInt ≤ 300) (done : ∀ (x : Int32) (f g : Nat → Int32) (H : Heap) (locs : List Loc) (ls : Array Slot), va_P D vwCl [(h0, .inr (5, [.ref t1, .ref t2, .ref t3, .ref t4, .int 0, .int 0, .int 0, .int ml])), (t3, .inl (c6, 301, .inl (f))), (t4, .inl (c7, 301, .inl (g)))] H → va_D A [(h0, .inr (5, [.ref t1, .ref t2, .ref t3, .ref t4, .int 0, .int 0, .int 0, .int ml])), (t3, .inl (c6, 301, .inl (f))), (t4, .inl (c7, 301, .inl (g)))] → va_S A H0 H locs → lv_has ls 5 [(1, .int x), (0, .ref h0)] → W p l e R s m args below meth c H locs cells slots Q (F0 m 30 ls [])) : ∀ (n : Nat) (x : Int32) (f g : Nat → Int32) (H : Heap) (locs : List Loc) (ls : Array Slot), 0 ≤ x.toInt → x.toInt ≤ 301 → 302 ≤ x.toInt + n → va_P D vwCl [(h0, .inr (5, [.ref t1, .ref t2, .ref t3, .ref t4, .int 0, .int 0, .int 0, .int ml])), (t3, .inl (c6, 301, .inl (f))), (t4, .inl (c7, 301, .inl (g)))] H → va_D A [(h0, .inr (5, [.ref t1, .ref t2, .ref t3, .ref t4, .int 0, .int 0, .int 0, .int ml])), (t3, .inl (c6, 301, .inl (f))), (t4, .inl (c7, 301, .inl (g)))] → va_S A H0 H locs → lv_has ls 5 [(1, .int x), (0, .ref h0)] → W p l e R s m args below meth c H locs cells slots Q (F0 m 2 ls []) := by
  have hin_X5 : ∀ w ∈ u_ws RX5 TX5 8, w ∈ wsX5_weighPool := by decide +kernel
  intro n
  induction n with
  | zero => intro x f g H locs ls h1 h2 h3; exfalso; omega
  | succ n ih =>
    intro x f g H locs ls h1 h2 h3 hP hD hS hl
    refine lv_iload_n hx hb dX5_weighPool_2 rfl (lv_at hl 0 rfl) ?_
    refine lv_aload_n hx hb dX5_weighPool_3 rfl (lv_at hl 1 rfl) ?_
    refine va_get (D := D) (ci := 5) (v := .int ml) (C := RX5) (T := TX5) (N := 8) hx hb hts hin_X5 hown hK hP 0 rfl rfl 7 (by decide) (hts (.fieldLink RX5 46 "CryOrder$Plan" "minutesLeft" "I") (by decide +kernel)) (fun _ h9 => h9) rfl dX5_weighPool_4 ?_
    refine bi_gt (zx := (x).toInt) (zy := (ml).toInt) (tgt := 30) hx hb dX5_weighPool_7 (by decide) rfl rfl (fun c_1 => ?_) (fun c_1 => ?_)
    · exact done _ _ _ _ _ _ hP hD hS hl
    · refine lv_aload_n hx hb dX5_weighPool_10 rfl (lv_at hl 1 rfl) ?_
      refine va_get (D := D) (ci := 5) (v := .ref t3) (C := RX5) (T := TX5) (N := 8) hx hb hts hin_X5 hown hK hP 0 rfl rfl 2 (by decide) (hts (.fieldLink RX5 20 "CryOrder$Plan" "best" "[I") (by decide +kernel)) (fun _ h9 => h9) rfl dX5_weighPool_11 ?_
      refine lv_iload_n hx hb dX5_weighPool_14 rfl (lv_at hl 0 rfl) ?_
      refine lv_iconst (v := 0) hx hb dX5_weighPool_15 (by decide) ?_
      refine va_iast hx hb hK hP hD hS 1 0 rfl rfl (vp_in_iff.mpr (by omega)) dX5_weighPool_16 (fun H_2 locs hP hD hS => ?_)
      have hP : va_P D vwCl [(h0, .inr (5, [.ref t1, .ref t2, .ref t3, .ref t4, .int 0, .int 0, .int 0, .int ml])), (t3, .inl (c6, 301, .inl (upd (f) (x : Int32).toNatClampNeg (0)))), (t4, .inl (c7, 301, .inl (g)))] H_2 := hP
      have hD : va_D A [(h0, .inr (5, [.ref t1, .ref t2, .ref t3, .ref t4, .int 0, .int 0, .int 0, .int ml])), (t3, .inl (c6, 301, .inl (upd (f) (x : Int32).toNatClampNeg (0)))), (t4, .inl (c7, 301, .inl (g)))] := hD
      refine lv_aload_n hx hb dX5_weighPool_17 rfl (lv_at hl 1 rfl) ?_
      refine va_get (D := D) (ci := 5) (v := .ref t4) (C := RX5) (T := TX5) (N := 8) hx hb hts hin_X5 hown hK hP 0 rfl rfl 3 (by decide) (hts (.fieldLink RX5 24 "CryOrder$Plan" "needed" "[I") (by decide +kernel)) (fun _ h9 => h9) rfl dX5_weighPool_18 ?_
      refine lv_iload_n hx hb dX5_weighPool_21 rfl (lv_at hl 0 rfl) ?_
      refine lv_iconst (v := 0) hx hb dX5_weighPool_22 (by decide) ?_
      refine va_iast hx hb hK hP hD hS 2 1 rfl rfl (vp_in_iff.mpr (by omega)) dX5_weighPool_23 (fun H_3 locs hP hD hS => ?_)
      have hP : va_P D vwCl [(h0, .inr (5, [.ref t1, .ref t2, .ref t3, .ref t4, .int 0, .int 0, .int 0, .int ml])), (t3, .inl (c6, 301, .inl (upd (f) (x : Int32).toNatClampNeg (0)))), (t4, .inl (c7, 301, .inl (upd (g) (x : Int32).toNatClampNeg (0))))] H_3 := hP
      have hD : va_D A [(h0, .inr (5, [.ref t1, .ref t2, .ref t3, .ref t4, .int 0, .int 0, .int 0, .int ml])), (t3, .inl (c6, 301, .inl (upd (f) (x : Int32).toNatClampNeg (0)))), (t4, .inl (c7, 301, .inl (upd (g) (x : Int32).toNatClampNeg (0))))] := hD
      refine lv_iinc (v := (x + 1)) (lv' := [(1, .int (x + 1)), (0, .ref h0)]) hx hb dX5_weighPool_24 hl (k := 0) rfl (by rfl) (by decide) rfl (fun ls hl => ?_)
      refine lv_goto (tgt := 2) hx hb dX5_weighPool_27 (by decide) ?_
      have hi := inc_toInt (x := x) (by omega) (by omega)
      exact ih _ _ _ _ _ _ (by omega) (by omega) (by omega) hP hD hS hl

set_option maxHeartbeats 4000000 in
set_option maxRecDepth 100000 in
theorem k_X5_weighPool (l : Launch) (D : va_G) (sz : Nat) (h0 : Nat) (t1 : Nat) (t2 : Nat) (t3 : Nat) (t4 : Nat) (ml : Int32) (f0 : Nat → Int32) (g0 : Nat → Int32) (c6 : ClassId) (c7 : ClassId) (hm : 0 ≤ (ml).toInt ∧ (ml).toInt ≤ 300) : Met l yX5_weighPool wsX5_weighPool ({ frames := 0, cells := 0, slots := 0, locals := 0 }) (va_Pc [.ref h0] (wz sz D [(c6, .int), (c7, .int)] [(h0, .inr (5, [.ref t1, .ref t2, .ref t3, .ref t4, .int 0, .int 0, .int 0, .int ml])), (t3, .inl (c6, 301, .inl (f0))), (t4, .inl (c7, 301, .inl (g0)))])) (va_Qv (fun (_ : Unit) => True) (fun _ t => wp D [] (va_A [(h0, .inr (5, [.ref t1, .ref t2, .ref t3, .ref t4, .int 0, .int 0, .int 0, .int ml])), (t3, .inl (c6, 301, .inl (f0))), (t4, .inl (c7, 301, .inl (g0)))] sz) [(h0, .inr (5, [.ref t1, .ref t2, .ref t3, .ref t4, .int 0, .int 0, .int 0, .int ml]))] t) (va_A [(h0, .inr (5, [.ref t1, .ref t2, .ref t3, .ref t4, .int 0, .int 0, .int 0, .int ml])), (t3, .inl (c6, 301, .inl (f0))), (t4, .inl (c7, 301, .inl (g0)))] sz)) 0 0 (va_A [(h0, .inr (5, [.ref t1, .ref t2, .ref t3, .ref t4, .int 0, .int 0, .int 0, .int ml])), (t3, .inl (c6, 301, .inl (f0))), (t4, .inl (c7, 301, .inl (g0)))] sz) := by
  refine Met.ofW (cc := cX5_weighPool) (maxL := 5) (ret := none) (by decide) rfl ?_
  intro p e s m args below meth c s₁ B hml hv
  obtain ⟨rfl, hsz, hP, hK, hD0, hN⟩ := hv
  have hx := B.exec
  have hb := B.bytes
  have hr := B.returns
  have hts := atoms_spec (ws := wsX5_weighPool) B.pre
  have hown : s.vm.findClass RX5 = some m.cls := findClass_of_methodNamed B.named
  have hlocks := B.notSynchronized
  subst hsz
  have hD := hD0.self (sz := s.heap.size)
  generalize hAe : va_A [(h0, .inr (5, [.ref t1, .ref t2, .ref t3, .ref t4, .int 0, .int 0, .int 0, .int ml])), (t3, .inl (c6, 301, .inl (f0))), (t4, .inl (c7, 301, .inl (g0)))] s.heap.size = A at hD ⊢
  have hA : ∀ q : Nat, s.heap.size ≤ q → A q := fun q h => by rw [← hAe]; exact Or.inr h
  have hS : va_S A s.heap s.heap [] := va_S.rf
  have hin_X5 : ∀ w ∈ u_ws RX5 TX5 8, w ∈ wsX5_weighPool := by decide +kernel
  have hl := lv_entry ([.ref h0]) (n := 5) (Nat.le_of_ble_eq_true rfl)
  rw [lg_entry_eq]
  generalize (lg_sl ([.ref h0]) ++ List.replicate (5 - (lg_sl ([.ref h0])).length) Slot.unset).toArray = ls at hl ⊢
  have hl : lv_has ls 5 [(0, .ref h0)] := hl
  refine lv_iconst (v := 0) hx hb dX5_weighPool_0 (by decide) ?_
  refine lv_istore_n (lv' := [(1, .int 0), (0, .ref h0)]) hx hb dX5_weighPool_1 rfl hl (by decide) rfl (fun ls hl => ?_)
  refine lp_weigh hx hb hts hown hK hm.2 (fun x f g H locs ls hP hD hS hl => ?_) 302 0 _ _ _ _ _ (by decide) (by decide) (by decide) hP hD hS hl
  refine lv_iconst (v := 0) hx hb dX5_weighPool_30 (by decide) ?_
  refine lv_istore_n (lv' := [(1, .int 0), (0, .ref h0)]) hx hb dX5_weighPool_31 rfl hl (by decide) rfl (fun ls hl => ?_)
  refine lv_iload_n hx hb dX5_weighPool_32 rfl (lv_at hl 0 rfl) ?_
  refine lv_aload_n hx hb dX5_weighPool_33 rfl (lv_at hl 1 rfl) ?_
  refine va_get (D := D) (ci := 5) (v := .int 0) (C := RX5) (T := TX5) (N := 8) hx hb hts hin_X5 hown hK hP 0 rfl rfl 5 (by decide) (hts (.fieldLink RX5 31 "CryOrder$Plan" "poolCount" "I") (by decide +kernel)) (fun _ h9 => h9) rfl dX5_weighPool_34 ?_
  refine lv_icmp_ge (tgt := 136) hx hb dX5_weighPool_37 (by decide) (fun _ => ?_) (fun c_ => absurd c_ (by decide))
  refine W.widen (k := 0) (n := 0) (Nat.le_of_ble_eq_true rfl) (Nat.le_of_ble_eq_true rfl) ?_
  have hP9 := hP.sub (ws' := [(h0, .inr (5, [.ref t1, .ref t2, .ref t3, .ref t4, .int 0, .int 0, .int 0, .int ml]))]) [0] rfl
  have hD9 := hD.sub (ws' := [(h0, .inr (5, [.ref t1, .ref t2, .ref t3, .ref t4, .int 0, .int 0, .int 0, .int ml]))]) [0] (by decide) rfl
  have hK9 := hK.sub (tys' := []) [] rfl
  exact W.vret hx hb hr (fun t ht hW => ⟨⟨(), rfl, trivial, by rw [ht]; exact hP9, va_K.moved hW.alike hK9, hD9⟩, hS.F ht⟩) hS.2.2 dX5_weighPool_136

set_option maxHeartbeats 4000000 in
set_option maxRecDepth 100000 in
theorem k_X5_make (l : Launch) (D : va_G) (sz : Nat) (h0 : Nat) (t1 : Nat) (t2 : Nat) (t3 : Nat) (t4 : Nat) (hc : Nat) (o1 : Nat) (y0 : Int32) (y1 : Int32) (y2 : Int32) (y3 : Int32) (p0 : Int32) (p1 : Int32) (f0 : Nat → Int32) (g0 : Nat → Int32) (c6 : ClassId) (c7 : ClassId) (hm : 0 ≤ (p0).toInt ∧ (p0).toInt ≤ 300) : Met l yX5_make wsX5_make ({ frames := 1, cells := 0, slots := 0, locals := 24 }) (va_Pc [.ref h0, .ref hc, .int p0, .int p1] (wz sz D [(c6, .int), (c7, .int)] [(h0, .inr (5, [.ref t1, .ref t2, .ref t3, .ref t4, .int y0, .int y1, .int y2, .int y3])), (hc, .inr (2, [.ref o1, .int 0])), (t3, .inl (c6, 301, .inl (f0))), (t4, .inl (c7, 301, .inl (g0)))])) (va_Qv (fun (_ : Unit) => True) (fun _ t => wp D [] (va_A [(h0, .inr (5, [.ref t1, .ref t2, .ref t3, .ref t4, .int y0, .int y1, .int y2, .int y3])), (hc, .inr (2, [.ref o1, .int 0])), (t3, .inl (c6, 301, .inl (f0))), (t4, .inl (c7, 301, .inl (g0)))] sz) [(h0, .inr (5, [.ref t1, .ref t2, .ref t3, .ref t4, .int 0, .int 0, .int 0, .int p0])), (hc, .inr (2, [.ref o1, .int 0]))] t) (va_A [(h0, .inr (5, [.ref t1, .ref t2, .ref t3, .ref t4, .int y0, .int y1, .int y2, .int y3])), (hc, .inr (2, [.ref o1, .int 0])), (t3, .inl (c6, 301, .inl (f0))), (t4, .inl (c7, 301, .inl (g0)))] sz)) 0 0 (va_A [(h0, .inr (5, [.ref t1, .ref t2, .ref t3, .ref t4, .int y0, .int y1, .int y2, .int y3])), (hc, .inr (2, [.ref o1, .int 0])), (t3, .inl (c6, 301, .inl (f0))), (t4, .inl (c7, 301, .inl (g0)))] sz) := by
  refine Met.ofW (cc := cX5_make) (maxL := 4) (ret := none) (by decide) rfl ?_
  intro p e s m args below meth c s₁ B hml hv
  obtain ⟨rfl, hsz, hP, hK, hD0, hN⟩ := hv
  have hx := B.exec
  have hb := B.bytes
  have hr := B.returns
  have hts := atoms_spec (ws := wsX5_make) B.pre
  have hown : s.vm.findClass RX5 = some m.cls := findClass_of_methodNamed B.named
  have hlocks := B.notSynchronized
  subst hsz
  have hD := hD0.self (sz := s.heap.size)
  generalize hAe : va_A [(h0, .inr (5, [.ref t1, .ref t2, .ref t3, .ref t4, .int y0, .int y1, .int y2, .int y3])), (hc, .inr (2, [.ref o1, .int 0])), (t3, .inl (c6, 301, .inl (f0))), (t4, .inl (c7, 301, .inl (g0)))] s.heap.size = A at hD ⊢
  have hA : ∀ q : Nat, s.heap.size ≤ q → A q := fun q h => by rw [← hAe]; exact Or.inr h
  have hS : va_S A s.heap s.heap [] := va_S.rf
  have hin_X5 : ∀ w ∈ u_ws RX5 TX5 8, w ∈ wsX5_make := by decide +kernel
  have hl := lv_entry ([.ref h0, .ref hc, .int p0, .int p1]) (n := 4) (Nat.le_of_ble_eq_true rfl)
  rw [lg_entry_eq]
  generalize (lg_sl ([.ref h0, .ref hc, .int p0, .int p1]) ++ List.replicate (4 - (lg_sl ([.ref h0, .ref hc, .int p0, .int p1])).length) Slot.unset).toArray = ls at hl ⊢
  have hl : lv_has ls 4 [(0, .ref h0), (1, .ref hc), (2, .int p0), (3, .int p1)] := hl
  refine lv_aload_n hx hb dX5_make_0 rfl (lv_at hl 0 rfl) ?_
  refine lv_iconst (v := 0) hx hb dX5_make_1 (by decide) ?_
  refine va_put (D := D) (ci := 5) (v := .int 0) (ty := .int) (C := RX5) (T := TX5) (N := 8) hx hb hts hin_X5 tyX5 tyX5_ok nmX5 hown hK hP hD hS 0 rfl rfl 4 (by decide) (hts (.fieldLink RX5 27 "CryOrder$Plan" "takenCount" "I") (by decide +kernel)) (fun _ h9 => h9) rfl (by decide +kernel) rfl rfl (Nat.le_of_ble_eq_true rfl) dX5_make_2 (fun H_1 locs hP hD hS => ?_)
  have hP : va_P D vwCl [(h0, .inr (5, [.ref t1, .ref t2, .ref t3, .ref t4, .int 0, .int y1, .int y2, .int y3])), (hc, .inr (2, [.ref o1, .int 0])), (t3, .inl (c6, 301, .inl (f0))), (t4, .inl (c7, 301, .inl (g0)))] H_1 := hP
  have hD : va_D A [(h0, .inr (5, [.ref t1, .ref t2, .ref t3, .ref t4, .int 0, .int y1, .int y2, .int y3])), (hc, .inr (2, [.ref o1, .int 0])), (t3, .inl (c6, 301, .inl (f0))), (t4, .inl (c7, 301, .inl (g0)))] := hD
  refine lv_aload_n hx hb dX5_make_5 rfl (lv_at hl 0 rfl) ?_
  refine lv_iconst (v := 0) hx hb dX5_make_6 (by decide) ?_
  refine va_put (D := D) (ci := 5) (v := .int 0) (ty := .int) (C := RX5) (T := TX5) (N := 8) hx hb hts hin_X5 tyX5 tyX5_ok nmX5 hown hK hP hD hS 0 rfl rfl 5 (by decide) (hts (.fieldLink RX5 31 "CryOrder$Plan" "poolCount" "I") (by decide +kernel)) (fun _ h9 => h9) rfl (by decide +kernel) rfl rfl (Nat.le_of_ble_eq_true rfl) dX5_make_7 (fun H_2 locs hP hD hS => ?_)
  have hP : va_P D vwCl [(h0, .inr (5, [.ref t1, .ref t2, .ref t3, .ref t4, .int 0, .int 0, .int y2, .int y3])), (hc, .inr (2, [.ref o1, .int 0])), (t3, .inl (c6, 301, .inl (f0))), (t4, .inl (c7, 301, .inl (g0)))] H_2 := hP
  have hD : va_D A [(h0, .inr (5, [.ref t1, .ref t2, .ref t3, .ref t4, .int 0, .int 0, .int y2, .int y3])), (hc, .inr (2, [.ref o1, .int 0])), (t3, .inl (c6, 301, .inl (f0))), (t4, .inl (c7, 301, .inl (g0)))] := hD
  refine lv_aload_n hx hb dX5_make_10 rfl (lv_at hl 0 rfl) ?_
  refine lv_iconst (v := 0) hx hb dX5_make_11 (by decide) ?_
  refine va_put (D := D) (ci := 5) (v := .int 0) (ty := .int) (C := RX5) (T := TX5) (N := 8) hx hb hts hin_X5 tyX5 tyX5_ok nmX5 hown hK hP hD hS 0 rfl rfl 6 (by decide) (hts (.fieldLink RX5 34 "CryOrder$Plan" "scoreTaken" "I") (by decide +kernel)) (fun _ h9 => h9) rfl (by decide +kernel) rfl rfl (Nat.le_of_ble_eq_true rfl) dX5_make_12 (fun H_3 locs hP hD hS => ?_)
  have hP : va_P D vwCl [(h0, .inr (5, [.ref t1, .ref t2, .ref t3, .ref t4, .int 0, .int 0, .int 0, .int y3])), (hc, .inr (2, [.ref o1, .int 0])), (t3, .inl (c6, 301, .inl (f0))), (t4, .inl (c7, 301, .inl (g0)))] H_3 := hP
  have hD : va_D A [(h0, .inr (5, [.ref t1, .ref t2, .ref t3, .ref t4, .int 0, .int 0, .int 0, .int y3])), (hc, .inr (2, [.ref o1, .int 0])), (t3, .inl (c6, 301, .inl (f0))), (t4, .inl (c7, 301, .inl (g0)))] := hD
  refine lv_aload_n hx hb dX5_make_15 rfl (lv_at hl 0 rfl) ?_
  refine lv_iconst (v := 0) hx hb dX5_make_16 (by decide) ?_
  refine lv_iload_n hx hb dX5_make_17 rfl (lv_at hl 2 rfl) ?_
  refine lv_sipush (v := 300) hx hb dX5_make_18 (by decide) ?_
  refine va_mmin hx hb (by rw [hml]; exact hl.1.symm) hown (hts (.methodLink RX5 37 Lib.Math.min.name) (by decide +kernel)) (hts (.static Lib.Math.min.name) (by decide +kernel)) (hts (.initialized "java/lang/Math") (by decide +kernel)) (hts (.code Lib.Math.min.name Lib.Math.min.code 2 (some .int)) (by decide +kernel)) (Nat.le_of_ble_eq_true rfl) (Nat.le_of_ble_eq_true rfl) (Nat.le_of_ble_eq_true rfl) (Nat.le_of_ble_eq_true rfl) dX5_make_21 ?_
  refine lv_tope (z := p0) (mn_eq (z := 300) (by omega) (by decide)) ?_
  refine va_mmax hx hb (by rw [hml]; exact hl.1.symm) hown (hts (.methodLink RX5 43 Lib.Math.max.name) (by decide +kernel)) (hts (.static Lib.Math.max.name) (by decide +kernel)) (hts (.initialized "java/lang/Math") (by decide +kernel)) (hts (.code Lib.Math.max.name Lib.Math.max.code 2 (some .int)) (by decide +kernel)) (Nat.le_of_ble_eq_true rfl) (Nat.le_of_ble_eq_true rfl) (Nat.le_of_ble_eq_true rfl) (Nat.le_of_ble_eq_true rfl) dX5_make_24 ?_
  refine lv_tope (z := p0) (mx0 (by omega)) ?_
  refine va_put (D := D) (ci := 5) (v := .int p0) (ty := .int) (C := RX5) (T := TX5) (N := 8) hx hb hts hin_X5 tyX5 tyX5_ok nmX5 hown hK hP hD hS 0 rfl rfl 7 (by decide) (hts (.fieldLink RX5 46 "CryOrder$Plan" "minutesLeft" "I") (by decide +kernel)) (fun _ h9 => h9) rfl (by decide +kernel) rfl rfl (Nat.le_of_ble_eq_true rfl) dX5_make_27 (fun H_4 locs hP hD hS => ?_)
  have hP : va_P D vwCl [(h0, .inr (5, [.ref t1, .ref t2, .ref t3, .ref t4, .int 0, .int 0, .int 0, .int p0])), (hc, .inr (2, [.ref o1, .int 0])), (t3, .inl (c6, 301, .inl (f0))), (t4, .inl (c7, 301, .inl (g0)))] H_4 := hP
  have hD : va_D A [(h0, .inr (5, [.ref t1, .ref t2, .ref t3, .ref t4, .int 0, .int 0, .int 0, .int p0])), (hc, .inr (2, [.ref o1, .int 0])), (t3, .inl (c6, 301, .inl (f0))), (t4, .inl (c7, 301, .inl (g0)))] := hD
  refine lv_aload_n hx hb dX5_make_30 rfl (lv_at hl 0 rfl) ?_
  refine lv_aload_n hx hb dX5_make_31 rfl (lv_at hl 1 rfl) ?_
  refine lv_iload_n hx hb dX5_make_32 rfl (lv_at hl 3 rfl) ?_
  refine va_csv (zrV (As := [.ref hc, .int p1]) (rest := []) (wc := [(h0, .inr (5, [.ref t1, .ref t2, .ref t3, .ref t4, .int 0, .int 0, .int 0, .int p0])), (hc, .inr (2, [.ref o1, .int 0]))]) ⟨hx, hb, hml, hown, hts⟩ hN hK hP hD (k_X5_takeTries l D h0 t1 t2 t3 t4 p0 hc o1 p1 ) (cwV 2 hts gX5_make_X5_takeTries rfl rfl rfl (by decide +kernel) ⟨(Nat.le_of_ble_eq_true rfl), (Nat.le_of_ble_eq_true rfl)⟩) [] [0, 1] rfl rfl (by decide) 5 0 rfl rfl rfl hl.1 rfl (Nat.le_of_ble_eq_true rfl) dX5_make_33 ⟨(Nat.le_of_ble_eq_true rfl), (Nat.le_of_ble_eq_true rfl)⟩) (fun _ => ?_)
  refine lv_aload_n hx hb dX5_make_36 rfl (lv_at hl 0 rfl) ?_
  refine lv_aload_n hx hb dX5_make_37 rfl (lv_at hl 1 rfl) ?_
  refine va_csv (zrV (As := [.ref hc]) (rest := []) (wc := [(h0, .inr (5, [.ref t1, .ref t2, .ref t3, .ref t4, .int 0, .int 0, .int 0, .int p0])), (hc, .inr (2, [.ref o1, .int 0]))]) ⟨hx, hb, hml, hown, hts⟩ hN hK hP hD (k_X5_fillPool l D h0 t1 t2 t3 t4 p0 hc o1 ) (cwV 1 hts gX5_make_X5_fillPool rfl rfl rfl (by decide +kernel) ⟨(Nat.le_of_ble_eq_true rfl), (Nat.le_of_ble_eq_true rfl)⟩) [] [0, 1] rfl rfl (by decide) 5 0 rfl rfl rfl hl.1 rfl (Nat.le_of_ble_eq_true rfl) dX5_make_38 ⟨(Nat.le_of_ble_eq_true rfl), (Nat.le_of_ble_eq_true rfl)⟩) (fun _ => ?_)
  refine lv_aload_n hx hb dX5_make_41 rfl (lv_at hl 0 rfl) ?_
  refine va_callv (zwV (As := []) (rest := []) (wc := [(h0, .inr (5, [.ref t1, .ref t2, .ref t3, .ref t4, .int 0, .int 0, .int 0, .int p0])), (t3, .inl (c6, 301, .inl (f0))), (t4, .inl (c7, 301, .inl (g0)))]) ⟨hx, hb, hml, hown, hts⟩ hN hK hP hD (k_X5_weighPool l D H_4.size h0 t1 t2 t3 t4 p0 ((f0)) ((g0)) c6 c7 (by omega)) (cwV 0 hts gX5_make_X5_weighPool rfl rfl rfl (by decide +kernel) ⟨(Nat.le_of_ble_eq_true rfl), (Nat.le_of_ble_eq_true rfl)⟩) [0, 1] [0, 2, 3] rfl rfl (by decide) 5 0 rfl rfl rfl hl.1 rfl (Nat.le_of_ble_eq_true rfl) dX5_make_42 ⟨(Nat.le_of_ble_eq_true rfl), (Nat.le_of_ble_eq_true rfl)⟩) hS (fun q _ h => va_free (wc := [(h0, .inr (5, [.ref t1, .ref t2, .ref t3, .ref t4, .int 0, .int 0, .int 0, .int p0])), (t3, .inl (c6, 301, .inl (f0))), (t4, .inl (c7, 301, .inl (g0)))]) hD hS hA [0, 2, 3] rfl q h) (va_free (wc := [(h0, .inr (5, [.ref t1, .ref t2, .ref t3, .ref t4, .int 0, .int 0, .int 0, .int p0])), (t3, .inl (c6, 301, .inl (f0))), (t4, .inl (c7, 301, .inl (g0)))]) hD hS hA [0, 2, 3] rfl) (fun u t H_9 locs1 ht hvm hw hB hz1 hk1 hS1 => ?_)
  obtain ⟨hP, hD, hK⟩ := zj (wc := [(h0, .inr (5, [.ref t1, .ref t2, .ref t3, .ref t4, .int 0, .int 0, .int 0, .int p0])), (t3, .inl (c6, 301, .inl (f0))), (t4, .inl (c7, 301, .inl (g0)))]) (wr := [(hc, .inr (2, [.ref o1, .int 0]))]) (w1 := [(h0, .inr (5, [.ref t1, .ref t2, .ref t3, .ref t4, .int 0, .int 0, .int 0, .int p0]))]) hK hP hD hS hA [0, 2, 3] [1] rfl rfl (by decide) (by decide) hk1 ht hvm hB
  have hS := hS1
  have hP : va_P D vwCl [(hc, .inr (2, [.ref o1, .int 0])), (h0, .inr (5, [.ref t1, .ref t2, .ref t3, .ref t4, .int 0, .int 0, .int 0, .int p0]))] H_9 := hP
  have hD : va_D A [(hc, .inr (2, [.ref o1, .int 0])), (h0, .inr (5, [.ref t1, .ref t2, .ref t3, .ref t4, .int 0, .int 0, .int 0, .int p0]))] := hD
  have hK : va_K D vwCl [(c6, .int), (c7, .int)] s := hK
  refine lv_aload_n hx hb dX5_make_45 rfl (lv_at hl 0 rfl) ?_
  refine va_csv (zrV (As := []) (rest := []) (wc := [(h0, .inr (5, [.ref t1, .ref t2, .ref t3, .ref t4, .int 0, .int 0, .int 0, .int p0]))]) ⟨hx, hb, hml, hown, hts⟩ hN hK hP hD (k_X5_takeBestOfPool l D h0 t1 t2 t3 t4 p0 ) (cwV 0 hts gX5_make_X5_takeBestOfPool rfl rfl rfl (by decide +kernel) ⟨(Nat.le_of_ble_eq_true rfl), (Nat.le_of_ble_eq_true rfl)⟩) [] [1] rfl rfl (by decide) 5 0 rfl rfl rfl hl.1 rfl (Nat.le_of_ble_eq_true rfl) dX5_make_46 ⟨(Nat.le_of_ble_eq_true rfl), (Nat.le_of_ble_eq_true rfl)⟩) (fun _ => ?_)
  refine W.widen (k := 0) (n := 0) (Nat.le_of_ble_eq_true rfl) (Nat.le_of_ble_eq_true rfl) ?_
  have hP9 := hP.sub (ws' := [(h0, .inr (5, [.ref t1, .ref t2, .ref t3, .ref t4, .int 0, .int 0, .int 0, .int p0])), (hc, .inr (2, [.ref o1, .int 0]))]) [1, 0] rfl
  have hD9 := hD.sub (ws' := [(h0, .inr (5, [.ref t1, .ref t2, .ref t3, .ref t4, .int 0, .int 0, .int 0, .int p0])), (hc, .inr (2, [.ref o1, .int 0]))]) [1, 0] (by decide) rfl
  have hK9 := hK.sub (tys' := []) [] rfl
  exact W.vret hx hb hr (fun t ht hW => ⟨⟨(), rfl, trivial, by rw [ht]; exact hP9, va_K.moved hW.alike hK9, hD9⟩, hS.F ht⟩) hS.2.2 dX5_make_49
