/-- what the tables give beside the words: rows of objects, and the members of nest mates -/
def Nq (U : State) : Prop := (va_AO RX0 U ∧ va_AO RX1 U ∧ va_AO RX4 U ∧ va_AO RX6 U) ∧ (va_Nw (.methodLinkNest RX8 35 yX7_init RX8) U ∧ va_Nw (.methodLinkNest RX8 42 yX2_init RX8) U ∧ va_Nw (.methodLinkNest RX8 49 yX5_init RX8) U) ∧ va_Nw (.methodLinkNest RX2 54 yX8_isBelow RX8) U ∧ va_Nw (.methodLinkNest RX5 63 yX8_isBelow RX8) U ∧ va_Nw (.methodLinkNest RX3 48 yX8_oneIf RX8) U
theorem Nq.same {u U : State} (h : u.vm = U.vm) (q : Nq u) : Nq U := by
  have hv : u.vm.Alike U.vm := by rw [h]; exact Vm.Alike.refl U.vm
  obtain ⟨⟨a1, a2, a3, a4⟩, ⟨b1, b2, b3⟩, c1, c2, c3⟩ := q
  exact ⟨⟨a1.moved hv, a2.moved hv, a3.moved hv, a4.moved hv⟩, ⟨va_Nw.same rfl h b1, va_Nw.same rfl h b2, va_Nw.same rfl h b3⟩, va_Nw.same rfl h c1, va_Nw.same rfl h c2, va_Nw.same rfl h c3⟩
theorem Nq.warm {s U : State} (hW : s.WarmedH U.vm) (q : Nq s) : Nq U := by
  obtain ⟨⟨a1, a2, a3, a4⟩, ⟨b1, b2, b3⟩, c1, c2, c3⟩ := q
  exact ⟨⟨a1.moved hW.alike, a2.moved hW.alike, a3.moved hW.alike, a4.moved hW.alike⟩, ⟨va_Nw.warmM hW b1, va_Nw.warmM hW b2, va_Nw.warmM hW b3⟩, va_Nw.warmM hW c1, va_Nw.warmM hW c2, va_Nw.warmM hW c3⟩
/-- a world: the cells ws, the classes, and what the tables give -/
def wo (D : va_G) (tys : List (ClassId × FieldType)) (ws : va_W) (U : State) : Prop := va_P D vwCl ws U.heap ∧ va_K D vwCl tys U ∧ va_D (fun _ => True) ws ∧ Nq U
/-- the same, with the heap's size -/
def wz (sz : Nat) (D : va_G) (tys : List (ClassId × FieldType)) (ws : va_W) (U : State) : Prop := U.heap.size = sz ∧ wo D tys ws U
/-- a world behind a call -/
def wp (D : va_G) (tys : List (ClassId × FieldType)) (A : Nat → Prop) (ws : va_W) (t : State) : Prop := va_P D vwCl ws t.heap ∧ va_K D vwCl tys t ∧ va_D A ws
theorem wo.blind {As : List Value} {D : va_G} {tys : List (ClassId × FieldType)} {ws : va_W} : FrameBlind (va_Pc As (wo D tys ws)) := fun a U g mk q => ⟨q.1, q.2.1, va_K.moved (u := U) (U := U.calling g mk a) (Vm.Alike.refl U.vm) q.2.2.1, q.2.2.2.1, Nq.same (u := U) (U := U.calling g mk a) rfl q.2.2.2.2⟩
theorem wz.blind {As : List Value} {sz : Nat} {D : va_G} {tys : List (ClassId × FieldType)} {ws : va_W} : FrameBlind (va_Pc As (wz sz D tys ws)) := fun a U g mk q => ⟨q.1, q.2.1, q.2.2.1, va_K.moved (u := U) (U := U.calling g mk a) (Vm.Alike.refl U.vm) q.2.2.2.1, q.2.2.2.2.1, Nq.same (u := U) (U := U.calling g mk a) rfl q.2.2.2.2.2⟩
theorem wo.pre {D : va_G} {tys : List (ClassId × FieldType)} {ws : va_W} {H : Heap} {s : State} {A : Nat → Prop} (hP : va_P D vwCl ws H) (hK : va_K D vwCl tys s) (hD : va_D A ws) (hN : Nq s) {U : State} (hU : U.heap = H) (hW : s.WarmedH U.vm) : wo D tys ws U := ⟨by rw [hU]; exact hP, va_K.moved hW.alike hK, hD.weaken (fun _ _ _ _ => trivial), hN.warm hW⟩
theorem fm_of {α : Type} {is : List Nat} {f : Nat → Option α} {wc : List α} (h : is.map f = wc.map some) : is.filterMap f = wc := by
  induction is generalizing wc with
  | nil =>
    cases wc with
    | nil => rfl
    | cons a t => simp at h
  | cons i is ih =>
    cases wc with
    | nil => simp at h
    | cons a t =>
      simp only [List.map_cons, List.cons.injEq] at h
      rw [List.filterMap_cons, h.1, ih h.2]
theorem vp_in0 {n : Nat} (h : 0 < n) : vp_in 0 n := by
  have h3 : (0 : Int32).toInt = 0 := by decide
  exact vp_in_iff.mpr ⟨by omega, by omega⟩
section CR
variable {p : Program} {l : Launch} {e : Env} {R : Room} {s : State} {m : MethodId} {args : Array Value} {below : List Frame} {meth : Method} {c : Code} {H : Heap} {locs : List Loc} {cells slots : Nat} {Q : State → Prop}
variable {pc : Nat} {ls : Array Slot} {rest st0 As : List Value} {cc bytes : ByteArray} {nL maxL n index : Nat} {ret : Option FieldType} {wsY Ts : List Cond} {rm : Room} {own C host : String} {y : MethodName} {b : Nat} {D : va_G} {ws wc wr : va_W} {tys tys' : List (ClassId × FieldType)} {A : Nat → Prop} {H0 : Heap} {mc ms : Nat}
theorem lv_tope {x z : Int32} (h : x = z) (k : W p l e R s m args below meth c H locs cells slots Q (F0 m pc ls (.int z :: rest))) : W p l e R s m args below meth c H locs cells slots Q (F0 m pc ls (.int x :: rest)) := by
  rw [h]; exact k
theorem lv_topv {x z : Value} (h : x = z) (k : W p l e R s m args below meth c H locs cells slots Q (F0 m pc ls (z :: rest))) : W p l e R s m args below meth c H locs cells slots Q (F0 m pc ls (x :: rest)) := by
  rw [h]; exact k
theorem cr_of {Qa : State → Outcome → State → Prop} {free : Addr → Prop} {g : JFrame} (h : va_Run p l e R s m args below meth c H locs cells slots mc ms g rest Qa free) : CallRun p l e R s m args below meth c H locs cells slots mc ms g rest Qa free := by
  intro T hT X
  obtain ⟨v, st₀, t, T', L, a1, a2, a3, a4, a5, a6, a7⟩ := h T hT X
  exact ⟨v, st₀, t, T', L, a1, a2, a3, a4, a6, a7⟩
/-- a read, virtual: the callee's cells cut out, the call's run -/
theorem zrV {Qc : Array Value → State → Outcome → State → Prop} (S : CallFix p m c cc nL s args Ts own) (hN : Nq s) (hK : va_K D vwCl tys s) (hP : va_P D vwCl ws H) (hD : va_D A ws) (hM : Met l y wsY rm (va_Pc (.ref b :: As) (wo D tys' wc)) Qc 0 0 (fun _ => False)) (cw : CallW R s args own C index y bytes maxL ret wsY rm 0 0 n) (isT isC : List Nat) (hT : isT.filterMap (fun i => tys[i]?) = tys') (hC : isC.map (fun i => ws[i]?) = wc.map some) (hnd : va_nd isC = true) (ci q0 : Nat) {T : u_T} {N : Nat} {fs : List Value} (hcl : vwCl[ci]? = some (C, T, N)) (hq : wc[q0]? = some (b, .inr (ci, fs))) (hn : As.length = n) (hsize : ls.size = nL) (hst : st0 = As.reverse ++ .ref b :: rest) (hW : (rest.map fun v => v.category).sum ≤ 8) (hdg : decode cc pc = .ok (.invokevirtual index, 3)) (hf : cells + 0 ≤ R.cells ∧ slots + 0 ≤ R.slots) :
    CallRun p l e R s m args below meth c H locs cells slots 0 0 (F0 m pc ls st0) rest (Qc (Value.ref b :: As).toArray) (fun _ => False) := by
  have hPc : va_P D vwCl wc H := hP.sub isC (fm_of hC)
  have hDc : va_D A wc := hD.sub isC hnd hC
  have hKc : va_K D vwCl tys' s := hK.sub isT hT
  exact W.runV S hM cw ⟨wo.blind, va_recv hKc hPc hcl hq, fun U hU hW => ⟨rfl, wo.pre hPc hKc hDc hN hU hW⟩⟩ rfl hn hsize hst (lv_room hW) hdg hf
theorem zrS {Qc : Array Value → State → Outcome → State → Prop} (S : CallFix p m c cc nL s args Ts own) (hN : Nq s) (hK : va_K D vwCl tys s) (hP : va_P D vwCl ws H) (hD : va_D A ws) (hM : Met l y wsY rm (va_Pc As (wo D tys' wc)) Qc 0 0 (fun _ => False)) (cw : CallB R s args own index y bytes maxL ret wsY rm 0 0 n ∧ (Cond.static y).before args s = true) (isT isC : List Nat) (hT : isT.filterMap (fun i => tys[i]?) = tys') (hC : isC.map (fun i => ws[i]?) = wc.map some) (hnd : va_nd isC = true) (hn : As.length = n) (hsize : ls.size = nL) (hst : st0 = As.reverse ++ rest) (hW : (rest.map fun v => v.category).sum ≤ 8) (hdg : decode cc pc = .ok (.invokestatic index, 3)) (hf : cells + 0 ≤ R.cells ∧ slots + 0 ≤ R.slots) :
    CallRun p l e R s m args below meth c H locs cells slots 0 0 (F0 m pc ls st0) rest (Qc As.toArray) (fun _ => False) := by
  have hPc : va_P D vwCl wc H := hP.sub isC (fm_of hC)
  have hDc : va_D A wc := hD.sub isC hnd hC
  have hKc : va_K D vwCl tys' s := hK.sub isT hT
  exact W.runS S hM cw ⟨wo.blind, fun U hU hW => ⟨rfl, wo.pre hPc hKc hDc hN hU hW⟩⟩ rfl hn hsize hst (lv_room hW) hdg hf
theorem zrN {Qc : Array Value → State → Outcome → State → Prop} (S : CallFix p m c cc nL s args Ts own) (hN : Nq s) (hK : va_K D vwCl tys s) (hP : va_P D vwCl ws H) (hD : va_D A ws) (hM : Met l y wsY rm (va_Pc As (wo D tys' wc)) Qc 0 0 (fun _ => False)) (cw : va_CN R s args own index y host bytes maxL ret wsY rm 0 0 n ∧ (Cond.static y).before args s = true ∧ True) (isT isC : List Nat) (hT : isT.filterMap (fun i => tys[i]?) = tys') (hC : isC.map (fun i => ws[i]?) = wc.map some) (hnd : va_nd isC = true) (hn : As.length = n) (hsize : ls.size = nL) (hst : st0 = As.reverse ++ rest) (hW : (rest.map fun v => v.category).sum ≤ 8) (hdg : decode cc pc = .ok (.invokestatic index, 3)) (hf : cells + 0 ≤ R.cells ∧ slots + 0 ≤ R.slots) :
    CallRun p l e R s m args below meth c H locs cells slots 0 0 (F0 m pc ls st0) rest (Qc As.toArray) (fun _ => False) := by
  have hPc : va_P D vwCl wc H := hP.sub isC (fm_of hC)
  have hDc : va_D A wc := hD.sub isC hnd hC
  have hKc : va_K D vwCl tys' s := hK.sub isT hT
  exact cr_of (va_runSN S hM cw ⟨wo.blind, fun U hU hW => ⟨rfl, wo.pre hPc hKc hDc hN hU hW⟩⟩ rfl hn hsize hst (lv_room hW) hdg hf)
/-- a call that writes, virtual -/
theorem zwV {Qc : Array Value → State → Outcome → State → Prop} (S : CallFix p m c cc nL s args Ts own) (hN : Nq s) (hK : va_K D vwCl tys s) (hP : va_P D vwCl ws H) (hD : va_D A ws) (hM : Met l y wsY rm (va_Pc (.ref b :: As) (wz H.size D tys' wc)) Qc mc ms (va_A wc H.size)) (cw : CallW R s args own C index y bytes maxL ret wsY rm mc ms n) (isT isC : List Nat) (hT : isT.filterMap (fun i => tys[i]?) = tys') (hC : isC.map (fun i => ws[i]?) = wc.map some) (hnd : va_nd isC = true) (ci q0 : Nat) {T : u_T} {N : Nat} {fs : List Value} (hcl : vwCl[ci]? = some (C, T, N)) (hq : wc[q0]? = some (b, .inr (ci, fs))) (hn : As.length = n) (hsize : ls.size = nL) (hst : st0 = As.reverse ++ .ref b :: rest) (hW : (rest.map fun v => v.category).sum ≤ 8) (hdg : decode cc pc = .ok (.invokevirtual index, 3)) (hf : cells + mc ≤ R.cells ∧ slots + ms ≤ R.slots) :
    va_Run p l e R s m args below meth c H locs cells slots mc ms (F0 m pc ls st0) rest (Qc (Value.ref b :: As).toArray) (va_A wc H.size) := by
  have hPc : va_P D vwCl wc H := hP.sub isC (fm_of hC)
  have hDc : va_D A wc := hD.sub isC hnd hC
  have hKc : va_K D vwCl tys' s := hK.sub isT hT
  exact va_runV S hM cw ⟨wz.blind, va_recv hKc hPc hcl hq, fun U hU hW => ⟨rfl, by rw [hU], wo.pre hPc hKc hDc hN hU hW⟩⟩ rfl hn hsize hst (lv_room hW) hdg hf
theorem zwI {Qc : Array Value → State → Outcome → State → Prop} (S : CallFix p m c cc nL s args Ts own) (hN : Nq s) (hK : va_K D vwCl tys s) (hP : va_P D vwCl ws H) (hD : va_D A ws) (hM : Met l y wsY rm (va_Pc (.ref b :: As) (wz H.size D tys' wc)) Qc mc ms (va_A wc H.size)) (cw : CallB R s args own index y bytes maxL none wsY rm mc ms n ∧ y.name = "<init>" ∧ (Cond.instanceMethod y).before args s = true) (isT isC : List Nat) (hT : isT.filterMap (fun i => tys[i]?) = tys') (hC : isC.map (fun i => ws[i]?) = wc.map some) (hnd : va_nd isC = true) (hn : As.length = n) (hsize : ls.size = nL) (hst : st0 = As.reverse ++ .ref b :: rest) (hW : (rest.map fun v => v.category).sum ≤ 8) (hdg : decode cc pc = .ok (.invokespecial index, 3)) (hf : cells + mc ≤ R.cells ∧ slots + ms ≤ R.slots) :
    va_Run p l e R s m args below meth c H locs cells slots mc ms (F0 m pc ls st0) rest (Qc (Value.ref b :: As).toArray) (va_A wc H.size) := by
  have hPc : va_P D vwCl wc H := hP.sub isC (fm_of hC)
  have hDc : va_D A wc := hD.sub isC hnd hC
  have hKc : va_K D vwCl tys' s := hK.sub isT hT
  exact va_runI S hM cw ⟨wz.blind, fun U hU hW => ⟨rfl, by rw [hU], wo.pre hPc hKc hDc hN hU hW⟩⟩ rfl hn hsize hst (lv_room hW) hdg hf
theorem zwN {Qc : Array Value → State → Outcome → State → Prop} (S : CallFix p m c cc nL s args Ts own) (hN : Nq s) (hK : va_K D vwCl tys s) (hP : va_P D vwCl ws H) (hD : va_D A ws) (hM : Met l y wsY rm (va_Pc (.ref b :: As) (wz H.size D tys' wc)) Qc mc ms (va_A wc H.size)) (cw : va_CN R s args own index y host bytes maxL none wsY rm mc ms n ∧ y.name = "<init>" ∧ (Cond.instanceMethod y).before args s = true) (isT isC : List Nat) (hT : isT.filterMap (fun i => tys[i]?) = tys') (hC : isC.map (fun i => ws[i]?) = wc.map some) (hnd : va_nd isC = true) (hn : As.length = n) (hsize : ls.size = nL) (hst : st0 = As.reverse ++ .ref b :: rest) (hW : (rest.map fun v => v.category).sum ≤ 8) (hdg : decode cc pc = .ok (.invokespecial index, 3)) (hf : cells + mc ≤ R.cells ∧ slots + ms ≤ R.slots) :
    va_Run p l e R s m args below meth c H locs cells slots mc ms (F0 m pc ls st0) rest (Qc (Value.ref b :: As).toArray) (va_A wc H.size) := by
  have hPc : va_P D vwCl wc H := hP.sub isC (fm_of hC)
  have hDc : va_D A wc := hD.sub isC hnd hC
  have hKc : va_K D vwCl tys' s := hK.sub isT hT
  exact va_runIN S hM cw ⟨wz.blind, fun U hU hW => ⟨rfl, by rw [hU], wo.pre hPc hKc hDc hN hU hW⟩⟩ rfl hn hsize hst (lv_room hW) hdg hf
/-- behind a call that writes: the rest and what came back -/
theorem zj {H1 : Heap} {w1 : va_W} {tys1 : List (ClassId × FieldType)} {t : State} (hK : va_K D vwCl tys s) (hP : va_P D vwCl ws H) (hD : va_D A ws) (hS : va_S A H0 H locs) (hA : ∀ q, H0.size ≤ q → A q) (isC isR : List Nat) (hC : isC.map (fun i => ws[i]?) = wc.map some) (hR : isR.map (fun i => ws[i]?) = wr.map some) (hn : va_nd isR = true) (hdis : ∀ i ∈ isR, i ∉ isC) (hk : ∀ q : Nat, q < H.size → ¬ va_A wc H.size q → H1[q]? = H[q]?) (ht : t.heap = H1) (hvm : s.vm.Alike t.vm) (hB : wp D tys1 (va_A wc H.size) w1 t) : va_P D vwCl (wr ++ w1) H1 ∧ va_D A (wr ++ w1) ∧ va_K D vwCl (tys ++ tys1) s := by
  obtain ⟨h1, h2, h3⟩ := hB
  rw [ht] at h1
  obtain ⟨a1, a2⟩ := va_join (wc := wc) (wr := wr) (w1 := w1) hP hD isC isR hC hR hn hdis hk (va_free (wc := wc) hD hS hA isC hC) h1 h3
  exact ⟨a1, a2, hK.app (va_K.moved hvm.symm h2)⟩
end CR
theorem wp_nil {D : va_G} {A : Nat → Prop} {t : State} {cl : List vw_C} {tys : List (ClassId × FieldType)} (hK : va_K D vwCl tys t) : wp D [] A [] t := ⟨fun k q h => by simp at h, ⟨hK.1, fun k q h => by simp at h⟩, ⟨fun i j p q h => by simp at h, fun k q h => by simp at h⟩⟩
