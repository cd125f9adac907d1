/-- a contract's premise made stronger, its promise made weaker -/
theorem gq_conseq {l : Launch} {y : MethodName} {ws : List Cond} {rm : Room} {P P' : Array Value → State → Prop} {Q Q' : Array Value → State → Outcome → State → Prop} {mc ms : Nat} {free free' : Addr → Prop} (h : Met l y ws rm P Q mc ms free) (hp : ∀ a s, P' a s → P a s) (hq : ∀ a s o t, P' a s → Q a s o t → Q' a s o t) (hf : ∀ q, free q → free' q) : Met l y ws rm P' Q' mc ms free' := by
  intro p e ha hc hk s m args below hfr happ hP _
  obtain ⟨n, o, h1, h2, h3, hQ, L, hF, hL⟩ := h p e ha hc hk s m args below hfr happ (hp _ _ hP) trivial
  exact ⟨n, o, h1, h2, h3, hq _ _ _ _ hP hQ, L, hF, fun q hqL => hf _ (hL q hqL)⟩
/-- behind a call that answers an int: another world, of which I holds -/
def cQ (post : Int32 → Prop) (I : va_W → Prop) (D : va_G) (w : va_W) (sz : Nat) : Array Value → State → Outcome → State → Prop := va_Qi (fun (r : Int32) (_ : Unit) => post r) (fun _ t => ∃ w' : va_W, (va_P D vwCl w' t.heap ∧ va_D (va_A w sz) w') ∧ I w') (va_A w sz)
theorem cQ.read {post : Int32 → Prop} {I : va_W → Prop} {D : va_G} {w : va_W} {sz : Nat} {a av : Array Value} {s t : State} {o : Outcome} {As : List Value} {tys : List (ClassId × FieldType)} (hp : va_Pc As (wz sz D tys w) a s) (hq : vp_Si post av s o t) (hI : I w) : cQ post I D w sz a s o t := by
  obtain ⟨r, h1, h2, h3⟩ := hq
  obtain ⟨-, -, q1, -, q3, -⟩ := hp
  exact ⟨⟨r, (), h1, h2, w, ⟨by rw [h3]; exact q1, q3.self⟩, hI⟩, by rw [h3]; exact Nat.le_refl _, fun q _ _ => by rw [h3]⟩
/-- a world in two halves: the first is the callee's -/
theorem wleft {D : va_G} {cl : List vw_C} {w1 w2 : va_W} {H : Heap} (h : va_P D cl (w1 ++ w2) H) : va_P D cl w1 H := h.by id (fun k q hq => by show (w1 ++ w2)[k]? = some q; rw [List.getElem?_append_left (List.getElem?_eq_some_iff.mp hq).1]; exact hq)
theorem wleftD {A : Nat → Prop} {w1 w2 : va_W} (h : va_D A (w1 ++ w2)) : va_D A w1 := h.by id (fun k q hq => by show (w1 ++ w2)[k]? = some q; rw [List.getElem?_append_left (List.getElem?_eq_some_iff.mp hq).1]; exact hq) (fun _ _ _ _ e => e)
theorem wcomm {D : va_G} {cl : List vw_C} {w1 w2 : va_W} {H : Heap} (h : va_P D cl (w1 ++ w2) H) : va_P D cl (w2 ++ w1) H := va_P.swap (a := []) (b := w1) (c := w2) h
theorem wcommD {A : Nat → Prop} {w1 w2 : va_W} (h : va_D A (w1 ++ w2)) : va_D A (w2 ++ w1) := va_D.swap (a := []) (b := w1) (c := w2) h
theorem wsplit {A : Nat → Prop} {D : va_G} {cl : List vw_C} {w1 w2 w' : va_W} {H H1 : Heap} (hP : va_P D cl (w1 ++ w2) H) (hD : va_D A (w1 ++ w2)) (hk : ∀ q : Nat, q < H.size → ¬ va_A w1 H.size q → H1[q]? = H[q]?) (hF : ∀ q, va_A w1 H.size q → A q) (hP1 : va_P D cl w' H1) (hD1 : va_D (va_A w1 H.size) w') : va_P D cl (w' ++ w2) H1 ∧ va_D A (w' ++ w2) := by
  have at2 : ∀ (k : Nat) (q : Nat × va_E), w2[k]? = some q → (w1 ++ w2)[w1.length + k]? = some q := by
    intro k q hq
    rw [List.getElem?_append_right (by omega), Nat.add_sub_cancel_left]
    exact hq
  have apart : ∀ (k : Nat) (q : Nat × va_E), w2[k]? = some q → q.1 < H.size ∧ ¬ va_A w1 H.size q.1 := by
    intro k q hq
    have hl := (hP _ q (at2 k q hq)).lt
    refine ⟨hl, fun h => ?_⟩
    rcases h with ⟨k2, e, h⟩ | h
    · have h5 := (List.getElem?_eq_some_iff.mp h).1
      have h6 : (w1 ++ w2)[k2]? = some (q.1, e) := by rw [List.getElem?_append_left h5]; exact h
      have := hD.1 _ _ q (q.1, e) (at2 k q hq) h6 rfl
      omega
    · omega
  refine ⟨va_P.app hP1 (fun k q hq => ?_), va_D.app (hD1.weaken (fun k q _ h => hF q.1 h)) (wleftD (wcommD hD)) (fun i j x y hx hy hxy => ?_)⟩
  · obtain ⟨g1, g2⟩ := apart k q hq
    exact (hP _ q (at2 k q hq)).kept (hk q.1 g1 g2)
  · exact (apart j y hy).2 (by rw [← hxy]; exact hD1.2 i x hx)
/-- a contract over some cells, over a world that has them -/
theorem gq_lift {l : Launch} {y : MethodName} {wsY : List Cond} {rm : Room} {As : List Value} {D : va_G} {sz : Nat} {w wc wr : va_W} {tys tys' : List (ClassId × FieldType)} {mc ms : Nat} {post : Int32 → Prop} {I : va_W → Prop} (h : Met l y wsY rm (va_Pc As (wz sz D tys' wc)) (cQ post I D wc sz) mc ms (va_A wc sz)) (isT isC isR : List Nat) (hT : isT.filterMap (fun i => tys[i]?) = tys') (hC : isC.map (fun i => w[i]?) = wc.map some) (hR : isR.map (fun i => w[i]?) = wr.map some) (hnd : va_nd isC = true) (hn : va_nd isR = true) (hdis : ∀ i ∈ isR, i ∉ isC) : Met l y wsY rm (va_Pc As (wz sz D tys w)) (cQ post (fun w' => ∃ w1, w' = wr ++ w1 ∧ I w1) D w sz) mc ms (va_A w sz) := by
  have hfree : ∀ q, va_A wc sz q → va_A w sz q := by
    intro q hq
    rcases hq with ⟨k, e, hk⟩ | hq
    · obtain ⟨i, -, h2⟩ := va_in_of isC hC hk
      exact Or.inl ⟨i, e, h2⟩
    · exact Or.inr hq
  refine gq_conseq h (fun a s q => ⟨q.1, q.2.1, q.2.2.1.sub isC (fm_of hC), q.2.2.2.1.sub isT hT, q.2.2.2.2.1.sub isC hnd hC, q.2.2.2.2.2⟩) (fun a s o t hp hq => ?_) hfree
  obtain ⟨-, hsz, hP, -, hD, -⟩ := hp
  obtain ⟨⟨r, u, h1, h2, w1, ⟨g1, g2⟩, g3⟩, hF1, hF2⟩ := hq
  subst hsz
  obtain ⟨k1, k2⟩ := va_join (wc := wc) (wr := wr) (w1 := w1) hP (hD.self (sz := s.heap.size)) isC isR hC hR hn hdis hF2 hfree g1 g2
  exact ⟨⟨r, u, h1, h2, _, ⟨k1, k2⟩, w1, rfl, g3⟩, hF1, fun q ha hb => hF2 q ha (fun z => hb (hfree q z))⟩
section LWC
variable {p : Program} {l : Launch} {e : Env} {R : Room} {s : State} {m : MethodId} {args : Array Value} {below : List Frame} {meth : Method} {c : Code} {H : Heap} {locs : List Loc} {cells slots : Nat} {Q : State → Prop}
variable {pc : Nat} {ls : Array Slot} {rest st0 As : List Value} {cc bytes : ByteArray} {nL maxL n index : Nat} {ret : Option FieldType} {wsY Ts : List Cond} {rm : Room} {own C : String} {y : MethodName} {b : Nat} {D : va_G} {w1 w2 : va_W} {tys : List (ClassId × FieldType)} {A : Nat → Prop} {H0 : Heap} {mc ms : Nat}
theorem lw_call {post : Int32 → Prop} {I : va_W → Prop} (S : CallFix p m c cc nL s args Ts own) (hN : Nq s) (hK : va_K D vwCl tys s) (hP : va_P D vwCl (w1 ++ w2) H) (hD : va_D A (w1 ++ w2)) (hS : va_S A H0 H locs) (hA : ∀ q, H0.size ≤ q → A q) (hM : Met l y wsY rm (va_Pc (.ref b :: As) (wz H.size D tys w1)) (cQ post I D w1 H.size) mc ms (va_A w1 H.size)) (cw : CallW R s args own C index y bytes maxL ret wsY rm mc ms n) (ci : Nat) {T : u_T} {N : Nat} (hcl : vwCl[ci]? = some (C, T, N)) (hq : ∃ (q0 : Nat) (fs : List Value), w1[q0]? = some (b, .inr (ci, fs))) (hn : As.length = n) (hsize : ls.size = nL) (hst : st0 = As.reverse ++ .ref b :: rest) (hW : (rest.map fun v => v.category).sum ≤ 8) (hdg : decode cc pc = .ok (.invokevirtual index, 3)) (hf : cells + mc ≤ R.cells ∧ slots + ms ≤ R.slots)
    (kk : ∀ (r : Int32) (w' : va_W) (H1 : Heap) (locs1 : List Loc), post r → I w' → va_P D vwCl (w' ++ w2) H1 → va_D A (w' ++ w2) → va_S A H0 H1 locs1 → W p l e R s m args below meth c H1 locs1 (cells + mc) (slots + ms) Q (F0 m (pc + 3) ls (.int r :: rest))) : W p l e R s m args below meth c H locs cells slots Q (F0 m pc ls st0) := by
  have hfree := wfree (wleftD hD) hS hA
  refine va_calli (wwV S hN hK (wleft hP) (wleftD hD) hM cw ci hcl hq hn hsize hst hW hdg hf) hS (fun q _ h => hfree q h) hfree (fun r u t H1 locs1 ht hvm hw hB hz1 hk1 hS1 => ?_)
  obtain ⟨w', ⟨g1, g2⟩, g3⟩ := hB
  rw [ht] at g1
  obtain ⟨k1, k2⟩ := wsplit hP hD hk1 hfree g1 g2
  exact kk r w' H1 locs1 hw g3 k1 k2 hS1
end LWC
