theorem fa_or (a b : Nat) : nI a ||| nI b = nI (a ||| b) := by
  apply Int32.toBitVec_inj.1
  show BitVec.ofNat 32 a ||| BitVec.ofNat 32 b = BitVec.ofNat 32 (a ||| b)
  apply BitVec.eq_of_getLsbD_eq
  intro i hi
  simp [hi]
/-- rows of the reference: the first n places are column k of the table; the others are 0 -/
def mqA (f : Nat → Int32) (n : Int) (V : Nat → Nat → Int) (k : Nat) : Prop := ∀ i : Nat, (i : Int) < n → (f i).toInt = V i k
def mqZ (f : Nat → Int32) (n : Int) : Prop := ∀ i : Nat, n ≤ (i : Int) → f i = 0
section MQ
variable {f g : Nat → Int32} {n n' : Int} {V : Nat → Nat → Int} {k : Nat} {i x z : Int32} {R : Nat → Int} {m : Nat}
theorem mqA.get (h : mqA f n V k) (e : z = f i.toNatClampNeg) (h0 : 0 ≤ i.toInt ∧ i.toInt < n) : z.toInt = V i.toNatClampNeg k := by
  rw [e]; exact h _ (by rw [tnc_eq h0.1]; exact h0.2)
theorem mqA.set (h : mqA f n V k) (eg : g = upd f i.toNatClampNeg x) (hv : x.toInt = R k) : mqA g n (va_up V i.toNatClampNeg R) k := fun j hj => by
  rw [eg]
  by_cases q : j = i.toNatClampNeg
  · rw [q, pk_us, va_up_self]; exact hv
  · rw [pk_un q, va_up_ne _ _ q]; exact h j hj
theorem mqA.setN {I : Nat} (h : mqA f n V k) (eg : g = upd f I x) (hv : x.toInt = R k) : mqA g n (va_up V I R) k := fun j hj => by
  rw [eg]
  by_cases q : j = I
  · rw [q, pk_us, va_up_self]; exact hv
  · rw [pk_un q, va_up_ne _ _ q]; exact h j hj
theorem mqZ.setN {I : Nat} (h : mqZ f n) (eg : g = upd f I x) (hi : (I : Int) < n) : mqZ g n := fun j hj => by
  rw [eg, pk_un (by omega)]; exact h j hj
theorem mqA.keep (h : mqA f n V k) (hR : R k = V m k) : mqA f n (va_up V m R) k := fun j hj => by
  by_cases q : j = m
  · subst q; rw [va_up_self, hR]; exact h j hj
  · rw [va_up_ne _ _ q]; exact h j hj
theorem mqA.add (h : mqA f n V k) (eg : g = upd f i.toNatClampNeg x) (hi : i.toInt = n) (h0 : 0 ≤ n) (hv : x.toInt = R k) : mqA g (n + 1) (va_up V n.toNat R) k := fun j hj => by
  have hm : i.toNatClampNeg = n.toNat := by
    show i.toInt.toNat = n.toNat
    rw [hi]
  rw [eg, hm]
  by_cases q : j = n.toNat
  · rw [q, pk_us, va_up_self]; exact hv
  · rw [pk_un q, va_up_ne _ _ q]; exact h j (by omega)
theorem mqA.addz (h : mqA f n V k) (hz : mqZ f n) (h0 : 0 ≤ n) (hR : R k = 0) : mqA f (n + 1) (va_up V n.toNat R) k := fun j hj => by
  by_cases q : j = n.toNat
  · rw [q, va_up_self, hR, hz _ (by omega)]; rfl
  · rw [va_up_ne _ _ q]; exact h j (by omega)
theorem mqZ.set (h : mqZ f n) (eg : g = upd f i.toNatClampNeg x) (hi : 0 ≤ i.toInt ∧ i.toInt < n) : mqZ g n := fun j hj => by
  have := tnc_eq hi.1
  rw [eg, pk_un (by omega)]; exact h j hj
theorem mqZ.up (h : mqZ f n) (hn : n ≤ n') : mqZ f n' := fun j hj => h j (by omega)
theorem mqZ.add (h : mqZ f n) (eg : g = upd f i.toNatClampNeg x) (hi : i.toInt = n) (h0 : 0 ≤ n) (hn : n' = n + 1) : mqZ g n' := fun j hj => by
  have hm : i.toNatClampNeg = n.toNat := by
    show i.toInt.toNat = n.toNat
    rw [hi]
  rw [eg, hm, pk_un (by omega)]; exact h j (by omega)
end MQ
/-- what alarm leaves of columns that it does not write -/
theorem al_keep {V U : Nat → Nat → Int} {na ns nw cap so th ma wo : Int} {f : Nat → Int32} {k : Nat} (hk : k = 12 ∨ k = 13 ∨ k = 14) (h : mqA f na V k) (hz : mqZ f na) (h0 : 0 ≤ na) : mqA f (alX V U na ns nw cap so th ma wo).2.1 (alX V U na ns nw cap so th ma wo).2.2 k ∧ mqZ f (alX V U na ns nw cap so th ma wo).2.1 := by
  by_cases ok : alOK so th ma wo
  · rcases e : rpF V so th ma nw na.toNat with _ | i
    · by_cases hn : 200 ≤ na
      · rw [alX_full ok e hn]; exact ⟨h, hz⟩
      · rw [alX_new ok e hn]
        exact ⟨h.addz hz h0 (by rcases hk with q | q | q <;> subst q <;> rfl), hz.up (by show na ≤ na + 1; omega)⟩
    · rw [alX_rep ok e]
      refine ⟨h.keep ?_, hz⟩
      unfold reRow
      rw [if_neg (by omega), if_neg (by omega)]
  · rw [alX_bad ok]; exact ⟨h, hz⟩
/-- the silences of the reference's loop -/
def msC (f g : Nat → Int32) (a : Nat) (U : Nat → Nat → Int) (so nw k : Int) : Prop := (∀ i, i ≠ a → g i = f i) ∧ (((∃ i : Nat, (i : Int) < k ∧ siC U so nw i) ∧ g a = 1) ∨ ((¬ ∃ i : Nat, (i : Int) < k ∧ siC U so nw i) ∧ g a = 0))
theorem msC.start {f : Nat → Int32} {a : Nat} {U : Nat → Nat → Int} {so nw : Int} (h : f a = 0) : msC f f a U so nw 0 := ⟨fun _ _ => rfl, Or.inr ⟨fun ⟨i, hi, _⟩ => by omega, h⟩⟩
theorem msC.next {f g g' : Nat → Int32} {a kk : Nat} {U : Nat → Nat → Int} {so nw k k' : Int} {x z : Int32} (h : msC f g a U so nw k) (hkk : (kk : Int) = k) (hk : k' = k + 1) (ez : z = g a) (eg : g' = upd g a x) (hx : (¬ z.toInt = 0 ∧ x = 1) ∨ (siC U so nw kk ∧ x = 1) ∨ ((z.toInt = 0 ∧ ¬ siC U so nw kk) ∧ x = 0)) : msC f g' a U so nw k' := by
  refine ⟨fun i hi => by rw [eg, pk_un hi]; exact h.1 i hi, ?_⟩
  rw [eg, pk_us, hk]
  rcases hx with ⟨c, hx⟩ | ⟨c, hx⟩ | ⟨⟨c1, c2⟩, hx⟩
  · refine Or.inl ⟨?_, hx⟩
    rcases h.2 with ⟨⟨i, h1, h2⟩, -⟩ | ⟨-, h2⟩
    · exact ⟨i, by omega, h2⟩
    · rw [ez, h2] at c; exact absurd (by decide) c
  · exact Or.inl ⟨⟨kk, by omega, c⟩, hx⟩
  · refine Or.inr ⟨fun ⟨i, h1, h2⟩ => ?_, hx⟩
    rcases h.2 with ⟨-, h3⟩ | ⟨h3, -⟩
    · rw [ez, h3] at c1; exact absurd c1 (by decide)
    · by_cases q : (i : Int) < k
      · exact h3 ⟨i, q, h2⟩
      · rw [show i = kk by omega] at h2; exact c2 h2
theorem msC.sib {f g : Nat → Int32} {a : Nat} {U : Nat → Nat → Int} {so nw ns : Int} (h : msC f g a U so nw ns) : (g a).toInt = siB U so nw ns ∧ (g a = 0 ∨ g a = 1) := by
  rcases h.2 with ⟨c, e⟩ | ⟨c, e⟩
  · rw [siB_1 c, e]; exact ⟨by decide, Or.inr rfl⟩
  · rw [siB_0 c, e]; exact ⟨by decide, Or.inl rfl⟩
theorem mqA.addm {f g : Nat → Int32} {V U : Nat → Nat → Int} {n so nw ns : Int} {k : Nat} {i : Int32} {R : Nat → Int} (h : mqA f n V k) (hm : msC f g i.toNatClampNeg U so nw ns) (hi : i.toInt = n) (h0 : 0 ≤ n) (hv : (g i.toNatClampNeg).toInt = R k) : mqA g (n + 1) (va_up V n.toNat R) k := fun j hj => by
  have hn : i.toNatClampNeg = n.toNat := by
    show i.toInt.toNat = n.toNat
    rw [hi]
  rw [hn] at hm hv
  by_cases q : j = n.toNat
  · rw [q, va_up_self]; exact hv
  · rw [hm.1 j q, va_up_ne _ _ q]; exact h j (by omega)
theorem mqZ.addm {f g : Nat → Int32} {U : Nat → Nat → Int} {n so nw ns : Int} {i : Int32} (h : mqZ f n) (hm : msC f g i.toNatClampNeg U so nw ns) (hi : i.toInt = n) (h0 : 0 ≤ n) : mqZ g (n + 1) := fun j hj => by
  have hn : i.toNatClampNeg = n.toNat := by
    show i.toInt.toNat = n.toNat
    rw [hi]
  rw [hn] at hm
  rw [hm.1 j (by omega)]; exact h j (by omega)
theorem cpF_upH {V : Nat → Nat → Int} {so nw : Int} {k k' x x' : Int32} (e : x.toInt = cpF V so nw k.toInt.toNat) (h0 : 0 ≤ k.toInt) (hk : k'.toInt = k.toInt + 1) (hx : x'.toInt = x.toInt + 1) (h : cpC V so nw k.toNatClampNeg) : x'.toInt = cpF V so nw k'.toInt.toNat := by
  have h : cpC V so nw k.toInt.toNat := h
  rw [show k'.toInt.toNat = k.toInt.toNat + 1 by omega, cpF_hit h]; omega
theorem cpF_upS {V : Nat → Nat → Int} {so nw : Int} {k k' x x' : Int32} (e : x.toInt = cpF V so nw k.toInt.toNat) (h0 : 0 ≤ k.toInt) (hk : k'.toInt = k.toInt + 1) (hx : x'.toInt = x.toInt) (h : ¬ cpC V so nw k.toNatClampNeg) : x'.toInt = cpF V so nw k'.toInt.toNat := by
  have h : ¬ cpC V so nw k.toInt.toNat := h
  rw [show k'.toInt.toNat = k.toInt.toNat + 1 by omega, cpF_skip h]; omega
/-- bits one by one -/
def mnI (p v x : Int32) : Prop := (0 ≤ p.toInt ∧ p.toInt < 1024) → ∃ j : Nat, v.toInt < ((2 ^ j : Nat) : Int) ∧ 0 ≤ v.toInt ∧ x.toInt + (popF j v.toInt.toNat : Int) = (popF 10 p.toInt.toNat : Int) ∧ 0 ≤ x.toInt ∧ x.toInt + (j : Int) ≤ 10
theorem mnI.start {p : Int32} : mnI p p 0 := fun h => ⟨10, by show p.toInt < 1024; omega, h.1, by show (0 : Int) + _ = _; omega, by decide, by decide⟩
theorem popF_0 (j : Nat) : popF j 0 = 0 := by
  induction j with
  | zero => rfl
  | succ j ih => show 0 % 2 + popF j (0 / 2) = 0; rw [Nat.zero_div, ih]
theorem mnI.stop {p v x : Int32} (h : mnI p v x) (hv : v.toInt ≤ 0) (hp : 0 ≤ p.toInt ∧ p.toInt < 1024) : x.toInt = (popF 10 p.toInt.toNat : Int) := by
  obtain ⟨j, -, h1, h2, -⟩ := h hp
  rw [show v.toInt.toNat = 0 by omega, popF_0] at h2
  omega
theorem mnI.next {p v x v' x' y : Int32} (h : mnI p v x) (hv : 0 < v.toInt) (ev : v' = v >>> ((1 : Int32) &&& 31)) (ey : y = v &&& 1) (ex : x' = x + y) : mnI p v' x' := fun hp => by
  obtain ⟨j, h0, h1, h2, h3, h4⟩ := h hp
  have e1 : v'.toInt = v.toInt / 2 := by
    rw [ev, pk_shr v ((1 : Int32) &&& 31) 1 (by decide), Int.shiftRight_eq_div_pow]
    rfl
  obtain ⟨q, hq, eq⟩ := nI_of (x := v) (fun z => by have := Int32.lt_iff_toInt_lt.mp z; have h3 : (0 : Int32).toInt = 0 := rfl; omega)
  have e2 : y.toInt = v.toInt % 2 := by
    rw [ey, eq, pk_andN (by omega) (m := 1) 1 (by decide), nI_toInt (by omega), nI_toInt hq]
    omega
  cases j with
  | zero => exfalso; have : ((2 ^ 0 : Nat) : Int) = 1 := rfl; omega
  | succ j =>
    have h2 : x.toInt + ((v.toInt.toNat % 2 + popF j (v.toInt.toNat / 2) : Nat) : Int) = (popF 10 p.toInt.toNat : Int) := h2
    have h6 : ((2 ^ (j + 1) : Nat) : Int) = 2 * ((2 ^ j : Nat) : Int) := by rw [Nat.pow_succ]; omega
    have e3 : x'.toInt = x.toInt + y.toInt := ad_toInt ex rfl rfl (by omega)
    refine ⟨j, by omega, by omega, ?_, by omega, by omega⟩
    rw [show v'.toInt.toNat = v.toInt.toNat / 2 by omega]
    omega
/-- lookers' bits -/
theorem orI_rng {x : Int} {v : Int32} (hx : 0 ≤ x ∧ x < 1024) (hv : 0 ≤ v.toInt ∧ v.toInt < 10) : 0 ≤ orI x v ∧ orI x v < 1024 := by
  have e : Int32.ofInt x = nI x.toNat := by
    show Int32.ofInt x = Int32.ofNat x.toNat
    rw [← Int32.ofInt_eq_ofNat]
    congr 1
    omega
  have ev : ∃ l : Nat, l < 10 ∧ v = nI l := by
    refine ⟨v.toInt.toNat, by omega, ?_⟩
    apply Int32.toInt_inj.mp
    rw [nI_toInt (by omega)]
    omega
  obtain ⟨l, hl, el⟩ := ev
  have es : ∀ q : Fin 10, ((1 : Int32) <<< (nI q.val &&& 31)) = nI (2 ^ q.val) := by decide +kernel
  have e2 : ((1 : Int32) <<< (nI l &&& 31)) = nI (2 ^ l) := es ⟨l, hl⟩
  unfold orI
  rw [e, el, e2, fa_or]
  have b : x.toNat ||| 2 ^ l < 2 ^ 10 := Nat.or_lt_two_pow (by omega) (Nat.pow_lt_pow_right (by decide) hl)
  have b : x.toNat ||| 2 ^ l < 1024 := b
  rw [nI_toInt (by omega)]
  omega
/-- what holds of the bits of every alarm -/
def vBit (V : Nat → Nat → Int) (n : Int) : Prop := ∀ i : Nat, (i : Int) < n → (0 ≤ V i 13 ∧ V i 13 < 1024) ∧ (0 ≤ V i 14 ∧ V i 14 < 1024) ∧ (V i 12 = 0 → bcI (V i 13) < 2 ∧ bcI (V i 14) < 2)
theorem heT_rng {x : Int} {v w : Int32} (hx : 0 ≤ x ∧ x < 1024) (hv : 0 ≤ v.toInt ∧ v.toInt < 10) : 0 ≤ heT x v w ∧ heT x v w < 1024 := by
  unfold heT
  split
  · exact hx
  · exact orI_rng hx hv
theorem heF_rng {x : Int} {v w : Int32} (hx : 0 ≤ x ∧ x < 1024) (hv : 0 ≤ v.toInt ∧ v.toInt < 10) : 0 ≤ heF x v w ∧ heF x v w < 1024 := by
  unfold heF
  split
  · exact orI_rng hx hv
  · exact hx
section MV
variable {V : Nat → Nat → Int} {na v0 : Int} {v w : Int32} {f8 f9 f10 g8 g9 g10 : Nat → Int32}
theorem veX_ok (h : veOK V na v0 v) : veX V na v0 v w = (if heS (heT (V v0.toNat 13) v w) (heF (V v0.toNat 14) v w) (V v0.toNat 12) = 0 then 0 else 1, va_up V v0.toNat (veRow (V v0.toNat) (heT (V v0.toNat 13) v w) (heF (V v0.toNat 14) v w) (heS (heT (V v0.toNat 13) v w) (heF (V v0.toNat 14) v w) (V v0.toNat 12)))) := if_pos h
theorem mv_no (h : ¬ veOK V na v0 v) (h8 : mqA f8 na V 12) (h9 : mqA f9 na V 13) (h10 : mqA f10 na V 14) (z8 : mqZ f8 na) (z9 : mqZ f9 na) (z10 : mqZ f10 na) : (-1 : Int) = (veX V na v0 v w).1 ∧ mqA f8 na (veX V na v0 v w).2 12 ∧ mqA f9 na (veX V na v0 v w).2 13 ∧ mqA f10 na (veX V na v0 v w).2 14 ∧ mqZ f8 na ∧ mqZ f9 na ∧ mqZ f10 na := by
  rw [veX_no h]; exact ⟨rfl, h8, h9, h10, z8, z9, z10⟩
/-- one that was heard by the reference -/
theorem mv_yes {I : Nat} (e0 : v0.toNat = I) (hin : (I : Int) < na) (ok : veOK V na v0 v) (vb : vBit V na) (h8 : mqA f8 na V 12) (h9 : mqA f9 na V 13) (h10 : mqA f10 na V 14) (z8 : mqZ f8 na) (z9 : mqZ f9 na) (z10 : mqZ f10 na) (hg : (¬ w.toInt = 0 ∧ g9 = upd f9 I (f9 I ||| ((1 : Int32) <<< (v &&& 31))) ∧ g10 = f10) ∨ (w.toInt = 0 ∧ g9 = f9 ∧ g10 = upd f10 I (f10 I ||| ((1 : Int32) <<< (v &&& 31))))) {r mn : Int} (hm : (¬ w.toInt = 0 ∧ ((0 ≤ (g9 I).toInt ∧ (g9 I).toInt < 1024) → mn = (popF 10 (g9 I).toInt.toNat : Int))) ∨ (w.toInt = 0 ∧ ((0 ≤ (g10 I).toInt ∧ (g10 I).toInt < 1024) → mn = (popF 10 (g10 I).toInt.toNat : Int)))) (hr : (mn < 2 ∧ r = 0 ∧ g8 = f8) ∨ (¬ mn < 2 ∧ r = 1 ∧ ((¬ w.toInt = 0 ∧ g8 = upd f8 I 1) ∨ (w.toInt = 0 ∧ g8 = upd f8 I 2)))) : r = (veX V na v0 v w).1 ∧ mqA g8 na (veX V na v0 v w).2 12 ∧ mqA g9 na (veX V na v0 v w).2 13 ∧ mqA g10 na (veX V na v0 v w).2 14 ∧ mqZ g8 na ∧ mqZ g9 na ∧ mqZ g10 na := by
  obtain ⟨b1, b2, b3⟩ := vb I hin
  obtain ⟨o1, o2, o3, o4⟩ := id ok
  rw [e0] at o3
  obtain ⟨b3, b4⟩ := b3 o3
  have r9 := h9 I hin
  have r10 := h10 I hin
  have exx := veX_ok (w := w) ok
  rw [e0] at exx
  obtain ⟨T, eT⟩ : ∃ T, T = heT (V I 13) v w := ⟨_, rfl⟩
  obtain ⟨F, eF⟩ : ∃ F, F = heF (V I 14) v w := ⟨_, rfl⟩
  have bT := heT_rng (w := w) b1 o2
  have bF := heF_rng (w := w) b2 o2
  rw [← eT] at bT exx
  rw [← eF] at bF exx
  obtain ⟨S, eS0⟩ : ∃ S, S = heS T F (V I 12) := ⟨_, rfl⟩
  rw [← eS0] at exx
  have T9 : (g9 I).toInt = T ∧ mqA g9 na (va_up V I (veRow (V I) T F S)) 13 ∧ mqZ g9 na := by
    rcases hg with ⟨c, q1, q2⟩ | ⟨c, q1, q2⟩
    · have e : T = (f9 I ||| ((1 : Int32) <<< (v &&& 31))).toInt := by
        rw [eT]
        unfold heT
        rw [if_neg c, ← r9, orI_of]
      exact ⟨by rw [q1, pk_us, e], h9.setN q1 (by rw [← e]; rfl), z9.setN q1 hin⟩
    · have e : T = V I 13 := by rw [eT]; exact if_pos c
      rw [q1]
      exact ⟨by rw [e]; exact r9, h9.keep (by rw [← e]; rfl), z9⟩
  have T10 : (g10 I).toInt = F ∧ mqA g10 na (va_up V I (veRow (V I) T F S)) 14 ∧ mqZ g10 na := by
    rcases hg with ⟨c, q1, q2⟩ | ⟨c, q1, q2⟩
    · have e : F = V I 14 := by rw [eF]; exact if_neg c
      rw [q2]
      exact ⟨by rw [e]; exact r10, h10.keep (by rw [← e]; rfl), z10⟩
    · have e : F = (f10 I ||| ((1 : Int32) <<< (v &&& 31))).toInt := by
        rw [eF]
        unfold heF
        rw [if_pos c, ← r10, orI_of]
      exact ⟨by rw [q2, pk_us, e], h10.setN q2 (by rw [← e]; rfl), z10.setN q2 hin⟩
  have eS : S = if mn < 2 then 0 else if w.toInt = 0 then 2 else 1 := by
    rw [T9.1, T10.1] at hm
    rw [eS0, o3]
    unfold heS
    rcases hm with ⟨c, m1⟩ | ⟨c, m1⟩
    · have m2 := m1 bT
      rw [← bcI_pop bT] at m2
      have e : F = V I 14 := by rw [eF]; exact if_neg c
      rw [e]
      by_cases q : mn < 2
      · rw [if_pos q, if_neg (by omega), if_neg (by omega)]
      · rw [if_neg q, if_pos (by omega), if_neg c]
    · have m2 := m1 bF
      rw [← bcI_pop bF] at m2
      have e : T = V I 13 := by rw [eT]; exact if_pos c
      rw [e]
      by_cases q : mn < 2
      · rw [if_pos q, if_neg (by omega), if_neg (by omega)]
      · rw [if_neg q, if_neg (by omega), if_pos (by omega), if_pos c]
  rw [exx]
  refine ⟨?_, ?_, T9.2.1, T10.2.1, ?_, T9.2.2, T10.2.2⟩
  · show r = if S = 0 then 0 else 1
    rw [eS]
    rcases hr with ⟨c, q, -⟩ | ⟨c, q, c2⟩
    · rw [if_pos c, q]; rfl
    · rw [if_neg c, q]
      by_cases c3 : w.toInt = 0
      · rw [if_pos c3]; rfl
      · rw [if_neg c3]; rfl
  · show mqA g8 na (va_up V I (veRow (V I) T F S)) 12
    rcases hr with ⟨c, q, q2⟩ | ⟨c, q, c2⟩
    · rw [q2]
      refine h8.keep ?_
      show S = V I 12
      rw [eS, if_pos c, o3]
    · rcases c2 with ⟨c3, q2⟩ | ⟨c3, q2⟩
      · refine h8.setN q2 ?_
        show (1 : Int32).toInt = S
        rw [eS, if_neg c, if_neg c3]; decide
      · refine h8.setN q2 ?_
        show (2 : Int32).toInt = S
        rw [eS, if_neg c, if_pos c3]; decide
  · rcases hr with ⟨c, q, q2⟩ | ⟨c, q, c2⟩
    · rw [q2]; exact z8
    · rcases c2 with ⟨c3, q2⟩ | ⟨c3, q2⟩
      · exact z8.setN q2 hin
      · exact z8.setN q2 hin
/-- columns that verdict does not write -/
theorem ve_keep {f : Nat → Int32} {n : Int} {k : Nat} (hk : k ≠ 12 ∧ k ≠ 13 ∧ k ≠ 14) (h : mqA f n V k) : mqA f n (veX V na v0 v w).2 k := by
  by_cases ok : veOK V na v0 v
  · rw [veX_ok ok]
    refine h.keep ?_
    unfold veRow
    rw [if_neg hk.2.1, if_neg hk.2.2, if_neg hk.1]
  · rw [veX_no ok]; exact h
end MV
/-- ties of the reference -/
def mtA (f g : Nat → Int32) (n : Int) (Y : Nat → Nat → Int) : Prop := ∀ i : Nat, (i : Int) < n → min (f i).toInt (g i).toInt = Y i 0 ∧ max (f i).toInt (g i).toInt = Y i 1
def toC (f g : Nat → Int32) (a b : Int) (i : Nat) : Prop := ((f i).toInt = a ∧ (g i).toInt = b) ∨ ((f i).toInt = b ∧ (g i).toInt = a)
def toS (f g : Nat → Int32) (a b n r : Int) : Prop := (r = -1 ∧ ∀ i : Nat, (i : Int) < n → ¬ toC f g a b i) ∨ ((0 ≤ r ∧ r < n) ∧ toC f g a b r.toNat ∧ ∀ i : Nat, (i : Int) < r → ¬ toC f g a b i)
section MT
variable {f g f' g' h h' : Nat → Int32} {n a b w : Int} {Y : Nat → Nat → Int}
theorem toC_fd (t : mtA f g n Y) {i : Nat} (hi : (i : Int) < n) : toC f g a b i ↔ fdC Y a b i := by
  have := t i hi
  unfold toC fdC
  omega
theorem toS_none (t : mtA f g n Y) (hs : toS f g a b n (-1)) (h0 : 0 ≤ n) : fdF Y a b n.toNat = none := by
  rcases hs with ⟨-, q⟩ | ⟨q, -⟩
  · exact fdF_none _ (fun i hi c => q i (by omega) ((toC_fd t (by omega)).mpr c))
  · omega
theorem toS_some (t : mtA f g n Y) {r : Int} (hs : toS f g a b n r) (hr : ¬ r = -1) : fdF Y a b n.toNat = some r.toNat := by
  rcases hs with ⟨q, -⟩ | ⟨q1, q2, q3⟩
  · exact absurd q hr
  · exact fdF_some ((toC_fd t (by omega)).mp q2) (fun i hi c => q3 i (by omega) ((toC_fd t (by omega)).mpr c)) _ (by omega)
/-- a pair of the reference is written over -/
theorem mt_put (t : mtA f g n Y) (hj : mqA h n Y 2) {i x y z : Int32} (hi : 0 ≤ i.toInt ∧ i.toInt < n) (e1 : f' = upd f i.toNatClampNeg x) (e2 : g' = upd g i.toNatClampNeg y) (e3 : h' = upd h i.toNatClampNeg z) (hx : x.toInt = a) (hy : y.toInt = b) (hz : z.toInt = w) : mtA f' g' n (va_up Y i.toInt.toNat (tiRow a b w)) ∧ mqA h' n (va_up Y i.toInt.toNat (tiRow a b w)) 2 := by
  refine ⟨fun j hj2 => ?_, mqA.set (i := i) hj e3 hz⟩
  rw [e1, e2]
  by_cases q : j = i.toNatClampNeg
  · rw [q, pk_us, pk_us]
    show _ = va_up Y i.toInt.toNat (tiRow a b w) i.toInt.toNat 0 ∧ _ = va_up Y i.toInt.toNat (tiRow a b w) i.toInt.toNat 1
    rw [va_up_self, hx, hy]
    exact ⟨rfl, rfl⟩
  · have q2 : j ≠ i.toInt.toNat := q
    rw [pk_un q, pk_un q, va_up_ne _ _ q2]
    exact t j hj2
theorem mt_add (t : mtA f g n Y) (hj : mqA h n Y 2) {i x y z : Int32} (hi : i.toInt = n) (h0 : 0 ≤ n) (e1 : f' = upd f i.toNatClampNeg x) (e2 : g' = upd g i.toNatClampNeg y) (e3 : h' = upd h i.toNatClampNeg z) (hx : x.toInt = a) (hy : y.toInt = b) (hz : z.toInt = w) : mtA f' g' (n + 1) (va_up Y n.toNat (tiRow a b w)) ∧ mqA h' (n + 1) (va_up Y n.toNat (tiRow a b w)) 2 := by
  have hm : i.toNatClampNeg = n.toNat := by
    show i.toInt.toNat = n.toNat
    rw [hi]
  refine ⟨fun j hj2 => ?_, hj.add e3 hi h0 hz⟩
  rw [e1, e2, hm]
  by_cases q : j = n.toNat
  · rw [q, pk_us, pk_us, va_up_self, hx, hy]
    exact ⟨rfl, rfl⟩
  · rw [pk_un q, pk_un q, va_up_ne _ _ q]
    exact t j (by omega)
end MT
