theorem ab_toInt {x z : Int32} (e : z = if 0 ≤ x then x else 0 - x) (hb : -100000 ≤ x.toInt ∧ x.toInt ≤ 100000) : (0 ≤ x.toInt ∧ z.toInt = x.toInt) ∨ (x.toInt < 0 ∧ z.toInt = - x.toInt) := by
  have h0 : (0 : Int32).toInt = 0 := rfl
  by_cases q : (0 : Int32) ≤ x
  · rw [if_pos q] at e
    have := Int32.le_iff_toInt_le.mp q
    left; rw [e]; omega
  · rw [if_neg q] at e
    have : ¬ (0 : Int32).toInt ≤ x.toInt := fun w => q (Int32.le_iff_toInt_le.mpr w)
    have t := sb_toInt (x := 0) (y := x) (z := z) (zx := 0) (zy := x.toInt) e rfl rfl
    right; omega
/-- the reference's numbers of cases, and scores -/
def cnM (g : Nat → Int32) (V : Nat → Nat → Int) (n : Nat) (c : Nat → Nat) (k : Nat) : Prop := ∀ i, i < k → (lvN V n i ∧ (g i).toInt = (c i : Int)) ∨ (¬ lvN V n i ∧ (g i).toInt = -1)
def scM (g : Nat → Int32) (V : Nat → Nat → Int) (n : Nat) (le : Int) (k : Nat) : Prop := ∀ i, i < k → (lvN V n i ∧ (g i).toInt = scI V n le i) ∨ (¬ lvN V n i ∧ (g i).toInt = 0)
section CM
variable {g g' : Nat → Int32} {V Y : Nat → Nat → Int} {n nt k a b : Nat} {c : Nat → Nat} {le : Int}
theorem cnM.add {x : Int32} (h : cnM g V n c k) (eg : g' = upd g k x) (hx : (lvN V n k ∧ x.toInt = (c k : Int)) ∨ (¬ lvN V n k ∧ x.toInt = -1)) : cnM g' V n c (k + 1) := fun i hi => by
  by_cases q : i = k
  · rw [q, eg, pk_us]; exact hx
  · rw [eg, pk_un q]; exact h i (by omega)
theorem scM.add {x : Int32} (h : scM g V n le k) (eg : g' = upd g k x) (hx : (lvN V n k ∧ x.toInt = scI V n le k) ∨ (¬ lvN V n k ∧ x.toInt = 0)) : scM g' V n le (k + 1) := fun i hi => by
  by_cases q : i = k
  · rw [q, eg, pk_us]; exact hx
  · rw [eg, pk_un q]; exact h i (by omega)
/-- every high one becomes low -/
def dM (g0 g : Nat → Int32) (hi lo : Int) (k : Nat) : Prop := ∀ i, (i < k ∧ (g0 i).toInt = hi ∧ (g i).toInt = lo) ∨ ((k ≤ i ∨ ¬ (g0 i).toInt = hi) ∧ g i = g0 i)
theorem dM.start {hi lo : Int} : dM g g hi lo 0 := fun i => Or.inr ⟨Or.inl (Nat.zero_le _), rfl⟩
theorem dM.set {g0 : Nat → Int32} {hi lo : Int} {x : Int32} (h : dM g0 g hi lo k) (eg : g' = upd g k x) (hx : x.toInt = lo) (hk : (g k).toInt = hi) : dM g0 g' hi lo (k + 1) := fun i => by
  by_cases q : i = k
  · rw [q, eg, pk_us]
    rcases h k with ⟨h1, _⟩ | ⟨_, h2⟩
    · omega
    · left; exact ⟨by omega, by rw [← h2]; exact hk, hx⟩
  · rw [eg, pk_un q]
    rcases h i with ⟨h1, h2⟩ | ⟨h1, h2⟩
    · left; exact ⟨by omega, h2⟩
    · right; exact ⟨by omega, h2⟩
theorem dM.keep {g0 : Nat → Int32} {hi lo : Int} (h : dM g0 g hi lo k) (hk : ¬ (g k).toInt = hi) : dM g0 g hi lo (k + 1) := fun i => by
  by_cases q : i = k
  · rw [q]
    rcases h k with ⟨h1, _⟩ | ⟨_, h2⟩
    · omega
    · right; exact ⟨Or.inr (by rw [← h2]; exact hk), h2⟩
  · rcases h i with ⟨h1, h2⟩ | ⟨h1, h2⟩
    · left; exact ⟨by omega, h2⟩
    · right; exact ⟨by omega, h2⟩
theorem dM.end {hi lo : Int} {x y : Nat} (h : dM g g' hi lo n) (hc : cnM g V n c n) (eh : (hi = (x : Int) ∧ lo = (y : Int) ∧ y ≤ x) ∨ (hi = (y : Int) ∧ lo = (x : Int) ∧ x ≤ y)) : cnM g' V n (mrg c x y) n := fun i hi' => by
  obtain ⟨M, eM⟩ : ∃ M : Nat, M = max x y := ⟨_, rfl⟩
  obtain ⟨m, em⟩ : ∃ m : Nat, m = min x y := ⟨_, rfl⟩
  have e1 : hi = (M : Int) ∧ lo = (m : Int) := by omega
  unfold mrg
  rw [← eM, ← em]
  rcases hc i hi' with ⟨l, e⟩ | ⟨l, e⟩
  · left
    refine ⟨l, ?_⟩
    rcases h i with ⟨h1, h2, h3⟩ | ⟨h1, h2⟩
    · rw [if_pos (by omega), h3, e1.2]
    · rw [if_neg (by omega), h2, e]
  · right
    refine ⟨l, ?_⟩
    rcases h i with ⟨h1, h2, h3⟩ | ⟨h1, h2⟩
    · omega
    · rw [h2]; exact e
/-- the pairs that the reference has looked at -/
def rfE (V Y : Nat → Nat → Int) (n nt a b x y : Nat) : Prop := x < y ∧ (x < a ∨ (x = a ∧ y < b)) ∧ lvN V n x ∧ lvN V n y ∧ hgC V Y nt x y
theorem rf_0 (h : Lab (lvN V n) (fun _ _ => False) c) : Lab (lvN V n) (rfE V Y n nt 0 1) c := h.ext1 (fun x y => ⟨fun q => q.elim, fun ⟨h1, h2, _⟩ => by omega⟩)
theorem rf_skip (h : Lab (lvN V n) (rfE V Y n nt a b) c) (hs : ¬ (lvN V n a ∧ lvN V n b ∧ hgC V Y nt a b)) : Lab (lvN V n) (rfE V Y n nt a (b + 1)) c := h.ext1 (fun x y => ⟨fun ⟨h1, h2, h3⟩ => ⟨h1, by omega, h3⟩, fun ⟨h1, h2, h3, h4, h5⟩ => ⟨h1, by
  by_cases z : x = a ∧ y = b
  · obtain ⟨z1, z2⟩ := z
    subst z1; subst z2
    exact absurd ⟨h3, h4, h5⟩ hs
  · omega, h3, h4, h5⟩⟩)
theorem rf_step (hab : a < b) (hs : lvN V n a ∧ lvN V n b ∧ hgC V Y nt a b) (x y : Nat) : (rfE V Y n nt a b x y ∨ (x = a ∧ y = b)) ↔ rfE V Y n nt a (b + 1) x y := by
  constructor
  · rintro (⟨h1, h2, h3⟩ | ⟨h1, h2⟩)
    · exact ⟨h1, by omega, h3⟩
    · subst h1; subst h2; exact ⟨hab, by omega, hs⟩
  · rintro ⟨h1, h2, h3⟩
    by_cases z : x = a ∧ y = b
    · exact Or.inr z
    · exact Or.inl ⟨h1, by omega, h3⟩
theorem rf_same (h : Lab (lvN V n) (rfE V Y n nt a b) c) (hab : a < b) (hc : c a = c b) : Lab (lvN V n) (rfE V Y n nt a (b + 1)) c := by
  by_cases hs : lvN V n a ∧ lvN V n b ∧ hgC V Y nt a b
  · exact (h.same hc).ext1 (rf_step hab hs)
  · exact rf_skip h hs
theorem rf_join (h : Lab (lvN V n) (rfE V Y n nt a b) c) (hab : a < b) (hs : lvN V n a ∧ lvN V n b ∧ hgC V Y nt a b) : Lab (lvN V n) (rfE V Y n nt a (b + 1)) (mrg c (c a) (c b)) := (h.join hs.1 hs.2.1).ext1 (rf_step hab hs)
theorem rf_next (h : Lab (lvN V n) (rfE V Y n nt a n) c) : Lab (lvN V n) (rfE V Y n nt (a + 1) (a + 1 + 1)) c := h.ext1 (fun x y => ⟨fun ⟨h1, h2, h3⟩ => ⟨h1, by omega, h3⟩, fun ⟨h1, h2, h3, h4, h5⟩ => ⟨h1, by have := h4.1; omega, h3, h4, h5⟩⟩)
theorem rf_end (h : Lab (lvN V n) (rfE V Y n nt n (n + 1)) c) : Lab (lvN V n) (hgE V Y n nt) c := h.ext1 (fun x y => ⟨fun ⟨h1, h2, h3⟩ => ⟨h1, h3⟩, fun ⟨h1, h3⟩ => ⟨h1, by have := h3.1.1; omega, h3⟩⟩)
/-- scores and sizes of a case, as the reference sums them from its number on -/
theorem inC_low {E : Nat → Nat → Prop} (h : Lab (lvN V n) E c) {m i : Nat} (hi : i < m) : ¬ inC V c n m i := fun q => by
  have := (h.2.1 i q.1).1
  have := q.2
  omega
theorem ctF_low {C : Nat → Prop} {m : Nat} (h : ∀ i, i < m → ¬ C i) : ctF C m = 0 := ctF_none m h
theorem mxF_low {C : Nat → Prop} {s : Nat → Int} (m : Nat) (h : ∀ i, i < m → ¬ C i) : mxF C s m = 0 := by
  induction m with
  | zero => rfl
  | succ m ih => rw [mxF_skip (h m (by omega)), ih (fun i hi => h i (by omega))]
theorem cnM.inC {m : Nat} (h : cnM g V n c n) {i : Nat} (hi : i < n) : inC V c n m i ↔ (g i).toInt = (m : Int) := by
  rcases h i hi with ⟨l, e⟩ | ⟨l, e⟩
  · exact ⟨fun q => by rw [e, q.2], fun q => ⟨l, by omega⟩⟩
  · exact ⟨fun q => absurd q.1 l, fun q => by omega⟩
theorem cnM.hd (h : cnM g V n c n) {m : Nat} (hm : m < n) : hdC V c n m ↔ (g m).toInt = (m : Int) := h.inC hm
/-- the reference's row of numbers in order -/
def oI (g : Nat → Int32) (o : Nat → Nat) (cnt : Nat) : Prop := ∀ j, j < cnt → (g j).toInt = (o j : Int)
def oM (g : Nat → Int32) (s : Nat → Int) (o : Nat → Nat) (x : Int) (cnt k : Nat) : Prop := (∀ j, j < k → (g j).toInt = (o j : Int)) ∧ (∀ j, k < j → j ≤ cnt → (g j).toInt = (o (j - 1) : Int)) ∧ k ≤ cnt ∧ inP s o x cnt = inP s o x k
theorem oM.start {s : Nat → Int} {o : Nat → Nat} {x : Int} {cnt : Nat} (h : oI g o cnt) : oM g s o x cnt cnt := ⟨h, fun j h1 h2 => by omega, Nat.le_refl _, rfl⟩
theorem oM.step {s : Nat → Int} {o : Nat → Nat} {x : Int} {cnt k' : Nat} {z : Int32} (h : oM g s o x cnt k) (hk : k = k' + 1) (hs : s (o k') < x) (hz : z = g k') (eg : g' = upd g k z) : oM g' s o x cnt k' := by
  subst hk
  obtain ⟨h1, h2, h3, h4⟩ := h
  refine ⟨fun j hj => ?_, fun j hj hj2 => ?_, by omega, by rw [h4, inP_down hs]⟩
  · rw [eg, pk_un (by omega)]; exact h1 j (by omega)
  · by_cases q : j = k' + 1
    · rw [q, eg, pk_us, hz]; exact h1 k' (by omega)
    · rw [eg, pk_un q]; exact h2 j (by omega) hj2
theorem oM.end {s : Nat → Int} {o : Nat → Nat} {cnt a : Nat} {z : Int32} (h : oM g s o (s a) cnt k) (hs : k = 0 ∨ ∃ k', k = k' + 1 ∧ ¬ s (o k') < s a) (hz : z.toInt = (a : Int)) (eg : g' = upd g k z) : oI g' (inO s o cnt a) (cnt + 1) := by
  obtain ⟨h1, h2, h3, h4⟩ := h
  have hp : inP s o (s a) cnt = k := by
    rw [h4]
    rcases hs with q | ⟨k', q, q2⟩
    · subst q; rfl
    · subst q; exact inP_stop q2
  intro j hj
  unfold inO
  rw [hp]
  by_cases q : j < k
  · rw [if_pos q, eg, pk_un (by omega)]; exact h1 j q
  · rw [if_neg q]
    by_cases q2 : j = k
    · rw [if_pos q2, q2, eg, pk_us]; exact hz
    · rw [if_neg q2, eg, pk_un q2]; exact h2 j (by omega) (by omega)
/-- the greatest score, one alarm on -/
theorem mxS {m : Nat} {gs : Nat → Int32} {x x' : Int} {k k' : Int32} (h : x = mxF (inC V c n m) (scI V n le) k.toNatClampNeg) (hs : scM gs V n le n) (hk : k'.toNatClampNeg = k.toNatClampNeg + 1) (hin : k.toNatClampNeg < n) (hc : (inC V c n m k.toNatClampNeg ∧ x' = max x (gs k.toNatClampNeg).toInt) ∨ (¬ inC V c n m k.toNatClampNeg ∧ x' = x)) : x' = mxF (inC V c n m) (scI V n le) k'.toNatClampNeg := by
  rw [hk]
  rcases hc with ⟨q, e⟩ | ⟨q, e⟩
  · rw [mxF_hit q, e, h]
    rcases hs _ hin with ⟨_, z⟩ | ⟨z, _⟩
    · rw [z]
    · exact absurd q.1 z
  · rw [mxF_skip q, e, h]
theorem mxF_nn {C : Nat → Prop} {s : Nat → Int} (n : Nat) : 0 ≤ mxF C s n := by
  induction n with
  | zero => exact Int.le_refl _
  | succ n ih =>
    by_cases q : C n
    · rw [mxF_hit q]; omega
    · rw [mxF_skip q]; exact ih
end CM
