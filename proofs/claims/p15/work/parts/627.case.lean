/-- labels of the classes of an equivalence: the least member -/
def eqR (R : Nat → Nat → Prop) : Prop := (∀ x, R x x) ∧ (∀ x y, R x y → R y x) ∧ ∀ x y z, R x y → R y z → R x z
def Lab (lv : Nat → Prop) (E : Nat → Nat → Prop) (c : Nat → Nat) : Prop := (∀ a b, E a b → c a = c b) ∧ (∀ a, lv a → c a ≤ a ∧ lv (c a) ∧ c (c a) = c a) ∧ ∀ a, lv a → ∀ R, eqR R → (∀ x y, E x y → R x y) → R a (c a)
/-- two classes become one -/
def mrg (c : Nat → Nat) (x y : Nat) : Nat → Nat := fun z => if c z = max x y then min x y else c z
section LB
variable {lv : Nat → Prop} {E E' : Nat → Nat → Prop} {c c' : Nat → Nat}
theorem Lab.le (h : Lab lv E c) (h' : Lab lv E c') {a : Nat} (ha : lv a) : c' a ≤ c a := by
  have e : c' a = c' (c a) := h.2.2 a ha (fun x y => c' x = c' y) ⟨fun _ => rfl, fun _ _ q => q.symm, fun _ _ _ q r => q.trans r⟩ h'.1
  rw [e]
  exact (h'.2.1 (c a) (h.2.1 a ha).2.1).1
theorem Lab.uniq (h : Lab lv E c) (h' : Lab lv E c') {a : Nat} (ha : lv a) : c a = c' a := Nat.le_antisymm (h'.le h ha) (h.le h' ha)
theorem Lab.start : Lab lv (fun _ _ => False) (fun a => a) := ⟨fun _ _ h => h.elim, fun a ha => ⟨Nat.le_refl _, ha, rfl⟩, fun a _ R hR _ => hR.1 a⟩
theorem Lab.ext (h : Lab lv E c) (h1 : ∀ x y, E x y → E' x y ∨ E' y x) (h2 : ∀ x y, E' x y → E x y ∨ E y x) : Lab lv E' c := by
  refine ⟨fun a b q => ?_, h.2.1, fun a ha R hR hE => h.2.2 a ha R hR (fun x y q => ?_)⟩
  · rcases h2 a b q with z | z
    · exact h.1 a b z
    · exact (h.1 b a z).symm
  · rcases h1 x y q with z | z
    · exact hE x y z
    · exact hR.2.1 y x (hE y x z)
theorem Lab.ext1 (h : Lab lv E c) (h1 : ∀ x y, E x y ↔ E' x y) : Lab lv E' c := h.ext (fun x y q => Or.inl ((h1 x y).mp q)) (fun x y q => Or.inl ((h1 x y).mpr q))
/-- one more edge -/
theorem Lab.join (h : Lab lv E c) {a b : Nat} (ha : lv a) (hb : lv b) : Lab lv (fun x y => E x y ∨ (x = a ∧ y = b)) (mrg c (c a) (c b)) := by
  have hca := h.2.1 a ha
  have hcb := h.2.1 b hb
  by_cases q : c a = c b
  · have e : mrg c (c a) (c b) = c := by
      funext z
      unfold mrg
      rw [q, Nat.max_self, Nat.min_self]
      split
      · rename_i w; exact w.symm
      · rfl
    rw [e]
    refine ⟨fun x y w => ?_, h.2.1, fun x hx R hR hE => h.2.2 x hx R hR (fun x y w => hE x y (Or.inl w))⟩
    rcases w with w | w
    · exact h.1 x y w
    · rw [w.1, w.2]; exact q
  · obtain ⟨lo, hlo⟩ : ∃ lo, lo = min (c a) (c b) := ⟨_, rfl⟩
    obtain ⟨hi, hhi⟩ : ∃ hi, hi = max (c a) (c b) := ⟨_, rfl⟩
    have em : ∀ z, mrg c (c a) (c b) z = if c z = hi then lo else c z := fun z => by unfold mrg; rw [← hlo, ← hhi]
    have hlt : lo < hi := by omega
    have llo : lv lo ∧ c lo = lo := by
      rcases (show lo = c a ∨ lo = c b by omega) with w | w
      · rw [w]; exact ⟨hca.2.1, hca.2.2⟩
      · rw [w]; exact ⟨hcb.2.1, hcb.2.2⟩
    refine ⟨fun x y w => ?_, fun x hx => ?_, fun x hx R hR hE => ?_⟩
    · rw [em, em]
      rcases w with w | w
      · rw [h.1 x y w]
      · rw [w.1, w.2]
        rcases (show (c a = hi ∧ c b = lo) ∨ (c a = lo ∧ c b = hi) by omega) with ⟨w1, w2⟩ | ⟨w1, w2⟩
        · rw [if_pos w1, if_neg (by omega), w2]
        · rw [if_neg (by omega), if_pos w2, w1]
    · have hx1 := h.2.1 x hx
      rw [em]
      by_cases w : c x = hi
      · rw [if_pos w, em, llo.2, if_neg (by omega)]
        exact ⟨by omega, llo.1, rfl⟩
      · rw [if_neg w, em, hx1.2.2, if_neg w]
        exact ⟨hx1.1, hx1.2.1, rfl⟩
    · have r1 := h.2.2 x hx R hR (fun x y w => hE x y (Or.inl w))
      rw [em]
      by_cases w : c x = hi
      · rw [if_pos w]
        rw [w] at r1
        have ra := h.2.2 a ha R hR (fun x y w => hE x y (Or.inl w))
        have rb := h.2.2 b hb R hR (fun x y w => hE x y (Or.inl w))
        have rab := hE a b (Or.inr ⟨rfl, rfl⟩)
        have rc : R (c a) (c b) := hR.2.2 _ _ _ (hR.2.1 _ _ ra) (hR.2.2 _ _ _ rab rb)
        refine hR.2.2 _ _ _ r1 ?_
        rcases (show (c a = hi ∧ c b = lo) ∨ (c a = lo ∧ c b = hi) by omega) with ⟨w1, w2⟩ | ⟨w1, w2⟩
        · rw [w1, w2] at rc; exact rc
        · rw [w1, w2] at rc; exact hR.2.1 _ _ rc
      · rw [if_neg w]; exact r1
theorem Lab.same (h : Lab lv E c) {a b : Nat} (q : c a = c b) : Lab lv (fun x y => E x y ∨ (x = a ∧ y = b)) c := by
  refine ⟨fun x y w => ?_, h.2.1, fun x hx R hR hE => h.2.2 x hx R hR (fun x y w => hE x y (Or.inl w))⟩
  rcases w with w | w
  · exact h.1 x y w
  · rw [w.1, w.2]; exact q
end LB
noncomputable def cnF (lv : Nat → Prop) (E : Nat → Nat → Prop) : Nat → Nat := Classical.epsilon (Lab lv E)
theorem cnF_of {lv : Nat → Prop} {E : Nat → Nat → Prop} {c : Nat → Nat} (h : Lab lv E c) {a : Nat} (ha : lv a) : c a = cnF lv E a := h.uniq (Classical.epsilon_spec ⟨c, h⟩) ha
theorem cnF_lab {lv : Nat → Prop} {E : Nat → Nat → Prop} {c : Nat → Nat} (h : Lab lv E c) : Lab lv E (cnF lv E) := Classical.epsilon_spec ⟨c, h⟩
/-- live alarms, what hangs together -/
def lvN (V : Nat → Nat → Int) (n : Nat) (i : Nat) : Prop := i < n ∧ V i 12 = 0 ∧ V i 8 = 0 ∧ V i 9 = 0
def hgC (V Y : Nat → Nat → Int) (nt x y : Nat) : Prop := (∃ k, fdF Y (x : Int) (y : Int) nt = some k ∧ ¬ Y k 2 = 0) ∨ (fdF Y (x : Int) (y : Int) nt = none ∧ V x 3 = V y 3 ∧ V y 1 - V x 1 ≤ 20)
def hgE (V Y : Nat → Nat → Int) (n nt x y : Nat) : Prop := x < y ∧ lvN V n x ∧ lvN V n y ∧ hgC V Y nt x y
noncomputable def cnV (V Y : Nat → Nat → Int) (n nt : Nat) : Nat → Nat := cnF (lvN V n) (hgE V Y n nt)
/-- the greatest of some -/
noncomputable def mxF (C : Nat → Prop) (s : Nat → Int) : Nat → Int
  | 0 => 0
  | k + 1 => @ite _ (C k) (Classical.propDecidable _) (max (mxF C s k) (s k)) (mxF C s k)
theorem mxF_hit {C : Nat → Prop} {s : Nat → Int} {k : Nat} (h : C k) : mxF C s (k + 1) = max (mxF C s k) (s k) := if_pos h
theorem mxF_skip {C : Nat → Prop} {s : Nat → Int} {k : Nat} (h : ¬ C k) : mxF C s (k + 1) = mxF C s k := if_neg h
theorem mxF_ext {C C' : Nat → Prop} {s s' : Nat → Int} (n : Nat) (h : ∀ i, i < n → (C i ↔ C' i) ∧ (C i → s i = s' i)) : mxF C s n = mxF C' s' n := by
  induction n with
  | zero => rfl
  | succ n ih =>
    have e := ih (fun i hi => h i (by omega))
    have h9 := h n (by omega)
    by_cases q : C n
    · rw [mxF_hit q, mxF_hit (h9.1.mp q), e, h9.2 q]
    · rw [mxF_skip q, mxF_skip (fun z => q (h9.1.mpr z)), e]
/-- members of a case -/
def inC (V : Nat → Nat → Int) (c : Nat → Nat) (n m i : Nat) : Prop := lvN V n i ∧ c i = m
/-- what stands in order: inserted one by one -/
noncomputable def inP (s : Nat → Int) (o : Nat → Nat) (x : Int) : Nat → Nat
  | 0 => 0
  | k + 1 => if s (o k) < x then inP s o x k else k + 1
noncomputable def inO (s : Nat → Int) (o : Nat → Nat) (cnt a : Nat) : Nat → Nat := fun j => if j < inP s o (s a) cnt then o j else if j = inP s o (s a) cnt then a else o (j - 1)
noncomputable def orS (C : Nat → Prop) (s : Nat → Int) : Nat → (Nat → Nat) × Nat
  | 0 => (fun _ => 0, 0)
  | i + 1 => @ite _ (C i) (Classical.propDecidable _) (inO s (orS C s i).1 (orS C s i).2 i, (orS C s i).2 + 1) (orS C s i)
theorem orS_hit {C : Nat → Prop} {s : Nat → Int} {i : Nat} (h : C i) : orS C s (i + 1) = (inO s (orS C s i).1 (orS C s i).2 i, (orS C s i).2 + 1) := if_pos h
theorem orS_skip {C : Nat → Prop} {s : Nat → Int} {i : Nat} (h : ¬ C i) : orS C s (i + 1) = orS C s i := if_neg h
theorem inP_le {s : Nat → Int} {o : Nat → Nat} {x : Int} (k : Nat) : inP s o x k ≤ k := by
  induction k with
  | zero => exact Nat.le_refl _
  | succ k ih =>
    show (if s (o k) < x then inP s o x k else k + 1) ≤ k + 1
    split
    · omega
    · exact Nat.le_refl _
theorem inP_down {s : Nat → Int} {o : Nat → Nat} {x : Int} {k : Nat} (h : s (o k) < x) : inP s o x (k + 1) = inP s o x k := if_pos h
theorem inP_stop {s : Nat → Int} {o : Nat → Nat} {x : Int} {k : Nat} (h : ¬ s (o k) < x) : inP s o x (k + 1) = k + 1 := if_neg h
theorem orS_cnt {C : Nat → Prop} {s : Nat → Int} (n : Nat) : (orS C s n).2 ≤ n := by
  induction n with
  | zero => exact Nat.le_refl _
  | succ n ih =>
    by_cases q : C n
    · rw [orS_hit q]; exact Nat.succ_le_succ ih
    · rw [orS_skip q]; omega
/-- all that stands there is of C and below n -/
theorem orS_mem {C : Nat → Prop} {s : Nat → Int} (n : Nat) : ∀ j, j < (orS C s n).2 → (orS C s n).1 j < n ∧ C ((orS C s n).1 j) := by
  induction n with
  | zero => intro j hj; exact absurd hj (Nat.not_lt_zero _)
  | succ n ih =>
    by_cases q : C n
    · rw [orS_hit q]
      intro j hj
      have hj : j < (orS C s n).2 + 1 := hj
      have hp := inP_le (s := s) (o := (orS C s n).1) (x := s n) (orS C s n).2
      show inO s (orS C s n).1 (orS C s n).2 n j < n + 1 ∧ C (inO s (orS C s n).1 (orS C s n).2 n j)
      unfold inO
      split
      · have := ih j (by omega); exact ⟨by omega, this.2⟩
      · split
        · exact ⟨by omega, q⟩
        · have := ih (j - 1) (by omega); exact ⟨by omega, this.2⟩
    · rw [orS_skip q]
      intro j hj
      have := ih j hj
      exact ⟨by omega, this.2⟩
theorem orS_ext {C C' : Nat → Prop} {s s' : Nat → Int} (n : Nat) (h : ∀ i, i < n → (C i ↔ C' i) ∧ (C i → s i = s' i)) : orS C s n = orS C' s' n := by
  induction n with
  | zero => rfl
  | succ n ih =>
    have e := ih (fun i hi => h i (by omega))
    have h9 := h n (by omega)
    have m := orS_mem (C := C) (s := s) n
    by_cases q : C n
    · rw [orS_hit q, orS_hit (h9.1.mp q), ← e]
      have hn : s n = s' n := h9.2 q
      have hp : ∀ k, k ≤ (orS C s n).2 → inP s (orS C s n).1 (s n) k = inP s' (orS C s n).1 (s' n) k := by
        intro k
        induction k with
        | zero => intro _; rfl
        | succ k ihk =>
          intro hk
          have mk := m k (by omega)
          have es : s ((orS C s n).1 k) = s' ((orS C s n).1 k) := (h _ (by omega)).2 mk.2
          show (if s ((orS C s n).1 k) < s n then _ else _) = (if s' ((orS C s n).1 k) < s' n then _ else _)
          rw [es, ihk (by omega), hn]
      have : inO s (orS C s n).1 (orS C s n).2 n = inO s' (orS C s n).1 (orS C s n).2 n := by
        funext j
        unfold inO
        rw [hp _ (Nat.le_refl _)]
      rw [this]
    · rw [orS_skip q, orS_skip (fun z => q (h9.1.mpr z)), e]
