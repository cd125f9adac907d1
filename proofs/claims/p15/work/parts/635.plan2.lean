/-- what was taken so far -/
def inT (t : Nat → Nat) (c x : Nat) : Prop := ∃ i, i < c ∧ t i = x
/-- the tries: the little known first -/
noncomputable def trS (o : Nat → Nat) (lk : Nat → Prop) (mn : Nat → Int) (tr m0 : Int) : Nat → (Nat → Nat) × Nat × Int
  | 0 => (fun _ => 0, 0, m0)
  | k + 1 => @ite _ ((((trS o lk mn tr m0 k).2.1 : Nat) : Int) < tr ∧ lk (o k) ∧ mn (o k) ≤ (trS o lk mn tr m0 k).2.2) (Classical.propDecidable _) (va_up (trS o lk mn tr m0 k).1 (trS o lk mn tr m0 k).2.1 (o k), (trS o lk mn tr m0 k).2.1 + 1, (trS o lk mn tr m0 k).2.2 - mn (o k)) (trS o lk mn tr m0 k)
/-- the first twelve of the others -/
noncomputable def plS (o t : Nat → Nat) (c : Nat) : Nat → (Nat → Nat) × Nat
  | 0 => (fun _ => 0, 0)
  | k + 1 => @ite _ ((plS o t c k).2 < 12 ∧ ¬ inT t c (o k)) (Classical.propDecidable _) (va_up (plS o t c k).1 (plS o t c k).2 (o k), (plS o t c k).2 + 1) (plS o t c k)
/-- those of a set -/
def tkS (t : Nat → Nat) (c : Nat) (p : Nat → Nat) (ch : Nat) : Nat → (Nat → Nat) × Nat
  | 0 => (t, c)
  | i + 1 => if ch / 2 ^ i % 2 = 1 then (va_up (tkS t c p ch i).1 (tkS t c p ch i).2 (p i), (tkS t c p ch i).2 + 1) else tkS t c p ch i
def suF (φ : Nat → Int) (t : Nat → Nat) : Nat → Int
  | 0 => 0
  | i + 1 => suF φ t i + φ (t i)
noncomputable def suI (φ : Nat → Int) (o : Nat → Nat) (C : Nat → Prop) : Nat → Int
  | 0 => 0
  | k + 1 => suI φ o C k + @ite _ (C (o k)) (Classical.propDecidable _) (φ (o k)) 0
section PL
variable {o t p : Nat → Nat} {lk C C' : Nat → Prop} {mn φ : Nat → Int} {tr m0 : Int} {k c ch i n : Nat}
theorem trS_y (h : (((trS o lk mn tr m0 k).2.1 : Nat) : Int) < tr ∧ lk (o k) ∧ mn (o k) ≤ (trS o lk mn tr m0 k).2.2) : trS o lk mn tr m0 (k + 1) = (va_up (trS o lk mn tr m0 k).1 (trS o lk mn tr m0 k).2.1 (o k), (trS o lk mn tr m0 k).2.1 + 1, (trS o lk mn tr m0 k).2.2 - mn (o k)) := if_pos h
theorem trS_n (h : ¬ ((((trS o lk mn tr m0 k).2.1 : Nat) : Int) < tr ∧ lk (o k) ∧ mn (o k) ≤ (trS o lk mn tr m0 k).2.2)) : trS o lk mn tr m0 (k + 1) = trS o lk mn tr m0 k := if_neg h
theorem trS_stop (h : ¬ (((trS o lk mn tr m0 k).2.1 : Nat) : Int) < tr) (d : Nat) : trS o lk mn tr m0 (k + d) = trS o lk mn tr m0 k := by
  induction d with
  | zero => rfl
  | succ d ih =>
    show trS o lk mn tr m0 (k + d + 1) = _
    rw [trS_n (fun q => h (by rw [ih] at q; exact q.1)), ih]
theorem plS_y (h : (plS o t c k).2 < 12 ∧ ¬ inT t c (o k)) : plS o t c (k + 1) = (va_up (plS o t c k).1 (plS o t c k).2 (o k), (plS o t c k).2 + 1) := if_pos h
theorem plS_n (h : ¬ ((plS o t c k).2 < 12 ∧ ¬ inT t c (o k))) : plS o t c (k + 1) = plS o t c k := if_neg h
theorem plS_stop (h : ¬ (plS o t c k).2 < 12) (d : Nat) : plS o t c (k + d) = plS o t c k := by
  induction d with
  | zero => rfl
  | succ d ih =>
    show plS o t c (k + d + 1) = _
    rw [plS_n (fun q => h (by rw [ih] at q; exact q.1)), ih]
theorem tkS_y (h : ch / 2 ^ i % 2 = 1) : tkS t c p ch (i + 1) = (va_up (tkS t c p ch i).1 (tkS t c p ch i).2 (p i), (tkS t c p ch i).2 + 1) := if_pos h
theorem tkS_n (h : ¬ ch / 2 ^ i % 2 = 1) : tkS t c p ch (i + 1) = tkS t c p ch i := if_neg h
theorem suF_ext {t' : Nat → Nat} (n : Nat) (h : ∀ i, i < n → t i = t' i) : suF φ t n = suF φ t' n := by
  induction n with
  | zero => rfl
  | succ n ih =>
    show suF φ t n + φ (t n) = suF φ t' n + φ (t' n)
    rw [ih (fun i hi => h i (by omega)), h n (by omega)]
theorem suF_add {x : Nat} (c : Nat) : suF φ (va_up t c x) (c + 1) = suF φ t c + φ x := by
  show suF φ (va_up t c x) c + φ (va_up t c x c) = _
  rw [va_up_self, suF_ext (t := va_up t c x) (t' := t) c (fun i hi => va_up_ne _ _ (by omega))]
theorem suI_y (h : C (o k)) : suI φ o C (k + 1) = suI φ o C k + φ (o k) := by
  show suI φ o C k + @ite _ (C (o k)) (Classical.propDecidable _) (φ (o k)) 0 = _
  rw [if_pos h]
theorem suI_n (h : ¬ C (o k)) : suI φ o C (k + 1) = suI φ o C k := by
  show suI φ o C k + @ite _ (C (o k)) (Classical.propDecidable _) (φ (o k)) 0 = _
  rw [if_neg h, Int.add_zero]
def jnj (o : Nat → Nat) (n : Nat) : Prop := ∀ i j, i < n → j < n → o i = o j → i = j
theorem suI_add {a : Nat} (N : Nat) (ho : jnj o N) (hC : ∀ x, C' x ↔ C x ∨ x = a) (ha : ¬ C a) : ((∃ k, k < N ∧ o k = a) → suI φ o C' N = suI φ o C N + φ a) ∧ ((¬ ∃ k, k < N ∧ o k = a) → suI φ o C' N = suI φ o C N) := by
  induction N with
  | zero => exact ⟨fun ⟨k, h, _⟩ => by omega, fun _ => rfl⟩
  | succ N ih =>
    have ih := ih (fun i j hi hj => ho i j (by omega) (by omega))
    by_cases q : o N = a
    · have no : ¬ ∃ k, k < N ∧ o k = a := fun ⟨k, h1, h2⟩ => by
        have := ho k N (by omega) (by omega) (h2.trans q.symm)
        omega
      refine ⟨fun _ => ?_, fun h => absurd ⟨N, by omega, q⟩ h⟩
      rw [suI_y ((hC _).mpr (Or.inr q)), suI_n (fun z => ha (q ▸ z)), ih.2 no, q]
    · have e : C' (o N) ↔ C (o N) := ⟨fun z => ((hC _).mp z).resolve_right q, fun z => (hC _).mpr (Or.inl z)⟩
      have s1 : suI φ o C' (N + 1) - suI φ o C' N = suI φ o C (N + 1) - suI φ o C N := by
        by_cases z : C (o N)
        · rw [suI_y (e.mpr z), suI_y z]; omega
        · rw [suI_n (fun y => z (e.mp y)), suI_n z]; omega
      refine ⟨fun ⟨k, h1, h2⟩ => ?_, fun h => ?_⟩
      · have := ih.1 ⟨k, by
          by_cases z : k = N
          · rw [z] at h2; exact absurd h2 q
          · omega, h2⟩
        omega
      · have := ih.2 (fun ⟨k, h1, h2⟩ => h ⟨k, by omega, h2⟩)
        omega
theorem suI_0 (N : Nat) (h : ∀ x, ¬ C x) : suI φ o C N = 0 := by
  induction N with
  | zero => rfl
  | succ N ih => rw [suI_n (h _)]; exact ih
theorem suI_not (N : Nat) (h : ∀ x, C' x ↔ ¬ C x) : suI φ o C' N = suF φ o N - suI φ o C N := by
  induction N with
  | zero => rfl
  | succ N ih =>
    show suI φ o C' (N + 1) = suF φ o N + φ (o N) - suI φ o C (N + 1)
    by_cases z : C (o N)
    · rw [suI_y z, suI_n (fun y => (h _).mp y z), ih]; omega
    · rw [suI_n z, suI_y ((h _).mpr z), ih]; omega
theorem suI_inT {N : Nat} (ho : jnj o N) (c : Nat) (ht : jnj t c) (hi : ∀ i, i < c → ∃ k, k < N ∧ o k = t i) : suI φ o (inT t c) N = suF φ t c := by
  induction c with
  | zero => exact suI_0 N (fun x ⟨i, h, _⟩ => by omega)
  | succ c ih =>
    have e := (suI_add (φ := φ) (C := inT t c) (C' := inT t (c + 1)) (a := t c) N ho (fun x => ⟨fun ⟨i, h1, h2⟩ => by
      by_cases z : i = c
      · rw [z] at h2; exact Or.inr h2.symm
      · exact Or.inl ⟨i, by omega, h2⟩, fun h => h.elim (fun ⟨i, h1, h2⟩ => ⟨i, by omega, h2⟩) (fun h => ⟨c, by omega, h.symm⟩)⟩) (fun ⟨i, h1, h2⟩ => by have := ht i c (by omega) (by omega) h2; omega)).1 (hi c (by omega))
    have e2 := ih (fun i j hi' hj => ht i j (by omega) (by omega)) (fun i hi' => hi i (by omega))
    show suI φ o (inT t (c + 1)) N = suF φ t c + φ (t c)
    rw [e, e2]
/-- one more -/
theorem jnj_add {x : Nat} (h : jnj t c) (hx : ¬ inT t c x) : jnj (va_up t c x) (c + 1) := fun i j hi hj e => by
  by_cases q : i = c
  · by_cases q' : j = c
    · omega
    · rw [q, va_up_self, va_up_ne _ _ q'] at e
      exact absurd ⟨j, by omega, e.symm⟩ hx
  · by_cases q' : j = c
    · rw [q', va_up_self, va_up_ne _ _ q] at e
      exact absurd ⟨i, by omega, e⟩ hx
    · rw [va_up_ne _ _ q, va_up_ne _ _ q'] at e
      exact h i j (by omega) (by omega) e
/-- what the tries leave -/
theorem tr_in {N : Nat} (ho : jnj o N) (hm : 0 ≤ m0) (htr : 0 ≤ tr) (k : Nat) (hk : k ≤ N) : jnj (trS o lk mn tr m0 k).1 (trS o lk mn tr m0 k).2.1 ∧ (∀ i, i < (trS o lk mn tr m0 k).2.1 → ∃ k', k' < k ∧ o k' = (trS o lk mn tr m0 k).1 i) ∧ ((((trS o lk mn tr m0 k).2.1 : Nat) : Int) ≤ tr ∧ 0 ≤ (trS o lk mn tr m0 k).2.2) ∧ (trS o lk mn tr m0 k).2.2 + suF mn (trS o lk mn tr m0 k).1 (trS o lk mn tr m0 k).2.1 = m0 := by
  induction k with
  | zero => exact ⟨fun i j hi => absurd hi (Nat.not_lt_zero _), fun i hi => absurd hi (Nat.not_lt_zero _), ⟨htr, hm⟩, by show m0 + 0 = m0; omega⟩
  | succ k ih =>
    obtain ⟨h1, h2, h3, h4⟩ := ih (by omega)
    by_cases q : (((trS o lk mn tr m0 k).2.1 : Nat) : Int) < tr ∧ lk (o k) ∧ mn (o k) ≤ (trS o lk mn tr m0 k).2.2
    · rw [trS_y q]
      obtain ⟨q1, q2, q3⟩ := q
      refine ⟨jnj_add h1 (fun ⟨i, z1, z2⟩ => ?_), fun i hi => ?_, ⟨?_, ?_⟩, ?_⟩
      · obtain ⟨k', y1, y2⟩ := h2 i z1
        have := ho k' k (by omega) (by omega) (y2.trans z2)
        omega
      · have hi : i < (trS o lk mn tr m0 k).2.1 + 1 := hi
        show ∃ k', k' < k + 1 ∧ o k' = va_up (trS o lk mn tr m0 k).1 (trS o lk mn tr m0 k).2.1 (o k) i
        by_cases z : i = (trS o lk mn tr m0 k).2.1
        · rw [z, va_up_self]; exact ⟨k, by omega, rfl⟩
        · rw [va_up_ne _ _ z]
          obtain ⟨k', y1, y2⟩ := h2 i (by omega)
          exact ⟨k', by omega, y2⟩
      · show (((trS o lk mn tr m0 k).2.1 + 1 : Nat) : Int) ≤ tr
        omega
      · show 0 ≤ (trS o lk mn tr m0 k).2.2 - mn (o k)
        omega
      · show (trS o lk mn tr m0 k).2.2 - mn (o k) + suF mn (va_up (trS o lk mn tr m0 k).1 (trS o lk mn tr m0 k).2.1 (o k)) ((trS o lk mn tr m0 k).2.1 + 1) = m0
        rw [suF_add]; omega
    · rw [trS_n q]
      exact ⟨h1, fun i hi => by obtain ⟨k', y1, y2⟩ := h2 i hi; exact ⟨k', by omega, y2⟩, h3, h4⟩
theorem pl_in {N : Nat} (ho : jnj o N) (k : Nat) (hk : k ≤ N) : jnj (plS o t c k).1 (plS o t c k).2 ∧ (∀ i, i < (plS o t c k).2 → (∃ k', k' < k ∧ o k' = (plS o t c k).1 i) ∧ ¬ inT t c ((plS o t c k).1 i)) ∧ (plS o t c k).2 ≤ 12 := by
  induction k with
  | zero => exact ⟨fun i j hi => absurd hi (Nat.not_lt_zero _), fun i hi => absurd hi (Nat.not_lt_zero _), Nat.zero_le _⟩
  | succ k ih =>
    obtain ⟨h1, h2, h3⟩ := ih (by omega)
    by_cases q : (plS o t c k).2 < 12 ∧ ¬ inT t c (o k)
    · rw [plS_y q]
      refine ⟨jnj_add h1 (fun ⟨i, z1, z2⟩ => ?_), fun i hi => ?_, ?_⟩
      · obtain ⟨k', y1, y2⟩ := (h2 i z1).1
        have := ho k' k (by omega) (by omega) (y2.trans z2)
        omega
      · have hi : i < (plS o t c k).2 + 1 := hi
        show (∃ k', k' < k + 1 ∧ o k' = va_up (plS o t c k).1 (plS o t c k).2 (o k) i) ∧ ¬ inT t c (va_up (plS o t c k).1 (plS o t c k).2 (o k) i)
        by_cases z : i = (plS o t c k).2
        · rw [z, va_up_self]; exact ⟨⟨k, by omega, rfl⟩, q.2⟩
        · rw [va_up_ne _ _ z]
          obtain ⟨⟨k', y1, y2⟩, y3⟩ := h2 i (by omega)
          exact ⟨⟨k', by omega, y2⟩, y3⟩
      · show (plS o t c k).2 + 1 ≤ 12
        omega
    · rw [plS_n q]
      exact ⟨h1, fun i hi => by obtain ⟨⟨k', y1, y2⟩, y3⟩ := h2 i hi; exact ⟨⟨k', by omega, y2⟩, y3⟩, h3⟩
theorem tk_in {N n : Nat} (ht : jnj t c) (hi : ∀ i, i < c → ∃ k, k < N ∧ o k = t i) (hp : jnj p n) (hq : ∀ i, i < n → (∃ k, k < N ∧ o k = p i) ∧ ¬ inT t c (p i)) (i : Nat) (hn : i ≤ n) : jnj (tkS t c p ch i).1 (tkS t c p ch i).2 ∧ (∀ j, j < (tkS t c p ch i).2 → ∃ k, k < N ∧ o k = (tkS t c p ch i).1 j) ∧ (∀ j, i ≤ j → j < n → ¬ inT (tkS t c p ch i).1 (tkS t c p ch i).2 (p j)) ∧ (tkS t c p ch i).2 ≤ c + i := by
  induction i with
  | zero => exact ⟨ht, hi, fun j _ hj => (hq j hj).2, Nat.le_refl _⟩
  | succ i ih =>
    obtain ⟨h1, h2, h3, h4⟩ := ih (by omega)
    by_cases q : ch / 2 ^ i % 2 = 1
    · rw [tkS_y q]
      refine ⟨jnj_add h1 (h3 i (Nat.le_refl _) (by omega)), fun j hj => ?_, fun j hj1 hj2 => ?_, ?_⟩
      · have hj : j < (tkS t c p ch i).2 + 1 := hj
        show ∃ k, k < N ∧ o k = va_up (tkS t c p ch i).1 (tkS t c p ch i).2 (p i) j
        by_cases z : j = (tkS t c p ch i).2
        · rw [z, va_up_self]; exact (hq i (by omega)).1
        · rw [va_up_ne _ _ z]; exact h2 j (by omega)
      · rintro ⟨l, z1, z2⟩
        have z1 : l < (tkS t c p ch i).2 + 1 := z1
        have z2 : va_up (tkS t c p ch i).1 (tkS t c p ch i).2 (p i) l = p j := z2
        by_cases y : l = (tkS t c p ch i).2
        · rw [y, va_up_self] at z2
          have := hp i j (by omega) hj2 z2
          omega
        · rw [va_up_ne _ _ y] at z2
          exact h3 j (by omega) hj2 ⟨l, by omega, z2⟩
      · show (tkS t c p ch i).2 + 1 ≤ c + (i + 1)
        omega
    · rw [tkS_n q]
      exact ⟨h1, h2, fun j hj1 hj2 => h3 j (by omega) hj2, by omega⟩
end PL
/-- the row of cases has each once -/
theorem inO_inj {s : Nat → Int} {o : Nat → Nat} {cnt a : Nat} (h : jnj o cnt) (ha : ∀ j, j < cnt → o j < a) : jnj (inO s o cnt a) (cnt + 1) := fun i j hi hj e => by
  have hp := inP_le (s := s) (o := o) (x := s a) cnt
  unfold inO at e
  by_cases i1 : i < inP s o (s a) cnt
  · rw [if_pos i1] at e
    have b1 := ha i (by omega)
    by_cases j1 : j < inP s o (s a) cnt
    · rw [if_pos j1] at e; exact h i j (by omega) (by omega) e
    · rw [if_neg j1] at e
      by_cases j2 : j = inP s o (s a) cnt
      · rw [if_pos j2] at e; omega
      · rw [if_neg j2] at e; have := h i (j - 1) (by omega) (by omega) e; omega
  · rw [if_neg i1] at e
    by_cases i2 : i = inP s o (s a) cnt
    · rw [if_pos i2] at e
      by_cases j1 : j < inP s o (s a) cnt
      · rw [if_pos j1] at e; have := ha j (by omega); omega
      · rw [if_neg j1] at e
        by_cases j2 : j = inP s o (s a) cnt
        · omega
        · rw [if_neg j2] at e; have := ha (j - 1) (by omega); omega
    · rw [if_neg i2] at e
      have b1 := ha (i - 1) (by omega)
      by_cases j1 : j < inP s o (s a) cnt
      · rw [if_pos j1] at e; have := h (i - 1) j (by omega) (by omega) e; omega
      · rw [if_neg j1] at e
        by_cases j2 : j = inP s o (s a) cnt
        · rw [if_pos j2] at e; omega
        · rw [if_neg j2] at e; have := h (i - 1) (j - 1) (by omega) (by omega) e; omega
theorem orS_inj {C : Nat → Prop} {s : Nat → Int} (n : Nat) : jnj (orS C s n).1 (orS C s n).2 := by
  induction n with
  | zero => intro i j hi; exact absurd hi (Nat.not_lt_zero _)
  | succ n ih =>
    by_cases q : C n
    · rw [orS_hit q]
      exact inO_inj ih (fun j hj => (orS_mem n j hj).1)
    · rw [orS_skip q]; exact ih
