/-- marks of the first d places -/
def pr8 (d : Nat) : Int := match d with
  | 0 => 4096
  | 1 => 512
  | 2 => 64
  | 3 => 8
  | _ => 1
def pfx (d : Nat) (m : Int) : Int := m / pr8 d
theorem pfx_up {d : Nat} {m : Int} (hd : d < 4) : pfx d m = pfx (d + 1) m / 8 := by
  unfold pfx
  rcases (show d = 0 ∨ d = 1 ∨ d = 2 ∨ d = 3 by omega) with q | q | q | q <;> subst q
  · show m / 4096 = m / 512 / 8
    omega
  · show m / 512 = m / 64 / 8
    omega
  · show m / 64 = m / 8 / 8
    omega
  · show m / 8 = m / 1 / 8
    omega
theorem pfx_4 (m : Int) : pfx 4 m = m := by
  show m / 1 = m
  omega
theorem pfx_0 {m : Int} (h : 0 ≤ m ∧ m < 4096) : pfx 0 m = 0 := by
  show m / 4096 = 0
  omega
theorem pfx_nn {d : Nat} {m : Int} (h : 0 ≤ m) : 0 ≤ pfx d m := by
  unfold pfx
  rcases (show d = 0 ∨ d = 1 ∨ d = 2 ∨ d = 3 ∨ 4 ≤ d by omega) with q | q | q | q | q
  · subst q; show 0 ≤ m / 4096; omega
  · subst q; show 0 ≤ m / 512; omega
  · subst q; show 0 ≤ m / 64; omega
  · subst q; show 0 ≤ m / 8; omega
  · have e : pr8 d = 1 := by
      match d, q with
      | d + 4, _ => rfl
    rw [e]; omega
/-- how many below n -/
noncomputable def ctF (C : Nat → Prop) : Nat → Int
  | 0 => 0
  | n + 1 => ctF C n + @ite _ (C n) (Classical.propDecidable _) 1 0
section CTF
variable {C C' : Nat → Prop} {n : Nat}
theorem ctF_hit (h : C n) : ctF C (n + 1) = ctF C n + 1 := by
  show ctF C n + @ite _ (C n) (Classical.propDecidable _) 1 0 = _
  rw [if_pos h]
theorem ctF_skip (h : ¬ C n) : ctF C (n + 1) = ctF C n := by
  show ctF C n + @ite _ (C n) (Classical.propDecidable _) 1 0 = _
  rw [if_neg h]; omega
theorem ctF_rng (n : Nat) : 0 ≤ ctF C n ∧ ctF C n ≤ n := by
  induction n with
  | zero => exact ⟨Int.le_refl _, Int.le_refl _⟩
  | succ n ih =>
    by_cases h : C n
    · rw [ctF_hit h]; omega
    · rw [ctF_skip h]; omega
theorem ctF_ext (n : Nat) (h : ∀ i, i < n → (C i ↔ C' i)) : ctF C n = ctF C' n := by
  induction n with
  | zero => rfl
  | succ n ih =>
    have e := ih (fun i hi => h i (by omega))
    by_cases q : C n
    · rw [ctF_hit q, ctF_hit ((h n (by omega)).mp q), e]
    · rw [ctF_skip q, ctF_skip (fun z => q ((h n (by omega)).mpr z)), e]
theorem ctF_none (n : Nat) (h : ∀ i, i < n → ¬ C i) : ctF C n = 0 := by
  induction n with
  | zero => rfl
  | succ n ih => rw [ctF_skip (h n (by omega))]; exact ih (fun i hi => h i (by omega))
/-- one place alone has changed -/
theorem ctF_at (n : Nat) {i0 : Nat} (hi : i0 < n) (h : ∀ i, i < n → i ≠ i0 → (C i ↔ C' i)) {x y : Int} (hx : (C i0 ∧ x = 1) ∨ (¬ C i0 ∧ x = 0)) (hy : (C' i0 ∧ y = 1) ∨ (¬ C' i0 ∧ y = 0)) : ctF C' n = ctF C n - x + y := by
  induction n with
  | zero => omega
  | succ n ih =>
    by_cases q : i0 = n
    · subst q
      have e := ctF_ext (C := C) (C' := C') i0 (fun i hi => h i (by omega) (by omega))
      rcases hx with ⟨a, a2⟩ | ⟨a, a2⟩ <;> rcases hy with ⟨b, b2⟩ | ⟨b, b2⟩
      · rw [ctF_hit a, ctF_hit b]; omega
      · rw [ctF_hit a, ctF_skip b]; omega
      · rw [ctF_skip a, ctF_hit b]; omega
      · rw [ctF_skip a, ctF_skip b]; omega
    · have e := ih (by omega) (fun i hi hne => h i (by omega) hne)
      have hn := h n (by omega) (fun z => q z.symm)
      by_cases c : C n
      · rw [ctF_hit c, ctF_hit (hn.mp c)]; omega
      · rw [ctF_skip c, ctF_skip (fun z => c (hn.mpr z))]; omega
theorem ctF_more {C' : Nat → Prop} (h : ∀ i, i < n → (C i ↔ C' i)) {y : Int} (hy : (C' n ∧ y = 1) ∨ (¬ C' n ∧ y = 0)) : ctF C' (n + 1) = ctF C n + y := by
  rw [ctF_ext n h]
  rcases hy with ⟨b, b2⟩ | ⟨b, b2⟩
  · rw [ctF_hit b]; omega
  · rw [ctF_skip b]; omega
end CTF
/-- alarm i counts at the node of depth d and marks p: settled as true (5), settled (6), not settled (7) -/
def kC (V : Nat → Nat → Int) (k d : Nat) (p : Int) (i : Nat) : Prop := pfx d (V i 4) = p ∧ ((k = 5 ∧ V i 12 = 1) ∨ (k = 6 ∧ ¬ V i 12 = 0) ∨ (k = 7 ∧ V i 12 = 0))
/-- a reference in a field -/
def cqRf (e : va_E) (k : Nat) : Option Nat := match cqU e k with
  | .ref b => some b
  | _ => none
theorem cqRf_of {e : va_E} {k : Nat} {v : Option Nat} (h : cqU e k = va_rf v) : cqRf e k = v := by
  unfold cqRf
  rw [h]
  cases v <;> rfl
theorem cqRf_eq {e e' : va_E} {k : Nat} (h : cqU e' k = cqU e k) : cqRf e' k = cqRf e k := by
  unfold cqRf
  rw [h]
/-- a chain of siblings -/
def lnk (f : Nat → va_E) : List Nat → Option Nat → Prop
  | [], e => e = none
  | b :: l, e => e = some b ∧ lnk f l (cqRf (f b) 3)
/-- the first of a chain with mark m -/
def chF (f : Nat → va_E) (m : Int) : List Nat → Option Nat
  | [] => none
  | b :: l => if cqF (f b) 2 = m then some b else chF f m l
theorem lnk.fr {f f' : Nat → va_E} {l : List Nat} {e : Option Nat} (h : lnk f l e) (hq : ∀ b ∈ l, cqU (f' b) 3 = cqU (f b) 3) : lnk f' l e := by
  induction l generalizing e with
  | nil => exact h
  | cons b l ih => exact ⟨h.1, by rw [cqRf_eq (hq b (List.mem_cons_self ..))]; exact ih h.2 (fun c hc => hq c (List.mem_cons_of_mem _ hc))⟩
theorem chF.fr {f f' : Nat → va_E} {m : Int} {l : List Nat} (hq : ∀ b ∈ l, cqU (f' b) 2 = cqU (f b) 2) : chF f' m l = chF f m l := by
  induction l with
  | nil => rfl
  | cons b l ih =>
    have e : cqF (f' b) 2 = cqF (f b) 2 := congrArg cqNm (hq b (List.mem_cons_self ..))
    show (if cqF (f' b) 2 = m then some b else chF f' m l) = if cqF (f b) 2 = m then some b else chF f m l
    rw [e, ih (fun c hc => hq c (List.mem_cons_of_mem _ hc))]
/-- the tree: Nd d p is the node of depth d and marks p -/
def tN (L : List Nat) (K : Nat → Nat × Nat) (f : Nat → va_E) (Nd : Nat → Int → Option Nat) (V : Nat → Nat → Int) (n : Nat) : Prop := ∀ d p a, Nd d p = some a → d ≤ 4 ∧ cqIs L K 3 a ∧ cqF (f a) 1 = (d : Int) ∧ ∀ k, 5 ≤ k ∧ k ≤ 7 → cqF (f a) k = ctF (kC V k d p) n
def tP (f : Nat → va_E) (Nd : Nat → Int → Option Nat) : Prop := ∀ d p a, Nd d p = some a → (d = 0 → p = 0 ∧ cqRf (f a) 0 = none) ∧ ∀ d', d = d' + 1 → 0 ≤ p ∧ cqF (f a) 2 = p % 8 ∧ ∃ b, Nd d' (p / 8) = some b ∧ cqRf (f a) 0 = some b
def tL (f : Nat → va_E) (Nd : Nat → Int → Option Nat) : Prop := ∀ d p a, Nd d p = some a → d < 4 → ∃ l, lnk f l (cqRf (f a) 4) ∧ (∀ b ∈ l, ∃ q, Nd (d + 1) q = some b ∧ q / 8 = p) ∧ ∀ m : Int, 0 ≤ m → m < 8 → chF f m l = Nd (d + 1) (8 * p + m)
def tJ (Nd : Nat → Int → Option Nat) : Prop := ∀ d p d' p' a, Nd d p = some a → Nd d' p' = some a → d = d' ∧ p = p'
def tR (L : List Nat) (K : Nat → Nat × Nat) (f : Nat → va_E) (ro : Nat) (Nd : Nat → Int → Option Nat) (V : Nat → Nat → Int) (n : Nat) : Prop := Nd 0 0 = some ro ∧ tN L K f Nd V n ∧ tP f Nd ∧ tL f Nd ∧ tJ Nd
/-- leaves of the alarms -/
def tA (f : Nat → va_E) (g : Nat → Option Nat) (Nd : Nat → Int → Option Nat) (V : Nat → Nat → Int) (n : Nat) : Prop := ∀ i, i < n → ∀ b, g i = some b → ∃ lf, Nd 4 (V i 4) = some lf ∧ cqRf (f b) 6 = some lf
section TR
variable {X : List (Nat × Nat)} {L L' : List Nat} {K K' : Nat → Nat × Nat} {f f' f1 f2 : Nat → va_E} {ro : Nat} {Nd : Nat → Int → Option Nat} {V V' : Nat → Nat → Int} {n n' : Nat} {g : Nat → Option Nat}
/-- nodes keep their fields: the tree stays -/
theorem tR.same (h : tR L K f ro Nd V n) (gg : cqG L K L' K') (hq : ∀ a, cqIs L K 3 a → ∀ k, k < 8 → cqU (f' a) k = cqU (f a) k) : tR L' K' f' ro Nd V n := by
  obtain ⟨h0, h1, h2, h3, h4⟩ := h
  have ok : ∀ d p a, Nd d p = some a → ∀ k, k < 8 → cqU (f' a) k = cqU (f a) k := fun d p a ha => hq a (h1 d p a ha).2.1
  refine ⟨h0, fun d p a ha => ?_, fun d p a ha => ?_, fun d p a ha hd => ?_, h4⟩
  · obtain ⟨q1, q2, q3, q4⟩ := h1 d p a ha
    refine ⟨q1, q2.up gg, ?_, fun k hk => ?_⟩
    · rw [← q3]; exact congrArg cqNm (ok d p a ha 1 (by decide))
    · rw [← q4 k hk]; exact congrArg cqNm (ok d p a ha k (by omega))
  · obtain ⟨q1, q2⟩ := h2 d p a ha
    refine ⟨fun hd => ⟨(q1 hd).1, ?_⟩, fun d' hd => ?_⟩
    · rw [cqRf_eq (ok d p a ha 0 (by decide))]; exact (q1 hd).2
    · obtain ⟨z1, z2, b, z3, z4⟩ := q2 d' hd
      exact ⟨z1, by rw [← z2]; exact congrArg cqNm (ok d p a ha 2 (by decide)), b, z3, by rw [cqRf_eq (ok d p a ha 0 (by decide))]; exact z4⟩
  · obtain ⟨l, l1, l2, l3⟩ := h3 d p a ha hd
    refine ⟨l, ?_, l2, fun m m0 m8 => ?_⟩
    · rw [cqRf_eq (ok d p a ha 4 (by decide))]
      exact l1.fr (fun b hb => by obtain ⟨q, q1, -⟩ := l2 b hb; exact ok _ _ b q1 3 (by decide))
    · rw [← l3 m m0 m8]
      exact chF.fr (fun b hb => by obtain ⟨q, q1, -⟩ := l2 b hb; exact ok _ _ b q1 2 (by decide))
theorem tR.fr (h : tR L K f ro Nd V n) (gg : cqG L K L' K') (t : cqT X L K f f') (hX : ∀ k, k < 8 → (3, k) ∉ X) : tR L' K' f' ro Nd V n := h.same gg (fun a ha k hk => t a ha.1 k (by rw [ha.2]; exact hX k hk))
/-- the table has changed, the counts have not -/
theorem tR.tab (h : tR L K f ro Nd V n) (hc : ∀ k d p, ctF (kC V' k d p) n' = ctF (kC V k d p) n) : tR L K f ro Nd V' n' := by
  obtain ⟨h0, h1, h2, h3, h4⟩ := h
  refine ⟨h0, fun d p a ha => ?_, h2, h3, h4⟩
  obtain ⟨q1, q2, q3, q4⟩ := h1 d p a ha
  exact ⟨q1, q2, q3, fun k hk => by rw [hc]; exact q4 k hk⟩
theorem tA.fr (h : tA f g Nd V n) (j : cqJA L K (n : Int) g) (t : cqT X L K f f') (hX : (0, 6) ∉ X) : tA f' g Nd V n := fun i hi b hb => by
  obtain ⟨lf, q1, q2⟩ := h i hi b hb
  obtain ⟨b', e', i', -⟩ := j i (by omega)
  rw [hb] at e'
  cases e'
  exact ⟨lf, q1, by rw [cqRf_eq (t b i'.1 6 (by rw [i'.2]; exact hX))]; exact q2⟩
/-- every node above a node is there -/
theorem tR.above (h : tR L K f ro Nd V n) {m : Int} {a : Nat} (ha : Nd 4 m = some a) (d : Nat) (hd : d ≤ 4) : ∃ b, Nd d (pfx d m) = some b := by
  obtain ⟨h0, h1, h2, h3, h4⟩ := h
  have step : ∀ e : Nat, e ≤ 4 → ∃ b, Nd (4 - e) (pfx (4 - e) m) = some b := by
    intro e
    induction e with
    | zero => intro _; exact ⟨a, by rw [pfx_4]; exact ha⟩
    | succ e ih =>
      intro he
      obtain ⟨b, hb⟩ := ih (by omega)
      obtain ⟨-, -, b', q, -⟩ := (h2 _ _ b hb).2 (4 - (e + 1)) (by omega)
      refine ⟨b', ?_⟩
      rw [pfx_up (d := 4 - (e + 1)) (by omega), show 4 - (e + 1) + 1 = 4 - e by omega]
      exact q
  have := step (4 - d) (by omega)
  rw [show 4 - (4 - d) = d by omega] at this
  exact this
/-- where there is no node, no alarm counts -/
theorem tR.empty (h : tR L K f ro Nd V n) (ht : tA f g Nd V n) (hg : ∀ i, i < n → ∃ b, g i = some b) {d : Nat} {p : Int} (hd : d ≤ 4) (hn : Nd d p = none) (k : Nat) : ctF (kC V k d p) n = 0 := ctF_none n (fun i hi c => by
  obtain ⟨b, hb⟩ := hg i hi
  obtain ⟨lf, q1, -⟩ := ht i hi b hb
  obtain ⟨b', hb'⟩ := h.above q1 d hd
  rw [c.1, hn] at hb'
  cases hb')
/-- a new node -/
def ndU (Nd : Nat → Int → Option Nat) (d : Nat) (p : Int) (q : Nat) : Nat → Int → Option Nat := fun d' p' => if d' = d ∧ p' = p then some q else Nd d' p'
theorem ndU_at {d : Nat} {p : Int} {q : Nat} : ndU Nd d p q d p = some q := if_pos ⟨rfl, rfl⟩
theorem ndU_ne {d d' : Nat} {p p' : Int} {q : Nat} (h : ¬ (d' = d ∧ p' = p)) : ndU Nd d p q d' p' = Nd d' p' := if_neg h
theorem ndU_old {d d' : Nat} {p p' : Int} {q a : Nat} (hn : Nd d p = none) (h : Nd d' p' = some a) : ndU Nd d p q d' p' = some a := by
  rw [ndU_ne (fun z => by rw [z.1, z.2, hn] at h; cases h)]; exact h
theorem tR.new (h : tR L K f ro Nd V n) {d : Nat} {p m : Int} {at1 q : Nat} (ha : Nd d p = some at1) (hd : d < 4) (hm : 0 ≤ m ∧ m < 8) (hp : 0 ≤ p) (hn : Nd (d + 1) (8 * p + m) = none) (hz : ∀ k, 5 ≤ k ∧ k ≤ 7 → ctF (kC V k (d + 1) (8 * p + m)) n = 0) (gg : cqG L K L' K') (iq : cqIs L' K' 3 q) (hq : q ∉ L) (old : ∀ b, b ∈ L → f1 b = f b) {pa sb fc : Option Nat} {de ma tu sd op : Int32} (hf : f1 q = .inr (3, [va_rf pa, .int de, .int ma, va_rf sb, va_rf fc, .int tu, .int sd, .int op])) (e0 : pa = some at1) (e1 : de.toInt = (d : Int) + 1) (e2 : ma.toInt = m) (e3 : sb = cqRf (f at1) 4) (e4 : fc = none) (e5 : tu = 0) (e6 : sd = 0) (e7 : op = 0) (o : cqO at1 f1 f2) (k4 : cqRf (f2 at1) 4 = some q) (ko : ∀ k, k < 8 → k ≠ 4 → cqU (f2 at1) k = cqU (f1 at1) k) : tR L' K' f2 ro (ndU Nd (d + 1) (8 * p + m) q) V n := by
  obtain ⟨h0, h1, h2, h3, h4⟩ := h
  subst e0; subst e3; subst e4; subst e5; subst e6; subst e7
  have inL : ∀ {d' p' a}, Nd d' p' = some a → a ∈ L := fun ha' => (h1 _ _ _ ha').2.1.1
  have qne : ∀ {d' p' a}, Nd d' p' = some a → a ≠ q := fun ha' z => hq (z ▸ inL ha')
  have fq : f2 q = f1 q := o q (fun z => hq (z ▸ inL ha))
  have fo : ∀ {d' p' a}, Nd d' p' = some a → ∀ k, k < 8 → k ≠ 4 ∨ a ≠ at1 → cqU (f2 a) k = cqU (f a) k := fun {d' p' a} ha' k hk hx => by
    by_cases z : a = at1
    · subst z
      rw [ko k hk (hx.resolve_right (fun w => w rfl)), old a (inL ha)]
    · rw [o a z, old a (inL ha')]
  have dst : ∀ {d' p' a}, ndU Nd (d + 1) (8 * p + m) q d' p' = some a → (d' = d + 1 ∧ p' = 8 * p + m ∧ a = q) ∨ Nd d' p' = some a := fun {d' p' a} hx => by
    by_cases z : d' = d + 1 ∧ p' = 8 * p + m
    · rw [z.1, z.2, ndU_at] at hx
      cases hx
      exact Or.inl ⟨z.1, z.2, rfl⟩
    · rw [ndU_ne z] at hx; exact Or.inr hx
  have z0 : (0 : Int32).toInt = 0 := by decide
  refine ⟨ndU_old hn h0, fun d' p' a hx => ?_, fun d' p' a hx => ?_, fun d' p' a hx hd' => ?_, fun d1 p1 d2 p2 a hx hy => ?_⟩
  · rcases dst hx with ⟨x1, x2, x3⟩ | hx
    · subst x1; subst x2; subst x3
      refine ⟨by omega, iq, ?_, fun k hk => ?_⟩
      · rw [fq, hf]
        show de.toInt = ((d + 1 : Nat) : Int)
        omega
      · rw [fq, hf, hz k hk]
        rcases (show k = 5 ∨ k = 6 ∨ k = 7 by omega) with y | y | y <;> subst y <;> exact z0
    · obtain ⟨q1, q2, q3, q4⟩ := h1 d' p' a hx
      refine ⟨q1, q2.up gg, ?_, fun k hk => ?_⟩
      · rw [← q3]; exact congrArg cqNm (fo hx 1 (by decide) (Or.inl (by decide)))
      · rw [← q4 k hk]; exact congrArg cqNm (fo hx k (by omega) (Or.inl (by omega)))
  · rcases dst hx with ⟨x1, x2, x3⟩ | hx
    · subst x1; subst x2; subst x3
      refine ⟨fun z => by omega, fun d'' hd'' => ⟨by omega, ?_, at1, ?_, ?_⟩⟩
      · rw [fq, hf]
        show ma.toInt = (8 * p + m) % 8
        omega
      · rw [show d'' = d by omega, show (8 * p + m) / 8 = p by omega]
        exact ndU_old hn ha
      · rw [fq, hf]; rfl
    · obtain ⟨q1, q2⟩ := h2 d' p' a hx
      refine ⟨fun z => ⟨(q1 z).1, by rw [cqRf_eq (fo hx 0 (by decide) (Or.inl (by decide)))]; exact (q1 z).2⟩, fun d'' hd'' => ?_⟩
      obtain ⟨z1, z2, b, z3, z4⟩ := q2 d'' hd''
      exact ⟨z1, by rw [← z2]; exact congrArg cqNm (fo hx 2 (by decide) (Or.inl (by decide))), b, ndU_old hn z3, by rw [cqRf_eq (fo hx 0 (by decide) (Or.inl (by decide)))]; exact z4⟩
  · rcases dst hx with ⟨x1, x2, x3⟩ | hx
    · subst x1; subst x2; subst x3
      refine ⟨[], ?_, (fun b hb => by cases hb), fun m' _ _ => ?_⟩
      · show cqRf (f2 a) 4 = none
        rw [fq, hf]; rfl
      · show none = ndU Nd (d + 1) (8 * p + m) a (d + 1 + 1) (8 * (8 * p + m) + m')
        rw [ndU_ne (by omega)]
        rcases e : Nd (d + 1 + 1) (8 * (8 * p + m) + m') with _ | c
        · rfl
        · obtain ⟨-, -, b, z3, -⟩ := (h2 _ _ c e).2 (d + 1) rfl
          rw [show (8 * (8 * p + m) + m') / 8 = 8 * p + m by omega, hn] at z3
          cases z3
    · obtain ⟨l, l1, l2, l3⟩ := h3 d' p' a hx hd'
      have lfr : lnk f2 l (cqRf (f a) 4) := l1.fr (fun b hb => by obtain ⟨c, c1, -⟩ := l2 b hb; exact fo c1 3 (by decide) (Or.inl (by decide)))
      have cfr : ∀ m', chF f2 m' l = chF f m' l := fun m' => chF.fr (fun b hb => by obtain ⟨c, c1, -⟩ := l2 b hb; exact fo c1 2 (by decide) (Or.inl (by decide)))
      by_cases z : a = at1
      · subst z
        obtain ⟨y1, y2⟩ := h4 _ _ _ _ a hx ha
        subst y1; subst y2
        refine ⟨q :: l, ⟨k4, ?_⟩, fun b hb => ?_, fun m' m0 m8 => ?_⟩
        · rw [fq, hf]
          show lnk f2 l (cqRf (.inr (3, [va_rf (some a), .int de, .int ma, va_rf (cqRf (f a) 4), va_rf none, .int 0, .int 0, .int 0])) 3)
          rw [cqRf_of (v := cqRf (f a) 4) rfl]
          exact lfr
        · rcases List.mem_cons.mp hb with y | y
          · subst y; exact ⟨8 * p' + m, ndU_at, by omega⟩
          · obtain ⟨c, c1, c2⟩ := l2 b y; exact ⟨c, ndU_old hn c1, c2⟩
        · show (if cqF (f2 q) 2 = m' then some q else chF f2 m' l) = _
          have em : cqF (f2 q) 2 = m := by rw [fq, hf]; exact e2
          rw [em]
          by_cases y : m = m'
          · subst y; rw [if_pos rfl, ndU_at]
          · rw [if_neg y, cfr, l3 m' m0 m8, ndU_ne (by omega)]
      · refine ⟨l, ?_, fun b hb => ?_, fun m' m0 m8 => ?_⟩
        · rw [cqRf_eq (fo hx 4 (by decide) (Or.inr z))]; exact lfr
        · obtain ⟨c, c1, c2⟩ := l2 b hb; exact ⟨c, ndU_old hn c1, c2⟩
        · rw [cfr, l3 m' m0 m8, ndU_ne]
          intro y
          have hdp : d' = d ∧ p' = p := ⟨by omega, by omega⟩
          rw [hdp.1, hdp.2, ha] at hx
          cases hx
          exact z rfl
  · rcases dst hx with ⟨x1, x2, x3⟩ | hx <;> rcases dst hy with ⟨y1, y2, y3⟩ | hy
    · exact ⟨by omega, by omega⟩
    · exact absurd x3 (qne hy)
    · exact absurd y3 (qne hx)
    · exact h4 _ _ _ _ a hx hy
theorem tA.new (h : tA f g Nd V n) (j : cqJA L K (n : Int) g) {d : Nat} {p : Int} {q : Nat} (hn : Nd d p = none) (t : cqT X L K f f') (hX : (0, 6) ∉ X) : tA f' g (ndU Nd d p q) V n := fun i hi b hb => by
  obtain ⟨lf, q1, q2⟩ := h.fr j t hX i hi b hb
  exact ⟨lf, ndU_old hn q1, q2⟩
/-- a field of the nodes on the way of mk from depth above dd on has changed by x -/
def tD (Nd : Nat → Int → Option Nat) (mk dd : Int) (f0 f : Nat → va_E) (k : Nat) (x : Int) : Prop := ∀ d p a, Nd d p = some a → cqF (f a) k = cqF (f0 a) k + (if dd < (d : Int) ∧ pfx d mk = p then x else 0)
theorem tD.start {mk dd x : Int} {k : Nat} (h : tN L K f Nd V n) (hd : 4 ≤ dd) : tD Nd mk dd f f k x := fun d p a ha => by
  rw [if_neg (by have := (h d p a ha).1; omega)]; omega
theorem tD.step {mk dd dd' x : Int} {k : Nat} {f0 : Nat → va_E} (h : tD Nd mk dd f0 f k x) (hj : tJ Nd) {d0 a0 : Nat} (e0 : dd = (d0 : Int)) (e1 : dd' = dd - 1) (ha : Nd d0 (pfx d0 mk) = some a0) (o : cqO a0 f f') (hx : cqF (f' a0) k = cqF (f a0) k + x) : tD Nd mk dd' f0 f' k x := fun d p a hN => by
  have h1 := h d p a hN
  by_cases q : a = a0
  · subst q
    obtain ⟨y1, y2⟩ := hj _ _ _ _ a hN ha
    subst y1; subst y2
    rw [if_neg (by omega)] at h1
    rw [hx, h1, if_pos (by omega)]
    omega
  · rw [o a q, h1]
    by_cases c : dd < (d : Int) ∧ pfx d mk = p
    · rw [if_pos c, if_pos (by omega)]
    · rw [if_neg c, if_neg]
      intro z
      have e2 : d = d0 := by omega
      rw [e2, ← z.2, e2, ha] at hN
      cases hN
      exact q rfl
/-- the counts follow -/
theorem tR.count (h : tR L K f ro Nd V n) (gg : cqG L K L' K') {mk : Int} {x5 x6 x7 : Int} (t : cqT X L K f f') (hX : ∀ k, k < 5 → (3, k) ∉ X) (d5 : tD Nd mk (-1) f f' 5 x5) (d6 : tD Nd mk (-1) f f' 6 x6) (d7 : tD Nd mk (-1) f f' 7 x7) (hc : ∀ k d p x, d ≤ 4 → ((k = 5 ∧ x = x5) ∨ (k = 6 ∧ x = x6) ∨ (k = 7 ∧ x = x7)) → ctF (kC V' k d p) n' = ctF (kC V k d p) n + (if pfx d mk = p then x else 0)) : tR L' K' f' ro Nd V' n' := by
  obtain ⟨h0, h1, h2, h3, h4⟩ := h
  have ok : ∀ d p a, Nd d p = some a → ∀ k, k < 5 → cqU (f' a) k = cqU (f a) k := fun d p a ha k hk => t a (h1 d p a ha).2.1.1 k (by rw [(h1 d p a ha).2.1.2]; exact hX k hk)
  refine ⟨h0, fun d p a ha => ?_, fun d p a ha => ?_, fun d p a ha hd => ?_, h4⟩
  · obtain ⟨q1, q2, q3, q4⟩ := h1 d p a ha
    refine ⟨q1, q2.up gg, ?_, fun k hk => ?_⟩
    · rw [← q3]; exact congrArg cqNm (ok d p a ha 1 (by decide))
    · have fin : ∀ x, tD Nd mk (-1) f f' k x → ((k = 5 ∧ x = x5) ∨ (k = 6 ∧ x = x6) ∨ (k = 7 ∧ x = x7)) → cqF (f' a) k = ctF (kC V' k d p) n' := fun x hD hk2 => by
        rw [hc k d p x q1 hk2, hD d p a ha, q4 k hk]
        by_cases c : pfx d mk = p
        · rw [if_pos c, if_pos (by omega)]
        · rw [if_neg c, if_neg (fun z => c z.2)]
      rcases (show k = 5 ∨ k = 6 ∨ k = 7 by omega) with y | y | y <;> subst y
      · exact fin x5 d5 (Or.inl ⟨rfl, rfl⟩)
      · exact fin x6 d6 (Or.inr (Or.inl ⟨rfl, rfl⟩))
      · exact fin x7 d7 (Or.inr (Or.inr ⟨rfl, rfl⟩))
  · obtain ⟨q1, q2⟩ := h2 d p a ha
    refine ⟨fun hd => ⟨(q1 hd).1, ?_⟩, fun d' hd => ?_⟩
    · rw [cqRf_eq (ok d p a ha 0 (by decide))]; exact (q1 hd).2
    · obtain ⟨z1, z2, b, z3, z4⟩ := q2 d' hd
      exact ⟨z1, by rw [← z2]; exact congrArg cqNm (ok d p a ha 2 (by decide)), b, z3, by rw [cqRf_eq (ok d p a ha 0 (by decide))]; exact z4⟩
  · obtain ⟨l, l1, l2, l3⟩ := h3 d p a ha hd
    refine ⟨l, ?_, l2, fun m m0 m8 => ?_⟩
    · rw [cqRf_eq (ok d p a ha 4 (by decide))]
      exact l1.fr (fun b hb => by obtain ⟨q, q1, -⟩ := l2 b hb; exact ok _ _ b q1 3 (by decide))
    · rw [← l3 m m0 m8]
      exact chF.fr (fun b hb => by obtain ⟨q, q1, -⟩ := l2 b hb; exact ok _ _ b q1 2 (by decide))
end TR
theorem lnk_none {f : Nat → va_E} {l : List Nat} (h : lnk f l none) : l = [] := by
  cases l with
  | nil => rfl
  | cons b l => cases h.1
theorem lnk_some {f : Nat → va_E} {l : List Nat} {b : Nat} (h : lnk f l (some b)) : ∃ l', l = b :: l' ∧ lnk f l' (cqRf (f b) 3) := by
  cases l with
  | nil => cases h
  | cons c l =>
    have e := h.1
    cases e
    exact ⟨l, rfl, h.2⟩
theorem tR.gone {L : List Nat} {K : Nat → Nat × Nat} {f : Nat → va_E} {ro : Nat} {Nd : Nat → Int → Option Nat} {V : Nat → Nat → Int} {n : Nat} (h : tR L K f ro Nd V n) {m : Int} {d : Nat} (hn : Nd d (pfx d m) = none) (e : Nat) (he : d + e ≤ 4) : Nd (d + e) (pfx (d + e) m) = none := by
  induction e with
  | zero => exact hn
  | succ e ih =>
    have h1 := ih (by omega)
    rcases q : Nd (d + (e + 1)) (pfx (d + (e + 1)) m) with _ | c
    · rfl
    · obtain ⟨-, -, b, z3, -⟩ := (h.2.2.1 _ _ c q).2 (d + e) (by omega)
      rw [show d + (e + 1) = d + e + 1 by omega, ← pfx_up (d := d + e) (by omega), h1] at z3
      cases z3
/-- the mark of a depth -/
theorem mk_at {v w z1 z2 z3 z4 : Int32} (e1 : z1 = 3 - w) (e2 : z2 = 3 * z1) (e3 : z3 = v >>> (z2 &&& 31)) (e4 : z4 = z3 &&& 7) (hv : 0 ≤ v.toInt ∧ v.toInt < 4096) (hw : 0 ≤ w.toInt ∧ w.toInt < 4) : z4.toInt = pfx (w.toInt.toNat + 1) v.toInt % 8 := by
  have a7 : ∀ {x : Int32}, 0 ≤ x.toInt → (x &&& 7).toInt = x.toInt % 8 := fun {x} hx => by
    obtain ⟨q, hq, eq⟩ := nI_of (x := x) (fun z => by have := Int32.lt_iff_toInt_lt.mp z; have h3 : (0 : Int32).toInt = 0 := rfl; omega)
    rw [eq, pk_andN (by omega) (m := 7) 3 (by decide), nI_toInt (by omega), nI_toInt hq]
    omega
  have hw4 : w = 0 ∨ w = 1 ∨ w = 2 ∨ w = 3 := by
    rcases (show w.toInt = 0 ∨ w.toInt = 1 ∨ w.toInt = 2 ∨ w.toInt = 3 by omega) with q | q | q | q
    · exact Or.inl (Int32.toInt_inj.mp (q.trans (by decide)))
    · exact Or.inr (Or.inl (Int32.toInt_inj.mp (q.trans (by decide))))
    · exact Or.inr (Or.inr (Or.inl (Int32.toInt_inj.mp (q.trans (by decide)))))
    · exact Or.inr (Or.inr (Or.inr (Int32.toInt_inj.mp (q.trans (by decide)))))
  rcases hw4 with q | q | q | q <;> subst q
  · have z : z3.toInt = v.toInt / 512 := by
      rw [e3, e2, e1, pk_shr v _ 9 (by decide), Int.shiftRight_eq_div_pow]; rfl
    rw [e4, a7 (by omega), z]; rfl
  · have z : z3.toInt = v.toInt / 64 := by
      rw [e3, e2, e1, pk_shr v _ 6 (by decide), Int.shiftRight_eq_div_pow]; rfl
    rw [e4, a7 (by omega), z]; rfl
  · have z : z3.toInt = v.toInt / 8 := by
      rw [e3, e2, e1, pk_shr v _ 3 (by decide), Int.shiftRight_eq_div_pow]; rfl
    rw [e4, a7 (by omega), z]; rfl
  · have z : z3.toInt = v.toInt := by
      rw [e3, e2, e1, pk_shr v _ 0 (by decide), Int.shiftRight_eq_div_pow]
      show v.toInt / 1 = v.toInt
      omega
    rw [e4, a7 (by omega), z]
    show v.toInt % 8 = v.toInt / 1 % 8
    omega
section TRU
variable {L : List Nat} {K : Nat → Nat × Nat} {f : Nat → va_E} {ro : Nat} {Nd : Nat → Int → Option Nat} {V : Nat → Nat → Int} {n : Nat}
theorem tR.par (h : tR L K f ro Nd V n) {dd a b : Nat} {mk : Int} (ha : Nd dd (pfx dd mk) = some a) (hp : cqRf (f a) 0 = some b) : 1 ≤ dd ∧ Nd (dd - 1) (pfx (dd - 1) mk) = some b := by
  obtain ⟨q1, q2⟩ := h.2.2.1 _ _ a ha
  have h4 := (h.2.1 _ _ a ha).1
  rcases dd with _ | dd
  · have := (q1 rfl).2; rw [hp] at this; cases this
  · obtain ⟨z1, z2, b9, z3, z4⟩ := q2 dd rfl
    rw [hp] at z4
    cases z4
    refine ⟨by omega, ?_⟩
    show Nd dd (pfx dd mk) = some b
    rw [pfx_up (d := dd) (by omega)]
    exact z3
theorem tR.top (h : tR L K f ro Nd V n) {dd a : Nat} {p : Int} (ha : Nd dd p = some a) (hp : cqRf (f a) 0 = none) : dd = 0 := by
  obtain ⟨q1, q2⟩ := h.2.2.1 _ _ a ha
  rcases dd with _ | dd
  · rfl
  · obtain ⟨z1, z2, b9, z3, z4⟩ := q2 dd rfl
    rw [hp] at z4
    cases z4
end TRU
/-- the depth of an alarm's node -/
noncomputable def dpF (V : Nat → Nat → Int) (n : Nat) (mk le : Int) : Nat → Nat
  | 0 => 0
  | d + 1 => @ite _ (le ≤ ctF (kC V 6 (d + 1) (pfx (d + 1) mk)) n) (Classical.propDecidable _) (d + 1) (dpF V n mk le d)
theorem dpF_hit {V : Nat → Nat → Int} {n : Nat} {mk le : Int} {d : Nat} (h : le ≤ ctF (kC V 6 (d + 1) (pfx (d + 1) mk)) n) : dpF V n mk le (d + 1) = d + 1 := if_pos h
theorem dpF_skip {V : Nat → Nat → Int} {n : Nat} {mk le : Int} {d : Nat} (h : ¬ le ≤ ctF (kC V 6 (d + 1) (pfx (d + 1) mk)) n) : dpF V n mk le (d + 1) = dpF V n mk le d := if_neg h
theorem dpF_of {V : Nat → Nat → Int} {n : Nat} {mk le : Int} {dd m : Nat} (hd : dd ≤ m) (deep : ∀ e, dd < e → e ≤ m → ctF (kC V 6 e (pfx e mk)) n < le) (h : le ≤ ctF (kC V 6 dd (pfx dd mk)) n ∨ dd = 0) : dd = dpF V n mk le m := by
  induction m with
  | zero => have : dd = 0 := by omega
            rw [this]; rfl
  | succ m ih =>
    by_cases q : dd = m + 1
    · subst q
      rw [dpF_hit (h.resolve_right (by omega))]
    · rw [dpF_skip (fun z => by have := deep (m + 1) (by omega) (by omega); omega)]
      exact ih (by omega) (fun e h1 h2 => deep e h1 (by omega))
theorem dpF_le {V : Nat → Nat → Int} {n : Nat} {mk le : Int} (m : Nat) : dpF V n mk le m ≤ m := by
  induction m with
  | zero => exact Nat.le_refl _
  | succ m ih =>
    by_cases h : le ≤ ctF (kC V 6 (m + 1) (pfx (m + 1) mk)) n
    · rw [dpF_hit h]; exact Nat.le_refl _
    · rw [dpF_skip h]; omega
/-- what an alarm of marks mk and worth wo scores -/
noncomputable def scX (V : Nat → Nat → Int) (n : Nat) (le mk wo : Int) : Int := @ite _ (ctF (kC V 6 (dpF V n mk le 4) (pfx (dpF V n mk le 4) mk)) n = 0) (Classical.propDecidable _) (500 * wo) (1000 * wo * ctF (kC V 5 (dpF V n mk le 4) (pfx (dpF V n mk le 4) mk)) n / ctF (kC V 6 (dpF V n mk le 4) (pfx (dpF V n mk le 4) mk)) n)
theorem sc_of {z1 z2 z3 wo up lo : Int32} (e1 : z1 = 1000 * wo) (e2 : z2 = z1 * up) (e3 : z3 = z2 / lo) (hw : 0 ≤ wo.toInt ∧ wo.toInt ≤ 100) (hu : 0 ≤ up.toInt ∧ up.toInt ≤ 200) (hl : 1 ≤ lo.toInt ∧ lo.toInt ≤ 200) : z3.toInt = 1000 * wo.toInt * up.toInt / lo.toInt := by
  have nn : ∀ {x : Int32}, 0 ≤ x.toInt → ∃ j : Nat, j < 2 ^ 31 ∧ x = nI j := fun {x} hx => nI_of (fun z => by have := Int32.lt_iff_toInt_lt.mp z; have h3 : (0 : Int32).toInt = 0 := rfl; omega)
  obtain ⟨a, a1, a2⟩ := nn hw.1
  obtain ⟨b, b1, b2⟩ := nn hu.1
  obtain ⟨c, c1, c2⟩ := nn (x := lo) (by omega)
  rw [a2, nI_toInt a1] at hw
  rw [b2, nI_toInt b1] at hu
  rw [c2, nI_toInt c1] at hl
  have hab : a * b ≤ 100 * 200 := Nat.mul_le_mul (by omega) (by omega)
  have hab2 : 1000 * a * b = 1000 * (a * b) := Nat.mul_assoc _ _ _
  have k : (1000 : Int32) = nI 1000 := by decide
  rw [e3, e2, e1, a2, b2, c2, k, pk_mul, pk_mul, pk_div (by omega) (by omega) c1, nI_toInt (by have := Nat.div_le_self (1000 * a * b) c; omega), nI_toInt a1, nI_toInt b1, nI_toInt c1]
  rw [Int.natCast_ediv, Int.natCast_mul, Int.natCast_mul]
  rfl
section TRP
variable {X : List (Nat × Nat)} {L L' : List Nat} {K K' : Nat → Nat × Nat} {f f1 f9 : Nat → va_E} {ro : Nat} {Nd : Nat → Int → Option Nat} {V : Nat → Nat → Int} {n : Nat} {a c : Nat} {e : va_E} {g : Nat → Option Nat}
theorem tR.put (h : tR L K f ro Nd V n) (i : cqIs L K c a) (hc : c ≠ 3) (ef : f1 = va_up f a e) : tR L K f1 ro Nd V n := h.same cqG.rf (fun b hb k _ => by
  have hne : b ≠ a := fun z => hc (by rw [← i.2, ← z]; exact hb.2)
  rw [ef, va_up_ne _ _ hne])
theorem tR.push (h : tR L K f ro Nd V n) (gg : cqG L K L' K') (old : ∀ b, b ∈ L → f1 b = f b) : tR L' K' f1 ro Nd V n := h.same gg (fun b hb k _ => by rw [old b hb.1])
/-- no field of a node but the last has changed: the other counts stay -/
theorem tD.none {mk dd : Int} {k : Nat} (h : tN L K f Nd V n) (t : cqT X L K f f9) (hX : (3, k) ∉ X) : tD Nd mk dd f f9 k 0 := fun d p a ha => by
  rw [show (if dd < (d : Int) ∧ pfx d mk = p then (0 : Int) else 0) = 0 by split <;> rfl, Int.add_zero]
  exact t.F (h d p a ha).2.1 hX
end TRP
/-- one alarm more: the counts -/
theorem ct_new {V V' : Nat → Nat → Int} {n : Nat} {mk : Int} (hV : ∀ i, i ≠ n → V' i = V i) (h4 : V' n 4 = mk) (h12 : V' n 12 = 0) (k d : Nat) (p x : Int) (hk : (k = 5 ∧ x = 0) ∨ (k = 6 ∧ x = 0) ∨ (k = 7 ∧ x = 1)) : ctF (kC V' k d p) (n + 1) = ctF (kC V k d p) n + (if pfx d mk = p then x else 0) := by
  have e : ∀ i, i < n → (kC V k d p i ↔ kC V' k d p i) := fun i hi => by unfold kC; rw [hV i (by omega)]
  refine ctF_more e ?_
  unfold kC
  rw [h4, h12]
  by_cases q : pfx d mk = p
  · rw [if_pos q]
    rcases hk with ⟨a, b⟩ | ⟨a, b⟩ | ⟨a, b⟩
    · right; exact ⟨fun z => by omega, b⟩
    · right; exact ⟨fun z => by omega, b⟩
    · left; exact ⟨⟨q, by omega⟩, b⟩
  · rw [if_neg q]
    right
    exact ⟨fun z => q z.1, rfl⟩
/-- alarm i0 is settled: the counts -/
theorem ct_set {V : Nat → Nat → Int} {n i0 : Nat} {R : Nat → Int} {mk s : Int} (hi : i0 < n) (h4 : R 4 = V i0 4) (e4 : V i0 4 = mk) (h0 : V i0 12 = 0) (hs : R 12 = s) (hs2 : s = 1 ∨ s = 2) (k d : Nat) (p x : Int) (hk : (k = 5 ∧ x = (if s = 1 then 1 else 0)) ∨ (k = 6 ∧ x = 1) ∨ (k = 7 ∧ x = -1)) : ctF (kC (va_up V i0 R) k d p) n = ctF (kC V k d p) n + (if pfx d mk = p then x else 0) := by
  have e : ∀ i, i < n → i ≠ i0 → (kC V k d p i ↔ kC (va_up V i0 R) k d p i) := fun i _ hne => by unfold kC; rw [va_up_ne _ _ hne]
  by_cases q : pfx d mk = p
  · rw [if_pos q]
    rcases hk with ⟨a, b⟩ | ⟨a, b⟩ | ⟨a, b⟩
    · rcases hs2 with z | z
      · rw [if_pos z] at b
        rw [ctF_at n hi e (x := 0) (y := 1) (Or.inr ⟨fun w => by unfold kC at w; omega, rfl⟩) (Or.inl ⟨by unfold kC; rw [va_up_self, h4, e4, hs]; exact ⟨q, by omega⟩, rfl⟩)]
        omega
      · rw [if_neg (by omega)] at b
        rw [ctF_at n hi e (x := 0) (y := 0) (Or.inr ⟨fun w => by unfold kC at w; omega, rfl⟩) (Or.inr ⟨fun w => by unfold kC at w; rw [va_up_self, hs] at w; omega, rfl⟩)]
        omega
    · rw [ctF_at n hi e (x := 0) (y := 1) (Or.inr ⟨fun w => by unfold kC at w; omega, rfl⟩) (Or.inl ⟨by unfold kC; rw [va_up_self, h4, e4, hs]; exact ⟨q, by omega⟩, rfl⟩)]
      omega
    · rw [ctF_at n hi e (x := 1) (y := 0) (Or.inl ⟨by unfold kC; rw [e4, h0]; exact ⟨q, by omega⟩, rfl⟩) (Or.inr ⟨fun w => by unfold kC at w; rw [va_up_self, hs] at w; omega, rfl⟩)]
      omega
  · rw [if_neg q, Int.add_zero]
    refine (ctF_ext n (fun i hi2 => ?_)).symm
    by_cases z : i = i0
    · subst z
      unfold kC
      rw [va_up_self, h4, e4]
      exact ⟨fun w => absurd w.1 q, fun w => absurd w.1 q⟩
    · exact e i hi2 z
/-- a row that keeps marks and state: the counts stay -/
theorem ct_keep {V : Nat → Nat → Int} {n i0 : Nat} {R : Nat → Int} (h4 : R 4 = V i0 4) (h12 : R 12 = V i0 12) (k d : Nat) (p : Int) : ctF (kC (va_up V i0 R) k d p) n = ctF (kC V k d p) n := (ctF_ext n (fun i _ => by
  by_cases z : i = i0
  · subst z; unfold kC; rw [va_up_self, h4, h12]
  · unfold kC; rw [va_up_ne _ _ z])).symm
theorem tA.row {f : Nat → va_E} {g : Nat → Option Nat} {Nd : Nat → Int → Option Nat} {V : Nat → Nat → Int} {n i0 : Nat} {R : Nat → Int} (h : tA f g Nd V n) (h4 : R 4 = V i0 4) : tA f g Nd (va_up V i0 R) n := fun i hi b hb => by
  obtain ⟨lf, q1, q2⟩ := h i hi b hb
  refine ⟨lf, ?_, q2⟩
  by_cases z : i = i0
  · subst z; rw [va_up_self, h4]; exact q1
  · rw [va_up_ne _ _ z]; exact q1
theorem tA.more {f : Nat → va_E} {g g' : Nat → Option Nat} {Nd : Nat → Int → Option Nat} {V : Nat → Nat → Int} {n a lf : Nat} {R : Nat → Int} (h : tA f g Nd V n) (eg : g' = va_up g n (some a)) (hl : Nd 4 (R 4) = some lf) (hf : cqRf (f a) 6 = some lf) : tA f g' Nd (va_up V n R) (n + 1) := fun i hi b hb => by
  by_cases z : i = n
  · subst z
    rw [eg, va_up_self] at hb
    cases hb
    exact ⟨lf, by rw [va_up_self]; exact hl, hf⟩
  · rw [eg, va_up_ne _ _ z] at hb
    obtain ⟨l2, q1, q2⟩ := h i (by omega) b hb
    exact ⟨l2, by rw [va_up_ne _ _ z]; exact q1, q2⟩
section TO
variable {X : List (Nat × Nat)} {L : List Nat} {K : Nat → Nat × Nat} {f0 f f1 : Nat → va_E} {ro : Nat} {Nd : Nat → Int → Option Nat} {V : Nat → Nat → Int} {n : Nat} {mk dd x : Int} {b k : Nat}
theorem tO_step (hR : tR L K f0 ro Nd V n) (t : cqT X L K f0 f) (hX : (3, 0) ∉ X) (hat : 0 ≤ dd ∧ Nd dd.toNat (pfx dd.toNat mk) = some b) {pa : Option Nat} (hpa : cqRf (f b) 0 = pa) : (∀ b', pa = some b' → 0 ≤ dd - 1 ∧ Nd (dd - 1).toNat (pfx (dd - 1).toNat mk) = some b') ∧ (pa = none → dd - 1 = -1) := by
  have ib := (hR.2.1 _ _ b hat.2).2.1
  have e0 : cqRf (f0 b) 0 = pa := by rw [← hpa]; exact (cqRf_eq (t b ib.1 0 (by rw [ib.2]; exact hX))).symm
  refine ⟨fun b' hb => ?_, fun hb => ?_⟩
  · rw [hb] at e0
    obtain ⟨q1, q2⟩ := hR.par hat.2 e0
    refine ⟨by omega, ?_⟩
    rw [show (dd - 1).toNat = dd.toNat - 1 by omega]
    exact q2
  · rw [hb] at e0
    have := hR.top hat.2 e0
    omega
theorem tO_val (hR : tR L K f0 ro Nd V n) (hn : n ≤ 200) (hD : tD Nd mk dd f0 f k x) (hat : 0 ≤ dd ∧ Nd dd.toNat (pfx dd.toNat mk) = some b) (hk : 5 ≤ k ∧ k ≤ 7) : 0 ≤ cqF (f b) k ∧ cqF (f b) k ≤ 200 := by
  have h1 := hD _ _ b hat.2
  rw [if_neg (by omega)] at h1
  have h2 := (hR.2.1 _ _ b hat.2).2.2.2 k hk
  have h3 := ctF_rng (C := kC V k dd.toNat (pfx dd.toNat mk)) n
  omega
theorem tO_next (hR : tR L K f0 ro Nd V n) (hD : tD Nd mk dd f0 f k x) (hat : 0 ≤ dd ∧ Nd dd.toNat (pfx dd.toNat mk) = some b) (o : cqO b f f1) (hx : cqF (f1 b) k = cqF (f b) k + x) : tD Nd mk (dd - 1) f0 f1 k x := hD.step hR.2.2.2.2 (d0 := dd.toNat) (by omega) rfl hat.2 o hx
theorem cqU_put {c j a : Nat} {e : va_E} {fs : List Value} {v : Value} (ef : f1 = va_up f a e) (hf : f a = .inr (c, fs)) (he : e = .inr (c, fs.set j v)) : ∀ k, k ≠ j → cqU (f1 a) k = cqU (f a) k := fun k hk => by
  rw [ef, va_up_self, he, cqU_set hk, ← hf]
end TO
/-- no node, no alarm -/
def tE (Nd : Nat → Int → Option Nat) (V : Nat → Nat → Int) (n : Nat) : Prop := ∀ d p k, d ≤ 4 → Nd d p = none → ctF (kC V k d p) n = 0
def ndG (Nd Nd' : Nat → Int → Option Nat) : Prop := ∀ d p a, Nd d p = some a → Nd' d p = some a
theorem ndG.rf {Nd : Nat → Int → Option Nat} : ndG Nd Nd := fun _ _ _ h => h
theorem tE.new {Nd : Nat → Int → Option Nat} {V : Nat → Nat → Int} {n d q : Nat} {p : Int} (h : tE Nd V n) : tE (ndU Nd d p q) V n := fun d' p' k hd hx => by
  by_cases z : d' = d ∧ p' = p
  · rw [z.1, z.2, ndU_at] at hx; cases hx
  · rw [ndU_ne z] at hx; exact h d' p' k hd hx
theorem ndG.new {Nd0 Nd : Nat → Int → Option Nat} {d q : Nat} {p : Int} (h : ndG Nd0 Nd) (hn : Nd d p = none) : ndG Nd0 (ndU Nd d p q) := fun d' p' a hx => ndU_old hn (h d' p' a hx)
theorem tA.ndG {f : Nat → va_E} {g : Nat → Option Nat} {Nd Nd' : Nat → Int → Option Nat} {V : Nat → Nat → Int} {n : Nat} (h : tA f g Nd V n) (hg : ndG Nd Nd') : tA f g Nd' V n := fun i hi b hb => by
  obtain ⟨lf, q1, q2⟩ := h i hi b hb
  exact ⟨lf, hg _ _ _ q1, q2⟩
/-- the child that the mark of a depth names -/
theorem tch {L : List Nat} {K : Nat → Nat × Nat} {f : Nat → va_E} {ro : Nat} {Nd : Nat → Int → Option Nat} {V : Nat → Nat → Int} {n d : Nat} {m w : Int} {lc : List Nat} {r : Option Nat} (l3 : ∀ m : Int, 0 ≤ m → m < 8 → chF f m lc = Nd (d + 1) (8 * pfx d w + m)) (hd : d < 4) (hm : m = pfx (d + 1) w % 8) (hr : r = chF f m lc) : r = Nd (d + 1) (pfx (d + 1) w) := by
  rw [hr, l3 m (by omega) (by omega)]
  have h9 := pfx_up (d := d) (m := w) hd
  congr 1
  omega
theorem sc_fin {V : Nat → Nat → Int} {n : Nat} {le mk wo z up lo : Int} (hz : z = 1000 * wo * up / lo) (hu : (ctF (kC V 6 (dpF V n mk le 4) (pfx (dpF V n mk le 4) mk)) n = 0 ∧ up = 1) ∨ (¬ ctF (kC V 6 (dpF V n mk le 4) (pfx (dpF V n mk le 4) mk)) n = 0 ∧ up = ctF (kC V 5 (dpF V n mk le 4) (pfx (dpF V n mk le 4) mk)) n)) (hl : (ctF (kC V 6 (dpF V n mk le 4) (pfx (dpF V n mk le 4) mk)) n = 0 ∧ lo = 2) ∨ (¬ ctF (kC V 6 (dpF V n mk le 4) (pfx (dpF V n mk le 4) mk)) n = 0 ∧ lo = ctF (kC V 6 (dpF V n mk le 4) (pfx (dpF V n mk le 4) mk)) n)) : z = scX V n le mk wo := by
  unfold scX
  rcases hu with ⟨c, hu⟩ | ⟨c, hu⟩
  · rcases hl with ⟨c2, hl⟩ | ⟨c2, hl⟩
    · rw [if_pos c, hz, hu, hl]; omega
    · exact absurd c c2
  · rcases hl with ⟨c2, hl⟩ | ⟨c2, hl⟩
    · exact absurd c2 c
    · rw [if_neg c, hz, hu, hl]
/-- what node answers -/
def noOK (d m w : Int) : Prop := (0 ≤ d ∧ d ≤ 4) ∧ (0 ≤ m ∧ m < 4096) ∧ (0 ≤ w ∧ w ≤ 2)
noncomputable def noX (V : Nat → Nat → Int) (n : Nat) (d m w : Int) : Int := @ite _ (noOK d m w) (Classical.propDecidable _) (ctF (kC V (5 + w.toNat) d.toNat (pfx d.toNat m)) n) (-1)
theorem noX_no {V : Nat → Nat → Int} {n : Nat} {d m w : Int} (h : ¬ noOK d m w) : noX V n d m w = -1 := if_neg h
theorem noX_yes {V : Nat → Nat → Int} {n : Nat} {d m w : Int} (h : noOK d m w) {k : Nat} (hk : 5 + w.toNat = k) : noX V n d m w = ctF (kC V k d.toNat (pfx d.toNat m)) n := by
  subst hk
  exact if_pos h
/-- an alarm's odds -/
noncomputable def odU (c5 c6 c7 w : Int) : Int := if w < 2 then (if c6 = 0 then 1 else c5) else if w < 4 then c5 else c5 + c7
noncomputable def odL (c6 c7 w : Int) : Int := if w < 2 then (if c6 = 0 then 2 else c6) else c6 + c7
theorem emN {a b : Int} (ha : 0 ≤ a) (hb : 0 ≤ b) : (a % b).toNat = a.toNat % b.toNat := by
  obtain ⟨m, rfl⟩ := Int.eq_ofNat_of_zero_le ha
  obtain ⟨k, rfl⟩ := Int.eq_ofNat_of_zero_le hb
  rw [← Int.natCast_emod]
  rfl
def gcI (a b : Int) : Int := (Nat.gcd a.toNat b.toNat : Int)
theorem gcI_0 {a : Int} (h : 0 ≤ a) : gcI a 0 = a := by
  unfold gcI
  show ((Nat.gcd a.toNat 0 : Nat) : Int) = a
  rw [Nat.gcd_zero_right]; omega
theorem gcI_step {a b : Int} (ha : 0 ≤ a) (hb : 0 < b) : gcI a b = gcI b (a % b) := by
  unfold gcI
  have e : (a % b).toNat = a.toNat % b.toNat := emN ha (by omega)
  rw [e, Nat.gcd_comm, Nat.gcd_rec, Nat.gcd_comm]
theorem gcI_comm {a b : Int} : gcI a b = gcI b a := by unfold gcI; rw [Nat.gcd_comm]
theorem gcI_pos {a b : Int} (h : 0 < a) : 0 < gcI a b := by
  unfold gcI
  have := Nat.gcd_pos_of_pos_left b.toNat (show 0 < a.toNat by omega)
  omega
/-- one turn of Euclid's way: the product falls to a half -/
theorem eu_step {c r : Nat} (hr : 0 < r) (hc : r ≤ c) : 2 * (r * (c % r)) ≤ c * r := by
  have h1 := Nat.mod_lt c hr
  have h2 : c = r * (c / r) + c % r := (Nat.div_add_mod c r).symm
  have h3 : 1 ≤ c / r := (Nat.one_le_div_iff hr).mpr hc
  have h4 : r * 1 ≤ r * (c / r) := Nat.mul_le_mul_left r h3
  have h5 : 2 * (c % r) ≤ c := by omega
  calc 2 * (r * (c % r)) = r * (2 * (c % r)) := by rw [Nat.mul_left_comm]
    _ ≤ r * c := Nat.mul_le_mul_left r h5
    _ = c * r := Nat.mul_comm r c
def euI (g c r k : Int) : Prop := gcI c r = g ∧ 0 ≤ r ∧ r ≤ c ∧ 1 ≤ c ∧ c ≤ 400 ∧ c.toNat * r.toNat * 2 ^ k.toNat ≤ 160000
theorem euI.start {u l : Int} (hu : 0 ≤ u) (hl : u ≤ l) (h1 : 1 ≤ l) (h4 : l ≤ 400) : euI (gcI l u) l u 0 := by
  refine ⟨rfl, hu, hl, h1, h4, ?_⟩
  show l.toNat * u.toNat * 1 ≤ 160000
  have := Nat.mul_le_mul (show l.toNat ≤ 400 by omega) (show u.toNat ≤ 400 by omega)
  omega
theorem euI.next {g c r k k' : Int} (h : euI g c r k) (hr : 0 < r) (hk : 0 ≤ k) (e : k' = k + 1) : euI g r (c % r) k' := by
  obtain ⟨h1, h2, h3, h4, h5, h6⟩ := h
  have m0 := Int.emod_nonneg c (show r ≠ 0 by omega)
  have m1 := Int.emod_lt_of_pos c hr
  have en : (c % r).toNat = c.toNat % r.toNat := emN (by omega) (by omega)
  refine ⟨by rw [← h1]; exact (gcI_step (by omega) hr).symm, m0, by omega, by omega, by omega, ?_⟩
  rw [en, show k'.toNat = k.toNat + 1 by omega, Nat.pow_succ]
  have h7 := eu_step (c := c.toNat) (r := r.toNat) (by omega) (by omega)
  calc r.toNat * (c.toNat % r.toNat) * (2 ^ k.toNat * 2) = 2 * (r.toNat * (c.toNat % r.toNat)) * 2 ^ k.toNat := by rw [Nat.mul_comm (2 ^ k.toNat) 2, ← Nat.mul_assoc, Nat.mul_comm _ 2]
    _ ≤ c.toNat * r.toNat * 2 ^ k.toNat := Nat.mul_le_mul_right _ h7
    _ ≤ 160000 := h6
theorem euI.stop {g c r k : Int} (h : euI g c r k) (hs : r ≤ 0 ∨ 100 ≤ k) : c = g := by
  obtain ⟨h1, h2, h3, h4, h5, h6⟩ := h
  have hr : r = 0 := by
    by_cases q : r ≤ 0
    · omega
    · exfalso
      have hk : 100 ≤ k := hs.resolve_left q
      have h7 : 1 * 1 ≤ c.toNat * r.toNat := Nat.mul_le_mul (by omega) (by omega)
      have h8 : 2 ^ 100 ≤ 2 ^ k.toNat := Nat.pow_le_pow_right (by decide) (by omega)
      have h9 : 1 * 2 ^ 100 ≤ c.toNat * r.toNat * 2 ^ k.toNat := Nat.mul_le_mul (by omega) h8
      have h10 : (160000 : Nat) < 1 * 2 ^ 100 := by decide
      omega
  rw [← h1, hr, gcI_0 (by omega)]
theorem rm_eq {x y z : Int32} (e : z = x - x / y * y) (hx : 0 ≤ x.toInt) (hy : 0 < y.toInt) : z.toInt = x.toInt % y.toInt := by
  have nn : ∀ {x : Int32}, 0 ≤ x.toInt → ∃ j : Nat, j < 2 ^ 31 ∧ x = nI j := fun {x} hx => nI_of (fun z => by have := Int32.lt_iff_toInt_lt.mp z; have h3 : (0 : Int32).toInt = 0 := rfl; omega)
  obtain ⟨a, a1, a2⟩ := nn hx
  obtain ⟨b, b1, b2⟩ := nn (x := y) (by omega)
  rw [b2, nI_toInt b1] at hy
  have hm := Nat.mod_lt a (show 0 < b by omega)
  rw [e, a2, b2, pk_rem a1 (by omega) b1, nI_toInt (by omega), nI_toInt a1, nI_toInt b1, Int.natCast_emod]
theorem dv_eq {x y z : Int32} (e : z = x / y) (hx : 0 ≤ x.toInt) (hy : 0 < y.toInt) : z.toInt = x.toInt / y.toInt := by
  have nn : ∀ {x : Int32}, 0 ≤ x.toInt → ∃ j : Nat, j < 2 ^ 31 ∧ x = nI j := fun {x} hx => nI_of (fun z => by have := Int32.lt_iff_toInt_lt.mp z; have h3 : (0 : Int32).toInt = 0 := rfl; omega)
  obtain ⟨a, a1, a2⟩ := nn hx
  obtain ⟨b, b1, b2⟩ := nn (x := y) (by omega)
  rw [b2, nI_toInt b1] at hy
  have hm := Nat.div_le_self a b
  rw [e, a2, b2, pk_div a1 (by omega) b1, nI_toInt (by omega), nI_toInt a1, nI_toInt b1, Int.natCast_ediv]
/-- an alarm's counts, and what odds answers -/
noncomputable def odC (V : Nat → Nat → Int) (n : Nat) (le mk : Int) (k : Nat) : Int := ctF (kC V k (dpF V n mk le 4) (pfx (dpF V n mk le 4) mk)) n
def odOK (na a w : Int) : Prop := (0 ≤ a ∧ a < na) ∧ (0 ≤ w ∧ w ≤ 5)
noncomputable def odX (V : Nat → Nat → Int) (na le a w : Int) : Int := @ite _ (odOK na a w) (Classical.propDecidable _) ((if w % 2 = 0 then odU (odC V na.toNat le (V a.toNat 4) 5) (odC V na.toNat le (V a.toNat 4) 6) (odC V na.toNat le (V a.toNat 4) 7) w else odL (odC V na.toNat le (V a.toNat 4) 6) (odC V na.toNat le (V a.toNat 4) 7) w) / gcI (odL (odC V na.toNat le (V a.toNat 4) 6) (odC V na.toNat le (V a.toNat 4) 7) w) (odU (odC V na.toNat le (V a.toNat 4) 5) (odC V na.toNat le (V a.toNat 4) 6) (odC V na.toNat le (V a.toNat 4) 7) w)) (-1)
theorem odX_no {V : Nat → Nat → Int} {na le a w : Int} (h : ¬ odOK na a w) : odX V na le a w = -1 := if_neg h
theorem odX_yes {V : Nat → Nat → Int} {na le a w c5 c6 c7 x u l r : Int} (h : odOK na a w) (h5 : c5 = odC V na.toNat le (V a.toNat 4) 5) (h6 : c6 = odC V na.toNat le (V a.toNat 4) 6) (h7 : c7 = odC V na.toNat le (V a.toNat 4) 7) (hu : u = odU c5 c6 c7 w) (hl : l = odL c6 c7 w) (hx : (w % 2 = 0 ∧ x = u) ∨ (¬ w % 2 = 0 ∧ x = l)) (hr : r = x / gcI l u) : r = odX V na le a w := by
  have e : odX V na le a w = (if w % 2 = 0 then odU (odC V na.toNat le (V a.toNat 4) 5) (odC V na.toNat le (V a.toNat 4) 6) (odC V na.toNat le (V a.toNat 4) 7) w else odL (odC V na.toNat le (V a.toNat 4) 6) (odC V na.toNat le (V a.toNat 4) 7) w) / gcI (odL (odC V na.toNat le (V a.toNat 4) 6) (odC V na.toNat le (V a.toNat 4) 7) w) (odU (odC V na.toNat le (V a.toNat 4) 5) (odC V na.toNat le (V a.toNat 4) 6) (odC V na.toNat le (V a.toNat 4) 7) w) := if_pos h
  rw [e, ← h5, ← h6, ← h7, ← hu, ← hl, hr]
  rcases hx with ⟨c, hx⟩ | ⟨c, hx⟩
  · rw [if_pos c, hx]
  · rw [if_neg c, hx]
theorem tA_lf {f : Nat → va_E} {g : Nat → Option Nat} {Nd : Nat → Int → Option Nat} {V : Nat → Nat → Int} {n i b : Nat} {N : Int} (hA : tA f g Nd V n) (hV : cqV f g N V) (hi : i < n) (hN : (i : Int) < N) (hb : g i = some b) : Nd 4 (cqF (f b) 4) = cqRf (f b) 6 := by
  obtain ⟨lf, q1, q2⟩ := hA i hi b hb
  rw [hV i hN b hb 4 (by decide), q1, q2]
theorem ctF_mono {C C' : Nat → Prop} (n : Nat) (h : ∀ i, i < n → C i → C' i) : ctF C n ≤ ctF C' n := by
  induction n with
  | zero => exact Int.le_refl _
  | succ n ih =>
    have e := ih (fun i hi => h i (by omega))
    by_cases q : C n
    · rw [ctF_hit q, ctF_hit (h n (by omega) q)]; omega
    · by_cases q2 : C' n
      · rw [ctF_skip q, ctF_hit q2]; omega
      · rw [ctF_skip q, ctF_skip q2]; exact e
theorem ctF_pos {C : Nat → Prop} {i : Nat} (n : Nat) (hi : i < n) (h : C i) : 1 ≤ ctF C n := by
  induction n with
  | zero => omega
  | succ n ih =>
    by_cases q : i = n
    · subst q; rw [ctF_hit h]; have := ctF_rng (C := C) i; omega
    · have e := ih (by omega)
      by_cases q2 : C n
      · rw [ctF_hit q2]; omega
      · rw [ctF_skip q2]; exact e
theorem odC_56 {V : Nat → Nat → Int} {n : Nat} {le mk : Int} : odC V n le mk 5 ≤ odC V n le mk 6 := ctF_mono n (fun i _ h => ⟨h.1, Or.inr (Or.inl ⟨rfl, by have := h.2; omega⟩)⟩)
theorem odC_67 {V : Nat → Nat → Int} {n i : Nat} {le : Int} (hi : i < n) : 1 ≤ odC V n le (V i 4) 6 + odC V n le (V i 4) 7 := by
  unfold odC
  have r6 := ctF_rng (C := kC V 6 (dpF V n (V i 4) le 4) (pfx (dpF V n (V i 4) le 4) (V i 4))) n
  have r7 := ctF_rng (C := kC V 7 (dpF V n (V i 4) le 4) (pfx (dpF V n (V i 4) le 4) (V i 4))) n
  by_cases q : V i 12 = 0
  · have := ctF_pos (C := kC V 7 (dpF V n (V i 4) le 4) (pfx (dpF V n (V i 4) le 4) (V i 4))) n hi ⟨rfl, Or.inr (Or.inr ⟨rfl, q⟩)⟩
    omega
  · have := ctF_pos (C := kC V 6 (dpF V n (V i 4) le 4) (pfx (dpF V n (V i 4) le 4) (V i 4))) n hi ⟨rfl, Or.inr (Or.inl ⟨rfl, q⟩)⟩
    omega
