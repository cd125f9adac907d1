/-- the alarms as a table: field k of alarm i -/
def cqV (f : Nat → va_E) (g : Nat → Option Nat) (n : Int) (V : Nat → Nat → Int) : Prop := ∀ i : Nat, (i : Int) < n → ∀ b, g i = some b → ∀ k, k < 15 → cqF (f b) k = V i k
/-- alarm i is repeated by an alarm of source so, thing th and marks ma at nw -/
def rpC (V : Nat → Nat → Int) (so th ma nw : Int) (i : Nat) : Prop := V i 2 = so ∧ V i 3 = th ∧ V i 4 = ma ∧ V i 12 = 0 ∧ V i 8 = 0 ∧ V i 9 = 0 ∧ nw - V i 10 ≤ 10
noncomputable def rpF (V : Nat → Nat → Int) (so th ma nw : Int) : Nat → Option Nat
  | 0 => none
  | i + 1 => @ite _ (rpC V so th ma nw i) (Classical.propDecidable _) (some i) (rpF V so th ma nw i)
theorem rpF_hit {V : Nat → Nat → Int} {so th ma nw : Int} {i : Nat} (h : rpC V so th ma nw i) : rpF V so th ma nw (i + 1) = some i := if_pos h
theorem rpF_skip {V : Nat → Nat → Int} {so th ma nw : Int} {i : Nat} (h : ¬ rpC V so th ma nw i) : rpF V so th ma nw (i + 1) = rpF V so th ma nw i := if_neg h
theorem rpF_0 {V : Nat → Nat → Int} {so th ma nw : Int} : rpF V so th ma nw 0 = none := rfl
/-- one turn: place k holds no repeat -/
theorem rpF_down {V : Nat → Nat → Int} {so th ma nw : Int} {k k' : Int32} {r : Option Nat} (e : r = rpF V so th ma nw (k.toInt + 1).toNat) (h0 : 0 ≤ k.toInt) (hk : k'.toInt = k.toInt - 1) (h : ¬ rpC V so th ma nw k.toNatClampNeg) : r = rpF V so th ma nw (k'.toInt + 1).toNat := by
  have h1 := tnc_eq h0
  rw [e, show (k.toInt + 1).toNat = k.toNatClampNeg + 1 by omega, rpF_skip h, show (k'.toInt + 1).toNat = k.toNatClampNeg by omega]
theorem rpF_found {V : Nat → Nat → Int} {so th ma nw : Int} {k : Int32} {r : Option Nat} (e : r = rpF V so th ma nw (k.toInt + 1).toNat) (h0 : 0 ≤ k.toInt) (h : rpC V so th ma nw k.toNatClampNeg) : r = some k.toNatClampNeg := by
  have h1 := tnc_eq h0
  rw [e, show (k.toInt + 1).toNat = k.toNatClampNeg + 1 by omega, rpF_hit h]
theorem rpF_end {V : Nat → Nat → Int} {so th ma nw : Int} {k : Int32} {r : Option Nat} (e : r = rpF V so th ma nw (k.toInt + 1).toNat) (h0 : k.toInt < 0) : r = none := by
  rw [e, show (k.toInt + 1).toNat = 0 by omega, rpF_0]
/-- the silences as a table -/
def cqW (f : Nat → va_E) (g : Nat → Option Nat) (n : Int) (V : Nat → Nat → Int) : Prop := ∀ i : Nat, (i : Int) < n → ∀ b, g i = some b → ∀ k, k < 3 → cqF (f b) k = V i k
def siC (V : Nat → Nat → Int) (so nw : Int) (i : Nat) : Prop := V i 0 = so ∧ V i 1 ≤ nw ∧ nw ≤ V i 2
/-- alarm i counts for the cap -/
def cpC (V : Nat → Nat → Int) (so nw : Int) (i : Nat) : Prop := V i 2 = so ∧ V i 8 = 0 ∧ V i 9 = 0 ∧ nw - V i 1 ≤ 9
noncomputable def cpF (V : Nat → Nat → Int) (so nw : Int) : Nat → Int
  | 0 => 0
  | i + 1 => cpF V so nw i + @ite _ (cpC V so nw i) (Classical.propDecidable _) 1 0
theorem cpF_hit {V : Nat → Nat → Int} {so nw : Int} {i : Nat} (h : cpC V so nw i) : cpF V so nw (i + 1) = cpF V so nw i + 1 := by
  show cpF V so nw i + @ite _ (cpC V so nw i) (Classical.propDecidable _) 1 0 = _
  rw [if_pos h]
theorem cpF_skip {V : Nat → Nat → Int} {so nw : Int} {i : Nat} (h : ¬ cpC V so nw i) : cpF V so nw (i + 1) = cpF V so nw i := by
  show cpF V so nw i + @ite _ (cpC V so nw i) (Classical.propDecidable _) 1 0 = _
  rw [if_neg h]; omega
theorem cpF_rng {V : Nat → Nat → Int} {so nw : Int} (n : Nat) : 0 ≤ cpF V so nw n ∧ cpF V so nw n ≤ n := by
  induction n with
  | zero => exact ⟨Int.le_refl _, Int.le_refl _⟩
  | succ n ih =>
    by_cases h : cpC V so nw n
    · rw [cpF_hit h]; omega
    · rw [cpF_skip h]; omega
/-- alarms came in their order: where one is too old, all before it are -/
theorem cpF_old {V : Nat → Nat → Int} {so nw : Int} (n : Nat) (h : ∀ i, i < n → ¬ nw - V i 1 ≤ 9) : cpF V so nw n = 0 := by
  induction n with
  | zero => rfl
  | succ n ih =>
    rw [cpF_skip (fun q => h n (Nat.lt_succ_self n) q.2.2.2)]
    exact ih (fun i hi => h i (Nat.lt_succ_of_lt hi))
theorem cpF_dnH {V : Nat → Nat → Int} {so nw : Int} {k k' : Int32} {u u' c : Int} (e : u + cpF V so nw (k.toInt + 1).toNat = c) (h0 : 0 ≤ k.toInt) (hk : k'.toInt = k.toInt - 1) (hu : u' = u + 1) (h : cpC V so nw k.toNatClampNeg) : u' + cpF V so nw (k'.toInt + 1).toNat = c := by
  have h1 := tnc_eq h0
  rw [show (k.toInt + 1).toNat = k.toNatClampNeg + 1 by omega, cpF_hit h] at e
  rw [show (k'.toInt + 1).toNat = k.toNatClampNeg by omega]
  omega
theorem cpF_dnS {V : Nat → Nat → Int} {so nw : Int} {k k' : Int32} {u c : Int} (e : u + cpF V so nw (k.toInt + 1).toNat = c) (h0 : 0 ≤ k.toInt) (hk : k'.toInt = k.toInt - 1) (h : ¬ cpC V so nw k.toNatClampNeg) : u + cpF V so nw (k'.toInt + 1).toNat = c := by
  have h1 := tnc_eq h0
  rw [show (k.toInt + 1).toNat = k.toNatClampNeg + 1 by omega, cpF_skip h] at e
  rw [show (k'.toInt + 1).toNat = k.toNatClampNeg by omega]
  omega
theorem cpF_stop {V : Nat → Nat → Int} {so nw : Int} {k : Int32} {u c n : Int} (e : u + cpF V so nw (k.toInt + 1).toNat = c) (hm : ∀ i j : Nat, i ≤ j → (j : Int) < n → V i 1 ≤ V j 1) (hn : k.toInt < n) (h : k.toInt < 0 ∨ (0 ≤ k.toInt ∧ ¬ nw - V k.toNatClampNeg 1 ≤ 9)) : u = c := by
  rcases h with h | ⟨h0, h⟩
  · rw [show (k.toInt + 1).toNat = 0 by omega] at e
    have : cpF V so nw 0 = 0 := rfl
    omega
  · have h1 := tnc_eq h0
    rw [show (k.toInt + 1).toNat = k.toNatClampNeg + 1 by omega, cpF_old _ (fun i hi => ?_)] at e
    · omega
    · have := hm i k.toNatClampNeg (by omega) (by omega)
      omega
