theorem ctM {C : Nat → Prop} {x x' : Int} {k k' : Int32} (h : x = ctF C k.toNatClampNeg) (hk : k'.toNatClampNeg = k.toNatClampNeg + 1) (hc : (C k.toNatClampNeg ∧ x' = x + 1) ∨ (¬ C k.toNatClampNeg ∧ x' = x)) : x' = ctF C k'.toNatClampNeg := by
  rw [hk]
  rcases hc with ⟨q, e⟩ | ⟨q, e⟩
  · rw [ctF_hit q, e, h]
  · rw [ctF_skip q, e, h]
theorem or_rng {x y z : Int32} (e : z = x ||| y) (hx : 0 ≤ x.toInt ∧ x.toInt < 1024) (hy : 0 ≤ y.toInt ∧ y.toInt < 1024) : 0 ≤ z.toInt ∧ z.toInt < 1024 := by
  have nn : ∀ {u : Int32}, 0 ≤ u.toInt ∧ u.toInt < 1024 → ∃ l : Nat, l < 1024 ∧ u = nI l := fun {u} hu => by
    refine ⟨u.toInt.toNat, by omega, ?_⟩
    apply Int32.toInt_inj.mp
    rw [nI_toInt (by omega)]
    omega
  obtain ⟨i, hi, ei⟩ := nn hx
  obtain ⟨j, hj, ej⟩ := nn hy
  rw [e, ei, ej, fa_or]
  have b : i ||| j < 2 ^ 10 := Nat.or_lt_two_pow (by omega) (by omega)
  have b : i ||| j < 1024 := b
  rw [nI_toInt (by omega)]
  omega
theorem vd_of {x y z r : Int32} {a b : Int} (e : z = x ||| y) (hx : x.toInt = a) (hy : y.toInt = b) (ha : 0 ≤ a ∧ a < 1024) (hb : 0 ≤ b ∧ b < 1024) (h : (0 ≤ z.toInt ∧ z.toInt < 1024) → r.toInt = (popF 10 z.toInt.toNat : Int)) : r.toInt = vdI a b := by
  have hz := or_rng e (by rw [hx]; exact ha) (by rw [hy]; exact hb)
  rw [h hz, ← bcI_pop hz, ← hx, ← hy]
  unfold vdI
  rw [Int32.ofInt_toInt, Int32.ofInt_toInt, ← e]
theorem cnX_of {g : Nat → Int32} {V Y : Nat → Nat → Int} {n nt i : Nat} {c : Nat → Nat} (h : cnM g V n c n) (hl : Lab (lvN V n) (hgE V Y n nt) c) (hi : i < n) : (g i).toInt = cnX V Y n nt i := by
  unfold cnX
  rcases h i hi with ⟨l, e⟩ | ⟨l, e⟩
  · rw [if_pos l, e]
    exact congrArg Int.ofNat (cnF_of hl l)
  · rw [if_neg l, e]
/-- where the insertion stops -/
def stQ (s : Nat → Int) (o : Nat → Nat) (k : Nat) (x : Int) : Prop := k = 0 ∨ ∃ k', k = k' + 1 ∧ ¬ s (o k') < x
