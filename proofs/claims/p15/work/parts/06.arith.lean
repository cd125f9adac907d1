theorem bm32 {x : Int} (h : -2147483648 ≤ x ∧ x ≤ 2147483647) : x.bmod (2 ^ 32) = x := Int.bmod_eq_of_le_mul_two (by omega) (by omega)
theorem ad_toInt {x y z : Int32} {zx zy : Int} (e : z = x + y) (hx : x.toInt = zx) (hy : y.toInt = zy) : (-2147483648 ≤ zx + zy ∧ zx + zy ≤ 2147483647) → z.toInt = zx + zy := by
  intro h
  subst hx; subst hy
  rw [e, Int32.toInt_add]; exact bm32 h
theorem sb_toInt {x y z : Int32} {zx zy : Int} (e : z = x - y) (hx : x.toInt = zx) (hy : y.toInt = zy) : (-2147483648 ≤ zx - zy ∧ zx - zy ≤ 2147483647) → z.toInt = zx - zy := by
  intro h
  subst hx; subst hy
  rw [e, Int32.toInt_sub]; exact bm32 h
theorem ml_toInt {x y z : Int32} {zx zy : Int} (e : z = x * y) (hx : x.toInt = zx) (hy : y.toInt = zy) : (-2147483648 ≤ zx * zy ∧ zx * zy ≤ 2147483647) → z.toInt = zx * zy := by
  intro h
  subst hx; subst hy
  rw [e, Int32.toInt_mul]; exact bm32 h
theorem sh1_toInt {x z : Int32} (e : z = x >>> ((1 : Int32) &&& 31)) : 0 < x.toInt → 0 ≤ z.toInt ∧ z.toInt < x.toInt := by
  intro h
  have h1 := pk_shr x ((1 : Int32) &&& 31) 1 (by decide)
  rw [e, h1, Int.shiftRight_eq_div_pow]
  omega
theorem an1_toInt {x z : Int32} (e : z = x &&& 1) : 0 ≤ z.toInt ∧ z.toInt ≤ 1 := by
  obtain ⟨j, hj, ej⟩ := pk_andE x (m := 1) 1 (by decide)
  rw [e, ej, nI_toInt (by omega)]
  omega
theorem mx_toInt {x y z : Int32} {zx zy : Int} (e : z = if x < y then y else x) (hx : x.toInt = zx) (hy : y.toInt = zy) : zx ≤ z.toInt ∧ zy ≤ z.toInt ∧ (z.toInt = zx ∨ z.toInt = zy) := by
  subst hx; subst hy
  by_cases q : x < y
  · rw [if_pos q] at e
    have h2 := Int32.lt_iff_toInt_lt.mp q
    rw [e]; omega
  · rw [if_neg q] at e
    have h2 : ¬ x.toInt < y.toInt := fun a => q (Int32.lt_iff_toInt_lt.mpr a)
    rw [e]; omega
theorem mn_toInt {x y z : Int32} {zx zy : Int} (e : z = if y < x then y else x) (hx : x.toInt = zx) (hy : y.toInt = zy) : z.toInt ≤ zx ∧ z.toInt ≤ zy ∧ (z.toInt = zx ∨ z.toInt = zy) := by
  subst hx; subst hy
  by_cases q : y < x
  · rw [if_pos q] at e
    have h2 := Int32.lt_iff_toInt_lt.mp q
    rw [e]; omega
  · rw [if_neg q] at e
    have h2 : ¬ y.toInt < x.toInt := fun a => q (Int32.lt_iff_toInt_lt.mpr a)
    rw [e]; omega
theorem ne0_of {y : Int32} {zy : Int} (h : zy ≠ 0) (hy : y.toInt = zy) : ¬ y = 0 := by
  intro q
  rw [q] at hy
  have h3 : (0 : Int32).toInt = 0 := by decide
  omega
theorem nar_zb {f : Nat → Int32} {z : Int32} {k : Nat} (e : z = f k) (h : ∀ k : Nat, f k = 0 ∨ f k = 1) : narrow .boolean (.int z) = .int z := by
  rcases h k with q | q <;> rw [e, q] <;> rfl
theorem zb_or {f : Nat → Int32} {z : Int32} {k : Nat} (e : z = f k) (h : ∀ k : Nat, f k = 0 ∨ f k = 1) : (True ∧ z = 1) ∨ (True ∧ z = 0) := by
  rcases h k with q | q
  · exact Or.inr ⟨trivial, e.trans q⟩
  · exact Or.inl ⟨trivial, e.trans q⟩
/-- the first n places hold numbers from 0 to below m -/
def gqR (g : Nat → Int32) (n m : Int32) : Prop := ∀ j : Nat, (j : Int) < n.toInt → 0 ≤ (g j).toInt ∧ (g j).toInt < m.toInt
/-- the first n + 1 places but the k-th hold numbers from 0 to below m -/
def gqX (g : Nat → Int32) (n k m : Int32) : Prop := ∀ j : Nat, (j : Int) ≤ n.toInt → (j : Int) ≠ k.toInt → 0 ≤ (g j).toInt ∧ (g j).toInt < m.toInt
theorem gqCl {i : Int32} (h : 0 ≤ i.toInt) : ((i.toNatClampNeg : Nat) : Int) = i.toInt := Int.toNat_of_nonneg h
theorem gqR_get {g : Nat → Int32} {n m i z : Int32} (h : gqR g n m) (e : z = g i.toNatClampNeg) (h0 : 0 ≤ i.toInt) (h1 : i.toInt < n.toInt) : 0 ≤ z.toInt ∧ z.toInt < m.toInt := by
  rw [e]; exact h _ (by rw [gqCl h0]; exact h1)
theorem gqX_get {g : Nat → Int32} {n k m i z : Int32} (h : gqX g n k m) (e : z = g i.toNatClampNeg) (h0 : 0 ≤ i.toInt) (h1 : i.toInt ≤ n.toInt) (h2 : i.toInt ≠ k.toInt) : 0 ≤ z.toInt ∧ z.toInt < m.toInt := by
  rw [e]; exact h _ (by rw [gqCl h0]; exact h1) (by rw [gqCl h0]; exact h2)
theorem gqR_0 {g : Nat → Int32} {n m : Int32} (h : n.toInt ≤ 0) : gqR g n m := fun j hj => by omega
theorem gqR_X {g : Nat → Int32} {n k m : Int32} (h : gqR g n m) (hk : k.toInt = n.toInt) : gqX g n k m := fun j h1 h2 => h j (by omega)
theorem gqX_shift {g g' : Nat → Int32} {n k k' m z : Int32} (h : gqX g n k m) (e : g' = upd g k.toNatClampNeg z) (hz : 0 ≤ z.toInt ∧ z.toInt < m.toInt) (h0 : 0 ≤ k.toInt) (hk : k'.toInt = k.toInt - 1) : gqX g' n k' m := by
  intro j h1 h2
  rw [e]
  by_cases q : j = k.toNatClampNeg
  · rw [q, pk_us]; exact hz
  · rw [pk_un q]
    exact h j h1 (fun a => q (by have := gqCl h0; omega))
theorem gqX_fill {g g' : Nat → Int32} {n n' k m z : Int32} (h : gqX g n k m) (e : g' = upd g k.toNatClampNeg z) (hz : 0 ≤ z.toInt ∧ z.toInt < m.toInt) (h0 : 0 ≤ k.toInt) (hn : n'.toInt = n.toInt + 1) : gqR g' n' m := by
  intro j h1
  rw [e]
  by_cases q : j = k.toNatClampNeg
  · rw [q, pk_us]; exact hz
  · rw [pk_un q]
    exact h j (by omega) (fun a => q (by have := gqCl h0; omega))
