theorem rm_toInt {x y z : Int32} (e : z = x - x / y * y) (hx : 0 ≤ x.toInt) (hy : 0 < y.toInt) : 0 ≤ z.toInt ∧ z.toInt < y.toInt := by
  have h3 : (0 : Int32).toInt = 0 := by decide
  have hn : ¬ x < 0 := fun q => by
    have h2 := Int32.lt_iff_toInt_lt.mp q
    omega
  have hm : ¬ y < 0 := fun q => by
    have h2 := Int32.lt_iff_toInt_lt.mp q
    omega
  obtain ⟨a, ha, rfl⟩ := nI_of hn
  obtain ⟨d, hd, rfl⟩ := nI_of hm
  rw [nI_toInt hd] at hy
  have hd0 : 0 < d := by omega
  have hl := Nat.mod_lt a hd0
  rw [e, pk_rem ha hd0 hd, nI_toInt (by omega), nI_toInt hd]
  omega
