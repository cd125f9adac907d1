theorem nI_or2 {a k : Nat} (b : Nat) (h : a < 2 ^ k) : nI (2 ^ k * b) ||| nI a = nI (2 ^ k * b + a) := by
  rw [fa_or]
  exact congrArg nI (Nat.two_pow_add_eq_or_of_lt h b).symm
theorem nI_and1 (n : Nat) : nI n &&& (1 : Int32) = nI (n % 2) := by
  apply Int32.toBitVec_inj.1
  show BitVec.ofNat 32 n &&& 1#32 = BitVec.ofNat 32 (n % 2)
  apply BitVec.eq_of_toNat_eq
  rw [BitVec.toNat_and]
  show (n % 2 ^ 32) &&& 1 = (n % 2) % 2 ^ 32
  rw [Nat.and_one_is_mod]
  omega
theorem nI_x {x : Int32} (h : 0 ≤ x.toInt) : x = nI x.toInt.toNat := by
  have b := Int32.toInt_lt x
  apply Int32.toInt_inj.mp
  rw [nI_toInt (by omega)]
  omega
theorem sm12 (k : Fin 13) : ((nI k.val &&& 31).toBitVec.smod 32).toNat = k.val := by revert k; decide +kernel
theorem kx12 {k : Int32} (hk : 0 ≤ k.toInt ∧ k.toInt < 13) : ((k &&& 31).toBitVec.smod 32).toNat = k.toInt.toNat := by
  have e := nI_x hk.1
  have h := sm12 ⟨k.toInt.toNat, by omega⟩
  rw [← show k = nI (⟨k.toInt.toNat, by omega⟩ : Fin 13).val from e] at h
  exact h
/-- a bit of a set -/
theorem bt_of {x k z y : Int32} (e1 : z = x >>> (k &&& 31)) (e2 : y = z &&& 1) (hk : 0 ≤ k.toInt ∧ k.toInt < 13) (hx : 0 ≤ x.toInt) : y.toInt = ((x.toInt.toNat / 2 ^ k.toInt.toNat % 2 : Nat) : Int) := by
  have b := Int32.toInt_lt x
  have hz : z = nI (x.toInt.toNat / 2 ^ k.toInt.toNat) := by
    rw [e1]
    have h := pk_shrN (n := x.toInt.toNat) (by omega) (k &&& 31) k.toInt.toNat (kx12 hk)
    rw [← nI_x hx] at h
    exact h
  have e3 : y = nI (x.toInt.toNat / 2 ^ k.toInt.toNat % 2) := by rw [e2, hz, nI_and1]
  rw [e3]
  exact nI_toInt (by omega)
theorem sh_of {k z : Int32} (e : z = (1 : Int32) <<< (k &&& 31)) (hk : 0 ≤ k.toInt ∧ k.toInt < 13) : z = nI (2 ^ k.toInt.toNat) := by
  have p : 2 ^ k.toInt.toNat ≤ 2 ^ 12 := Nat.pow_le_pow_right (by decide) (by omega)
  have h := pk_shlN (n := 1) (k &&& 31) k.toInt.toNat (kx12 hk) (by omega)
  rw [e, show (1 : Int32) = nI 1 from rfl, h, Nat.one_mul]
/-- one more bit: above all, or below all -/
theorem or_up {x k z y : Int32} (e1 : z = (1 : Int32) <<< (k &&& 31)) (e2 : y = x ||| z) (hk : 0 ≤ k.toInt ∧ k.toInt < 13) (hx : 0 ≤ x.toInt) (hl : x.toInt.toNat < 2 ^ k.toInt.toNat) : 0 ≤ y.toInt ∧ y.toInt.toNat = x.toInt.toNat + 2 ^ k.toInt.toNat := by
  have p : 2 ^ k.toInt.toNat ≤ 2 ^ 12 := Nat.pow_le_pow_right (by decide) (by omega)
  have h := nI_or2 (a := x.toInt.toNat) (k := k.toInt.toNat) 1 hl
  rw [Nat.mul_one] at h
  have e : y = nI (2 ^ k.toInt.toNat + x.toInt.toNat) := by
    rw [e2, sh_of e1 hk, ← h, Int32.or_comm]
    rw [← nI_x hx]
  have pp := Nat.two_pow_pos k.toInt.toNat
  rw [e, nI_toInt (by omega)]
  omega
theorem or_dn {x k z y : Int32} {a : Nat} (e1 : z = (1 : Int32) <<< (k &&& 31)) (e2 : y = x ||| z) (hk : 0 ≤ k.toInt ∧ k.toInt < 13) (hx : 0 ≤ x.toInt) (ha : x.toInt.toNat = 2 ^ (k.toInt.toNat + 1) * a) (hb : x.toInt.toNat < 4096) : 0 ≤ y.toInt ∧ y.toInt.toNat = x.toInt.toNat + 2 ^ k.toInt.toNat := by
  have p : 2 ^ k.toInt.toNat ≤ 2 ^ 12 := Nat.pow_le_pow_right (by decide) (by omega)
  have h := nI_or2 (a := 2 ^ k.toInt.toNat) (k := k.toInt.toNat + 1) a (Nat.pow_lt_pow_right (by decide) (by omega))
  rw [← ha] at h
  have e : y = nI (x.toInt.toNat + 2 ^ k.toInt.toNat) := by
    rw [e2, sh_of e1 hk, ← h]
    rw [← nI_x hx]
  have pp := Nat.two_pow_pos k.toInt.toNat
  rw [e, nI_toInt (by omega)]
  omega
