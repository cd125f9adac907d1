/-- the reference's counts, one alarm on -/
theorem ctS {V : Nat → Nat → Int} {kk D : Nat} {P x x' : Int} {k k' : Int32} (h : x = ctF (kC V kk D P) k.toInt.toNat) (h0 : 0 ≤ k.toInt) (hk : k'.toInt = k.toInt + 1) (hc : (kC V kk D P k.toNatClampNeg ∧ x' = x + 1) ∨ (¬ kC V kk D P k.toNatClampNeg ∧ x' = x)) : x' = ctF (kC V kk D P) k'.toInt.toNat := by
  have hc : (kC V kk D P k.toInt.toNat ∧ x' = x + 1) ∨ (¬ kC V kk D P k.toInt.toNat ∧ x' = x) := hc
  rw [show k'.toInt.toNat = k.toInt.toNat + 1 by omega]
  rcases hc with ⟨c, e⟩ | ⟨c, e⟩
  · rw [ctF_hit c, e, h]
  · rw [ctF_skip c, e, h]
theorem shr_pfx {x off z : Int32} {d : Int} (e : z = x >>> (off &&& 31)) (ho : off.toInt = 3 * (4 - d)) (hd : 0 ≤ d ∧ d ≤ 4) : z.toInt = pfx d.toNat x.toInt := by
  rcases (show d = 0 ∨ d = 1 ∨ d = 2 ∨ d = 3 ∨ d = 4 by omega) with q | q | q | q | q <;> subst q
  · have h : off = 12 := Int32.toInt_inj.mp (by rw [ho]; decide)
    rw [e, h, pk_shr x ((12 : Int32) &&& 31) 12 (by decide), Int.shiftRight_eq_div_pow]; rfl
  · have h : off = 9 := Int32.toInt_inj.mp (by rw [ho]; decide)
    rw [e, h, pk_shr x ((9 : Int32) &&& 31) 9 (by decide), Int.shiftRight_eq_div_pow]; rfl
  · have h : off = 6 := Int32.toInt_inj.mp (by rw [ho]; decide)
    rw [e, h, pk_shr x ((6 : Int32) &&& 31) 6 (by decide), Int.shiftRight_eq_div_pow]; rfl
  · have h : off = 3 := Int32.toInt_inj.mp (by rw [ho]; decide)
    rw [e, h, pk_shr x ((3 : Int32) &&& 31) 3 (by decide), Int.shiftRight_eq_div_pow]; rfl
  · have h : off = 0 := Int32.toInt_inj.mp (by rw [ho]; decide)
    rw [e, h, pk_shr x ((0 : Int32) &&& 31) 0 (by decide), Int.shiftRight_eq_div_pow]; rfl
theorem sc_r0 {V : Nat → Nat → Int} {n : Nat} {le mk wo z c : Int} (h : c = odC V n le mk 6) (hc : c = 0) (hz : z = 500 * wo) : z = scX V n le mk wo := by
  rw [hz]
  exact (if_pos (by rw [hc] at h; exact h.symm)).symm
theorem sc_r1 {V : Nat → Nat → Int} {n : Nat} {le mk wo z c5 c6 : Int} (h5 : c5 = odC V n le mk 5) (h6 : c6 = odC V n le mk 6) (hc : ¬ c6 = 0) (hz : z = 1000 * wo * c5 / c6) : z = scX V n le mk wo := by
  rw [hz, h5, h6]
  exact (if_neg (by rw [h6] at hc; exact hc)).symm
theorem euR {a b r : Int} (ha : 0 ≤ a) (hb : 0 < b) (hr : r = a % b) : gcI b r = gcI a b ∧ 0 ≤ r ∧ r < b := by
  subst hr
  exact ⟨(gcI_step ha hb).symm, Int.emod_nonneg _ (by omega), Int.emod_lt_of_pos _ hb⟩
