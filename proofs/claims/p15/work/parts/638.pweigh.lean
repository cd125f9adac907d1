/-- the row of sums, while item i is weighed from the greatest minutes on -/
def kpF (w : Nat → Nat) (s : Nat → Int) (y8 y9 : Nat → Int32) (M i : Nat) : Prop := ∀ j, j ≤ M → (y8 j).toInt = kpB w s i j ∧ ndM w s (y9 j) i j
def kpS (w : Nat → Nat) (s : Nat → Int) (y8 y9 : Nat → Int32) (M i : Nat) (mm : Int) : Prop := ∀ j, j ≤ M → (mm < (j : Int) → (y8 j).toInt = kpB w s (i + 1) j ∧ ndM w s (y9 j) (i + 1) j) ∧ ((j : Int) ≤ mm → (y8 j).toInt = kpB w s i j ∧ ndM w s (y9 j) i j)
section PW
variable {w : Nat → Nat} {s : Nat → Int} {y8 y9 y8' y9' : Nat → Int32} {M i J : Nat} {mm mm' : Int}
theorem kpF.start (h : ∀ j, j ≤ M → y8 j = 0 ∧ y9 j = 0) : kpF w s y8 y9 M 0 := fun j hj => by
  obtain ⟨h1, h2⟩ := h j hj
  rw [h1, h2]
  exact ⟨rfl, ndM.zero⟩
theorem kpS.start (h : kpF w s y8 y9 M i) (hm : mm = (M : Int)) : kpS w s y8 y9 M i mm := fun j hj => ⟨fun q => by exfalso; omega, fun _ => h j hj⟩
theorem kpS.old (h : kpS w s y8 y9 M i mm) (hJ : J ≤ M) (hm : (J : Int) ≤ mm) : (y8 J).toInt = kpB w s i J ∧ ndM w s (y9 J) i J := (h J hJ).2 hm
theorem kpS.keep (h : kpS w s y8 y9 M i mm) (eJ : mm = (J : Int)) (hJ : J ≤ M) (hn : ¬ kpN w s i J) (em : mm' = mm - 1) : kpS w s y8 y9 M i mm' := fun j hj => by
  refine ⟨fun q => ?_, fun q => (h j hj).2 (by omega)⟩
  by_cases z : j = J
  · obtain ⟨h1, h2⟩ := h.old hJ (by omega)
    rw [z, kpB_n hn]
    exact ⟨h1, h2.keep hn⟩
  · exact (h j hj).1 (by omega)
theorem kpS.put {x y z k : Int32} (h : kpS w s y8 y9 M i mm) (eJ : mm = (J : Int)) (hJ : J ≤ M) (hn : kpN w s i J) (e8 : y8' = upd y8 J x) (hx : x.toInt = kpB w s i (J - w i) + s i) (e9 : y9' = upd y9 J y) (ez : z = (1 : Int32) <<< (k &&& 31)) (ey : y = y9 J ||| z) (hk : k.toInt = (i : Int)) (hi : i < 12) (em : mm' = mm - 1) : kpS w s y8' y9' M i mm' := fun j hj => by
  by_cases q : j = J
  · refine ⟨fun _ => ?_, fun z => by exfalso; omega⟩
    rw [q, e8, pk_us, e9, pk_us, kpB_y hn]
    exact ⟨hx, (h.old hJ (by omega)).2.put hn ez ey hk hi⟩
  · rw [e8, pk_un q, e9, pk_un q]
    exact ⟨fun z => (h j hj).1 (by omega), fun z => (h j hj).2 (by omega)⟩
theorem kpS.end (h : kpS w s y8 y9 M i mm) (hm : mm < (w i : Int)) : kpF w s y8 y9 M (i + 1) := fun j hj => by
  by_cases q : mm < (j : Int)
  · exact (h j hj).1 q
  · obtain ⟨h1, h2⟩ := (h j hj).2 (by omega)
    have hn : ¬ kpN w s i j := fun z => by have := z.1; omega
    rw [kpB_n hn]
    exact ⟨h1, h2.keep hn⟩
/-- the way back -/
def tbI (w : Nat → Nat) (s : Nat → Int) (n m i l : Nat) (x : Int32) : Prop := 0 ≤ x.toInt ∧ (∃ a, x.toInt.toNat = 2 ^ i * a) ∧ kpC w s n m = kpC w s i l + x.toInt.toNat
theorem tbI.start {n m : Nat} : tbI w s n m n m 0 := ⟨by decide, ⟨0, by show 0 = 2 ^ n * 0; omega⟩, rfl⟩
theorem tbI.skip {n m l : Nat} {x : Int32} (h : tbI w s n m (i + 1) l x) (hn : ¬ kpN w s i l) : tbI w s n m i l x := by
  obtain ⟨h1, ⟨a, h2⟩, h3⟩ := h
  rw [kpC_n hn] at h3
  exact ⟨h1, ⟨2 * a, by rw [h2, Nat.pow_succ, Nat.mul_assoc]⟩, h3⟩
theorem tbI.put {n m l l' : Nat} {x y z k : Int32} (h : tbI w s n m (i + 1) l x) (hn : kpN w s i l) (e1 : z = (1 : Int32) <<< (k &&& 31)) (e2 : y = x ||| z) (hk : k.toInt = (i : Int)) (hi : i < 12) (h12 : n ≤ 12) (el : l' = l - w i) : tbI w s n m i l' y := by
  obtain ⟨h1, ⟨a, h2⟩, h3⟩ := h
  have ek : k.toInt.toNat = i := by omega
  have b := (kp_at (w := w) (s := s) n m).1
  have b2 : 2 ^ n ≤ 2 ^ 12 := Nat.pow_le_pow_right (by decide) h12
  have u := or_dn (a := a) e1 e2 (by omega) h1 (by rw [ek]; exact h2) (by omega)
  rw [ek] at u
  rw [kpC_y hn] at h3
  refine ⟨u.1, ⟨2 * a + 1, ?_⟩, ?_⟩
  · rw [u.2, h2, Nat.pow_succ, Nat.mul_add, Nat.mul_one, Nat.mul_assoc]
  · rw [u.2, el]; omega
theorem tbI.end {n m l : Nat} {x : Int32} (h : tbI w s n m 0 l x) : x.toInt.toNat = kpC w s n m := by
  have := h.2.2
  have z : kpC w s 0 l = 0 := rfl
  omega
end PW
