section PC
variable {L : List Nat} {K : Nat → Nat × Nat} {f : Nat → va_E} {g g6 g6' : Nat → Option Nat} {n m m' d d' c : Nat} {W : Nat → Nat → Int} {t : Nat → Nat}
theorem ldQ.N (h : ldQ f g m d) (h0 : tC L K f g n) (hm : m < n) : cqIs L K 1 d ∧ cqF (f d) 0 = (m : Int) := by
  obtain ⟨b, e1, e2⟩ := h
  exact h0.at hm e1 e2
theorem ldQ.F (h : ldQ f g m d) (hc : cqCs f g n W) (hm : m < n) (k : Nat) (hk : 1 ≤ k ∧ k ≤ 3) : cqF (f d) k = W m k := by
  obtain ⟨b, e1, e2⟩ := h
  exact hc m hm b e1 d e2 k hk
theorem ldQ.num (h : ldQ f g m d) (h' : ldQ f g m' d) (h0 : tC L K f g n) (hm : m < n) (hm' : m' < n) : m = m' := by
  have e := (h.N h0 hm).2
  have e' := (h'.N h0 hm').2
  omega
theorem ldQ.uniq (h : ldQ f g m d) (h' : ldQ f g m d') : d = d' := by
  obtain ⟨b, e1, e2⟩ := h
  obtain ⟨b', e1', e2'⟩ := h'
  rw [e1] at e1'
  cases e1'
  rw [e2] at e2'
  cases e2'
  rfl
theorem oQ.add {i : Int32} (h : oQ f g g6 t c) (eg : g6' = va_up g6 i.toNatClampNeg (some d)) (ei : i.toNatClampNeg = c) (hd : ldQ f g m d) : oQ f g g6' (va_up t c m) (c + 1) := fun j hj => by
  rw [ei] at eg
  by_cases q : j = c
  · rw [q, eg, va_up_self, va_up_self]; exact ⟨d, hd, rfl⟩
  · rw [eg, va_up_ne _ _ q, va_up_ne _ _ q]; exact h j (by omega)
theorem oQ.get (h : oQ f g g6 t c) {j b : Nat} (hj : j < c) (hb : g6 j = some b) : ldQ f g (t j) b := by
  obtain ⟨d, h1, h2⟩ := h j hj
  rw [hb] at h2
  cases h2
  exact h1
end PC
/-- what the cases weigh -/
def lkW (W : Nat → Nat → Int) (m : Nat) : Prop := ¬ W m 3 = 0
def mnW (W : Nat → Nat → Int) (m : Nat) : Int := 5 + 2 * W m 1
def scW (W : Nat → Nat → Int) (m : Nat) : Int := W m 2
def wbW (W : Nat → Nat → Int) (n : Nat) : Prop := ∀ m, m < n → (0 ≤ W m 1 ∧ W m 1 ≤ 200) ∧ (0 ≤ W m 2 ∧ W m 2 ≤ 100000) ∧ (W m 3 = 0 ∨ W m 3 = 1)
theorem suF_rng {φ : Nat → Int} {t : Nat → Nat} {B : Int} (c : Nat) (h : ∀ i, i < c → 0 ≤ φ (t i) ∧ φ (t i) ≤ B) : 0 ≤ suF φ t c ∧ suF φ t c ≤ B * c := by
  induction c with
  | zero => exact ⟨Int.le_refl _, by show (0 : Int) ≤ B * 0; omega⟩
  | succ c ih =>
    have h1 := ih (fun i hi => h i (by omega))
    have h2 := h c (by omega)
    show 0 ≤ suF φ t c + φ (t c) ∧ suF φ t c + φ (t c) ≤ B * ((c + 1 : Nat) : Int)
    rw [show B * ((c + 1 : Nat) : Int) = B * (c : Int) + B by rw [show ((c + 1 : Nat) : Int) = (c : Int) + 1 by omega, Int.mul_add, Int.mul_one]]
    omega
/-- the bits of what is needed -/
def ndM (w : Nat → Nat) (s : Nat → Int) (x : Int32) (i m : Nat) : Prop := 0 ≤ x.toInt ∧ x.toInt.toNat < 2 ^ i ∧ ∀ j, j < i → (x.toInt.toNat / 2 ^ j % 2 = 1 ↔ kpN w s j m)
section ND
variable {w : Nat → Nat} {s : Nat → Int} {i m : Nat} {x y z k : Int32}
theorem ndM.zero : ndM w s 0 0 m := ⟨by decide, by decide, fun j hj => absurd hj (Nat.not_lt_zero _)⟩
theorem ndM.keep (h : ndM w s x i m) (hn : ¬ kpN w s i m) : ndM w s x (i + 1) m := by
  obtain ⟨h1, h2, h3⟩ := h
  refine ⟨h1, by rw [Nat.pow_succ]; omega, fun j hj => ?_⟩
  by_cases q : j = i
  · rw [q, bit_hi h2]
    exact ⟨fun z => by omega, fun z => absurd z hn⟩
  · exact h3 j (by omega)
theorem ndM.put (h : ndM w s x i m) (hn : kpN w s i m) (e1 : z = (1 : Int32) <<< (k &&& 31)) (e2 : y = x ||| z) (hk : k.toInt = (i : Int)) (hi : i < 12) : ndM w s y (i + 1) m := by
  obtain ⟨h1, h2, h3⟩ := h
  have ek : k.toInt.toNat = i := by omega
  have u := or_up e1 e2 (by omega) h1 (by rw [ek]; exact h2)
  rw [ek] at u
  refine ⟨u.1, by rw [u.2, Nat.pow_succ]; omega, fun j hj => ?_⟩
  rw [u.2]
  by_cases q : j = i
  · rw [q, bit_on h2]
    exact ⟨fun _ => hn, fun _ => rfl⟩
  · rw [bit_lo (by omega)]
    exact h3 j (by omega)
theorem kp_rng (hs : ∀ j, j < i → 0 ≤ s j ∧ s j ≤ 100000) : ∀ m, 0 ≤ kpB w s i m ∧ kpB w s i m ≤ 100000 * (i : Int) := by
  induction i with
  | zero => intro m; exact ⟨Int.le_refl _, by show (0 : Int) ≤ 100000 * 0; omega⟩
  | succ i ih =>
    intro m
    have h1 := ih (fun j hj => hs j (by omega)) m
    have h2 := ih (fun j hj => hs j (by omega)) (m - w i)
    have h3 := hs i (by omega)
    by_cases q : kpN w s i m
    · rw [kpB_y q]; omega
    · rw [kpB_n q]; omega
end ND
