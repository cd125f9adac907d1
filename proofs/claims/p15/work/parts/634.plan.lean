/-- the plan: sets of items by number, bit i for item i -/
def smW (w : Nat → Nat) (t : Nat) : Nat → Nat
  | 0 => 0
  | n + 1 => smW w t n + (if t / 2 ^ n % 2 = 1 then w n else 0)
def smS (s : Nat → Int) (t : Nat) : Nat → Int
  | 0 => 0
  | n + 1 => smS s t n + (if t / 2 ^ n % 2 = 1 then s n else 0)
/-- the greatest sum that fits, over the first i items -/
def kpB (w : Nat → Nat) (s : Nat → Int) : Nat → Nat → Int
  | 0, _ => 0
  | i + 1, m => if w i ≤ m ∧ kpB w s i m < kpB w s i (m - w i) + s i then kpB w s i (m - w i) + s i else kpB w s i m
def kpN (w : Nat → Nat) (s : Nat → Int) (i m : Nat) : Prop := w i ≤ m ∧ kpB w s i m < kpB w s i (m - w i) + s i
def kpC (w : Nat → Nat) (s : Nat → Int) : Nat → Nat → Nat
  | 0, _ => 0
  | i + 1, m => if w i ≤ m ∧ kpB w s i m < kpB w s i (m - w i) + s i then kpC w s i (m - w i) + 2 ^ i else kpC w s i m
section KP
variable {w : Nat → Nat} {s : Nat → Int} {n m t : Nat}
theorem kpB_y (h : kpN w s n m) : kpB w s (n + 1) m = kpB w s n (m - w n) + s n := if_pos h
theorem kpB_n (h : ¬ kpN w s n m) : kpB w s (n + 1) m = kpB w s n m := if_neg h
theorem kpC_y (h : kpN w s n m) : kpC w s (n + 1) m = kpC w s n (m - w n) + 2 ^ n := if_pos h
theorem kpC_n (h : ¬ kpN w s n m) : kpC w s (n + 1) m = kpC w s n m := if_neg h
theorem bit_hi (h : t < 2 ^ n) : t / 2 ^ n % 2 = 0 := by rw [Nat.div_eq_of_lt h, Nat.zero_mod]
theorem bit_on (h : t < 2 ^ n) : (t + 2 ^ n) / 2 ^ n % 2 = 1 := by
  have e2 : (t + 2 ^ n) / 2 ^ n = t / 2 ^ n + 1 := Nat.add_div_right _ (Nat.two_pow_pos n)
  have e3 : t / 2 ^ n = 0 := Nat.div_eq_of_lt h
  rw [e2, e3]
theorem bit_lo {i : Nat} (h : i < n) : (t + 2 ^ n) / 2 ^ i % 2 = t / 2 ^ i % 2 := by
  have e : 2 ^ n = 2 ^ i * (2 * 2 ^ (n - i - 1)) := by
    rw [show 2 * 2 ^ (n - i - 1) = 2 ^ (n - i - 1 + 1) by rw [Nat.pow_succ]; omega, ← Nat.pow_add]
    congr 1
    omega
  rw [e, Nat.add_mul_div_left _ _ (Nat.two_pow_pos i)]
  omega
theorem smW_ext {t' : Nat} (n : Nat) (h : ∀ i, i < n → t / 2 ^ i % 2 = t' / 2 ^ i % 2) : smW w t n = smW w t' n := by
  induction n with
  | zero => rfl
  | succ n ih =>
    show smW w t n + (if t / 2 ^ n % 2 = 1 then w n else 0) = smW w t' n + (if t' / 2 ^ n % 2 = 1 then w n else 0)
    rw [ih (fun i hi => h i (by omega)), h n (by omega)]
theorem smS_ext {t' : Nat} (n : Nat) (h : ∀ i, i < n → t / 2 ^ i % 2 = t' / 2 ^ i % 2) : smS s t n = smS s t' n := by
  induction n with
  | zero => rfl
  | succ n ih =>
    show smS s t n + (if t / 2 ^ n % 2 = 1 then s n else 0) = smS s t' n + (if t' / 2 ^ n % 2 = 1 then s n else 0)
    rw [ih (fun i hi => h i (by omega)), h n (by omega)]
theorem smW_lo (h : t < 2 ^ n) : smW w t (n + 1) = smW w t n := by
  show smW w t n + (if t / 2 ^ n % 2 = 1 then w n else 0) = _
  rw [bit_hi h, if_neg (by decide), Nat.add_zero]
theorem smS_lo (h : t < 2 ^ n) : smS s t (n + 1) = smS s t n := by
  show smS s t n + (if t / 2 ^ n % 2 = 1 then s n else 0) = _
  rw [bit_hi h, if_neg (by decide), Int.add_zero]
theorem smW_on (h : t < 2 ^ n) : smW w (t + 2 ^ n) (n + 1) = smW w t n + w n := by
  show smW w (t + 2 ^ n) n + (if (t + 2 ^ n) / 2 ^ n % 2 = 1 then w n else 0) = _
  rw [bit_on h, if_pos rfl, smW_ext n (fun i hi => bit_lo hi)]
theorem smS_on (h : t < 2 ^ n) : smS s (t + 2 ^ n) (n + 1) = smS s t n + s n := by
  show smS s (t + 2 ^ n) n + (if (t + 2 ^ n) / 2 ^ n % 2 = 1 then s n else 0) = _
  rw [bit_on h, if_pos rfl, smS_ext n (fun i hi => bit_lo hi)]
theorem kp_split {n t : Nat} (h : t < 2 ^ (n + 1)) : t < 2 ^ n ∨ ∃ t', t' < 2 ^ n ∧ t = t' + 2 ^ n := by
  rw [Nat.pow_succ] at h
  by_cases q : t < 2 ^ n
  · exact Or.inl q
  · exact Or.inr ⟨t - 2 ^ n, by omega, by omega⟩
theorem kp_mono : kpB w s n m ≤ kpB w s (n + 1) m := by
  by_cases q : kpN w s n m
  · rw [kpB_y q]; have := q.2; omega
  · rw [kpB_n q]; exact Int.le_refl _
theorem kp_take (h : w n ≤ m) : kpB w s n (m - w n) + s n ≤ kpB w s (n + 1) m := by
  by_cases q : kpN w s n m
  · rw [kpB_y q]; exact Int.le_refl _
  · rw [kpB_n q]
    have : ¬ kpB w s n m < kpB w s n (m - w n) + s n := fun z => q ⟨h, z⟩
    omega
theorem kp_ub (n : Nat) : ∀ m t, t < 2 ^ n → smW w t n ≤ m → smS s t n ≤ kpB w s n m := by
  induction n with
  | zero => intro m t _ _; exact Int.le_refl _
  | succ n ih =>
    intro m t ht hm
    rcases kp_split ht with q | ⟨t', q, e⟩
    · rw [smW_lo q] at hm
      rw [smS_lo q]
      exact Int.le_trans (ih m t q hm) kp_mono
    · rw [e, smW_on q] at hm
      rw [e, smS_on q]
      have h1 := ih (m - w n) t' q (by omega)
      have h2 := kp_take (s := s) (n := n) (m := m) (w := w) (by omega)
      omega
theorem kp_at (n : Nat) : ∀ m, kpC w s n m < 2 ^ n ∧ smW w (kpC w s n m) n ≤ m ∧ smS s (kpC w s n m) n = kpB w s n m := by
  induction n with
  | zero => intro m; exact ⟨Nat.one_pos, Nat.zero_le _, rfl⟩
  | succ n ih =>
    intro m
    by_cases q : kpN w s n m
    · obtain ⟨h1, h2, h3⟩ := ih (m - w n)
      have q1 := q.1
      rw [kpC_y q, kpB_y q, smW_on h1, smS_on h1, h3, Nat.pow_succ]
      exact ⟨by omega, by omega, rfl⟩
    · obtain ⟨h1, h2, h3⟩ := ih m
      rw [kpC_n q, kpB_n q, smW_lo h1, smS_lo h1, Nat.pow_succ]
      exact ⟨by omega, h2, h3⟩
theorem kp_least (n : Nat) : ∀ m t, t < 2 ^ n → smW w t n ≤ m → smS s t n = kpB w s n m → kpC w s n m ≤ t := by
  induction n with
  | zero => intro m t _ _ _; exact Nat.zero_le _
  | succ n ih =>
    intro m t ht hm hs
    by_cases q : kpN w s n m
    · rw [kpB_y q] at hs
      rw [kpC_y q]
      rcases kp_split ht with z | ⟨t', z, e⟩
      · rw [smW_lo z] at hm
        rw [smS_lo z] at hs
        have := kp_ub (s := s) n m t z hm
        have := q.2
        omega
      · rw [e, smW_on z] at hm
        rw [e, smS_on z] at hs
        have := ih (m - w n) t' z (by omega) (by omega)
        omega
    · rw [kpB_n q] at hs
      rw [kpC_n q]
      rcases kp_split ht with z | ⟨t', z, e⟩
      · rw [smW_lo z] at hm
        rw [smS_lo z] at hs
        exact ih m t z hm hs
      · have := (kp_at (w := w) (s := s) n m).1
        omega
/-- all sets, one after another -/
def bsS (w : Nat → Nat) (s : Nat → Int) (n m : Nat) : Nat → Nat × Int
  | 0 => (0, 0)
  | t + 1 => if smW w (t + 1) n ≤ m ∧ (bsS w s n m t).2 < smS s (t + 1) n then (t + 1, smS s (t + 1) n) else bsS w s n m t
theorem bsS_y (h : smW w (t + 1) n ≤ m ∧ (bsS w s n m t).2 < smS s (t + 1) n) : bsS w s n m (t + 1) = (t + 1, smS s (t + 1) n) := if_pos h
theorem bsS_n (h : ¬ (smW w (t + 1) n ≤ m ∧ (bsS w s n m t).2 < smS s (t + 1) n)) : bsS w s n m (t + 1) = bsS w s n m t := if_neg h
theorem sm_0 (n : Nat) : smW w 0 n = 0 ∧ smS s 0 n = 0 := by
  induction n with
  | zero => exact ⟨rfl, rfl⟩
  | succ n ih =>
    rw [smW_lo (Nat.two_pow_pos n), smS_lo (Nat.two_pow_pos n)]
    exact ih
theorem bs_inv (t : Nat) : (bsS w s n m t).1 ≤ t ∧ smW w (bsS w s n m t).1 n ≤ m ∧ smS s (bsS w s n m t).1 n = (bsS w s n m t).2 ∧ ∀ u, u ≤ t → smW w u n ≤ m → smS s u n ≤ (bsS w s n m t).2 ∧ (smS s u n = (bsS w s n m t).2 → (bsS w s n m t).1 ≤ u) := by
  induction t with
  | zero =>
    have z := sm_0 (w := w) (s := s) n
    refine ⟨Nat.le_refl _, by show smW w 0 n ≤ m; omega, z.2, fun u hu _ => ?_⟩
    have e : u = 0 := by omega
    rw [e]
    exact ⟨by show smS s 0 n ≤ 0; omega, fun _ => Nat.le_refl _⟩
  | succ t ih =>
    obtain ⟨h1, h2, h3, h4⟩ := ih
    by_cases q : smW w (t + 1) n ≤ m ∧ (bsS w s n m t).2 < smS s (t + 1) n
    · rw [bsS_y q]
      refine ⟨Nat.le_refl _, q.1, rfl, fun u hu hm => ?_⟩
      by_cases z : u = t + 1
      · rw [z]; exact ⟨Int.le_refl _, fun _ => Nat.le_refl _⟩
      · have := (h4 u (by omega) hm).1
        have := q.2
        exact ⟨by show smS s u n ≤ smS s (t + 1) n; omega, fun e => by have e : smS s u n = smS s (t + 1) n := e; omega⟩
    · rw [bsS_n q]
      refine ⟨by omega, h2, h3, fun u hu hm => ?_⟩
      by_cases z : u = t + 1
      · rw [z] at hm ⊢
        have : ¬ (bsS w s n m t).2 < smS s (t + 1) n := fun y => q ⟨hm, y⟩
        exact ⟨by omega, fun _ => by omega⟩
      · exact h4 u (by omega) hm
theorem bs_eq : (bsS w s n m (2 ^ n - 1)).1 = kpC w s n m ∧ (bsS w s n m (2 ^ n - 1)).2 = kpB w s n m := by
  obtain ⟨h1, h2, h3, h4⟩ := bs_inv (w := w) (s := s) (n := n) (m := m) (2 ^ n - 1)
  obtain ⟨c1, c2, c3⟩ := kp_at (w := w) (s := s) n m
  have p := Nat.two_pow_pos n
  have u1 := kp_ub (s := s) n m _ (show (bsS w s n m (2 ^ n - 1)).1 < 2 ^ n by omega) h2
  have u2 := h4 _ (show kpC w s n m ≤ 2 ^ n - 1 by omega) c2
  have e : (bsS w s n m (2 ^ n - 1)).2 = kpB w s n m := by omega
  have l1 := kp_least (s := s) n m _ (show (bsS w s n m (2 ^ n - 1)).1 < 2 ^ n by omega) h2 (by omega)
  have l2 := u2.2 (by omega)
  exact ⟨by omega, e⟩
end KP
