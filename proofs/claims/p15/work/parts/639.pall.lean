/-- the plan as a whole -/
noncomputable def plT (o : Nat → Nat) (W : Nat → Nat → Int) (tr m : Int) (N : Nat) : (Nat → Nat) × Nat := tkS (trS o (lkW W) (mnW W) tr m N).1 (trS o (lkW W) (mnW W) tr m N).2.1 (plS o (trS o (lkW W) (mnW W) tr m N).1 (trS o (lkW W) (mnW W) tr m N).2.1 N).1 (kpC (fun i => (mnW W ((plS o (trS o (lkW W) (mnW W) tr m N).1 (trS o (lkW W) (mnW W) tr m N).2.1 N).1 i)).toNat) (fun i => scW W ((plS o (trS o (lkW W) (mnW W) tr m N).1 (trS o (lkW W) (mnW W) tr m N).2.1 N).1 i)) (plS o (trS o (lkW W) (mnW W) tr m N).1 (trS o (lkW W) (mnW W) tr m N).2.1 N).2 (trS o (lkW W) (mnW W) tr m N).2.2.toNat) (plS o (trS o (lkW W) (mnW W) tr m N).1 (trS o (lkW W) (mnW W) tr m N).2.1 N).2
noncomputable def plP (V Y : Nat → Nat → Int) (n nt : Nat) (le tr m : Int) : (Nat → Nat) × Nat := plT (orX V Y n nt le).1 (wX V Y n nt le) tr m (orX V Y n nt le).2
noncomputable def plnX (V Y : Nat → Nat → Int) (n nt : Nat) (le tr m k : Int) : Int := if 0 ≤ m ∧ m ≤ 300 then (if k = -1 then ((plP V Y n nt le tr m).2 : Int) else if 0 ≤ k ∧ k < ((plP V Y n nt le tr m).2 : Int) then ((plP V Y n nt le tr m).1 k.toNat : Int) else -1) else -1
noncomputable def wthX (V Y : Nat → Nat → Int) (n nt : Nat) (le tr m w : Int) : Int := if (0 ≤ m ∧ m ≤ 300) ∧ (0 ≤ w ∧ w ≤ 2) then (if w = 0 then suF (scW (wX V Y n nt le)) (plP V Y n nt le tr m).1 (plP V Y n nt le tr m).2 else if w = 1 then suF (scW (wX V Y n nt le)) (orX V Y n nt le).1 (orX V Y n nt le).2 - suF (scW (wX V Y n nt le)) (plP V Y n nt le tr m).1 (plP V Y n nt le tr m).2 else suF (mnW (wX V Y n nt le)) (plP V Y n nt le tr m).1 (plP V Y n nt le tr m).2) else -1
section PA
variable {V Y : Nat → Nat → Int} {n nt : Nat} {le : Int} {c : Nat → Nat}
theorem scI_rng {i : Nat} (h : 0 ≤ V i 5 ∧ V i 5 ≤ 100) : 0 ≤ scI V n le i ∧ scI V n le i ≤ 100000 := by
  have s56 := odC_56 (V := V) (n := n) (le := le) (mk := V i 4)
  have r5 := ctF_rng (C := kC V 5 (dpF V n (V i 4) le 4) (pfx (dpF V n (V i 4) le 4) (V i 4))) n
  have r6 := ctF_rng (C := kC V 6 (dpF V n (V i 4) le 4) (pfx (dpF V n (V i 4) le 4) (V i 4))) n
  unfold odC at s56
  unfold scI scX
  obtain ⟨c5, e5⟩ : ∃ c5, c5 = ctF (kC V 5 (dpF V n (V i 4) le 4) (pfx (dpF V n (V i 4) le 4) (V i 4))) n := ⟨_, rfl⟩
  obtain ⟨c6, e6⟩ : ∃ c6, c6 = ctF (kC V 6 (dpF V n (V i 4) le 4) (pfx (dpF V n (V i 4) le 4) (V i 4))) n := ⟨_, rfl⟩
  rw [← e5] at s56 r5 ⊢
  rw [← e6] at s56 r6 ⊢
  by_cases q : c6 = 0
  · rw [if_pos q]; omega
  · rw [if_neg q]
    have p0 : 0 ≤ 1000 * V i 5 * c5 := Int.mul_nonneg (by omega) r5.1
    have p1 : 1000 * V i 5 * c5 ≤ 100000 * c6 := by
      have h1 : 1000 * V i 5 * c5 ≤ 100000 * c5 := Int.mul_le_mul_of_nonneg_right (by omega) r5.1
      omega
    exact ⟨Int.ediv_nonneg p0 r6.1, Int.ediv_le_of_le_mul (by omega) p1⟩
theorem mxF_le {C : Nat → Prop} {s : Nat → Int} {B : Int} (k : Nat) (hB : 0 ≤ B) (h : ∀ i, i < k → C i → s i ≤ B) : mxF C s k ≤ B := by
  induction k with
  | zero => exact hB
  | succ k ih =>
    have e := ih (fun i hi => h i (by omega))
    by_cases q : C k
    · rw [mxF_hit q]; have := h k (by omega) q; omega
    · rw [mxF_skip q]; exact e
theorem wb_X (hw : ∀ i, i < n → 0 ≤ V i 5 ∧ V i 5 ≤ 100) (hn : n ≤ 200) : wbW (wX V Y n nt le) n := fun m _ => by
  unfold wX
  rw [wF_1, wF_2]
  have r := ctF_rng (C := inC V (cnV V Y n nt) n m) n
  refine ⟨⟨r.1, by omega⟩, ⟨mxF_nn n, mxF_le n (by decide) (fun i hi _ => (scI_rng (hw i hi)).2)⟩, wF_3b⟩
theorem or_inj : jnj (orX V Y n nt le).1 (orX V Y n nt le).2 := orS_inj n
theorem or_lt {j : Nat} (h : j < (orX V Y n nt le).2) : (orX V Y n nt le).1 j < n := (orS_mem n j h).1
end PA
theorem plT_in {o : Nat → Nat} {W : Nat → Nat → Int} {tr m : Int} {N : Nat} (ho : jnj o N) (hm : 0 ≤ m) (htr : 0 ≤ tr) : jnj (plT o W tr m N).1 (plT o W tr m N).2 ∧ (∀ j, j < (plT o W tr m N).2 → ∃ k, k < N ∧ o k = (plT o W tr m N).1 j) := by
  obtain ⟨h1, h2, h3, h4⟩ := tr_in (lk := lkW W) (mn := mnW W) ho hm htr N (Nat.le_refl _)
  obtain ⟨p1, p2, p3⟩ := pl_in (t := (trS o (lkW W) (mnW W) tr m N).1) (c := (trS o (lkW W) (mnW W) tr m N).2.1) ho N (Nat.le_refl _)
  have q := tk_in (ch := kpC (fun i => (mnW W ((plS o (trS o (lkW W) (mnW W) tr m N).1 (trS o (lkW W) (mnW W) tr m N).2.1 N).1 i)).toNat) (fun i => scW W ((plS o (trS o (lkW W) (mnW W) tr m N).1 (trS o (lkW W) (mnW W) tr m N).2.1 N).1 i)) (plS o (trS o (lkW W) (mnW W) tr m N).1 (trS o (lkW W) (mnW W) tr m N).2.1 N).2 (trS o (lkW W) (mnW W) tr m N).2.2.toNat) h1 h2 p1 p2 _ (Nat.le_refl _)
  exact ⟨q.1, q.2.1⟩
