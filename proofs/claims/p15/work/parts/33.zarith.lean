def gpOk (now n : Int32) : Prop := 1 ≤ n.toInt ∧ n.toInt ≤ 1000 ∧ now.toInt + n.toInt ≤ 10000
noncomputable def gpN (now n : Int32) : Int32 := if 1 ≤ n.toInt ∧ n.toInt ≤ 1000 ∧ now.toInt + n.toInt ≤ 10000 then now + n else now
noncomputable def gpA (now n : Int32) : Int32 := if 1 ≤ n.toInt ∧ n.toInt ≤ 1000 ∧ now.toInt + n.toInt ≤ 10000 then now + n else -1
theorem gpN_pos {now n z : Int32} (h : 1 ≤ n.toInt ∧ n.toInt ≤ 1000 ∧ now.toInt + n.toInt ≤ 10000) (e : z = now + n) : z = gpN now n := e.trans (if_pos h).symm
theorem gpN_neg {now n : Int32} (h : ¬ (1 ≤ n.toInt ∧ n.toInt ≤ 1000 ∧ now.toInt + n.toInt ≤ 10000)) : now = gpN now n := (if_neg h).symm
theorem gpA_pos {now n z : Int32} (h : 1 ≤ n.toInt ∧ n.toInt ≤ 1000 ∧ now.toInt + n.toInt ≤ 10000) (e : z = now + n) : z = gpA now n := e.trans (if_pos h).symm
theorem gpA_neg {now n : Int32} (h : ¬ (1 ≤ n.toInt ∧ n.toInt ≤ 1000 ∧ now.toInt + n.toInt ≤ 10000)) : (-1) = gpA now n := (if_neg h).symm
noncomputable def gsN (k a b d : Int32) : Int32 := if (0 ≤ a.toInt ∧ a.toInt < 10) ∧ 0 ≤ b.toInt ∧ b.toInt ≤ d.toInt ∧ d.toInt ≤ 10000 ∧ k.toInt < 30 then k + 1 else k
noncomputable def gsA (k a b d : Int32) : Int32 := if (0 ≤ a.toInt ∧ a.toInt < 10) ∧ 0 ≤ b.toInt ∧ b.toInt ≤ d.toInt ∧ d.toInt ≤ 10000 ∧ k.toInt < 30 then k + 1 else -1
def F_set (w v : Int32) : Int32 := if (w.toInt = 0 ∧ 1 ≤ v.toInt ∧ v.toInt ≤ 50) ∨ (w.toInt = 1 ∧ 1 ≤ v.toInt ∧ v.toInt ≤ 20) ∨ (w.toInt = 2 ∧ 0 ≤ v.toInt ∧ v.toInt ≤ 5) then 1 else 0
theorem zb_upd {f g : Nat → Int32} {i : Nat} {x : Int32} (h : ∀ k : Nat, f k = 0 ∨ f k = 1) (e : g = upd f i (vp_nar .boolean x)) : ∀ k : Nat, g k = 0 ∨ g k = 1 := by
  intro k
  rw [e]
  by_cases q : k = i
  · rw [q, pk_us]
    obtain ⟨j, hj, ej⟩ := pk_andE x (m := 1) 1 (by decide)
    have h1 : vp_nar .boolean x = x &&& 1 := rfl
    rw [h1, ej]
    rcases (show j = 0 ∨ j = 1 by omega) with rfl | rfl
    · exact Or.inl rfl
    · exact Or.inr rfl
  · rw [pk_un q]; exact h k
