noncomputable def x_node (a : aS) (v0 v w : Int32) : Int × aS := (noX a.2.1 (a.1 1).toNat v0.toInt v.toInt w.toInt, a)
noncomputable def x_odds (a : aS) (v w : Int32) : Int × aS := (odX a.2.1 (a.1 1) (a.1 5) v.toInt w.toInt, a)
noncomputable def x_slow (a : aS) (v : Int32) : Int × aS := (swX a.2.1 (a.1 1).toNat (a.1 5) v.toInt (a.1 0), a)
/-- worths between 0 and 100 -/
def wOK (V : Nat → Nat → Int) (n : Int) : Prop := ∀ i : Nat, (i : Int) < n → 0 ≤ V i 5 ∧ V i 5 ≤ 100
def vOK2 (a : aS) : Prop := vOK a ∧ wOK a.2.1 (a.1 1)
theorem vOK2_pass {a : aS} {v : Int32} (h : vOK2 a) : vOK2 (x_pass a v).2 := ⟨vOK_pass h.1, h.2⟩
theorem vOK2_silence {a : aS} {v0 v w : Int32} (h : vOK2 a) : vOK2 (x_silence a v0 v w).2 := h
theorem vOK2_set {a : aS} {v w : Int32} (h : vOK2 a) : vOK2 (x_set a v w).2 := h
theorem vOK2_tie {a : aS} {v0 v w : Int32} (h : vOK2 a) : vOK2 (x_tie a v0 v w).2 := h
theorem wOK_row {V : Nat → Nat → Int} {n : Int} {i0 : Nat} {R : Nat → Int} (h : wOK V n) (h5 : R 5 = V i0 5) : wOK (va_up V i0 R) n := fun i hi => by
  by_cases q : i = i0
  · rw [q, va_up_self, h5]; rw [q] at hi; exact h i0 hi
  · rw [va_up_ne _ _ q]; exact h i hi
theorem wOK_alX {V U : Nat → Nat → Int} {na ns nw cap so th ma wo : Int} (h : wOK V na) : wOK (alX V U na ns nw cap so th ma wo).2.2 (alX V U na ns nw cap so th ma wo).2.1 := by
  by_cases ok : alOK so th ma wo
  · rcases e : rpF V so th ma nw na.toNat with _ | i
    · by_cases hn : 200 ≤ na
      · rw [alX_full ok e hn]; exact h
      · rw [alX_new ok e hn]
        intro j hj
        have hj : (j : Int) < na + 1 := hj
        show 0 ≤ va_up V na.toNat (alRow na nw so th ma wo (siB U so nw ns) (cpB V so nw cap (siB U so nw ns) na.toNat)) j 5 ∧ va_up V na.toNat (alRow na nw so th ma wo (siB U so nw ns) (cpB V so nw cap (siB U so nw ns) na.toNat)) j 5 ≤ 100
        by_cases q : j = na.toNat
        · rw [q, va_up_self]
          show 0 ≤ wo ∧ wo ≤ 100
          unfold alOK at ok; omega
        · rw [va_up_ne _ _ q]; exact h j (by omega)
    · rw [alX_rep ok e]
      exact wOK_row (R := reRow (V i) nw) h rfl
  · rw [alX_bad ok]; exact h
theorem vOK2_alarm {a : aS} {v1 v2 v3 v4 : Int32} (h : vOK2 a) : vOK2 (x_alarm a v1 v2 v3 v4).2 := ⟨vOK_alarm h.1, by
  unfold x_alarm
  dsimp only
  rw [va_up_self]
  exact wOK_alX h.2⟩
theorem wOK_veX {V : Nat → Nat → Int} {na v0 : Int} {v w : Int32} (h : wOK V na) : wOK (veX V na v0 v w).2 na := by
  by_cases ok : veOK V na v0 v
  · rw [veX_ok ok]
    exact wOK_row (R := veRow (V v0.toNat) (heT (V v0.toNat 13) v w) (heF (V v0.toNat 14) v w) (heS (heT (V v0.toNat 13) v w) (heF (V v0.toNat 14) v w) (V v0.toNat 12))) h rfl
  · rw [veX_no ok]; exact h
theorem vOK2_verdict {a : aS} {v0 v w : Int32} (h : vOK2 a) : vOK2 (x_verdict a v0 v w).2 := ⟨vOK_verdict h.1, wOK_veX h.2⟩
/-- the tree of a fresh object -/
theorem tX_0 {a : Nat} {g1 g2 : Nat → Option Nat} {V : Nat → Nat → Int} (h1 : ∀ i, g1 i = none) (h2 : ∀ i, g2 i = none) : tX [a] (fun _ => (3, 0)) (fun _ => .inr (3, [.null, .int 0, .int 0, .null, .null, .int 0, .int 0, .int 0])) a g1 g2 V (0 : Int32).toInt.toNat := by
  have h3 : (0 : Int32).toInt = 0 := rfl
  have nd : ∀ (d : Nat) (p : Int) (b : Nat), (fun (d : Nat) (p : Int) => if d = 0 ∧ p = 0 then some a else none) d p = some b → d = 0 ∧ p = 0 ∧ b = a := fun d p b h => by
    by_cases q : d = 0 ∧ p = 0
    · have h : (if d = 0 ∧ p = 0 then some a else none) = some b := h
      rw [if_pos q] at h
      cases h
      exact ⟨q.1, q.2, rfl⟩
    · have h : (if d = 0 ∧ p = 0 then some a else none) = some b := h
      rw [if_neg q] at h
      cases h
  refine ⟨fun d p => if d = 0 ∧ p = 0 then some a else none, ⟨if_pos ⟨rfl, rfl⟩, ?_, ?_, ?_, ?_⟩, ?_, ?_, ?_⟩
  · intro d p b hb
    obtain ⟨e1, e2, e3⟩ := nd d p b hb
    subst e1; subst e2; subst e3
    refine ⟨by decide, ⟨List.mem_singleton.mpr rfl, rfl⟩, rfl, fun k hk => ?_⟩
    rcases (show k = 5 ∨ k = 6 ∨ k = 7 by omega) with q | q | q <;> subst q <;> rfl
  · intro d p b hb
    obtain ⟨e1, e2, e3⟩ := nd d p b hb
    refine ⟨fun _ => ⟨e2, rfl⟩, fun d' hd => ?_⟩
    omega
  · intro d p b hb hd
    obtain ⟨e1, e2, e3⟩ := nd d p b hb
    refine ⟨[], rfl, fun b hb => (by cases hb), fun m _ _ => ?_⟩
    exact (if_neg (fun q => by omega)).symm
  · intro d p d' p' b hb hb'
    obtain ⟨e1, e2, e3⟩ := nd d p b hb
    obtain ⟨f1, f2, f3⟩ := nd d' p' b hb'
    exact ⟨by omega, by omega⟩
  · intro i hi
    exact absurd hi (by omega)
  · intro i hi
    exact absurd hi (by omega)
  · intro t ht
    rw [h2 t]
    rfl
