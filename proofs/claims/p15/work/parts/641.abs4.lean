noncomputable def x_plan (a : aS) (v w : Int32) : Int × aS := (plnX a.2.1 a.2.2.2 (a.1 1).toNat (a.1 3).toNat (a.1 5) (a.1 6) v.toInt w.toInt, a)
noncomputable def x_worth (a : aS) (v w : Int32) : Int × aS := (wthX a.2.1 a.2.2.2 (a.1 1).toNat (a.1 3).toNat (a.1 5) (a.1 6) v.toInt w.toInt, a)
/-- tries between 0 and 5 -/
def vOK4 (a : aS) : Prop := vOK3 a ∧ 0 ≤ a.1 6 ∧ a.1 6 ≤ 5
theorem vOK4_pass {a : aS} {v : Int32} (h : vOK4 a) : vOK4 (x_pass a v).2 := ⟨vOK3_pass h.1, h.2⟩
theorem vOK4_silence {a : aS} {v0 v w : Int32} (h : vOK4 a) : vOK4 (x_silence a v0 v w).2 := ⟨vOK3_silence h.1, h.2⟩
theorem vOK4_alarm {a : aS} {v1 v2 v3 v4 : Int32} (h : vOK4 a) : vOK4 (x_alarm a v1 v2 v3 v4).2 := ⟨vOK3_alarm h.1, by
  unfold x_alarm
  dsimp only
  rw [va_up_ne _ _ (by decide)]
  exact h.2⟩
theorem vOK4_verdict {a : aS} {v0 v w : Int32} (h : vOK4 a) : vOK4 (x_verdict a v0 v w).2 := ⟨vOK3_verdict h.1, h.2⟩
theorem vOK4_tie {a : aS} {v0 v w : Int32} (h : vOK4 a) : vOK4 (x_tie a v0 v w).2 := ⟨vOK3_tie h.1, by
  unfold x_tie
  dsimp only
  rw [va_up_ne _ _ (by decide)]
  exact h.2⟩
theorem vOK4_set {a : aS} {v w : Int32} (h : vOK4 a) : vOK4 (x_set a v w).2 := ⟨vOK3_set h.1, by
  unfold x_set
  dsimp only
  rw [va_up_self]
  unfold seT
  have := h.2
  split
  · rename_i q; omega
  · omega⟩
