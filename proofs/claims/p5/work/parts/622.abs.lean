/-- the state of either side, in numbers: now 0, alarms 1, silences 2, ties 3, cap 4, needs 5, tries 6; the tables of alarms, silences, ties -/
abbrev aS := (Nat → Int) × (Nat → Nat → Int) × (Nat → Nat → Int) × (Nat → Nat → Int)
def vOK (a : aS) : Prop := (∀ i : Nat, (i : Int) < a.1 1 → 0 ≤ a.2.1 i 10 ∧ a.2.1 i 10 ≤ 10000) ∧ (∀ i : Nat, (i : Int) < a.1 1 → 0 ≤ a.2.1 i 1 ∧ a.2.1 i 1 ≤ a.1 0) ∧ (∀ i j : Nat, i ≤ j → (j : Int) < a.1 1 → a.2.1 i 1 ≤ a.2.1 j 1) ∧ vBit a.2.1 (a.1 1) ∧ (0 ≤ a.1 0 ∧ a.1 0 ≤ 10000) ∧ 0 ≤ a.1 1
noncomputable def x_pass (a : aS) (v : Int32) : Int × aS := ((gpA (Int32.ofInt (a.1 0)) v).toInt, (va_up a.1 0 (gpN (Int32.ofInt (a.1 0)) v).toInt, a.2))
noncomputable def x_alarm (a : aS) (v1 v2 v3 v4 : Int32) : Int × aS := ((alX a.2.1 a.2.2.1 (a.1 1) (a.1 2) (a.1 0) (a.1 4) v1.toInt v2.toInt v3.toInt v4.toInt).1, (va_up a.1 1 (alX a.2.1 a.2.2.1 (a.1 1) (a.1 2) (a.1 0) (a.1 4) v1.toInt v2.toInt v3.toInt v4.toInt).2.1, (alX a.2.1 a.2.2.1 (a.1 1) (a.1 2) (a.1 0) (a.1 4) v1.toInt v2.toInt v3.toInt v4.toInt).2.2, a.2.2))
noncomputable def x_silence (a : aS) (v0 v w : Int32) : Int × aS := ((slX a.2.2.1 (a.1 2) v0.toInt v.toInt w.toInt).1, (va_up a.1 2 (slX a.2.2.1 (a.1 2) v0.toInt v.toInt w.toInt).2.1, a.2.1, (slX a.2.2.1 (a.1 2) v0.toInt v.toInt w.toInt).2.2, a.2.2.2))
noncomputable def x_set (a : aS) (v w : Int32) : Int × aS := ((F_set v w).toInt, (va_up (va_up (va_up a.1 4 (seC v.toInt w.toInt (a.1 4))) 5 (seL v.toInt w.toInt (a.1 5))) 6 (seT v.toInt w.toInt (a.1 6)), a.2))
noncomputable def x_verdict (a : aS) (v0 v w : Int32) : Int × aS := ((veX a.2.1 (a.1 1) v0.toInt v w).1, (a.1, (veX a.2.1 (a.1 1) v0.toInt v w).2, a.2.2))
noncomputable def x_tie (a : aS) (v0 v w : Int32) : Int × aS := ((tiX a.2.2.2 (a.1 1) (a.1 3) v0.toInt v.toInt w.toInt).1, (va_up a.1 3 (tiX a.2.2.2 (a.1 1) (a.1 3) v0.toInt v.toInt w.toInt).2.1, a.2.1, a.2.2.1, (tiX a.2.2.2 (a.1 1) (a.1 3) v0.toInt v.toInt w.toInt).2.2))
theorem gpN_rng2 {x : Int} {n : Int32} (h : 0 ≤ x ∧ x ≤ 10000) : x ≤ (gpN (Int32.ofInt x) n).toInt ∧ (gpN (Int32.ofInt x) n).toInt ≤ 10000 := by
  have e : (Int32.ofInt x).toInt = x := by
    rw [Int32.toInt_ofInt]
    exact bm32 (by omega)
  unfold gpN
  have t := ad_toInt (x := Int32.ofInt x) (y := n) (z := Int32.ofInt x + n) (zx := x) (zy := n.toInt) rfl e rfl
  split
  · rename_i q; omega
  · omega
theorem vOK_pass {a : aS} {v : Int32} (h : vOK a) : vOK (x_pass a v).2 := by
  obtain ⟨h1, h2, h3, h4, h5, h6⟩ := h
  have b := gpN_rng2 (n := v) h5
  refine ⟨h1, fun i hi => ?_, h3, h4, ?_, h6⟩
  · have := h2 i hi
    show 0 ≤ a.2.1 i 1 ∧ a.2.1 i 1 ≤ va_up a.1 0 (gpN (Int32.ofInt (a.1 0)) v).toInt 0
    rw [va_up_self]
    omega
  · show 0 ≤ va_up a.1 0 (gpN (Int32.ofInt (a.1 0)) v).toInt 0 ∧ va_up a.1 0 (gpN (Int32.ofInt (a.1 0)) v).toInt 0 ≤ 10000
    rw [va_up_self]
    omega
theorem vOK_silence {a : aS} {v0 v w : Int32} (h : vOK a) : vOK (x_silence a v0 v w).2 := h
theorem vOK_set {a : aS} {v w : Int32} (h : vOK a) : vOK (x_set a v w).2 := h
theorem vOK_tie {a : aS} {v0 v w : Int32} (h : vOK a) : vOK (x_tie a v0 v w).2 := h
theorem bcI_0 : bcI 0 = 0 := by decide +kernel
theorem vOK_row {a : aS} {i0 : Nat} {R : Nat → Int} (h : vOK a) (h10 : R 10 = a.2.1 i0 10 ∨ R 10 = a.1 0) (h1 : R 1 = a.2.1 i0 1) (hb : (i0 : Int) < a.1 1 → (0 ≤ R 13 ∧ R 13 < 1024) ∧ (0 ≤ R 14 ∧ R 14 < 1024) ∧ (R 12 = 0 → bcI (R 13) < 2 ∧ bcI (R 14) < 2)) : vOK (a.1, va_up a.2.1 i0 R, a.2.2) := by
  obtain ⟨G, V, U⟩ := a
  obtain ⟨q1, q2, q3, q4, q5, q6⟩ := h
  have r1 : ∀ j, va_up V i0 R j 1 = V j 1 := fun j => by
    by_cases q : j = i0
    · rw [q, va_up_self]; exact h1
    · rw [va_up_ne _ _ q]
  refine ⟨fun j hj => ?_, fun j hj => ?_, fun j k hjk hk => ?_, fun j hj => ?_, q5, q6⟩
  · show 0 ≤ va_up V i0 R j 10 ∧ va_up V i0 R j 10 ≤ 10000
    by_cases q : j = i0
    · rw [q, va_up_self]
      rcases h10 with z | z
      · rw [z]; exact q1 i0 (q ▸ hj)
      · rw [z]; exact q5
    · rw [va_up_ne _ _ q]; exact q1 j hj
  · show 0 ≤ va_up V i0 R j 1 ∧ va_up V i0 R j 1 ≤ G 0
    rw [r1]; exact q2 j hj
  · show va_up V i0 R j 1 ≤ va_up V i0 R k 1
    rw [r1, r1]; exact q3 j k hjk hk
  · show (0 ≤ va_up V i0 R j 13 ∧ va_up V i0 R j 13 < 1024) ∧ (0 ≤ va_up V i0 R j 14 ∧ va_up V i0 R j 14 < 1024) ∧ (va_up V i0 R j 12 = 0 → bcI (va_up V i0 R j 13) < 2 ∧ bcI (va_up V i0 R j 14) < 2)
    by_cases q : j = i0
    · rw [q, va_up_self]; exact hb (q ▸ hj)
    · rw [va_up_ne _ _ q]; exact q4 j hj
theorem vOK_add {a : aS} {R : Nat → Int} (h : vOK a) (h10 : R 10 = a.1 0) (h1 : R 1 = a.1 0) (hb : R 12 = 0 ∧ R 13 = 0 ∧ R 14 = 0) : vOK (va_up a.1 1 (a.1 1 + 1), va_up a.2.1 (a.1 1).toNat R, a.2.2) := by
  obtain ⟨G, V, U⟩ := a
  obtain ⟨q1, q2, q3, q4, q5, q6⟩ := h
  have E0 : va_up G 1 (G 1 + 1) 0 = G 0 := va_up_ne _ _ (by decide)
  have E1 : va_up G 1 (G 1 + 1) 1 = G 1 + 1 := va_up_self _ _ _
  have q1 : ∀ i : Nat, (i : Int) < G 1 → 0 ≤ V i 10 ∧ V i 10 ≤ 10000 := q1
  have q2 : ∀ i : Nat, (i : Int) < G 1 → 0 ≤ V i 1 ∧ V i 1 ≤ G 0 := q2
  have q3 : ∀ i j : Nat, i ≤ j → (j : Int) < G 1 → V i 1 ≤ V j 1 := q3
  have q5 : 0 ≤ G 0 ∧ G 0 ≤ 10000 := q5
  have q6 : 0 ≤ G 1 := q6
  have h10 : R 10 = G 0 := h10
  have h1 : R 1 = G 0 := h1
  show vOK (va_up G 1 (G 1 + 1), va_up V (G 1).toNat R, U)
  refine ⟨fun j hj => ?_, fun j hj => ?_, fun j k hjk hk => ?_, fun j hj => ?_, ?_, ?_⟩
  · have hj : (j : Int) < va_up G 1 (G 1 + 1) 1 := hj
    rw [E1] at hj
    show 0 ≤ va_up V (G 1).toNat R j 10 ∧ va_up V (G 1).toNat R j 10 ≤ 10000
    by_cases q : j = (G 1).toNat
    · rw [q, va_up_self, h10]; exact q5
    · rw [va_up_ne _ _ q]; exact q1 j (by omega)
  · have hj : (j : Int) < va_up G 1 (G 1 + 1) 1 := hj
    rw [E1] at hj
    show 0 ≤ va_up V (G 1).toNat R j 1 ∧ va_up V (G 1).toNat R j 1 ≤ va_up G 1 (G 1 + 1) 0
    rw [E0]
    by_cases q : j = (G 1).toNat
    · rw [q, va_up_self, h1]; omega
    · rw [va_up_ne _ _ q]; exact q2 j (by omega)
  · have hk : (k : Int) < va_up G 1 (G 1 + 1) 1 := hk
    rw [E1] at hk
    show va_up V (G 1).toNat R j 1 ≤ va_up V (G 1).toNat R k 1
    by_cases q : k = (G 1).toNat
    · by_cases q2' : j = (G 1).toNat
      · rw [q, q2']; exact Int.le_refl _
      · rw [q, va_up_self, va_up_ne _ _ q2', h1]; exact (q2 j (by omega)).2
    · have q2' : j ≠ (G 1).toNat := by omega
      rw [va_up_ne _ _ q, va_up_ne _ _ q2']; exact q3 j k hjk (by omega)
  · have hj : (j : Int) < va_up G 1 (G 1 + 1) 1 := hj
    rw [E1] at hj
    show (0 ≤ va_up V (G 1).toNat R j 13 ∧ va_up V (G 1).toNat R j 13 < 1024) ∧ (0 ≤ va_up V (G 1).toNat R j 14 ∧ va_up V (G 1).toNat R j 14 < 1024) ∧ (va_up V (G 1).toNat R j 12 = 0 → bcI (va_up V (G 1).toNat R j 13) < 2 ∧ bcI (va_up V (G 1).toNat R j 14) < 2)
    by_cases q : j = (G 1).toNat
    · rw [q, va_up_self, hb.1, hb.2.1, hb.2.2, bcI_0]; omega
    · rw [va_up_ne _ _ q]; exact q4 j (show (j : Int) < G 1 by omega)
  · show 0 ≤ va_up G 1 (G 1 + 1) 0 ∧ va_up G 1 (G 1 + 1) 0 ≤ 10000
    rw [E0]; exact q5
  · show 0 ≤ va_up G 1 (G 1 + 1) 1
    rw [E1]; omega
theorem vOK_id {a : aS} (h : vOK a) : vOK (va_up a.1 1 (a.1 1), a.2.1, a.2.2) := by
  have e9 : va_up a.1 1 (a.1 1) = a.1 := by
    funext j
    by_cases q : j = 1
    · rw [q, va_up_self]
    · rw [va_up_ne _ _ q]
  rw [e9]
  exact h
theorem vOK_alX {a : aS} {ns nw cap so th ma wo : Int} {U : Nat → Nat → Int} (h : vOK a) (e0 : nw = a.1 0) : vOK (va_up a.1 1 (alX a.2.1 U (a.1 1) ns nw cap so th ma wo).2.1, (alX a.2.1 U (a.1 1) ns nw cap so th ma wo).2.2, a.2.2) := by
  by_cases ok : alOK so th ma wo
  · rcases e : rpF a.2.1 so th ma nw (a.1 1).toNat with _ | i
    · by_cases hn : 200 ≤ a.1 1
      · rw [alX_full ok e hn]; exact vOK_id h
      · rw [alX_new ok e hn]
        exact vOK_add h e0 e0 ⟨rfl, rfl, rfl⟩
    · rw [alX_rep ok e]
      have h2 := vOK_row (i0 := i) (R := reRow (a.2.1 i) nw) h (Or.inr e0) rfl (fun hi => h.2.2.2.1 i hi)
      exact vOK_id h2
  · rw [alX_bad ok]; exact vOK_id h
theorem vOK_alarm {a : aS} {v1 v2 v3 v4 : Int32} (h : vOK a) : vOK (x_alarm a v1 v2 v3 v4).2 := vOK_alX h rfl
theorem vOK_veX {a : aS} {v0 : Int} {v w : Int32} (h : vOK a) : vOK (a.1, (veX a.2.1 (a.1 1) v0 v w).2, a.2.2) := by
  by_cases ok : veOK a.2.1 (a.1 1) v0 v
  · rw [veX_ok ok]
    obtain ⟨o1, o2, o3, o4⟩ := id ok
    have hin : ((v0.toNat : Nat) : Int) < a.1 1 := by omega
    obtain ⟨b1, b2, b3⟩ := h.2.2.2.1 _ hin
    obtain ⟨T, eT⟩ : ∃ T, T = heT (a.2.1 v0.toNat 13) v w := ⟨_, rfl⟩
    obtain ⟨F, eF⟩ : ∃ F, F = heF (a.2.1 v0.toNat 14) v w := ⟨_, rfl⟩
    have bT := heT_rng (w := w) b1 o2
    have bF := heF_rng (w := w) b2 o2
    rw [← eT] at bT ⊢
    rw [← eF] at bF ⊢
    obtain ⟨S, eS⟩ : ∃ S, S = heS T F (a.2.1 v0.toNat 12) := ⟨_, rfl⟩
    rw [← eS]
    refine vOK_row (i0 := v0.toNat) (R := veRow (a.2.1 v0.toNat) T F S) h (Or.inl rfl) rfl (fun _ => ?_)
    show (0 ≤ T ∧ T < 1024) ∧ (0 ≤ F ∧ F < 1024) ∧ (S = 0 → bcI T < 2 ∧ bcI F < 2)
    refine ⟨bT, bF, fun e => ?_⟩
    rw [e] at eS
    unfold heS at eS
    by_cases c1 : 2 ≤ bcI T
    · rw [if_pos c1] at eS; omega
    · rw [if_neg c1] at eS
      by_cases c2 : 2 ≤ bcI F
      · rw [if_pos c2] at eS; omega
      · omega
  · rw [veX_no ok]; exact h
theorem vOK_verdict {a : aS} {v0 v w : Int32} (h : vOK a) : vOK (x_verdict a v0 v w).2 := vOK_veX h
