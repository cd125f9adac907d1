noncomputable def x_told (a : aS) (v w : Int32) : Int × aS := (toX a.2.1 a.2.2.2 (a.1 1).toNat (a.1 3).toNat (a.1 5) v.toInt w.toInt, a)
noncomputable def x_order (a : aS) (v : Int32) : Int × aS := (odrX a.2.1 a.2.2.2 (a.1 1).toNat (a.1 3).toNat (a.1 5) v.toInt, a)
noncomputable def x_caseOf (a : aS) (v w : Int32) : Int × aS := (coX a.2.1 a.2.2.2 (a.1 1).toNat (a.1 3).toNat (a.1 5) v.toInt w.toInt, a)
noncomputable def x_count (a : aS) (v : Int32) : Int × aS := (ctX a.2.1 a.2.2.2 (a.1 1).toNat (a.1 3).toNat (a.1 5) (a.1 0) (a.1 2) v.toInt, a)
/-- marks between 0 and 4095 -/
def mOK (V : Nat → Nat → Int) (n : Int) : Prop := ∀ i : Nat, (i : Int) < n → 0 ≤ V i 4 ∧ V i 4 < 4096
def vOK3 (a : aS) : Prop := vOK2 a ∧ mOK a.2.1 (a.1 1) ∧ yOK a.2.2.2 (a.1 1).toNat (a.1 3).toNat ∧ 0 ≤ a.1 3
theorem vOK3_pass {a : aS} {v : Int32} (h : vOK3 a) : vOK3 (x_pass a v).2 := ⟨vOK2_pass h.1, h.2⟩
theorem vOK3_silence {a : aS} {v0 v w : Int32} (h : vOK3 a) : vOK3 (x_silence a v0 v w).2 := ⟨vOK2_silence h.1, h.2⟩
theorem vOK3_set {a : aS} {v w : Int32} (h : vOK3 a) : vOK3 (x_set a v w).2 := ⟨vOK2_set h.1, h.2⟩
theorem mOK_row {V : Nat → Nat → Int} {n : Int} {i0 : Nat} {R : Nat → Int} (h : mOK V n) (h4 : R 4 = V i0 4) : mOK (va_up V i0 R) n := fun i hi => by
  by_cases q : i = i0
  · rw [q, va_up_self, h4]; rw [q] at hi; exact h i0 hi
  · rw [va_up_ne _ _ q]; exact h i hi
theorem mOK_alX {V U : Nat → Nat → Int} {na ns nw cap so th ma wo : Int} (h : mOK V na) : mOK (alX V U na ns nw cap so th ma wo).2.2 (alX V U na ns nw cap so th ma wo).2.1 ∧ na ≤ (alX V U na ns nw cap so th ma wo).2.1 := by
  by_cases ok : alOK so th ma wo
  · rcases e : rpF V so th ma nw na.toNat with _ | i
    · by_cases hn : 200 ≤ na
      · rw [alX_full ok e hn]; exact ⟨h, Int.le_refl _⟩
      · rw [alX_new ok e hn]
        refine ⟨?_, show na ≤ na + 1 by omega⟩
        intro j hj
        have hj : (j : Int) < na + 1 := hj
        show 0 ≤ va_up V na.toNat (alRow na nw so th ma wo (siB U so nw ns) (cpB V so nw cap (siB U so nw ns) na.toNat)) j 4 ∧ va_up V na.toNat (alRow na nw so th ma wo (siB U so nw ns) (cpB V so nw cap (siB U so nw ns) na.toNat)) j 4 < 4096
        by_cases q : j = na.toNat
        · rw [q, va_up_self]
          show 0 ≤ ma ∧ ma < 4096
          unfold alOK at ok; omega
        · rw [va_up_ne _ _ q]; exact h j (by omega)
    · rw [alX_rep ok e]
      exact ⟨mOK_row (R := reRow (V i) nw) h rfl, Int.le_refl _⟩
  · rw [alX_bad ok]; exact ⟨h, Int.le_refl _⟩
theorem yOK.up {Y : Nat → Nat → Int} {n n' nt : Nat} (h : yOK Y n nt) (hn : n ≤ n') : yOK Y n' nt := ⟨fun k hk => by have := h.1 k hk; omega, h.2⟩
theorem vOK3_alarm {a : aS} {v1 v2 v3 v4 : Int32} (h : vOK3 a) : vOK3 (x_alarm a v1 v2 v3 v4).2 := by
  obtain ⟨h1, h2, h3, h4⟩ := h
  have m := mOK_alX (U := a.2.2.1) (ns := a.1 2) (nw := a.1 0) (cap := a.1 4) (so := v1.toInt) (th := v2.toInt) (ma := v3.toInt) (wo := v4.toInt) h2
  refine ⟨vOK2_alarm h1, ?_, ?_, ?_⟩
  · unfold x_alarm
    dsimp only
    rw [va_up_self]
    exact m.1
  · unfold x_alarm
    dsimp only
    rw [va_up_self, va_up_ne _ _ (by decide)]
    exact h3.up (by omega)
  · unfold x_alarm
    dsimp only
    rw [va_up_ne _ _ (by decide)]
    exact h4
theorem mOK_veX {V : Nat → Nat → Int} {na v0 : Int} {v w : Int32} (h : mOK V na) : mOK (veX V na v0 v w).2 na := by
  by_cases ok : veOK V na v0 v
  · rw [veX_ok ok]
    exact mOK_row (R := veRow (V v0.toNat) (heT (V v0.toNat 13) v w) (heF (V v0.toNat 14) v w) (heS (heT (V v0.toNat 13) v w) (heF (V v0.toNat 14) v w) (V v0.toNat 12))) h rfl
  · rw [veX_no ok]; exact h
theorem vOK3_verdict {a : aS} {v0 v w : Int32} (h : vOK3 a) : vOK3 (x_verdict a v0 v w).2 := ⟨vOK2_verdict h.1, mOK_veX h.2.1, h.2.2⟩
theorem fdF_no {Y : Nat → Nat → Int} {a b : Int} (n : Nat) (h : fdF Y a b n = none) : ∀ i, i < n → ¬ fdC Y a b i := by
  induction n with
  | zero => intro i hi; omega
  | succ n ih =>
    have h : (match fdF Y a b n with | some i => some i | none => @ite _ (fdC Y a b n) (Classical.propDecidable _) (some n) none) = none := h
    rcases e : fdF Y a b n with _ | j
    · rw [e] at h
      have h : @ite _ (fdC Y a b n) (Classical.propDecidable _) (some n) none = none := h
      intro i hi q
      by_cases z : i = n
      · rw [z] at q; rw [if_pos q] at h; cases h
      · exact ih e i (by omega) q
    · rw [e] at h; cases h
theorem yOK_tiX {Y : Nat → Nat → Int} {tz na a b w : Int} (h : yOK Y na.toNat tz.toNat) (h0 : 0 ≤ tz) : yOK (tiX Y na tz a b w).2.2 na.toNat (tiX Y na tz a b w).2.1.toNat ∧ 0 ≤ (tiX Y na tz a b w).2.1 := by
  by_cases ok : tiOK na a b
  · have hok := ok
    unfold tiOK at hok
    rw [tiX_yes ok]
    have r0 : tiRow a b w 0 = min a b := rfl
    have r1 : tiRow a b w 1 = max a b := rfl
    rcases e : fdF Y a b tz.toNat with _ | i
    · by_cases z : 60 ≤ tz
      · rw [teX_full e z]; exact ⟨h, h0⟩
      · rw [teX_new e z]
        refine ⟨?_, show 0 ≤ tz + 1 by omega⟩
        show yOK (va_up Y tz.toNat (tiRow a b w)) na.toNat (tz + 1).toNat
        rw [show (tz + 1).toNat = tz.toNat + 1 by omega]
        have no := fdF_no _ e
        refine ⟨fun k hk => ?_, fun k k' hk hk' h1 h2 => ?_⟩
        · by_cases q : k = tz.toNat
          · rw [q, va_up_self, r0, r1]; omega
          · rw [va_up_ne _ _ q]; exact h.1 k (by omega)
        · by_cases q : k = tz.toNat
          · by_cases q' : k' = tz.toNat
            · omega
            · rw [q, va_up_self, va_up_ne _ _ q', r0] at h1
              rw [q, va_up_self, va_up_ne _ _ q', r1] at h2
              exact absurd (show fdC Y a b k' by unfold fdC; omega) (no k' (by omega))
          · by_cases q' : k' = tz.toNat
            · rw [q', va_up_self, va_up_ne _ _ q, r0] at h1
              rw [q', va_up_self, va_up_ne _ _ q, r1] at h2
              exact absurd (show fdC Y a b k by unfold fdC; omega) (no k (by omega))
            · rw [va_up_ne _ _ q, va_up_ne _ _ q'] at h1 h2
              exact h.2 k k' (by omega) (by omega) h1 h2
    · by_cases z : Y i 2 = w
      · rw [teX_so e z]; exact ⟨h, h0⟩
      · rw [teX_ch e z]
        refine ⟨?_, h0⟩
        show yOK (va_up Y i (tiRow a b w)) na.toNat tz.toNat
        obtain ⟨l1, l2⟩ := fdF_spec _ e
        unfold fdC at l2
        have c0 : ∀ k, va_up Y i (tiRow a b w) k 0 = Y k 0 := fun k => by
          by_cases q : k = i
          · rw [q, va_up_self, r0]; omega
          · rw [va_up_ne _ _ q]
        have c1 : ∀ k, va_up Y i (tiRow a b w) k 1 = Y k 1 := fun k => by
          by_cases q : k = i
          · rw [q, va_up_self, r1]; omega
          · rw [va_up_ne _ _ q]
        refine ⟨fun k hk => by rw [c0, c1]; exact h.1 k hk, fun k k' hk hk' h1 h2 => ?_⟩
        rw [c0, c0] at h1
        rw [c1, c1] at h2
        exact h.2 k k' hk hk' h1 h2
  · rw [tiX_no ok]; exact ⟨h, h0⟩
theorem vOK3_tie {a : aS} {v0 v w : Int32} (h : vOK3 a) : vOK3 (x_tie a v0 v w).2 := by
  obtain ⟨h1, h2, h3, h4⟩ := h
  have m := yOK_tiX (a := v0.toInt) (b := v.toInt) (w := w.toInt) h3 h4
  refine ⟨vOK2_tie h1, h2, ?_, ?_⟩
  · unfold x_tie
    dsimp only
    rw [va_up_self, va_up_ne _ _ (by decide)]
    exact m.1
  · unfold x_tie
    dsimp only
    rw [va_up_self]
    exact m.2
/-- a fresh object -/
theorem tC_0 {L : List Nat} {K : Nat → Nat × Nat} {f : Nat → va_E} {g : Nat → Option Nat} : tC L K f g (0 : Int32).toInt.toNat := fun i hi => by
  have h3 : (0 : Int32).toInt = 0 := rfl
  omega
theorem kFit_0 {V Y : Nat → Nat → Int} {nt : Nat} {le : Int} {f : Nat → va_E} {g g5 : Nat → Option Nat} : kFit V Y (0 : Int32).toInt.toNat nt le f g g5 (0 : Int32).toInt.toNat := by
  rw [show (0 : Int32).toInt.toNat = 0 from rfl]
  exact ⟨fun a => a, fun i hi => absurd hi (Nat.not_lt_zero _), Lab.start.ext1 (fun x y => ⟨fun q => q.elim, fun q => absurd q.2.1.1 (Nat.not_lt_zero _)⟩), fun i hi => absurd hi (Nat.not_lt_zero _), rfl, fun i hi => absurd hi (Nat.not_lt_zero _)⟩
