theorem it_of {P : Prop} {r : Int} (h : (P ∧ r = 1) ∨ (¬ P ∧ r = 0)) : (P ↔ r = 1) ∧ (r = 0 ∨ r = 1) := by
  rcases h with ⟨h1, h2⟩ | ⟨h1, h2⟩
  · exact ⟨⟨fun _ => h2, fun _ => h1⟩, Or.inr h2⟩
  · exact ⟨⟨fun q => absurd q h1, fun q => by omega⟩, Or.inl h2⟩
section MPL
variable {V Y : Nat → Nat → Int} {n nt m : Nat} {le : Int} {c : Nat → Nat}
theorem lk_of {r : Int} (h : ((∃ i, i < n ∧ inC V c n m i ∧ dpF V n (V i 4) le 4 = 0) ∧ r = 1) ∨ ((¬ (∃ i, i < n ∧ inC V c n m i ∧ dpF V n (V i 4) le 4 = 0)) ∧ r = 0)) : (lkW (wF V c n le n) m ↔ r = 1) ∧ (r = 0 ∨ r = 1) := by
  unfold lkW
  rw [wF_3]
  rcases h with ⟨h1, h2⟩ | ⟨h1, h2⟩
  · rw [if_pos h1]; exact ⟨⟨fun _ => h2, fun _ => by decide⟩, Or.inr h2⟩
  · rw [if_neg h1]; exact ⟨⟨fun q => absurd rfl q, fun q => by omega⟩, Or.inl h2⟩
theorem wX_of (h : Lab (lvN V n) (hgE V Y n nt) c) : wF V c n le n = wX V Y n nt le := by
  funext m j
  exact wF_cong (fun i hi => cnF_of h hi)
theorem wb_F (hw : ∀ i, i < n → 0 ≤ V i 5 ∧ V i 5 ≤ 100) (hn : n ≤ 200) : wbW (wF V c n le n) n := fun m _ => by
  rw [wF_1, wF_2]
  have r := ctF_rng (C := inC V c n m) n
  exact ⟨⟨r.1, by omega⟩, ⟨mxF_nn n, mxF_le n (by decide) (fun i hi _ => (scI_rng (hw i hi)).2)⟩, wF_3b⟩
end MPL
/-- the reference's rows -/
theorem oI.add {g g' : Nat → Int32} {t : Nat → Nat} {c m : Nat} {z i : Int32} (h : oI g t c) (eg : g' = upd g i.toNatClampNeg z) (ei : i.toNatClampNeg = c) (hz : z.toInt = (m : Int)) : oI g' (va_up t c m) (c + 1) := fun j hj => by
  rw [ei] at eg
  by_cases q : j = c
  · rw [q, eg, pk_us, va_up_self]; exact hz
  · rw [eg, pk_un q, va_up_ne _ _ q]; exact h j (by omega)
def rmI (g : Nat → Int32) (φ : Nat → Int) (p : Nat → Nat) (c : Nat) : Prop := ∀ j, j < c → (g j).toInt = φ (p j)
theorem rmI.add {g g' : Nat → Int32} {φ : Nat → Int} {p : Nat → Nat} {c m : Nat} {z i : Int32} (h : rmI g φ p c) (eg : g' = upd g i.toNatClampNeg z) (ei : i.toNatClampNeg = c) (hz : z.toInt = φ m) : rmI g' φ (va_up p c m) (c + 1) := fun j hj => by
  rw [ei] at eg
  by_cases q : j = c
  · rw [q, eg, pk_us, va_up_self]; exact hz
  · rw [eg, pk_un q, va_up_ne _ _ q]; exact h j (by omega)
section MS
variable {w : Nat → Nat} {s : Nat → Int} {n m t T : Nat} {be mo se su : Int32}
theorem smW_y (h : t / 2 ^ n % 2 = 1) : smW w t (n + 1) = smW w t n + w n := by
  show smW w t n + (if t / 2 ^ n % 2 = 1 then w n else 0) = _
  rw [if_pos h]
theorem smW_n (h : ¬ t / 2 ^ n % 2 = 1) : smW w t (n + 1) = smW w t n := by
  show smW w t n + (if t / 2 ^ n % 2 = 1 then w n else 0) = _
  rw [if_neg h, Nat.add_zero]
theorem smS_y (h : t / 2 ^ n % 2 = 1) : smS s t (n + 1) = smS s t n + s n := by
  show smS s t n + (if t / 2 ^ n % 2 = 1 then s n else 0) = _
  rw [if_pos h]
theorem smS_n (h : ¬ t / 2 ^ n % 2 = 1) : smS s t (n + 1) = smS s t n := by
  show smS s t n + (if t / 2 ^ n % 2 = 1 then s n else 0) = _
  rw [if_neg h, Int.add_zero]
/-- the best set so far -/
def bsI (w : Nat → Nat) (s : Nat → Int) (n m t : Nat) (be mo : Int32) : Prop := 0 ≤ be.toInt ∧ be.toInt.toNat = (bsS w s n m t).1 ∧ mo.toInt = (bsS w s n m t).2
theorem bsI.yes (h : bsI w s n m t be mo) (hT : T = t + 1) (e : se.toInt.toNat = T) (h0 : 0 ≤ se.toInt) (hw : smW w T n ≤ m) (hs : mo.toInt < smS s T n) (hsu : su.toInt = smS s T n) : bsI w s n m (t + 1) se su := by
  subst hT
  obtain ⟨h1, h2, h3⟩ := h
  unfold bsI
  rw [bsS_y ⟨hw, by rw [← h3]; exact hs⟩]
  exact ⟨h0, e, hsu⟩
theorem bsI.no (h : bsI w s n m t be mo) (hT : T = t + 1) (hn : ¬ (smW w T n ≤ m ∧ mo.toInt < smS s T n)) : bsI w s n m (t + 1) be mo := by
  subst hT
  obtain ⟨h1, h2, h3⟩ := h
  unfold bsI
  rw [bsS_n (by rw [← h3]; exact hn)]
  exact ⟨h1, h2, h3⟩
end MS
/-- what worth sums -/
noncomputable def wsF (W : Nat → Nat → Int) (o : Nat → Nat) (C : Nat → Prop) (w : Int) (k : Nat) : Int := if w = 2 then suI (mnW W) o C k else if w = 0 then suI (scW W) o C k else suI (scW W) o (fun x => ¬ C x) k
section WS
variable {W : Nat → Nat → Int} {o : Nat → Nat} {C : Nat → Prop} {w : Int} {k : Nat}
theorem ws_step {x : Int} (h : (w = 2 ∧ ((C (o k) ∧ x = mnW W (o k)) ∨ (¬ C (o k) ∧ x = 0))) ∨ (w = 0 ∧ ((C (o k) ∧ x = scW W (o k)) ∨ (¬ C (o k) ∧ x = 0))) ∨ (¬ w = 2 ∧ ¬ w = 0 ∧ ((¬ C (o k) ∧ x = scW W (o k)) ∨ (C (o k) ∧ x = 0)))) : wsF W o C w (k + 1) = wsF W o C w k + x := by
  unfold wsF
  rcases h with ⟨h1, h2⟩ | ⟨h1, h2⟩ | ⟨h1, h0, h2⟩
  · rw [if_pos h1, if_pos h1]
    rcases h2 with ⟨h3, h4⟩ | ⟨h3, h4⟩
    · rw [suI_y h3, h4]
    · rw [suI_n h3, h4]; omega
  · rw [if_neg (by omega), if_pos h1, if_neg (by omega), if_pos h1]
    rcases h2 with ⟨h3, h4⟩ | ⟨h3, h4⟩
    · rw [suI_y h3, h4]
    · rw [suI_n h3, h4]; omega
  · rw [if_neg h1, if_neg h0, if_neg h1, if_neg h0]
    rcases h2 with ⟨h3, h4⟩ | ⟨h3, h4⟩
    · rw [suI_y (C := fun x => ¬ C x) h3, h4]
    · rw [suI_n (C := fun x => ¬ C x) (fun q => q h3), h4]; omega
theorem ws_0 : wsF W o C w 0 = 0 := by
  unfold wsF
  split
  · rfl
  · split <;> rfl
theorem ws_end {t : Nat → Nat} {c N : Nat} (ho : jnj o N) (ht : jnj t c) (hi : ∀ i, i < c → ∃ k, k < N ∧ o k = t i) (hw : 0 ≤ w ∧ w ≤ 2) : wsF W o (inT t c) w N = if w = 0 then suF (scW W) t c else if w = 1 then suF (scW W) o N - suF (scW W) t c else suF (mnW W) t c := by
  unfold wsF
  rcases (show w = 0 ∨ w = 1 ∨ w = 2 by omega) with q | q | q
  · rw [if_neg (by omega), if_pos q, if_pos q, suI_inT ho c ht hi]
  · rw [if_neg (by omega), if_neg (by omega), if_neg (by omega), if_pos q, suI_not N (C := inT t c) (fun x => Iff.rfl), suI_inT ho c ht hi]
  · rw [if_pos q, if_neg (by omega), if_neg (by omega), suI_inT ho c ht hi]
end WS
