/-- what the calls that ask of cases answer -/
noncomputable def cnX (V Y : Nat → Nat → Int) (n nt i : Nat) : Int := @ite _ (lvN V n i) (Classical.propDecidable _) (cnV V Y n nt i : Int) (-1)
noncomputable def wX (V Y : Nat → Nat → Int) (n nt : Nat) (le : Int) (m j : Nat) : Int := wF V (cnV V Y n nt) n le n m j
noncomputable def orX (V Y : Nat → Nat → Int) (n nt : Nat) (le : Int) : (Nat → Nat) × Nat := orS (hdC V (cnV V Y n nt) n) (fun m => wX V Y n nt le m 2) n
noncomputable def odrX (V Y : Nat → Nat → Int) (n nt : Nat) (le k : Int) : Int := if 0 ≤ k ∧ k < ((orX V Y n nt le).2 : Int) then ((orX V Y n nt le).1 k.toNat : Int) else -1
def vdI (x y : Int) : Int := bcI (Int32.ofInt x ||| Int32.ofInt y).toInt
noncomputable def toX (V Y : Nat → Nat → Int) (n nt : Nat) (le a w : Int) : Int := if 0 ≤ a ∧ a < (n : Int) then (if w = 0 then V a.toNat 1 else if w = 1 then V a.toNat 2 else if w = 2 then V a.toNat 3 else if w = 3 then V a.toNat 4 else if w = 4 then V a.toNat 5 else if w = 5 then V a.toNat 11 else if w = 6 then V a.toNat 12 else if w = 7 then (if V a.toNat 8 = 0 then 0 else 1) else if w = 8 then (if V a.toNat 9 = 0 then 0 else 1) else if w = 9 then scI V n le a.toNat else if w = 10 then ((dpF V n (V a.toNat 4) le 4 : Nat) : Int) else if w = 11 then vdI (V a.toNat 13) (V a.toNat 14) else if w = 12 then cnX V Y n nt a.toNat else -1) else -1
/-- the k-th of some -/
noncomputable def mbF (C : Nat → Prop) (k : Int) : Nat → Int
  | 0 => -1
  | m + 1 => @ite _ (C m ∧ ctF C m = k) (Classical.propDecidable _) (m : Int) (mbF C k m)
theorem mbF_no {C : Nat → Prop} {k : Int} (n : Nat) (h : ∀ i, i < n → ¬ (C i ∧ ctF C i = k)) : mbF C k n = -1 := by
  induction n with
  | zero => rfl
  | succ n ih => exact (if_neg (h n (by omega))).trans (ih (fun i hi => h i (by omega)))
theorem ctF_up {C : Nat → Prop} {a : Nat} (m : Nat) (h : C a) (hm : a < m) : ctF C a + 1 ≤ ctF C m := by
  induction m with
  | zero => omega
  | succ m ih =>
    by_cases q : a = m
    · rw [q] at h ⊢; rw [ctF_hit h]; exact Int.le_refl _
    · have := ih (by omega)
      by_cases z : C m
      · rw [ctF_hit z]; omega
      · rw [ctF_skip z]; exact this
theorem mbF_at {C : Nat → Prop} {k : Int} {a : Nat} (n : Nat) (h : C a) (hk : ctF C a = k) (hn : a < n) : mbF C k n = (a : Int) := by
  induction n with
  | zero => omega
  | succ n ih =>
    by_cases q : a = n
    · rw [q] at h hk ⊢; exact if_pos ⟨h, hk⟩
    · have := ctF_up n h (by omega)
      exact (if_neg (fun z => by omega)).trans (ih (by omega))
noncomputable def coX (V Y : Nat → Nat → Int) (n nt : Nat) (le a w : Int) : Int := @ite _ ((0 ≤ a ∧ a < (n : Int)) ∧ hdC V (cnV V Y n nt) n a.toNat) (Classical.propDecidable _) (if w = 0 then wX V Y n nt le a.toNat 1 else if w = 1 then wX V Y n nt le a.toNat 2 else if w = 2 then 5 + 2 * wX V Y n nt le a.toNat 1 else if w = 3 then wX V Y n nt le a.toNat 3 else mbF (inC V (cnV V Y n nt) n a.toNat) (w - 10) n) (-1)
noncomputable def ctX (V Y : Nat → Nat → Int) (n nt : Nat) (le nw ns w : Int) : Int := if w = 0 then nw else if w = 1 then (n : Int) else if w = 2 then ctF (kC V 7 0 0) n else if w = 3 then ((orX V Y n nt le).2 : Int) else if w = 4 then ns else if w = 5 then (nt : Int) else -1
section XC
variable {V Y : Nat → Nat → Int} {n nt : Nat} {le : Int} {c : Nat → Nat}
theorem hdC_cong {c c' : Nat → Nat} (h : ∀ i, lvN V n i → c i = c' i) (m : Nat) : hdC V c n m ↔ hdC V c' n m := ⟨fun q => ⟨q.1, by rw [← h m q.1]; exact q.2⟩, fun q => ⟨q.1, by rw [h m q.1]; exact q.2⟩⟩
theorem inC_cong {c c' : Nat → Nat} (h : ∀ i, lvN V n i → c i = c' i) (m : Nat) : inC V c n m = inC V c' n m := by
  funext i
  unfold inC
  exact propext ⟨fun q => ⟨q.1, by rw [← h i q.1]; exact q.2⟩, fun q => ⟨q.1, by rw [h i q.1]; exact q.2⟩⟩
theorem orX_of (h : Lab (lvN V n) (hgE V Y n nt) c) : orS (hdC V c n) (fun m => wF V c n le n m 2) n = orX V Y n nt le := by
  have e : ∀ i, lvN V n i → c i = cnV V Y n nt i := fun i hi => cnF_of h hi
  exact orS_ext n (fun i _ => ⟨hdC_cong e i, fun _ => wF_cong e⟩)
theorem orM_of (h : Lab (lvN V n) (hgE V Y n nt) c) : orS (hdC V c n) (fun m => mxF (inC V c n m) (scI V n le) n) n = orX V Y n nt le := by
  rw [← orX_of h]
  exact orS_ext n (fun i _ => ⟨Iff.rfl, fun _ => wF_2.symm⟩)
theorem kFit.full {f : Nat → va_E} {g g5 : Nat → Option Nat} {cz : Nat} (h : kFit V Y n nt le f g g5 cz) : ∃ c, aU f g n c ∧ (∀ i, lvN V n i → c i = cnV V Y n nt i) ∧ Lab (lvN V n) (hgE V Y n nt) (cnV V Y n nt) ∧ cqCs f g n (wX V Y n nt le) ∧ cz = (orX V Y n nt le).2 ∧ oQ f g g5 (orX V Y n nt le).1 cz := by
  obtain ⟨c, h1, h2, h3, h4, h5⟩ := h
  have e : ∀ i, lvN V n i → c i = cnV V Y n nt i := fun i hi => cnF_of h2 hi
  refine ⟨c, h1, e, cnF_lab h2, fun i hi b hb d hd k hk => ?_, ?_, ?_⟩
  · rw [h3 i hi b hb d hd k hk]; exact wF_cong e
  · rw [h4, orX_of h2]
  · rw [← orX_of h2]; exact h5
theorem aU.lei {L : List Nat} {K : Nat → Nat × Nat} {f : Nat → va_E} {g : Nat → Option Nat} (h : aU f g n c) (j : jN L K n g) (i : Nat) : i < n → c i ≤ i := by
  induction i using Nat.strongRecOn with
  | _ i ih =>
    intro hi
    obtain ⟨b, hb, -⟩ := j i hi
    rcases h i hi b hb with ⟨-, e⟩ | ⟨j', b', h1, h2, h3, h4⟩
    · omega
    · have := ih j' h1 (by omega); omega
theorem aU.hd {L : List Nat} {K : Nat → Nat × Nat} {f : Nat → va_E} {g : Nat → Option Nat} (h : aU f g n c) (j : jN L K n g) {i b : Nat} (hi : i < n) (hb : g i = some b) : cqRf (f b) 16 = none ↔ c i = i := by
  rcases h i hi b hb with ⟨e1, e2⟩ | ⟨j', b', h1, h2, h3, h4⟩
  · exact ⟨fun _ => e2, fun _ => e1⟩
  · constructor
    · intro q; rw [h3] at q; cases q
    · intro q; have := h.lei j j' (by omega); omega
/-- columns that the cases do not look at -/
theorem kFit.cong {V' : Nat → Nat → Int} {f : Nat → va_E} {g g5 : Nat → Option Nat} {cz : Nat} (h : kFit V Y n nt le f g g5 cz) (hV : ∀ i k, k = 1 ∨ k = 3 ∨ k = 4 ∨ k = 5 ∨ k = 8 ∨ k = 9 ∨ k = 12 → V' i k = V i k) : kFit V' Y n nt le f g g5 cz := by
  have e1 : lvN V' n = lvN V n := by
    funext i
    unfold lvN
    rw [hV i 12 (by omega), hV i 8 (by omega), hV i 9 (by omega)]
  have e2 : hgE V' Y n nt = hgE V Y n nt := by
    funext x y
    unfold hgE hgC
    rw [e1, hV x 3 (by omega), hV y 3 (by omega), hV x 1 (by omega), hV y 1 (by omega)]
  have e3 : kC V' = kC V := by
    funext k d p i
    unfold kC
    rw [hV i 4 (by omega), hV i 12 (by omega)]
  have e4 : ∀ (mk le : Int) (m : Nat), dpF V' n mk le m = dpF V n mk le m := fun mk le m => by
    induction m with
    | zero => rfl
    | succ m ih =>
      by_cases q : le ≤ ctF (kC V 6 (m + 1) (pfx (m + 1) mk)) n
      · rw [dpF_hit q, dpF_hit (by rw [e3]; exact q)]
      · rw [dpF_skip q, dpF_skip (by rw [e3]; exact q), ih]
  have e5 : scI V' n le = scI V n le := by
    funext i
    unfold scI scX
    rw [e3, e4, hV i 4 (by omega), hV i 5 (by omega)]
  have e6 : ∀ c m, inC V' c n m = inC V c n m := fun c m => by
    funext i
    unfold inC
    rw [e1]
  have e7 : ∀ c k m j, wF V' c n le k m j = wF V c n le k m j := fun c k m j => by
    unfold wF
    rw [e6, e5]
    have : (∃ i, i < k ∧ inC V c n m i ∧ dpF V' n (V' i 4) le 4 = 0) = (∃ i, i < k ∧ inC V c n m i ∧ dpF V n (V i 4) le 4 = 0) := by
      apply propext
      constructor
      · rintro ⟨i, q1, q2, q3⟩; exact ⟨i, q1, q2, by rw [← hV i 4 (by omega), ← e4]; exact q3⟩
      · rintro ⟨i, q1, q2, q3⟩; exact ⟨i, q1, q2, by rw [e4, hV i 4 (by omega)]; exact q3⟩
    by_cases z1 : j = 1
    · rw [if_pos z1, if_pos z1]
    · rw [if_neg z1, if_neg z1]
      by_cases z2 : j = 2
      · rw [if_pos z2, if_pos z2]
      · rw [if_neg z2, if_neg z2]
        by_cases z3 : ∃ i, i < k ∧ inC V c n m i ∧ dpF V n (V i 4) le 4 = 0
        · rw [if_pos z3, if_pos (by rw [this]; exact z3)]
        · rw [if_neg z3, if_neg (by rw [this]; exact z3)]
  obtain ⟨c, h1, h2, h3, h4, h5⟩ := h
  have e8 : orS (hdC V' c n) (fun m => wF V' c n le n m 2) n = orS (hdC V c n) (fun m => wF V c n le n m 2) n := orS_ext n (fun i _ => ⟨by unfold hdC; rw [e1], fun _ => e7 c n i 2⟩)
  refine ⟨c, h1, by rw [e1, e2]; exact h2, fun i hi b hb d hd k hk => ?_, by rw [e8]; exact h4, by rw [e8]; exact h5⟩
  rw [e7]; exact h3 i hi b hb d hd k hk
theorem kFit.fr {X : List (Nat × Nat)} {L : List Nat} {K : Nat → Nat × Nat} {f f' : Nat → va_E} {g g5 : Nat → Option Nat} {cz : Nat} (h : kFit V Y n nt le f g g5 cz) (h0 : tC L K f g n) (j : jN L K n g) (t : cqT X L K f f') (hX : ((0, 16) ∉ X ∧ (0, 7) ∉ X) ∧ ∀ k, k < 4 → (1, k) ∉ X) : kFit V Y n nt le f' g g5 cz := by
  obtain ⟨c, h1, h2, h3, h4, h5⟩ := h
  exact ⟨c, h1.fr j t hX.1.1, h2, h3.fr h0 j t ⟨hX.1.2, hX.2⟩, h4, h5.fr j (fun i hi => (orS_mem n i (by rw [← h4]; exact hi)).1) t hX.1.2⟩
end XC
