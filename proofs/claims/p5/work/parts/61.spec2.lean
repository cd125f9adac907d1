section FRS
variable {X : List (Nat × Nat)} {L L' : List Nat} {K K' : Nat → Nat × Nat} {f f1 : Nat → va_E} {g g' : Nat → Option Nat} {n n' : Int} {V V' : Nat → Nat → Int}
theorem cqV.fr (h : cqV f g n V) (j : cqJA L K n g) (t : cqT X L K f f1) (hX : ∀ k, k < 15 → (0, k) ∉ X) : cqV f1 g n V := fun i hi b hb k hk => by
  obtain ⟨b', e', i', -⟩ := j i hi
  rw [hb] at e'
  cases e'
  rw [← h i hi b hb k hk]
  exact t.F i' (hX k hk)
theorem cqW.fr {c : Nat} (h : cqW f g n V) (j : cqJ L K c n g) (t : cqT X L K f f1) (hX : ∀ k, k < 3 → (c, k) ∉ X) : cqW f1 g n V := fun i hi b hb k hk => by
  obtain ⟨b', e', i'⟩ := j i hi
  rw [hb] at e'
  cases e'
  rw [← h i hi b hb k hk]
  exact t.F i' (hX k hk)
/-- alarm i0 alone has changed -/
theorem cqV.one (h : cqV f g n V) (j : cqJA L K n g) {a i0 : Nat} (hi0 : (i0 : Int) < n) (ha : g i0 = some a) (o : cqO a f f1) (hr : ∀ k, k < 15 → cqF (f1 a) k = V' i0 k) (hV : ∀ i, i ≠ i0 → V' i = V i) : cqV f1 g n V' := fun i hi b hb k hk => by
  by_cases q : i = i0
  · subst q
    rw [ha] at hb
    cases hb
    exact hr k hk
  · have hne : b ≠ a := fun z => by
      obtain ⟨b1, e1, -, k1⟩ := j i hi
      obtain ⟨b2, e2, -, k2⟩ := j i0 hi0
      rw [hb] at e1
      rw [ha] at e2
      cases e1
      cases e2
      rw [z] at k1
      exact q (by omega)
    rw [o b hne, hV i q]
    exact h i hi b hb k hk
/-- one more alarm -/
theorem cqV.more (h : cqV f g n V) (j : cqJA L K n g) (t : cqT X L K f f1) (hX : ∀ k, k < 15 → (0, k) ∉ X) {m a : Nat} (hm : (m : Int) = n) (eg : g' = va_up g m (some a)) (hr : ∀ k, k < 15 → cqF (f1 a) k = V' m k) (hV : ∀ i, i ≠ m → V' i = V i) (hn : n' = n + 1) : cqV f1 g' n' V' := fun i hi b hb k hk => by
  by_cases q : i = m
  · subst q
    rw [eg, va_up_self] at hb
    cases hb
    exact hr k hk
  · rw [eg, va_up_ne _ _ q] at hb
    rw [hV i q]
    exact h.fr j t hX i (by omega) b hb k hk
theorem cqW.one {c : Nat} (h : cqW f g n V) (inj : ∀ i i' b : Nat, (i : Int) < n → (i' : Int) < n → g i = some b → g i' = some b → i = i') {a i0 : Nat} (hi0 : (i0 : Int) < n) (ha : g i0 = some a) (o : cqO a f f1) (hr : ∀ k, k < 3 → cqF (f1 a) k = V' i0 k) (hV : ∀ i, i ≠ i0 → V' i = V i) : cqW f1 g n V' := fun i hi b hb k hk => by
  by_cases q : i = i0
  · subst q
    rw [ha] at hb
    cases hb
    exact hr k hk
  · have hne : b ≠ a := fun z => q (inj i i0 a hi hi0 (by rw [hb, z]) ha)
    rw [o b hne, hV i q]
    exact h i hi b hb k hk
theorem cqW.more {c : Nat} (h : cqW f g n V) (j : cqJ L K c n g) (t : cqT X L K f f1) (hX : ∀ k, k < 3 → (c, k) ∉ X) {m a : Nat} (hm : (m : Int) = n) (eg : g' = va_up g m (some a)) (hr : ∀ k, k < 3 → cqF (f1 a) k = V' m k) (hV : ∀ i, i ≠ m → V' i = V i) (hn : n' = n + 1) : cqW f1 g' n' V' := fun i hi b hb k hk => by
  by_cases q : i = m
  · subst q
    rw [eg, va_up_self] at hb
    cases hb
    exact hr k hk
  · rw [eg, va_up_ne _ _ q] at hb
    rw [hV i q]
    exact h.fr j t hX i (by omega) b hb k hk
end FRS
/-- one more, as ints of 32 bits do it -/
def incI (x : Int) : Int := (Int32.ofInt x + 1).toInt
theorem incI_of (x : Int32) : incI x.toInt = (x + 1).toInt := by unfold incI; rw [Int32.ofInt_toInt]
/-- the bit of a looker added -/
def orI (x : Int) (v : Int32) : Int := (Int32.ofInt x ||| ((1 : Int32) <<< (v &&& 31))).toInt
theorem orI_of (x v : Int32) : orI x.toInt v = (x ||| ((1 : Int32) <<< (v &&& 31))).toInt := by unfold orI; rw [Int32.ofInt_toInt]
/-- that looker was heard -/
def hhC (x y : Int) (v : Int32) : Prop := ((((Int32.ofInt x ||| Int32.ofInt y) >>> (v &&& 31)) &&& 1) : Int32).toInt = 1
theorem hhC_of (x y v : Int32) : hhC x.toInt y.toInt v = (((((x ||| y) >>> (v &&& 31)) &&& 1) : Int32).toInt = 1) := by unfold hhC; rw [Int32.ofInt_toInt, Int32.ofInt_toInt]
/-- bits counted, as the machine does it -/
def bc1 (v : Int32) : Int32 := v - ((v.toUInt32 >>> ((1 : Int32).toUInt32 &&& Int32.toUInt32 31)).toInt32 &&& 1431655765)
def bc2 (v : Int32) : Int32 := (v &&& 858993459) + ((v.toUInt32 >>> ((2 : Int32).toUInt32 &&& Int32.toUInt32 31)).toInt32 &&& 858993459)
def bc3 (v : Int32) : Int32 := (v + (v.toUInt32 >>> ((4 : Int32).toUInt32 &&& Int32.toUInt32 31)).toInt32) &&& 252645135
def bc4 (v : Int32) : Int32 := v + (v.toUInt32 >>> ((8 : Int32).toUInt32 &&& Int32.toUInt32 31)).toInt32
def bc5 (v : Int32) : Int32 := v + (v.toUInt32 >>> ((16 : Int32).toUInt32 &&& Int32.toUInt32 31)).toInt32
def bcW (v : Int32) : Int32 := bc5 (bc4 (bc3 (bc2 (bc1 v)))) &&& 63
def bcI (x : Int) : Int := (bcW (Int32.ofInt x)).toInt
theorem bcI_of (x : Int32) : bcI x.toInt = (bcW x).toInt := by unfold bcI; rw [Int32.ofInt_toInt]
/-- bits counted one by one -/
def popF : Nat → Nat → Nat
  | 0, _ => 0
  | j + 1, n => n % 2 + popF j (n / 2)
theorem bc_pop : ∀ n : Fin 1024, (bcW (Int32.ofNat n.val)).toInt = (popF 10 n.val : Int) := by decide +kernel
theorem bcI_pop {x : Int} (h : 0 ≤ x ∧ x < 1024) : bcI x = (popF 10 x.toNat : Int) := by
  have h1 := bc_pop ⟨x.toNat, by omega⟩
  rw [← h1]
  unfold bcI
  have e : Int32.ofInt x = Int32.ofNat x.toNat := by
    rw [← Int32.ofInt_eq_ofNat]
    congr 1
    omega
  rw [e]
/-- a verdict heard -/
def heT (x : Int) (v w : Int32) : Int := if w.toInt = 0 then x else orI x v
def heF (x : Int) (v w : Int32) : Int := if w.toInt = 0 then orI x v else x
def heS (t u s : Int) : Int := if 2 ≤ bcI t then 1 else if 2 ≤ bcI u then 2 else s
