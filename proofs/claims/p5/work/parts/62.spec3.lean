/-- rows of values -/
def cqRw (f : Nat → va_E) (q : Nat) (l : List Value) : Prop := ∀ k, k < 15 → cqU (f q) k = l.getD k .null
section RWS
variable {X : List (Nat × Nat)} {L : List Nat} {K : Nat → Nat × Nat} {f f1 f2 : Nat → va_E} {q : Nat} {l : List Value} {e : va_E}
theorem cqRw.fr (h : cqRw f q l) (i : cqIs L K 0 q) (t : cqT X L K f f1) (hX : ∀ k, k < 15 → (0, k) ∉ X) : cqRw f1 q l := fun k hk => (t q i.1 k (by rw [i.2]; exact hX k hk)).trans (h k hk)
theorem cqRw.put (h : cqRw f1 q l) (ef : f2 = va_up f1 q e) {k : Nat} {fs : List Value} (v : Value) (hf : f1 q = .inr (0, fs)) (he : e = .inr (0, fs.set k v)) (hk : 15 ≤ k) : cqRw f2 q l := fun k2 h2 => by
  rw [ef, va_up_self, he, cqU_set (by omega), ← hf]
  exact h k2 h2
theorem cqRw.F (h : cqRw f q l) {k : Nat} (hk : k < 15) : cqF (f q) k = cqNm (l.getD k .null) := congrArg cqNm (h k hk)
theorem cqRw_of {l t : List Value} (hl : l.length = 15) (hf : f q = .inr (0, l ++ t)) : cqRw f q l := fun k hk => by
  rw [hf]
  show (match (l ++ t)[k]? with | some v => v | none => .null) = l.getD k .null
  rw [List.getElem?_append_left (by omega), List.getD_eq_getElem?_getD]
  cases l[k]? <;> rfl
end RWS
/-- what alarmToRepeat answers -/
def rpS (V : Nat → Nat → Int) (so th ma nw : Int) (n : Nat) (g : Nat → Option Nat) (r : Option Nat) : Prop := (∀ b, r = some b → ∃ i, rpF V so th ma nw n = some i ∧ g i = some b) ∧ (r = none → rpF V so th ma nw n = none)
theorem rpF_lt {V : Nat → Nat → Int} {so th ma nw : Int} {n i : Nat} (h : rpF V so th ma nw n = some i) : i < n := by
  induction n with
  | zero => cases h
  | succ n ih =>
    by_cases q : rpC V so th ma nw n
    · rw [rpF_hit q] at h; cases h; omega
    · rw [rpF_skip q] at h; have := ih h; omega
def alOK (so th ma wo : Int) : Prop := (0 ≤ so ∧ so < 10) ∧ (0 ≤ th ∧ th < 40) ∧ (0 ≤ ma ∧ ma < 4096) ∧ (1 ≤ wo ∧ wo ≤ 100)
noncomputable def siB (U : Nat → Nat → Int) (so nw ns : Int) : Int := @ite _ (∃ i : Nat, (i : Int) < ns ∧ siC U so nw i) (Classical.propDecidable _) 1 0
theorem siB_1 {U : Nat → Nat → Int} {so nw ns : Int} (h : ∃ i : Nat, (i : Int) < ns ∧ siC U so nw i) : siB U so nw ns = 1 := if_pos h
theorem siB_0 {U : Nat → Nat → Int} {so nw ns : Int} (h : ¬ ∃ i : Nat, (i : Int) < ns ∧ siC U so nw i) : siB U so nw ns = 0 := if_neg h
noncomputable def cpB (V : Nat → Nat → Int) (so nw cap si : Int) (n : Nat) : Int := @ite _ (si = 0 ∧ cap ≤ cpF V so nw n) (Classical.propDecidable _) 1 0
theorem cpB_1 {V : Nat → Nat → Int} {so nw cap si : Int} {n : Nat} (h : si = 0 ∧ cap ≤ cpF V so nw n) : cpB V so nw cap si n = 1 := if_pos h
theorem cpB_0 {V : Nat → Nat → Int} {so nw cap si : Int} {n : Nat} (h : ¬ (si = 0 ∧ cap ≤ cpF V so nw n)) : cpB V so nw cap si n = 0 := if_neg h
def alRow (n nw so th ma wo si cp : Int) : Nat → Int := fun k => match k with
  | 0 => n
  | 1 => nw
  | 2 => so
  | 3 => th
  | 4 => ma
  | 5 => wo
  | 8 => si
  | 9 => cp
  | 10 => nw
  | _ => 0
def reRow (r : Nat → Int) (nw : Int) : Nat → Int := fun k => if k = 10 then nw else if k = 11 then incI (r 11) else r k
/-- alarm: the answer, how many there are, the table -/
noncomputable def alX (V U : Nat → Nat → Int) (na ns nw cap so th ma wo : Int) : Int × Int × (Nat → Nat → Int) := @ite _ (alOK so th ma wo) (Classical.propDecidable _)
  (match rpF V so th ma nw na.toNat with
    | some i => ((i : Int), na, va_up V i (reRow (V i) nw))
    | none => @ite _ (200 ≤ na) (Classical.propDecidable _) (-3, na, V) (na, na + 1, va_up V na.toNat (alRow na nw so th ma wo (siB U so nw ns) (cpB V so nw cap (siB U so nw ns) na.toNat))))
  (-2, na, V)
section ALX
variable {V U : Nat → Nat → Int} {na ns nw cap so th ma wo : Int}
theorem alX_bad (h : ¬ alOK so th ma wo) : alX V U na ns nw cap so th ma wo = (-2, na, V) := if_neg h
theorem alX_rep (h : alOK so th ma wo) {i : Nat} (e : rpF V so th ma nw na.toNat = some i) : alX V U na ns nw cap so th ma wo = ((i : Int), na, va_up V i (reRow (V i) nw)) := by
  unfold alX
  rw [if_pos h, e]
theorem alX_full (h : alOK so th ma wo) (e : rpF V so th ma nw na.toNat = none) (hn : 200 ≤ na) : alX V U na ns nw cap so th ma wo = (-3, na, V) := by
  unfold alX
  rw [if_pos h, e]
  exact if_pos hn
theorem alX_new (h : alOK so th ma wo) (e : rpF V so th ma nw na.toNat = none) (hn : ¬ 200 ≤ na) : alX V U na ns nw cap so th ma wo = (na, na + 1, va_up V na.toNat (alRow na nw so th ma wo (siB U so nw ns) (cpB V so nw cap (siB U so nw ns) na.toNat))) := by
  unfold alX
  rw [if_pos h, e]
  exact if_neg hn
end ALX
theorem al_bad {V U : Nat → Nat → Int} {ns nw cap so th ma wo : Int} {na : Int} {f : Nat → va_E} {g : Nat → Option Nat} (h : ¬ alOK so th ma wo) (hV : cqV f g na V) : (-2 : Int) = (alX V U na ns nw cap so th ma wo).1 ∧ na = (alX V U na ns nw cap so th ma wo).2.1 ∧ cqV f g na (alX V U na ns nw cap so th ma wo).2.2 := by
  rw [alX_bad h]; exact ⟨rfl, rfl, hV⟩
theorem al_full {V U : Nat → Nat → Int} {ns nw cap so th ma wo : Int} {na : Int} {f : Nat → va_E} {g : Nat → Option Nat} (h : alOK so th ma wo) (hx : rpS V so th ma nw na.toNat g none) (hn : 200 ≤ na) (hV : cqV f g na V) : (-3 : Int) = (alX V U na ns nw cap so th ma wo).1 ∧ na = (alX V U na ns nw cap so th ma wo).2.1 ∧ cqV f g na (alX V U na ns nw cap so th ma wo).2.2 := by
  rw [alX_full h (hx.2 rfl) hn]; exact ⟨rfl, rfl, hV⟩
theorem al_rep {V U : Nat → Nat → Int} {ns nw cap so th ma wo na nu : Int} {f f9 : Nat → va_E} {g : Nat → Option Nat} {L : List Nat} {K : Nat → Nat × Nat} {b : Nat} (h : alOK so th ma wo) (hx : rpS V so th ma nw na.toNat g (some b)) (hV : cqV f g na V) (j : cqJA L K na g) (o : cqO b f f9) (h10 : cqF (f9 b) 10 = nw) (h11 : cqF (f9 b) 11 = incI (cqF (f b) 11)) (t : cqT [(0, 10), (0, 11)] L K f f9) (hnu : nu = ((K b).2 : Int)) : nu = (alX V U na ns nw cap so th ma wo).1 ∧ na = (alX V U na ns nw cap so th ma wo).2.1 ∧ cqV f9 g na (alX V U na ns nw cap so th ma wo).2.2 := by
  obtain ⟨i, e1, e2⟩ := hx.1 b rfl
  have hi := rpF_lt e1
  have hi : (i : Int) < na := by omega
  obtain ⟨b', q1, q2, q3⟩ := j i hi
  rw [e2] at q1
  cases q1
  rw [alX_rep h e1]
  refine ⟨by rw [hnu, q3], rfl, hV.one j hi e2 o (fun k hk => ?_) (fun i2 h2 => va_up_ne _ _ h2)⟩
  show cqF (f9 b) k = va_up V i (reRow (V i) nw) i k
  rw [va_up_self]
  unfold reRow
  by_cases c1 : k = 10
  · rw [if_pos c1, c1]; exact h10
  · rw [if_neg c1]
    by_cases c2 : k = 11
    · rw [if_pos c2, c2, h11, hV i hi b e2 11 (by decide)]
    · rw [if_neg c2, ← hV i hi b e2 k hk]
      exact t.F q2 (by intro q; simp at q; omega)
theorem al_new {V U : Nat → Nat → Int} {na nw so th ma wo ns cap : Int} {n w1 w2 w3 w4 w5 si cp : Int32} {lf ld : Nat} {f f9 : Nat → va_E} {g g9 : Nat → Option Nat} {L : List Nat} {K : Nat → Nat × Nat} {X : List (Nat × Nat)} {q : Nat} {na9 : Int} (h : alOK so th ma wo) (hx : rpS V so th ma nw na.toNat g none) (hn : ¬ 200 ≤ na) (hV : cqV f g na V) (j : cqJA L K na g) (t : cqT X L K f f9) (hX : ∀ k, k < 15 → (0, k) ∉ X) (eg : g9 = va_up g n.toNatClampNeg (some q)) (e0 : n.toInt = na) (h0 : 0 ≤ na) (hr : cqRw f9 q [.int n, .int w1, .int w2, .int w3, .int w4, .int w5, .ref lf, .ref ld, .int si, .int cp, .int w1, .int 0, .int 0, .int 0, .int 0]) (e1 : w1.toInt = nw) (e2 : w2.toInt = so) (e3 : w3.toInt = th) (e4 : w4.toInt = ma) (e5 : w5.toInt = wo) (es : si.toInt = siB U so nw ns) (ec : cp.toInt = cpB V so nw cap (siB U so nw ns) na.toNat) (h9 : na9 = na + 1) {r : Int} (hr0 : r = na) : r = (alX V U na ns nw cap so th ma wo).1 ∧ na9 = (alX V U na ns nw cap so th ma wo).2.1 ∧ cqV f9 g9 na9 (alX V U na ns nw cap so th ma wo).2.2 := by
  rw [alX_new h (hx.2 rfl) hn]
  have hm : n.toNatClampNeg = na.toNat := by
    show n.toInt.toNat = na.toNat
    rw [e0]
  rw [hm] at eg
  refine ⟨hr0, h9, hV.more j t hX (m := na.toNat) (a := q) (by omega) eg (fun k hk => ?_) (fun i hi => va_up_ne _ _ hi) h9⟩
  show cqF (f9 q) k = va_up V na.toNat (alRow na nw so th ma wo (siB U so nw ns) (cpB V so nw cap (siB U so nw ns) na.toNat)) na.toNat k
  rw [va_up_self, hr.F hk, ← ec, ← es, ← e0, ← e1, ← e2, ← e3, ← e4, ← e5]
  have h00 : (0 : Int32).toInt = 0 := by decide
  rcases (show k = 0 ∨ k = 1 ∨ k = 2 ∨ k = 3 ∨ k = 4 ∨ k = 5 ∨ k = 6 ∨ k = 7 ∨ k = 8 ∨ k = 9 ∨ k = 10 ∨ k = 11 ∨ k = 12 ∨ k = 13 ∨ k = 14 by omega) with q | q | q | q | q | q | q | q | q | q | q | q | q | q | q <;> (subst q; first | rfl | exact h00)
/-- verdict -/
def atS (na v0 : Int) (i : Nat) (g : Nat → Option Nat) (r : Option Nat) : Prop := (∀ b, r = some b → (0 ≤ v0 ∧ v0 < na) ∧ g i = some b) ∧ (r = none → ¬ (0 ≤ v0 ∧ v0 < na))
def veOK (V : Nat → Nat → Int) (na v0 : Int) (v : Int32) : Prop := (0 ≤ v0 ∧ v0 < na) ∧ (0 ≤ v.toInt ∧ v.toInt < 10) ∧ V v0.toNat 12 = 0 ∧ ¬ hhC (V v0.toNat 13) (V v0.toNat 14) v
def veRow (r : Nat → Int) (t u s : Int) : Nat → Int := fun k => if k = 13 then t else if k = 14 then u else if k = 12 then s else r k
noncomputable def veX (V : Nat → Nat → Int) (na v0 : Int) (v w : Int32) : Int × (Nat → Nat → Int) := @ite _ (veOK V na v0 v) (Classical.propDecidable _)
  (if heS (heT (V v0.toNat 13) v w) (heF (V v0.toNat 14) v w) (V v0.toNat 12) = 0 then 0 else 1, va_up V v0.toNat (veRow (V v0.toNat) (heT (V v0.toNat 13) v w) (heF (V v0.toNat 14) v w) (heS (heT (V v0.toNat 13) v w) (heF (V v0.toNat 14) v w) (V v0.toNat 12))))
  (-1, V)
theorem veX_no {V : Nat → Nat → Int} {na v0 : Int} {v w : Int32} (h : ¬ veOK V na v0 v) : veX V na v0 v w = (-1, V) := if_neg h
theorem ve_no {V : Nat → Nat → Int} {na v0 : Int} {v w : Int32} {f : Nat → va_E} {g : Nat → Option Nat} (h : ¬ veOK V na v0 v) (hV : cqV f g na V) : (-1 : Int) = (veX V na v0 v w).1 ∧ cqV f g na (veX V na v0 v w).2 := by
  rw [veX_no h]; exact ⟨rfl, hV⟩
theorem ve_yes {V : Nat → Nat → Int} {na v0 : Int} {v w : Int32} {f f1 f9 : Nat → va_E} {g : Nat → Option Nat} {L : List Nat} {K : Nat → Nat × Nat} {X : List (Nat × Nat)} {b : Nat} (hx : atS na v0 v0.toNat g (some b)) (hV : cqV f g na V) (j : cqJA L K na g) (hv : 0 ≤ v.toInt ∧ v.toInt < 10) (ho : cqF (f b) 12 = 0) (hh : ¬ hhC (cqF (f b) 13) (cqF (f b) 14) v) (o : cqO b f f1) (t : cqT [(0, 12), (0, 13), (0, 14)] L K f f1) (h13 : cqF (f1 b) 13 = heT (cqF (f b) 13) v w) (h14 : cqF (f1 b) 14 = heF (cqF (f b) 14) v w) (h12 : cqF (f1 b) 12 = heS (cqF (f1 b) 13) (cqF (f1 b) 14) (cqF (f b) 12)) (t2 : cqT X L K f1 f9) (hX : ∀ k, k < 15 → (0, k) ∉ X) {r : Int} (hr : (cqF (f1 b) 12 = 0 ∧ r = 0) ∨ (¬ cqF (f1 b) 12 = 0 ∧ r = 1)) : r = (veX V na v0 v w).1 ∧ cqV f9 g na (veX V na v0 v w).2 := by
  obtain ⟨h0, e0⟩ := hx.1 b rfl
  have hi : ((v0.toNat : Nat) : Int) < na := by omega
  have V12 := hV _ hi b e0 12 (by decide)
  have V13 := hV _ hi b e0 13 (by decide)
  have V14 := hV _ hi b e0 14 (by decide)
  rw [V13] at h13
  rw [V14] at h14
  rw [h13, h14, V12] at h12
  obtain ⟨b', q1, q2, q3⟩ := j _ hi
  rw [e0] at q1
  cases q1
  have ok : veOK V na v0 v := ⟨h0, hv, by rw [← V12]; exact ho, by rw [← V13, ← V14]; exact hh⟩
  have ex : veX V na v0 v w = (if heS (heT (V v0.toNat 13) v w) (heF (V v0.toNat 14) v w) (V v0.toNat 12) = 0 then 0 else 1, va_up V v0.toNat (veRow (V v0.toNat) (heT (V v0.toNat 13) v w) (heF (V v0.toNat 14) v w) (heS (heT (V v0.toNat 13) v w) (heF (V v0.toNat 14) v w) (V v0.toNat 12)))) := if_pos ok
  rw [ex]
  refine ⟨?_, (hV.one (f1 := f1) j hi e0 o (fun k hk => ?_) (fun i2 h2 => va_up_ne _ _ h2)).fr j t2 hX⟩
  · show r = if heS (heT (V v0.toNat 13) v w) (heF (V v0.toNat 14) v w) (V v0.toNat 12) = 0 then 0 else 1
    rw [← h12]
    rcases hr with ⟨a1, a2⟩ | ⟨a1, a2⟩
    · rw [if_pos a1, a2]
    · rw [if_neg a1, a2]
  · show cqF (f1 b) k = va_up V v0.toNat (veRow (V v0.toNat) (heT (V v0.toNat 13) v w) (heF (V v0.toNat 14) v w) (heS (heT (V v0.toNat 13) v w) (heF (V v0.toNat 14) v w) (V v0.toNat 12))) v0.toNat k
    rw [va_up_self]
    unfold veRow
    by_cases c1 : k = 13
    · rw [if_pos c1, c1]; exact h13
    · rw [if_neg c1]
      by_cases c2 : k = 14
      · rw [if_pos c2, c2]; exact h14
      · rw [if_neg c2]
        by_cases c3 : k = 12
        · rw [if_pos c3, c3]; exact h12
        · rw [if_neg c3, ← hV _ hi b e0 k hk]
          exact t.F q2 (by intro q; simp at q; omega)
/-- ties -/
def fdC (Y : Nat → Nat → Int) (a b : Int) (i : Nat) : Prop := Y i 0 = min a b ∧ Y i 1 = max a b
noncomputable def fdF (Y : Nat → Nat → Int) (a b : Int) : Nat → Option Nat
  | 0 => none
  | n + 1 => match fdF Y a b n with
    | some i => some i
    | none => @ite _ (fdC Y a b n) (Classical.propDecidable _) (some n) none
theorem fdF_none {Y : Nat → Nat → Int} {a b : Int} (n : Nat) (h : ∀ i, i < n → ¬ fdC Y a b i) : fdF Y a b n = none := by
  induction n with
  | zero => rfl
  | succ n ih =>
    have e := ih (fun i hi => h i (by omega))
    show (match fdF Y a b n with | some i => some i | none => @ite _ (fdC Y a b n) (Classical.propDecidable _) (some n) none) = none
    rw [e]
    exact if_neg (h n (by omega))
theorem fdF_some {Y : Nat → Nat → Int} {a b : Int} {k : Nat} (hk : fdC Y a b k) (h : ∀ i, i < k → ¬ fdC Y a b i) (n : Nat) (hn : k < n) : fdF Y a b n = some k := by
  induction n with
  | zero => omega
  | succ n ih =>
    show (match fdF Y a b n with | some i => some i | none => @ite _ (fdC Y a b n) (Classical.propDecidable _) (some n) none) = some k
    by_cases q : k = n
    · subst q
      rw [fdF_none k h]
      exact if_pos hk
    · rw [ih (by omega)]
theorem fdF_spec {Y : Nat → Nat → Int} {a b : Int} {i : Nat} (n : Nat) (h : fdF Y a b n = some i) : i < n ∧ fdC Y a b i := by
  induction n with
  | zero => cases h
  | succ n ih =>
    have h : (match fdF Y a b n with | some i => some i | none => @ite _ (fdC Y a b n) (Classical.propDecidable _) (some n) none) = some i := h
    rcases e : fdF Y a b n with _ | j
    · rw [e] at h
      by_cases q : fdC Y a b n
      · have h : @ite _ (fdC Y a b n) (Classical.propDecidable _) (some n) none = some i := h
        rw [if_pos q] at h
        cases h
        exact ⟨by omega, q⟩
      · have h : @ite _ (fdC Y a b n) (Classical.propDecidable _) (some n) none = some i := h
        rw [if_neg q] at h
        cases h
    · rw [e] at h
      cases h
      have := ih e
      exact ⟨by omega, this.2⟩
def fdS (Y : Nat → Nat → Int) (a b : Int) (n : Nat) (g : Nat → Option Nat) (r : Option Nat) : Prop := (∀ c, r = some c → ∃ i, fdF Y a b n = some i ∧ g i = some c) ∧ (r = none → fdF Y a b n = none)
def tiRow (a b w : Int) : Nat → Int := fun k => match k with
  | 0 => min a b
  | 1 => max a b
  | _ => w
/-- a pair is told: whether it changes something, how many there are, the table -/
noncomputable def teX (Y : Nat → Nat → Int) (tz a b w : Int) : Int × Int × (Nat → Nat → Int) := match fdF Y a b tz.toNat with
  | some i => @ite _ (Y i 2 = w) (Classical.propDecidable _) (0, tz, Y) (1, tz, va_up Y i (tiRow a b w))
  | none => @ite _ (60 ≤ tz) (Classical.propDecidable _) (0, tz, Y) (1, tz + 1, va_up Y tz.toNat (tiRow a b w))
def tiOK (na a b : Int) : Prop := a ≠ b ∧ (0 ≤ a ∧ a < na) ∧ (0 ≤ b ∧ b < na)
noncomputable def tiX (Y : Nat → Nat → Int) (na tz a b w : Int) : Int × Int × (Nat → Nat → Int) := @ite _ (tiOK na a b) (Classical.propDecidable _) (teX Y tz a b w) (0, tz, Y)
theorem tiX_no {Y : Nat → Nat → Int} {na tz a b w : Int} (h : ¬ tiOK na a b) : tiX Y na tz a b w = (0, tz, Y) := if_neg h
theorem tiX_yes {Y : Nat → Nat → Int} {na tz a b w : Int} (h : tiOK na a b) : tiX Y na tz a b w = teX Y tz a b w := if_pos h
section TEX
variable {Y : Nat → Nat → Int} {tz a b w : Int}
theorem teX_so {i : Nat} (e : fdF Y a b tz.toNat = some i) (h : Y i 2 = w) : teX Y tz a b w = (0, tz, Y) := by
  unfold teX
  rw [e]
  exact if_pos h
theorem teX_ch {i : Nat} (e : fdF Y a b tz.toNat = some i) (h : ¬ Y i 2 = w) : teX Y tz a b w = (1, tz, va_up Y i (tiRow a b w)) := by
  unfold teX
  rw [e]
  exact if_neg h
theorem teX_full (e : fdF Y a b tz.toNat = none) (h : 60 ≤ tz) : teX Y tz a b w = (0, tz, Y) := by
  unfold teX
  rw [e]
  exact if_pos h
theorem teX_new (e : fdF Y a b tz.toNat = none) (h : ¬ 60 ≤ tz) : teX Y tz a b w = (1, tz + 1, va_up Y tz.toNat (tiRow a b w)) := by
  unfold teX
  rw [e]
  exact if_neg h
theorem te01 : (teX Y tz a b w).1 = 0 ∨ (teX Y tz a b w).1 = 1 := by
  rcases e : fdF Y a b tz.toNat with _ | i
  · by_cases h : 60 ≤ tz
    · rw [teX_full e h]; exact Or.inl rfl
    · rw [teX_new e h]; exact Or.inr rfl
  · by_cases h : Y i 2 = w
    · rw [teX_so e h]; exact Or.inl rfl
    · rw [teX_ch e h]; exact Or.inr rfl
end TEX
def cqIj (g : Nat → Option Nat) (n : Int) : Prop := ∀ (i i2 b : Nat), (i : Int) < n → (i2 : Int) < n → g i = some b → g i2 = some b → i = i2
theorem te_known {Y : Nat → Nat → Int} {tz a b w : Int} {f f9 : Nat → va_E} {g : Nat → Option Nat} {c : Nat} (hx : fdS Y a b tz.toNat g (some c)) (hY : cqW f g tz Y) (ij : cqIj g tz) (o : cqO c f f9) (h0 : cqF (f9 c) 0 = cqF (f c) 0) (h1 : cqF (f9 c) 1 = cqF (f c) 1) (h2 : cqF (f9 c) 2 = w) {r : Int} (hr : (cqF (f c) 2 = w ∧ r = 0) ∨ (¬ cqF (f c) 2 = w ∧ r = 1)) : r = (teX Y tz a b w).1 ∧ tz = (teX Y tz a b w).2.1 ∧ cqW f9 g tz (teX Y tz a b w).2.2 ∧ cqIj g tz := by
  obtain ⟨i, e1, e2⟩ := hx.1 c rfl
  obtain ⟨l1, l2, l3⟩ := fdF_spec _ e1
  have hi : (i : Int) < tz := by omega
  have Y0 := hY i hi c e2 0 (by decide)
  have Y1 := hY i hi c e2 1 (by decide)
  have Y2 := hY i hi c e2 2 (by decide)
  have inj : ∀ i1 i2 b : Nat, (i1 : Int) < tz → (i2 : Int) < tz → g i1 = some b → g i2 = some b → i1 = i2 := ij
  have row : ∀ k, k < 3 → cqF (f9 c) k = tiRow a b w k := fun k hk => by
    rcases (show k = 0 ∨ k = 1 ∨ k = 2 by omega) with q | q | q <;> subst q
    · show _ = min a b
      omega
    · show _ = max a b
      omega
    · exact h2
  rcases hr with ⟨c1, c2⟩ | ⟨c1, c2⟩
  · rw [teX_so e1 (by omega)]
    refine ⟨c2, rfl, hY.one (c := 4) inj hi e2 o (fun k hk => ?_) (fun _ _ => rfl), ij⟩
    rcases (show k = 0 ∨ k = 1 ∨ k = 2 by omega) with q | q | q <;> subst q
    · show _ = Y i 0
      omega
    · show _ = Y i 1
      omega
    · show _ = Y i 2
      omega
  · rw [teX_ch e1 (by omega)]
    refine ⟨c2, rfl, hY.one (c := 4) inj hi e2 o (fun k hk => ?_) (fun i2 h2 => va_up_ne _ _ h2), ij⟩
    show cqF (f9 c) k = va_up Y i (tiRow a b w) i k
    rw [va_up_self]
    exact row k hk
theorem te_full {Y : Nat → Nat → Int} {tz a b w : Int} {f : Nat → va_E} {g : Nat → Option Nat} (hx : fdS Y a b tz.toNat g none) (hn : 60 ≤ tz) (hY : cqW f g tz Y) (ij : cqIj g tz) : (0 : Int) = (teX Y tz a b w).1 ∧ tz = (teX Y tz a b w).2.1 ∧ cqW f g tz (teX Y tz a b w).2.2 ∧ cqIj g tz := by
  rw [teX_full (hx.2 rfl) hn]; exact ⟨rfl, rfl, hY, ij⟩
theorem te_new {Y : Nat → Nat → Int} {tz a b w tz9 : Int} {n x1 x2 x3 : Int32} {f f9 : Nat → va_E} {g g9 : Nat → Option Nat} {L : List Nat} {K : Nat → Nat × Nat} {X : List (Nat × Nat)} {q : Nat} (hx : fdS Y a b tz.toNat g none) (hn : ¬ 60 ≤ tz) (hY : cqW f g tz Y) (ij : cqIj g tz) (j : cqJ L K 4 tz g) (t : cqT X L K f f9) (hX : ∀ k, k < 3 → (4, k) ∉ X) (hq : q ∉ L) (eg : g9 = va_up g n.toNatClampNeg (some q)) (e0 : n.toInt = tz) (h0 : 0 ≤ tz) (hf : f9 q = .inr (4, [.int x1, .int x2, .int x3])) (e1 : x1.toInt = min a b) (e2 : x2.toInt = max a b) (e3 : x3.toInt = w) (h9 : tz9 = tz + 1) : (1 : Int) = (teX Y tz a b w).1 ∧ tz9 = (teX Y tz a b w).2.1 ∧ cqW f9 g9 tz9 (teX Y tz a b w).2.2 ∧ cqIj g9 tz9 := by
  rw [teX_new (hx.2 rfl) hn]
  have hm : n.toNatClampNeg = tz.toNat := by
    show n.toInt.toNat = tz.toNat
    rw [e0]
  rw [hm] at eg
  have old : ∀ (i c : Nat), (i : Int) < tz → g i = some c → c ≠ q := fun i c hi hc z => by
    obtain ⟨b', e', i'⟩ := j i hi
    rw [hc] at e'
    cases e'
    exact hq (z ▸ i'.1)
  refine ⟨rfl, h9, hY.more j t hX (m := tz.toNat) (a := q) (by omega) eg (fun k hk => ?_) (fun i hi => va_up_ne _ _ hi) h9, fun i i2 c hi hi2 h1 h2 => ?_⟩
  · show cqF (f9 q) k = va_up Y tz.toNat (tiRow a b w) tz.toNat k
    rw [va_up_self, hf]
    rcases (show k = 0 ∨ k = 1 ∨ k = 2 by omega) with z | z | z <;> subst z
    · exact e1
    · exact e2
    · exact e3
  · rw [eg] at h1 h2
    by_cases c1 : i = tz.toNat
    · by_cases c2 : i2 = tz.toNat
      · omega
      · rw [c1, va_up_self] at h1
        rw [va_up_ne _ _ c2] at h2
        cases h1
        exact absurd rfl (old i2 q (by omega) h2)
    · rw [va_up_ne _ _ c1] at h1
      by_cases c2 : i2 = tz.toNat
      · rw [c2, va_up_self] at h2
        cases h2
        exact absurd rfl (old i q (by omega) h1)
      · rw [va_up_ne _ _ c2] at h2
        exact ij i i2 c (by omega) (by omega) h1 h2
/-- silences -/
def slOK (ns so fr tt : Int) : Prop := (0 ≤ so ∧ so < 10) ∧ 0 ≤ fr ∧ fr ≤ tt ∧ tt ≤ 10000 ∧ ns < 30
def slRow (so fr tt : Int) : Nat → Int := fun k => match k with
  | 0 => so
  | 1 => fr
  | _ => tt
noncomputable def slX (U : Nat → Nat → Int) (ns so fr tt : Int) : Int × Int × (Nat → Nat → Int) := @ite _ (slOK ns so fr tt) (Classical.propDecidable _) (ns + 1, ns + 1, va_up U ns.toNat (slRow so fr tt)) (-1, ns, U)
theorem sl_no {U : Nat → Nat → Int} {ns so fr tt : Int} {f : Nat → va_E} {g : Nat → Option Nat} (h : ¬ slOK ns so fr tt) (hU : cqW f g ns U) : (-1 : Int) = (slX U ns so fr tt).1 ∧ ns = (slX U ns so fr tt).2.1 ∧ cqW f g ns (slX U ns so fr tt).2.2 := by
  have e : slX U ns so fr tt = (-1, ns, U) := if_neg h
  rw [e]; exact ⟨rfl, rfl, hU⟩
theorem sl_yes {U : Nat → Nat → Int} {ns so fr tt ns9 : Int} {n x1 x2 x3 : Int32} {f f9 : Nat → va_E} {g g9 : Nat → Option Nat} {L : List Nat} {K : Nat → Nat × Nat} {X : List (Nat × Nat)} {q : Nat} (h : slOK ns so fr tt) (hU : cqW f g ns U) (j : cqJ L K 6 ns g) (t : cqT X L K f f9) (hX : ∀ k, k < 3 → (6, k) ∉ X) (eg : g9 = va_up g n.toNatClampNeg (some q)) (e0 : n.toInt = ns) (h0 : 0 ≤ ns) (hf : f9 q = .inr (6, [.int x1, .int x2, .int x3])) (e1 : x1.toInt = so) (e2 : x2.toInt = fr) (e3 : x3.toInt = tt) (h9 : ns9 = ns + 1) {r : Int} (hr : r = ns + 1) : r = (slX U ns so fr tt).1 ∧ ns9 = (slX U ns so fr tt).2.1 ∧ cqW f9 g9 ns9 (slX U ns so fr tt).2.2 := by
  have e : slX U ns so fr tt = (ns + 1, ns + 1, va_up U ns.toNat (slRow so fr tt)) := if_pos h
  rw [e]
  have hm : n.toNatClampNeg = ns.toNat := by
    show n.toInt.toNat = ns.toNat
    rw [e0]
  rw [hm] at eg
  refine ⟨hr, h9, hU.more j t hX (m := ns.toNat) (a := q) (by omega) eg (fun k hk => ?_) (fun i hi => va_up_ne _ _ hi) h9⟩
  show cqF (f9 q) k = va_up U ns.toNat (slRow so fr tt) ns.toNat k
  rw [va_up_self, hf]
  rcases (show k = 0 ∨ k = 1 ∨ k = 2 by omega) with z | z | z <;> subst z
  · exact e1
  · exact e2
  · exact e3
/-- set -/
def seC (v w c : Int) : Int := if v = 0 ∧ 1 ≤ w ∧ w ≤ 50 then w else c
def seL (v w c : Int) : Int := if v = 1 ∧ 1 ≤ w ∧ w ≤ 20 then w else c
def seT (v w c : Int) : Int := if v = 2 ∧ 0 ≤ w ∧ w ≤ 5 then w else c
