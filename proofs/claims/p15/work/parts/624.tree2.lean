/-- the greatest alarm below n of a thing -/
def lsF (V : Nat → Nat → Int) (th : Int) : Nat → Option Nat
  | 0 => none
  | n + 1 => if V n 3 = th then some n else lsF V th n
theorem lsF_hit {V : Nat → Nat → Int} {th : Int} {n : Nat} (h : V n 3 = th) : lsF V th (n + 1) = some n := if_pos h
theorem lsF_skip {V : Nat → Nat → Int} {th : Int} {n : Nat} (h : ¬ V n 3 = th) : lsF V th (n + 1) = lsF V th n := if_neg h
theorem lsF_some {V : Nat → Nat → Int} {th : Int} {i : Nat} (n : Nat) (h : lsF V th n = some i) : i < n ∧ V i 3 = th ∧ ∀ j, i < j → j < n → ¬ V j 3 = th := by
  induction n with
  | zero => cases h
  | succ n ih =>
    by_cases q : V n 3 = th
    · rw [lsF_hit q] at h
      cases h
      exact ⟨by omega, q, fun j h1 h2 => by omega⟩
    · rw [lsF_skip q] at h
      obtain ⟨a, b, c⟩ := ih h
      refine ⟨by omega, b, fun j h1 h2 => ?_⟩
      by_cases z : j = n
      · subst z; exact q
      · exact c j h1 (by omega)
theorem lsF_none {V : Nat → Nat → Int} {th : Int} (n : Nat) (h : lsF V th n = none) : ∀ j, j < n → ¬ V j 3 = th := by
  induction n with
  | zero => intro j hj; omega
  | succ n ih =>
    intro j hj
    by_cases q : V n 3 = th
    · rw [lsF_hit q] at h; cases h
    · rw [lsF_skip q] at h
      by_cases z : j = n
      · subst z; exact q
      · exact ih h j (by omega)
theorem lsF_ext {V V' : Nat → Nat → Int} {th : Int} (n : Nat) (h : ∀ i, i < n → V' i 3 = V i 3) : lsF V' th n = lsF V th n := by
  induction n with
  | zero => rfl
  | succ n ih =>
    have e := ih (fun i hi => h i (by omega))
    by_cases q : V n 3 = th
    · rw [lsF_hit q, lsF_hit (by rw [h n (by omega)]; exact q)]
    · rw [lsF_skip q, lsF_skip (by rw [h n (by omega)]; exact q), e]
theorem bindU {V : Nat → Nat → Int} {th : Int} {n : Nat} {g g' : Nat → Option Nat} (m : Nat) (hm : m ≤ n) (h : ∀ i, i < n → g' i = g i) : (lsF V th m).bind g' = (lsF V th m).bind g := by
  rcases e : lsF V th m with _ | i
  · rfl
  · exact h i (by have := (lsF_some m e).1; omega)
/-- the chains of the alarms of a thing -/
def tS (f : Nat → va_E) (g1 g2 : Nat → Option Nat) (V : Nat → Nat → Int) (n : Nat) : Prop := (∀ i, i < n → ∀ b, g1 i = some b → cqRf (f b) 15 = (lsF V (V i 3) i).bind g1) ∧ ∀ t : Nat, t < 40 → g2 t = (lsF V (t : Int) n).bind g1
theorem tS.row {f : Nat → va_E} {g1 g2 : Nat → Option Nat} {V : Nat → Nat → Int} {n i0 : Nat} {R : Nat → Int} (h : tS f g1 g2 V n) (h3 : R 3 = V i0 3) : tS f g1 g2 (va_up V i0 R) n := by
  have e : ∀ i, va_up V i0 R i 3 = V i 3 := fun i => by
    by_cases z : i = i0
    · subst z; rw [va_up_self]; exact h3
    · rw [va_up_ne _ _ z]
  refine ⟨fun i hi b hb => ?_, fun t ht => ?_⟩
  · rw [e i, lsF_ext i (fun j _ => e j)]; exact h.1 i hi b hb
  · rw [lsF_ext n (fun j _ => e j)]; exact h.2 t ht
theorem tS.fr {X : List (Nat × Nat)} {L : List Nat} {K : Nat → Nat × Nat} {f f' : Nat → va_E} {g1 g2 : Nat → Option Nat} {V : Nat → Nat → Int} {n : Nat} {na : Int} (h : tS f g1 g2 V n) (hn : (n : Int) = na) (j : cqJA L K na g1) (t : cqT X L K f f') (hX : (0, 15) ∉ X) : tS f' g1 g2 V n := by
  refine ⟨fun i hi b hb => ?_, h.2⟩
  obtain ⟨b', e', i', -⟩ := j i (by omega)
  rw [hb] at e'
  cases e'
  rw [cqRf_eq (t b i'.1 15 (by rw [i'.2]; exact hX))]
  exact h.1 i hi b hb
theorem tS.more {f : Nat → va_E} {g1 g1' g2 g2' : Nat → Option Nat} {V : Nat → Nat → Int} {n a t : Nat} {R : Nat → Int} (h : tS f g1 g2 V n) (e1 : g1' = va_up g1 n (some a)) (e2 : g2' = va_up g2 t (some a)) (hr : R 3 = (t : Int)) (ht : t < 40) (hf : cqRf (f a) 15 = g2 t) : tS f g1' g2' (va_up V n R) (n + 1) := by
  have eg : ∀ i, i < n → g1' i = g1 i := fun i hi => by rw [e1, va_up_ne _ _ (by omega)]
  have eV : ∀ i, i < n → va_up V n R i 3 = V i 3 := fun i hi => by rw [va_up_ne _ _ (by omega)]
  refine ⟨fun i hi b hb => ?_, fun t' ht' => ?_⟩
  · by_cases z : i = n
    · subst z
      rw [e1, va_up_self] at hb
      cases hb
      rw [va_up_self, hr, lsF_ext i eV, bindU i (Nat.le_refl _) eg, hf]
      exact h.2 t ht
    · rw [eg i (by omega)] at hb
      rw [va_up_ne _ _ z, lsF_ext i (fun j hj => eV j (by omega)), bindU i (show i ≤ n by omega) eg]
      exact h.1 i (by omega) b hb
  · by_cases z : t' = t
    · subst z
      rw [e2, va_up_self, lsF_hit (by rw [va_up_self]; exact hr), e1]
      exact (va_up_self _ _ _).symm
    · rw [e2, va_up_ne _ _ z, lsF_skip (by rw [va_up_self, hr]; omega), lsF_ext n eV, bindU n (Nat.le_refl _) eg]
      exact h.2 t' ht'
theorem tA.frI {X : List (Nat × Nat)} {L : List Nat} {K : Nat → Nat × Nat} {f f' : Nat → va_E} {g : Nat → Option Nat} {Nd : Nat → Int → Option Nat} {V : Nat → Nat → Int} {n : Nat} {na : Int} (h : tA f g Nd V n) (hn : (n : Int) = na) (j : cqJA L K na g) (t : cqT X L K f f') (hX : (0, 6) ∉ X) : tA f' g Nd V n := h.fr (by rw [hn]; exact j) t hX
theorem tA_at {f : Nat → va_E} {g : Nat → Option Nat} {Nd : Nat → Int → Option Nat} {V : Nat → Nat → Int} {n i b lf : Nat} (hA : tA f g Nd V n) (hi : i < n) (hb : g i = some b) (hf : cqRf (f b) 6 = some lf) : Nd 4 (V i 4) = some lf := by
  obtain ⟨l, q1, q2⟩ := hA i hi b hb
  rw [q1, ← q2, hf]
/-- all that is known of the tree and the chains -/
def tX (L : List Nat) (K : Nat → Nat × Nat) (f : Nat → va_E) (ro : Nat) (g1 g2 : Nat → Option Nat) (V : Nat → Nat → Int) (n : Nat) : Prop := ∃ Nd, tR L K f ro Nd V n ∧ tA f g1 Nd V n ∧ tS f g1 g2 V n
theorem tX.fr {X : List (Nat × Nat)} {L L' : List Nat} {K K' : Nat → Nat × Nat} {f f' : Nat → va_E} {ro : Nat} {g1 g2 : Nat → Option Nat} {V : Nat → Nat → Int} {n : Nat} {na : Int} (h : tX L K f ro g1 g2 V n) (hn : (n : Int) = na) (j : cqJA L K na g1) (gg : cqG L K L' K') (t : cqT X L K f f') (hX : (∀ k, k < 8 → (3, k) ∉ X) ∧ (0, 6) ∉ X ∧ (0, 15) ∉ X) : tX L' K' f' ro g1 g2 V n := by
  obtain ⟨Nd, h1, h2, h3⟩ := h
  exact ⟨Nd, h1.fr gg t hX.1, h2.frI hn j t hX.2.1, h3.fr hn j t hX.2.2⟩
theorem tX.empty {L : List Nat} {K : Nat → Nat × Nat} {f : Nat → va_E} {ro : Nat} {g : Nat → Option Nat} {Nd : Nat → Int → Option Nat} {V : Nat → Nat → Int} {n : Nat} {na : Int} (h1 : tR L K f ro Nd V n) (h2 : tA f g Nd V n) (hn : (n : Int) = na) (j : cqJA L K na g) : tE Nd V n := fun d p k hd hx => h1.empty h2 (fun i hi => by obtain ⟨b, e, -⟩ := j i (by omega); exact ⟨b, e⟩) hd hx k
section TXA
variable {V U : Nat → Nat → Int} {ns nw cap so th ma wo na : Int} {L L' : List Nat} {K K' : Nat → Nat × Nat} {f f9 : Nat → va_E} {ro : Nat} {g g2 : Nat → Option Nat} {Nd Nd9 : Nat → Int → Option Nat} {X : List (Nat × Nat)}
theorem tX_bad (h : ¬ alOK so th ma wo) (hR : tR L K f ro Nd V na.toNat) (hA : tA f g Nd V na.toNat) (hS : tS f g g2 V na.toNat) : tX L K f ro g g2 (alX V U na ns nw cap so th ma wo).2.2 na.toNat := by
  rw [alX_bad h]; exact ⟨Nd, hR, hA, hS⟩
theorem tX_full (h : alOK so th ma wo) (hx : rpS V so th ma nw na.toNat g none) (hn : 200 ≤ na) (hR : tR L K f ro Nd V na.toNat) (hA : tA f g Nd V na.toNat) (hS : tS f g g2 V na.toNat) : tX L K f ro g g2 (alX V U na ns nw cap so th ma wo).2.2 na.toNat := by
  rw [alX_full h (hx.2 rfl) hn]; exact ⟨Nd, hR, hA, hS⟩
theorem tX_rep {b : Nat} (h : alOK so th ma wo) (hx : rpS V so th ma nw na.toNat g (some b)) (h0 : 0 ≤ na) (hR : tR L K f ro Nd V na.toNat) (hA : tA f g Nd V na.toNat) (hS : tS f g g2 V na.toNat) (j : cqJA L K na g) (t : cqT [(0, 10), (0, 11)] L K f f9) : tX L K f9 ro g g2 (alX V U na ns nw cap so th ma wo).2.2 na.toNat := by
  obtain ⟨i, e1, e2⟩ := hx.1 b rfl
  rw [alX_rep h e1]
  have hn : ((na.toNat : Nat) : Int) = na := by omega
  exact ⟨Nd, (hR.fr cqG.rf t (by decide)).tab (fun k d p => ct_keep (R := reRow (V i) nw) rfl rfl k d p), (hA.frI hn j t (by decide)).row (R := reRow (V i) nw) rfl, (hS.fr hn j t (by decide)).row (R := reRow (V i) nw) rfl⟩
theorem tX_new {R : Nat → Int} {g9 g29 : Nat → Option Nat} {a lf : Nat} {na9 : Int} {n m : Int32} (h : alOK so th ma wo) (hx : rpS V so th ma nw na.toNat g none) (hn : ¬ 200 ≤ na) (h0 : 0 ≤ na) (eR : R = alRow na nw so th ma wo (siB U so nw ns) (cpB V so nw cap (siB U so nw ns) na.toNat)) (hR : tR L' K' f9 ro Nd9 (va_up V na.toNat R) (na.toNat + 1)) (hA : tA f g Nd V na.toNat) (hG : ndG Nd Nd9) (hS : tS f g g2 V na.toNat) (j : cqJA L K na g) (t : cqT X L K f f9) (hX : (0, 6) ∉ X ∧ (0, 15) ∉ X) (eg : g9 = va_up g n.toNatClampNeg (some a)) (e0 : n.toInt = na) (eg2 : g29 = va_up g2 m.toNatClampNeg (some a)) (em : m.toInt = th) (hl : Nd9 4 ma = some lf) (h6 : cqRf (f9 a) 6 = some lf) (h15 : cqRf (f9 a) 15 = g2 m.toNatClampNeg) (h9 : na9 = na + 1) : tX L' K' f9 ro g9 g29 (alX V U na ns nw cap so th ma wo).2.2 na9.toNat := by
  rw [alX_new h (hx.2 rfl) hn, ← eR, show na9.toNat = na.toNat + 1 by omega]
  have hn' : ((na.toNat : Nat) : Int) = na := by omega
  have en : n.toNatClampNeg = na.toNat := by
    show n.toInt.toNat = na.toNat
    rw [e0]
  have hth : 0 ≤ th ∧ th < 40 := by unfold alOK at h; omega
  have emm : ((m.toNatClampNeg : Nat) : Int) = th := by
    show ((m.toInt.toNat : Nat) : Int) = th
    omega
  rw [en] at eg
  refine ⟨Nd9, hR, (tA.ndG (hA.frI hn' j t hX.1) hG).more eg (by rw [eR]; exact hl) h6, (hS.fr hn' j t hX.2).more eg eg2 (by rw [eR, emm]; rfl) (by omega) h15⟩
/-- verdicts -/
theorem ve_S {na v0 : Int} {v w : Int32} {S : Int} (ok : veOK V na v0 v) (vb : vBit V na) (eS : S = heS (heT (V v0.toNat 13) v w) (heF (V v0.toNat 14) v w) (V v0.toNat 12)) (hS : ¬ S = 0) : (S = 1 ∧ ¬ w.toInt = 0) ∨ (S = 2 ∧ w.toInt = 0) := by
  obtain ⟨o1, o2, o3, o4⟩ := id ok
  obtain ⟨b1, b2, b3⟩ := vb v0.toNat (by omega)
  obtain ⟨b3, b4⟩ := b3 o3
  by_cases c : w.toInt = 0
  · have e : heT (V v0.toNat 13) v w = V v0.toNat 13 := if_pos c
    rw [e, o3] at eS
    unfold heS at eS
    rw [if_neg (by omega)] at eS
    by_cases q : 2 ≤ bcI (heF (V v0.toNat 14) v w)
    · rw [if_pos q] at eS; exact Or.inr ⟨eS, c⟩
    · rw [if_neg q] at eS; exact absurd eS hS
  · have e : heF (V v0.toNat 14) v w = V v0.toNat 14 := if_neg c
    rw [e, o3] at eS
    unfold heS at eS
    by_cases q : 2 ≤ bcI (heT (V v0.toNat 13) v w)
    · rw [if_pos q] at eS; exact Or.inl ⟨eS, c⟩
    · rw [if_neg q, if_neg (by omega)] at eS; exact absurd eS hS
theorem tX_vno {na v0 : Int} {v w : Int32} (h : ¬ veOK V na v0 v) (hR : tR L K f ro Nd V na.toNat) (hA : tA f g Nd V na.toNat) (hS : tS f g g2 V na.toNat) : tX L K f ro g g2 (veX V na v0 v w).2 na.toNat := by
  rw [veX_no h]; exact ⟨Nd, hR, hA, hS⟩
theorem ve_okS {na v0 : Int} {v w : Int32} {f1 : Nat → va_E} {b : Nat} (hx : atS na v0 v0.toNat g (some b)) (hV : cqV f g na V) (hv : 0 ≤ v.toInt ∧ v.toInt < 10) (ho : cqF (f b) 12 = 0) (hh : ¬ hhC (cqF (f b) 13) (cqF (f b) 14) v) (h13 : cqF (f1 b) 13 = heT (cqF (f b) 13) v w) (h14 : cqF (f1 b) 14 = heF (cqF (f b) 14) v w) (h12 : cqF (f1 b) 12 = heS (cqF (f1 b) 13) (cqF (f1 b) 14) (cqF (f b) 12)) : veOK V na v0 v ∧ cqF (f1 b) 12 = heS (heT (V v0.toNat 13) v w) (heF (V v0.toNat 14) v w) (V v0.toNat 12) := by
  obtain ⟨h0, e0⟩ := hx.1 b rfl
  have hi : ((v0.toNat : Nat) : Int) < na := by omega
  have V12 := hV _ hi b e0 12 (by decide)
  have V13 := hV _ hi b e0 13 (by decide)
  have V14 := hV _ hi b e0 14 (by decide)
  rw [V13] at h13
  rw [V14] at h14
  rw [h13, h14, V12] at h12
  exact ⟨⟨h0, hv, by rw [← V12]; exact ho, by rw [← V13, ← V14]; exact hh⟩, h12⟩
theorem tX_v0 {na v0 : Int} {v w : Int32} {S : Int} (ok : veOK V na v0 v) (eS : S = heS (heT (V v0.toNat 13) v w) (heF (V v0.toNat 14) v w) (V v0.toNat 12)) (hS0 : S = 0) (hR : tR L K f9 ro Nd V na.toNat) (hA : tA f9 g Nd V na.toNat) (hS : tS f9 g g2 V na.toNat) : tX L K f9 ro g g2 (veX V na v0 v w).2 na.toNat := by
  rw [veX_ok ok, ← eS]
  refine ⟨Nd, hR.tab (fun k d p => ct_keep (R := veRow (V v0.toNat) (heT (V v0.toNat 13) v w) (heF (V v0.toNat 14) v w) S) rfl ?_ k d p), hA.row (R := veRow (V v0.toNat) (heT (V v0.toNat 13) v w) (heF (V v0.toNat 14) v w) S) rfl, hS.row (R := veRow (V v0.toNat) (heT (V v0.toNat 13) v w) (heF (V v0.toNat 14) v w) S) rfl⟩
  show S = V v0.toNat 12
  rw [hS0, ok.2.2.1]
theorem tX_v1 {na v0 : Int} {v w : Int32} {S : Int} {f1 : Nat → va_E} (ok : veOK V na v0 v) (vb : vBit V na) (eS : S = heS (heT (V v0.toNat 13) v w) (heF (V v0.toNat 14) v w) (V v0.toNat 12)) (hS0 : ¬ S = 0) (hR : tR L K f1 ro Nd V na.toNat) (hA : tA f1 g Nd V na.toNat) (hS : tS f1 g g2 V na.toNat) (j : cqJA L K na g) (t : cqT [(3, 5), (3, 6), (3, 7)] L K f1 f9) (d5 : tD Nd (V v0.toNat 4) (-1) f1 f9 5 (if w.toInt = 0 then 0 else 1)) (d6 : tD Nd (V v0.toNat 4) (-1) f1 f9 6 1) (d7 : tD Nd (V v0.toNat 4) (-1) f1 f9 7 (-1)) : tX L K f9 ro g g2 (veX V na v0 v w).2 na.toNat := by
  have hw := ve_S ok vb eS hS0
  rw [veX_ok ok, ← eS]
  have hn : ((na.toNat : Nat) : Int) = na := by have := ok.1; omega
  have e5 : (if w.toInt = 0 then (0 : Int) else 1) = if S = 1 then 1 else 0 := by
    rcases hw with ⟨a, b⟩ | ⟨a, b⟩
    · rw [if_neg b, if_pos a]
    · rw [if_pos b, if_neg (by omega)]
  rw [e5] at d5
  refine ⟨Nd, hR.count cqG.rf t (by decide) d5 d6 d7 (fun k d p x _ hk => ct_set (s := S) (R := veRow (V v0.toNat) (heT (V v0.toNat 13) v w) (heF (V v0.toNat 14) v w) S) (by have := ok.1; omega) rfl rfl ok.2.2.1 rfl (by omega) k d p x hk), (hA.frI hn j t (by decide)).row (R := veRow (V v0.toNat) (heT (V v0.toNat 13) v w) (heF (V v0.toNat 14) v w) S) rfl, (hS.fr hn j t (by decide)).row (R := veRow (V v0.toNat) (heT (V v0.toNat 13) v w) (heF (V v0.toNat 14) v w) S) rfl⟩
end TXA
/-- slow burns -/
def swC (V : Nat → Nat → Int) (th nw : Int) (i : Nat) : Prop := (V i 12 = 0 ∧ V i 8 = 0 ∧ V i 9 = 0) ∧ V i 3 = th ∧ nw - V i 1 ≤ 199
noncomputable def scI (V : Nat → Nat → Int) (n : Nat) (le : Int) (i : Nat) : Int := scX V n le (V i 4) (V i 5)
noncomputable def swF (V : Nat → Nat → Int) (n : Nat) (le th nw : Int) : Nat → Int
  | 0 => 0
  | k + 1 => swF V n le th nw k + @ite _ (swC V th nw k) (Classical.propDecidable _) (scI V n le k) 0
section SW
variable {V : Nat → Nat → Int} {n : Nat} {le th nw : Int}
theorem swF_hit {k : Nat} (h : swC V th nw k) : swF V n le th nw (k + 1) = swF V n le th nw k + scI V n le k := by
  show swF V n le th nw k + @ite _ (swC V th nw k) (Classical.propDecidable _) (scI V n le k) 0 = _
  rw [if_pos h]
theorem swF_skip {k : Nat} (h : ¬ swC V th nw k) : swF V n le th nw (k + 1) = swF V n le th nw k := by
  show swF V n le th nw k + @ite _ (swC V th nw k) (Classical.propDecidable _) (scI V n le k) 0 = _
  rw [if_neg h, Int.add_zero]
theorem swF_gap {i : Nat} (j : Nat) (h : ∀ i', i ≤ i' → i' < j → ¬ swC V th nw i') (hi : i ≤ j) : swF V n le th nw j = swF V n le th nw i := by
  induction j with
  | zero => rw [show i = 0 by omega]
  | succ j ih =>
    by_cases z : i = j + 1
    · rw [z]
    · rw [swF_skip (h j (by omega) (by omega)), ih (fun i' h1 h2 => h i' h1 (by omega)) (by omega)]
theorem swF_0 {j : Nat} (h : ∀ i', i' < j → ¬ swC V th nw i') : swF V n le th nw j = 0 := swF_gap (i := 0) j (fun i' _ h2 => h i' h2) (Nat.zero_le _)
theorem scX_nn {mk wo : Int} (hw : 0 ≤ wo) : 0 ≤ scX V n le mk wo := by
  unfold scX
  have r5 := ctF_rng (C := kC V 5 (dpF V n mk le 4) (pfx (dpF V n mk le 4) mk)) n
  have r6 := ctF_rng (C := kC V 6 (dpF V n mk le 4) (pfx (dpF V n mk le 4) mk)) n
  split
  · omega
  · exact Int.ediv_nonneg (Int.mul_nonneg (by omega) r5.1) r6.1
noncomputable def swX (V : Nat → Nat → Int) (n : Nat) (le th nw : Int) : Int := @ite _ ((0 ≤ th ∧ th < 40) ∧ (∀ i, i < n → swC V th nw i → scI V n le i < 10000) ∧ 30000 < swF V n le th nw n) (Classical.propDecidable _) (swF V n le th nw n) (-1)
theorem swX_no (h : ¬ (0 ≤ th ∧ th < 40)) : swX V n le th nw = -1 := if_neg (fun q => h q.1)
theorem swX_loud {i : Nat} (hi : i < n) (hc : swC V th nw i) (hs : 10000 ≤ scI V n le i) : swX V n le th nw = -1 := if_neg (fun q => by have := q.2.1 i hi hc; omega)
theorem swX_low (h : swF V n le th nw n ≤ 30000) : swX V n le th nw = -1 := if_neg (fun q => by have := q.2.2; omega)
theorem swX_yes (h0 : 0 ≤ th ∧ th < 40) (h : ∀ i, i < n → swC V th nw i → scI V n le i < 10000) (h2 : 30000 < swF V n le th nw n) : swX V n le th nw = swF V n le th nw n := if_pos ⟨h0, h, h2⟩
theorem bind_some {g : Nat → Option Nat} {o : Option Nat} {b : Nat} (h : some b = o.bind g) : ∃ i, o = some i ∧ g i = some b := by
  rcases o with _ | i
  · cases h
  · exact ⟨i, rfl, h.symm⟩
theorem bind_none {g : Nat → Option Nat} {o : Option Nat} (h : none = o.bind g) (hg : ∀ i, o = some i → ∃ b, g i = some b) : o = none := by
  rcases o with _ | i
  · rfl
  · obtain ⟨b, hb⟩ := hg i rfl
    have h : none = g i := h
    rw [hb] at h; cases h
/-- the class's walk down a chain: at jj, u is the sum of those from jj up -/
def swI (V : Nat → Nat → Int) (n : Nat) (le th nw : Int) (g : Nat → Option Nat) (ea : Option Nat) (jj : Nat) (u : Int) : Prop := ea = (lsF V th jj).bind g ∧ jj ≤ n ∧ (∀ i, jj ≤ i → i < n → swC V th nw i → scI V n le i < 10000) ∧ u + swF V n le th nw jj = swF V n le th nw n ∧ 0 ≤ u ∧ u ≤ 10000 * ((n : Int) - (jj : Int))
variable {g : Nat → Option Nat} {ea ea' : Option Nat} {jj : Nat} {u u' : Int}
theorem swI.start (h : ea = (lsF V th n).bind g) : swI V n le th nw g ea n 0 := ⟨h, Nat.le_refl _, fun i h1 h2 => by omega, by omega, Int.le_refl _, by omega⟩
theorem swI.end {L : List Nat} {K : Nat → Nat × Nat} {na : Int} (h : swI V n le th nw g none jj u) (hn : (n : Int) = na) (j : cqJA L K na g) : u = swF V n le th nw n ∧ ∀ i, i < n → swC V th nw i → scI V n le i < 10000 := by
  obtain ⟨h1, h2, h3, h4, h5⟩ := h
  have e := bind_none h1 (fun i hi => by
    have hl := (lsF_some jj hi).1
    obtain ⟨b, e, -⟩ := j i (by omega)
    exact ⟨b, e⟩)
  have no := lsF_none jj e
  have z : swF V n le th nw jj = 0 := swF_0 (fun i hi c => no i hi c.2.1)
  refine ⟨by omega, fun i hi c => ?_⟩
  by_cases q : jj ≤ i
  · exact h3 i q hi c
  · exact absurd c.2.1 (no i (by omega))
theorem swI.old {b i : Nat} (h : swI V n le th nw g (some b) jj u) (hi : lsF V th jj = some i) (hM : ∀ i' j' : Nat, i' ≤ j' → j' < n → V i' 1 ≤ V j' 1) (ho : 199 < nw - V i 1) : u = swF V n le th nw n ∧ ∀ i, i < n → swC V th nw i → scI V n le i < 10000 := by
  obtain ⟨h1, h2, h3, h4, h5⟩ := h
  obtain ⟨a, b', c⟩ := lsF_some jj hi
  have no : ∀ i', i' < jj → ¬ swC V th nw i' := fun i' hi' q => by
    by_cases z : i < i'
    · exact c i' z hi' q.2.1
    · have := hM i' i (by omega) (by omega)
      have := q.2.2
      omega
  have z : swF V n le th nw jj = 0 := swF_0 no
  refine ⟨by omega, fun i hi c => ?_⟩
  by_cases q : jj ≤ i
  · exact h3 i q hi c
  · exact absurd c (no i (by omega))
theorem swI.next {b i : Nat} {s : Int} (h : swI V n le th nw g (some b) jj u) (hi : lsF V th jj = some i) (hs : (swC V th nw i ∧ s = scI V n le i) ∨ (¬ swC V th nw i ∧ s = 0)) (hs0 : 0 ≤ s) (hs1 : s < 10000) (eu : u' = u + s) (he : ea' = (lsF V th i).bind g) : swI V n le th nw g ea' i u' := by
  obtain ⟨h1, h2, h3, h4, h5, h6⟩ := h
  obtain ⟨a, b', c⟩ := lsF_some jj hi
  have gap : swF V n le th nw jj = swF V n le th nw (i + 1) := swF_gap jj (fun i' q1 q2 q => c i' (by omega) q2 q.2.1) (by omega)
  refine ⟨he, by omega, fun i' q1 q2 q => ?_, ?_, by omega, by omega⟩
  · by_cases z : jj ≤ i'
    · exact h3 i' z q2 q
    · by_cases z2 : i' = i
      · subst z2
        rcases hs with ⟨_, e⟩ | ⟨e, _⟩
        · omega
        · exact absurd q e
      · exact absurd q.2.1 (c i' (by omega) (by omega))
  · rcases hs with ⟨q, e⟩ | ⟨q, e⟩
    · rw [gap, swF_hit q] at h4; omega
    · rw [gap, swF_skip q] at h4; omega
/-- the reference's walk up -/
def swJ (V : Nat → Nat → Int) (n : Nat) (le th nw : Int) (k : Nat) (u : Int) : Prop := (∀ i, i < k → swC V th nw i → scI V n le i < 10000) ∧ u = swF V n le th nw k ∧ 0 ≤ u ∧ u ≤ 10000 * (k : Int)
theorem swJ.start : swJ V n le th nw 0 0 := ⟨fun i hi => by omega, rfl, Int.le_refl _, Int.le_refl _⟩
theorem swJ.skip {k k' : Nat} (h : swJ V n le th nw k u) (ek : k' = k + 1) (eu : u' = u) (q : ¬ swC V th nw k) : swJ V n le th nw k' u' := by
  subst ek; subst eu
  obtain ⟨h1, h2, h3, h4⟩ := h
  refine ⟨fun i hi c => ?_, by rw [swF_skip q]; exact h2, h3, by omega⟩
  by_cases z : i = k
  · subst z; exact absurd c q
  · exact h1 i (by omega) c
theorem swJ.hit {k k' : Nat} {s : Int} (h : swJ V n le th nw k u) (ek : k' = k + 1) (es : s = scI V n le k) (h0 : 0 ≤ s) (h10 : s < 10000) (eu : u' = u + s) (q : swC V th nw k) : swJ V n le th nw k' u' := by
  subst ek; subst eu
  obtain ⟨h1, h2, h3, h4⟩ := h
  refine ⟨fun i hi c => ?_, by rw [swF_hit q]; omega, by omega, by omega⟩
  by_cases z : i = k
  · subst z; omega
  · exact h1 i (by omega) c
end SW
