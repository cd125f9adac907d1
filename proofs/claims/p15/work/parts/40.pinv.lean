/-- an object of class c in the pool; K tells of an address its class and a key -/
def cqIs (L : List Nat) (K : Nat → Nat × Nat) (c a : Nat) : Prop := a ∈ L ∧ (K a).1 = c
/-- nothing, or an object of class c with a lesser key -/
def cqLo (L : List Nat) (K : Nat → Nat × Nat) (c : Nat) (v : Option Nat) (k : Nat) : Prop := ∀ b, v = some b → cqIs L K c b ∧ (K b).2 < k
def cqOp (L : List Nat) (K : Nat → Nat × Nat) (c : Nat) (v : Option Nat) : Prop := ∀ b, v = some b → cqIs L K c b
def cqA (L : List Nat) (K : Nat → Nat × Nat) (a : Nat) (e : va_E) : Prop := ∃ (nu ca so th ma wo : Int32) (lf ld : Nat) (si cp he re sv lt lF : Int32) (sn ab : Option Nat), e = .inr (0, [.int nu, .int ca, .int so, .int th, .int ma, .int wo, .ref lf, .ref ld, .int si, .int cp, .int he, .int re, .int sv, .int lt, .int lF, va_rf sn, va_rf ab]) ∧ nu.toInt = ((K a).2 : Int) ∧ cqIs L K 3 lf ∧ cqIs L K 1 ld ∧ (si = 0 ∨ si = 1) ∧ (cp = 0 ∨ cp = 1) ∧ cqLo L K 0 sn (K a).2 ∧ cqLo L K 0 ab (K a).2
def cqC (S : Int) (e : va_E) : Prop := ∃ (nu sz sc li : Int32), e = .inr (1, [.int nu, .int sz, .int sc, .int li]) ∧ 0 ≤ sz.toInt ∧ sz.toInt ≤ S
def cqN (L : List Nat) (K : Nat → Nat × Nat) (a : Nat) (e : va_E) : Prop := ∃ (pa : Option Nat) (de ma : Int32) (sb fc : Option Nat) (tu sd op : Int32), e = .inr (3, [va_rf pa, .int de, .int ma, va_rf sb, va_rf fc, .int tu, .int sd, .int op]) ∧ cqLo L K 3 pa (K a).2 ∧ cqLo L K 3 sb (K a).2 ∧ cqOp L K 3 fc
def cqP (e : va_E) : Prop := ∃ (lo gr jo : Int32), e = .inr (4, [.int lo, .int gr, .int jo])
def cqS (e : va_E) : Prop := ∃ (so fr tt : Int32), e = .inr (6, [.int so, .int fr, .int tt])
def cqE (S : Int) (L : List Nat) (K : Nat → Nat × Nat) (a : Nat) (e : va_E) : Prop := ((K a).1 = 0 → cqA L K a e) ∧ ((K a).1 = 1 → cqC S e) ∧ ((K a).1 = 3 → cqN L K a e) ∧ ((K a).1 = 4 → cqP e) ∧ ((K a).1 = 6 → cqS e)
/-- every object of the pool is as its class and key say -/
def cqI (S : Int) (L : List Nat) (K : Nat → Nat × Nat) (f : Nat → va_E) : Prop := ∀ a, a ∈ L → cqE S L K a (f a)
/-- the pool has grown -/
def cqG (L : List Nat) (K : Nat → Nat × Nat) (L' : List Nat) (K' : Nat → Nat × Nat) : Prop := ∀ b, b ∈ L → b ∈ L' ∧ K' b = K b
section CQ
variable {S S' : Int} {L L' L2 : List Nat} {K K' K2 : Nat → Nat × Nat} {f f1 : Nat → va_E} {a b c c' k : Nat} {v : Option Nat} {e : va_E}
theorem cqG.rf : cqG L K L K := fun _ h => ⟨h, rfl⟩
theorem cqG.trans (h1 : cqG L K L' K') (h2 : cqG L' K' L2 K2) : cqG L K L2 K2 := fun b hb => ⟨(h2 b (h1 b hb).1).1, ((h2 b (h1 b hb).1).2).trans (h1 b hb).2⟩
theorem cqIs.up (h : cqIs L K c a) (g : cqG L K L' K') : cqIs L' K' c a := ⟨(g a h.1).1, by rw [(g a h.1).2]; exact h.2⟩
theorem cqIs.key (h : cqIs L K c a) (g : cqG L K L' K') : (K' a).2 = (K a).2 := by rw [(g a h.1).2]
theorem cqLo.up (h : cqLo L K c v k) (g : cqG L K L' K') : cqLo L' K' c v k := fun b hb => ⟨(h b hb).1.up g, by rw [(h b hb).1.key g]; exact (h b hb).2⟩
theorem cqOp.up (h : cqOp L K c v) (g : cqG L K L' K') : cqOp L' K' c v := fun b hb => (h b hb).up g
theorem cqLo.none : cqLo L K c none k := fun _ h => by cases h
theorem cqOp.none : cqOp L K c none := fun _ h => by cases h
theorem cqLo.some (h : cqIs L K c b) (hk : (K b).2 < k) : cqLo L K c (some b) k := fun _ h9 => by cases h9; exact ⟨h, hk⟩
theorem cqOp.some (h : cqIs L K c b) : cqOp L K c (some b) := fun _ h9 => by cases h9; exact h
theorem cqLo.op (h : cqLo L K c v k) : cqOp L K c v := fun b h9 => (h b h9).1
theorem cqIs.ne (h : cqIs L K c a) (h' : cqIs L K c' b) (n : c' ≠ c) : b ≠ a := fun q => n (by rw [← h.2, ← h'.2, q])
theorem cqA.up (ha : a ∈ L) (g : cqG L K L' K') (h : cqA L K a e) : cqA L' K' a e := by
  obtain ⟨nu, ca, so, th, ma, wo, lf, ld, si, cp, he, re, sv, lt, lF, sn, ab, h0, h1, h2, h3, h4, h5, h6, h7⟩ := h
  have e1 : K' a = K a := (g a ha).2
  exact ⟨nu, ca, so, th, ma, wo, lf, ld, si, cp, he, re, sv, lt, lF, sn, ab, h0, by rw [e1]; exact h1, h2.up g, h3.up g, h4, h5, by rw [e1]; exact h6.up g, by rw [e1]; exact h7.up g⟩
theorem cqN.up (ha : a ∈ L) (g : cqG L K L' K') (h : cqN L K a e) : cqN L' K' a e := by
  obtain ⟨pa, de, ma, sb, fc, tu, sd, op, h0, h1, h2, h3⟩ := h
  have e1 : K' a = K a := (g a ha).2
  exact ⟨pa, de, ma, sb, fc, tu, sd, op, h0, by rw [e1]; exact h1.up g, by rw [e1]; exact h2.up g, h3.up g⟩
theorem cqE.up (ha : a ∈ L) (g : cqG L K L' K') (h : cqE S L K a e) : cqE S L' K' a e := by
  have e1 : K' a = K a := (g a ha).2
  obtain ⟨h0, h1, h2, h3, h4⟩ := h
  rw [← e1] at h0 h1 h2 h3 h4
  exact ⟨fun q => (h0 q).up ha g, h1, fun q => (h2 q).up ha g, h3, h4⟩
theorem cqI.more (h : cqI S L K f) (hs : S ≤ S') : cqI S' L K f := fun a ha => by
  obtain ⟨h0, h1, h2, h3, h4⟩ := h a ha
  refine ⟨h0, fun q => ?_, h2, h3, h4⟩
  obtain ⟨nu, sz, sc, li, g0, g1, g2⟩ := h1 q
  exact ⟨nu, sz, sc, li, g0, g1, by omega⟩
theorem cqI.opA (h : cqI S L K f) (i : cqIs L K 0 a) : cqA L K a (f a) := (h a i.1).1 i.2
theorem cqI.opC (h : cqI S L K f) (i : cqIs L K 1 a) : cqC S (f a) := (h a i.1).2.1 i.2
theorem cqI.opN (h : cqI S L K f) (i : cqIs L K 3 a) : cqN L K a (f a) := (h a i.1).2.2.1 i.2
theorem cqI.opP (h : cqI S L K f) (i : cqIs L K 4 a) : cqP (f a) := (h a i.1).2.2.2.1 i.2
theorem cqI.opS (h : cqI S L K f) (i : cqIs L K 6 a) : cqS (f a) := (h a i.1).2.2.2.2 i.2
theorem cqI.put (h : cqI S L K f) (he : cqE S L K a e) (ef : f1 = va_up f a e) : cqI S L K f1 := fun b hb => by
  by_cases q : b = a
  · subst q; rw [ef, va_up_self]; exact he
  · rw [ef, va_up_ne _ _ q]; exact h b hb
theorem cqno (i : cqIs L K c a) (n : c ≠ c') {P : Prop} : (K a).1 = c' → P := fun q => absurd (i.2.symm.trans q) n
theorem cqI.ptA (h : cqI S L K f) (i : cqIs L K 0 a) (ef : f1 = va_up f a e) (w : cqA L K a e) : cqI S L K f1 := h.put ⟨fun _ => w, cqno i (by decide), cqno i (by decide), cqno i (by decide), cqno i (by decide)⟩ ef
theorem cqI.ptC (h : cqI S L K f) (i : cqIs L K 1 a) (ef : f1 = va_up f a e) (w : cqC S e) : cqI S L K f1 := h.put ⟨cqno i (by decide), fun _ => w, cqno i (by decide), cqno i (by decide), cqno i (by decide)⟩ ef
theorem cqI.ptN (h : cqI S L K f) (i : cqIs L K 3 a) (ef : f1 = va_up f a e) (w : cqN L K a e) : cqI S L K f1 := h.put ⟨cqno i (by decide), cqno i (by decide), fun _ => w, cqno i (by decide), cqno i (by decide)⟩ ef
theorem cqI.ptP (h : cqI S L K f) (i : cqIs L K 4 a) (ef : f1 = va_up f a e) (w : cqP e) : cqI S L K f1 := h.put ⟨cqno i (by decide), cqno i (by decide), cqno i (by decide), fun _ => w, cqno i (by decide)⟩ ef
theorem cq_bound (L : List Nat) (K : Nat → Nat × Nat) : ∃ k, ∀ b, b ∈ L → (K b).2 < k := by
  induction L with
  | nil => exact ⟨0, fun b h => by cases h⟩
  | cons x L ih =>
    obtain ⟨k, hk⟩ := ih
    refine ⟨k + (K x).2 + 1, fun b hb => ?_⟩
    rcases List.mem_cons.mp hb with q | q
    · subst q; omega
    · have := hk b q; omega
theorem cqG.push (hq : a ∉ L) (y : Nat × Nat) : cqG L K (L ++ [a]) (va_up K a y) := fun b hb => ⟨List.mem_append_left _ hb, va_up_ne _ _ (fun q => hq (q ▸ hb))⟩
theorem cqI.push (h : cqI S L K f) (hq : a ∉ L) (y : Nat × Nat) (he : cqE S (L ++ [a]) (va_up K a y) a e) : cqI S (L ++ [a]) (va_up K a y) (va_up f a e) := fun b hb => by
  rcases List.mem_append.mp hb with q | q
  · have hne : b ≠ a := fun z => hq (z ▸ q)
    rw [va_up_ne _ _ hne]
    exact (h b q).up q (cqG.push hq y)
  · have hba : b = a := by simpa using q
    subst hba
    rw [va_up_self]
    exact he
theorem cqIs.new (y : Nat × Nat) : cqIs (L ++ [a]) (va_up K a y) y.1 a := ⟨List.mem_append_right _ (List.mem_singleton.mpr rfl), by rw [va_up_self]⟩
/-- a new node -/
theorem cqI.newN (h : cqI S L K f) (hq : a ∉ L) {pa sb fc : Option Nat} {de ma tu sd op : Int32} (h1 : cqOp L K 3 pa) (h2 : cqOp L K 3 sb) (h3 : cqOp L K 3 fc) : ∃ K', cqG L K (L ++ [a]) K' ∧ cqI S (L ++ [a]) K' (va_up f a (.inr (3, [va_rf pa, .int de, .int ma, va_rf sb, va_rf fc, .int tu, .int sd, .int op]))) ∧ cqIs (L ++ [a]) K' 3 a := by
  obtain ⟨k, hk⟩ := cq_bound L K
  have g := cqG.push (K := K) hq (3, k)
  have ek : va_up K a (3, k) a = (3, k) := va_up_self _ _ _
  have lo : ∀ {v : Option Nat}, cqOp L K 3 v → cqLo (L ++ [a]) (va_up K a (3, k)) 3 v (va_up K a (3, k) a).2 := fun {v} hv b hb => ⟨(hv b hb).up g, by rw [ek, (hv b hb).key g]; exact hk b (hv b hb).1⟩
  refine ⟨va_up K a (3, k), g, h.push hq (3, k) ⟨fun q => ?_, fun q => ?_, fun _ => ⟨pa, de, ma, sb, fc, tu, sd, op, rfl, lo h1, lo h2, h3.up g⟩, fun q => ?_, fun q => ?_⟩, cqIs.new (3, k)⟩ <;> (rw [ek] at q; cases q)
theorem cqI.newC (h : cqI S L K f) (hq : a ∉ L) {nu sz sc li : Int32} (h1 : 0 ≤ sz.toInt ∧ sz.toInt ≤ S) : ∃ K', cqG L K (L ++ [a]) K' ∧ cqI S (L ++ [a]) K' (va_up f a (.inr (1, [.int nu, .int sz, .int sc, .int li]))) ∧ cqIs (L ++ [a]) K' 1 a := by
  have g := cqG.push (K := K) hq (1, 0)
  have ek : va_up K a (1, 0) a = (1, 0) := va_up_self _ _ _
  refine ⟨va_up K a (1, 0), g, h.push hq (1, 0) ⟨fun q => ?_, fun _ => ⟨nu, sz, sc, li, rfl, h1⟩, fun q => ?_, fun q => ?_, fun q => ?_⟩, cqIs.new (1, 0)⟩ <;> (rw [ek] at q; cases q)
theorem cqI.newP (h : cqI S L K f) (hq : a ∉ L) {x y z : Int32} : ∃ K', cqG L K (L ++ [a]) K' ∧ cqI S (L ++ [a]) K' (va_up f a (.inr (4, [.int x, .int y, .int z]))) ∧ cqIs (L ++ [a]) K' 4 a := by
  have g := cqG.push (K := K) hq (4, 0)
  have ek : va_up K a (4, 0) a = (4, 0) := va_up_self _ _ _
  refine ⟨va_up K a (4, 0), g, h.push hq (4, 0) ⟨fun q => ?_, fun q => ?_, fun q => ?_, fun _ => ⟨x, y, z, rfl⟩, fun q => ?_⟩, cqIs.new (4, 0)⟩ <;> (rw [ek] at q; cases q)
theorem cqI.newS (h : cqI S L K f) (hq : a ∉ L) {x y z : Int32} : ∃ K', cqG L K (L ++ [a]) K' ∧ cqI S (L ++ [a]) K' (va_up f a (.inr (6, [.int x, .int y, .int z]))) ∧ cqIs (L ++ [a]) K' 6 a := by
  have g := cqG.push (K := K) hq (6, 0)
  have ek : va_up K a (6, 0) a = (6, 0) := va_up_self _ _ _
  refine ⟨va_up K a (6, 0), g, h.push hq (6, 0) ⟨fun q => ?_, fun q => ?_, fun q => ?_, fun q => ?_, fun _ => ⟨x, y, z, rfl⟩⟩, cqIs.new (6, 0)⟩ <;> (rw [ek] at q; cases q)
theorem cqI.newA (h : cqI S L K f) (hq : a ∉ L) {nu ca so th ma wo : Int32} {lf ld : Nat} {si cp he re sv lt lF : Int32} {sn ab : Option Nat} (hn : nu.toInt = (k : Int)) (h2 : cqIs L K 3 lf) (h3 : cqIs L K 1 ld) (h4 : si = 0 ∨ si = 1) (h5 : cp = 0 ∨ cp = 1) (h6 : cqLo L K 0 sn k) (h7 : cqLo L K 0 ab k) : ∃ K', cqG L K (L ++ [a]) K' ∧ cqI S (L ++ [a]) K' (va_up f a (.inr (0, [.int nu, .int ca, .int so, .int th, .int ma, .int wo, .ref lf, .ref ld, .int si, .int cp, .int he, .int re, .int sv, .int lt, .int lF, va_rf sn, va_rf ab]))) ∧ cqIs (L ++ [a]) K' 0 a ∧ (K' a).2 = k := by
  have g := cqG.push (K := K) hq (0, k)
  have ek : va_up K a (0, k) a = (0, k) := va_up_self _ _ _
  refine ⟨va_up K a (0, k), g, h.push hq (0, k) ⟨fun _ => ⟨nu, ca, so, th, ma, wo, lf, ld, si, cp, he, re, sv, lt, lF, sn, ab, rfl, by rw [ek]; exact hn, h2.up g, h3.up g, h4, h5, by rw [ek]; exact h6.up g, by rw [ek]; exact h7.up g⟩, fun q => ?_, fun q => ?_, fun q => ?_, fun q => ?_⟩, cqIs.new (0, k), by rw [ek]⟩ <;> (rw [ek] at q; cases q)
/-- rows -/
def cqJ (L : List Nat) (K : Nat → Nat × Nat) (c : Nat) (n : Int) (g : Nat → Option Nat) : Prop := ∀ i : Nat, (i : Int) < n → ∃ b, g i = some b ∧ cqIs L K c b
def cqJA (L : List Nat) (K : Nat → Nat × Nat) (n : Int) (g : Nat → Option Nat) : Prop := ∀ i : Nat, (i : Int) < n → ∃ b, g i = some b ∧ cqIs L K 0 b ∧ (K b).2 = i
def cqJL (L : List Nat) (K : Nat → Nat × Nat) (n : Nat) (g : Nat → Option Nat) : Prop := ∀ i b, g i = some b → cqIs L K 0 b ∧ (K b).2 < n
theorem cqJ.up {n : Int} {g : Nat → Option Nat} (h : cqJ L K c n g) (q : cqG L K L' K') : cqJ L' K' c n g := fun i hi => by
  obtain ⟨b, h1, h2⟩ := h i hi
  exact ⟨b, h1, h2.up q⟩
theorem cqJA.up {n : Int} {g : Nat → Option Nat} (h : cqJA L K n g) (q : cqG L K L' K') : cqJA L' K' n g := fun i hi => by
  obtain ⟨b, h1, h2, h3⟩ := h i hi
  exact ⟨b, h1, h2.up q, by rw [h2.key q]; exact h3⟩
theorem cqJL.up {n : Nat} {g : Nat → Option Nat} (h : cqJL L K n g) (q : cqG L K L' K') : cqJL L' K' n g := fun i b hb => ⟨(h i b hb).1.up q, by rw [(h i b hb).1.key q]; exact (h i b hb).2⟩
theorem tnc_eq {i : Int32} (h : 0 ≤ i.toInt) : ((i.toNatClampNeg : Nat) : Int) = i.toInt := by
  show ((i.toInt.toNat : Nat) : Int) = i.toInt
  omega
theorem cqJ.get {n : Int} {g : Nat → Option Nat} (h : cqJ L K c n g) {i : Int32} (h0 : 0 ≤ i.toInt) (h1 : i.toInt < n) : ∃ b, g i.toNatClampNeg = some b ∧ cqIs L K c b := h _ (by rw [tnc_eq h0]; exact h1)
theorem cqJA.get {n : Int} {g : Nat → Option Nat} (h : cqJA L K n g) {i : Int32} (h0 : 0 ≤ i.toInt) (h1 : i.toInt < n) : ∃ b, g i.toNatClampNeg = some b ∧ cqIs L K 0 b ∧ ((K b).2 : Int) = i.toInt := by
  obtain ⟨b, g1, g2, g3⟩ := h i.toNatClampNeg (by rw [tnc_eq h0]; exact h1)
  exact ⟨b, g1, g2, by rw [g3, tnc_eq h0]⟩
theorem cqJ.nil {g : Nat → Option Nat} : cqJ L K c 0 g := fun i hi => by omega
theorem cqJ.less {n n' : Int} {g : Nat → Option Nat} (h : cqJ L K c n g) (hn : n' ≤ n) : cqJ L K c n' g := fun i hi => h i (by omega)
/-- a place is written: all up to there stay, and it may be one more -/
theorem cqJ.set {n n' : Int} {g g' : Nat → Option Nat} (h : cqJ L K c n g) {i : Int32} (h0 : 0 ≤ i.toInt) (hb : cqIs L K c b) (e : g' = va_up g i.toNatClampNeg (some b)) (hn : n' ≤ n ∨ (n' = n + 1 ∧ i.toInt = n)) : cqJ L K c n' g' := fun j hj => by
  subst e
  have hz := tnc_eq h0
  by_cases q : j = i.toNatClampNeg
  · subst q; exact ⟨b, va_up_self _ _ _, hb⟩
  · rw [va_up_ne _ _ q]
    exact h j (by omega)
theorem cqJA.set {n n' : Int} {g g' : Nat → Option Nat} (h : cqJA L K n g) {i : Int32} (h0 : 0 ≤ i.toInt) (hb : cqIs L K 0 b) (e : g' = va_up g i.toNatClampNeg (some b)) (hn : n' = n + 1 ∧ i.toInt = n) (hk : ((K b).2 : Int) = n) : cqJA L K n' g' := fun j hj => by
  subst e
  have hz := tnc_eq h0
  by_cases q : j = i.toNatClampNeg
  · subst q; exact ⟨b, va_up_self _ _ _, hb, by omega⟩
  · rw [va_up_ne _ _ q]
    exact h j (by omega)
theorem cqJL.set {n n' : Nat} {g g' : Nat → Option Nat} (h : cqJL L K n g) {i : Nat} (hb : cqIs L K 0 b) (e : g' = va_up g i (some b)) (hn : n ≤ n') (hk : (K b).2 < n') : cqJL L K n' g' := fun j x hx => by
  subst e
  by_cases q : j = i
  · subst q; rw [va_up_self] at hx; cases hx; exact ⟨hb, hk⟩
  · rw [va_up_ne _ _ q] at hx
    exact ⟨(h j x hx).1, by have := (h j x hx).2; omega⟩
theorem cqJL.lo {n : Nat} {g : Nat → Option Nat} (h : cqJL L K n g) (i : Nat) (e : v = g i) : cqLo L K 0 v n := fun b hb => h i b (by rw [← e]; exact hb)
theorem cq_rc {ci : Nat} {X : va_W} (h : a ∈ L) {fs : List Value} (hf : f a = .inr (ci, fs)) : ∃ (q0 : Nat) (fs : List Value), (X ++ va_pl L f)[q0]? = some (a, .inr (ci, fs)) := by
  obtain ⟨q0, he⟩ := va_pl_get (X := X) (f := f) h
  rw [hf] at he
  exact ⟨q0, fs, he⟩
theorem cq_rcA {X : va_W} (h : cqI S L K f) (i : cqIs L K 0 a) : ∃ (q0 : Nat) (fs : List Value), (X ++ va_pl L f)[q0]? = some (a, .inr (0, fs)) := by
  obtain ⟨nu, ca, so, th, ma, wo, lf, ld, si, cp, he, re, sv, lt, lF, sn, ab, h0, -⟩ := h.opA i
  exact cq_rc i.1 h0
theorem cq_rcC {X : va_W} (h : cqI S L K f) (i : cqIs L K 1 a) : ∃ (q0 : Nat) (fs : List Value), (X ++ va_pl L f)[q0]? = some (a, .inr (1, fs)) := by
  obtain ⟨nu, sz, sc, li, h0, -⟩ := h.opC i
  exact cq_rc i.1 h0
theorem cq_rcN {X : va_W} (h : cqI S L K f) (i : cqIs L K 3 a) : ∃ (q0 : Nat) (fs : List Value), (X ++ va_pl L f)[q0]? = some (a, .inr (3, fs)) := by
  obtain ⟨pa, de, ma, sb, fc, tu, sd, op, h0, -⟩ := h.opN i
  exact cq_rc i.1 h0
theorem cq_rcP {X : va_W} (h : cqI S L K f) (i : cqIs L K 4 a) : ∃ (q0 : Nat) (fs : List Value), (X ++ va_pl L f)[q0]? = some (a, .inr (4, fs)) := by
  obtain ⟨x, y, z, h0⟩ := h.opP i
  exact cq_rc i.1 h0
theorem cq_rcS {X : va_W} (h : cqI S L K f) (i : cqIs L K 6 a) : ∃ (q0 : Nat) (fs : List Value), (X ++ va_pl L f)[q0]? = some (a, .inr (6, fs)) := by
  obtain ⟨x, y, z, h0⟩ := h.opS i
  exact cq_rc i.1 h0
theorem cq_other (ef : f1 = va_up f a e) (n : b ≠ a) {e2 : va_E} (h : f b = e2) : f1 b = e2 := by rw [ef, va_up_ne _ _ n]; exact h
theorem cq_same (ef : f1 = va_up f a e) : f1 a = e := by rw [ef, va_up_self]
end CQ
/-- worlds: a new cell goes to the front; a front cell goes into the pool -/
theorem rotP {D : va_G} {cl : List vw_C} {ws : va_W} {x : Nat × va_E} {H : Heap} (h : va_P D cl (ws ++ [x]) H) : va_P D cl (x :: ws) H := va_P.swap (a := []) (b := ws) (c := [x]) h
theorem rotD {A : Nat → Prop} {ws : va_W} {x : Nat × va_E} (h : va_D A (ws ++ [x])) : va_D A (x :: ws) := va_D.swap (a := []) (b := ws) (c := [x]) h
theorem frontQ {A : Nat → Prop} {X : va_W} {L : List Nat} {f : Nat → va_E} {q : Nat} {e : va_E} (hD : va_D A (((q, e) :: X) ++ va_pl L f)) : q ∉ L := by
  have h : va_D A ((X ++ va_pl L f) ++ [(q, e)]) := va_D.swap (a := []) (b := [(q, e)]) (c := X ++ va_pl L f) hD
  exact va_pl_fresh2 h
theorem pushP {D : va_G} {cl : List vw_C} {X : va_W} {L : List Nat} {f : Nat → va_E} {q : Nat} {e : va_E} {H : Heap} (hq : q ∉ L) (h : va_P D cl (((q, e) :: X) ++ va_pl L f) H) : va_P D cl (X ++ va_pl (L ++ [q]) (va_up f q e)) H := by
  have h : va_P D cl ((X ++ va_pl L f) ++ [(q, e)]) H := va_P.swap (a := []) (b := [(q, e)]) (c := X ++ va_pl L f) h
  rw [List.append_assoc, va_pl_push hq] at h
  exact h
theorem pushD {A : Nat → Prop} {X : va_W} {L : List Nat} {f : Nat → va_E} {q : Nat} {e : va_E} (hq : q ∉ L) (h : va_D A (((q, e) :: X) ++ va_pl L f)) : va_D A (X ++ va_pl (L ++ [q]) (va_up f q e)) := by
  have h : va_D A ((X ++ va_pl L f) ++ [(q, e)]) := va_D.swap (a := []) (b := [(q, e)]) (c := X ++ va_pl L f) h
  rw [List.append_assoc, va_pl_push hq] at h
  exact h
section CW
variable {p : Program} {l : Launch} {e : Env} {R : Room} {s : State} {m : MethodId} {args : Array Value} {below : List Frame} {meth : Method} {c : Code} {H : Heap} {locs : List Loc} {cells slots : Nat} {Q : State → Prop}
variable {pc : Nat} {ls : Array Slot} {rest st0 As : List Value} {cc bytes : ByteArray} {nL maxL n index : Nat} {ret : Option FieldType} {wsY Ts : List Cond} {rm : Room} {own C host : String} {y : MethodName} {b : Nat} {D : va_G} {ws : va_W} {tys : List (ClassId × FieldType)} {A : Nat → Prop} {H0 : Heap} {mc ms : Nat}
theorem q_aload_n (hexec : p.tables.exec = Jvm.exec) (hb : c.code = cc) {k : Fin 4} {i : Nat} {r : Option Nat} (hdg : decode cc pc = .ok (.aload_n k, 1)) (hi : (k : Nat) = i) (hl : ls[i]? = some (.val (va_rf r))) (kk : W p l e R s m args below meth c H locs cells slots Q (F0 m (pc + 1) ls (va_rf r :: rest))) : W p l e R s m args below meth c H locs cells slots Q (F0 m pc ls rest) := by
  cases r with
  | none => exact lv_aload_nN hexec hb hdg hi hl kk
  | some x => exact lv_aload_n hexec hb hdg hi hl kk
theorem q_aload (hexec : p.tables.exec = Jvm.exec) (hb : c.code = cc) {i : Nat} {r : Option Nat} (hdg : decode cc pc = .ok (.aload i, 2)) (hl : ls[i]? = some (.val (va_rf r))) (kk : W p l e R s m args below meth c H locs cells slots Q (F0 m (pc + 2) ls (va_rf r :: rest))) : W p l e R s m args below meth c H locs cells slots Q (F0 m pc ls rest) := by
  cases r with
  | none => exact lv_aloadN hexec hb hdg hl kk
  | some x => exact lv_aload hexec hb hdg hl kk
theorem q_astore_n (hexec : p.tables.exec = Jvm.exec) (hb : c.code = cc) {k : Fin 4} {i nL : Nat} {r : Option Nat} {lv lv' : List (Nat × Value)} (hdg : decode cc pc = .ok (.astore_n k, 1)) (hi : (k : Nat) = i) (h : lv_has ls nL lv) (hn : i < nL) (hl : (i, va_rf r) :: lv.filter (fun q => !(q.1 == i) && !(q.1 + 1 == i && q.2.category == 2)) = lv') (kk : ∀ ls' : Array Slot, lv_has ls' nL lv' → W p l e R s m args below meth c H locs cells slots Q (F0 m (pc + 1) ls' rest)) : W p l e R s m args below meth c H locs cells slots Q (F0 m pc ls (va_rf r :: rest)) := by
  cases r with
  | none => exact lv_astore_nN hexec hb hdg hi h hn hl kk
  | some x => exact lv_astore_n hexec hb hdg hi h hn hl kk
theorem q_astore (hexec : p.tables.exec = Jvm.exec) (hb : c.code = cc) {i nL : Nat} {r : Option Nat} {lv lv' : List (Nat × Value)} (hdg : decode cc pc = .ok (.astore i, 2)) (h : lv_has ls nL lv) (hn : i < nL) (hl : (i, va_rf r) :: lv.filter (fun q => !(q.1 == i) && !(q.1 + 1 == i && q.2.category == 2)) = lv') (kk : ∀ ls' : Array Slot, lv_has ls' nL lv' → W p l e R s m args below meth c H locs cells slots Q (F0 m (pc + 2) ls' rest)) : W p l e R s m args below meth c H locs cells slots Q (F0 m pc ls (va_rf r :: rest)) := by
  cases r with
  | none => exact lv_astoreN hexec hb hdg h hn hl kk
  | some x => exact lv_astore hexec hb hdg h hn hl kk
/-- calls with the whole world -/
theorem wfree (hD : va_D A ws) (hS : va_S A H0 H locs) (hA : ∀ q, H0.size ≤ q → A q) : ∀ q, va_A ws H.size q → A q := by
  intro q h
  rcases h with ⟨k, e, h⟩ | h
  · exact hD.2 _ (q, e) h
  · exact hA q (Nat.le_trans hS.1 h)
theorem wj {ws' : va_W} {H1 : Heap} {t : State} {tys' : List (ClassId × FieldType)} (hB : wp D tys' (va_A ws H.size) ws' t) (ht : t.heap = H1) (hF : ∀ q, va_A ws H.size q → A q) : va_P D vwCl ws' H1 ∧ va_D A ws' := ⟨by rw [← ht]; exact hB.1, hB.2.2.weaken (fun k q _ h => hF q.1 h)⟩
theorem wrV {Qc : Array Value → State → Outcome → State → Prop} (S : CallFix p m c cc nL s args Ts own) (hN : Nq s) (hK : va_K D vwCl tys s) (hP : va_P D vwCl ws H) (hD : va_D A ws) (hM : Met l y wsY rm (va_Pc (.ref b :: As) (wo D tys ws)) Qc 0 0 (fun _ => False)) (cw : CallW R s args own C index y bytes maxL ret wsY rm 0 0 n) (ci : Nat) {T : u_T} {N : Nat} (hcl : vwCl[ci]? = some (C, T, N)) (hq : ∃ (q0 : Nat) (fs : List Value), ws[q0]? = some (b, .inr (ci, fs))) (hn : As.length = n) (hsize : ls.size = nL) (hst : st0 = As.reverse ++ .ref b :: rest) (hW : (rest.map fun v => v.category).sum ≤ 8) (hdg : decode cc pc = .ok (.invokevirtual index, 3)) (hf : cells + 0 ≤ R.cells ∧ slots + 0 ≤ R.slots) :
    CallRun p l e R s m args below meth c H locs cells slots 0 0 (F0 m pc ls st0) rest (Qc (Value.ref b :: As).toArray) (fun _ => False) := by
  obtain ⟨q0, fs, hq⟩ := hq
  exact W.runV S hM cw ⟨wo.blind, va_recv hK hP hcl hq, fun U hU hW => ⟨rfl, wo.pre hP hK hD hN hU hW⟩⟩ rfl hn hsize hst (lv_room hW) hdg hf
theorem wrS {Qc : Array Value → State → Outcome → State → Prop} (S : CallFix p m c cc nL s args Ts own) (hN : Nq s) (hK : va_K D vwCl tys s) (hP : va_P D vwCl ws H) (hD : va_D A ws) (hM : Met l y wsY rm (va_Pc As (wo D tys ws)) Qc 0 0 (fun _ => False)) (cw : CallB R s args own index y bytes maxL ret wsY rm 0 0 n ∧ (Cond.static y).before args s = true) (hn : As.length = n) (hsize : ls.size = nL) (hst : st0 = As.reverse ++ rest) (hW : (rest.map fun v => v.category).sum ≤ 8) (hdg : decode cc pc = .ok (.invokestatic index, 3)) (hf : cells + 0 ≤ R.cells ∧ slots + 0 ≤ R.slots) :
    CallRun p l e R s m args below meth c H locs cells slots 0 0 (F0 m pc ls st0) rest (Qc As.toArray) (fun _ => False) :=
  W.runS S hM cw ⟨wo.blind, fun U hU hW => ⟨rfl, wo.pre hP hK hD hN hU hW⟩⟩ rfl hn hsize hst (lv_room hW) hdg hf
theorem wwV {Qc : Array Value → State → Outcome → State → Prop} (S : CallFix p m c cc nL s args Ts own) (hN : Nq s) (hK : va_K D vwCl tys s) (hP : va_P D vwCl ws H) (hD : va_D A ws) (hM : Met l y wsY rm (va_Pc (.ref b :: As) (wz H.size D tys ws)) Qc mc ms (va_A ws H.size)) (cw : CallW R s args own C index y bytes maxL ret wsY rm mc ms n) (ci : Nat) {T : u_T} {N : Nat} (hcl : vwCl[ci]? = some (C, T, N)) (hq : ∃ (q0 : Nat) (fs : List Value), ws[q0]? = some (b, .inr (ci, fs))) (hn : As.length = n) (hsize : ls.size = nL) (hst : st0 = As.reverse ++ .ref b :: rest) (hW : (rest.map fun v => v.category).sum ≤ 8) (hdg : decode cc pc = .ok (.invokevirtual index, 3)) (hf : cells + mc ≤ R.cells ∧ slots + ms ≤ R.slots) :
    va_Run p l e R s m args below meth c H locs cells slots mc ms (F0 m pc ls st0) rest (Qc (Value.ref b :: As).toArray) (va_A ws H.size) := by
  obtain ⟨q0, fs, hq⟩ := hq
  exact va_runV S hM cw ⟨wz.blind, va_recv hK hP hcl hq, fun U hU hW => ⟨rfl, by rw [hU], wo.pre hP hK hD hN hU hW⟩⟩ rfl hn hsize hst (lv_room hW) hdg hf
theorem wwI {Qc : Array Value → State → Outcome → State → Prop} (S : CallFix p m c cc nL s args Ts own) (hN : Nq s) (hK : va_K D vwCl tys s) (hP : va_P D vwCl ws H) (hD : va_D A ws) (hM : Met l y wsY rm (va_Pc (.ref b :: As) (wz H.size D tys ws)) Qc mc ms (va_A ws H.size)) (cw : CallB R s args own index y bytes maxL none wsY rm mc ms n ∧ y.name = "<init>" ∧ (Cond.instanceMethod y).before args s = true) (hn : As.length = n) (hsize : ls.size = nL) (hst : st0 = As.reverse ++ .ref b :: rest) (hW : (rest.map fun v => v.category).sum ≤ 8) (hdg : decode cc pc = .ok (.invokespecial index, 3)) (hf : cells + mc ≤ R.cells ∧ slots + ms ≤ R.slots) :
    va_Run p l e R s m args below meth c H locs cells slots mc ms (F0 m pc ls st0) rest (Qc (Value.ref b :: As).toArray) (va_A ws H.size) :=
  va_runI S hM cw ⟨wz.blind, fun U hU hW => ⟨rfl, by rw [hU], wo.pre hP hK hD hN hU hW⟩⟩ rfl hn hsize hst (lv_room hW) hdg hf
theorem wwS {Qc : Array Value → State → Outcome → State → Prop} (S : CallFix p m c cc nL s args Ts own) (hN : Nq s) (hK : va_K D vwCl tys s) (hP : va_P D vwCl ws H) (hD : va_D A ws) (hM : Met l y wsY rm (va_Pc As (wz H.size D tys ws)) Qc mc ms (va_A ws H.size)) (cw : CallB R s args own index y bytes maxL ret wsY rm mc ms n ∧ (Cond.static y).before args s = true) (hn : As.length = n) (hsize : ls.size = nL) (hst : st0 = As.reverse ++ rest) (hW : (rest.map fun v => v.category).sum ≤ 8) (hdg : decode cc pc = .ok (.invokestatic index, 3)) (hf : cells + mc ≤ R.cells ∧ slots + ms ≤ R.slots) :
    va_Run p l e R s m args below meth c H locs cells slots mc ms (F0 m pc ls st0) rest (Qc As.toArray) (va_A ws H.size) :=
  va_runS S hM cw ⟨wz.blind, fun U hU hW => ⟨rfl, by rw [hU], wo.pre hP hK hD hN hU hW⟩⟩ rfl hn hsize hst (lv_room hW) hdg hf
end CW
section NW
variable {S : Int} {L : List Nat} {K : Nat → Nat × Nat} {f : Nat → va_E} {q : Nat} {D : va_G} {cl : List vw_C} {X : va_W} {H : Heap} {A : Nat → Prop}
theorem nwN {pa sb fc : Option Nat} {de ma tu sd op : Int32} (hI : cqI S L K f) (hP : va_P D cl (((q, .inr (3, [va_rf pa, .int de, .int ma, va_rf sb, va_rf fc, .int tu, .int sd, .int op])) :: X) ++ va_pl L f) H) (hD : va_D A (((q, .inr (3, [va_rf pa, .int de, .int ma, va_rf sb, va_rf fc, .int tu, .int sd, .int op])) :: X) ++ va_pl L f)) (h1 : cqOp L K 3 pa) (h2 : cqOp L K 3 sb) (h3 : cqOp L K 3 fc) : ∃ L' K' f', cqG L K L' K' ∧ cqI S L' K' f' ∧ va_P D cl (X ++ va_pl L' f') H ∧ va_D A (X ++ va_pl L' f') ∧ cqIs L' K' 3 q := by
  have hq := frontQ hD
  obtain ⟨K', g1, g2, g3⟩ := hI.newN hq (de := de) (ma := ma) (tu := tu) (sd := sd) (op := op) h1 h2 h3
  exact ⟨_, K', _, g1, g2, pushP hq hP, pushD hq hD, g3⟩
theorem nwC {nu sz sc li : Int32} (hI : cqI S L K f) (hP : va_P D cl (((q, .inr (1, [.int nu, .int sz, .int sc, .int li])) :: X) ++ va_pl L f) H) (hD : va_D A (((q, .inr (1, [.int nu, .int sz, .int sc, .int li])) :: X) ++ va_pl L f)) (h1 : 0 ≤ sz.toInt ∧ sz.toInt ≤ S) : ∃ L' K' f', cqG L K L' K' ∧ cqI S L' K' f' ∧ va_P D cl (X ++ va_pl L' f') H ∧ va_D A (X ++ va_pl L' f') ∧ cqIs L' K' 1 q := by
  have hq := frontQ hD
  obtain ⟨K', g1, g2, g3⟩ := hI.newC hq (nu := nu) (sz := sz) (sc := sc) (li := li) h1
  exact ⟨_, K', _, g1, g2, pushP hq hP, pushD hq hD, g3⟩
theorem nwP {x y z : Int32} (hI : cqI S L K f) (hP : va_P D cl (((q, .inr (4, [.int x, .int y, .int z])) :: X) ++ va_pl L f) H) (hD : va_D A (((q, .inr (4, [.int x, .int y, .int z])) :: X) ++ va_pl L f)) : ∃ L' K' f', cqG L K L' K' ∧ cqI S L' K' f' ∧ va_P D cl (X ++ va_pl L' f') H ∧ va_D A (X ++ va_pl L' f') ∧ cqIs L' K' 4 q := by
  have hq := frontQ hD
  obtain ⟨K', g1, g2, g3⟩ := hI.newP hq (x := x) (y := y) (z := z)
  exact ⟨_, K', _, g1, g2, pushP hq hP, pushD hq hD, g3⟩
theorem nwS {x y z : Int32} (hI : cqI S L K f) (hP : va_P D cl (((q, .inr (6, [.int x, .int y, .int z])) :: X) ++ va_pl L f) H) (hD : va_D A (((q, .inr (6, [.int x, .int y, .int z])) :: X) ++ va_pl L f)) : ∃ L' K' f', cqG L K L' K' ∧ cqI S L' K' f' ∧ va_P D cl (X ++ va_pl L' f') H ∧ va_D A (X ++ va_pl L' f') ∧ cqIs L' K' 6 q := by
  have hq := frontQ hD
  obtain ⟨K', g1, g2, g3⟩ := hI.newS hq (x := x) (y := y) (z := z)
  exact ⟨_, K', _, g1, g2, pushP hq hP, pushD hq hD, g3⟩
theorem nwA {nu ca so th ma wo : Int32} {lf ld : Nat} {si cp he re sv lt lF : Int32} {k : Nat} (hI : cqI S L K f) (hP : va_P D cl (((q, .inr (0, [.int nu, .int ca, .int so, .int th, .int ma, .int wo, .ref lf, .ref ld, .int si, .int cp, .int he, .int re, .int sv, .int lt, .int lF, .null, .null])) :: X) ++ va_pl L f) H) (hD : va_D A (((q, .inr (0, [.int nu, .int ca, .int so, .int th, .int ma, .int wo, .ref lf, .ref ld, .int si, .int cp, .int he, .int re, .int sv, .int lt, .int lF, .null, .null])) :: X) ++ va_pl L f)) (hn : nu.toInt = (k : Int)) (h2 : cqIs L K 3 lf) (h3 : cqIs L K 1 ld) (h4 : si = 0 ∨ si = 1) (h5 : cp = 0 ∨ cp = 1) : ∃ L' K' f', cqG L K L' K' ∧ cqI S L' K' f' ∧ va_P D cl (X ++ va_pl L' f') H ∧ va_D A (X ++ va_pl L' f') ∧ cqIs L' K' 0 q ∧ (K' q).2 = k := by
  have hq := frontQ hD
  obtain ⟨K', g1, g2, g3, g4⟩ := hI.newA hq (nu := nu) (ca := ca) (so := so) (th := th) (ma := ma) (wo := wo) (lf := lf) (ld := ld) (si := si) (cp := cp) (he := he) (re := re) (sv := sv) (lt := lt) (lF := lF) (sn := none) (ab := none) hn h2 h3 h4 h5 cqLo.none cqLo.none
  exact ⟨_, K', _, g1, g2, pushP hq hP, pushD hq hD, g3, g4⟩
theorem cq_lo {c : Nat} {v : Option Nat} (h : cqOp L K c v) : ∃ j, cqLo L K c v j := by
  obtain ⟨k, hk⟩ := cq_bound L K
  exact ⟨k, fun b hb => ⟨h b hb, hk b (h b hb).1⟩⟩
/-- a row while a place is made in it -/
def cqH (L : List Nat) (K : Nat → Nat × Nat) (c : Nat) (n i : Int) (g : Nat → Option Nat) : Prop := cqJ L K c n g ∧ (i = n ∨ cqJ L K c (n + 1) g)
theorem cqH.of {c : Nat} {n i : Int} {g : Nat → Option Nat} (h : cqJ L K c n g) (hi : i = n) : cqH L K c n i g := ⟨h, Or.inl hi⟩
theorem cqH.full {c b : Nat} {n : Int} {g g' : Nat → Option Nat} {i : Int32} (h : cqH L K c n i.toInt g) (h0 : 0 ≤ i.toInt) (h1 : i.toInt ≤ n) (hb : cqIs L K c b) (e : g' = va_up g i.toNatClampNeg (some b)) : cqJ L K c (n + 1) g' := by
  rcases h.2 with q | q
  · exact h.1.set h0 hb e (Or.inr ⟨rfl, q⟩)
  · exact q.set h0 hb e (Or.inl (Int.le_refl _))
theorem cqH.step {c b : Nat} {n i' : Int} {g g' : Nat → Option Nat} {i : Int32} (h : cqH L K c n i.toInt g) (h0 : 0 ≤ i.toInt) (h1 : i.toInt ≤ n) (hb : cqIs L K c b) (e : g' = va_up g i.toNatClampNeg (some b)) : cqH L K c n i' g' := ⟨(h.full h0 h1 hb e).less (by omega), Or.inr (h.full h0 h1 hb e)⟩
end NW
