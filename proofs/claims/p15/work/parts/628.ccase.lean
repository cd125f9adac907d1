/-- the row of alarms, by numbers -/
def jN (L : List Nat) (K : Nat → Nat × Nat) (n : Nat) (g : Nat → Option Nat) : Prop := ∀ i, i < n → ∃ b, g i = some b ∧ cqIs L K 0 b ∧ (K b).2 = i
/-- above: each points to a lesser one of its class, the least to none -/
def aU (f : Nat → va_E) (g : Nat → Option Nat) (n : Nat) (c : Nat → Nat) : Prop := ∀ i, i < n → ∀ b, g i = some b → (cqRf (f b) 16 = none ∧ c i = i) ∨ ∃ j b', j < i ∧ g j = some b' ∧ cqRf (f b) 16 = some b' ∧ c j = c i
/-- the case that an alarm leads -/
def tC (L : List Nat) (K : Nat → Nat × Nat) (f : Nat → va_E) (g : Nat → Option Nat) (n : Nat) : Prop := ∀ i, i < n → ∀ b, g i = some b → ∃ d, cqRf (f b) 7 = some d ∧ cqIs L K 1 d ∧ cqF (f d) 0 = (i : Int)
def cqCs (f : Nat → va_E) (g : Nat → Option Nat) (n : Nat) (W : Nat → Nat → Int) : Prop := ∀ i, i < n → ∀ b, g i = some b → ∀ d, cqRf (f b) 7 = some d → ∀ k, 1 ≤ k ∧ k ≤ 3 → cqF (f d) k = W i k
section CC
variable {X : List (Nat × Nat)} {L L' : List Nat} {K K' : Nat → Nat × Nat} {f f' f1 : Nat → va_E} {g : Nat → Option Nat} {n : Nat} {na : Int} {c : Nat → Nat} {W W' : Nat → Nat → Int}
theorem jN.of (j : cqJA L K na g) (h : (n : Int) ≤ na) : jN L K n g := fun i hi => j i (by omega)
theorem jN.key (j : jN L K n g) {i b : Nat} (hi : i < n) (hb : g i = some b) : cqIs L K 0 b ∧ (K b).2 = i := by
  obtain ⟨b', e, q⟩ := j i hi
  rw [hb] at e
  cases e
  exact q
theorem jN.inj (j : jN L K n g) {i i' b : Nat} (hi : i < n) (hi' : i' < n) (hb : g i = some b) (hb' : g i' = some b) : i = i' := by
  rw [← (j.key hi hb).2, ← (j.key hi' hb').2]
theorem aU.fr (h : aU f g n c) (j : jN L K n g) (t : cqT X L K f f') (hX : (0, 16) ∉ X) : aU f' g n c := fun i hi b hb => by
  have k := (j.key hi hb).1
  rw [cqRf_eq (t b k.1 16 (by rw [k.2]; exact hX))]
  exact h i hi b hb
theorem aU.first {k b : Nat} (h : aU f g k (fun a => a)) (j : jN L K n g) (hk : k < n) (hb : g k = some b) (o : cqO b f f1) (h16 : cqRf (f1 b) 16 = none) : aU f1 g (k + 1) (fun a => a) := fun i hi b' hb' => by
  by_cases q : i = k
  · subst q
    rw [hb] at hb'
    cases hb'
    exact Or.inl ⟨h16, rfl⟩
  · have hne : b' ≠ b := fun z => q (j.inj (by omega) hk hb' (z ▸ hb))
    rw [o b' hne]
    exact h i (by omega) b' hb'
theorem aU.put (h : aU f g n c) (j : jN L K n g) {x y bx by_ : Nat} (hy : y < n) (ey : g y = some by_) (cy : c y = y) (hx : g x = some bx) (cx : c x = x) (hlt : x < y) (o : cqO by_ f f1) (h16 : cqRf (f1 by_) 16 = some bx) : aU f1 g n (fun z => if c z = y then x else c z) := fun i hi b hb => by
  by_cases q : i = y
  · subst q
    rw [ey] at hb
    cases hb
    refine Or.inr ⟨x, bx, hlt, hx, h16, ?_⟩
    show (if c x = i then x else c x) = (if c i = i then x else c i)
    rw [if_pos cy, if_neg (by omega), cx]
  · have hne : b ≠ by_ := fun z => q (j.inj hi hy hb (z ▸ ey))
    rw [o b hne]
    rcases h i hi b hb with ⟨h1, h2⟩ | ⟨j', b', h1, h2, h3, h4⟩
    · refine Or.inl ⟨h1, ?_⟩
      show (if c i = y then x else c i) = i
      rw [if_neg (by omega)]; exact h2
    · refine Or.inr ⟨j', b', h1, h2, h3, ?_⟩
      show (if c j' = y then x else c j') = (if c i = y then x else c i)
      rw [h4]
theorem mrg_lt {x y : Nat} (h : x < y) : mrg c x y = fun z => if c z = y then x else c z := by
  funext z
  unfold mrg
  rw [Nat.max_eq_right (by omega), Nat.min_eq_left (by omega)]
theorem mrg_gt {x y : Nat} (h : y < x) : mrg c x y = fun z => if c z = x then y else c z := by
  funext z
  unfold mrg
  rw [Nat.max_eq_left (by omega), Nat.min_eq_right (by omega)]
theorem mrg_eq {x y : Nat} (h : x = y) : mrg c x y = c := by
  funext z
  unfold mrg
  rw [h, Nat.max_self, Nat.min_self]
  split
  · rename_i w; exact w.symm
  · rfl
theorem aU.jl (h : aU f g n c) (j : jN L K n g) {x y bx by_ : Nat} (hy : y < n) (ey : g y = some by_) (cy : c y = y) (hx : g x = some bx) (cx : c x = x) (hlt : x < y) (o : cqO by_ f f1) (h16 : cqRf (f1 by_) 16 = some bx) : aU f1 g n (mrg c x y) := by
  rw [mrg_lt hlt]; exact h.put j hy ey cy hx cx hlt o h16
theorem aU.jr (h : aU f g n c) (j : jN L K n g) {x y bx by_ : Nat} (hy : y < n) (ey : g y = some by_) (cy : c y = y) (hx : g x = some bx) (cx : c x = x) (hlt : x < y) (o : cqO by_ f f1) (h16 : cqRf (f1 by_) 16 = some bx) : aU f1 g n (mrg c y x) := by
  rw [mrg_gt hlt]; exact h.put j hy ey cy hx cx hlt o h16
theorem aU.je (h : aU f g n c) {x y : Nat} (e : x = y) : aU f g n (mrg c x y) := by
  rw [mrg_eq e]; exact h
theorem aU.up (h : aU f g n c) {d b b' : Nat} (hd : d < n) (hb : g d = some b) (hp : cqRf (f b) 16 = some b') : ∃ j, j < d ∧ g j = some b' ∧ c j = c d := by
  rcases h d hd b hb with ⟨h1, -⟩ | ⟨j, b2, h1, h2, h3, h4⟩
  · rw [h1] at hp; cases hp
  · rw [h3] at hp; cases hp; exact ⟨j, h1, h2, h4⟩
theorem aU.top (h : aU f g n c) {d b : Nat} (hd : d < n) (hb : g d = some b) (hp : cqRf (f b) 16 = none) : c d = d := by
  rcases h d hd b hb with ⟨-, h2⟩ | ⟨j, b2, h1, h2, h3, h4⟩
  · exact h2
  · rw [h3] at hp; cases hp
theorem tC.fr (h : tC L K f g n) (j : jN L K n g) (gg : cqG L K L' K') (t : cqT X L K f f') (hX : (0, 7) ∉ X ∧ (1, 0) ∉ X) : tC L' K' f' g n := fun i hi b hb => by
  obtain ⟨d, d1, d2, d3⟩ := h i hi b hb
  have k := (j.key hi hb).1
  exact ⟨d, by rw [cqRf_eq (t b k.1 7 (by rw [k.2]; exact hX.1))]; exact d1, d2.up gg, by rw [t.F d2 hX.2]; exact d3⟩
theorem tC.at (h : tC L K f g n) {i b d : Nat} (hi : i < n) (hb : g i = some b) (hd : cqRf (f b) 7 = some d) : cqIs L K 1 d ∧ cqF (f d) 0 = (i : Int) := by
  obtain ⟨d', d1, d2, d3⟩ := h i hi b hb
  rw [hd] at d1
  cases d1
  exact ⟨d2, d3⟩
theorem cqCs.fr (h : cqCs f g n W) (h0 : tC L K f g n) (j : jN L K n g) (t : cqT X L K f f') (hX : (0, 7) ∉ X ∧ ∀ k, k < 4 → (1, k) ∉ X) : cqCs f' g n W := fun i hi b hb d hd k hk => by
  have kb := (j.key hi hb).1
  rw [cqRf_eq (t b kb.1 7 (by rw [kb.2]; exact hX.1))] at hd
  have kd := (h0.at hi hb hd).1
  rw [t.F kd (hX.2 k (by omega))]
  exact h i hi b hb d hd k hk
/-- one case is written -/
theorem cqCs.one {m i0 b0 d0 : Nat} (h : ∀ i, i < m → i ≠ i0 → ∀ b, g i = some b → ∀ d, cqRf (f b) 7 = some d → ∀ k, 1 ≤ k ∧ k ≤ 3 → cqF (f d) k = W' i k) (h0 : tC L K f g n) (j : jN L K n g) (hm : m ≤ n) (hi : i0 < n) (hb : g i0 = some b0) (hd : cqRf (f b0) 7 = some d0) (o : cqO d0 f f1) (hr : ∀ k, 1 ≤ k ∧ k ≤ 3 → cqF (f1 d0) k = W' i0 k) : cqCs f1 g m W' := fun i hi' b hb' d hd' k hk => by
  have hne : b ≠ d0 := by
    have q1 := (j.key (by omega) hb').1
    have q2 := (h0.at hi hb hd).1
    intro z
    have := q1.2
    rw [z, q2.2] at this
    omega
  rw [o b hne] at hd'
  by_cases q : i = i0
  · subst q
    rw [hb] at hb'
    cases hb'
    rw [hd] at hd'
    cases hd'
    exact hr k hk
  · have hne2 : d ≠ d0 := by
      have q1 := (h0.at (by omega) hb' hd').2
      have q2 := (h0.at hi hb hd).2
      intro z
      rw [z, q2] at q1
      omega
    rw [o d hne2]
    exact h i hi' q b hb' d hd' k hk
theorem tC.one {i0 b0 d0 : Nat} (h : tC L K f g n) (j : jN L K n g) (hi : i0 < n) (hb : g i0 = some b0) (hd : cqRf (f b0) 7 = some d0) (o : cqO d0 f f1) (hr : cqF (f1 d0) 0 = cqF (f d0) 0) : tC L K f1 g n := fun i hi' b hb' => by
  obtain ⟨d, d1, d2, d3⟩ := h i hi' b hb'
  have hne : b ≠ d0 := by
    have q1 := (j.key hi' hb').1
    have q2 := (h.at hi hb hd).1
    intro z
    have := q1.2
    rw [z, q2.2] at this
    omega
  refine ⟨d, by rw [o b hne]; exact d1, d2, ?_⟩
  by_cases q : d = d0
  · rw [q, hr, ← q]; exact d3
  · rw [o d q]; exact d3
end CC
/-- sizes, scores and little known of the cases, over the alarms below k -/
noncomputable def wF (V : Nat → Nat → Int) (c : Nat → Nat) (n : Nat) (le : Int) (k m j : Nat) : Int := if j = 1 then ctF (inC V c n m) k else if j = 2 then mxF (inC V c n m) (scI V n le) k else @ite _ (∃ i, i < k ∧ inC V c n m i ∧ dpF V n (V i 4) le 4 = 0) (Classical.propDecidable _) 1 0
section WF
variable {V : Nat → Nat → Int} {c c' : Nat → Nat} {n : Nat} {le : Int} {k m : Nat}
theorem wF_1 : wF V c n le k m 1 = ctF (inC V c n m) k := if_pos rfl
theorem wF_2 : wF V c n le k m 2 = mxF (inC V c n m) (scI V n le) k := (if_neg (by decide)).trans (if_pos rfl)
theorem wF_3 : wF V c n le k m 3 = @ite _ (∃ i, i < k ∧ inC V c n m i ∧ dpF V n (V i 4) le 4 = 0) (Classical.propDecidable _) 1 0 := (if_neg (by decide)).trans (if_neg (by decide))
theorem wF_0 {j : Nat} : wF V c n le 0 m j = 0 := by
  unfold wF
  split
  · rfl
  · split
    · rfl
    · exact if_neg (fun ⟨i, hi, _⟩ => by omega)
theorem wF_no {j : Nat} (h : ¬ inC V c n m k) : wF V c n le (k + 1) m j = wF V c n le k m j := by
  unfold wF
  split
  · exact ctF_skip h
  · split
    · exact mxF_skip h
    · have e : (∃ i, i < k + 1 ∧ inC V c n m i ∧ dpF V n (V i 4) le 4 = 0) ↔ (∃ i, i < k ∧ inC V c n m i ∧ dpF V n (V i 4) le 4 = 0) := ⟨fun ⟨i, h1, h2, h3⟩ => ⟨i, by
        by_cases q : i = k
        · subst q; exact absurd h2 h
        · omega, h2, h3⟩, fun ⟨i, h1, h2, h3⟩ => ⟨i, by omega, h2, h3⟩⟩
      by_cases q : ∃ i, i < k ∧ inC V c n m i ∧ dpF V n (V i 4) le 4 = 0
      · rw [if_pos q, if_pos (e.mpr q)]
      · rw [if_neg q, if_neg (fun z => q (e.mp z))]
theorem wF_hit1 (h : inC V c n m k) : wF V c n le (k + 1) m 1 = wF V c n le k m 1 + 1 := by rw [wF_1, wF_1, ctF_hit h]
theorem wF_hit2 (h : inC V c n m k) : wF V c n le (k + 1) m 2 = max (wF V c n le k m 2) (scI V n le k) := by rw [wF_2, wF_2, mxF_hit h]
theorem wF_hit3 (h : inC V c n m k) : wF V c n le (k + 1) m 3 = if dpF V n (V k 4) le 4 = 0 then 1 else wF V c n le k m 3 := by
  rw [wF_3, wF_3]
  by_cases d : dpF V n (V k 4) le 4 = 0
  · rw [if_pos d, if_pos ⟨k, by omega, h, d⟩]
  · rw [if_neg d]
    by_cases q : ∃ i, i < k ∧ inC V c n m i ∧ dpF V n (V i 4) le 4 = 0
    · obtain ⟨i, h1, h2⟩ := id q
      rw [if_pos q, if_pos ⟨i, by omega, h2⟩]
    · rw [if_neg q, if_neg (fun ⟨i, h1, h2, h3⟩ => q ⟨i, by
        by_cases z : i = k
        · subst z; exact absurd h3 d
        · omega, h2, h3⟩)]
theorem wF_cong {j : Nat} (h : ∀ i, lvN V n i → c i = c' i) : wF V c n le k m j = wF V c' n le k m j := by
  have e : inC V c n m = inC V c' n m := by
    funext i
    unfold inC
    exact propext ⟨fun q => ⟨q.1, by rw [← h i q.1]; exact q.2⟩, fun q => ⟨q.1, by rw [h i q.1]; exact q.2⟩⟩
  unfold wF
  rw [e]
/-- a head: live, and least of its class -/
def hdC (V : Nat → Nat → Int) (c : Nat → Nat) (n m : Nat) : Prop := lvN V n m ∧ c m = m
theorem wF_pos {E : Nat → Nat → Prop} (h : Lab (lvN V n) E c) : 0 < wF V c n le n m 1 ↔ hdC V c n m := by
  rw [wF_1]
  constructor
  · intro q
    by_cases z : ∃ i, i < n ∧ inC V c n m i
    · obtain ⟨i, -, h2, h3⟩ := z
      have h4 := h.2.1 i h2
      rw [h3] at h4
      exact ⟨h4.2.1, h4.2.2⟩
    · rw [ctF_none n (fun i hi w => z ⟨i, hi, w⟩)] at q
      omega
  · intro q
    have := ctF_pos (C := inC V c n m) n q.1.1 q
    omega
end WF
/-- the walk over those that came sooner -/
def nrC (V Y : Nat → Nat → Int) (nt x y : Nat) : Prop := V x 3 = V y 3 ∧ V y 1 - V x 1 ≤ 20 ∧ ¬ ∃ k, fdF Y (x : Int) (y : Int) nt = some k ∧ Y k 2 = 0
def jsE (V Y : Nat → Nat → Int) (n nt i x y : Nat) : Prop := x < y ∧ y < i ∧ lvN V n x ∧ lvN V n y ∧ nrC V Y nt x y
def jwE (V Y : Nat → Nat → Int) (n nt i jj x y : Nat) : Prop := jsE V Y n nt i x y ∨ (y = i ∧ jj ≤ x ∧ x < i ∧ lvN V n x ∧ lvN V n i ∧ nrC V Y nt x i)
def jwI (V Y : Nat → Nat → Int) (n nt i : Nat) (g : Nat → Option Nat) (ea : Option Nat) (jj : Nat) (c : Nat → Nat) : Prop := ea = (lsF V (V i 3) jj).bind g ∧ jj ≤ i ∧ Lab (lvN V n) (jwE V Y n nt i jj) c
section JW
variable {V Y : Nat → Nat → Int} {n nt i jj i9 : Nat} {g : Nat → Option Nat} {ea ea' : Option Nat} {c : Nat → Nat}
theorem jwI.start (h : Lab (lvN V n) (jsE V Y n nt i) c) (he : ea = (lsF V (V i 3) i).bind g) : jwI V Y n nt i g ea i c := ⟨he, Nat.le_refl _, h.ext1 (fun x y => ⟨Or.inl, fun q => q.elim id (fun w => by omega)⟩)⟩
theorem jwE_0 (hi : lvN V n i) (h0 : ∀ x, x < jj → x < i → ¬ (V x 3 = V i 3 ∧ V i 1 - V x 1 ≤ 20)) (x y : Nat) : jwE V Y n nt i jj x y ↔ jsE V Y n nt (i + 1) x y := by
  constructor
  · rintro (⟨h1, h2, h3, h4, h5⟩ | ⟨h1, h2, h3, h4, h5, h6⟩)
    · exact ⟨h1, by omega, h3, h4, h5⟩
    · rw [h1]; exact ⟨h3, by omega, h4, h5, h6⟩
  · rintro ⟨h1, h2, h3, h4, h5⟩
    by_cases q : y = i
    · subst q
      right
      refine ⟨rfl, ?_, h1, h3, h4, h5⟩
      by_cases z : jj ≤ x
      · exact z
      · exact absurd ⟨h5.1, h5.2.1⟩ (h0 x (by omega) h1)
    · left; exact ⟨h1, by omega, h3, h4, h5⟩
theorem jwI.end (h : jwI V Y n nt i g none jj c) (hi : lvN V n i) (hj : ∀ i, i < n → ∃ b, g i = some b) : Lab (lvN V n) (jsE V Y n nt (i + 1)) c := by
  obtain ⟨h1, h2, h3⟩ := h
  have e := bind_none h1 (fun k hk => hj k (by have := (lsF_some jj hk).1; have := hi.1; omega))
  have no := lsF_none jj e
  exact h3.ext1 (jwE_0 hi (fun x hx _ q => no x hx q.1))
theorem jwI.old {b : Nat} (h : jwI V Y n nt i g (some b) jj c) (hi : lvN V n i) (h9 : lsF V (V i 3) jj = some i9) (hM : ∀ x y : Nat, x ≤ y → y < n → V x 1 ≤ V y 1) (ho : 20 < V i 1 - V i9 1) : Lab (lvN V n) (jsE V Y n nt (i + 1)) c := by
  obtain ⟨h1, h2, h3⟩ := h
  obtain ⟨l1, l2, l3⟩ := lsF_some jj h9
  refine h3.ext1 (jwE_0 hi (fun x hx hxi q => ?_))
  by_cases z : i9 < x
  · exact l3 x z hx q.1
  · have := hM x i9 (by omega) (by have := hi.1; omega)
    omega
theorem jwE_step (h9 : lsF V (V i 3) jj = some i9) (hj : jj ≤ i) (x y : Nat) : jwE V Y n nt i i9 x y ↔ (jwE V Y n nt i jj x y ∨ ((x = i9 ∧ y = i) ∧ lvN V n i9 ∧ lvN V n i ∧ nrC V Y nt i9 i)) := by
  obtain ⟨l1, l2, l3⟩ := lsF_some jj h9
  constructor
  · rintro (h | ⟨h1, h2, h3, h4, h5, h6⟩)
    · exact Or.inl (Or.inl h)
    · by_cases z : x = i9
      · subst z; exact Or.inr ⟨⟨rfl, h1⟩, h4, h5, h6⟩
      · by_cases w : jj ≤ x
        · exact Or.inl (Or.inr ⟨h1, w, h3, h4, h5, h6⟩)
        · exact absurd h6.1 (l3 x (by omega) (by omega))
  · rintro ((h | ⟨h1, h2, h3, h4, h5, h6⟩) | ⟨⟨h1, h2⟩, h3, h4, h5⟩)
    · exact Or.inl h
    · exact Or.inr ⟨h1, by omega, h3, h4, h5, h6⟩
    · subst h1; exact Or.inr ⟨h2, Nat.le_refl _, by omega, h3, h4, h5⟩
theorem jwI.skip {b : Nat} (h : jwI V Y n nt i g (some b) jj c) (h9 : lsF V (V i 3) jj = some i9) (hs : ¬ (lvN V n i9 ∧ lvN V n i ∧ nrC V Y nt i9 i)) (he : ea' = (lsF V (V i 3) i9).bind g) : jwI V Y n nt i g ea' i9 c := by
  obtain ⟨h1, h2, h3⟩ := h
  obtain ⟨l1, l2, l3⟩ := lsF_some jj h9
  exact ⟨he, by omega, h3.ext1 (fun x y => ⟨fun q => (jwE_step h9 h2 x y).mpr (Or.inl q), fun q => ((jwE_step h9 h2 x y).mp q).elim id (fun w => absurd w.2 hs)⟩)⟩
theorem jwI.same {b : Nat} (h : jwI V Y n nt i g (some b) jj c) (h9 : lsF V (V i 3) jj = some i9) (hc : c i9 = c i) (he : ea' = (lsF V (V i 3) i9).bind g) : jwI V Y n nt i g ea' i9 c := by
  by_cases hs : lvN V n i9 ∧ lvN V n i ∧ nrC V Y nt i9 i
  · obtain ⟨h1, h2, h3⟩ := h
    obtain ⟨l1, l2, l3⟩ := lsF_some jj h9
    exact ⟨he, by omega, (h3.same hc).ext1 (fun x y => ⟨fun q => (jwE_step h9 h2 x y).mpr (q.elim Or.inl (fun w => Or.inr ⟨w, hs⟩)), fun q => ((jwE_step h9 h2 x y).mp q).elim Or.inl (fun w => Or.inr w.1)⟩)⟩
  · exact h.skip h9 hs he
theorem jwI.join {b : Nat} (h : jwI V Y n nt i g (some b) jj c) (h9 : lsF V (V i 3) jj = some i9) (hs : lvN V n i9 ∧ lvN V n i ∧ nrC V Y nt i9 i) (he : ea' = (lsF V (V i 3) i9).bind g) : jwI V Y n nt i g ea' i9 (mrg c (c i) (c i9)) := by
  obtain ⟨h1, h2, h3⟩ := h
  obtain ⟨l1, l2, l3⟩ := lsF_some jj h9
  refine ⟨he, by omega, (h3.join hs.2.1 hs.1).ext (fun x y q => ?_) (fun x y q => ?_)⟩
  · rcases q with q | ⟨q1, q2⟩
    · exact Or.inl ((jwE_step h9 h2 x y).mpr (Or.inl q))
    · exact Or.inr ((jwE_step h9 h2 y x).mpr (Or.inr ⟨⟨q2, q1⟩, hs⟩))
  · rcases (jwE_step h9 h2 x y).mp q with w | ⟨⟨w1, w2⟩, -⟩
    · exact Or.inl (Or.inl w)
    · exact Or.inr (Or.inr ⟨w2, w1⟩)
theorem js_0 {E : Nat → Nat → Prop} (h : Lab (lvN V n) E c) (hE : ∀ x y, ¬ E x y) : Lab (lvN V n) (jsE V Y n nt 0) c := h.ext1 (fun x y => ⟨fun q => absurd q (hE x y), fun q => by have := q.2.1; omega⟩)
theorem js_skip (h : Lab (lvN V n) (jsE V Y n nt i) c) (hi : ¬ lvN V n i) : Lab (lvN V n) (jsE V Y n nt (i + 1)) c := h.ext1 (fun x y => ⟨fun ⟨h1, h2, h3⟩ => ⟨h1, by omega, h3⟩, fun ⟨h1, h2, h3, h4, h5⟩ => ⟨h1, by
  by_cases q : y = i
  · subst q; exact absurd h4 hi
  · omega, h3, h4, h5⟩⟩)
/-- those told to be joined -/
def tdE (V Y : Nat → Nat → Int) (n k x y : Nat) : Prop := ∃ k', k' < k ∧ ¬ Y k' 2 = 0 ∧ (x : Int) = Y k' 0 ∧ (y : Int) = Y k' 1 ∧ lvN V n x ∧ lvN V n y
def jtE (V Y : Nat → Nat → Int) (n nt k x y : Nat) : Prop := jsE V Y n nt n x y ∨ tdE V Y n k x y
theorem jt_0 (h : Lab (lvN V n) (jsE V Y n nt n) c) : Lab (lvN V n) (jtE V Y n nt 0) c := h.ext1 (fun x y => ⟨Or.inl, fun q => q.elim id (fun ⟨k, hk, _⟩ => by omega)⟩)
theorem jt_skip {k : Nat} (h : Lab (lvN V n) (jtE V Y n nt k) c) (hs : ∀ x y : Nat, ¬ (¬ Y k 2 = 0 ∧ (x : Int) = Y k 0 ∧ (y : Int) = Y k 1 ∧ lvN V n x ∧ lvN V n y)) : Lab (lvN V n) (jtE V Y n nt (k + 1)) c := h.ext1 (fun x y => ⟨fun q => q.elim Or.inl (fun ⟨k', h1, h2⟩ => Or.inr ⟨k', by omega, h2⟩), fun q => q.elim Or.inl (fun ⟨k', h1, h2⟩ => Or.inr ⟨k', by
  by_cases z : k' = k
  · subst z; exact absurd h2 (hs x y)
  · omega, h2⟩)⟩)
theorem jt_join {k x y : Nat} (h : Lab (lvN V n) (jtE V Y n nt k) c) (h2 : ¬ Y k 2 = 0) (hx : (x : Int) = Y k 0) (hy : (y : Int) = Y k 1) (lx : lvN V n x) (ly : lvN V n y) : Lab (lvN V n) (jtE V Y n nt (k + 1)) (mrg c (c x) (c y)) := by
  refine (h.join lx ly).ext1 (fun a b => ⟨fun q => ?_, fun q => ?_⟩)
  · rcases q with (q | ⟨k', q1, q2⟩) | ⟨q1, q2⟩
    · exact Or.inl q
    · exact Or.inr ⟨k', by omega, q2⟩
    · subst q1; subst q2; exact Or.inr ⟨k, by omega, h2, hx, hy, lx, ly⟩
  · rcases q with q | ⟨k', q1, q2⟩
    · exact Or.inl (Or.inl q)
    · by_cases z : k' = k
      · subst z; exact Or.inr ⟨by omega, by omega⟩
      · exact Or.inl (Or.inr ⟨k', by omega, q2⟩)
/-- pairs: the lesser first, below n, each once -/
def yOK (Y : Nat → Nat → Int) (n nt : Nat) : Prop := (∀ k, k < nt → 0 ≤ Y k 0 ∧ Y k 0 < Y k 1 ∧ Y k 1 < (n : Int)) ∧ ∀ k k', k < nt → k' < nt → Y k 0 = Y k' 0 → Y k 1 = Y k' 1 → k = k'
theorem jt_end (h : Lab (lvN V n) (jtE V Y n nt nt) c) (hy : yOK Y n nt) : Lab (lvN V n) (hgE V Y n nt) c := by
  have found : ∀ (k : Nat) (x y : Nat), k < nt → (x : Int) = Y k 0 → (y : Int) = Y k 1 → fdF Y (x : Int) (y : Int) nt = some k := fun k x y hk hx hy1 => by
    have b := hy.1 k hk
    refine fdF_some (k := k) ⟨by omega, by omega⟩ (fun k' hk' q => ?_) nt hk
    have b' := hy.1 k' (by omega)
    have := hy.2 k k' hk (by omega) (by have := q.1; omega) (by have := q.2; omega)
    omega
  refine h.ext1 (fun x y => ⟨fun q => ?_, fun q => ?_⟩)
  · rcases q with ⟨h1, h2, h3, h4, h5⟩ | ⟨k, h1, h2, h3, h4, h5, h6⟩
    · refine ⟨h1, h3, h4, ?_⟩
      rcases e : fdF Y (x : Int) (y : Int) nt with _ | k
      · exact Or.inr ⟨e, h5.1, h5.2.1⟩
      · exact Or.inl ⟨k, e, fun z => h5.2.2 ⟨k, e, z⟩⟩
    · have b := hy.1 k h1
      exact ⟨by omega, h5, h6, Or.inl ⟨k, found k x y h1 h3 h4, h2⟩⟩
  · obtain ⟨h1, h2, h3, h4⟩ := q
    rcases h4 with ⟨k, e, h5⟩ | ⟨e, h5, h6⟩
    · obtain ⟨k1, k2⟩ := fdF_spec nt e
      exact Or.inr ⟨k, k1, h5, by have := k2.1; omega, by have := k2.2; omega, h2, h3⟩
    · exact Or.inl ⟨h1, h3.1, h2, h3, h5, h6, fun ⟨k, e', _⟩ => by rw [e] at e'; cases e'⟩
end JW
/-- the row of cases in order -/
def ldQ (f : Nat → va_E) (g : Nat → Option Nat) (i d : Nat) : Prop := ∃ b, g i = some b ∧ cqRf (f b) 7 = some d
def oQ (f : Nat → va_E) (g g5 : Nat → Option Nat) (o : Nat → Nat) (cnt : Nat) : Prop := ∀ j, j < cnt → ∃ d, ldQ f g (o j) d ∧ g5 j = some d
def oH (f : Nat → va_E) (g g5 : Nat → Option Nat) (s : Nat → Int) (o : Nat → Nat) (x : Int) (cnt k : Nat) : Prop := (∀ j, j < k → ∃ d, ldQ f g (o j) d ∧ g5 j = some d) ∧ (∀ j, k < j → j ≤ cnt → ∃ d, ldQ f g (o (j - 1)) d ∧ g5 j = some d) ∧ k ≤ cnt ∧ inP s o x cnt = inP s o x k
section OQ
variable {f : Nat → va_E} {g g5 g5' : Nat → Option Nat} {s : Nat → Int} {o : Nat → Nat} {x : Int} {cnt k : Nat}
theorem oH.start (h : oQ f g g5 o cnt) : oH f g g5 s o x cnt cnt := ⟨h, fun j h1 h2 => by omega, Nat.le_refl _, rfl⟩
theorem oH.step {k' d : Nat} (h : oH f g g5 s o x cnt k) (hk : k = k' + 1) (hs : s (o k') < x) (hd : g5 k' = some d) (eg : g5' = va_up g5 k (some d)) : oH f g g5' s o x cnt k' := by
  subst hk
  obtain ⟨h1, h2, h3, h4⟩ := h
  refine ⟨fun j hj => ?_, fun j hj hj2 => ?_, by omega, by rw [h4, inP_down hs]⟩
  · rw [eg, va_up_ne _ _ (by omega)]; exact h1 j (by omega)
  · by_cases q : j = k' + 1
    · obtain ⟨d', e1, e2⟩ := h1 k' (by omega)
      rw [hd] at e2
      cases e2
      rw [q, eg, va_up_self]
      exact ⟨d, e1, rfl⟩
    · rw [eg, va_up_ne _ _ q]; exact h2 j (by omega) hj2
theorem oH.end {a d : Nat} (h : oH f g g5 s o (s a) cnt k) (hs : k = 0 ∨ ∃ k', k = k' + 1 ∧ ¬ s (o k') < s a) (hd : ldQ f g a d) (eg : g5' = va_up g5 k (some d)) : oQ f g g5' (inO s o cnt a) (cnt + 1) := by
  obtain ⟨h1, h2, h3, h4⟩ := h
  have hp : inP s o (s a) cnt = k := by
    rw [h4]
    rcases hs with q | ⟨k', q, q2⟩
    · subst q; rfl
    · subst q; exact inP_stop q2
  intro j hj
  unfold inO
  rw [hp]
  by_cases q : j < k
  · rw [if_pos q, eg, va_up_ne _ _ (by omega)]; exact h1 j q
  · rw [if_neg q]
    by_cases q2 : j = k
    · rw [if_pos q2, q2, eg, va_up_self]; exact ⟨d, hd, rfl⟩
    · rw [if_neg q2, eg, va_up_ne _ _ q2]; exact h2 j (by omega) (by omega)
theorem oQ.fr {X : List (Nat × Nat)} {L : List Nat} {K : Nat → Nat × Nat} {f' : Nat → va_E} {n : Nat} (h : oQ f g g5 o cnt) (j : jN L K n g) (ho : ∀ j, j < cnt → o j < n) (t : cqT X L K f f') (hX : (0, 7) ∉ X) : oQ f' g g5 o cnt := fun i hi => by
  obtain ⟨d, ⟨b, e1, e2⟩, e3⟩ := h i hi
  have k := (j.key (ho i hi) e1).1
  exact ⟨d, ⟨b, e1, by rw [cqRf_eq (t b k.1 7 (by rw [k.2]; exact hX))]; exact e2⟩, e3⟩
end OQ
section FL
variable {L : List Nat} {K : Nat → Nat × Nat} {f f1 : Nat → va_E} {g : Nat → Option Nat} {n k : Nat} {V : Nat → Nat → Int} {c : Nat → Nat} {le : Int}
theorem cqCs.zero (h : cqCs f g n (fun _ _ => 0)) : cqCs f g n (wF V c n le 0) := fun i hi b hb d hd k hk => by
  rw [wF_0]; exact h i hi b hb d hd k hk
theorem cqCs.skip (h : cqCs f g n (wF V c n le k)) (hs : ¬ lvN V n k) : cqCs f g n (wF V c n le (k + 1)) := fun i hi b hb d hd j hj => by
  rw [wF_no (fun q => hs q.1)]; exact h i hi b hb d hd j hj
theorem wF_3b {m : Nat} : wF V c n le k m 3 = 0 ∨ wF V c n le k m 3 = 1 := by
  rw [wF_3]
  by_cases q : ∃ i, i < k ∧ inC V c n m i ∧ dpF V n (V i 4) le 4 = 0
  · right; exact if_pos q
  · left; exact if_neg q
theorem cqCs.fill {b0 d0 : Nat} (h : cqCs f g n (wF V c n le k)) (h0 : tC L K f g n) (j : jN L K n g) (hin : lvN V n k) (hc : c k < n) (hb : g (c k) = some b0) (hd : cqRf (f b0) 7 = some d0) (o : cqO d0 f f1) (h1 : cqF (f1 d0) 1 = cqF (f d0) 1 + 1) {x y : Int} (h2 : cqF (f1 d0) 2 = max (cqF (f d0) 2) x) (hx : x = scI V n le k) (h3 : cqF (f1 d0) 3 = if ¬ cqF (f d0) 3 = 0 ∨ y = 0 then 1 else 0) (hy : y = ((dpF V n (V k 4) le 4 : Nat) : Int)) : cqCs f1 g n (wF V c n le (k + 1)) := by
  have hi : inC V c n (c k) k := ⟨hin, rfl⟩
  refine cqCs.one (fun i hi' hne b hb' d hd' j' hj' => ?_) h0 j (Nat.le_refl _) hc hb hd o (fun j' hj' => ?_)
  · rw [wF_no (fun q => hne q.2.symm)]; exact h i hi' b hb' d hd' j' hj'
  · rcases (show j' = 1 ∨ j' = 2 ∨ j' = 3 by omega) with q | q | q <;> subst q
    · rw [h1, wF_hit1 hi, h _ hc b0 hb d0 hd 1 (by decide)]
    · rw [h2, wF_hit2 hi, h _ hc b0 hb d0 hd 2 (by decide), hx]
    · have e3 := h _ hc b0 hb d0 hd 3 (by decide)
      rw [h3, wF_hit3 hi, e3, hy]
      rcases wF_3b (V := V) (c := c) (n := n) (le := le) (k := k) (m := c k) with z | z
      · rw [z]
        by_cases w : dpF V n (V k 4) le 4 = 0
        · rw [if_pos w, if_pos (Or.inr (by omega))]
        · rw [if_neg w, if_neg (by omega)]
      · rw [z]
        by_cases w : dpF V n (V k 4) le 4 = 0
        · rw [if_pos w, if_pos (Or.inr (by omega))]
        · rw [if_neg w, if_pos (Or.inl (by omega))]
theorem cqCs.first {b0 d0 : Nat} (h : cqCs f g k (fun _ _ => 0)) (h0 : tC L K f g n) (j : jN L K n g) (hk : k < n) (hb : g k = some b0) (hd : cqRf (f b0) 7 = some d0) (o : cqO d0 f f1) (h1 : cqF (f1 d0) 1 = 0) (h2 : cqF (f1 d0) 2 = 0) (h3 : cqF (f1 d0) 3 = 0) : cqCs f1 g (k + 1) (fun _ _ => 0) := by
  refine cqCs.one (fun i hi' hne b hb' d hd' j' hj' => h i (by omega) b hb' d hd' j' hj') h0 j (by omega) hk hb hd o (fun j' hj' => ?_)
  rcases (show j' = 1 ∨ j' = 2 ∨ j' = 3 by omega) with q | q | q <;> subst q
  · exact h1
  · exact h2
  · exact h3
end FL
/-- the cases of the class fit the tables -/
def kFit (V Y : Nat → Nat → Int) (n nt : Nat) (le : Int) (f : Nat → va_E) (g g5 : Nat → Option Nat) (cz : Nat) : Prop := ∃ c, aU f g n c ∧ Lab (lvN V n) (hgE V Y n nt) c ∧ cqCs f g n (wF V c n le n) ∧ cz = (orS (hdC V c n) (fun m => wF V c n le n m 2) n).2 ∧ oQ f g g5 (orS (hdC V c n) (fun m => wF V c n le n m 2) n).1 cz
theorem jN.le {L : List Nat} {K : Nat → Nat × Nat} {n m : Nat} {g : Nat → Option Nat} (j : jN L K n g) (h : m ≤ n) : jN L K m g := fun i hi => j i (by omega)
theorem tC.le {L : List Nat} {K : Nat → Nat × Nat} {f : Nat → va_E} {n m : Nat} {g : Nat → Option Nat} (j : tC L K f g n) (h : m ≤ n) : tC L K f g m := fun i hi => j i (by omega)
