/-- field k of an object -/
def cqU (e : va_E) (k : Nat) : Value := match e with
  | .inr (_, fs) => (match fs[k]? with
    | some v => v
    | none => .null)
  | _ => .null
def cqNm (v : Value) : Int := match v with
  | .int x => x.toInt
  | _ => 0
/-- an int field of an object, as a number -/
def cqF (e : va_E) (k : Nat) : Int := cqNm (cqU e k)
/-- all fields but those named (by class and place) stay -/
def cqT (X : List (Nat × Nat)) (L : List Nat) (K : Nat → Nat × Nat) (f f' : Nat → va_E) : Prop := ∀ b, b ∈ L → ∀ k, ((K b).1, k) ∉ X → cqU (f' b) k = cqU (f b) k
/-- nothing but the object a has changed -/
def cqO (a : Nat) (f f' : Nat → va_E) : Prop := ∀ b, b ≠ a → f' b = f b
theorem cqU_set {c k k2 : Nat} {fs : List Value} {v : Value} (h : k2 ≠ k) : cqU (.inr (c, fs.set k v)) k2 = cqU (.inr (c, fs)) k2 := by
  show (match (fs.set k v)[k2]? with | some v => v | none => .null) = (match fs[k2]? with | some v => v | none => .null)
  rw [List.getElem?_set_ne (Ne.symm h)]
section CT
variable {X X2 : List (Nat × Nat)} {L L' : List Nat} {K K' : Nat → Nat × Nat} {f f1 f2 : Nat → va_E} {a c k : Nat} {e : va_E}
theorem cqT.rf : cqT X L K f f := fun _ _ _ _ => rfl
theorem cqT.trans (h1 : cqT X L K f f1) (h2 : cqT X L K f1 f2) : cqT X L K f f2 := fun b hb k hk => (h2 b hb k hk).trans (h1 b hb k hk)
theorem cqT.weak (h : cqT X L K f f1) (hs : ∀ x ∈ X, x ∈ X2) : cqT X2 L K f f1 := fun b hb k hk => h b hb k (fun q => hk (hs _ q))
theorem cqT.thenG (h1 : cqT X L K f f1) (g : cqG L K L' K') (h2 : cqT X L' K' f1 f2) : cqT X L K f f2 := fun b hb k hk => (h2 b (g b hb).1 k (by rw [(g b hb).2]; exact hk)).trans (h1 b hb k hk)
theorem cqT.put (h : cqT X L K f f1) (g : cqG L K L' K') (i : cqIs L' K' c a) (ef : f2 = va_up f1 a e) {fs : List Value} (v : Value) (hf : f1 a = .inr (c, fs)) (he : e = .inr (c, fs.set k v)) (hX : (c, k) ∈ X) : cqT X L K f f2 := fun b hb k2 hk => by
  by_cases q : b = a
  · have h1 := h b hb k2 hk
    subst q
    rw [ef, va_up_self, he, cqU_set (fun z => hk (by rw [← (g b hb).2, i.2, z]; exact hX)), ← hf]
    exact h1
  · rw [ef, va_up_ne _ _ q]; exact h b hb k2 hk
theorem cqT.fresh (h : cqT X L K f f1) (hn : a ∉ L) (ef : f2 = va_up f1 a e) : cqT X L K f f2 := fun b hb k2 hk => by
  have hne : b ≠ a := fun z => hn (z ▸ hb)
  rw [ef, va_up_ne _ _ hne]; exact h b hb k2 hk
theorem cqT.grow (h : cqT X L K f f1) (g : cqG L K L' K') (hq : ∀ b, b ∈ L' → f2 b = f1 b) : cqT X L K f f2 := fun b hb k hk => by rw [hq b (g b hb).1]; exact h b hb k hk
theorem cqO.rf : cqO a f f := fun _ _ => rfl
theorem cqO.put (h : cqO a f f1) (ef : f2 = va_up f1 a e) : cqO a f f2 := fun b hb => by rw [ef, va_up_ne _ _ hb]; exact h b hb
theorem cqT.F (h : cqT X L K f f1) (ha : cqIs L K c a) (hX : (c, k) ∉ X) : cqF (f1 a) k = cqF (f a) k := congrArg cqNm (h a ha.1 k (by rw [ha.2]; exact hX))
theorem cqG.out (g : cqG L K L' K') (h : a ∉ L') : a ∉ L := fun q => h (g a q).1
end CT
section CT2
variable {S : Int} {L L' : List Nat} {K K' : Nat → Nat × Nat} {f f1 f2 : Nat → va_E} {a q : Nat} {e : va_E} {D : va_G} {cl : List vw_C} {X : va_W} {H : Heap} {A : Nat → Prop}
theorem nwNT {pa sb fc : Option Nat} {de ma tu sd op : Int32} (hI : cqI S L K f) (hP : va_P D cl (((q, .inr (3, [va_rf pa, .int de, .int ma, va_rf sb, va_rf fc, .int tu, .int sd, .int op])) :: X) ++ va_pl L f) H) (hD : va_D A (((q, .inr (3, [va_rf pa, .int de, .int ma, va_rf sb, va_rf fc, .int tu, .int sd, .int op])) :: X) ++ va_pl L f)) (h1 : cqOp L K 3 pa) (h2 : cqOp L K 3 sb) (h3 : cqOp L K 3 fc) : ∃ L' K' f', cqG L K L' K' ∧ cqI S L' K' f' ∧ va_P D cl (X ++ va_pl L' f') H ∧ va_D A (X ++ va_pl L' f') ∧ cqIs L' K' 3 q ∧ (∀ b, b ∈ L → f' b = f b) ∧ q ∉ L ∧ f' q = .inr (3, [va_rf pa, .int de, .int ma, va_rf sb, va_rf fc, .int tu, .int sd, .int op]) := by
  have hq := frontQ hD
  obtain ⟨K', g1, g2, g3⟩ := hI.newN hq (de := de) (ma := ma) (tu := tu) (sd := sd) (op := op) h1 h2 h3
  exact ⟨_, K', _, g1, g2, pushP hq hP, pushD hq hD, g3, fun b hb => va_up_ne _ _ (fun z => hq (z ▸ hb)), hq, va_up_self _ _ _⟩
theorem nwCT {nu sz sc li : Int32} (hI : cqI S L K f) (hP : va_P D cl (((q, .inr (1, [.int nu, .int sz, .int sc, .int li])) :: X) ++ va_pl L f) H) (hD : va_D A (((q, .inr (1, [.int nu, .int sz, .int sc, .int li])) :: X) ++ va_pl L f)) (h1 : 0 ≤ sz.toInt ∧ sz.toInt ≤ S) : ∃ L' K' f', cqG L K L' K' ∧ cqI S L' K' f' ∧ va_P D cl (X ++ va_pl L' f') H ∧ va_D A (X ++ va_pl L' f') ∧ cqIs L' K' 1 q ∧ (∀ b, b ∈ L → f' b = f b) ∧ q ∉ L ∧ f' q = .inr (1, [.int nu, .int sz, .int sc, .int li]) := by
  have hq := frontQ hD
  obtain ⟨K', g1, g2, g3⟩ := hI.newC hq (nu := nu) (sz := sz) (sc := sc) (li := li) h1
  exact ⟨_, K', _, g1, g2, pushP hq hP, pushD hq hD, g3, fun b hb => va_up_ne _ _ (fun z => hq (z ▸ hb)), hq, va_up_self _ _ _⟩
theorem nwPT {x y z : Int32} (hI : cqI S L K f) (hP : va_P D cl (((q, .inr (4, [.int x, .int y, .int z])) :: X) ++ va_pl L f) H) (hD : va_D A (((q, .inr (4, [.int x, .int y, .int z])) :: X) ++ va_pl L f)) : ∃ L' K' f', cqG L K L' K' ∧ cqI S L' K' f' ∧ va_P D cl (X ++ va_pl L' f') H ∧ va_D A (X ++ va_pl L' f') ∧ cqIs L' K' 4 q ∧ (∀ b, b ∈ L → f' b = f b) ∧ q ∉ L ∧ f' q = .inr (4, [.int x, .int y, .int z]) := by
  have hq := frontQ hD
  obtain ⟨K', g1, g2, g3⟩ := hI.newP hq (x := x) (y := y) (z := z)
  exact ⟨_, K', _, g1, g2, pushP hq hP, pushD hq hD, g3, fun b hb => va_up_ne _ _ (fun z => hq (z ▸ hb)), hq, va_up_self _ _ _⟩
theorem nwST {x y z : Int32} (hI : cqI S L K f) (hP : va_P D cl (((q, .inr (6, [.int x, .int y, .int z])) :: X) ++ va_pl L f) H) (hD : va_D A (((q, .inr (6, [.int x, .int y, .int z])) :: X) ++ va_pl L f)) : ∃ L' K' f', cqG L K L' K' ∧ cqI S L' K' f' ∧ va_P D cl (X ++ va_pl L' f') H ∧ va_D A (X ++ va_pl L' f') ∧ cqIs L' K' 6 q ∧ (∀ b, b ∈ L → f' b = f b) ∧ q ∉ L ∧ f' q = .inr (6, [.int x, .int y, .int z]) := by
  have hq := frontQ hD
  obtain ⟨K', g1, g2, g3⟩ := hI.newS hq (x := x) (y := y) (z := z)
  exact ⟨_, K', _, g1, g2, pushP hq hP, pushD hq hD, g3, fun b hb => va_up_ne _ _ (fun z => hq (z ▸ hb)), hq, va_up_self _ _ _⟩
theorem nwAT {nu ca so th ma wo : Int32} {lf ld : Nat} {si cp he re sv lt lF : Int32} {k : Nat} (hI : cqI S L K f) (hP : va_P D cl (((q, .inr (0, [.int nu, .int ca, .int so, .int th, .int ma, .int wo, .ref lf, .ref ld, .int si, .int cp, .int he, .int re, .int sv, .int lt, .int lF, .null, .null])) :: X) ++ va_pl L f) H) (hD : va_D A (((q, .inr (0, [.int nu, .int ca, .int so, .int th, .int ma, .int wo, .ref lf, .ref ld, .int si, .int cp, .int he, .int re, .int sv, .int lt, .int lF, .null, .null])) :: X) ++ va_pl L f)) (hn : nu.toInt = (k : Int)) (h2 : cqIs L K 3 lf) (h3 : cqIs L K 1 ld) (h4 : si = 0 ∨ si = 1) (h5 : cp = 0 ∨ cp = 1) : ∃ L' K' f', cqG L K L' K' ∧ cqI S L' K' f' ∧ va_P D cl (X ++ va_pl L' f') H ∧ va_D A (X ++ va_pl L' f') ∧ cqIs L' K' 0 q ∧ (K' q).2 = k ∧ (∀ b, b ∈ L → f' b = f b) ∧ q ∉ L ∧ f' q = .inr (0, [.int nu, .int ca, .int so, .int th, .int ma, .int wo, .ref lf, .ref ld, .int si, .int cp, .int he, .int re, .int sv, .int lt, .int lF, .null, .null]) := by
  have hq := frontQ hD
  obtain ⟨K', g1, g2, g3, g4⟩ := hI.newA hq (nu := nu) (ca := ca) (so := so) (th := th) (ma := ma) (wo := wo) (lf := lf) (ld := ld) (si := si) (cp := cp) (he := he) (re := re) (sv := sv) (lt := lt) (lF := lF) (sn := none) (ab := none) hn h2 h3 h4 h5 cqLo.none cqLo.none
  exact ⟨_, K', _, g1, g2, pushP hq hP, pushD hq hD, g3, g4, fun b hb => va_up_ne _ _ (fun z => hq (z ▸ hb)), hq, va_up_self _ _ _⟩
end CT2
