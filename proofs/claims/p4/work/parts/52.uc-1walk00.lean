/-- a class world in good order -/
def cST (S : Int) (nw ns : Int32) (tys : List (ClassId × FieldType)) (xo : Nat) (w : va_W) : Prop := ∃ (ro : Nat) (tI : Nat) (cS : Nat) (pN : Nat) (a1 : Nat) (a2 : Nat) (a3 : Nat) (a4 : Nat) (a5 : Nat) (a6 : Nat) (a7 : Nat) (a8 : Nat) (a9 : Nat) (e1 : ClassId) (e2 : ClassId) (e3 : ClassId) (e4 : ClassId) (e5 : ClassId) (e6 : ClassId) (e7 : ClassId) (e8 : ClassId) (e9 : ClassId) (na : Int32) (cp : Int32) (le : Int32) (tr : Int32) (sl : Int32) (tz : Int32) (cz : Int32) (q1 : Int32) (q2 : Int32) (q3 : Int32) (q4 : Int32) (g1 : Nat → Option Nat) (g2 : Nat → Option Nat) (g3 : Nat → Option Nat) (g4 : Nat → Option Nat) (g5 : Nat → Option Nat) (g6 : Nat → Option Nat) (g7 : Nat → Option Nat) (y8 : Nat → Int32) (y9 : Nat → Int32) (L : List Nat) (K : Nat → Nat × Nat) (f : Nat → va_E), tys = [(e1, .object RX0), (e2, .object RX0), (e3, .object RX6), (e4, .object RX4), (e5, .object RX1), (e6, .object RX1), (e7, .object RX1), (e8, .int), (e9, .int)] ∧ w = ([oC xo 8 [.ref a1, .ref a2, .ref a3, .ref ro, .ref tI, .ref cS, .ref pN, .int na, .int ns, .int nw, .int cp, .int le, .int tr, .int sl], aR a1 e1 200 (g1), aR a2 e2 40 (g2), aR a3 e3 30 (g3), oC tI 7 [.ref a4, .int tz], aR a4 e4 60 (g4), oC cS 2 [.ref a5, .int cz], aR a5 e5 200 (g5), oC pN 5 [.ref a6, .ref a7, .ref a8, .ref a9, .int q1, .int q2, .int q3, .int q4], aR a6 e6 17 (g6), aR a7 e7 12 (g7), aI a8 e8 301 (y8), aI a9 e9 301 (y9)] ++ va_pl L f) ∧ (cqI S L K f) ∧ (0 ≤ (na).toInt ∧ (na).toInt ≤ 200) ∧ (0 ≤ (ns).toInt ∧ (ns).toInt ≤ 30) ∧ (0 ≤ (tz).toInt ∧ (tz).toInt ≤ 60) ∧ (0 ≤ (cz).toInt ∧ (cz).toInt ≤ 200) ∧ (cqJA L K (na).toInt g1) ∧ (cqJL L K ((na).toInt.toNat) g2) ∧ (cqJ L K 6 (ns).toInt g3) ∧ (cqJ L K 4 (tz).toInt g4) ∧ (cqJ L K 1 (cz).toInt g5) ∧ (cqIs L K 3 ro) ∧ (0 ≤ (nw).toInt ∧ (nw).toInt ≤ 10000)
theorem gpN_rng {now n : Int32} (h : 0 ≤ now.toInt ∧ now.toInt ≤ 10000) : 0 ≤ (gpN now n).toInt ∧ (gpN now n).toInt ≤ 10000 := by
  unfold gpN
  have t := ad_toInt (x := now) (y := n) (z := now + n) (zx := now.toInt) (zy := n.toInt) rfl rfl rfl
  split
  · rename_i q; omega
  · exact h
theorem gsN_rng {k a b d : Int32} (h : 0 ≤ k.toInt ∧ k.toInt ≤ 30) : 0 ≤ (gsN k a b d).toInt ∧ (gsN k a b d).toInt ≤ 30 := by
  unfold gsN
  have t := ad_toInt (x := k) (y := 1) (z := k + 1) (zx := k.toInt) (zy := 1) rfl rfl rfl
  split
  · rename_i q; omega
  · exact h
theorem cST.rc {S : Int} {nw ns : Int32} {tys : List (ClassId × FieldType)} {xo : Nat} {w : va_W} (h : cST S nw ns tys xo w) : ∃ (q0 : Nat) (fs : List Value), w[q0]? = some (xo, .inr (8, fs)) := by
  obtain ⟨ro, tI, cS, pN, a1, a2, a3, a4, a5, a6, a7, a8, a9, e1, e2, e3, e4, e5, e6, e7, e8, e9, na, cp, le, tr, sl, tz, cz, q1, q2, q3, q4, g1, g2, g3, g4, g5, g6, g7, y8, y9, L, K, f, -, rfl, -⟩ := h
  exact ⟨0, _, rfl⟩

set_option maxHeartbeats 4000000 in
set_option maxRecDepth 100000 in
theorem u_pass (l : Launch) (D : va_G) (sz : Nat) {S : Int} {nw ns : Int32} {tys : List (ClassId × FieldType)} {xo : Nat} {w9 : va_W} (v : Int32) (h : cST S nw ns tys xo w9) (hSb : 0 ≤ S ∧ S ≤ 400000) : Met l yX8_pass wsX8_pass ({ frames := 0, cells := 0, slots := 0, locals := 0 }) (va_Pc [.ref xo, .int v] (wz sz D tys w9)) (cQ (fun r => r = gpA nw v) (fun w8 => cST (S + 200) (gpN nw v) ns tys xo w8) D w9 sz) 0 0 (va_A w9 sz) := by
  obtain ⟨ro, tI, cS, pN, a1, a2, a3, a4, a5, a6, a7, a8, a9, e1, e2, e3, e4, e5, e6, e7, e8, e9, na, cp, le, tr, sl, tz, cz, q1, q2, q3, q4, g1, g2, g3, g4, g5, g6, g7, y8, y9, L, K, f, rfl, rfl, hI, hna, hns, htz, hcz, j1, j2, j3, j4, j5, hro, hnw⟩ := h
  refine gq_conseq (c_X8_pass l D sz xo ro tI cS pN a1 a2 a3 a4 a5 a6 a7 a8 a9 e1 e2 e3 e4 e5 e6 e7 e8 e9 na ns nw cp le tr sl tz cz q1 q2 q3 q4 g1 g2 g3 g4 g5 g6 g7 y8 y9 L K f S v hI hna hns htz hcz j1 j2 j3 j4 j5 hro (by omega) hnw) (fun _ _ q => q) (fun a s o t hp hq => ?_) (fun _ q => q)
  obtain ⟨⟨r, u, h1, h2, nw9, hB, rfl, p1⟩, hF⟩ := hq
  exact ⟨⟨r, u, h1, h2, _, ⟨hB.1, hB.2.2⟩, ⟨ro, tI, cS, pN, a1, a2, a3, a4, a5, a6, a7, a8, a9, e1, e2, e3, e4, e5, e6, e7, e8, e9, na, cp, le, tr, sl, tz, cz, q1, q2, q3, q4, g1, g2, g3, g4, g5, g6, g7, y8, y9, L, K, f, rfl, rfl, (hI.more (by omega)), hna, hns, htz, hcz, j1, j2, j3, j4, j5, hro, p1⟩⟩, hF⟩
