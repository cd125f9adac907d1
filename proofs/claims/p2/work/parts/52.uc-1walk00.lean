/-- a class world in good order -/
def cST (S : Int) (nw ns : Int32) (tys : List (ClassId × FieldType)) (xo : Nat) (w : va_W) : Prop := ∃ (ro : Nat) (tI : Nat) (cS : Nat) (pN : Nat) (a1 : Nat) (a2 : Nat) (a3 : Nat) (a4 : Nat) (a5 : Nat) (a6 : Nat) (a7 : Nat) (a8 : Nat) (a9 : Nat) (e1 : ClassId) (e2 : ClassId) (e3 : ClassId) (e4 : ClassId) (e5 : ClassId) (e6 : ClassId) (e7 : ClassId) (e8 : ClassId) (e9 : ClassId) (na : Int32) (cp : Int32) (le : Int32) (tr : Int32) (sl : Int32) (tz : Int32) (cz : Int32) (q1 : Int32) (q2 : Int32) (q3 : Int32) (q4 : Int32) (g1 : Nat → Option Nat) (g2 : Nat → Option Nat) (g3 : Nat → Option Nat) (g4 : Nat → Option Nat) (g5 : Nat → Option Nat) (g6 : Nat → Option Nat) (g7 : Nat → Option Nat) (y8 : Nat → Int32) (y9 : Nat → Int32) (L : List Nat) (K : Nat → Nat × Nat) (f : Nat → va_E), tys = [(e1, .object RX0), (e2, .object RX0), (e3, .object RX6), (e4, .object RX4), (e5, .object RX1), (e6, .object RX1), (e7, .object RX1), (e8, .int), (e9, .int)] ∧ w = ([(xo, .inr (8, [.ref a1, .ref a2, .ref a3, .ref ro, .ref tI, .ref cS, .ref pN, .int na, .int ns, .int nw, .int cp, .int le, .int tr, .int sl])), (a1, .inl (e1, 200, .inr (.inr (.inr (.inr (g1)))))), (a2, .inl (e2, 40, .inr (.inr (.inr (.inr (g2)))))), (a3, .inl (e3, 30, .inr (.inr (.inr (.inr (g3)))))), (tI, .inr (7, [.ref a4, .int tz])), (a4, .inl (e4, 60, .inr (.inr (.inr (.inr (g4)))))), (cS, .inr (2, [.ref a5, .int cz])), (a5, .inl (e5, 200, .inr (.inr (.inr (.inr (g5)))))), (pN, .inr (5, [.ref a6, .ref a7, .ref a8, .ref a9, .int q1, .int q2, .int q3, .int q4])), (a6, .inl (e6, 17, .inr (.inr (.inr (.inr (g6)))))), (a7, .inl (e7, 12, .inr (.inr (.inr (.inr (g7)))))), (a8, .inl (e8, 301, .inl (y8))), (a9, .inl (e9, 301, .inl (y9)))] ++ va_pl L f) ∧ (cqI S L K f) ∧ (0 ≤ (na).toInt ∧ (na).toInt ≤ 200) ∧ (0 ≤ (ns).toInt ∧ (ns).toInt ≤ 30) ∧ (0 ≤ (tz).toInt ∧ (tz).toInt ≤ 60) ∧ (0 ≤ (cz).toInt ∧ (cz).toInt ≤ 200) ∧ (cqJA L K (na).toInt g1) ∧ (cqJL L K ((na).toInt.toNat) g2) ∧ (cqJ L K 6 (ns).toInt g3) ∧ (cqJ L K 4 (tz).toInt g4) ∧ (cqJ L K 1 (cz).toInt g5) ∧ (cqIs L K 3 ro) ∧ (0 ≤ (nw).toInt ∧ (nw).toInt ≤ 10000)
theorem gpN_rng {now n : Int32} (h : 0 ≤ now.toInt ∧ now.toInt ≤ 10000) : 0 ≤ (gpN now n).toInt ∧ (gpN now n).toInt ≤ 10000 := by
  unfold gpN
  have t := ad_toInt (x := now) (y := n) (z := now + n) (zx := now.toInt) (zy := n.toInt) rfl rfl rfl
  split
  · rename_i q; omega
  · exact h
theorem gsN_rng {k a b d : Int32} (h : 0 ≤ k.toInt ∧ k.toInt ≤ 30) : 0 ≤ (gsN k a b d).toInt ∧ (gsN k a b d).toInt ≤ 30 := by
  unfold gsN
  have t := ad_toInt (x := k) (y := 1) (z := k + 1) (zx := k.toInt) (zy := 1) rfl rfl rfl
  split
  · rename_i q; omega
  · exact h
theorem cST.rc {S : Int} {nw ns : Int32} {tys : List (ClassId × FieldType)} {xo : Nat} {w : va_W} (h : cST S nw ns tys xo w) : ∃ (q0 : Nat) (fs : List Value), w[q0]? = some (xo, .inr (8, fs)) := by
  obtain ⟨ro, tI, cS, pN, a1, a2, a3, a4, a5, a6, a7, a8, a9, e1, e2, e3, e4, e5, e6, e7, e8, e9, na, cp, le, tr, sl, tz, cz, q1, q2, q3, q4, g1, g2, g3, g4, g5, g6, g7, y8, y9, L, K, f, -, rfl, -⟩ := h
  exact ⟨0, _, rfl⟩

set_option maxHeartbeats 4000000 in
set_option maxRecDepth 100000 in
theorem u_pass (l : Launch) (D : va_G) (sz : Nat) {S : Int} {nw ns : Int32} {tys : List (ClassId × FieldType)} {xo : Nat} {w9 : va_W} (v : Int32) (h : cST S nw ns tys xo w9) (hSb : 0 ≤ S ∧ S ≤ 400000) : Met l yX8_pass wsX8_pass ({ frames := 0, cells := 0, slots := 0, locals := 0 }) (va_Pc [.ref xo, .int v] (wz sz D tys w9)) (cQ (fun r => r = gpA nw v) (fun w8 => cST (S + 200) (gpN nw v) ns tys xo w8) D w9 sz) 0 0 (va_A w9 sz) := by
  obtain ⟨ro, tI, cS, pN, a1, a2, a3, a4, a5, a6, a7, a8, a9, e1, e2, e3, e4, e5, e6, e7, e8, e9, na, cp, le, tr, sl, tz, cz, q1, q2, q3, q4, g1, g2, g3, g4, g5, g6, g7, y8, y9, L, K, f, rfl, rfl, hI, hna, hns, htz, hcz, j1, j2, j3, j4, j5, hro, hnw⟩ := h
  refine gq_conseq (c_X8_pass l D sz xo ro tI cS pN a1 a2 a3 a4 a5 a6 a7 a8 a9 e1 e2 e3 e4 e5 e6 e7 e8 e9 na ns nw cp le tr sl tz cz q1 q2 q3 q4 g1 g2 g3 g4 g5 g6 g7 y8 y9 L K f S v hI hna hns htz hcz j1 j2 j3 j4 j5 hro (by omega) hnw) (fun _ _ q => q) (fun a s o t hp hq => ?_) (fun _ q => q)
  obtain ⟨⟨r, u, h1, h2, nw9, hB, rfl, p1⟩, hF⟩ := hq
  exact ⟨⟨r, u, h1, h2, _, ⟨hB.1, hB.2.2⟩, ⟨ro, tI, cS, pN, a1, a2, a3, a4, a5, a6, a7, a8, a9, e1, e2, e3, e4, e5, e6, e7, e8, e9, na, cp, le, tr, sl, tz, cz, q1, q2, q3, q4, g1, g2, g3, g4, g5, g6, g7, y8, y9, L, K, f, rfl, rfl, (hI.more (by omega)), hna, hns, htz, hcz, j1, j2, j3, j4, j5, hro, p1⟩⟩, hF⟩

set_option maxHeartbeats 4000000 in
set_option maxRecDepth 100000 in
theorem u_alarm (l : Launch) (D : va_G) (sz : Nat) {S : Int} {nw ns : Int32} {tys : List (ClassId × FieldType)} {xo : Nat} {w9 : va_W} (v1 : Int32) (v2 : Int32) (v3 : Int32) (v4 : Int32) (h : cST S nw ns tys xo w9) (hSb : 0 ≤ S ∧ S ≤ 400000) : Met l yX8_alarm wsX8_alarm ({ frames := 3, cells := 6, slots := 53, locals := 65 }) (va_Pc [.ref xo, .int v1, .int v2, .int v3, .int v4] (wz sz D tys w9)) (cQ (fun r => True) (fun w8 => cST (S + 200) nw ns tys xo w8) D w9 sz) 6 53 (va_A w9 sz) := by
  obtain ⟨ro, tI, cS, pN, a1, a2, a3, a4, a5, a6, a7, a8, a9, e1, e2, e3, e4, e5, e6, e7, e8, e9, na, cp, le, tr, sl, tz, cz, q1, q2, q3, q4, g1, g2, g3, g4, g5, g6, g7, y8, y9, L, K, f, rfl, rfl, hI, hna, hns, htz, hcz, j1, j2, j3, j4, j5, hro, hnw⟩ := h
  refine gq_conseq (c_X8_alarm l D sz xo ro tI cS pN a1 a2 a3 a4 a5 a6 a7 a8 a9 e1 e2 e3 e4 e5 e6 e7 e8 e9 na ns nw cp le tr sl tz cz q1 q2 q3 q4 g1 g2 g3 g4 g5 g6 g7 y8 y9 L K f S v1 v2 v3 v4 hI hna hns htz hcz j1 j2 j3 j4 j5 hro (by omega)) (fun _ _ q => q) (fun a s o t hp hq => ?_) (fun _ q => q)
  obtain ⟨⟨r, u, h1, h2, L9, K9, f9, na9, g19, g29, sl9, hB, p0, p1, p2, p3, p4⟩, hF⟩ := hq
  exact ⟨⟨r, u, h1, h2, _, ⟨hB.1, hB.2.2⟩, ⟨ro, tI, cS, pN, a1, a2, a3, a4, a5, a6, a7, a8, a9, e1, e2, e3, e4, e5, e6, e7, e8, e9, na9, cp, le, tr, sl9, tz, cz, q1, q2, q3, q4, g19, g29, g3, g4, g5, g6, g7, y8, y9, L9, K9, f9, rfl, rfl, (p1.more (by omega)), p2, hns, htz, hcz, p3, p4, (j3.up p0), (j4.up p0), (j5.up p0), (hro.up p0), hnw⟩⟩, hF⟩

set_option maxHeartbeats 4000000 in
set_option maxRecDepth 100000 in
theorem u_silence (l : Launch) (D : va_G) (sz : Nat) {S : Int} {nw ns : Int32} {tys : List (ClassId × FieldType)} {xo : Nat} {w9 : va_W} (v0 : Int32) (v : Int32) (w : Int32) (h : cST S nw ns tys xo w9) (hSb : 0 ≤ S ∧ S ≤ 400000) : Met l yX8_silence wsX8_silence ({ frames := 2, cells := 1, slots := 3, locals := 35 }) (va_Pc [.ref xo, .int v0, .int v, .int w] (wz sz D tys w9)) (cQ (fun r => r = gsA ns v0 v w) (fun w8 => cST (S + 200) nw (gsN ns v0 v w) tys xo w8) D w9 sz) 1 3 (va_A w9 sz) := by
  obtain ⟨ro, tI, cS, pN, a1, a2, a3, a4, a5, a6, a7, a8, a9, e1, e2, e3, e4, e5, e6, e7, e8, e9, na, cp, le, tr, sl, tz, cz, q1, q2, q3, q4, g1, g2, g3, g4, g5, g6, g7, y8, y9, L, K, f, rfl, rfl, hI, hna, hns, htz, hcz, j1, j2, j3, j4, j5, hro, hnw⟩ := h
  refine gq_conseq (c_X8_silence l D sz xo ro tI cS pN a1 a2 a3 a4 a5 a6 a7 a8 a9 e1 e2 e3 e4 e5 e6 e7 e8 e9 na ns nw cp le tr sl tz cz q1 q2 q3 q4 g1 g2 g3 g4 g5 g6 g7 y8 y9 L K f S v0 v w hI hna hns htz hcz j1 j2 j3 j4 j5 hro (by omega)) (fun _ _ q => q) (fun a s o t hp hq => ?_) (fun _ q => q)
  obtain ⟨⟨r, u, h1, h2, L9, K9, f9, ns9, g39, hB, p0, p1, p2, p3, rfl⟩, hF⟩ := hq
  exact ⟨⟨r, u, h1, h2, _, ⟨hB.1, hB.2.2⟩, ⟨ro, tI, cS, pN, a1, a2, a3, a4, a5, a6, a7, a8, a9, e1, e2, e3, e4, e5, e6, e7, e8, e9, na, cp, le, tr, sl, tz, cz, q1, q2, q3, q4, g1, g2, g39, g4, g5, g6, g7, y8, y9, L9, K9, f9, rfl, rfl, (p1.more (by omega)), hna, p2, htz, hcz, (j1.up p0), (j2.up p0), p3, (j4.up p0), (j5.up p0), (hro.up p0), hnw⟩⟩, hF⟩

set_option maxHeartbeats 4000000 in
set_option maxRecDepth 100000 in
theorem u_set (l : Launch) (D : va_G) (sz : Nat) {S : Int} {nw ns : Int32} {tys : List (ClassId × FieldType)} {xo : Nat} {w9 : va_W} (v : Int32) (w : Int32) (h : cST S nw ns tys xo w9) (hSb : 0 ≤ S ∧ S ≤ 400000) : Met l yX8_set wsX8_set ({ frames := 0, cells := 0, slots := 0, locals := 0 }) (va_Pc [.ref xo, .int v, .int w] (wz sz D tys w9)) (cQ (fun r => r = F_set v w) (fun w8 => cST (S + 200) nw ns tys xo w8) D w9 sz) 0 0 (va_A w9 sz) := by
  obtain ⟨ro, tI, cS, pN, a1, a2, a3, a4, a5, a6, a7, a8, a9, e1, e2, e3, e4, e5, e6, e7, e8, e9, na, cp, le, tr, sl, tz, cz, q1, q2, q3, q4, g1, g2, g3, g4, g5, g6, g7, y8, y9, L, K, f, rfl, rfl, hI, hna, hns, htz, hcz, j1, j2, j3, j4, j5, hro, hnw⟩ := h
  refine gq_conseq (c_X8_set l D sz xo ro tI cS pN a1 a2 a3 a4 a5 a6 a7 a8 a9 e1 e2 e3 e4 e5 e6 e7 e8 e9 na ns nw cp le tr sl tz cz q1 q2 q3 q4 g1 g2 g3 g4 g5 g6 g7 y8 y9 L K f S v w hI hna hns htz hcz j1 j2 j3 j4 j5 hro (by omega)) (fun _ _ q => q) (fun a s o t hp hq => ?_) (fun _ q => q)
  obtain ⟨⟨r, u, h1, h2, cp9, le9, tr9, sl9, hB⟩, hF⟩ := hq
  exact ⟨⟨r, u, h1, h2, _, ⟨hB.1, hB.2.2⟩, ⟨ro, tI, cS, pN, a1, a2, a3, a4, a5, a6, a7, a8, a9, e1, e2, e3, e4, e5, e6, e7, e8, e9, na, cp9, le9, tr9, sl9, tz, cz, q1, q2, q3, q4, g1, g2, g3, g4, g5, g6, g7, y8, y9, L, K, f, rfl, rfl, (hI.more (by omega)), hna, hns, htz, hcz, j1, j2, j3, j4, j5, hro, hnw⟩⟩, hF⟩

set_option maxHeartbeats 4000000 in
set_option maxRecDepth 100000 in
theorem u_verdict (l : Launch) (D : va_G) (sz : Nat) {S : Int} {nw ns : Int32} {tys : List (ClassId × FieldType)} {xo : Nat} {w9 : va_W} (v0 : Int32) (v : Int32) (w : Int32) (h : cST S nw ns tys xo w9) (hSb : 0 ≤ S ∧ S ≤ 400000) : Met l yX8_verdict wsX8_verdict ({ frames := 2, cells := 0, slots := 0, locals := 42 }) (va_Pc [.ref xo, .int v0, .int v, .int w] (wz sz D tys w9)) (cQ (fun r => True) (fun w8 => cST (S + 200) nw ns tys xo w8) D w9 sz) 0 0 (va_A w9 sz) := by
  obtain ⟨ro, tI, cS, pN, a1, a2, a3, a4, a5, a6, a7, a8, a9, e1, e2, e3, e4, e5, e6, e7, e8, e9, na, cp, le, tr, sl, tz, cz, q1, q2, q3, q4, g1, g2, g3, g4, g5, g6, g7, y8, y9, L, K, f, rfl, rfl, hI, hna, hns, htz, hcz, j1, j2, j3, j4, j5, hro, hnw⟩ := h
  refine gq_conseq (c_X8_verdict l D sz xo ro tI cS pN a1 a2 a3 a4 a5 a6 a7 a8 a9 e1 e2 e3 e4 e5 e6 e7 e8 e9 na ns nw cp le tr sl tz cz q1 q2 q3 q4 g1 g2 g3 g4 g5 g6 g7 y8 y9 L K f S v0 v w hI hna hns htz hcz j1 j2 j3 j4 j5 hro (by omega)) (fun _ _ q => q) (fun a s o t hp hq => ?_) (fun _ q => q)
  obtain ⟨⟨r, u, h1, h2, f9, sl9, hB, p0⟩, hF⟩ := hq
  exact ⟨⟨r, u, h1, h2, _, ⟨hB.1, hB.2.2⟩, ⟨ro, tI, cS, pN, a1, a2, a3, a4, a5, a6, a7, a8, a9, e1, e2, e3, e4, e5, e6, e7, e8, e9, na, cp, le, tr, sl9, tz, cz, q1, q2, q3, q4, g1, g2, g3, g4, g5, g6, g7, y8, y9, L, K, f9, rfl, rfl, (p0.more (by omega)), hna, hns, htz, hcz, j1, j2, j3, j4, j5, hro, hnw⟩⟩, hF⟩

set_option maxHeartbeats 4000000 in
set_option maxRecDepth 100000 in
theorem u_tie (l : Launch) (D : va_G) (sz : Nat) {S : Int} {nw ns : Int32} {tys : List (ClassId × FieldType)} {xo : Nat} {w9 : va_W} (v0 : Int32) (v : Int32) (w : Int32) (h : cST S nw ns tys xo w9) (hSb : 0 ≤ S ∧ S ≤ 400000) (hw0 : w = 0 ∨ w = 1) : Met l yX8_tie wsX8_tie ({ frames := 3, cells := 1, slots := 3, locals := 63 }) (va_Pc [.ref xo, .int v0, .int v, .int w] (wz sz D tys w9)) (cQ (fun r => True) (fun w8 => cST (S + 200) nw ns tys xo w8) D w9 sz) 1 3 (va_A w9 sz) := by
  obtain ⟨ro, tI, cS, pN, a1, a2, a3, a4, a5, a6, a7, a8, a9, e1, e2, e3, e4, e5, e6, e7, e8, e9, na, cp, le, tr, sl, tz, cz, q1, q2, q3, q4, g1, g2, g3, g4, g5, g6, g7, y8, y9, L, K, f, rfl, rfl, hI, hna, hns, htz, hcz, j1, j2, j3, j4, j5, hro, hnw⟩ := h
  refine gq_conseq (c_X8_tie l D sz xo ro tI cS pN a1 a2 a3 a4 a5 a6 a7 a8 a9 e1 e2 e3 e4 e5 e6 e7 e8 e9 na ns nw cp le tr sl tz cz q1 q2 q3 q4 g1 g2 g3 g4 g5 g6 g7 y8 y9 L K f S v0 v w hI hna hns htz hcz j1 j2 j3 j4 j5 hro (by omega) hw0) (fun _ _ q => q) (fun a s o t hp hq => ?_) (fun _ q => q)
  obtain ⟨⟨r, u, h1, h2, L9, K9, f9, tz9, g49, sl9, hB, p0, p1, p2, p3⟩, hF⟩ := hq
  exact ⟨⟨r, u, h1, h2, _, ⟨hB.1, hB.2.2⟩, ⟨ro, tI, cS, pN, a1, a2, a3, a4, a5, a6, a7, a8, a9, e1, e2, e3, e4, e5, e6, e7, e8, e9, na, cp, le, tr, sl9, tz9, cz, q1, q2, q3, q4, g1, g2, g3, g49, g5, g6, g7, y8, y9, L9, K9, f9, rfl, rfl, (p1.more (by omega)), hna, hns, p2, hcz, (j1.up p0), (j2.up p0), (j3.up p0), p3, (j5.up p0), (hro.up p0), hnw⟩⟩, hF⟩

set_option maxHeartbeats 4000000 in
set_option maxRecDepth 100000 in
theorem u_told (l : Launch) (D : va_G) (sz : Nat) {S : Int} {nw ns : Int32} {tys : List (ClassId × FieldType)} {xo : Nat} {w9 : va_W} (v : Int32) (w : Int32) (h : cST S nw ns tys xo w9) (hSb : 0 ≤ S ∧ S ≤ 400000) : Met l yX8_told wsX8_told ({ frames := 7, cells := 0, slots := 0, locals := 149 }) (va_Pc [.ref xo, .int v, .int w] (wz sz D tys w9)) (cQ (fun r => True) (fun w8 => cST (S + 200) nw ns tys xo w8) D w9 sz) 0 0 (va_A w9 sz) := by
  obtain ⟨ro, tI, cS, pN, a1, a2, a3, a4, a5, a6, a7, a8, a9, e1, e2, e3, e4, e5, e6, e7, e8, e9, na, cp, le, tr, sl, tz, cz, q1, q2, q3, q4, g1, g2, g3, g4, g5, g6, g7, y8, y9, L, K, f, rfl, rfl, hI, hna, hns, htz, hcz, j1, j2, j3, j4, j5, hro, hnw⟩ := h
  refine gq_conseq (c_X8_told l D sz xo ro tI cS pN a1 a2 a3 a4 a5 a6 a7 a8 a9 e1 e2 e3 e4 e5 e6 e7 e8 e9 na ns nw cp le tr sl tz cz q1 q2 q3 q4 g1 g2 g3 g4 g5 g6 g7 y8 y9 L K f S v w hI hna hns htz hcz j1 j2 j3 j4 j5 hro (by omega)) (fun _ _ q => q) (fun a s o t hp hq => ?_) (fun _ q => q)
  obtain ⟨⟨r, u, h1, h2, f9, cz9, g59, sl9, hB, p0, p1, p2⟩, hF⟩ := hq
  exact ⟨⟨r, u, h1, h2, _, ⟨hB.1, hB.2.2⟩, ⟨ro, tI, cS, pN, a1, a2, a3, a4, a5, a6, a7, a8, a9, e1, e2, e3, e4, e5, e6, e7, e8, e9, na, cp, le, tr, sl9, tz, cz9, q1, q2, q3, q4, g1, g2, g3, g4, g59, g6, g7, y8, y9, L, K, f9, rfl, rfl, p0, hna, hns, htz, p1, j1, j2, j3, j4, p2, hro, hnw⟩⟩, hF⟩

set_option maxHeartbeats 4000000 in
set_option maxRecDepth 100000 in
theorem u_node (l : Launch) (D : va_G) (sz : Nat) {S : Int} {nw ns : Int32} {tys : List (ClassId × FieldType)} {xo : Nat} {w9 : va_W} (v0 : Int32) (v : Int32) (w : Int32) (h : cST S nw ns tys xo w9) (hSb : 0 ≤ S ∧ S ≤ 400000) : Met l yX8_node wsX8_node ({ frames := 2, cells := 0, slots := 0, locals := 46 }) (va_Pc [.ref xo, .int v0, .int v, .int w] (wz sz D tys w9)) (cQ (fun r => True) (fun w8 => cST (S + 200) nw ns tys xo w8) D w9 sz) 0 0 (va_A w9 sz) := by
  obtain ⟨ro, tI, cS, pN, a1, a2, a3, a4, a5, a6, a7, a8, a9, e1, e2, e3, e4, e5, e6, e7, e8, e9, na, cp, le, tr, sl, tz, cz, q1, q2, q3, q4, g1, g2, g3, g4, g5, g6, g7, y8, y9, L, K, f, rfl, rfl, hI, hna, hns, htz, hcz, j1, j2, j3, j4, j5, hro, hnw⟩ := h
  exact gq_conseq (c_X8_node l D xo ro tI cS pN a1 a2 a3 a4 a5 a6 a7 a8 a9 e1 e2 e3 e4 e5 e6 e7 e8 e9 na ns nw cp le tr sl tz cz q1 q2 q3 q4 g1 g2 g3 g4 g5 g6 g7 y8 y9 L K f S v0 v w hI hna hns htz hcz j1 j2 j3 j4 j5 hro (by omega)) (fun _ _ q => ⟨q.1, q.2.2⟩) (fun a s o t hp hq => cQ.read hp hq ⟨ro, tI, cS, pN, a1, a2, a3, a4, a5, a6, a7, a8, a9, e1, e2, e3, e4, e5, e6, e7, e8, e9, na, cp, le, tr, sl, tz, cz, q1, q2, q3, q4, g1, g2, g3, g4, g5, g6, g7, y8, y9, L, K, f, rfl, rfl, hI.more (by omega), hna, hns, htz, hcz, j1, j2, j3, j4, j5, hro, hnw⟩) (fun _ q => q.elim)

set_option maxHeartbeats 4000000 in
set_option maxRecDepth 100000 in
theorem u_odds (l : Launch) (D : va_G) (sz : Nat) {S : Int} {nw ns : Int32} {tys : List (ClassId × FieldType)} {xo : Nat} {w9 : va_W} (v : Int32) (w : Int32) (h : cST S nw ns tys xo w9) (hSb : 0 ≤ S ∧ S ≤ 400000) : Met l yX8_odds wsX8_odds ({ frames := 2, cells := 0, slots := 0, locals := 42 }) (va_Pc [.ref xo, .int v, .int w] (wz sz D tys w9)) (cQ (fun r => True) (fun w8 => cST (S + 200) nw ns tys xo w8) D w9 sz) 0 0 (va_A w9 sz) := by
  obtain ⟨ro, tI, cS, pN, a1, a2, a3, a4, a5, a6, a7, a8, a9, e1, e2, e3, e4, e5, e6, e7, e8, e9, na, cp, le, tr, sl, tz, cz, q1, q2, q3, q4, g1, g2, g3, g4, g5, g6, g7, y8, y9, L, K, f, rfl, rfl, hI, hna, hns, htz, hcz, j1, j2, j3, j4, j5, hro, hnw⟩ := h
  exact gq_conseq (c_X8_odds l D xo ro tI cS pN a1 a2 a3 a4 a5 a6 a7 a8 a9 e1 e2 e3 e4 e5 e6 e7 e8 e9 na ns nw cp le tr sl tz cz q1 q2 q3 q4 g1 g2 g3 g4 g5 g6 g7 y8 y9 L K f S v w hI hna hns htz hcz j1 j2 j3 j4 j5 hro (by omega)) (fun _ _ q => ⟨q.1, q.2.2⟩) (fun a s o t hp hq => cQ.read hp hq ⟨ro, tI, cS, pN, a1, a2, a3, a4, a5, a6, a7, a8, a9, e1, e2, e3, e4, e5, e6, e7, e8, e9, na, cp, le, tr, sl, tz, cz, q1, q2, q3, q4, g1, g2, g3, g4, g5, g6, g7, y8, y9, L, K, f, rfl, rfl, hI.more (by omega), hna, hns, htz, hcz, j1, j2, j3, j4, j5, hro, hnw⟩) (fun _ q => q.elim)

set_option maxHeartbeats 4000000 in
set_option maxRecDepth 100000 in
theorem u_order (l : Launch) (D : va_G) (sz : Nat) {S : Int} {nw ns : Int32} {tys : List (ClassId × FieldType)} {xo : Nat} {w9 : va_W} (v : Int32) (h : cST S nw ns tys xo w9) (hSb : 0 ≤ S ∧ S ≤ 400000) : Met l yX8_order wsX8_order ({ frames := 6, cells := 0, slots := 0, locals := 128 }) (va_Pc [.ref xo, .int v] (wz sz D tys w9)) (cQ (fun r => True) (fun w8 => cST (S + 200) nw ns tys xo w8) D w9 sz) 0 0 (va_A w9 sz) := by
  obtain ⟨ro, tI, cS, pN, a1, a2, a3, a4, a5, a6, a7, a8, a9, e1, e2, e3, e4, e5, e6, e7, e8, e9, na, cp, le, tr, sl, tz, cz, q1, q2, q3, q4, g1, g2, g3, g4, g5, g6, g7, y8, y9, L, K, f, rfl, rfl, hI, hna, hns, htz, hcz, j1, j2, j3, j4, j5, hro, hnw⟩ := h
  refine gq_conseq (c_X8_order l D sz xo ro tI cS pN a1 a2 a3 a4 a5 a6 a7 a8 a9 e1 e2 e3 e4 e5 e6 e7 e8 e9 na ns nw cp le tr sl tz cz q1 q2 q3 q4 g1 g2 g3 g4 g5 g6 g7 y8 y9 L K f S v hI hna hns htz hcz j1 j2 j3 j4 j5 hro (by omega)) (fun _ _ q => q) (fun a s o t hp hq => ?_) (fun _ q => q)
  obtain ⟨⟨r, u, h1, h2, f9, cz9, g59, sl9, hB, p0, p1, p2⟩, hF⟩ := hq
  exact ⟨⟨r, u, h1, h2, _, ⟨hB.1, hB.2.2⟩, ⟨ro, tI, cS, pN, a1, a2, a3, a4, a5, a6, a7, a8, a9, e1, e2, e3, e4, e5, e6, e7, e8, e9, na, cp, le, tr, sl9, tz, cz9, q1, q2, q3, q4, g1, g2, g3, g4, g59, g6, g7, y8, y9, L, K, f9, rfl, rfl, p0, hna, hns, htz, p1, j1, j2, j3, j4, p2, hro, hnw⟩⟩, hF⟩

set_option maxHeartbeats 4000000 in
set_option maxRecDepth 100000 in
theorem u_caseOf (l : Launch) (D : va_G) (sz : Nat) {S : Int} {nw ns : Int32} {tys : List (ClassId × FieldType)} {xo : Nat} {w9 : va_W} (v : Int32) (w : Int32) (h : cST S nw ns tys xo w9) (hSb : 0 ≤ S ∧ S ≤ 400000) : Met l yX8_caseOf wsX8_caseOf ({ frames := 6, cells := 0, slots := 0, locals := 128 }) (va_Pc [.ref xo, .int v, .int w] (wz sz D tys w9)) (cQ (fun r => True) (fun w8 => cST (S + 200) nw ns tys xo w8) D w9 sz) 0 0 (va_A w9 sz) := by
  obtain ⟨ro, tI, cS, pN, a1, a2, a3, a4, a5, a6, a7, a8, a9, e1, e2, e3, e4, e5, e6, e7, e8, e9, na, cp, le, tr, sl, tz, cz, q1, q2, q3, q4, g1, g2, g3, g4, g5, g6, g7, y8, y9, L, K, f, rfl, rfl, hI, hna, hns, htz, hcz, j1, j2, j3, j4, j5, hro, hnw⟩ := h
  refine gq_conseq (c_X8_caseOf l D sz xo ro tI cS pN a1 a2 a3 a4 a5 a6 a7 a8 a9 e1 e2 e3 e4 e5 e6 e7 e8 e9 na ns nw cp le tr sl tz cz q1 q2 q3 q4 g1 g2 g3 g4 g5 g6 g7 y8 y9 L K f S v w hI hna hns htz hcz j1 j2 j3 j4 j5 hro (by omega)) (fun _ _ q => q) (fun a s o t hp hq => ?_) (fun _ q => q)
  obtain ⟨⟨r, u, h1, h2, f9, cz9, g59, sl9, hB, p0, p1, p2⟩, hF⟩ := hq
  exact ⟨⟨r, u, h1, h2, _, ⟨hB.1, hB.2.2⟩, ⟨ro, tI, cS, pN, a1, a2, a3, a4, a5, a6, a7, a8, a9, e1, e2, e3, e4, e5, e6, e7, e8, e9, na, cp, le, tr, sl9, tz, cz9, q1, q2, q3, q4, g1, g2, g3, g4, g59, g6, g7, y8, y9, L, K, f9, rfl, rfl, p0, hna, hns, htz, p1, j1, j2, j3, j4, p2, hro, hnw⟩⟩, hF⟩

set_option maxHeartbeats 4000000 in
set_option maxRecDepth 100000 in
theorem u_slow (l : Launch) (D : va_G) (sz : Nat) {S : Int} {nw ns : Int32} {tys : List (ClassId × FieldType)} {xo : Nat} {w9 : va_W} (v5 : Int32) (h : cST S nw ns tys xo w9) (hSb : 0 ≤ S ∧ S ≤ 400000) : Met l yX8_slow wsX8_slow ({ frames := 2, cells := 0, slots := 0, locals := 45 }) (va_Pc [.ref xo, .int v5] (wz sz D tys w9)) (cQ (fun r => True) (fun w8 => cST (S + 200) nw ns tys xo w8) D w9 sz) 0 0 (va_A w9 sz) := by
  obtain ⟨ro, tI, cS, pN, a1, a2, a3, a4, a5, a6, a7, a8, a9, e1, e2, e3, e4, e5, e6, e7, e8, e9, na, cp, le, tr, sl, tz, cz, q1, q2, q3, q4, g1, g2, g3, g4, g5, g6, g7, y8, y9, L, K, f, rfl, rfl, hI, hna, hns, htz, hcz, j1, j2, j3, j4, j5, hro, hnw⟩ := h
  exact gq_conseq (c_X8_slow l D xo ro tI cS pN a1 a2 a3 a4 a5 a6 a7 a8 a9 e1 e2 e3 e4 e5 e6 e7 e8 e9 na ns nw cp le tr sl tz cz q1 q2 q3 q4 g1 g2 g3 g4 g5 g6 g7 y8 y9 L K f S v5 hI hna hns htz hcz j1 j2 j3 j4 j5 hro (by omega)) (fun _ _ q => ⟨q.1, q.2.2⟩) (fun a s o t hp hq => cQ.read hp hq ⟨ro, tI, cS, pN, a1, a2, a3, a4, a5, a6, a7, a8, a9, e1, e2, e3, e4, e5, e6, e7, e8, e9, na, cp, le, tr, sl, tz, cz, q1, q2, q3, q4, g1, g2, g3, g4, g5, g6, g7, y8, y9, L, K, f, rfl, rfl, hI.more (by omega), hna, hns, htz, hcz, j1, j2, j3, j4, j5, hro, hnw⟩) (fun _ q => q.elim)

set_option maxHeartbeats 4000000 in
set_option maxRecDepth 100000 in
theorem u_plan (l : Launch) (D : va_G) (sz : Nat) {S : Int} {nw ns : Int32} {tys : List (ClassId × FieldType)} {xo : Nat} {w9 : va_W} (v : Int32) (w : Int32) (h : cST S nw ns tys xo w9) (hSb : 0 ≤ S ∧ S ≤ 400000) : Met l yX8_plan wsX8_plan ({ frames := 6, cells := 0, slots := 0, locals := 128 }) (va_Pc [.ref xo, .int v, .int w] (wz sz D tys w9)) (cQ (fun r => True) (fun w8 => cST (S + 200) nw ns tys xo w8) D w9 sz) 0 0 (va_A w9 sz) := by
  obtain ⟨ro, tI, cS, pN, a1, a2, a3, a4, a5, a6, a7, a8, a9, e1, e2, e3, e4, e5, e6, e7, e8, e9, na, cp, le, tr, sl, tz, cz, q1, q2, q3, q4, g1, g2, g3, g4, g5, g6, g7, y8, y9, L, K, f, rfl, rfl, hI, hna, hns, htz, hcz, j1, j2, j3, j4, j5, hro, hnw⟩ := h
  refine gq_conseq (c_X8_plan l D sz xo ro tI cS pN a1 a2 a3 a4 a5 a6 a7 a8 a9 e1 e2 e3 e4 e5 e6 e7 e8 e9 na ns nw cp le tr sl tz cz q1 q2 q3 q4 g1 g2 g3 g4 g5 g6 g7 y8 y9 L K f S v w hI hna hns htz hcz j1 j2 j3 j4 j5 hro (by omega)) (fun _ _ q => q) (fun a s o t hp hq => ?_) (fun _ q => q)
  obtain ⟨⟨r, u, h1, h2, f9, cz9, g59, sl9, q19, q29, q39, q49, g69, g79, y89, y99, hB, p0, p1, p2⟩, hF⟩ := hq
  exact ⟨⟨r, u, h1, h2, _, ⟨hB.1, hB.2.2⟩, ⟨ro, tI, cS, pN, a1, a2, a3, a4, a5, a6, a7, a8, a9, e1, e2, e3, e4, e5, e6, e7, e8, e9, na, cp, le, tr, sl9, tz, cz9, q19, q29, q39, q49, g1, g2, g3, g4, g59, g69, g79, y89, y99, L, K, f9, rfl, rfl, p0, hna, hns, htz, p1, j1, j2, j3, j4, p2, hro, hnw⟩⟩, hF⟩

set_option maxHeartbeats 4000000 in
set_option maxRecDepth 100000 in
theorem u_worth (l : Launch) (D : va_G) (sz : Nat) {S : Int} {nw ns : Int32} {tys : List (ClassId × FieldType)} {xo : Nat} {w9 : va_W} (v : Int32) (w : Int32) (h : cST S nw ns tys xo w9) (hSb : 0 ≤ S ∧ S ≤ 400000) : Met l yX8_worth wsX8_worth ({ frames := 6, cells := 0, slots := 0, locals := 128 }) (va_Pc [.ref xo, .int v, .int w] (wz sz D tys w9)) (cQ (fun r => True) (fun w8 => cST (S + 200) nw ns tys xo w8) D w9 sz) 0 0 (va_A w9 sz) := by
  obtain ⟨ro, tI, cS, pN, a1, a2, a3, a4, a5, a6, a7, a8, a9, e1, e2, e3, e4, e5, e6, e7, e8, e9, na, cp, le, tr, sl, tz, cz, q1, q2, q3, q4, g1, g2, g3, g4, g5, g6, g7, y8, y9, L, K, f, rfl, rfl, hI, hna, hns, htz, hcz, j1, j2, j3, j4, j5, hro, hnw⟩ := h
  refine gq_conseq (c_X8_worth l D sz xo ro tI cS pN a1 a2 a3 a4 a5 a6 a7 a8 a9 e1 e2 e3 e4 e5 e6 e7 e8 e9 na ns nw cp le tr sl tz cz q1 q2 q3 q4 g1 g2 g3 g4 g5 g6 g7 y8 y9 L K f S v w hI hna hns htz hcz j1 j2 j3 j4 j5 hro (by omega)) (fun _ _ q => q) (fun a s o t hp hq => ?_) (fun _ q => q)
  obtain ⟨⟨r, u, h1, h2, f9, cz9, g59, sl9, q19, q29, q39, q49, g69, g79, y89, y99, hB, p0, p1, p2⟩, hF⟩ := hq
  exact ⟨⟨r, u, h1, h2, _, ⟨hB.1, hB.2.2⟩, ⟨ro, tI, cS, pN, a1, a2, a3, a4, a5, a6, a7, a8, a9, e1, e2, e3, e4, e5, e6, e7, e8, e9, na, cp, le, tr, sl9, tz, cz9, q19, q29, q39, q49, g1, g2, g3, g4, g59, g69, g79, y89, y99, L, K, f9, rfl, rfl, p0, hna, hns, htz, p1, j1, j2, j3, j4, p2, hro, hnw⟩⟩, hF⟩

set_option maxHeartbeats 4000000 in
set_option maxRecDepth 100000 in
theorem u_source (l : Launch) (D : va_G) (sz : Nat) {S : Int} {nw ns : Int32} {tys : List (ClassId × FieldType)} {xo : Nat} {w9 : va_W} (v : Int32) (w : Int32) (h : cST S nw ns tys xo w9) (hSb : 0 ≤ S ∧ S ≤ 400000) : Met l yX8_source wsX8_source ({ frames := 2, cells := 0, slots := 0, locals := 41 }) (va_Pc [.ref xo, .int v, .int w] (wz sz D tys w9)) (cQ (fun r => True) (fun w8 => cST (S + 200) nw ns tys xo w8) D w9 sz) 0 0 (va_A w9 sz) := by
  obtain ⟨ro, tI, cS, pN, a1, a2, a3, a4, a5, a6, a7, a8, a9, e1, e2, e3, e4, e5, e6, e7, e8, e9, na, cp, le, tr, sl, tz, cz, q1, q2, q3, q4, g1, g2, g3, g4, g5, g6, g7, y8, y9, L, K, f, rfl, rfl, hI, hna, hns, htz, hcz, j1, j2, j3, j4, j5, hro, hnw⟩ := h
  exact gq_conseq (c_X8_source l D xo ro tI cS pN a1 a2 a3 a4 a5 a6 a7 a8 a9 e1 e2 e3 e4 e5 e6 e7 e8 e9 na ns nw cp le tr sl tz cz q1 q2 q3 q4 g1 g2 g3 g4 g5 g6 g7 y8 y9 L K f S v w hI hna hns htz hcz j1 j2 j3 j4 j5 hro (by omega)) (fun _ _ q => ⟨q.1, q.2.2⟩) (fun a s o t hp hq => cQ.read hp hq ⟨ro, tI, cS, pN, a1, a2, a3, a4, a5, a6, a7, a8, a9, e1, e2, e3, e4, e5, e6, e7, e8, e9, na, cp, le, tr, sl, tz, cz, q1, q2, q3, q4, g1, g2, g3, g4, g5, g6, g7, y8, y9, L, K, f, rfl, rfl, hI.more (by omega), hna, hns, htz, hcz, j1, j2, j3, j4, j5, hro, hnw⟩) (fun _ q => q.elim)

set_option maxHeartbeats 4000000 in
set_option maxRecDepth 100000 in
theorem u_count (l : Launch) (D : va_G) (sz : Nat) {S : Int} {nw ns : Int32} {tys : List (ClassId × FieldType)} {xo : Nat} {w9 : va_W} (v : Int32) (h : cST S nw ns tys xo w9) (hSb : 0 ≤ S ∧ S ≤ 400000) : Met l yX8_count wsX8_count ({ frames := 6, cells := 0, slots := 0, locals := 128 }) (va_Pc [.ref xo, .int v] (wz sz D tys w9)) (cQ (fun r => True) (fun w8 => cST (S + 200) nw ns tys xo w8) D w9 sz) 0 0 (va_A w9 sz) := by
  obtain ⟨ro, tI, cS, pN, a1, a2, a3, a4, a5, a6, a7, a8, a9, e1, e2, e3, e4, e5, e6, e7, e8, e9, na, cp, le, tr, sl, tz, cz, q1, q2, q3, q4, g1, g2, g3, g4, g5, g6, g7, y8, y9, L, K, f, rfl, rfl, hI, hna, hns, htz, hcz, j1, j2, j3, j4, j5, hro, hnw⟩ := h
  refine gq_conseq (c_X8_count l D sz xo ro tI cS pN a1 a2 a3 a4 a5 a6 a7 a8 a9 e1 e2 e3 e4 e5 e6 e7 e8 e9 na ns nw cp le tr sl tz cz q1 q2 q3 q4 g1 g2 g3 g4 g5 g6 g7 y8 y9 L K f S v hI hna hns htz hcz j1 j2 j3 j4 j5 hro (by omega)) (fun _ _ q => q) (fun a s o t hp hq => ?_) (fun _ q => q)
  obtain ⟨⟨r, u, h1, h2, f9, cz9, g59, sl9, hB, p0, p1, p2⟩, hF⟩ := hq
  exact ⟨⟨r, u, h1, h2, _, ⟨hB.1, hB.2.2⟩, ⟨ro, tI, cS, pN, a1, a2, a3, a4, a5, a6, a7, a8, a9, e1, e2, e3, e4, e5, e6, e7, e8, e9, na, cp, le, tr, sl9, tz, cz9, q1, q2, q3, q4, g1, g2, g3, g4, g59, g6, g7, y8, y9, L, K, f9, rfl, rfl, p0, hna, hns, htz, p1, j1, j2, j3, j4, p2, hro, hnw⟩⟩, hF⟩
