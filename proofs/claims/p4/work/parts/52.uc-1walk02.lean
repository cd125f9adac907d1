set_option maxHeartbeats 4000000 in
set_option maxRecDepth 100000 in
theorem u_verdict (l : Launch) (D : va_G) (sz : Nat) {S : Int} {nw ns : Int32} {tys : List (ClassId × FieldType)} {xo : Nat} {w9 : va_W} (v0 : Int32) (v : Int32) (w : Int32) (h : cST S nw ns tys xo w9) (hSb : 0 ≤ S ∧ S ≤ 400000) : Met l yX8_verdict wsX8_verdict ({ frames := 2, cells := 0, slots := 0, locals := 42 }) (va_Pc [.ref xo, .int v0, .int v, .int w] (wz sz D tys w9)) (cQ (fun r => True) (fun w8 => cST (S + 200) nw ns tys xo w8) D w9 sz) 0 0 (va_A w9 sz) := by
  obtain ⟨ro, tI, cS, pN, a1, a2, a3, a4, a5, a6, a7, a8, a9, e1, e2, e3, e4, e5, e6, e7, e8, e9, na, cp, le, tr, sl, tz, cz, q1, q2, q3, q4, g1, g2, g3, g4, g5, g6, g7, y8, y9, L, K, f, rfl, rfl, hI, hna, hns, htz, hcz, j1, j2, j3, j4, j5, hro, hnw⟩ := h
  refine gq_conseq (c_X8_verdict l D sz xo ro tI cS pN a1 a2 a3 a4 a5 a6 a7 a8 a9 e1 e2 e3 e4 e5 e6 e7 e8 e9 na ns nw cp le tr sl tz cz q1 q2 q3 q4 g1 g2 g3 g4 g5 g6 g7 y8 y9 L K f S v0 v w hI hna hns htz hcz j1 j2 j3 j4 j5 hro (by omega)) (fun _ _ q => q) (fun a s o t hp hq => ?_) (fun _ q => q)
  obtain ⟨⟨r, u, h1, h2, f9, sl9, hB, p0⟩, hF⟩ := hq
  exact ⟨⟨r, u, h1, h2, _, ⟨hB.1, hB.2.2⟩, ⟨ro, tI, cS, pN, a1, a2, a3, a4, a5, a6, a7, a8, a9, e1, e2, e3, e4, e5, e6, e7, e8, e9, na, cp, le, tr, sl9, tz, cz, q1, q2, q3, q4, g1, g2, g3, g4, g5, g6, g7, y8, y9, L, K, f9, rfl, rfl, (p0.more (by omega)), hna, hns, htz, hcz, j1, j2, j3, j4, j5, hro, hnw⟩⟩, hF⟩

set_option maxHeartbeats 4000000 in
set_option maxRecDepth 100000 in
theorem u_tie (l : Launch) (D : va_G) (sz : Nat) {S : Int} {nw ns : Int32} {tys : List (ClassId × FieldType)} {xo : Nat} {w9 : va_W} (v0 : Int32) (v : Int32) (w : Int32) (h : cST S nw ns tys xo w9) (hSb : 0 ≤ S ∧ S ≤ 400000) (hw0 : w = 0 ∨ w = 1) : Met l yX8_tie wsX8_tie ({ frames := 3, cells := 1, slots := 3, locals := 63 }) (va_Pc [.ref xo, .int v0, .int v, .int w] (wz sz D tys w9)) (cQ (fun r => True) (fun w8 => cST (S + 200) nw ns tys xo w8) D w9 sz) 1 3 (va_A w9 sz) := by
  obtain ⟨ro, tI, cS, pN, a1, a2, a3, a4, a5, a6, a7, a8, a9, e1, e2, e3, e4, e5, e6, e7, e8, e9, na, cp, le, tr, sl, tz, cz, q1, q2, q3, q4, g1, g2, g3, g4, g5, g6, g7, y8, y9, L, K, f, rfl, rfl, hI, hna, hns, htz, hcz, j1, j2, j3, j4, j5, hro, hnw⟩ := h
  refine gq_conseq (c_X8_tie l D sz xo ro tI cS pN a1 a2 a3 a4 a5 a6 a7 a8 a9 e1 e2 e3 e4 e5 e6 e7 e8 e9 na ns nw cp le tr sl tz cz q1 q2 q3 q4 g1 g2 g3 g4 g5 g6 g7 y8 y9 L K f S v0 v w hI hna hns htz hcz j1 j2 j3 j4 j5 hro (by omega) hw0) (fun _ _ q => q) (fun a s o t hp hq => ?_) (fun _ q => q)
  obtain ⟨⟨r, u, h1, h2, L9, K9, f9, tz9, g49, sl9, hB, p0, p1, p2, p3⟩, hF⟩ := hq
  exact ⟨⟨r, u, h1, h2, _, ⟨hB.1, hB.2.2⟩, ⟨ro, tI, cS, pN, a1, a2, a3, a4, a5, a6, a7, a8, a9, e1, e2, e3, e4, e5, e6, e7, e8, e9, na, cp, le, tr, sl9, tz9, cz, q1, q2, q3, q4, g1, g2, g3, g49, g5, g6, g7, y8, y9, L9, K9, f9, rfl, rfl, (p1.more (by omega)), hna, hns, p2, hcz, (j1.up p0), (j2.up p0), (j3.up p0), p3, (j5.up p0), (hro.up p0), hnw⟩⟩, hF⟩

set_option maxHeartbeats 4000000 in
set_option maxRecDepth 100000 in
theorem u_told (l : Launch) (D : va_G) (sz : Nat) {S : Int} {nw ns : Int32} {tys : List (ClassId × FieldType)} {xo : Nat} {w9 : va_W} (v : Int32) (w : Int32) (h : cST S nw ns tys xo w9) (hSb : 0 ≤ S ∧ S ≤ 400000) : Met l yX8_told wsX8_told ({ frames := 7, cells := 0, slots := 0, locals := 149 }) (va_Pc [.ref xo, .int v, .int w] (wz sz D tys w9)) (cQ (fun r => True) (fun w8 => cST (S + 200) nw ns tys xo w8) D w9 sz) 0 0 (va_A w9 sz) := by
  obtain ⟨ro, tI, cS, pN, a1, a2, a3, a4, a5, a6, a7, a8, a9, e1, e2, e3, e4, e5, e6, e7, e8, e9, na, cp, le, tr, sl, tz, cz, q1, q2, q3, q4, g1, g2, g3, g4, g5, g6, g7, y8, y9, L, K, f, rfl, rfl, hI, hna, hns, htz, hcz, j1, j2, j3, j4, j5, hro, hnw⟩ := h
  refine gq_conseq (c_X8_told l D sz xo ro tI cS pN a1 a2 a3 a4 a5 a6 a7 a8 a9 e1 e2 e3 e4 e5 e6 e7 e8 e9 na ns nw cp le tr sl tz cz q1 q2 q3 q4 g1 g2 g3 g4 g5 g6 g7 y8 y9 L K f S v w hI hna hns htz hcz j1 j2 j3 j4 j5 hro (by omega)) (fun _ _ q => q) (fun a s o t hp hq => ?_) (fun _ q => q)
  obtain ⟨⟨r, u, h1, h2, f9, cz9, g59, sl9, hB, p0, p1, p2⟩, hF⟩ := hq
  exact ⟨⟨r, u, h1, h2, _, ⟨hB.1, hB.2.2⟩, ⟨ro, tI, cS, pN, a1, a2, a3, a4, a5, a6, a7, a8, a9, e1, e2, e3, e4, e5, e6, e7, e8, e9, na, cp, le, tr, sl9, tz, cz9, q1, q2, q3, q4, g1, g2, g3, g4, g59, g6, g7, y8, y9, L, K, f9, rfl, rfl, p0, hna, hns, htz, p1, j1, j2, j3, j4, p2, hro, hnw⟩⟩, hF⟩
