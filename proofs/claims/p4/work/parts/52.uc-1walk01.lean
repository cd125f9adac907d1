set_option maxHeartbeats 4000000 in
set_option maxRecDepth 100000 in
theorem u_alarm (l : Launch) (D : va_G) (sz : Nat) {S : Int} {nw ns : Int32} {tys : List (ClassId × FieldType)} {xo : Nat} {w9 : va_W} (v1 : Int32) (v2 : Int32) (v3 : Int32) (v4 : Int32) (h : cST S nw ns tys xo w9) (hSb : 0 ≤ S ∧ S ≤ 400000) : Met l yX8_alarm wsX8_alarm ({ frames := 3, cells := 6, slots := 53, locals := 65 }) (va_Pc [.ref xo, .int v1, .int v2, .int v3, .int v4] (wz sz D tys w9)) (cQ (fun r => True) (fun w8 => cST (S + 200) nw ns tys xo w8) D w9 sz) 6 53 (va_A w9 sz) := by
  obtain ⟨ro, tI, cS, pN, a1, a2, a3, a4, a5, a6, a7, a8, a9, e1, e2, e3, e4, e5, e6, e7, e8, e9, na, cp, le, tr, sl, tz, cz, q1, q2, q3, q4, g1, g2, g3, g4, g5, g6, g7, y8, y9, L, K, f, rfl, rfl, hI, hna, hns, htz, hcz, j1, j2, j3, j4, j5, hro, hnw⟩ := h
  refine gq_conseq (c_X8_alarm l D sz xo ro tI cS pN a1 a2 a3 a4 a5 a6 a7 a8 a9 e1 e2 e3 e4 e5 e6 e7 e8 e9 na ns nw cp le tr sl tz cz q1 q2 q3 q4 g1 g2 g3 g4 g5 g6 g7 y8 y9 L K f S v1 v2 v3 v4 hI hna hns htz hcz j1 j2 j3 j4 j5 hro (by omega)) (fun _ _ q => q) (fun a s o t hp hq => ?_) (fun _ q => q)
  obtain ⟨⟨r, u, h1, h2, L9, K9, f9, na9, g19, g29, sl9, hB, p0, p1, p2, p3, p4⟩, hF⟩ := hq
  exact ⟨⟨r, u, h1, h2, _, ⟨hB.1, hB.2.2⟩, ⟨ro, tI, cS, pN, a1, a2, a3, a4, a5, a6, a7, a8, a9, e1, e2, e3, e4, e5, e6, e7, e8, e9, na9, cp, le, tr, sl9, tz, cz, q1, q2, q3, q4, g19, g29, g3, g4, g5, g6, g7, y8, y9, L9, K9, f9, rfl, rfl, (p1.more (by omega)), p2, hns, htz, hcz, p3, p4, (j3.up p0), (j4.up p0), (j5.up p0), (hro.up p0), hnw⟩⟩, hF⟩

set_option maxHeartbeats 4000000 in
set_option maxRecDepth 100000 in
theorem u_silence (l : Launch) (D : va_G) (sz : Nat) {S : Int} {nw ns : Int32} {tys : List (ClassId × FieldType)} {xo : Nat} {w9 : va_W} (v0 : Int32) (v : Int32) (w : Int32) (h : cST S nw ns tys xo w9) (hSb : 0 ≤ S ∧ S ≤ 400000) : Met l yX8_silence wsX8_silence ({ frames := 2, cells := 1, slots := 3, locals := 35 }) (va_Pc [.ref xo, .int v0, .int v, .int w] (wz sz D tys w9)) (cQ (fun r => r = gsA ns v0 v w) (fun w8 => cST (S + 200) nw (gsN ns v0 v w) tys xo w8) D w9 sz) 1 3 (va_A w9 sz) := by
  obtain ⟨ro, tI, cS, pN, a1, a2, a3, a4, a5, a6, a7, a8, a9, e1, e2, e3, e4, e5, e6, e7, e8, e9, na, cp, le, tr, sl, tz, cz, q1, q2, q3, q4, g1, g2, g3, g4, g5, g6, g7, y8, y9, L, K, f, rfl, rfl, hI, hna, hns, htz, hcz, j1, j2, j3, j4, j5, hro, hnw⟩ := h
  refine gq_conseq (c_X8_silence l D sz xo ro tI cS pN a1 a2 a3 a4 a5 a6 a7 a8 a9 e1 e2 e3 e4 e5 e6 e7 e8 e9 na ns nw cp le tr sl tz cz q1 q2 q3 q4 g1 g2 g3 g4 g5 g6 g7 y8 y9 L K f S v0 v w hI hna hns htz hcz j1 j2 j3 j4 j5 hro (by omega)) (fun _ _ q => q) (fun a s o t hp hq => ?_) (fun _ q => q)
  obtain ⟨⟨r, u, h1, h2, L9, K9, f9, ns9, g39, hB, p0, p1, p2, p3, rfl⟩, hF⟩ := hq
  exact ⟨⟨r, u, h1, h2, _, ⟨hB.1, hB.2.2⟩, ⟨ro, tI, cS, pN, a1, a2, a3, a4, a5, a6, a7, a8, a9, e1, e2, e3, e4, e5, e6, e7, e8, e9, na, cp, le, tr, sl, tz, cz, q1, q2, q3, q4, g1, g2, g39, g4, g5, g6, g7, y8, y9, L9, K9, f9, rfl, rfl, (p1.more (by omega)), hna, p2, htz, hcz, (j1.up p0), (j2.up p0), p3, (j4.up p0), (j5.up p0), (hro.up p0), hnw⟩⟩, hF⟩

set_option maxHeartbeats 4000000 in
set_option maxRecDepth 100000 in
theorem u_set (l : Launch) (D : va_G) (sz : Nat) {S : Int} {nw ns : Int32} {tys : List (ClassId × FieldType)} {xo : Nat} {w9 : va_W} (v : Int32) (w : Int32) (h : cST S nw ns tys xo w9) (hSb : 0 ≤ S ∧ S ≤ 400000) : Met l yX8_set wsX8_set ({ frames := 0, cells := 0, slots := 0, locals := 0 }) (va_Pc [.ref xo, .int v, .int w] (wz sz D tys w9)) (cQ (fun r => r = F_set v w) (fun w8 => cST (S + 200) nw ns tys xo w8) D w9 sz) 0 0 (va_A w9 sz) := by
  obtain ⟨ro, tI, cS, pN, a1, a2, a3, a4, a5, a6, a7, a8, a9, e1, e2, e3, e4, e5, e6, e7, e8, e9, na, cp, le, tr, sl, tz, cz, q1, q2, q3, q4, g1, g2, g3, g4, g5, g6, g7, y8, y9, L, K, f, rfl, rfl, hI, hna, hns, htz, hcz, j1, j2, j3, j4, j5, hro, hnw⟩ := h
  refine gq_conseq (c_X8_set l D sz xo ro tI cS pN a1 a2 a3 a4 a5 a6 a7 a8 a9 e1 e2 e3 e4 e5 e6 e7 e8 e9 na ns nw cp le tr sl tz cz q1 q2 q3 q4 g1 g2 g3 g4 g5 g6 g7 y8 y9 L K f S v w hI hna hns htz hcz j1 j2 j3 j4 j5 hro (by omega)) (fun _ _ q => q) (fun a s o t hp hq => ?_) (fun _ q => q)
  obtain ⟨⟨r, u, h1, h2, cp9, le9, tr9, sl9, hB⟩, hF⟩ := hq
  exact ⟨⟨r, u, h1, h2, _, ⟨hB.1, hB.2.2⟩, ⟨ro, tI, cS, pN, a1, a2, a3, a4, a5, a6, a7, a8, a9, e1, e2, e3, e4, e5, e6, e7, e8, e9, na, cp9, le9, tr9, sl9, tz, cz, q1, q2, q3, q4, g1, g2, g3, g4, g5, g6, g7, y8, y9, L, K, f, rfl, rfl, (hI.more (by omega)), hna, hns, htz, hcz, j1, j2, j3, j4, j5, hro, hnw⟩⟩, hF⟩
