set_option maxHeartbeats 4000000 in
set_option maxRecDepth 100000 in
theorem u_caseOf (l : Launch) (D : va_G) (sz : Nat) {S : Int} {az : aS} {tys : List (ClassId × FieldType)} {xo : Nat} {w9 : va_W} (v : Int32) (w : Int32) (h : cST S az tys xo w9) (ok : vOK4 az) (hSb : 0 ≤ S ∧ S ≤ 400000) : Met l yX8_caseOf wsX8_caseOf ({ frames := 6, cells := 0, slots := 0, locals := 128 }) (va_Pc [.ref xo, .int v, .int w] (wz sz D tys w9)) (cQ (fun r => r.toInt = (x_caseOf az v w).1) (fun w8 => cST (S + 200) az tys xo w8) D w9 sz) 0 0 (va_A w9 sz) := by
  obtain ⟨ad, ec, iv, gg, yy, L, K, f, rfl, rfl, hI, hna, hns, htz, hcz, j1, j2, j3, j4, j5, hro, hnw, qnw, qna, qns, qtz, qcp, qle, qtr, hV, hU, hY, hij, hX, htc, hft⟩ := h
  have hsame : ((((iv 1)).toInt.toNat : Nat) : Int) = ((iv 1)).toInt := by omega
  have ok4 := ok
  have ok := ok.1
  have hj9 : jN L K ((iv 1)).toInt.toNat (gg 1) := jN.of j1 (by omega)
  obtain ⟨Nd, hTR, hA9, hS9⟩ := id hX
  have hwo9 : ∀ i : Nat, (i : Int) < ((iv 1)).toInt → 0 ≤ az.2.1 i 5 ∧ az.2.1 i 5 ≤ 100 := fun i hi => ok.1.2 i (by omega)
  have hM : ∀ i j : Nat, i ≤ j → (j : Int) < ((iv 1)).toInt → az.2.1 i 1 ≤ az.2.1 j 1 := fun i j h1 h2 => ok.1.1.2.2.1 i j h1 (by omega)
  have hCm : ∀ i : Nat, (i : Int) < ((iv 1)).toInt → 0 ≤ az.2.1 i 1 ∧ az.2.1 i 1 ≤ 10000 := fun i hi => by have h8 := ok.1.1.2.1 i (by omega); have h9 := ok.1.1.2.2.2.2.1; omega
  have hyo : yOK az.2.2.2 ((iv 1)).toInt.toNat ((iv 8)).toInt.toNat := by rw [qna, qtz]; exact ok.2.2.1
  refine gq_conseq (c_X8_caseOfK l D sz xo (ad 10) (ad 11) (ad 12) (ad 13) (ad 1) (ad 2) (ad 3) (ad 4) (ad 5) (ad 6) (ad 7) (ad 8) (ad 9) (ec 1) (ec 2) (ec 3) (ec 4) (ec 5) (ec 6) (ec 7) (ec 8) (ec 9) (iv 1) (iv 2) (iv 3) (iv 4) (iv 5) (iv 6) (iv 7) (iv 8) (iv 9) (iv 10) (iv 11) (iv 12) (iv 13) (gg 1) (gg 2) (gg 3) (gg 4) (gg 5) (gg 6) (gg 7) (yy 8) (yy 9) L K f S v w az.2.1 az.2.2.2 Nd hI hna hns htz hcz j1 j2 j3 j4 j5 hro (by omega) hj9 hV hY hS9 hTR hA9 hM hCm hwo9 hyo htc hft) (fun _ _ q => q) (fun _ _ _ _ hp hq => ?_) (fun _ q => q)
  obtain ⟨⟨r, u, h1, h2, f9, cz9, g59, sl9, hB, p0, p1, p2, p3, p4, p5⟩, hF⟩ := hq
  exact ⟨⟨r, u, h1, (by unfold x_caseOf; dsimp only; rw [← qna, ← qtz, ← qle]; exact h2), _, ⟨hB.1, hB.2.2⟩, ⟨ad, ec, (va_up (va_up iv 7 sl9) 9 cz9), (va_up gg 5 g59), yy, L, K, f9, rfl, rfl, p0, hna, hns, htz, p1, j1, j2, j3, j4, p2, hro, hnw, qnw, qna, qns, qtz, qcp, qle, qtr, (hV.fr j1 p3 (by decide)), (hU.fr j3 p3 (by decide)), (hY.fr j4 p3 (by decide)), hij, (hX.fr hsame j1 cqG.rf p3 (by decide)), p4, p5⟩⟩, hF⟩

set_option maxHeartbeats 4000000 in
set_option maxRecDepth 100000 in
theorem u_slow (l : Launch) (D : va_G) (sz : Nat) {S : Int} {az : aS} {tys : List (ClassId × FieldType)} {xo : Nat} {w9 : va_W} (v5 : Int32) (h : cST S az tys xo w9) (ok : vOK4 az) (hSb : 0 ≤ S ∧ S ≤ 400000) : Met l yX8_slow wsX8_slow ({ frames := 2, cells := 0, slots := 0, locals := 45 }) (va_Pc [.ref xo, .int v5] (wz sz D tys w9)) (cQ (fun r => r.toInt = (x_slow az v5).1) (fun w8 => cST (S + 200) az tys xo w8) D w9 sz) 0 0 (va_A w9 sz) := by
  obtain ⟨ad, ec, iv, gg, yy, L, K, f, rfl, rfl, hI, hna, hns, htz, hcz, j1, j2, j3, j4, j5, hro, hnw, qnw, qna, qns, qtz, qcp, qle, qtr, hV, hU, hY, hij, hX, htc, hft⟩ := h
  have hsame : ((((iv 1)).toInt.toNat : Nat) : Int) = ((iv 1)).toInt := by omega
  have ok4 := ok
  have ok := ok.1
  have hj9 : jN L K ((iv 1)).toInt.toNat (gg 1) := jN.of j1 (by omega)
  obtain ⟨Nd, hTR, hA9, hS9⟩ := id hX
  have hwo9 : ∀ i : Nat, (i : Int) < ((iv 1)).toInt → 0 ≤ az.2.1 i 5 ∧ az.2.1 i 5 ≤ 100 := fun i hi => ok.1.2 i (by omega)
  have hM : ∀ i j : Nat, i ≤ j → (j : Int) < ((iv 1)).toInt → az.2.1 i 1 ≤ az.2.1 j 1 := fun i j h1 h2 => ok.1.1.2.2.1 i j h1 (by omega)
  have hCm : ∀ i : Nat, (i : Int) < ((iv 1)).toInt → 0 ≤ az.2.1 i 1 ∧ az.2.1 i 1 ≤ 10000 := fun i hi => by have h8 := ok.1.1.2.1 i (by omega); have h9 := ok.1.1.2.2.2.2.1; omega
  exact gq_conseq (c_X8_slowT l D xo (ad 10) (ad 11) (ad 12) (ad 13) (ad 1) (ad 2) (ad 3) (ad 4) (ad 5) (ad 6) (ad 7) (ad 8) (ad 9) (ec 1) (ec 2) (ec 3) (ec 4) (ec 5) (ec 6) (ec 7) (ec 8) (ec 9) (iv 1) (iv 2) (iv 3) (iv 4) (iv 5) (iv 6) (iv 7) (iv 8) (iv 9) (iv 10) (iv 11) (iv 12) (iv 13) (gg 1) (gg 2) (gg 3) (gg 4) (gg 5) (gg 6) (gg 7) (yy 8) (yy 9) L K f S v5 Nd az.2.1 hI hna hns htz hcz j1 j2 j3 j4 j5 hro (by omega) hTR hA9 hS9 hV hCm hM hnw hwo9) (fun _ _ q => ⟨q.1, q.2.2⟩) (fun a9 _ _ _ hp hq => cQ.read (av := a9) hp (by obtain ⟨r, h1, h2, h3⟩ := hq; exact ⟨r, h1, (by unfold x_slow; dsimp only; rw [← qna, ← qle, ← qnw]; exact h2), h3⟩) ⟨ad, ec, iv, gg, yy, L, K, f, rfl, rfl, hI.more (by omega), hna, hns, htz, hcz, j1, j2, j3, j4, j5, hro, hnw, qnw, qna, qns, qtz, qcp, qle, qtr, hV, hU, hY, hij, hX, htc, hft⟩) (fun _ q => q.elim)

set_option maxHeartbeats 4000000 in
set_option maxRecDepth 100000 in
theorem u_plan (l : Launch) (D : va_G) (sz : Nat) {S : Int} {az : aS} {tys : List (ClassId × FieldType)} {xo : Nat} {w9 : va_W} (v : Int32) (w : Int32) (h : cST S az tys xo w9) (ok : vOK4 az) (hSb : 0 ≤ S ∧ S ≤ 400000) : Met l yX8_plan wsX8_plan ({ frames := 6, cells := 0, slots := 0, locals := 128 }) (va_Pc [.ref xo, .int v, .int w] (wz sz D tys w9)) (cQ (fun r => r.toInt = (x_plan az v w).1) (fun w8 => cST (S + 200) az tys xo w8) D w9 sz) 0 0 (va_A w9 sz) := by
  obtain ⟨ad, ec, iv, gg, yy, L, K, f, rfl, rfl, hI, hna, hns, htz, hcz, j1, j2, j3, j4, j5, hro, hnw, qnw, qna, qns, qtz, qcp, qle, qtr, hV, hU, hY, hij, hX, htc, hft⟩ := h
  have hsame : ((((iv 1)).toInt.toNat : Nat) : Int) = ((iv 1)).toInt := by omega
  have ok4 := ok
  have ok := ok.1
  have htr5 : 0 ≤ ((iv 6)).toInt ∧ ((iv 6)).toInt ≤ 5 := by rw [qtr]; exact ok4.2
  have hj9 : jN L K ((iv 1)).toInt.toNat (gg 1) := jN.of j1 (by omega)
  obtain ⟨Nd, hTR, hA9, hS9⟩ := id hX
  have hwo9 : ∀ i : Nat, (i : Int) < ((iv 1)).toInt → 0 ≤ az.2.1 i 5 ∧ az.2.1 i 5 ≤ 100 := fun i hi => ok.1.2 i (by omega)
  have hM : ∀ i j : Nat, i ≤ j → (j : Int) < ((iv 1)).toInt → az.2.1 i 1 ≤ az.2.1 j 1 := fun i j h1 h2 => ok.1.1.2.2.1 i j h1 (by omega)
  have hCm : ∀ i : Nat, (i : Int) < ((iv 1)).toInt → 0 ≤ az.2.1 i 1 ∧ az.2.1 i 1 ≤ 10000 := fun i hi => by have h8 := ok.1.1.2.1 i (by omega); have h9 := ok.1.1.2.2.2.2.1; omega
  have hyo : yOK az.2.2.2 ((iv 1)).toInt.toNat ((iv 8)).toInt.toNat := by rw [qna, qtz]; exact ok.2.2.1
  refine gq_conseq (c_X8_planP l D sz xo (ad 10) (ad 11) (ad 12) (ad 13) (ad 1) (ad 2) (ad 3) (ad 4) (ad 5) (ad 6) (ad 7) (ad 8) (ad 9) (ec 1) (ec 2) (ec 3) (ec 4) (ec 5) (ec 6) (ec 7) (ec 8) (ec 9) (iv 1) (iv 2) (iv 3) (iv 4) (iv 5) (iv 6) (iv 7) (iv 8) (iv 9) (iv 10) (iv 11) (iv 12) (iv 13) (gg 1) (gg 2) (gg 3) (gg 4) (gg 5) (gg 6) (gg 7) (yy 8) (yy 9) L K f S v w az.2.1 az.2.2.2 Nd hI hna hns htz hcz j1 j2 j3 j4 j5 hro (by omega) hj9 hV hY hS9 hTR hA9 hM hCm hwo9 hyo htc hft htr5) (fun _ _ q => q) (fun _ _ _ _ hp hq => ?_) (fun _ q => q)
  obtain ⟨⟨r, u, h1, h2, f9, cz9, g59, sl9, q19, q29, q39, q49, g69, g79, y89, y99, hB, p0, p1, p2, p3, p4, p5⟩, hF⟩ := hq
  exact ⟨⟨r, u, h1, (by unfold x_plan; dsimp only; rw [← qna, ← qtz, ← qle, ← qtr]; exact h2), _, ⟨hB.1, hB.2.2⟩, ⟨ad, ec, (va_up (va_up (va_up (va_up (va_up (va_up iv 7 sl9) 9 cz9) 10 q19) 11 q29) 12 q39) 13 q49), (va_up (va_up (va_up gg 5 g59) 6 g69) 7 g79), (va_up (va_up yy 8 y89) 9 y99), L, K, f9, rfl, rfl, p0, hna, hns, htz, p1, j1, j2, j3, j4, p2, hro, hnw, qnw, qna, qns, qtz, qcp, qle, qtr, (hV.fr j1 p3 (by decide)), (hU.fr j3 p3 (by decide)), (hY.fr j4 p3 (by decide)), hij, (hX.fr hsame j1 cqG.rf p3 (by decide)), p4, p5⟩⟩, hF⟩

set_option maxHeartbeats 4000000 in
set_option maxRecDepth 100000 in
theorem u_worth (l : Launch) (D : va_G) (sz : Nat) {S : Int} {az : aS} {tys : List (ClassId × FieldType)} {xo : Nat} {w9 : va_W} (v : Int32) (w : Int32) (h : cST S az tys xo w9) (ok : vOK4 az) (hSb : 0 ≤ S ∧ S ≤ 400000) : Met l yX8_worth wsX8_worth ({ frames := 6, cells := 0, slots := 0, locals := 128 }) (va_Pc [.ref xo, .int v, .int w] (wz sz D tys w9)) (cQ (fun r => r.toInt = (x_worth az v w).1) (fun w8 => cST (S + 200) az tys xo w8) D w9 sz) 0 0 (va_A w9 sz) := by
  obtain ⟨ad, ec, iv, gg, yy, L, K, f, rfl, rfl, hI, hna, hns, htz, hcz, j1, j2, j3, j4, j5, hro, hnw, qnw, qna, qns, qtz, qcp, qle, qtr, hV, hU, hY, hij, hX, htc, hft⟩ := h
  have hsame : ((((iv 1)).toInt.toNat : Nat) : Int) = ((iv 1)).toInt := by omega
  have ok4 := ok
  have ok := ok.1
  have htr5 : 0 ≤ ((iv 6)).toInt ∧ ((iv 6)).toInt ≤ 5 := by rw [qtr]; exact ok4.2
  have hj9 : jN L K ((iv 1)).toInt.toNat (gg 1) := jN.of j1 (by omega)
  obtain ⟨Nd, hTR, hA9, hS9⟩ := id hX
  have hwo9 : ∀ i : Nat, (i : Int) < ((iv 1)).toInt → 0 ≤ az.2.1 i 5 ∧ az.2.1 i 5 ≤ 100 := fun i hi => ok.1.2 i (by omega)
  have hM : ∀ i j : Nat, i ≤ j → (j : Int) < ((iv 1)).toInt → az.2.1 i 1 ≤ az.2.1 j 1 := fun i j h1 h2 => ok.1.1.2.2.1 i j h1 (by omega)
  have hCm : ∀ i : Nat, (i : Int) < ((iv 1)).toInt → 0 ≤ az.2.1 i 1 ∧ az.2.1 i 1 ≤ 10000 := fun i hi => by have h8 := ok.1.1.2.1 i (by omega); have h9 := ok.1.1.2.2.2.2.1; omega
  have hyo : yOK az.2.2.2 ((iv 1)).toInt.toNat ((iv 8)).toInt.toNat := by rw [qna, qtz]; exact ok.2.2.1
  refine gq_conseq (c_X8_worthP l D sz xo (ad 10) (ad 11) (ad 12) (ad 13) (ad 1) (ad 2) (ad 3) (ad 4) (ad 5) (ad 6) (ad 7) (ad 8) (ad 9) (ec 1) (ec 2) (ec 3) (ec 4) (ec 5) (ec 6) (ec 7) (ec 8) (ec 9) (iv 1) (iv 2) (iv 3) (iv 4) (iv 5) (iv 6) (iv 7) (iv 8) (iv 9) (iv 10) (iv 11) (iv 12) (iv 13) (gg 1) (gg 2) (gg 3) (gg 4) (gg 5) (gg 6) (gg 7) (yy 8) (yy 9) L K f S v w az.2.1 az.2.2.2 Nd hI hna hns htz hcz j1 j2 j3 j4 j5 hro (by omega) hj9 hV hY hS9 hTR hA9 hM hCm hwo9 hyo htc hft htr5) (fun _ _ q => q) (fun _ _ _ _ hp hq => ?_) (fun _ q => q)
  obtain ⟨⟨r, u, h1, h2, f9, cz9, g59, sl9, q19, q29, q39, q49, g69, g79, y89, y99, hB, p0, p1, p2, p3, p4, p5⟩, hF⟩ := hq
  exact ⟨⟨r, u, h1, (by unfold x_worth; dsimp only; rw [← qna, ← qtz, ← qle, ← qtr]; exact h2), _, ⟨hB.1, hB.2.2⟩, ⟨ad, ec, (va_up (va_up (va_up (va_up (va_up (va_up iv 7 sl9) 9 cz9) 10 q19) 11 q29) 12 q39) 13 q49), (va_up (va_up (va_up gg 5 g59) 6 g69) 7 g79), (va_up (va_up yy 8 y89) 9 y99), L, K, f9, rfl, rfl, p0, hna, hns, htz, p1, j1, j2, j3, j4, p2, hro, hnw, qnw, qna, qns, qtz, qcp, qle, qtr, (hV.fr j1 p3 (by decide)), (hU.fr j3 p3 (by decide)), (hY.fr j4 p3 (by decide)), hij, (hX.fr hsame j1 cqG.rf p3 (by decide)), p4, p5⟩⟩, hF⟩

set_option maxHeartbeats 4000000 in
set_option maxRecDepth 100000 in
theorem u_source (l : Launch) (D : va_G) (sz : Nat) {S : Int} {az : aS} {tys : List (ClassId × FieldType)} {xo : Nat} {w9 : va_W} (v : Int32) (w : Int32) (h : cST S az tys xo w9) (ok : vOK4 az) (hSb : 0 ≤ S ∧ S ≤ 400000) : Met l yX8_source wsX8_source ({ frames := 2, cells := 0, slots := 0, locals := 41 }) (va_Pc [.ref xo, .int v, .int w] (wz sz D tys w9)) (cQ (fun r => True) (fun w8 => cST (S + 200) az tys xo w8) D w9 sz) 0 0 (va_A w9 sz) := by
  obtain ⟨ad, ec, iv, gg, yy, L, K, f, rfl, rfl, hI, hna, hns, htz, hcz, j1, j2, j3, j4, j5, hro, hnw, qnw, qna, qns, qtz, qcp, qle, qtr, hV, hU, hY, hij, hX, htc, hft⟩ := h
  have hsame : ((((iv 1)).toInt.toNat : Nat) : Int) = ((iv 1)).toInt := by omega
  have ok4 := ok
  have ok := ok.1
  have hj9 : jN L K ((iv 1)).toInt.toNat (gg 1) := jN.of j1 (by omega)
  exact gq_conseq (c_X8_source l D xo (ad 10) (ad 11) (ad 12) (ad 13) (ad 1) (ad 2) (ad 3) (ad 4) (ad 5) (ad 6) (ad 7) (ad 8) (ad 9) (ec 1) (ec 2) (ec 3) (ec 4) (ec 5) (ec 6) (ec 7) (ec 8) (ec 9) (iv 1) (iv 2) (iv 3) (iv 4) (iv 5) (iv 6) (iv 7) (iv 8) (iv 9) (iv 10) (iv 11) (iv 12) (iv 13) (gg 1) (gg 2) (gg 3) (gg 4) (gg 5) (gg 6) (gg 7) (yy 8) (yy 9) L K f S v w hI hna hns htz hcz j1 j2 j3 j4 j5 hro (by omega)) (fun _ _ q => ⟨q.1, q.2.2⟩) (fun a9 _ _ _ hp hq => cQ.read (av := a9) hp hq ⟨ad, ec, iv, gg, yy, L, K, f, rfl, rfl, hI.more (by omega), hna, hns, htz, hcz, j1, j2, j3, j4, j5, hro, hnw, qnw, qna, qns, qtz, qcp, qle, qtr, hV, hU, hY, hij, hX, htc, hft⟩) (fun _ q => q.elim)
