set_option maxHeartbeats 4000000 in
set_option maxRecDepth 100000 in
theorem u_tie (l : Launch) (D : va_G) (sz : Nat) {S : Int} {az : aS} {tys : List (ClassId × FieldType)} {xo : Nat} {w9 : va_W} (v0 : Int32) (v : Int32) (w : Int32) (h : cST S az tys xo w9) (ok : vOK4 az) (hSb : 0 ≤ S ∧ S ≤ 400000) (hw0 : w = 0 ∨ w = 1) : Met l yX8_tie wsX8_tie ({ frames := 3, cells := 1, slots := 3, locals := 63 }) (va_Pc [.ref xo, .int v0, .int v, .int w] (wz sz D tys w9)) (cQ (fun r => r.toInt = (x_tie az v0 v w).1) (fun w8 => cST (S + 200) (x_tie az v0 v w).2 tys xo w8) D w9 sz) 1 3 (va_A w9 sz) := by
  obtain ⟨ad, ec, iv, gg, yy, L, K, f, rfl, rfl, hI, hna, hns, htz, hcz, j1, j2, j3, j4, j5, hro, hnw, qnw, qna, qns, qtz, qcp, qle, qtr, hV, hU, hY, hij, hX, htc, hft⟩ := h
  have hsame : ((((iv 1)).toInt.toNat : Nat) : Int) = ((iv 1)).toInt := by omega
  have ok4 := ok
  have ok := ok.1
  have hj9 : jN L K ((iv 1)).toInt.toNat (gg 1) := jN.of j1 (by omega)
  refine gq_conseq (c_X8_tieK l D sz xo (ad 10) (ad 11) (ad 12) (ad 13) (ad 1) (ad 2) (ad 3) (ad 4) (ad 5) (ad 6) (ad 7) (ad 8) (ad 9) (ec 1) (ec 2) (ec 3) (ec 4) (ec 5) (ec 6) (ec 7) (ec 8) (ec 9) (iv 1) (iv 2) (iv 3) (iv 4) (iv 5) (iv 6) (iv 7) (iv 8) (iv 9) (iv 10) (iv 11) (iv 12) (iv 13) (gg 1) (gg 2) (gg 3) (gg 4) (gg 5) (gg 6) (gg 7) (yy 8) (yy 9) L K f S v0 v w az.2.1 az.2.2.2 hI hna hns htz hcz j1 j2 j3 j4 j5 hro (by omega) hw0 hY hij htc hft) (fun _ _ q => q) (fun _ _ _ _ hp hq => ?_) (fun _ q => q)
  obtain ⟨⟨r, u, h1, h2, L9, K9, f9, tz9, g49, sl9, hB, p0, p1, p2, p3, p4, p5, p6, p7, p8, p9⟩, hF⟩ := hq
  exact ⟨⟨r, u, h1, (by unfold x_tie; dsimp only; rw [← qna, ← qtz]; exact h2), _, ⟨hB.1, hB.2.2⟩, ⟨ad, ec, (va_up (va_up iv 7 sl9) 8 tz9), (va_up gg 4 g49), yy, L9, K9, f9, rfl, rfl, (p1.more (by omega)), hna, hns, p2, hcz, (j1.up p0), (j2.up p0), (j3.up p0), p3, (j5.up p0), (hro.up p0), hnw, (show ((iv 3)).toInt = (x_tie az v0 v w).2.1 0 from (by unfold x_tie; dsimp only; rw [va_up_ne (k := 3) (j := 0) _ _ (by decide)]; exact qnw)), (show ((iv 1)).toInt = (x_tie az v0 v w).2.1 1 from (by unfold x_tie; dsimp only; rw [va_up_ne (k := 3) (j := 1) _ _ (by decide)]; exact qna)), (show ((iv 2)).toInt = (x_tie az v0 v w).2.1 2 from (by unfold x_tie; dsimp only; rw [va_up_ne (k := 3) (j := 2) _ _ (by decide)]; exact qns)), (show (tz9).toInt = (x_tie az v0 v w).2.1 3 from (by unfold x_tie; dsimp only; rw [va_up_self, ← qna, ← qtz]; exact p5)), (show ((iv 4)).toInt = (x_tie az v0 v w).2.1 4 from (by unfold x_tie; dsimp only; rw [va_up_ne (k := 3) (j := 4) _ _ (by decide)]; exact qcp)), (show ((iv 5)).toInt = (x_tie az v0 v w).2.1 5 from (by unfold x_tie; dsimp only; rw [va_up_ne (k := 3) (j := 5) _ _ (by decide)]; exact qle)), (show ((iv 6)).toInt = (x_tie az v0 v w).2.1 6 from (by unfold x_tie; dsimp only; rw [va_up_ne (k := 3) (j := 6) _ _ (by decide)]; exact qtr)), (hV.fr j1 p4 (by decide)), (hU.fr j3 p4 (by decide)), (show cqW f9 g49 (tz9).toInt (x_tie az v0 v w).2.2.2.2 from (by unfold x_tie; dsimp only; rw [← qna, ← qtz]; exact p6)), p7, (hX.fr hsame j1 p0 p4 (by decide)), p8, (show (sl9).toInt = 0 → kFit (x_tie az v0 v w).2.2.1 (x_tie az v0 v w).2.2.2.2 ((iv 1)).toInt.toNat (tz9).toInt.toNat ((iv 5)).toInt f9 (gg 1) (gg 5) ((iv 9)).toInt.toNat from (by unfold x_tie; dsimp only; rw [← qna, ← qtz]; exact p9))⟩⟩, hF⟩

set_option maxHeartbeats 4000000 in
set_option maxRecDepth 100000 in
theorem u_told (l : Launch) (D : va_G) (sz : Nat) {S : Int} {az : aS} {tys : List (ClassId × FieldType)} {xo : Nat} {w9 : va_W} (v : Int32) (w : Int32) (h : cST S az tys xo w9) (ok : vOK4 az) (hSb : 0 ≤ S ∧ S ≤ 400000) : Met l yX8_told wsX8_told ({ frames := 7, cells := 0, slots := 0, locals := 149 }) (va_Pc [.ref xo, .int v, .int w] (wz sz D tys w9)) (cQ (fun r => r.toInt = (x_told az v w).1) (fun w8 => cST (S + 200) az tys xo w8) D w9 sz) 0 0 (va_A w9 sz) := by
  obtain ⟨ad, ec, iv, gg, yy, L, K, f, rfl, rfl, hI, hna, hns, htz, hcz, j1, j2, j3, j4, j5, hro, hnw, qnw, qna, qns, qtz, qcp, qle, qtr, hV, hU, hY, hij, hX, htc, hft⟩ := h
  have hsame : ((((iv 1)).toInt.toNat : Nat) : Int) = ((iv 1)).toInt := by omega
  have ok4 := ok
  have ok := ok.1
  have hj9 : jN L K ((iv 1)).toInt.toNat (gg 1) := jN.of j1 (by omega)
  obtain ⟨Nd, hTR, hA9, hS9⟩ := id hX
  have hwo9 : ∀ i : Nat, (i : Int) < ((iv 1)).toInt → 0 ≤ az.2.1 i 5 ∧ az.2.1 i 5 ≤ 100 := fun i hi => ok.1.2 i (by omega)
  have hM : ∀ i j : Nat, i ≤ j → (j : Int) < ((iv 1)).toInt → az.2.1 i 1 ≤ az.2.1 j 1 := fun i j h1 h2 => ok.1.1.2.2.1 i j h1 (by omega)
  have hCm : ∀ i : Nat, (i : Int) < ((iv 1)).toInt → 0 ≤ az.2.1 i 1 ∧ az.2.1 i 1 ≤ 10000 := fun i hi => by have h8 := ok.1.1.2.1 i (by omega); have h9 := ok.1.1.2.2.2.2.1; omega
  have hyo : yOK az.2.2.2 ((iv 1)).toInt.toNat ((iv 8)).toInt.toNat := by rw [qna, qtz]; exact ok.2.2.1
  refine gq_conseq (c_X8_toldK l D sz xo (ad 10) (ad 11) (ad 12) (ad 13) (ad 1) (ad 2) (ad 3) (ad 4) (ad 5) (ad 6) (ad 7) (ad 8) (ad 9) (ec 1) (ec 2) (ec 3) (ec 4) (ec 5) (ec 6) (ec 7) (ec 8) (ec 9) (iv 1) (iv 2) (iv 3) (iv 4) (iv 5) (iv 6) (iv 7) (iv 8) (iv 9) (iv 10) (iv 11) (iv 12) (iv 13) (gg 1) (gg 2) (gg 3) (gg 4) (gg 5) (gg 6) (gg 7) (yy 8) (yy 9) L K f S v w az.2.1 az.2.2.2 Nd hI hna hns htz hcz j1 j2 j3 j4 j5 hro (by omega) hj9 hV hY hS9 hTR hA9 hM hCm hwo9 hyo htc hft) (fun _ _ q => q) (fun _ _ _ _ hp hq => ?_) (fun _ q => q)
  obtain ⟨⟨r, u, h1, h2, f9, cz9, g59, sl9, hB, p0, p1, p2, p3, p4, p5⟩, hF⟩ := hq
  exact ⟨⟨r, u, h1, (by unfold x_told; dsimp only; rw [← qna, ← qtz, ← qle]; exact h2), _, ⟨hB.1, hB.2.2⟩, ⟨ad, ec, (va_up (va_up iv 7 sl9) 9 cz9), (va_up gg 5 g59), yy, L, K, f9, rfl, rfl, p0, hna, hns, htz, p1, j1, j2, j3, j4, p2, hro, hnw, qnw, qna, qns, qtz, qcp, qle, qtr, (hV.fr j1 p3 (by decide)), (hU.fr j3 p3 (by decide)), (hY.fr j4 p3 (by decide)), hij, (hX.fr hsame j1 cqG.rf p3 (by decide)), p4, p5⟩⟩, hF⟩

set_option maxHeartbeats 4000000 in
set_option maxRecDepth 100000 in
theorem u_node (l : Launch) (D : va_G) (sz : Nat) {S : Int} {az : aS} {tys : List (ClassId × FieldType)} {xo : Nat} {w9 : va_W} (v0 : Int32) (v : Int32) (w : Int32) (h : cST S az tys xo w9) (ok : vOK4 az) (hSb : 0 ≤ S ∧ S ≤ 400000) : Met l yX8_node wsX8_node ({ frames := 2, cells := 0, slots := 0, locals := 46 }) (va_Pc [.ref xo, .int v0, .int v, .int w] (wz sz D tys w9)) (cQ (fun r => r.toInt = (x_node az v0 v w).1) (fun w8 => cST (S + 200) az tys xo w8) D w9 sz) 0 0 (va_A w9 sz) := by
  obtain ⟨ad, ec, iv, gg, yy, L, K, f, rfl, rfl, hI, hna, hns, htz, hcz, j1, j2, j3, j4, j5, hro, hnw, qnw, qna, qns, qtz, qcp, qle, qtr, hV, hU, hY, hij, hX, htc, hft⟩ := h
  have hsame : ((((iv 1)).toInt.toNat : Nat) : Int) = ((iv 1)).toInt := by omega
  have ok4 := ok
  have ok := ok.1
  have hj9 : jN L K ((iv 1)).toInt.toNat (gg 1) := jN.of j1 (by omega)
  obtain ⟨Nd, hTR, hA9, hS9⟩ := id hX
  have hE := tX.empty hTR hA9 hsame j1
  exact gq_conseq (c_X8_nodeT l D xo (ad 10) (ad 11) (ad 12) (ad 13) (ad 1) (ad 2) (ad 3) (ad 4) (ad 5) (ad 6) (ad 7) (ad 8) (ad 9) (ec 1) (ec 2) (ec 3) (ec 4) (ec 5) (ec 6) (ec 7) (ec 8) (ec 9) (iv 1) (iv 2) (iv 3) (iv 4) (iv 5) (iv 6) (iv 7) (iv 8) (iv 9) (iv 10) (iv 11) (iv 12) (iv 13) (gg 1) (gg 2) (gg 3) (gg 4) (gg 5) (gg 6) (gg 7) (yy 8) (yy 9) L K f S v0 v w Nd az.2.1 hI hna hns htz hcz j1 j2 j3 j4 j5 hro (by omega) hTR hE) (fun _ _ q => ⟨q.1, q.2.2⟩) (fun a9 _ _ _ hp hq => cQ.read (av := a9) hp (by obtain ⟨r, h1, h2, h3⟩ := hq; exact ⟨r, h1, (by unfold x_node; dsimp only; rw [← qna]; exact h2), h3⟩) ⟨ad, ec, iv, gg, yy, L, K, f, rfl, rfl, hI.more (by omega), hna, hns, htz, hcz, j1, j2, j3, j4, j5, hro, hnw, qnw, qna, qns, qtz, qcp, qle, qtr, hV, hU, hY, hij, hX, htc, hft⟩) (fun _ q => q.elim)

set_option maxHeartbeats 4000000 in
set_option maxRecDepth 100000 in
theorem u_odds (l : Launch) (D : va_G) (sz : Nat) {S : Int} {az : aS} {tys : List (ClassId × FieldType)} {xo : Nat} {w9 : va_W} (v : Int32) (w : Int32) (h : cST S az tys xo w9) (ok : vOK4 az) (hSb : 0 ≤ S ∧ S ≤ 400000) : Met l yX8_odds wsX8_odds ({ frames := 2, cells := 0, slots := 0, locals := 42 }) (va_Pc [.ref xo, .int v, .int w] (wz sz D tys w9)) (cQ (fun r => r.toInt = (x_odds az v w).1) (fun w8 => cST (S + 200) az tys xo w8) D w9 sz) 0 0 (va_A w9 sz) := by
  obtain ⟨ad, ec, iv, gg, yy, L, K, f, rfl, rfl, hI, hna, hns, htz, hcz, j1, j2, j3, j4, j5, hro, hnw, qnw, qna, qns, qtz, qcp, qle, qtr, hV, hU, hY, hij, hX, htc, hft⟩ := h
  have hsame : ((((iv 1)).toInt.toNat : Nat) : Int) = ((iv 1)).toInt := by omega
  have ok4 := ok
  have ok := ok.1
  have hj9 : jN L K ((iv 1)).toInt.toNat (gg 1) := jN.of j1 (by omega)
  obtain ⟨Nd, hTR, hA9, hS9⟩ := id hX
  exact gq_conseq (c_X8_oddsT l D xo (ad 10) (ad 11) (ad 12) (ad 13) (ad 1) (ad 2) (ad 3) (ad 4) (ad 5) (ad 6) (ad 7) (ad 8) (ad 9) (ec 1) (ec 2) (ec 3) (ec 4) (ec 5) (ec 6) (ec 7) (ec 8) (ec 9) (iv 1) (iv 2) (iv 3) (iv 4) (iv 5) (iv 6) (iv 7) (iv 8) (iv 9) (iv 10) (iv 11) (iv 12) (iv 13) (gg 1) (gg 2) (gg 3) (gg 4) (gg 5) (gg 6) (gg 7) (yy 8) (yy 9) L K f S v w Nd az.2.1 hI hna hns htz hcz j1 j2 j3 j4 j5 hro (by omega) hTR hA9 hV) (fun _ _ q => ⟨q.1, q.2.2⟩) (fun a9 _ _ _ hp hq => cQ.read (av := a9) hp (by obtain ⟨r, h1, h2, h3⟩ := hq; exact ⟨r, h1, (by unfold x_odds; dsimp only; rw [← qna, ← qle]; exact h2), h3⟩) ⟨ad, ec, iv, gg, yy, L, K, f, rfl, rfl, hI.more (by omega), hna, hns, htz, hcz, j1, j2, j3, j4, j5, hro, hnw, qnw, qna, qns, qtz, qcp, qle, qtr, hV, hU, hY, hij, hX, htc, hft⟩) (fun _ q => q.elim)

set_option maxHeartbeats 4000000 in
set_option maxRecDepth 100000 in
theorem u_order (l : Launch) (D : va_G) (sz : Nat) {S : Int} {az : aS} {tys : List (ClassId × FieldType)} {xo : Nat} {w9 : va_W} (v : Int32) (h : cST S az tys xo w9) (ok : vOK4 az) (hSb : 0 ≤ S ∧ S ≤ 400000) : Met l yX8_order wsX8_order ({ frames := 6, cells := 0, slots := 0, locals := 128 }) (va_Pc [.ref xo, .int v] (wz sz D tys w9)) (cQ (fun r => r.toInt = (x_order az v).1) (fun w8 => cST (S + 200) az tys xo w8) D w9 sz) 0 0 (va_A w9 sz) := by
  obtain ⟨ad, ec, iv, gg, yy, L, K, f, rfl, rfl, hI, hna, hns, htz, hcz, j1, j2, j3, j4, j5, hro, hnw, qnw, qna, qns, qtz, qcp, qle, qtr, hV, hU, hY, hij, hX, htc, hft⟩ := h
  have hsame : ((((iv 1)).toInt.toNat : Nat) : Int) = ((iv 1)).toInt := by omega
  have ok4 := ok
  have ok := ok.1
  have hj9 : jN L K ((iv 1)).toInt.toNat (gg 1) := jN.of j1 (by omega)
  obtain ⟨Nd, hTR, hA9, hS9⟩ := id hX
  have hwo9 : ∀ i : Nat, (i : Int) < ((iv 1)).toInt → 0 ≤ az.2.1 i 5 ∧ az.2.1 i 5 ≤ 100 := fun i hi => ok.1.2 i (by omega)
  have hM : ∀ i j : Nat, i ≤ j → (j : Int) < ((iv 1)).toInt → az.2.1 i 1 ≤ az.2.1 j 1 := fun i j h1 h2 => ok.1.1.2.2.1 i j h1 (by omega)
  have hCm : ∀ i : Nat, (i : Int) < ((iv 1)).toInt → 0 ≤ az.2.1 i 1 ∧ az.2.1 i 1 ≤ 10000 := fun i hi => by have h8 := ok.1.1.2.1 i (by omega); have h9 := ok.1.1.2.2.2.2.1; omega
  have hyo : yOK az.2.2.2 ((iv 1)).toInt.toNat ((iv 8)).toInt.toNat := by rw [qna, qtz]; exact ok.2.2.1
  refine gq_conseq (c_X8_orderK l D sz xo (ad 10) (ad 11) (ad 12) (ad 13) (ad 1) (ad 2) (ad 3) (ad 4) (ad 5) (ad 6) (ad 7) (ad 8) (ad 9) (ec 1) (ec 2) (ec 3) (ec 4) (ec 5) (ec 6) (ec 7) (ec 8) (ec 9) (iv 1) (iv 2) (iv 3) (iv 4) (iv 5) (iv 6) (iv 7) (iv 8) (iv 9) (iv 10) (iv 11) (iv 12) (iv 13) (gg 1) (gg 2) (gg 3) (gg 4) (gg 5) (gg 6) (gg 7) (yy 8) (yy 9) L K f S v az.2.1 az.2.2.2 Nd hI hna hns htz hcz j1 j2 j3 j4 j5 hro (by omega) hj9 hV hY hS9 hTR hA9 hM hCm hwo9 hyo htc hft) (fun _ _ q => q) (fun _ _ _ _ hp hq => ?_) (fun _ q => q)
  obtain ⟨⟨r, u, h1, h2, f9, cz9, g59, sl9, hB, p0, p1, p2, p3, p4, p5⟩, hF⟩ := hq
  exact ⟨⟨r, u, h1, (by unfold x_order; dsimp only; rw [← qna, ← qtz, ← qle]; exact h2), _, ⟨hB.1, hB.2.2⟩, ⟨ad, ec, (va_up (va_up iv 7 sl9) 9 cz9), (va_up gg 5 g59), yy, L, K, f9, rfl, rfl, p0, hna, hns, htz, p1, j1, j2, j3, j4, p2, hro, hnw, qnw, qna, qns, qtz, qcp, qle, qtr, (hV.fr j1 p3 (by decide)), (hU.fr j3 p3 (by decide)), (hY.fr j4 p3 (by decide)), hij, (hX.fr hsame j1 cqG.rf p3 (by decide)), p4, p5⟩⟩, hF⟩
