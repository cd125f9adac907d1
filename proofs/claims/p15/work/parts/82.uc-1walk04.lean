set_option maxHeartbeats 4000000 in
set_option maxRecDepth 100000 in
theorem u_count (l : Launch) (D : va_G) (sz : Nat) {S : Int} {az : aS} {tys : List (ClassId × FieldType)} {xo : Nat} {w9 : va_W} (v : Int32) (h : cST S az tys xo w9) (ok : vOK4 az) (hSb : 0 ≤ S ∧ S ≤ 400000) : Met l yX8_count wsX8_count ({ frames := 6, cells := 0, slots := 0, locals := 128 }) (va_Pc [.ref xo, .int v] (wz sz D tys w9)) (cQ (fun r => r.toInt = (x_count az v).1) (fun w8 => cST (S + 200) az tys xo w8) D w9 sz) 0 0 (va_A w9 sz) := by
  obtain ⟨ad, ec, iv, gg, yy, L, K, f, rfl, rfl, hI, hna, hns, htz, hcz, j1, j2, j3, j4, j5, hro, hnw, qnw, qna, qns, qtz, qcp, qle, qtr, hV, hU, hY, hij, hX, htc, hft⟩ := h
  have hsame : ((((iv 1)).toInt.toNat : Nat) : Int) = ((iv 1)).toInt := by omega
  have ok4 := ok
  have ok := ok.1
  have hj9 : jN L K ((iv 1)).toInt.toNat (gg 1) := jN.of j1 (by omega)
  obtain ⟨Nd, hTR, hA9, hS9⟩ := id hX
  have hwo9 : ∀ i : Nat, (i : Int) < ((iv 1)).toInt → 0 ≤ az.2.1 i 5 ∧ az.2.1 i 5 ≤ 100 := fun i hi => ok.1.2 i (by omega)
  have hM : ∀ i j : Nat, i ≤ j → (j : Int) < ((iv 1)).toInt → az.2.1 i 1 ≤ az.2.1 j 1 := fun i j h1 h2 => ok.1.1.2.2.1 i j h1 (by omega)
  have hCm : ∀ i : Nat, (i : Int) < ((iv 1)).toInt → 0 ≤ az.2.1 i 1 ∧ az.2.1 i 1 ≤ 10000 := fun i hi => by have h8 := ok.1.1.2.1 i (by omega); have h9 := ok.1.1.2.2.2.2.1; omega
  have hyo : yOK az.2.2.2 ((iv 1)).toInt.toNat ((iv 8)).toInt.toNat := by rw [qna, qtz]; exact ok.2.2.1
  refine gq_conseq (c_X8_countK l D sz xo (ad 10) (ad 11) (ad 12) (ad 13) (ad 1) (ad 2) (ad 3) (ad 4) (ad 5) (ad 6) (ad 7) (ad 8) (ad 9) (ec 1) (ec 2) (ec 3) (ec 4) (ec 5) (ec 6) (ec 7) (ec 8) (ec 9) (iv 1) (iv 2) (iv 3) (iv 4) (iv 5) (iv 6) (iv 7) (iv 8) (iv 9) (iv 10) (iv 11) (iv 12) (iv 13) (gg 1) (gg 2) (gg 3) (gg 4) (gg 5) (gg 6) (gg 7) (yy 8) (yy 9) L K f S v az.2.1 az.2.2.2 Nd hI hna hns htz hcz j1 j2 j3 j4 j5 hro (by omega) hj9 hV hY hS9 hTR hA9 hM hCm hwo9 hyo htc hft) (fun _ _ q => q) (fun _ _ _ _ hp hq => ?_) (fun _ q => q)
  obtain ⟨⟨r, u, h1, h2, f9, cz9, g59, sl9, hB, p0, p1, p2, p3, p4, p5⟩, hF⟩ := hq
  exact ⟨⟨r, u, h1, (by unfold x_count; dsimp only; rw [← qna, ← qtz, ← qle, ← qnw, ← qns]; exact h2), _, ⟨hB.1, hB.2.2⟩, ⟨ad, ec, (va_up (va_up iv 7 sl9) 9 cz9), (va_up gg 5 g59), yy, L, K, f9, rfl, rfl, p0, hna, hns, htz, p1, j1, j2, j3, j4, p2, hro, hnw, qnw, qna, qns, qtz, qcp, qle, qtr, (hV.fr j1 p3 (by decide)), (hU.fr j3 p3 (by decide)), (hY.fr j4 p3 (by decide)), hij, (hX.fr hsame j1 cqG.rf p3 (by decide)), p4, p5⟩⟩, hF⟩
