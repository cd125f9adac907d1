section BR
variable {p : Program} {l : Launch} {e : Env} {R : Room} {s : State} {m : MethodId} {args : Array Value} {below : List Frame} {meth : Method} {c : Code} {H : Heap} {locs : List Loc} {cells slots : Nat} {Q : State → Prop} {pc : Nat} {ls : Array Slot} {rest : List Value} {cc : ByteArray}
theorem bi_eq (hexec : p.tables.exec = Jvm.exec) (hb : c.code = cc) {x y : Int32} {zx zy : Int} {off : Int} {tgt : Nat} (hdg : decode cc pc = .ok (.if_icmp .eq off, 3)) (ht : (pc : Int) + off = (tgt : Int)) (ex : x.toInt = zx) (ey : y.toInt = zy) (kt : zx = zy → W p l e R s m args below meth c H locs cells slots Q (F0 m tgt ls rest)) (kf : ¬ (zx = zy) → W p l e R s m args below meth c H locs cells slots Q (F0 m (pc + 3) ls rest)) : W p l e R s m args below meth c H locs cells slots Q (F0 m pc ls (.int y :: .int x :: rest)) := by
  subst ex; subst ey
  have hi : (x = y) ↔ (x.toInt = y.toInt) := Int32.toInt_inj.symm
  exact lv_icmp_eq hexec hb hdg ht (fun h => kt (hi.mp h)) (fun h => kf (fun q => h (hi.mpr q)))
theorem bi_ne (hexec : p.tables.exec = Jvm.exec) (hb : c.code = cc) {x y : Int32} {zx zy : Int} {off : Int} {tgt : Nat} (hdg : decode cc pc = .ok (.if_icmp .ne off, 3)) (ht : (pc : Int) + off = (tgt : Int)) (ex : x.toInt = zx) (ey : y.toInt = zy) (kt : ¬ zx = zy → W p l e R s m args below meth c H locs cells slots Q (F0 m tgt ls rest)) (kf : zx = zy → W p l e R s m args below meth c H locs cells slots Q (F0 m (pc + 3) ls rest)) : W p l e R s m args below meth c H locs cells slots Q (F0 m pc ls (.int y :: .int x :: rest)) := by
  subst ex; subst ey
  have hi : (¬ x = y) ↔ (¬ x.toInt = y.toInt) := not_congr Int32.toInt_inj.symm
  exact lv_icmp_ne hexec hb hdg ht (fun h => kt (hi.mp h)) (fun h => kf (Int32.toInt_inj.mpr h))
theorem bi_lt (hexec : p.tables.exec = Jvm.exec) (hb : c.code = cc) {x y : Int32} {zx zy : Int} {off : Int} {tgt : Nat} (hdg : decode cc pc = .ok (.if_icmp .lt off, 3)) (ht : (pc : Int) + off = (tgt : Int)) (ex : x.toInt = zx) (ey : y.toInt = zy) (kt : zx < zy → W p l e R s m args below meth c H locs cells slots Q (F0 m tgt ls rest)) (kf : ¬ (zx < zy) → W p l e R s m args below meth c H locs cells slots Q (F0 m (pc + 3) ls rest)) : W p l e R s m args below meth c H locs cells slots Q (F0 m pc ls (.int y :: .int x :: rest)) := by
  subst ex; subst ey
  have hi : (x < y) ↔ (x.toInt < y.toInt) := Int32.lt_iff_toInt_lt
  exact lv_icmp_lt hexec hb hdg ht (fun h => kt (hi.mp h)) (fun h => kf (fun q => h (hi.mpr q)))
theorem bi_ge (hexec : p.tables.exec = Jvm.exec) (hb : c.code = cc) {x y : Int32} {zx zy : Int} {off : Int} {tgt : Nat} (hdg : decode cc pc = .ok (.if_icmp .ge off, 3)) (ht : (pc : Int) + off = (tgt : Int)) (ex : x.toInt = zx) (ey : y.toInt = zy) (kt : zy ≤ zx → W p l e R s m args below meth c H locs cells slots Q (F0 m tgt ls rest)) (kf : ¬ (zy ≤ zx) → W p l e R s m args below meth c H locs cells slots Q (F0 m (pc + 3) ls rest)) : W p l e R s m args below meth c H locs cells slots Q (F0 m pc ls (.int y :: .int x :: rest)) := by
  subst ex; subst ey
  have hi : (y ≤ x) ↔ (y.toInt ≤ x.toInt) := Int32.le_iff_toInt_le
  exact lv_icmp_ge hexec hb hdg ht (fun h => kt (hi.mp h)) (fun h => kf (fun q => h (hi.mpr q)))
theorem bi_gt (hexec : p.tables.exec = Jvm.exec) (hb : c.code = cc) {x y : Int32} {zx zy : Int} {off : Int} {tgt : Nat} (hdg : decode cc pc = .ok (.if_icmp .gt off, 3)) (ht : (pc : Int) + off = (tgt : Int)) (ex : x.toInt = zx) (ey : y.toInt = zy) (kt : zy < zx → W p l e R s m args below meth c H locs cells slots Q (F0 m tgt ls rest)) (kf : ¬ (zy < zx) → W p l e R s m args below meth c H locs cells slots Q (F0 m (pc + 3) ls rest)) : W p l e R s m args below meth c H locs cells slots Q (F0 m pc ls (.int y :: .int x :: rest)) := by
  subst ex; subst ey
  have hi : (y < x) ↔ (y.toInt < x.toInt) := Int32.lt_iff_toInt_lt
  exact lv_icmp_gt hexec hb hdg ht (fun h => kt (hi.mp h)) (fun h => kf (fun q => h (hi.mpr q)))
theorem bi_le (hexec : p.tables.exec = Jvm.exec) (hb : c.code = cc) {x y : Int32} {zx zy : Int} {off : Int} {tgt : Nat} (hdg : decode cc pc = .ok (.if_icmp .le off, 3)) (ht : (pc : Int) + off = (tgt : Int)) (ex : x.toInt = zx) (ey : y.toInt = zy) (kt : zx ≤ zy → W p l e R s m args below meth c H locs cells slots Q (F0 m tgt ls rest)) (kf : ¬ (zx ≤ zy) → W p l e R s m args below meth c H locs cells slots Q (F0 m (pc + 3) ls rest)) : W p l e R s m args below meth c H locs cells slots Q (F0 m pc ls (.int y :: .int x :: rest)) := by
  subst ex; subst ey
  have hi : (x ≤ y) ↔ (x.toInt ≤ y.toInt) := Int32.le_iff_toInt_le
  exact lv_icmp_le hexec hb hdg ht (fun h => kt (hi.mp h)) (fun h => kf (fun q => h (hi.mpr q)))
theorem bz_eq (hexec : p.tables.exec = Jvm.exec) (hb : c.code = cc) {x : Int32} {zx : Int} {off : Int} {tgt : Nat} (hdg : decode cc pc = .ok (.ifCond .eq off, 3)) (ht : (pc : Int) + off = (tgt : Int)) (ex : x.toInt = zx) (kt : zx = 0 → W p l e R s m args below meth c H locs cells slots Q (F0 m tgt ls rest)) (kf : ¬ (zx = 0) → W p l e R s m args below meth c H locs cells slots Q (F0 m (pc + 3) ls rest)) : W p l e R s m args below meth c H locs cells slots Q (F0 m pc ls (.int x :: rest)) := by
  subst ex
  have hi : (x = 0) ↔ (x.toInt = 0) := Int32.toInt_inj.symm
  exact lv_if_eq hexec hb hdg ht (fun h => kt (hi.mp h)) (fun h => kf (fun q => h (hi.mpr q)))
theorem bz_ne (hexec : p.tables.exec = Jvm.exec) (hb : c.code = cc) {x : Int32} {zx : Int} {off : Int} {tgt : Nat} (hdg : decode cc pc = .ok (.ifCond .ne off, 3)) (ht : (pc : Int) + off = (tgt : Int)) (ex : x.toInt = zx) (kt : ¬ zx = 0 → W p l e R s m args below meth c H locs cells slots Q (F0 m tgt ls rest)) (kf : zx = 0 → W p l e R s m args below meth c H locs cells slots Q (F0 m (pc + 3) ls rest)) : W p l e R s m args below meth c H locs cells slots Q (F0 m pc ls (.int x :: rest)) := by
  subst ex
  have hi : (¬ x = 0) ↔ (¬ x.toInt = 0) := not_congr Int32.toInt_inj.symm
  exact lv_if_ne hexec hb hdg ht (fun h => kt (hi.mp h)) (fun h => kf (Int32.toInt_inj.mpr h))
theorem bz_lt (hexec : p.tables.exec = Jvm.exec) (hb : c.code = cc) {x : Int32} {zx : Int} {off : Int} {tgt : Nat} (hdg : decode cc pc = .ok (.ifCond .lt off, 3)) (ht : (pc : Int) + off = (tgt : Int)) (ex : x.toInt = zx) (kt : zx < 0 → W p l e R s m args below meth c H locs cells slots Q (F0 m tgt ls rest)) (kf : ¬ (zx < 0) → W p l e R s m args below meth c H locs cells slots Q (F0 m (pc + 3) ls rest)) : W p l e R s m args below meth c H locs cells slots Q (F0 m pc ls (.int x :: rest)) := by
  subst ex
  have hi : (x < 0) ↔ (x.toInt < 0) := Int32.lt_iff_toInt_lt
  exact lv_if_lt hexec hb hdg ht (fun h => kt (hi.mp h)) (fun h => kf (fun q => h (hi.mpr q)))
theorem bz_ge (hexec : p.tables.exec = Jvm.exec) (hb : c.code = cc) {x : Int32} {zx : Int} {off : Int} {tgt : Nat} (hdg : decode cc pc = .ok (.ifCond .ge off, 3)) (ht : (pc : Int) + off = (tgt : Int)) (ex : x.toInt = zx) (kt : 0 ≤ zx → W p l e R s m args below meth c H locs cells slots Q (F0 m tgt ls rest)) (kf : ¬ (0 ≤ zx) → W p l e R s m args below meth c H locs cells slots Q (F0 m (pc + 3) ls rest)) : W p l e R s m args below meth c H locs cells slots Q (F0 m pc ls (.int x :: rest)) := by
  subst ex
  have hi : (0 ≤ x) ↔ (0 ≤ x.toInt) := Int32.le_iff_toInt_le
  exact lv_if_ge hexec hb hdg ht (fun h => kt (hi.mp h)) (fun h => kf (fun q => h (hi.mpr q)))
theorem bz_gt (hexec : p.tables.exec = Jvm.exec) (hb : c.code = cc) {x : Int32} {zx : Int} {off : Int} {tgt : Nat} (hdg : decode cc pc = .ok (.ifCond .gt off, 3)) (ht : (pc : Int) + off = (tgt : Int)) (ex : x.toInt = zx) (kt : 0 < zx → W p l e R s m args below meth c H locs cells slots Q (F0 m tgt ls rest)) (kf : ¬ (0 < zx) → W p l e R s m args below meth c H locs cells slots Q (F0 m (pc + 3) ls rest)) : W p l e R s m args below meth c H locs cells slots Q (F0 m pc ls (.int x :: rest)) := by
  subst ex
  have hi : (0 < x) ↔ (0 < x.toInt) := Int32.lt_iff_toInt_lt
  exact lv_if_gt hexec hb hdg ht (fun h => kt (hi.mp h)) (fun h => kf (fun q => h (hi.mpr q)))
theorem bz_le (hexec : p.tables.exec = Jvm.exec) (hb : c.code = cc) {x : Int32} {zx : Int} {off : Int} {tgt : Nat} (hdg : decode cc pc = .ok (.ifCond .le off, 3)) (ht : (pc : Int) + off = (tgt : Int)) (ex : x.toInt = zx) (kt : zx ≤ 0 → W p l e R s m args below meth c H locs cells slots Q (F0 m tgt ls rest)) (kf : ¬ (zx ≤ 0) → W p l e R s m args below meth c H locs cells slots Q (F0 m (pc + 3) ls rest)) : W p l e R s m args below meth c H locs cells slots Q (F0 m pc ls (.int x :: rest)) := by
  subst ex
  have hi : (x ≤ 0) ↔ (x.toInt ≤ 0) := Int32.le_iff_toInt_le
  exact lv_if_le hexec hb hdg ht (fun h => kt (hi.mp h)) (fun h => kf (fun q => h (hi.mpr q)))
end BR
theorem mx0 {y : Int32} (h : 0 ≤ y.toInt) : (if (0 : Int32) < y then y else 0) = y := by
  by_cases q : (0 : Int32) < y
  · exact if_pos q
  · rw [if_neg q]
    have h2 : ¬ (0 : Int32).toInt < y.toInt := fun a => q (Int32.lt_iff_toInt_lt.mpr a)
    have h3 : (0 : Int32).toInt = 0 := by decide
    exact Int32.toInt_inj.mp (by omega)
theorem mn_eq {x y : Int32} {z : Int} (h : x.toInt ≤ z) (hz : y.toInt = z) : (if y < x then y else x) = x := by
  refine if_neg (fun q => ?_)
  have h2 := Int32.lt_iff_toInt_lt.mp q
  omega
theorem dfX0 : ∀ j, j < 17 → defaultValue (tyX0 j) = vp_V [.int 0, .int 0, .int 0, .int 0, .int 0, .int 0, .null, .null, .int 0, .int 0, .int 0, .int 0, .int 0, .int 0, .int 0, .null, .null] j := by
  intro j hj
  match j, hj with
  | 0, _ => rfl
  | 1, _ => rfl
  | 2, _ => rfl
  | 3, _ => rfl
  | 4, _ => rfl
  | 5, _ => rfl
  | 6, _ => rfl
  | 7, _ => rfl
  | 8, _ => rfl
  | 9, _ => rfl
  | 10, _ => rfl
  | 11, _ => rfl
  | 12, _ => rfl
  | 13, _ => rfl
  | 14, _ => rfl
  | 15, _ => rfl
  | 16, _ => rfl
  | n + 17, h => exact absurd h (by omega)
theorem dfX1 : ∀ j, j < 4 → defaultValue (tyX1 j) = vp_V [.int 0, .int 0, .int 0, .int 0] j := by
  intro j hj
  match j, hj with
  | 0, _ => rfl
  | 1, _ => rfl
  | 2, _ => rfl
  | 3, _ => rfl
  | n + 4, h => exact absurd h (by omega)
theorem dfX2 : ∀ j, j < 2 → defaultValue (tyX2 j) = vp_V [.null, .int 0] j := by
  intro j hj
  match j, hj with
  | 0, _ => rfl
  | 1, _ => rfl
  | n + 2, h => exact absurd h (by omega)
theorem dfX3 : ∀ j, j < 8 → defaultValue (tyX3 j) = vp_V [.null, .int 0, .int 0, .null, .null, .int 0, .int 0, .int 0] j := by
  intro j hj
  match j, hj with
  | 0, _ => rfl
  | 1, _ => rfl
  | 2, _ => rfl
  | 3, _ => rfl
  | 4, _ => rfl
  | 5, _ => rfl
  | 6, _ => rfl
  | 7, _ => rfl
  | n + 8, h => exact absurd h (by omega)
theorem dfX4 : ∀ j, j < 3 → defaultValue (tyX4 j) = vp_V [.int 0, .int 0, .int 0] j := by
  intro j hj
  match j, hj with
  | 0, _ => rfl
  | 1, _ => rfl
  | 2, _ => rfl
  | n + 3, h => exact absurd h (by omega)
theorem dfX5 : ∀ j, j < 8 → defaultValue (tyX5 j) = vp_V [.null, .null, .null, .null, .int 0, .int 0, .int 0, .int 0] j := by
  intro j hj
  match j, hj with
  | 0, _ => rfl
  | 1, _ => rfl
  | 2, _ => rfl
  | 3, _ => rfl
  | 4, _ => rfl
  | 5, _ => rfl
  | 6, _ => rfl
  | 7, _ => rfl
  | n + 8, h => exact absurd h (by omega)
theorem dfX6 : ∀ j, j < 3 → defaultValue (tyX6 j) = vp_V [.int 0, .int 0, .int 0] j := by
  intro j hj
  match j, hj with
  | 0, _ => rfl
  | 1, _ => rfl
  | 2, _ => rfl
  | n + 3, h => exact absurd h (by omega)
theorem dfX7 : ∀ j, j < 2 → defaultValue (tyX7 j) = vp_V [.null, .int 0] j := by
  intro j hj
  match j, hj with
  | 0, _ => rfl
  | 1, _ => rfl
  | n + 2, h => exact absurd h (by omega)
theorem dfX8 : ∀ j, j < 14 → defaultValue (tyX8 j) = vp_V [.null, .null, .null, .null, .null, .null, .null, .int 0, .int 0, .int 0, .int 0, .int 0, .int 0, .int 0] j := by
  intro j hj
  match j, hj with
  | 0, _ => rfl
  | 1, _ => rfl
  | 2, _ => rfl
  | 3, _ => rfl
  | 4, _ => rfl
  | 5, _ => rfl
  | 6, _ => rfl
  | 7, _ => rfl
  | 8, _ => rfl
  | 9, _ => rfl
  | 10, _ => rfl
  | 11, _ => rfl
  | 12, _ => rfl
  | 13, _ => rfl
  | n + 14, h => exact absurd h (by omega)
theorem dfX9 : ∀ j, j < 37 → defaultValue (tyX9 j) = vp_V [.int 0, .int 0, .int 0, .int 0, .int 0, .int 0, .int 0, .null, .null, .null, .null, .null, .null, .null, .null, .null, .null, .null, .null, .null, .null, .null, .null, .null, .null, .int 0, .int 0, .int 0, .null, .null, .null, .int 0, .null, .null, .int 0, .null, .null] j := by
  intro j hj
  match j, hj with
  | 0, _ => rfl
  | 1, _ => rfl
  | 2, _ => rfl
  | 3, _ => rfl
  | 4, _ => rfl
  | 5, _ => rfl
  | 6, _ => rfl
  | 7, _ => rfl
  | 8, _ => rfl
  | 9, _ => rfl
  | 10, _ => rfl
  | 11, _ => rfl
  | 12, _ => rfl
  | 13, _ => rfl
  | 14, _ => rfl
  | 15, _ => rfl
  | 16, _ => rfl
  | 17, _ => rfl
  | 18, _ => rfl
  | 19, _ => rfl
  | 20, _ => rfl
  | 21, _ => rfl
  | 22, _ => rfl
  | 23, _ => rfl
  | 24, _ => rfl
  | 25, _ => rfl
  | 26, _ => rfl
  | 27, _ => rfl
  | 28, _ => rfl
  | 29, _ => rfl
  | 30, _ => rfl
  | 31, _ => rfl
  | 32, _ => rfl
  | 33, _ => rfl
  | 34, _ => rfl
  | 35, _ => rfl
  | 36, _ => rfl
  | n + 37, h => exact absurd h (by omega)
