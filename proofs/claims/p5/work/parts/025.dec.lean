/-- bytes at a place -/
def bk1 (c : ByteArray) (p : Nat) (x : UInt8) : Bool := match c.data.toList.drop p with
  | a :: _ => a == x
  | _ => false
def bk2 (c : ByteArray) (p : Nat) (x y : UInt8) : Bool := match c.data.toList.drop p with
  | a :: b :: _ => a == x && b == y
  | _ => false
def bk3 (c : ByteArray) (p : Nat) (x y z : UInt8) : Bool := match c.data.toList.drop p with
  | a :: b :: d :: _ => a == x && (b == y && d == z)
  | _ => false
theorem bk_at {c : ByteArray} {p k : Nat} {l : List UInt8} {x : UInt8} (h : c.data.toList.drop p = l) (hx : l[k]? = some x) : c.data.toList[p + k]? = some x := by
  rw [← List.getElem?_drop, h]; exact hx
theorem bk1_at {c : ByteArray} {p : Nat} {x : UInt8} (h : bk1 c p x = true) : c.data.toList[p]? = some x := by
  unfold bk1 at h
  split at h
  · rename_i a t e
    rw [← eq_of_beq h]
    exact bk_at (k := 0) e rfl
  · cases h
theorem bk2_at {c : ByteArray} {p : Nat} {x y : UInt8} (h : bk2 c p x y = true) : c.data.toList[p]? = some x ∧ c.data.toList[p + 1]? = some y := by
  unfold bk2 at h
  split at h
  · rename_i a b t e
    have h := Bool.and_eq_true_iff.mp h
    rw [← eq_of_beq h.1, ← eq_of_beq h.2]
    exact ⟨bk_at (k := 0) e rfl, bk_at (k := 1) e rfl⟩
  · cases h
theorem bk3_at {c : ByteArray} {p : Nat} {x y z : UInt8} (h : bk3 c p x y z = true) : c.data.toList[p]? = some x ∧ c.data.toList[p + 1]? = some y ∧ c.data.toList[p + 2]? = some z := by
  unfold bk3 at h
  split at h
  · rename_i a b d t e
    have h := Bool.and_eq_true_iff.mp h
    have h2 := Bool.and_eq_true_iff.mp h.2
    rw [← eq_of_beq h.1, ← eq_of_beq h2.1, ← eq_of_beq h2.2]
    exact ⟨bk_at (k := 0) e rfl, bk_at (k := 1) e rfl, bk_at (k := 2) e rfl⟩
  · cases h
theorem du1 {c : ByteArray} {p : Nat} {b : UInt8} (h : c.data.toList[p]? = some b) : (Jvm.ClassFile.Reader.u1 : Jvm.ClassFile.Decoder Nat) c p = .ok (b.toNat, p + 1) := by
  obtain ⟨hp, hb⟩ := List.getElem?_eq_some_iff.mp h
  have hp2 : p < c.size := hp
  have hb2 : c[p] = b := hb
  unfold Jvm.ClassFile.Reader.u1
  show (dite (p < c.size) (fun h => (do set (p + 1); pure c[p].toNat : Jvm.ClassFile.Decoder Nat)) (fun _ => throw (Jvm.ClassFile.HasTruncated.truncated p))) c p = _
  rw [dif_pos hp2, hb2]
  rfl
theorem rbind {α β : Type} {m : Jvm.ClassFile.Decoder α} {k : α → Jvm.ClassFile.Decoder β} {c : ByteArray} {p p' : Nat} {a : α} (h : m c p = .ok (a, p')) : (m >>= k) c p = k a c p' := by
  show Except.bind (m c p) _ = _
  rw [h]
  rfl
theorem du2 {c : ByteArray} {p : Nat} {a b : UInt8} (h : c.data.toList[p]? = some a) (h2 : c.data.toList[p + 1]? = some b) : (Jvm.ClassFile.Reader.u2 : Jvm.ClassFile.Decoder Nat) c p = .ok (a.toNat * 256 + b.toNat, p + 2) := by
  show ((Jvm.ClassFile.Reader.u1 : Jvm.ClassFile.Decoder Nat) >>= fun hi => Jvm.ClassFile.Reader.u1 >>= fun lo => pure (hi * 256 + lo)) c p = _
  rw [rbind (du1 h), rbind (du1 h2)]
  rfl
theorem ds1 {c : ByteArray} {p : Nat} {a : UInt8} (h : c.data.toList[p]? = some a) : (Jvm.ClassFile.Reader.s1 : Jvm.ClassFile.Decoder Int) c p = .ok (Jvm.ClassFile.Reader.signed 8 a.toNat, p + 1) := by
  show Except.map _ ((Jvm.ClassFile.Reader.u1 : Jvm.ClassFile.Decoder Nat) c p) = _
  rw [du1 h]
  rfl
theorem ds2 {c : ByteArray} {p : Nat} {a b : UInt8} (h : c.data.toList[p]? = some a) (h2 : c.data.toList[p + 1]? = some b) : (Jvm.ClassFile.Reader.s2 : Jvm.ClassFile.Decoder Int) c p = .ok (Jvm.ClassFile.Reader.signed 16 (a.toNat * 256 + b.toNat), p + 2) := by
  show Except.map _ ((Jvm.ClassFile.Reader.u2 : Jvm.ClassFile.Decoder Nat) c p) = _
  rw [du2 h h2]
  rfl
theorem dec_of {c : ByteArray} {p n : Nat} {i : Jvm.ClassFile.Instr} (h : Jvm.ClassFile.Decoder.instr p c p = .ok (i, p + n)) : Jvm.ClassFile.decode c p = .ok (i, n) := by
  show Except.bind (Jvm.ClassFile.Decoder.instr p c p) _ = _
  rw [h]
  show Except.ok (i, p + n - p) = _
  rw [Nat.add_sub_cancel_left]
theorem dc1 {c : ByteArray} {p : Nat} (h : bk1 c p 1 = true) : Jvm.ClassFile.decode c p = .ok (.aconst_null, 1) := by
  have h0 := bk1_at h
  refine dec_of ?_
  refine (rbind (m := Jvm.ClassFile.Reader.u1) (du1 h0)).trans ?_
  rfl
theorem dc2 {c : ByteArray} {p : Nat} (h : bk1 c p 2 = true) : Jvm.ClassFile.decode c p = .ok (.iconst (-1), 1) := by
  have h0 := bk1_at h
  refine dec_of ?_
  refine (rbind (m := Jvm.ClassFile.Reader.u1) (du1 h0)).trans ?_
  rfl
theorem dc3 {c : ByteArray} {p : Nat} (h : bk1 c p 3 = true) : Jvm.ClassFile.decode c p = .ok (.iconst 0, 1) := by
  have h0 := bk1_at h
  refine dec_of ?_
  refine (rbind (m := Jvm.ClassFile.Reader.u1) (du1 h0)).trans ?_
  rfl
theorem dc4 {c : ByteArray} {p : Nat} (h : bk1 c p 4 = true) : Jvm.ClassFile.decode c p = .ok (.iconst 1, 1) := by
  have h0 := bk1_at h
  refine dec_of ?_
  refine (rbind (m := Jvm.ClassFile.Reader.u1) (du1 h0)).trans ?_
  rfl
theorem dc5 {c : ByteArray} {p : Nat} (h : bk1 c p 5 = true) : Jvm.ClassFile.decode c p = .ok (.iconst 2, 1) := by
  have h0 := bk1_at h
  refine dec_of ?_
  refine (rbind (m := Jvm.ClassFile.Reader.u1) (du1 h0)).trans ?_
  rfl
theorem dc6 {c : ByteArray} {p : Nat} (h : bk1 c p 6 = true) : Jvm.ClassFile.decode c p = .ok (.iconst 3, 1) := by
  have h0 := bk1_at h
  refine dec_of ?_
  refine (rbind (m := Jvm.ClassFile.Reader.u1) (du1 h0)).trans ?_
  rfl
theorem dc7 {c : ByteArray} {p : Nat} (h : bk1 c p 7 = true) : Jvm.ClassFile.decode c p = .ok (.iconst 4, 1) := by
  have h0 := bk1_at h
  refine dec_of ?_
  refine (rbind (m := Jvm.ClassFile.Reader.u1) (du1 h0)).trans ?_
  rfl
theorem dc8 {c : ByteArray} {p : Nat} (h : bk1 c p 8 = true) : Jvm.ClassFile.decode c p = .ok (.iconst 5, 1) := by
  have h0 := bk1_at h
  refine dec_of ?_
  refine (rbind (m := Jvm.ClassFile.Reader.u1) (du1 h0)).trans ?_
  rfl
theorem dc16 {c : ByteArray} {p : Nat} (x1 : UInt8) (h : bk2 c p 16 x1 = true) {sv : Int} (hv : Jvm.ClassFile.Reader.signed 8 x1.toNat = sv) : Jvm.ClassFile.decode c p = .ok (.bipush sv, 2) := by
  obtain ⟨h0, h1⟩ := bk2_at h
  subst hv
  refine dec_of ?_
  refine (rbind (m := Jvm.ClassFile.Reader.u1) (du1 h0)).trans ?_
  exact (rbind (m := Jvm.ClassFile.Reader.s1) (ds1 h1)).trans rfl
theorem dc17 {c : ByteArray} {p : Nat} (x1 : UInt8) (x2 : UInt8) (h : bk3 c p 17 x1 x2 = true) {sv : Int} (hv : Jvm.ClassFile.Reader.signed 16 (x1.toNat * 256 + x2.toNat) = sv) : Jvm.ClassFile.decode c p = .ok (.sipush sv, 3) := by
  obtain ⟨h0, h1, h2⟩ := bk3_at h
  subst hv
  refine dec_of ?_
  refine (rbind (m := Jvm.ClassFile.Reader.u1) (du1 h0)).trans ?_
  exact (rbind (m := Jvm.ClassFile.Reader.s2) (ds2 h1 h2)).trans rfl
theorem dc19 {c : ByteArray} {p : Nat} (x1 : UInt8) (x2 : UInt8) (h : bk3 c p 19 x1 x2 = true) : Jvm.ClassFile.decode c p = .ok (.ldc_w (x1.toNat * 256 + x2.toNat), 3) := by
  obtain ⟨h0, h1, h2⟩ := bk3_at h
  refine dec_of ?_
  refine (rbind (m := Jvm.ClassFile.Reader.u1) (du1 h0)).trans ?_
  exact (rbind (m := Jvm.ClassFile.Reader.u2) (du2 h1 h2)).trans rfl
theorem dc21 {c : ByteArray} {p : Nat} (x1 : UInt8) (h : bk2 c p 21 x1 = true) : Jvm.ClassFile.decode c p = .ok (.iload x1.toNat, 2) := by
  obtain ⟨h0, h1⟩ := bk2_at h
  refine dec_of ?_
  refine (rbind (m := Jvm.ClassFile.Reader.u1) (du1 h0)).trans ?_
  exact (rbind (m := Jvm.ClassFile.Reader.u1) (du1 h1)).trans rfl
theorem dc25 {c : ByteArray} {p : Nat} (x1 : UInt8) (h : bk2 c p 25 x1 = true) : Jvm.ClassFile.decode c p = .ok (.aload x1.toNat, 2) := by
  obtain ⟨h0, h1⟩ := bk2_at h
  refine dec_of ?_
  refine (rbind (m := Jvm.ClassFile.Reader.u1) (du1 h0)).trans ?_
  exact (rbind (m := Jvm.ClassFile.Reader.u1) (du1 h1)).trans rfl
theorem dc26 {c : ByteArray} {p : Nat} (h : bk1 c p 26 = true) : Jvm.ClassFile.decode c p = .ok (.iload_n 0, 1) := by
  have h0 := bk1_at h
  refine dec_of ?_
  refine (rbind (m := Jvm.ClassFile.Reader.u1) (du1 h0)).trans ?_
  rfl
theorem dc27 {c : ByteArray} {p : Nat} (h : bk1 c p 27 = true) : Jvm.ClassFile.decode c p = .ok (.iload_n 1, 1) := by
  have h0 := bk1_at h
  refine dec_of ?_
  refine (rbind (m := Jvm.ClassFile.Reader.u1) (du1 h0)).trans ?_
  rfl
theorem dc28 {c : ByteArray} {p : Nat} (h : bk1 c p 28 = true) : Jvm.ClassFile.decode c p = .ok (.iload_n 2, 1) := by
  have h0 := bk1_at h
  refine dec_of ?_
  refine (rbind (m := Jvm.ClassFile.Reader.u1) (du1 h0)).trans ?_
  rfl
theorem dc29 {c : ByteArray} {p : Nat} (h : bk1 c p 29 = true) : Jvm.ClassFile.decode c p = .ok (.iload_n 3, 1) := by
  have h0 := bk1_at h
  refine dec_of ?_
  refine (rbind (m := Jvm.ClassFile.Reader.u1) (du1 h0)).trans ?_
  rfl
theorem dc42 {c : ByteArray} {p : Nat} (h : bk1 c p 42 = true) : Jvm.ClassFile.decode c p = .ok (.aload_n 0, 1) := by
  have h0 := bk1_at h
  refine dec_of ?_
  refine (rbind (m := Jvm.ClassFile.Reader.u1) (du1 h0)).trans ?_
  rfl
theorem dc43 {c : ByteArray} {p : Nat} (h : bk1 c p 43 = true) : Jvm.ClassFile.decode c p = .ok (.aload_n 1, 1) := by
  have h0 := bk1_at h
  refine dec_of ?_
  refine (rbind (m := Jvm.ClassFile.Reader.u1) (du1 h0)).trans ?_
  rfl
theorem dc44 {c : ByteArray} {p : Nat} (h : bk1 c p 44 = true) : Jvm.ClassFile.decode c p = .ok (.aload_n 2, 1) := by
  have h0 := bk1_at h
  refine dec_of ?_
  refine (rbind (m := Jvm.ClassFile.Reader.u1) (du1 h0)).trans ?_
  rfl
theorem dc45 {c : ByteArray} {p : Nat} (h : bk1 c p 45 = true) : Jvm.ClassFile.decode c p = .ok (.aload_n 3, 1) := by
  have h0 := bk1_at h
  refine dec_of ?_
  refine (rbind (m := Jvm.ClassFile.Reader.u1) (du1 h0)).trans ?_
  rfl
theorem dc46 {c : ByteArray} {p : Nat} (h : bk1 c p 46 = true) : Jvm.ClassFile.decode c p = .ok (.iaload, 1) := by
  have h0 := bk1_at h
  refine dec_of ?_
  refine (rbind (m := Jvm.ClassFile.Reader.u1) (du1 h0)).trans ?_
  rfl
theorem dc50 {c : ByteArray} {p : Nat} (h : bk1 c p 50 = true) : Jvm.ClassFile.decode c p = .ok (.aaload, 1) := by
  have h0 := bk1_at h
  refine dec_of ?_
  refine (rbind (m := Jvm.ClassFile.Reader.u1) (du1 h0)).trans ?_
  rfl
theorem dc51 {c : ByteArray} {p : Nat} (h : bk1 c p 51 = true) : Jvm.ClassFile.decode c p = .ok (.baload, 1) := by
  have h0 := bk1_at h
  refine dec_of ?_
  refine (rbind (m := Jvm.ClassFile.Reader.u1) (du1 h0)).trans ?_
  rfl
theorem dc54 {c : ByteArray} {p : Nat} (x1 : UInt8) (h : bk2 c p 54 x1 = true) : Jvm.ClassFile.decode c p = .ok (.istore x1.toNat, 2) := by
  obtain ⟨h0, h1⟩ := bk2_at h
  refine dec_of ?_
  refine (rbind (m := Jvm.ClassFile.Reader.u1) (du1 h0)).trans ?_
  exact (rbind (m := Jvm.ClassFile.Reader.u1) (du1 h1)).trans rfl
theorem dc58 {c : ByteArray} {p : Nat} (x1 : UInt8) (h : bk2 c p 58 x1 = true) : Jvm.ClassFile.decode c p = .ok (.astore x1.toNat, 2) := by
  obtain ⟨h0, h1⟩ := bk2_at h
  refine dec_of ?_
  refine (rbind (m := Jvm.ClassFile.Reader.u1) (du1 h0)).trans ?_
  exact (rbind (m := Jvm.ClassFile.Reader.u1) (du1 h1)).trans rfl
theorem dc59 {c : ByteArray} {p : Nat} (h : bk1 c p 59 = true) : Jvm.ClassFile.decode c p = .ok (.istore_n 0, 1) := by
  have h0 := bk1_at h
  refine dec_of ?_
  refine (rbind (m := Jvm.ClassFile.Reader.u1) (du1 h0)).trans ?_
  rfl
theorem dc60 {c : ByteArray} {p : Nat} (h : bk1 c p 60 = true) : Jvm.ClassFile.decode c p = .ok (.istore_n 1, 1) := by
  have h0 := bk1_at h
  refine dec_of ?_
  refine (rbind (m := Jvm.ClassFile.Reader.u1) (du1 h0)).trans ?_
  rfl
theorem dc61 {c : ByteArray} {p : Nat} (h : bk1 c p 61 = true) : Jvm.ClassFile.decode c p = .ok (.istore_n 2, 1) := by
  have h0 := bk1_at h
  refine dec_of ?_
  refine (rbind (m := Jvm.ClassFile.Reader.u1) (du1 h0)).trans ?_
  rfl
theorem dc62 {c : ByteArray} {p : Nat} (h : bk1 c p 62 = true) : Jvm.ClassFile.decode c p = .ok (.istore_n 3, 1) := by
  have h0 := bk1_at h
  refine dec_of ?_
  refine (rbind (m := Jvm.ClassFile.Reader.u1) (du1 h0)).trans ?_
  rfl
theorem dc76 {c : ByteArray} {p : Nat} (h : bk1 c p 76 = true) : Jvm.ClassFile.decode c p = .ok (.astore_n 1, 1) := by
  have h0 := bk1_at h
  refine dec_of ?_
  refine (rbind (m := Jvm.ClassFile.Reader.u1) (du1 h0)).trans ?_
  rfl
theorem dc77 {c : ByteArray} {p : Nat} (h : bk1 c p 77 = true) : Jvm.ClassFile.decode c p = .ok (.astore_n 2, 1) := by
  have h0 := bk1_at h
  refine dec_of ?_
  refine (rbind (m := Jvm.ClassFile.Reader.u1) (du1 h0)).trans ?_
  rfl
theorem dc78 {c : ByteArray} {p : Nat} (h : bk1 c p 78 = true) : Jvm.ClassFile.decode c p = .ok (.astore_n 3, 1) := by
  have h0 := bk1_at h
  refine dec_of ?_
  refine (rbind (m := Jvm.ClassFile.Reader.u1) (du1 h0)).trans ?_
  rfl
theorem dc79 {c : ByteArray} {p : Nat} (h : bk1 c p 79 = true) : Jvm.ClassFile.decode c p = .ok (.iastore, 1) := by
  have h0 := bk1_at h
  refine dec_of ?_
  refine (rbind (m := Jvm.ClassFile.Reader.u1) (du1 h0)).trans ?_
  rfl
theorem dc83 {c : ByteArray} {p : Nat} (h : bk1 c p 83 = true) : Jvm.ClassFile.decode c p = .ok (.aastore, 1) := by
  have h0 := bk1_at h
  refine dec_of ?_
  refine (rbind (m := Jvm.ClassFile.Reader.u1) (du1 h0)).trans ?_
  rfl
theorem dc84 {c : ByteArray} {p : Nat} (h : bk1 c p 84 = true) : Jvm.ClassFile.decode c p = .ok (.bastore, 1) := by
  have h0 := bk1_at h
  refine dec_of ?_
  refine (rbind (m := Jvm.ClassFile.Reader.u1) (du1 h0)).trans ?_
  rfl
theorem dc87 {c : ByteArray} {p : Nat} (h : bk1 c p 87 = true) : Jvm.ClassFile.decode c p = .ok (.pop, 1) := by
  have h0 := bk1_at h
  refine dec_of ?_
  refine (rbind (m := Jvm.ClassFile.Reader.u1) (du1 h0)).trans ?_
  rfl
theorem dc89 {c : ByteArray} {p : Nat} (h : bk1 c p 89 = true) : Jvm.ClassFile.decode c p = .ok (.dup, 1) := by
  have h0 := bk1_at h
  refine dec_of ?_
  refine (rbind (m := Jvm.ClassFile.Reader.u1) (du1 h0)).trans ?_
  rfl
theorem dc92 {c : ByteArray} {p : Nat} (h : bk1 c p 92 = true) : Jvm.ClassFile.decode c p = .ok (.dup2, 1) := by
  have h0 := bk1_at h
  refine dec_of ?_
  refine (rbind (m := Jvm.ClassFile.Reader.u1) (du1 h0)).trans ?_
  rfl
theorem dc96 {c : ByteArray} {p : Nat} (h : bk1 c p 96 = true) : Jvm.ClassFile.decode c p = .ok (.iadd, 1) := by
  have h0 := bk1_at h
  refine dec_of ?_
  refine (rbind (m := Jvm.ClassFile.Reader.u1) (du1 h0)).trans ?_
  rfl
theorem dc100 {c : ByteArray} {p : Nat} (h : bk1 c p 100 = true) : Jvm.ClassFile.decode c p = .ok (.isub, 1) := by
  have h0 := bk1_at h
  refine dec_of ?_
  refine (rbind (m := Jvm.ClassFile.Reader.u1) (du1 h0)).trans ?_
  rfl
theorem dc104 {c : ByteArray} {p : Nat} (h : bk1 c p 104 = true) : Jvm.ClassFile.decode c p = .ok (.imul, 1) := by
  have h0 := bk1_at h
  refine dec_of ?_
  refine (rbind (m := Jvm.ClassFile.Reader.u1) (du1 h0)).trans ?_
  rfl
theorem dc108 {c : ByteArray} {p : Nat} (h : bk1 c p 108 = true) : Jvm.ClassFile.decode c p = .ok (.idiv, 1) := by
  have h0 := bk1_at h
  refine dec_of ?_
  refine (rbind (m := Jvm.ClassFile.Reader.u1) (du1 h0)).trans ?_
  rfl
theorem dc112 {c : ByteArray} {p : Nat} (h : bk1 c p 112 = true) : Jvm.ClassFile.decode c p = .ok (.irem, 1) := by
  have h0 := bk1_at h
  refine dec_of ?_
  refine (rbind (m := Jvm.ClassFile.Reader.u1) (du1 h0)).trans ?_
  rfl
theorem dc116 {c : ByteArray} {p : Nat} (h : bk1 c p 116 = true) : Jvm.ClassFile.decode c p = .ok (.ineg, 1) := by
  have h0 := bk1_at h
  refine dec_of ?_
  refine (rbind (m := Jvm.ClassFile.Reader.u1) (du1 h0)).trans ?_
  rfl
theorem dc120 {c : ByteArray} {p : Nat} (h : bk1 c p 120 = true) : Jvm.ClassFile.decode c p = .ok (.ishl, 1) := by
  have h0 := bk1_at h
  refine dec_of ?_
  refine (rbind (m := Jvm.ClassFile.Reader.u1) (du1 h0)).trans ?_
  rfl
theorem dc122 {c : ByteArray} {p : Nat} (h : bk1 c p 122 = true) : Jvm.ClassFile.decode c p = .ok (.ishr, 1) := by
  have h0 := bk1_at h
  refine dec_of ?_
  refine (rbind (m := Jvm.ClassFile.Reader.u1) (du1 h0)).trans ?_
  rfl
theorem dc124 {c : ByteArray} {p : Nat} (h : bk1 c p 124 = true) : Jvm.ClassFile.decode c p = .ok (.iushr, 1) := by
  have h0 := bk1_at h
  refine dec_of ?_
  refine (rbind (m := Jvm.ClassFile.Reader.u1) (du1 h0)).trans ?_
  rfl
theorem dc126 {c : ByteArray} {p : Nat} (h : bk1 c p 126 = true) : Jvm.ClassFile.decode c p = .ok (.iand, 1) := by
  have h0 := bk1_at h
  refine dec_of ?_
  refine (rbind (m := Jvm.ClassFile.Reader.u1) (du1 h0)).trans ?_
  rfl
theorem dc128 {c : ByteArray} {p : Nat} (h : bk1 c p 128 = true) : Jvm.ClassFile.decode c p = .ok (.ior, 1) := by
  have h0 := bk1_at h
  refine dec_of ?_
  refine (rbind (m := Jvm.ClassFile.Reader.u1) (du1 h0)).trans ?_
  rfl
theorem dc132 {c : ByteArray} {p : Nat} (x1 : UInt8) (x2 : UInt8) (h : bk3 c p 132 x1 x2 = true) {sv : Int} (hv : Jvm.ClassFile.Reader.signed 8 x2.toNat = sv) : Jvm.ClassFile.decode c p = .ok (.iinc x1.toNat sv, 3) := by
  obtain ⟨h0, h1, h2⟩ := bk3_at h
  subst hv
  refine dec_of ?_
  refine (rbind (m := Jvm.ClassFile.Reader.u1) (du1 h0)).trans ?_
  refine (rbind (m := Jvm.ClassFile.Reader.u1) (du1 h1)).trans ?_
  exact (rbind (m := Jvm.ClassFile.Reader.s1) (ds1 h2)).trans rfl
theorem dc153 {c : ByteArray} {p : Nat} (x1 : UInt8) (x2 : UInt8) (h : bk3 c p 153 x1 x2 = true) {sv : Int} (hv : Jvm.ClassFile.Reader.signed 16 (x1.toNat * 256 + x2.toNat) = sv) : Jvm.ClassFile.decode c p = .ok (.ifCond .eq sv, 3) := by
  obtain ⟨h0, h1, h2⟩ := bk3_at h
  subst hv
  refine dec_of ?_
  refine (rbind (m := Jvm.ClassFile.Reader.u1) (du1 h0)).trans ?_
  exact (rbind (m := Jvm.ClassFile.Reader.s2) (ds2 h1 h2)).trans rfl
theorem dc154 {c : ByteArray} {p : Nat} (x1 : UInt8) (x2 : UInt8) (h : bk3 c p 154 x1 x2 = true) {sv : Int} (hv : Jvm.ClassFile.Reader.signed 16 (x1.toNat * 256 + x2.toNat) = sv) : Jvm.ClassFile.decode c p = .ok (.ifCond .ne sv, 3) := by
  obtain ⟨h0, h1, h2⟩ := bk3_at h
  subst hv
  refine dec_of ?_
  refine (rbind (m := Jvm.ClassFile.Reader.u1) (du1 h0)).trans ?_
  exact (rbind (m := Jvm.ClassFile.Reader.s2) (ds2 h1 h2)).trans rfl
theorem dc155 {c : ByteArray} {p : Nat} (x1 : UInt8) (x2 : UInt8) (h : bk3 c p 155 x1 x2 = true) {sv : Int} (hv : Jvm.ClassFile.Reader.signed 16 (x1.toNat * 256 + x2.toNat) = sv) : Jvm.ClassFile.decode c p = .ok (.ifCond .lt sv, 3) := by
  obtain ⟨h0, h1, h2⟩ := bk3_at h
  subst hv
  refine dec_of ?_
  refine (rbind (m := Jvm.ClassFile.Reader.u1) (du1 h0)).trans ?_
  exact (rbind (m := Jvm.ClassFile.Reader.s2) (ds2 h1 h2)).trans rfl
theorem dc156 {c : ByteArray} {p : Nat} (x1 : UInt8) (x2 : UInt8) (h : bk3 c p 156 x1 x2 = true) {sv : Int} (hv : Jvm.ClassFile.Reader.signed 16 (x1.toNat * 256 + x2.toNat) = sv) : Jvm.ClassFile.decode c p = .ok (.ifCond .ge sv, 3) := by
  obtain ⟨h0, h1, h2⟩ := bk3_at h
  subst hv
  refine dec_of ?_
  refine (rbind (m := Jvm.ClassFile.Reader.u1) (du1 h0)).trans ?_
  exact (rbind (m := Jvm.ClassFile.Reader.s2) (ds2 h1 h2)).trans rfl
theorem dc158 {c : ByteArray} {p : Nat} (x1 : UInt8) (x2 : UInt8) (h : bk3 c p 158 x1 x2 = true) {sv : Int} (hv : Jvm.ClassFile.Reader.signed 16 (x1.toNat * 256 + x2.toNat) = sv) : Jvm.ClassFile.decode c p = .ok (.ifCond .le sv, 3) := by
  obtain ⟨h0, h1, h2⟩ := bk3_at h
  subst hv
  refine dec_of ?_
  refine (rbind (m := Jvm.ClassFile.Reader.u1) (du1 h0)).trans ?_
  exact (rbind (m := Jvm.ClassFile.Reader.s2) (ds2 h1 h2)).trans rfl
theorem dc159 {c : ByteArray} {p : Nat} (x1 : UInt8) (x2 : UInt8) (h : bk3 c p 159 x1 x2 = true) {sv : Int} (hv : Jvm.ClassFile.Reader.signed 16 (x1.toNat * 256 + x2.toNat) = sv) : Jvm.ClassFile.decode c p = .ok (.if_icmp .eq sv, 3) := by
  obtain ⟨h0, h1, h2⟩ := bk3_at h
  subst hv
  refine dec_of ?_
  refine (rbind (m := Jvm.ClassFile.Reader.u1) (du1 h0)).trans ?_
  exact (rbind (m := Jvm.ClassFile.Reader.s2) (ds2 h1 h2)).trans rfl
theorem dc160 {c : ByteArray} {p : Nat} (x1 : UInt8) (x2 : UInt8) (h : bk3 c p 160 x1 x2 = true) {sv : Int} (hv : Jvm.ClassFile.Reader.signed 16 (x1.toNat * 256 + x2.toNat) = sv) : Jvm.ClassFile.decode c p = .ok (.if_icmp .ne sv, 3) := by
  obtain ⟨h0, h1, h2⟩ := bk3_at h
  subst hv
  refine dec_of ?_
  refine (rbind (m := Jvm.ClassFile.Reader.u1) (du1 h0)).trans ?_
  exact (rbind (m := Jvm.ClassFile.Reader.s2) (ds2 h1 h2)).trans rfl
theorem dc161 {c : ByteArray} {p : Nat} (x1 : UInt8) (x2 : UInt8) (h : bk3 c p 161 x1 x2 = true) {sv : Int} (hv : Jvm.ClassFile.Reader.signed 16 (x1.toNat * 256 + x2.toNat) = sv) : Jvm.ClassFile.decode c p = .ok (.if_icmp .lt sv, 3) := by
  obtain ⟨h0, h1, h2⟩ := bk3_at h
  subst hv
  refine dec_of ?_
  refine (rbind (m := Jvm.ClassFile.Reader.u1) (du1 h0)).trans ?_
  exact (rbind (m := Jvm.ClassFile.Reader.s2) (ds2 h1 h2)).trans rfl
theorem dc162 {c : ByteArray} {p : Nat} (x1 : UInt8) (x2 : UInt8) (h : bk3 c p 162 x1 x2 = true) {sv : Int} (hv : Jvm.ClassFile.Reader.signed 16 (x1.toNat * 256 + x2.toNat) = sv) : Jvm.ClassFile.decode c p = .ok (.if_icmp .ge sv, 3) := by
  obtain ⟨h0, h1, h2⟩ := bk3_at h
  subst hv
  refine dec_of ?_
  refine (rbind (m := Jvm.ClassFile.Reader.u1) (du1 h0)).trans ?_
  exact (rbind (m := Jvm.ClassFile.Reader.s2) (ds2 h1 h2)).trans rfl
theorem dc163 {c : ByteArray} {p : Nat} (x1 : UInt8) (x2 : UInt8) (h : bk3 c p 163 x1 x2 = true) {sv : Int} (hv : Jvm.ClassFile.Reader.signed 16 (x1.toNat * 256 + x2.toNat) = sv) : Jvm.ClassFile.decode c p = .ok (.if_icmp .gt sv, 3) := by
  obtain ⟨h0, h1, h2⟩ := bk3_at h
  subst hv
  refine dec_of ?_
  refine (rbind (m := Jvm.ClassFile.Reader.u1) (du1 h0)).trans ?_
  exact (rbind (m := Jvm.ClassFile.Reader.s2) (ds2 h1 h2)).trans rfl
theorem dc164 {c : ByteArray} {p : Nat} (x1 : UInt8) (x2 : UInt8) (h : bk3 c p 164 x1 x2 = true) {sv : Int} (hv : Jvm.ClassFile.Reader.signed 16 (x1.toNat * 256 + x2.toNat) = sv) : Jvm.ClassFile.decode c p = .ok (.if_icmp .le sv, 3) := by
  obtain ⟨h0, h1, h2⟩ := bk3_at h
  subst hv
  refine dec_of ?_
  refine (rbind (m := Jvm.ClassFile.Reader.u1) (du1 h0)).trans ?_
  exact (rbind (m := Jvm.ClassFile.Reader.s2) (ds2 h1 h2)).trans rfl
theorem dc165 {c : ByteArray} {p : Nat} (x1 : UInt8) (x2 : UInt8) (h : bk3 c p 165 x1 x2 = true) {sv : Int} (hv : Jvm.ClassFile.Reader.signed 16 (x1.toNat * 256 + x2.toNat) = sv) : Jvm.ClassFile.decode c p = .ok (.if_acmp .eq sv, 3) := by
  obtain ⟨h0, h1, h2⟩ := bk3_at h
  subst hv
  refine dec_of ?_
  refine (rbind (m := Jvm.ClassFile.Reader.u1) (du1 h0)).trans ?_
  exact (rbind (m := Jvm.ClassFile.Reader.s2) (ds2 h1 h2)).trans rfl
theorem dc166 {c : ByteArray} {p : Nat} (x1 : UInt8) (x2 : UInt8) (h : bk3 c p 166 x1 x2 = true) {sv : Int} (hv : Jvm.ClassFile.Reader.signed 16 (x1.toNat * 256 + x2.toNat) = sv) : Jvm.ClassFile.decode c p = .ok (.if_acmp .ne sv, 3) := by
  obtain ⟨h0, h1, h2⟩ := bk3_at h
  subst hv
  refine dec_of ?_
  refine (rbind (m := Jvm.ClassFile.Reader.u1) (du1 h0)).trans ?_
  exact (rbind (m := Jvm.ClassFile.Reader.s2) (ds2 h1 h2)).trans rfl
theorem dc167 {c : ByteArray} {p : Nat} (x1 : UInt8) (x2 : UInt8) (h : bk3 c p 167 x1 x2 = true) {sv : Int} (hv : Jvm.ClassFile.Reader.signed 16 (x1.toNat * 256 + x2.toNat) = sv) : Jvm.ClassFile.decode c p = .ok (.goto sv, 3) := by
  obtain ⟨h0, h1, h2⟩ := bk3_at h
  subst hv
  refine dec_of ?_
  refine (rbind (m := Jvm.ClassFile.Reader.u1) (du1 h0)).trans ?_
  exact (rbind (m := Jvm.ClassFile.Reader.s2) (ds2 h1 h2)).trans rfl
theorem dc172 {c : ByteArray} {p : Nat} (h : bk1 c p 172 = true) : Jvm.ClassFile.decode c p = .ok (.ireturn, 1) := by
  have h0 := bk1_at h
  refine dec_of ?_
  refine (rbind (m := Jvm.ClassFile.Reader.u1) (du1 h0)).trans ?_
  rfl
theorem dc176 {c : ByteArray} {p : Nat} (h : bk1 c p 176 = true) : Jvm.ClassFile.decode c p = .ok (.areturn, 1) := by
  have h0 := bk1_at h
  refine dec_of ?_
  refine (rbind (m := Jvm.ClassFile.Reader.u1) (du1 h0)).trans ?_
  rfl
theorem dc177 {c : ByteArray} {p : Nat} (h : bk1 c p 177 = true) : Jvm.ClassFile.decode c p = .ok (.return_, 1) := by
  have h0 := bk1_at h
  refine dec_of ?_
  refine (rbind (m := Jvm.ClassFile.Reader.u1) (du1 h0)).trans ?_
  rfl
theorem dc180 {c : ByteArray} {p : Nat} (x1 : UInt8) (x2 : UInt8) (h : bk3 c p 180 x1 x2 = true) : Jvm.ClassFile.decode c p = .ok (.getfield (x1.toNat * 256 + x2.toNat), 3) := by
  obtain ⟨h0, h1, h2⟩ := bk3_at h
  refine dec_of ?_
  refine (rbind (m := Jvm.ClassFile.Reader.u1) (du1 h0)).trans ?_
  exact (rbind (m := Jvm.ClassFile.Reader.u2) (du2 h1 h2)).trans rfl
theorem dc181 {c : ByteArray} {p : Nat} (x1 : UInt8) (x2 : UInt8) (h : bk3 c p 181 x1 x2 = true) : Jvm.ClassFile.decode c p = .ok (.putfield (x1.toNat * 256 + x2.toNat), 3) := by
  obtain ⟨h0, h1, h2⟩ := bk3_at h
  refine dec_of ?_
  refine (rbind (m := Jvm.ClassFile.Reader.u1) (du1 h0)).trans ?_
  exact (rbind (m := Jvm.ClassFile.Reader.u2) (du2 h1 h2)).trans rfl
theorem dc182 {c : ByteArray} {p : Nat} (x1 : UInt8) (x2 : UInt8) (h : bk3 c p 182 x1 x2 = true) : Jvm.ClassFile.decode c p = .ok (.invokevirtual (x1.toNat * 256 + x2.toNat), 3) := by
  obtain ⟨h0, h1, h2⟩ := bk3_at h
  refine dec_of ?_
  refine (rbind (m := Jvm.ClassFile.Reader.u1) (du1 h0)).trans ?_
  exact (rbind (m := Jvm.ClassFile.Reader.u2) (du2 h1 h2)).trans rfl
theorem dc183 {c : ByteArray} {p : Nat} (x1 : UInt8) (x2 : UInt8) (h : bk3 c p 183 x1 x2 = true) : Jvm.ClassFile.decode c p = .ok (.invokespecial (x1.toNat * 256 + x2.toNat), 3) := by
  obtain ⟨h0, h1, h2⟩ := bk3_at h
  refine dec_of ?_
  refine (rbind (m := Jvm.ClassFile.Reader.u1) (du1 h0)).trans ?_
  exact (rbind (m := Jvm.ClassFile.Reader.u2) (du2 h1 h2)).trans rfl
theorem dc184 {c : ByteArray} {p : Nat} (x1 : UInt8) (x2 : UInt8) (h : bk3 c p 184 x1 x2 = true) : Jvm.ClassFile.decode c p = .ok (.invokestatic (x1.toNat * 256 + x2.toNat), 3) := by
  obtain ⟨h0, h1, h2⟩ := bk3_at h
  refine dec_of ?_
  refine (rbind (m := Jvm.ClassFile.Reader.u1) (du1 h0)).trans ?_
  exact (rbind (m := Jvm.ClassFile.Reader.u2) (du2 h1 h2)).trans rfl
theorem dc187 {c : ByteArray} {p : Nat} (x1 : UInt8) (x2 : UInt8) (h : bk3 c p 187 x1 x2 = true) : Jvm.ClassFile.decode c p = .ok (.new (x1.toNat * 256 + x2.toNat), 3) := by
  obtain ⟨h0, h1, h2⟩ := bk3_at h
  refine dec_of ?_
  refine (rbind (m := Jvm.ClassFile.Reader.u1) (du1 h0)).trans ?_
  exact (rbind (m := Jvm.ClassFile.Reader.u2) (du2 h1 h2)).trans rfl
theorem dc189 {c : ByteArray} {p : Nat} (x1 : UInt8) (x2 : UInt8) (h : bk3 c p 189 x1 x2 = true) : Jvm.ClassFile.decode c p = .ok (.anewarray (x1.toNat * 256 + x2.toNat), 3) := by
  obtain ⟨h0, h1, h2⟩ := bk3_at h
  refine dec_of ?_
  refine (rbind (m := Jvm.ClassFile.Reader.u1) (du1 h0)).trans ?_
  exact (rbind (m := Jvm.ClassFile.Reader.u2) (du2 h1 h2)).trans rfl
theorem dc190 {c : ByteArray} {p : Nat} (h : bk1 c p 190 = true) : Jvm.ClassFile.decode c p = .ok (.arraylength, 1) := by
  have h0 := bk1_at h
  refine dec_of ?_
  refine (rbind (m := Jvm.ClassFile.Reader.u1) (du1 h0)).trans ?_
  rfl
theorem dc198 {c : ByteArray} {p : Nat} (x1 : UInt8) (x2 : UInt8) (h : bk3 c p 198 x1 x2 = true) {sv : Int} (hv : Jvm.ClassFile.Reader.signed 16 (x1.toNat * 256 + x2.toNat) = sv) : Jvm.ClassFile.decode c p = .ok (.ifnull sv, 3) := by
  obtain ⟨h0, h1, h2⟩ := bk3_at h
  subst hv
  refine dec_of ?_
  refine (rbind (m := Jvm.ClassFile.Reader.u1) (du1 h0)).trans ?_
  exact (rbind (m := Jvm.ClassFile.Reader.s2) (ds2 h1 h2)).trans rfl
theorem dc199 {c : ByteArray} {p : Nat} (x1 : UInt8) (x2 : UInt8) (h : bk3 c p 199 x1 x2 = true) {sv : Int} (hv : Jvm.ClassFile.Reader.signed 16 (x1.toNat * 256 + x2.toNat) = sv) : Jvm.ClassFile.decode c p = .ok (.ifnonnull sv, 3) := by
  obtain ⟨h0, h1, h2⟩ := bk3_at h
  subst hv
  refine dec_of ?_
  refine (rbind (m := Jvm.ClassFile.Reader.u1) (du1 h0)).trans ?_
  exact (rbind (m := Jvm.ClassFile.Reader.s2) (ds2 h1 h2)).trans rfl
