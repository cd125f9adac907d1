set_option maxHeartbeats 4000000 in
set_option maxRecDepth 100000 in
theorem mr_many {p : Program} {l : Launch} {e : Env} {R : Room} {s : State} {m : MethodId} {args : Array Value} {below : List Frame} {meth : Method} {c : Code} {Q : State → Prop} {A : Nat → Prop} {cells slots : Nat} {D : va_G} {H : Heap} {locs : List Loc} {p0 : Int32} (hx : p.tables.exec = Jvm.exec) (hb : c.code = cX9_many) (hts : ∀ w ∈ wsX9_many, w.before args s = true) (hml : c.maxLocals = 3) (hown : s.vm.findClass RX9 = some m.cls) (hN : Nq s) (hK : va_K D vwCl [] s) (hP : va_P D vwCl [] H) (hD : va_D A []) (hR : 0 ≤ R.frames ∧ 0 ≤ R.locals) (hcs : cells ≤ R.cells ∧ slots ≤ R.slots) (done_21 : ∀ (v : Int32) (x : Int32) (ls : Array Slot), ((0 ≤ (p0).toInt ∧ (p0).toInt < 1024) → (x).toInt = (popF 10 (p0).toInt.toNat : Int)) → lv_has ls 3 [(2, .int v), (1, .int x), (0, .int p0)] → W p l e R s m args below meth c H locs cells slots Q (F0 m 21 ls [])) : ∀ (n : Nat), ∀ (v : Int32) (x : Int32) (ls : Array Slot), (mnI p0 v x) → (((v).toInt).toNat < n) → lv_has ls 3 [(2, .int v), (1, .int x), (0, .int p0)] → W p l e R s m args below meth c H locs cells slots Q (F0 m 4 ls []) := by
  intro n
  induction n with
  | zero => intro v x ls hmn hmu hl; exact absurd hmu (Nat.not_lt_zero _)
  | succ n ih =>
    intro v x ls hmn hmu hl
    refine lv_iload_n hx hb dX9_many_4 rfl (lv_at hl 0 rfl) ?_
    refine bz_le (zx := (v).toInt) (tgt := 21) hx hb dX9_many_5 (by decide) rfl (fun c_1 => ?_) (fun c_1 => ?_)
    · exact done_21 _ _ _ (fun h9 => hmn.stop (by omega) h9) (lv_sub hl [0, 1, 2] rfl)
    · refine lv_iload_n hx hb dX9_many_8 rfl (lv_at hl 1 rfl) ?_
      refine lv_iload_n hx hb dX9_many_9 rfl (lv_at hl 0 rfl) ?_
      refine lv_iconst (v := 1) hx hb dX9_many_10 (by decide) ?_
      refine lv_iand hx hb dX9_many_11 ?_
      refine lv_topi (fun z_2 ez_2 => ?_)
      have tz_2 := an1_toInt ez_2
      refine lv_iadd hx hb dX9_many_12 ?_
      refine lv_topi (fun z_3 ez_3 => ?_)
      have tz_3 := ad_toInt (zx := (x).toInt) (zy := (z_2).toInt) ez_3 rfl rfl
      refine lv_istore_n (lv' := [(1, .int z_3), (2, .int v), (0, .int p0)]) hx hb dX9_many_13 rfl hl (by decide) rfl (fun ls hl => ?_)
      refine lv_iload_n hx hb dX9_many_14 rfl (lv_at hl 1 rfl) ?_
      refine lv_iconst (v := 1) hx hb dX9_many_15 (by decide) ?_
      refine lv_ishr hx hb dX9_many_16 ?_
      refine lv_topi (fun z_4 ez_4 => ?_)
      have tz_4 := sh1_toInt ez_4
      refine lv_istore_n (lv' := [(2, .int z_4), (1, .int z_3), (0, .int p0)]) hx hb dX9_many_17 rfl hl (by decide) rfl (fun ls hl => ?_)
      refine lv_goto (tgt := 4) hx hb dX9_many_18 (by decide) ?_
      exact ih _ _ _ (mnI.next hmn (by omega) ez_4 ez_2 ez_3) (by omega) (lv_sub hl [0, 1, 2] rfl)
