section
-- ===== PART A: goes FIRST, ahead of the names: the tables' words, and 'selects' of the private methods out of them =====
/-- a private method of a class that the tables say can be made, by its rows of tables_1 -/
def lw_okq (q : MethodName × Nat) : Prop := (q.1.cls ≠ "java/lang/invoke/MethodHandle" ∧ q.1.cls ≠ "java/lang/invoke/VarHandle") ∧ Cond.instantiable q.1.cls q.2 ∈ tables_1 ∧ Cond.privateMethod q.1 ∈ tables_1 ∧ Cond.instanceMethod q.1 ∈ tables_1
theorem lw_p0 : lw_okq (⟨"CryOrder", "alarmToRepeat", "(III)LCryOrder$Alarm;"⟩, 14) := ⟨⟨by decide +kernel, by decide +kernel⟩, List.mem_of_getElem? (i := 14) (by decide +kernel), List.mem_of_getElem? (i := 190) (by decide +kernel), List.mem_of_getElem? (i := 191) (by decide +kernel)⟩
theorem lw_p1 : lw_okq (⟨"CryOrder$Node", "child", "(I)LCryOrder$Node;"⟩, 8) := ⟨⟨by decide +kernel, by decide +kernel⟩, List.mem_of_getElem? (i := 26) (by decide +kernel), List.mem_of_getElem? (i := 218) (by decide +kernel), List.mem_of_getElem? (i := 219) (by decide +kernel)⟩
theorem lw_p2 : lw_okq (⟨"CryOrder", "isSilencedNow", "(I)Z"⟩, 14) := ⟨⟨by decide +kernel, by decide +kernel⟩, List.mem_of_getElem? (i := 14) (by decide +kernel), List.mem_of_getElem? (i := 326) (by decide +kernel), List.mem_of_getElem? (i := 327) (by decide +kernel)⟩
theorem lw_p3 : lw_okq (⟨"CryOrder", "isCapFullNow", "(I)Z"⟩, 14) := ⟨⟨by decide +kernel, by decide +kernel⟩, List.mem_of_getElem? (i := 14) (by decide +kernel), List.mem_of_getElem? (i := 334) (by decide +kernel), List.mem_of_getElem? (i := 335) (by decide +kernel)⟩
theorem lw_p4 : lw_okq (⟨"CryOrder", "alarmAt", "(I)LCryOrder$Alarm;"⟩, 14) := ⟨⟨by decide +kernel, by decide +kernel⟩, List.mem_of_getElem? (i := 14) (by decide +kernel), List.mem_of_getElem? (i := 370) (by decide +kernel), List.mem_of_getElem? (i := 371) (by decide +kernel)⟩
theorem lw_p5 : lw_okq (⟨"CryOrder$Ties", "find", "(II)LCryOrder$Pair;"⟩, 2) := ⟨⟨by decide +kernel, by decide +kernel⟩, List.mem_of_getElem? (i := 64) (by decide +kernel), List.mem_of_getElem? (i := 404) (by decide +kernel), List.mem_of_getElem? (i := 405) (by decide +kernel)⟩
theorem lw_p6 : lw_okq (⟨"CryOrder", "caseNumberOf", "(LCryOrder$Alarm;)I"⟩, 14) := ⟨⟨by decide +kernel, by decide +kernel⟩, List.mem_of_getElem? (i := 14) (by decide +kernel), List.mem_of_getElem? (i := 461) (by decide +kernel), List.mem_of_getElem? (i := 462) (by decide +kernel)⟩
theorem lw_p7 : lw_okq (⟨"CryOrder", "casesNow", "()LCryOrder$Cases;"⟩, 14) := ⟨⟨by decide +kernel, by decide +kernel⟩, List.mem_of_getElem? (i := 14) (by decide +kernel), List.mem_of_getElem? (i := 465) (by decide +kernel), List.mem_of_getElem? (i := 466) (by decide +kernel)⟩
theorem lw_p8 : lw_okq (⟨"CryOrder$Cases", "putInOrder", "([LCryOrder$Alarm;I)V"⟩, 2) := ⟨⟨by decide +kernel, by decide +kernel⟩, List.mem_of_getElem? (i := 82) (by decide +kernel), List.mem_of_getElem? (i := 508) (by decide +kernel), List.mem_of_getElem? (i := 509) (by decide +kernel)⟩
theorem lw_p9 : lw_okq (⟨"CryOrder$Cases", "putInPlace", "(LCryOrder$Case;)V"⟩, 2) := ⟨⟨by decide +kernel, by decide +kernel⟩, List.mem_of_getElem? (i := 82) (by decide +kernel), List.mem_of_getElem? (i := 512) (by decide +kernel), List.mem_of_getElem? (i := 513) (by decide +kernel)⟩
theorem lw_p10 : lw_okq (⟨"CryOrder", "memberOf", "(LCryOrder$Alarm;I)I"⟩, 14) := ⟨⟨by decide +kernel, by decide +kernel⟩, List.mem_of_getElem? (i := 14) (by decide +kernel), List.mem_of_getElem? (i := 554) (by decide +kernel), List.mem_of_getElem? (i := 555) (by decide +kernel)⟩
theorem lw_p11 : lw_okq (⟨"CryOrder$Plan", "takeTries", "(LCryOrder$Cases;I)V"⟩, 8) := ⟨⟨by decide +kernel, by decide +kernel⟩, List.mem_of_getElem? (i := 100) (by decide +kernel), List.mem_of_getElem? (i := 572) (by decide +kernel), List.mem_of_getElem? (i := 573) (by decide +kernel)⟩
theorem lw_p12 : lw_okq (⟨"CryOrder$Plan", "take", "(LCryOrder$Case;)V"⟩, 8) := ⟨⟨by decide +kernel, by decide +kernel⟩, List.mem_of_getElem? (i := 100) (by decide +kernel), List.mem_of_getElem? (i := 577) (by decide +kernel), List.mem_of_getElem? (i := 578) (by decide +kernel)⟩
theorem lw_p13 : lw_okq (⟨"CryOrder$Plan", "fillPool", "(LCryOrder$Cases;)V"⟩, 8) := ⟨⟨by decide +kernel, by decide +kernel⟩, List.mem_of_getElem? (i := 100) (by decide +kernel), List.mem_of_getElem? (i := 581) (by decide +kernel), List.mem_of_getElem? (i := 582) (by decide +kernel)⟩
theorem lw_p14 : lw_okq (⟨"CryOrder$Plan", "isTaken", "(LCryOrder$Case;)Z"⟩, 8) := ⟨⟨by decide +kernel, by decide +kernel⟩, List.mem_of_getElem? (i := 100) (by decide +kernel), List.mem_of_getElem? (i := 585) (by decide +kernel), List.mem_of_getElem? (i := 586) (by decide +kernel)⟩
theorem lw_p15 : lw_okq (⟨"CryOrder$Plan", "weighPool", "()V"⟩, 8) := ⟨⟨by decide +kernel, by decide +kernel⟩, List.mem_of_getElem? (i := 100) (by decide +kernel), List.mem_of_getElem? (i := 589) (by decide +kernel), List.mem_of_getElem? (i := 590) (by decide +kernel)⟩
def lw_privs_1 : List (MethodName × Nat) := [(⟨"CryOrder", "alarmToRepeat", "(III)LCryOrder$Alarm;"⟩, 14), (⟨"CryOrder$Node", "child", "(I)LCryOrder$Node;"⟩, 8), (⟨"CryOrder", "isSilencedNow", "(I)Z"⟩, 14), (⟨"CryOrder", "isCapFullNow", "(I)Z"⟩, 14), (⟨"CryOrder", "alarmAt", "(I)LCryOrder$Alarm;"⟩, 14), (⟨"CryOrder$Ties", "find", "(II)LCryOrder$Pair;"⟩, 2), (⟨"CryOrder", "caseNumberOf", "(LCryOrder$Alarm;)I"⟩, 14), (⟨"CryOrder", "casesNow", "()LCryOrder$Cases;"⟩, 14), (⟨"CryOrder$Cases", "putInOrder", "([LCryOrder$Alarm;I)V"⟩, 2), (⟨"CryOrder$Cases", "putInPlace", "(LCryOrder$Case;)V"⟩, 2), (⟨"CryOrder", "memberOf", "(LCryOrder$Alarm;I)I"⟩, 14), (⟨"CryOrder$Plan", "takeTries", "(LCryOrder$Cases;I)V"⟩, 8), (⟨"CryOrder$Plan", "take", "(LCryOrder$Case;)V"⟩, 8), (⟨"CryOrder$Plan", "fillPool", "(LCryOrder$Cases;)V"⟩, 8), (⟨"CryOrder$Plan", "isTaken", "(LCryOrder$Case;)Z"⟩, 8), (⟨"CryOrder$Plan", "weighPool", "()V"⟩, 8)]
theorem lw_r1 : ∀ q ∈ lw_privs_1, lw_okq q := List.forall_mem_cons.mpr ⟨lw_p0, List.forall_mem_cons.mpr ⟨lw_p1, List.forall_mem_cons.mpr ⟨lw_p2, List.forall_mem_cons.mpr ⟨lw_p3, List.forall_mem_cons.mpr ⟨lw_p4, List.forall_mem_cons.mpr ⟨lw_p5, List.forall_mem_cons.mpr ⟨lw_p6, List.forall_mem_cons.mpr ⟨lw_p7, List.forall_mem_cons.mpr ⟨lw_p8, List.forall_mem_cons.mpr ⟨lw_p9, List.forall_mem_cons.mpr ⟨lw_p10, List.forall_mem_cons.mpr ⟨lw_p11, List.forall_mem_cons.mpr ⟨lw_p12, List.forall_mem_cons.mpr ⟨lw_p13, List.forall_mem_cons.mpr ⟨lw_p14, List.forall_mem_cons.mpr ⟨lw_p15, fun _ h => absurd h List.not_mem_nil⟩⟩⟩⟩⟩⟩⟩⟩⟩⟩⟩⟩⟩⟩⟩⟩
theorem lw_p16 : lw_okq (⟨"CryOrder$Plan", "takeBestOfPool", "()V"⟩, 8) := ⟨⟨by decide +kernel, by decide +kernel⟩, List.mem_of_getElem? (i := 100) (by decide +kernel), List.mem_of_getElem? (i := 593) (by decide +kernel), List.mem_of_getElem? (i := 594) (by decide +kernel)⟩
theorem lw_p17 : lw_okq (⟨"CryOrderModel", "isLive", "(I)Z"⟩, 37) := ⟨⟨by decide +kernel, by decide +kernel⟩, List.mem_of_getElem? (i := 621) (by decide +kernel), List.mem_of_getElem? (i := 751) (by decide +kernel), List.mem_of_getElem? (i := 752) (by decide +kernel)⟩
theorem lw_p18 : lw_okq (⟨"CryOrderModel", "isAlarm", "(I)Z"⟩, 37) := ⟨⟨by decide +kernel, by decide +kernel⟩, List.mem_of_getElem? (i := 621) (by decide +kernel), List.mem_of_getElem? (i := 770) (by decide +kernel), List.mem_of_getElem? (i := 771) (by decide +kernel)⟩
theorem lw_p19 : lw_okq (⟨"CryOrderModel", "tieOf", "(II)I"⟩, 37) := ⟨⟨by decide +kernel, by decide +kernel⟩, List.mem_of_getElem? (i := 621) (by decide +kernel), List.mem_of_getElem? (i := 781) (by decide +kernel), List.mem_of_getElem? (i := 782) (by decide +kernel)⟩
theorem lw_p20 : lw_okq (⟨"CryOrderModel", "counts", "(II)V"⟩, 37) := ⟨⟨by decide +kernel, by decide +kernel⟩, List.mem_of_getElem? (i := 621) (by decide +kernel), List.mem_of_getElem? (i := 789) (by decide +kernel), List.mem_of_getElem? (i := 790) (by decide +kernel)⟩
theorem lw_p21 : lw_okq (⟨"CryOrderModel", "depth", "(I)I"⟩, 37) := ⟨⟨by decide +kernel, by decide +kernel⟩, List.mem_of_getElem? (i := 621) (by decide +kernel), List.mem_of_getElem? (i := 797) (by decide +kernel), List.mem_of_getElem? (i := 798) (by decide +kernel)⟩
theorem lw_p22 : lw_okq (⟨"CryOrderModel", "score", "(I)I"⟩, 37) := ⟨⟨by decide +kernel, by decide +kernel⟩, List.mem_of_getElem? (i := 621) (by decide +kernel), List.mem_of_getElem? (i := 805) (by decide +kernel), List.mem_of_getElem? (i := 806) (by decide +kernel)⟩
theorem lw_p23 : lw_okq (⟨"CryOrderModel", "joins", "()V"⟩, 37) := ⟨⟨by decide +kernel, by decide +kernel⟩, List.mem_of_getElem? (i := 621) (by decide +kernel), List.mem_of_getElem? (i := 809) (by decide +kernel), List.mem_of_getElem? (i := 810) (by decide +kernel)⟩
theorem lw_p24 : lw_okq (⟨"CryOrderModel", "hangs", "(II)Z"⟩, 37) := ⟨⟨by decide +kernel, by decide +kernel⟩, List.mem_of_getElem? (i := 621) (by decide +kernel), List.mem_of_getElem? (i := 813) (by decide +kernel), List.mem_of_getElem? (i := 814) (by decide +kernel)⟩
theorem lw_p25 : lw_okq (⟨"CryOrderModel", "scoreOf", "(I)I"⟩, 37) := ⟨⟨by decide +kernel, by decide +kernel⟩, List.mem_of_getElem? (i := 621) (by decide +kernel), List.mem_of_getElem? (i := 822) (by decide +kernel), List.mem_of_getElem? (i := 823) (by decide +kernel)⟩
theorem lw_p26 : lw_okq (⟨"CryOrderModel", "sizeOf", "(I)I"⟩, 37) := ⟨⟨by decide +kernel, by decide +kernel⟩, List.mem_of_getElem? (i := 621) (by decide +kernel), List.mem_of_getElem? (i := 834) (by decide +kernel), List.mem_of_getElem? (i := 835) (by decide +kernel)⟩
theorem lw_p27 : lw_okq (⟨"CryOrderModel", "minutesOf", "(I)I"⟩, 37) := ⟨⟨by decide +kernel, by decide +kernel⟩, List.mem_of_getElem? (i := 621) (by decide +kernel), List.mem_of_getElem? (i := 838) (by decide +kernel), List.mem_of_getElem? (i := 839) (by decide +kernel)⟩
theorem lw_p28 : lw_okq (⟨"CryOrderModel", "isLittleKnown", "(I)Z"⟩, 37) := ⟨⟨by decide +kernel, by decide +kernel⟩, List.mem_of_getElem? (i := 621) (by decide +kernel), List.mem_of_getElem? (i := 842) (by decide +kernel), List.mem_of_getElem? (i := 843) (by decide +kernel)⟩
theorem lw_p29 : lw_okq (⟨"CryOrderModel", "plans", "(I)V"⟩, 37) := ⟨⟨by decide +kernel, by decide +kernel⟩, List.mem_of_getElem? (i := 621) (by decide +kernel), List.mem_of_getElem? (i := 857) (by decide +kernel), List.mem_of_getElem? (i := 858) (by decide +kernel)⟩
theorem lw_p30 : lw_okq (⟨"CryOrderModel", "isTaken", "(I)Z"⟩, 37) := ⟨⟨by decide +kernel, by decide +kernel⟩, List.mem_of_getElem? (i := 621) (by decide +kernel), List.mem_of_getElem? (i := 861) (by decide +kernel), List.mem_of_getElem? (i := 862) (by decide +kernel)⟩
def lw_privs_2 : List (MethodName × Nat) := [(⟨"CryOrder$Plan", "takeBestOfPool", "()V"⟩, 8), (⟨"CryOrderModel", "isLive", "(I)Z"⟩, 37), (⟨"CryOrderModel", "isAlarm", "(I)Z"⟩, 37), (⟨"CryOrderModel", "tieOf", "(II)I"⟩, 37), (⟨"CryOrderModel", "counts", "(II)V"⟩, 37), (⟨"CryOrderModel", "depth", "(I)I"⟩, 37), (⟨"CryOrderModel", "score", "(I)I"⟩, 37), (⟨"CryOrderModel", "joins", "()V"⟩, 37), (⟨"CryOrderModel", "hangs", "(II)Z"⟩, 37), (⟨"CryOrderModel", "scoreOf", "(I)I"⟩, 37), (⟨"CryOrderModel", "sizeOf", "(I)I"⟩, 37), (⟨"CryOrderModel", "minutesOf", "(I)I"⟩, 37), (⟨"CryOrderModel", "isLittleKnown", "(I)Z"⟩, 37), (⟨"CryOrderModel", "plans", "(I)V"⟩, 37), (⟨"CryOrderModel", "isTaken", "(I)Z"⟩, 37)]
theorem lw_r2 : ∀ q ∈ lw_privs_2, lw_okq q := List.forall_mem_cons.mpr ⟨lw_p16, List.forall_mem_cons.mpr ⟨lw_p17, List.forall_mem_cons.mpr ⟨lw_p18, List.forall_mem_cons.mpr ⟨lw_p19, List.forall_mem_cons.mpr ⟨lw_p20, List.forall_mem_cons.mpr ⟨lw_p21, List.forall_mem_cons.mpr ⟨lw_p22, List.forall_mem_cons.mpr ⟨lw_p23, List.forall_mem_cons.mpr ⟨lw_p24, List.forall_mem_cons.mpr ⟨lw_p25, List.forall_mem_cons.mpr ⟨lw_p26, List.forall_mem_cons.mpr ⟨lw_p27, List.forall_mem_cons.mpr ⟨lw_p28, List.forall_mem_cons.mpr ⟨lw_p29, List.forall_mem_cons.mpr ⟨lw_p30, fun _ h => absurd h List.not_mem_nil⟩⟩⟩⟩⟩⟩⟩⟩⟩⟩⟩⟩⟩⟩⟩
def lw_privs : List (MethodName × Nat) := lw_privs_1 ++ (lw_privs_2)
def lw_tbl : List Cond := k2_sels lw_privs ++ tables_1
theorem lw_privs_ok : ∀ q ∈ lw_privs, lw_okq q := by
  show ∀ q ∈ lw_privs_1 ++ (lw_privs_2), lw_okq q
  exact List.forall_mem_append.mpr ⟨lw_r1, lw_r2⟩
end
section
/-! ===== BEGIN words of one list among another's, by their places ===== -/
theorem goodIn_r {big : List Cond} (ws : List Cond) (ps : List Nat) (hp : ws = ps.filterMap (fun i => big[i]?)) (h : ws.all goodWord = true) : GoodIn big ws := by
  intro w hw
  have h1 := List.all_eq_true.mp h w hw
  rw [hp] at hw
  obtain ⟨i, -, hi⟩ := List.mem_filterMap.mp hw
  have hm : w ∈ big := by first | exact List.mem_of_getElem? hi | exact List.getElem?_mem hi
  exact ⟨hm, good_of_word h1⟩
theorem goodIn_app {big a b : List Cond} (ha : GoodIn big a) (hb : GoodIn big b) : GoodIn big (a ++ b) := fun w h => (List.mem_append.mp h).elim (ha w) (hb w)
theorem goodIn_ca {big a b : List Cond} {c : Cond} (ha : GoodIn big (c :: a)) (hb : GoodIn big b) : GoodIn big (c :: (a ++ b)) := fun w h => (List.mem_cons.mp h).elim (fun e => ha w (List.mem_cons.mpr (Or.inl e))) (fun h => (List.mem_append.mp h).elim (fun h => ha w (List.mem_cons.mpr (Or.inr h))) (hb w))
theorem goodIn_sub {big ws : List Cond} (hm : ∀ w ∈ ws, w ∈ big) (h : ws.all goodWord = true) : GoodIn big ws := fun w hw => ⟨hm w hw, good_of_word (List.all_eq_true.mp h w hw)⟩
/-! ===== END ===== -/

/-! ===== BEGIN printed: names, fields, word lists, decode rows ===== -/
def RX0 : String := "CryOrder$Alarm"
def TX0 : u_T := fun k => match k with
  | 0 => ("CryOrder$Alarm", "number", "I", true)
  | 1 => ("CryOrder$Alarm", "came", "I", true)
  | 2 => ("CryOrder$Alarm", "source", "I", true)
  | 3 => ("CryOrder$Alarm", "thing", "I", true)
  | 4 => ("CryOrder$Alarm", "marks", "I", true)
  | 5 => ("CryOrder$Alarm", "worth", "I", true)
  | 6 => ("CryOrder$Alarm", "leaf", "LCryOrder$Node;", true)
  | 7 => ("CryOrder$Alarm", "led", "LCryOrder$Case;", true)
  | 8 => ("CryOrder$Alarm", "silenced", "Z", false)
  | 9 => ("CryOrder$Alarm", "capped", "Z", false)
  | 10 => ("CryOrder$Alarm", "heardLast", "I", false)
  | 11 => ("CryOrder$Alarm", "repeats", "I", false)
  | 12 => ("CryOrder$Alarm", "state", "I", false)
  | 13 => ("CryOrder$Alarm", "lookersForTrue", "I", false)
  | 14 => ("CryOrder$Alarm", "lookersForFalse", "I", false)
  | 15 => ("CryOrder$Alarm", "soonerOfThing", "LCryOrder$Alarm;", false)
  | _ => ("CryOrder$Alarm", "above", "LCryOrder$Alarm;", false)
def tyX0 : Nat → FieldType := fun k => match k with
  | 0 => .int
  | 1 => .int
  | 2 => .int
  | 3 => .int
  | 4 => .int
  | 5 => .int
  | 6 => .object "CryOrder$Node"
  | 7 => .object "CryOrder$Case"
  | 8 => .boolean
  | 9 => .boolean
  | 10 => .int
  | 11 => .int
  | 12 => .int
  | 13 => .int
  | 14 => .int
  | 15 => .object "CryOrder$Alarm"
  | _ => .object "CryOrder$Alarm"
abbrev wsX00 : List Cond := u_ws RX0 TX0 17
theorem nmX0 : ∀ a, a < 17 → ∀ b, b < 17 → a ≠ b → (TX0 a).2.1 ≠ (TX0 b).2.1 := by decide +kernel
theorem tyX0_ok : ∀ k, k < 17 → parseFieldDescriptor (TX0 k).2.2.1 = some (tyX0 k) := by decide +kernel
abbrev cX0_init : ByteArray := prog_2_method_1_code
def yX0_init : MethodName := ⟨RX0, "<init>", "(IIIIIILCryOrder$Node;)V"⟩
abbrev cX0_isOpen : ByteArray := prog_2_method_2_code
def yX0_isOpen : MethodName := ⟨RX0, "isOpen", "()Z"⟩
abbrev cX0_isHushed : ByteArray := prog_2_method_3_code
def yX0_isHushed : MethodName := ⟨RX0, "isHushed", "()Z"⟩
abbrev cX0_isLive : ByteArray := prog_2_method_4_code
def yX0_isLive : MethodName := ⟨RX0, "isLive", "()Z"⟩
abbrev cX0_repeat : ByteArray := prog_2_method_5_code
def yX0_repeat : MethodName := ⟨RX0, "repeat", "(I)V"⟩
abbrev cX0_hasHeard : ByteArray := prog_2_method_6_code
def yX0_hasHeard : MethodName := ⟨RX0, "hasHeard", "(I)Z"⟩
abbrev cX0_hear : ByteArray := prog_2_method_7_code
def yX0_hear : MethodName := ⟨RX0, "hear", "(IZ)V"⟩
abbrev cX0_verdicts : ByteArray := prog_2_method_8_code
def yX0_verdicts : MethodName := ⟨RX0, "verdicts", "()I"⟩
abbrev cX0_nodeFor : ByteArray := prog_2_method_9_code
def yX0_nodeFor : MethodName := ⟨RX0, "nodeFor", "(I)LCryOrder$Node;"⟩
abbrev cX0_score : ByteArray := prog_2_method_10_code
def yX0_score : MethodName := ⟨RX0, "score", "(I)I"⟩
abbrev cX0_head : ByteArray := prog_2_method_11_code
def yX0_head : MethodName := ⟨RX0, "head", "()LCryOrder$Alarm;"⟩
abbrev cX0_joinCaseOf : ByteArray := prog_2_method_12_code
def yX0_joinCaseOf : MethodName := ⟨RX0, "joinCaseOf", "(LCryOrder$Alarm;)V"⟩
def RX1 : String := "CryOrder$Case"
def TX1 : u_T := fun k => match k with
  | 0 => ("CryOrder$Case", "number", "I", true)
  | 1 => ("CryOrder$Case", "size", "I", false)
  | 2 => ("CryOrder$Case", "score", "I", false)
  | _ => ("CryOrder$Case", "littleKnown", "Z", false)
def tyX1 : Nat → FieldType := fun k => match k with
  | 0 => .int
  | 1 => .int
  | 2 => .int
  | _ => .boolean
abbrev wsX10 : List Cond := u_ws RX1 TX1 4
theorem nmX1 : ∀ a, a < 4 → ∀ b, b < 4 → a ≠ b → (TX1 a).2.1 ≠ (TX1 b).2.1 := by decide +kernel
theorem tyX1_ok : ∀ k, k < 4 → parseFieldDescriptor (TX1 k).2.2.1 = some (tyX1 k) := by decide +kernel
abbrev cX1_init : ByteArray := prog_3_method_1_code
def yX1_init : MethodName := ⟨RX1, "<init>", "(I)V"⟩
abbrev cX1_clear : ByteArray := prog_3_method_2_code
def yX1_clear : MethodName := ⟨RX1, "clear", "()V"⟩
abbrev cX1_add : ByteArray := prog_3_method_3_code
def yX1_add : MethodName := ⟨RX1, "add", "(II)V"⟩
abbrev cX1_minutes : ByteArray := prog_3_method_4_code
def yX1_minutes : MethodName := ⟨RX1, "minutes", "()I"⟩
abbrev cX1_isAheadOf : ByteArray := prog_3_method_5_code
def yX1_isAheadOf : MethodName := ⟨RX1, "isAheadOf", "(LCryOrder$Case;)Z"⟩
def RX2 : String := "CryOrder$Cases"
def TX2 : u_T := fun k => match k with
  | 0 => ("CryOrder$Cases", "ordered", "[LCryOrder$Case;", true)
  | _ => ("CryOrder$Cases", "size", "I", false)
def tyX2 : Nat → FieldType := fun k => match k with
  | 0 => .array (.object "CryOrder$Case")
  | _ => .int
abbrev wsX20 : List Cond := u_ws RX2 TX2 2
theorem nmX2 : ∀ a, a < 2 → ∀ b, b < 2 → a ≠ b → (TX2 a).2.1 ≠ (TX2 b).2.1 := by decide +kernel
theorem tyX2_ok : ∀ k, k < 2 → parseFieldDescriptor (TX2 k).2.2.1 = some (tyX2 k) := by decide +kernel
abbrev cX2_init : ByteArray := prog_4_method_1_code
def yX2_init : MethodName := ⟨RX2, "<init>", "()V"⟩
abbrev cX2_gather : ByteArray := prog_4_method_2_code
def yX2_gather : MethodName := ⟨RX2, "gather", "([LCryOrder$Alarm;ILCryOrder$Ties;I)V"⟩
abbrev cX2_at : ByteArray := prog_4_method_3_code
def yX2_at : MethodName := ⟨RX2, "at", "(I)LCryOrder$Case;"⟩
abbrev cX2_scoreOfAll : ByteArray := prog_4_method_4_code
def yX2_scoreOfAll : MethodName := ⟨RX2, "scoreOfAll", "()I"⟩
abbrev cX2_joinWithSoonerOnes : ByteArray := prog_4_method_5_code
def yX2_joinWithSoonerOnes : MethodName := ⟨RX2, "joinWithSoonerOnes", "(LCryOrder$Alarm;LCryOrder$Ties;)V"⟩
abbrev cX2_joinToldOnes : ByteArray := prog_4_method_6_code
def yX2_joinToldOnes : MethodName := ⟨RX2, "joinToldOnes", "([LCryOrder$Alarm;ILCryOrder$Ties;)V"⟩
abbrev cX2_fillCases : ByteArray := prog_4_method_7_code
def yX2_fillCases : MethodName := ⟨RX2, "fillCases", "([LCryOrder$Alarm;II)V"⟩
abbrev cX2_putInOrder : ByteArray := prog_4_method_8_code
def yX2_putInOrder : MethodName := ⟨RX2, "putInOrder", "([LCryOrder$Alarm;I)V"⟩
abbrev cX2_putInPlace : ByteArray := prog_4_method_9_code
def yX2_putInPlace : MethodName := ⟨RX2, "putInPlace", "(LCryOrder$Case;)V"⟩
def RX3 : String := "CryOrder$Node"
def TX3 : u_T := fun k => match k with
  | 0 => ("CryOrder$Node", "parent", "LCryOrder$Node;", true)
  | 1 => ("CryOrder$Node", "depth", "I", true)
  | 2 => ("CryOrder$Node", "mark", "I", true)
  | 3 => ("CryOrder$Node", "sibling", "LCryOrder$Node;", true)
  | 4 => ("CryOrder$Node", "firstChild", "LCryOrder$Node;", false)
  | 5 => ("CryOrder$Node", "settledTrue", "I", false)
  | 6 => ("CryOrder$Node", "settled", "I", false)
  | _ => ("CryOrder$Node", "open", "I", false)
def tyX3 : Nat → FieldType := fun k => match k with
  | 0 => .object "CryOrder$Node"
  | 1 => .int
  | 2 => .int
  | 3 => .object "CryOrder$Node"
  | 4 => .object "CryOrder$Node"
  | 5 => .int
  | 6 => .int
  | _ => .int
abbrev wsX30 : List Cond := u_ws RX3 TX3 8
theorem nmX3 : ∀ a, a < 8 → ∀ b, b < 8 → a ≠ b → (TX3 a).2.1 ≠ (TX3 b).2.1 := by decide +kernel
theorem tyX3_ok : ∀ k, k < 8 → parseFieldDescriptor (TX3 k).2.2.1 = some (tyX3 k) := by decide +kernel
abbrev cX3_init : ByteArray := prog_5_method_1_code
def yX3_init : MethodName := ⟨RX3, "<init>", "(LCryOrder$Node;ILCryOrder$Node;)V"⟩
abbrev cX3_markAt : ByteArray := prog_5_method_2_code
def yX3_markAt : MethodName := ⟨RX3, "markAt", "(II)I"⟩
abbrev cX3_child : ByteArray := prog_5_method_3_code
def yX3_child : MethodName := ⟨RX3, "child", "(I)LCryOrder$Node;"⟩
abbrev cX3_find : ByteArray := prog_5_method_4_code
def yX3_find : MethodName := ⟨RX3, "find", "(II)LCryOrder$Node;"⟩
abbrev cX3_grow : ByteArray := prog_5_method_5_code
def yX3_grow : MethodName := ⟨RX3, "grow", "(I)LCryOrder$Node;"⟩
abbrev cX3_addOpen : ByteArray := prog_5_method_6_code
def yX3_addOpen : MethodName := ⟨RX3, "addOpen", "()V"⟩
abbrev cX3_settle : ByteArray := prog_5_method_7_code
def yX3_settle : MethodName := ⟨RX3, "settle", "(Z)V"⟩
abbrev cX3_oddsUpper : ByteArray := prog_5_method_8_code
def yX3_oddsUpper : MethodName := ⟨RX3, "oddsUpper", "()I"⟩
abbrev cX3_oddsLower : ByteArray := prog_5_method_9_code
def yX3_oddsLower : MethodName := ⟨RX3, "oddsLower", "()I"⟩
def RX4 : String := "CryOrder$Pair"
def TX4 : u_T := fun k => match k with
  | 0 => ("CryOrder$Pair", "lesser", "I", true)
  | 1 => ("CryOrder$Pair", "greater", "I", true)
  | _ => ("CryOrder$Pair", "joined", "Z", false)
def tyX4 : Nat → FieldType := fun k => match k with
  | 0 => .int
  | 1 => .int
  | _ => .boolean
abbrev wsX40 : List Cond := u_ws RX4 TX4 3
theorem nmX4 : ∀ a, a < 3 → ∀ b, b < 3 → a ≠ b → (TX4 a).2.1 ≠ (TX4 b).2.1 := by decide +kernel
theorem tyX4_ok : ∀ k, k < 3 → parseFieldDescriptor (TX4 k).2.2.1 = some (tyX4 k) := by decide +kernel
abbrev cX4_init : ByteArray := prog_6_method_1_code
def yX4_init : MethodName := ⟨RX4, "<init>", "(IIZ)V"⟩
def RX5 : String := "CryOrder$Plan"
def TX5 : u_T := fun k => match k with
  | 0 => ("CryOrder$Plan", "taken", "[LCryOrder$Case;", true)
  | 1 => ("CryOrder$Plan", "pool", "[LCryOrder$Case;", true)
  | 2 => ("CryOrder$Plan", "best", "[I", true)
  | 3 => ("CryOrder$Plan", "needed", "[I", true)
  | 4 => ("CryOrder$Plan", "takenCount", "I", false)
  | 5 => ("CryOrder$Plan", "poolCount", "I", false)
  | 6 => ("CryOrder$Plan", "scoreTaken", "I", false)
  | _ => ("CryOrder$Plan", "minutesLeft", "I", false)
def tyX5 : Nat → FieldType := fun k => match k with
  | 0 => .array (.object "CryOrder$Case")
  | 1 => .array (.object "CryOrder$Case")
  | 2 => .array .int
  | 3 => .array .int
  | 4 => .int
  | 5 => .int
  | 6 => .int
  | _ => .int
abbrev wsX50 : List Cond := u_ws RX5 TX5 8
theorem nmX5 : ∀ a, a < 8 → ∀ b, b < 8 → a ≠ b → (TX5 a).2.1 ≠ (TX5 b).2.1 := by decide +kernel
theorem tyX5_ok : ∀ k, k < 8 → parseFieldDescriptor (TX5 k).2.2.1 = some (tyX5 k) := by decide +kernel
abbrev cX5_init : ByteArray := prog_7_method_1_code
def yX5_init : MethodName := ⟨RX5, "<init>", "()V"⟩
abbrev cX5_make : ByteArray := prog_7_method_2_code
def yX5_make : MethodName := ⟨RX5, "make", "(LCryOrder$Cases;II)V"⟩
abbrev cX5_at : ByteArray := prog_7_method_3_code
def yX5_at : MethodName := ⟨RX5, "at", "(I)LCryOrder$Case;"⟩
abbrev cX5_take : ByteArray := prog_7_method_4_code
def yX5_take : MethodName := ⟨RX5, "take", "(LCryOrder$Case;)V"⟩
abbrev cX5_isTaken : ByteArray := prog_7_method_5_code
def yX5_isTaken : MethodName := ⟨RX5, "isTaken", "(LCryOrder$Case;)Z"⟩
abbrev cX5_takeTries : ByteArray := prog_7_method_6_code
def yX5_takeTries : MethodName := ⟨RX5, "takeTries", "(LCryOrder$Cases;I)V"⟩
abbrev cX5_fillPool : ByteArray := prog_7_method_7_code
def yX5_fillPool : MethodName := ⟨RX5, "fillPool", "(LCryOrder$Cases;)V"⟩
abbrev cX5_weighPool : ByteArray := prog_7_method_8_code
def yX5_weighPool : MethodName := ⟨RX5, "weighPool", "()V"⟩
abbrev cX5_takeBestOfPool : ByteArray := prog_7_method_9_code
def yX5_takeBestOfPool : MethodName := ⟨RX5, "takeBestOfPool", "()V"⟩
def RX6 : String := "CryOrder$Silence"
def TX6 : u_T := fun k => match k with
  | 0 => ("CryOrder$Silence", "source", "I", true)
  | 1 => ("CryOrder$Silence", "from", "I", true)
  | _ => ("CryOrder$Silence", "to", "I", true)
def tyX6 : Nat → FieldType := fun k => match k with
  | 0 => .int
  | 1 => .int
  | _ => .int
abbrev wsX60 : List Cond := u_ws RX6 TX6 3
theorem nmX6 : ∀ a, a < 3 → ∀ b, b < 3 → a ≠ b → (TX6 a).2.1 ≠ (TX6 b).2.1 := by decide +kernel
theorem tyX6_ok : ∀ k, k < 3 → parseFieldDescriptor (TX6 k).2.2.1 = some (tyX6 k) := by decide +kernel
abbrev cX6_init : ByteArray := prog_8_method_1_code
def yX6_init : MethodName := ⟨RX6, "<init>", "(III)V"⟩
abbrev cX6_covers : ByteArray := prog_8_method_2_code
def yX6_covers : MethodName := ⟨RX6, "covers", "(II)Z"⟩
def RX7 : String := "CryOrder$Ties"
def TX7 : u_T := fun k => match k with
  | 0 => ("CryOrder$Ties", "pairs", "[LCryOrder$Pair;", true)
  | _ => ("CryOrder$Ties", "size", "I", false)
def tyX7 : Nat → FieldType := fun k => match k with
  | 0 => .array (.object "CryOrder$Pair")
  | _ => .int
abbrev wsX70 : List Cond := u_ws RX7 TX7 2
theorem nmX7 : ∀ a, a < 2 → ∀ b, b < 2 → a ≠ b → (TX7 a).2.1 ≠ (TX7 b).2.1 := by decide +kernel
theorem tyX7_ok : ∀ k, k < 2 → parseFieldDescriptor (TX7 k).2.2.1 = some (tyX7 k) := by decide +kernel
abbrev cX7_init : ByteArray := prog_9_method_1_code
def yX7_init : MethodName := ⟨RX7, "<init>", "()V"⟩
abbrev cX7_find : ByteArray := prog_9_method_2_code
def yX7_find : MethodName := ⟨RX7, "find", "(II)LCryOrder$Pair;"⟩
abbrev cX7_tell : ByteArray := prog_9_method_3_code
def yX7_tell : MethodName := ⟨RX7, "tell", "(IIZ)Z"⟩
abbrev cX7_isParted : ByteArray := prog_9_method_4_code
def yX7_isParted : MethodName := ⟨RX7, "isParted", "(II)Z"⟩
def RX8 : String := "CryOrder"
def TX8 : u_T := fun k => match k with
  | 0 => ("CryOrder", "alarms", "[LCryOrder$Alarm;", true)
  | 1 => ("CryOrder", "latestOfThing", "[LCryOrder$Alarm;", true)
  | 2 => ("CryOrder", "silences", "[LCryOrder$Silence;", true)
  | 3 => ("CryOrder", "root", "LCryOrder$Node;", true)
  | 4 => ("CryOrder", "ties", "LCryOrder$Ties;", true)
  | 5 => ("CryOrder", "cases", "LCryOrder$Cases;", true)
  | 6 => ("CryOrder", "planner", "LCryOrder$Plan;", true)
  | 7 => ("CryOrder", "alarmCount", "I", false)
  | 8 => ("CryOrder", "silenceCount", "I", false)
  | 9 => ("CryOrder", "now", "I", false)
  | 10 => ("CryOrder", "cap", "I", false)
  | 11 => ("CryOrder", "leastSettled", "I", false)
  | 12 => ("CryOrder", "tries", "I", false)
  | _ => ("CryOrder", "casesAreStale", "Z", false)
def tyX8 : Nat → FieldType := fun k => match k with
  | 0 => .array (.object "CryOrder$Alarm")
  | 1 => .array (.object "CryOrder$Alarm")
  | 2 => .array (.object "CryOrder$Silence")
  | 3 => .object "CryOrder$Node"
  | 4 => .object "CryOrder$Ties"
  | 5 => .object "CryOrder$Cases"
  | 6 => .object "CryOrder$Plan"
  | 7 => .int
  | 8 => .int
  | 9 => .int
  | 10 => .int
  | 11 => .int
  | 12 => .int
  | _ => .boolean
abbrev wsX80 : List Cond := u_ws RX8 TX8 14
theorem nmX8 : ∀ a, a < 14 → ∀ b, b < 14 → a ≠ b → (TX8 a).2.1 ≠ (TX8 b).2.1 := by decide +kernel
theorem tyX8_ok : ∀ k, k < 14 → parseFieldDescriptor (TX8 k).2.2.1 = some (tyX8 k) := by decide +kernel
abbrev cX8_init : ByteArray := prog_1_method_1_code
def yX8_init : MethodName := ⟨RX8, "<init>", "()V"⟩
abbrev cX8_pass : ByteArray := prog_1_method_2_code
def yX8_pass : MethodName := ⟨RX8, "pass", "(I)I"⟩
abbrev cX8_alarm : ByteArray := prog_1_method_3_code
def yX8_alarm : MethodName := ⟨RX8, "alarm", "(IIII)I"⟩
abbrev cX8_silence : ByteArray := prog_1_method_4_code
def yX8_silence : MethodName := ⟨RX8, "silence", "(III)I"⟩
abbrev cX8_set : ByteArray := prog_1_method_5_code
def yX8_set : MethodName := ⟨RX8, "set", "(II)Z"⟩
abbrev cX8_verdict : ByteArray := prog_1_method_6_code
def yX8_verdict : MethodName := ⟨RX8, "verdict", "(IIZ)I"⟩
abbrev cX8_tie : ByteArray := prog_1_method_7_code
def yX8_tie : MethodName := ⟨RX8, "tie", "(IIZ)Z"⟩
abbrev cX8_told : ByteArray := prog_1_method_8_code
def yX8_told : MethodName := ⟨RX8, "told", "(II)I"⟩
abbrev cX8_node : ByteArray := prog_1_method_9_code
def yX8_node : MethodName := ⟨RX8, "node", "(III)I"⟩
abbrev cX8_odds : ByteArray := prog_1_method_10_code
def yX8_odds : MethodName := ⟨RX8, "odds", "(II)I"⟩
abbrev cX8_order : ByteArray := prog_1_method_11_code
def yX8_order : MethodName := ⟨RX8, "order", "(I)I"⟩
abbrev cX8_caseOf : ByteArray := prog_1_method_12_code
def yX8_caseOf : MethodName := ⟨RX8, "caseOf", "(II)I"⟩
abbrev cX8_slow : ByteArray := prog_1_method_13_code
def yX8_slow : MethodName := ⟨RX8, "slow", "(I)I"⟩
abbrev cX8_plan : ByteArray := prog_1_method_14_code
def yX8_plan : MethodName := ⟨RX8, "plan", "(II)I"⟩
abbrev cX8_worth : ByteArray := prog_1_method_15_code
def yX8_worth : MethodName := ⟨RX8, "worth", "(II)I"⟩
abbrev cX8_source : ByteArray := prog_1_method_16_code
def yX8_source : MethodName := ⟨RX8, "source", "(II)I"⟩
abbrev cX8_count : ByteArray := prog_1_method_17_code
def yX8_count : MethodName := ⟨RX8, "count", "(I)I"⟩
abbrev cX8_isBelow : ByteArray := prog_1_method_18_code
def yX8_isBelow : MethodName := ⟨RX8, "isBelow", "(II)Z"⟩
abbrev cX8_oneIf : ByteArray := prog_1_method_19_code
def yX8_oneIf : MethodName := ⟨RX8, "oneIf", "(Z)I"⟩
abbrev cX8_inLowestTerms : ByteArray := prog_1_method_20_code
def yX8_inLowestTerms : MethodName := ⟨RX8, "inLowestTerms", "(IIZ)I"⟩
abbrev cX8_isOfKind : ByteArray := prog_1_method_21_code
def yX8_isOfKind : MethodName := ⟨RX8, "isOfKind", "(LCryOrder$Alarm;I)Z"⟩
abbrev cX8_alarmAt : ByteArray := prog_1_method_22_code
def yX8_alarmAt : MethodName := ⟨RX8, "alarmAt", "(I)LCryOrder$Alarm;"⟩
abbrev cX8_alarmToRepeat : ByteArray := prog_1_method_23_code
def yX8_alarmToRepeat : MethodName := ⟨RX8, "alarmToRepeat", "(III)LCryOrder$Alarm;"⟩
abbrev cX8_isSilencedNow : ByteArray := prog_1_method_24_code
def yX8_isSilencedNow : MethodName := ⟨RX8, "isSilencedNow", "(I)Z"⟩
abbrev cX8_isCapFullNow : ByteArray := prog_1_method_25_code
def yX8_isCapFullNow : MethodName := ⟨RX8, "isCapFullNow", "(I)Z"⟩
abbrev cX8_casesNow : ByteArray := prog_1_method_26_code
def yX8_casesNow : MethodName := ⟨RX8, "casesNow", "()LCryOrder$Cases;"⟩
abbrev cX8_caseNumberOf : ByteArray := prog_1_method_27_code
def yX8_caseNumberOf : MethodName := ⟨RX8, "caseNumberOf", "(LCryOrder$Alarm;)I"⟩
abbrev cX8_memberOf : ByteArray := prog_1_method_28_code
def yX8_memberOf : MethodName := ⟨RX8, "memberOf", "(LCryOrder$Alarm;I)I"⟩
def RX9 : String := "CryOrderModel"
def TX9 : u_T := fun k => match k with
  | 0 => ("CryOrderModel", "now", "I", false)
  | 1 => ("CryOrderModel", "alarms", "I", false)
  | 2 => ("CryOrderModel", "silences", "I", false)
  | 3 => ("CryOrderModel", "ties", "I", false)
  | 4 => ("CryOrderModel", "cap", "I", false)
  | 5 => ("CryOrderModel", "needs", "I", false)
  | 6 => ("CryOrderModel", "tries", "I", false)
  | 7 => ("CryOrderModel", "came", "[I", true)
  | 8 => ("CryOrderModel", "last", "[I", true)
  | 9 => ("CryOrderModel", "source", "[I", true)
  | 10 => ("CryOrderModel", "thing", "[I", true)
  | 11 => ("CryOrderModel", "marks", "[I", true)
  | 12 => ("CryOrderModel", "worth", "[I", true)
  | 13 => ("CryOrderModel", "repeats", "[I", true)
  | 14 => ("CryOrderModel", "state", "[I", true)
  | 15 => ("CryOrderModel", "saidTrue", "[I", true)
  | 16 => ("CryOrderModel", "saidFalse", "[I", true)
  | 17 => ("CryOrderModel", "isSilenced", "[Z", true)
  | 18 => ("CryOrderModel", "isCapped", "[Z", true)
  | 19 => ("CryOrderModel", "silenced", "[I", true)
  | 20 => ("CryOrderModel", "from", "[I", true)
  | 21 => ("CryOrderModel", "to", "[I", true)
  | 22 => ("CryOrderModel", "tieA", "[I", true)
  | 23 => ("CryOrderModel", "tieB", "[I", true)
  | 24 => ("CryOrderModel", "isJoined", "[Z", true)
  | 25 => ("CryOrderModel", "trues", "I", false)
  | 26 => ("CryOrderModel", "settled", "I", false)
  | 27 => ("CryOrderModel", "opens", "I", false)
  | 28 => ("CryOrderModel", "caseNumber", "[I", true)
  | 29 => ("CryOrderModel", "scores", "[I", true)
  | 30 => ("CryOrderModel", "order", "[I", true)
  | 31 => ("CryOrderModel", "cases", "I", false)
  | 32 => ("CryOrderModel", "taken", "[I", true)
  | 33 => ("CryOrderModel", "rest", "[I", true)
  | 34 => ("CryOrderModel", "takenMany", "I", false)
  | 35 => ("CryOrderModel", "restMinutes", "[I", true)
  | _ => ("CryOrderModel", "restScores", "[I", true)
def tyX9 : Nat → FieldType := fun k => match k with
  | 0 => .int
  | 1 => .int
  | 2 => .int
  | 3 => .int
  | 4 => .int
  | 5 => .int
  | 6 => .int
  | 7 => .array .int
  | 8 => .array .int
  | 9 => .array .int
  | 10 => .array .int
  | 11 => .array .int
  | 12 => .array .int
  | 13 => .array .int
  | 14 => .array .int
  | 15 => .array .int
  | 16 => .array .int
  | 17 => .array .boolean
  | 18 => .array .boolean
  | 19 => .array .int
  | 20 => .array .int
  | 21 => .array .int
  | 22 => .array .int
  | 23 => .array .int
  | 24 => .array .boolean
  | 25 => .int
  | 26 => .int
  | 27 => .int
  | 28 => .array .int
  | 29 => .array .int
  | 30 => .array .int
  | 31 => .int
  | 32 => .array .int
  | 33 => .array .int
  | 34 => .int
  | 35 => .array .int
  | _ => .array .int
abbrev wsX90 : List Cond := u_ws RX9 TX9 37
theorem nmX9 : ∀ a, a < 37 → ∀ b, b < 37 → a ≠ b → (TX9 a).2.1 ≠ (TX9 b).2.1 := by decide +kernel
theorem tyX9_ok : ∀ k, k < 37 → parseFieldDescriptor (TX9 k).2.2.1 = some (tyX9 k) := by decide +kernel
abbrev cX9_init : ByteArray := prog_11_method_1_code
def yX9_init : MethodName := ⟨RX9, "<init>", "()V"⟩
abbrev cX9_isIn : ByteArray := prog_11_method_2_code
def yX9_isIn : MethodName := ⟨RX9, "isIn", "(III)Z"⟩
abbrev cX9_one : ByteArray := prog_11_method_3_code
def yX9_one : MethodName := ⟨RX9, "one", "(Z)I"⟩
abbrev cX9_isAlarm : ByteArray := prog_11_method_4_code
def yX9_isAlarm : MethodName := ⟨RX9, "isAlarm", "(I)Z"⟩
abbrev cX9_pass : ByteArray := prog_11_method_5_code
def yX9_pass : MethodName := ⟨RX9, "pass", "(I)I"⟩
abbrev cX9_isLive : ByteArray := prog_11_method_6_code
def yX9_isLive : MethodName := ⟨RX9, "isLive", "(I)Z"⟩
abbrev cX9_alarm : ByteArray := prog_11_method_7_code
def yX9_alarm : MethodName := ⟨RX9, "alarm", "(IIII)I"⟩
abbrev cX9_silence : ByteArray := prog_11_method_8_code
def yX9_silence : MethodName := ⟨RX9, "silence", "(III)I"⟩
abbrev cX9_set : ByteArray := prog_11_method_9_code
def yX9_set : MethodName := ⟨RX9, "set", "(II)Z"⟩
abbrev cX9_many : ByteArray := prog_11_method_10_code
def yX9_many : MethodName := ⟨RX9, "many", "(I)I"⟩
abbrev cX9_verdict : ByteArray := prog_11_method_11_code
def yX9_verdict : MethodName := ⟨RX9, "verdict", "(IIZ)I"⟩
abbrev cX9_tieOf : ByteArray := prog_11_method_12_code
def yX9_tieOf : MethodName := ⟨RX9, "tieOf", "(II)I"⟩
abbrev cX9_tie : ByteArray := prog_11_method_13_code
def yX9_tie : MethodName := ⟨RX9, "tie", "(IIZ)Z"⟩
abbrev cX9_counts : ByteArray := prog_11_method_14_code
def yX9_counts : MethodName := ⟨RX9, "counts", "(II)V"⟩
abbrev cX9_depth : ByteArray := prog_11_method_15_code
def yX9_depth : MethodName := ⟨RX9, "depth", "(I)I"⟩
abbrev cX9_score : ByteArray := prog_11_method_16_code
def yX9_score : MethodName := ⟨RX9, "score", "(I)I"⟩
abbrev cX9_node : ByteArray := prog_11_method_17_code
def yX9_node : MethodName := ⟨RX9, "node", "(III)I"⟩
abbrev cX9_odds : ByteArray := prog_11_method_18_code
def yX9_odds : MethodName := ⟨RX9, "odds", "(II)I"⟩
abbrev cX9_hangs : ByteArray := prog_11_method_19_code
def yX9_hangs : MethodName := ⟨RX9, "hangs", "(II)Z"⟩
abbrev cX9_joins : ByteArray := prog_11_method_20_code
def yX9_joins : MethodName := ⟨RX9, "joins", "()V"⟩
abbrev cX9_scoreOf : ByteArray := prog_11_method_21_code
def yX9_scoreOf : MethodName := ⟨RX9, "scoreOf", "(I)I"⟩
abbrev cX9_sizeOf : ByteArray := prog_11_method_22_code
def yX9_sizeOf : MethodName := ⟨RX9, "sizeOf", "(I)I"⟩
abbrev cX9_minutesOf : ByteArray := prog_11_method_23_code
def yX9_minutesOf : MethodName := ⟨RX9, "minutesOf", "(I)I"⟩
abbrev cX9_isLittleKnown : ByteArray := prog_11_method_24_code
def yX9_isLittleKnown : MethodName := ⟨RX9, "isLittleKnown", "(I)Z"⟩
abbrev cX9_told : ByteArray := prog_11_method_25_code
def yX9_told : MethodName := ⟨RX9, "told", "(II)I"⟩
abbrev cX9_order : ByteArray := prog_11_method_26_code
def yX9_order : MethodName := ⟨RX9, "order", "(I)I"⟩
abbrev cX9_caseOf : ByteArray := prog_11_method_27_code
def yX9_caseOf : MethodName := ⟨RX9, "caseOf", "(II)I"⟩
abbrev cX9_slow : ByteArray := prog_11_method_28_code
def yX9_slow : MethodName := ⟨RX9, "slow", "(I)I"⟩
abbrev cX9_isTaken : ByteArray := prog_11_method_29_code
def yX9_isTaken : MethodName := ⟨RX9, "isTaken", "(I)Z"⟩
abbrev cX9_plans : ByteArray := prog_11_method_30_code
def yX9_plans : MethodName := ⟨RX9, "plans", "(I)V"⟩
abbrev cX9_isPlan : ByteArray := prog_11_method_31_code
def yX9_isPlan : MethodName := ⟨RX9, "isPlan", "(I)Z"⟩
abbrev cX9_plan : ByteArray := prog_11_method_32_code
def yX9_plan : MethodName := ⟨RX9, "plan", "(II)I"⟩
abbrev cX9_worth : ByteArray := prog_11_method_33_code
def yX9_worth : MethodName := ⟨RX9, "worth", "(II)I"⟩
abbrev cX9_source : ByteArray := prog_11_method_34_code
def yX9_source : MethodName := ⟨RX9, "source", "(II)I"⟩
abbrev cX9_count : ByteArray := prog_11_method_35_code
def yX9_count : MethodName := ⟨RX9, "count", "(I)I"⟩
def RJ6 : String := "java/lang/Integer"
def TJ6 : u_T := fun k => match k with
  | _ => ("", "", "", false)
def tyJ6 : Nat → FieldType := fun k => match k with
  | _ => .int
abbrev wsJ60 : List Cond := u_ws RJ6 TJ6 0
theorem nmJ6 : ∀ a, a < 0 → ∀ b, b < 0 → a ≠ b → (TJ6 a).2.1 ≠ (TJ6 b).2.1 := by decide +kernel
theorem tyJ6_ok : ∀ k, k < 0 → parseFieldDescriptor (TJ6 k).2.2.1 = some (tyJ6 k) := by decide +kernel
abbrev cJ6_bitCount_0f7a4 : ByteArray := prog_12_method_49_code
def yJ6_bitCount_0f7a4 : MethodName := ⟨RJ6, "bitCount", "(I)I"⟩
def RJ9 : String := "java/lang/Math"
def TJ9 : u_T := fun k => match k with
  | _ => ("", "", "", false)
def tyJ9 : Nat → FieldType := fun k => match k with
  | _ => .int
abbrev wsJ90 : List Cond := u_ws RJ9 TJ9 0
theorem nmJ9 : ∀ a, a < 0 → ∀ b, b < 0 → a ≠ b → (TJ9 a).2.1 ≠ (TJ9 b).2.1 := by decide +kernel
theorem tyJ9_ok : ∀ k, k < 0 → parseFieldDescriptor (TJ9 k).2.2.1 = some (tyJ9 k) := by decide +kernel
abbrev cJ9_abs_0f7a4 : ByteArray := prog_13_method_59_code
def yJ9_abs_0f7a4 : MethodName := ⟨RJ9, "abs", "(I)I"⟩
abbrev cJ9_max_7cf53 : ByteArray := prog_13_method_65_code
def yJ9_max_7cf53 : MethodName := ⟨RJ9, "max", "(II)I"⟩
abbrev cJ9_min_7cf53 : ByteArray := prog_13_method_69_code
def yJ9_min_7cf53 : MethodName := ⟨RJ9, "min", "(II)I"⟩
def RL : String := "CryOrderLaw"
abbrev cL_law : ByteArray := code
def yL_law : MethodName := ⟨RL, "law", "([I)Z"⟩
def wsX1_init : List Cond := .code yX1_init cX1_init 2 none :: ([.methodLink RX1 1 objectInit, .instanceMethod objectInit, .code objectInit ⟨#[0xb1]⟩ 1 none, .fieldLink RX1 7 "CryOrder$Case" "number" "I"] ++ wsX10)
def wsX0_init : List Cond := .code yX0_init cX0_init 8 none :: ([.methodLink RX0 3 objectInit, .instanceMethod objectInit, .code objectInit ⟨#[0xb1]⟩ 1 none, .fieldLink RX0 9 "CryOrder$Alarm" "state" "I", .fieldLink RX0 15 "CryOrder$Alarm" "number" "I", .fieldLink RX0 18 "CryOrder$Alarm" "came" "I", .fieldLink RX0 21 "CryOrder$Alarm" "source" "I", .fieldLink RX0 24 "CryOrder$Alarm" "thing" "I", .fieldLink RX0 27 "CryOrder$Alarm" "marks" "I", .fieldLink RX0 30 "CryOrder$Alarm" "worth" "I", .fieldLink RX0 33 "CryOrder$Alarm" "leaf" "LCryOrder$Node;", .classLink RX0 37 RX1, .instantiable RX1 4, .initialized RX1, .fieldLink RX0 42 "CryOrder$Alarm" "led" "LCryOrder$Case;", .fieldLink RX0 46 "CryOrder$Alarm" "heardLast" "I", .methodLink RX0 39 yX1_init, .instanceMethod yX1_init, .code yX1_init cX1_init 2 none, .methodLink RX1 1 objectInit, .fieldLink RX1 7 "CryOrder$Case" "number" "I"] ++ wsX00 ++ wsX10)
def wsX0_isOpen : List Cond := .code yX0_isOpen cX0_isOpen 1 (some .boolean) :: ([.fieldLink RX0 9 "CryOrder$Alarm" "state" "I"] ++ wsX00)
def wsX0_isHushed : List Cond := .code yX0_isHushed cX0_isHushed 1 (some .boolean) :: ([.fieldLink RX0 49 "CryOrder$Alarm" "silenced" "Z", .fieldLink RX0 53 "CryOrder$Alarm" "capped" "Z"] ++ wsX00)
def wsX0_isLive : List Cond := .code yX0_isLive cX0_isLive 1 (some .boolean) :: ([.methodLink RX0 56 yX0_isOpen, .instanceMethod yX0_isOpen, .selects RX0 yX0_isOpen yX0_isOpen, .initialized RX0, .code yX0_isOpen cX0_isOpen 1 (some .boolean), .fieldLink RX0 9 "CryOrder$Alarm" "state" "I", .methodLink RX0 60 yX0_isHushed, .instanceMethod yX0_isHushed, .selects RX0 yX0_isHushed yX0_isHushed, .code yX0_isHushed cX0_isHushed 1 (some .boolean), .fieldLink RX0 49 "CryOrder$Alarm" "silenced" "Z", .fieldLink RX0 53 "CryOrder$Alarm" "capped" "Z"] ++ wsX00)
def wsX0_repeat : List Cond := .code yX0_repeat cX0_repeat 2 none :: ([.fieldLink RX0 63 "CryOrder$Alarm" "repeats" "I", .fieldLink RX0 46 "CryOrder$Alarm" "heardLast" "I"] ++ wsX00)
def wsX0_hasHeard : List Cond := .code yX0_hasHeard cX0_hasHeard 2 (some .boolean) :: ([.fieldLink RX0 66 "CryOrder$Alarm" "lookersForTrue" "I", .fieldLink RX0 69 "CryOrder$Alarm" "lookersForFalse" "I"] ++ wsX00)
def wsJ6_bitCount_0f7a4 : List Cond := .code yJ6_bitCount_0f7a4 cJ6_bitCount_0f7a4 1 (some .int) :: ([.constant RJ6 265 (1431655765), .constant RJ6 266 (858993459), .constant RJ6 267 (252645135)])
def wsX0_hear : List Cond := .code yX0_hear cX0_hear 3 none :: ([.fieldLink RX0 66 "CryOrder$Alarm" "lookersForTrue" "I", .fieldLink RX0 69 "CryOrder$Alarm" "lookersForFalse" "I", .fieldLink RX0 9 "CryOrder$Alarm" "state" "I", .methodLink RX0 72 yJ6_bitCount_0f7a4, .static yJ6_bitCount_0f7a4, .initialized RJ6, .code yJ6_bitCount_0f7a4 cJ6_bitCount_0f7a4 1 (some .int), .constant RJ6 265 (1431655765), .constant RJ6 266 (858993459), .constant RJ6 267 (252645135)] ++ wsX00)
def wsX0_verdicts : List Cond := .code yX0_verdicts cX0_verdicts 1 (some .int) :: ([.fieldLink RX0 66 "CryOrder$Alarm" "lookersForTrue" "I", .fieldLink RX0 69 "CryOrder$Alarm" "lookersForFalse" "I", .methodLink RX0 72 yJ6_bitCount_0f7a4, .static yJ6_bitCount_0f7a4, .initialized RJ6, .code yJ6_bitCount_0f7a4 cJ6_bitCount_0f7a4 1 (some .int), .constant RJ6 265 (1431655765), .constant RJ6 266 (858993459), .constant RJ6 267 (252645135)] ++ wsX00)
def wsX0_nodeFor : List Cond := .code yX0_nodeFor cX0_nodeFor 3 (some (.object "CryOrder$Node")) :: ([.fieldLink RX0 33 "CryOrder$Alarm" "leaf" "LCryOrder$Node;", .fieldLink RX0 78 "CryOrder$Node" "settled" "I", .fieldLink RX0 83 "CryOrder$Node" "parent" "LCryOrder$Node;"] ++ wsX00 ++ wsX30)
def wsX3_oddsLower : List Cond := .code yX3_oddsLower cX3_oddsLower 1 (some .int) :: ([.fieldLink RX3 42 "CryOrder$Node" "settled" "I"] ++ wsX30)
def wsX3_oddsUpper : List Cond := .code yX3_oddsUpper cX3_oddsUpper 1 (some .int) :: ([.fieldLink RX3 42 "CryOrder$Node" "settled" "I", .fieldLink RX3 45 "CryOrder$Node" "settledTrue" "I"] ++ wsX30)
def wsX0_score : List Cond := .code yX0_score cX0_score 4 (some .int) :: ([.fieldLink RX0 30 "CryOrder$Alarm" "worth" "I", .methodLink RX0 86 yX0_nodeFor, .instanceMethod yX0_nodeFor, .selects RX0 yX0_nodeFor yX0_nodeFor, .initialized RX0, .code yX0_nodeFor cX0_nodeFor 3 (some (.object "CryOrder$Node")), .fieldLink RX0 33 "CryOrder$Alarm" "leaf" "LCryOrder$Node;", .fieldLink RX0 78 "CryOrder$Node" "settled" "I", .fieldLink RX0 83 "CryOrder$Node" "parent" "LCryOrder$Node;", .methodLink RX0 90 yX3_oddsLower, .instanceMethod yX3_oddsLower, .selects RX3 yX3_oddsLower yX3_oddsLower, .initialized RX3, .code yX3_oddsLower cX3_oddsLower 1 (some .int), .fieldLink RX3 42 "CryOrder$Node" "settled" "I", .methodLink RX0 94 yX3_oddsUpper, .instanceMethod yX3_oddsUpper, .selects RX3 yX3_oddsUpper yX3_oddsUpper, .code yX3_oddsUpper cX3_oddsUpper 1 (some .int), .fieldLink RX3 45 "CryOrder$Node" "settledTrue" "I"] ++ wsX00 ++ wsX30)
def wsX0_head : List Cond := .code yX0_head cX0_head 2 (some (.object "CryOrder$Alarm")) :: ([.fieldLink RX0 97 "CryOrder$Alarm" "above" "LCryOrder$Alarm;"] ++ wsX00)
def wsX0_joinCaseOf : List Cond := .code yX0_joinCaseOf cX0_joinCaseOf 4 none :: ([.fieldLink RX0 15 "CryOrder$Alarm" "number" "I", .fieldLink RX0 97 "CryOrder$Alarm" "above" "LCryOrder$Alarm;", .methodLink RX0 101 yX0_head, .instanceMethod yX0_head, .selects RX0 yX0_head yX0_head, .initialized RX0, .code yX0_head cX0_head 2 (some (.object "CryOrder$Alarm"))] ++ wsX00)
def wsX1_clear : List Cond := .code yX1_clear cX1_clear 1 none :: ([.fieldLink RX1 13 "CryOrder$Case" "size" "I", .fieldLink RX1 16 "CryOrder$Case" "score" "I", .fieldLink RX1 19 "CryOrder$Case" "littleKnown" "Z"] ++ wsX10)
def wsX1_add : List Cond := .code yX1_add cX1_add 3 none :: ([.fieldLink RX1 13 "CryOrder$Case" "size" "I", .fieldLink RX1 16 "CryOrder$Case" "score" "I", .methodLink RX1 23 Lib.Math.max.name, .static Lib.Math.max.name, .initialized "java/lang/Math", .code Lib.Math.max.name Lib.Math.max.code 2 (some .int), .fieldLink RX1 19 "CryOrder$Case" "littleKnown" "Z"] ++ wsX10)
def wsX1_minutes : List Cond := .code yX1_minutes cX1_minutes 1 (some .int) :: ([.fieldLink RX1 13 "CryOrder$Case" "size" "I"] ++ wsX10)
def wsX1_isAheadOf : List Cond := .code yX1_isAheadOf cX1_isAheadOf 2 (some .boolean) :: ([.fieldLink RX1 16 "CryOrder$Case" "score" "I", .fieldLink RX1 7 "CryOrder$Case" "number" "I"] ++ wsX10)
def wsX2_init : List Cond := .code yX2_init cX2_init 1 none :: ([.methodLink RX2 3 objectInit, .instanceMethod objectInit, .code objectInit ⟨#[0xb1]⟩ 1 none, .classLink RX2 9 RX1, .fieldLink RX2 11 "CryOrder$Cases" "ordered" "[LCryOrder$Case;"] ++ wsX20)
def wsX7_find : List Cond := .code yX7_find cX7_find 6 (some (.object "CryOrder$Pair")) :: ([.methodLink RX7 17 Lib.Math.min.name, .static Lib.Math.min.name, .initialized "java/lang/Math", .code Lib.Math.min.name Lib.Math.min.code 2 (some .int), .methodLink RX7 23 Lib.Math.max.name, .static Lib.Math.max.name, .code Lib.Math.max.name Lib.Math.max.code 2 (some .int), .fieldLink RX7 26 "CryOrder$Ties" "size" "I", .fieldLink RX7 11 "CryOrder$Ties" "pairs" "[LCryOrder$Pair;", .fieldLink RX7 30 "CryOrder$Pair" "lesser" "I", .fieldLink RX7 33 "CryOrder$Pair" "greater" "I"] ++ wsX70 ++ wsX40)
def wsX7_isParted : List Cond := .code yX7_isParted cX7_isParted 4 (some .boolean) :: ([.fieldLink RX7 40 "CryOrder$Pair" "joined" "Z", .methodLink RX7 36 yX7_find, .instanceMethod yX7_find, .selects RX7 yX7_find yX7_find, .initialized RX7, .code yX7_find cX7_find 6 (some (.object "CryOrder$Pair")), .methodLink RX7 17 Lib.Math.min.name, .static Lib.Math.min.name, .initialized "java/lang/Math", .code Lib.Math.min.name Lib.Math.min.code 2 (some .int), .methodLink RX7 23 Lib.Math.max.name, .static Lib.Math.max.name, .code Lib.Math.max.name Lib.Math.max.code 2 (some .int), .fieldLink RX7 26 "CryOrder$Ties" "size" "I", .fieldLink RX7 11 "CryOrder$Ties" "pairs" "[LCryOrder$Pair;", .fieldLink RX7 30 "CryOrder$Pair" "lesser" "I", .fieldLink RX7 33 "CryOrder$Pair" "greater" "I"] ++ wsX40 ++ wsX70)
def wsX2_joinWithSoonerOnes_r1 : List Cond := [Cond.fieldLink RX2 61 "CryOrder$Alarm" "soonerOfThing" "LCryOrder$Alarm;", Cond.fieldLink RX2 64 "CryOrder$Alarm" "came" "I", Cond.fieldLink RX2 71 "CryOrder$Alarm" "number" "I", Cond.methodLink RX2 30 yX0_isLive, Cond.instanceMethod yX0_isLive, Cond.selects RX0 yX0_isLive yX0_isLive, Cond.initialized RX0, Cond.code yX0_isLive cX0_isLive 1 (some .boolean), Cond.methodLink RX0 56 yX0_isOpen, Cond.instanceMethod yX0_isOpen, Cond.selects RX0 yX0_isOpen yX0_isOpen, Cond.code yX0_isOpen cX0_isOpen 1 (some .boolean), Cond.fieldLink RX0 9 "CryOrder$Alarm" "state" "I", Cond.methodLink RX0 60 yX0_isHushed, Cond.instanceMethod yX0_isHushed, Cond.selects RX0 yX0_isHushed yX0_isHushed, Cond.code yX0_isHushed cX0_isHushed 1 (some .boolean), Cond.fieldLink RX0 49 "CryOrder$Alarm" "silenced" "Z", Cond.fieldLink RX0 53 "CryOrder$Alarm" "capped" "Z", Cond.methodLink RX2 67 yX0_head, Cond.instanceMethod yX0_head, Cond.selects RX0 yX0_head yX0_head, Cond.code yX0_head cX0_head 2 (some (.object "CryOrder$Alarm")), Cond.fieldLink RX0 97 "CryOrder$Alarm" "above" "LCryOrder$Alarm;"]
def wsX2_joinWithSoonerOnes_r2 : List Cond := [Cond.methodLink RX2 74 yX7_isParted, Cond.instanceMethod yX7_isParted, Cond.selects RX7 yX7_isParted yX7_isParted, Cond.initialized RX7, Cond.code yX7_isParted cX7_isParted 4 (some .boolean), Cond.fieldLink RX7 40 "CryOrder$Pair" "joined" "Z", Cond.methodLink RX7 36 yX7_find, Cond.instanceMethod yX7_find, Cond.selects RX7 yX7_find yX7_find, Cond.code yX7_find cX7_find 6 (some (.object "CryOrder$Pair")), Cond.methodLink RX7 17 Lib.Math.min.name, Cond.static Lib.Math.min.name, Cond.initialized "java/lang/Math", Cond.code Lib.Math.min.name Lib.Math.min.code 2 (some .int), Cond.methodLink RX7 23 Lib.Math.max.name, Cond.static Lib.Math.max.name, Cond.code Lib.Math.max.name Lib.Math.max.code 2 (some .int), Cond.fieldLink RX7 26 "CryOrder$Ties" "size" "I", Cond.fieldLink RX7 11 "CryOrder$Ties" "pairs" "[LCryOrder$Pair;", Cond.fieldLink RX7 30 "CryOrder$Pair" "lesser" "I", Cond.fieldLink RX7 33 "CryOrder$Pair" "greater" "I", Cond.methodLink RX2 79 yX0_joinCaseOf, Cond.instanceMethod yX0_joinCaseOf, Cond.selects RX0 yX0_joinCaseOf yX0_joinCaseOf]
def wsX2_joinWithSoonerOnes_r3 : List Cond := [Cond.code yX0_joinCaseOf cX0_joinCaseOf 4 none, Cond.fieldLink RX0 15 "CryOrder$Alarm" "number" "I", Cond.methodLink RX0 101 yX0_head]
def wsX2_joinWithSoonerOnes : List Cond := .code yX2_joinWithSoonerOnes cX2_joinWithSoonerOnes 3 none :: ((wsX2_joinWithSoonerOnes_r1 ++ (wsX2_joinWithSoonerOnes_r2 ++ wsX2_joinWithSoonerOnes_r3)) ++ wsX00 ++ wsX40 ++ wsX70)
def wsX8_isBelow : List Cond := .code yX8_isBelow cX8_isBelow 2 (some .boolean) :: ([])
def wsX2_joinToldOnes_r1 : List Cond := [Cond.fieldLink RX2 83 "CryOrder$Ties" "size" "I", Cond.fieldLink RX2 84 "CryOrder$Ties" "pairs" "[LCryOrder$Pair;", Cond.fieldLink RX2 88 "CryOrder$Pair" "joined" "Z", Cond.fieldLink RX2 94 "CryOrder$Pair" "lesser" "I", Cond.fieldLink RX2 97 "CryOrder$Pair" "greater" "I", Cond.static yX8_isBelow, Cond.initialized RX8, Cond.code yX8_isBelow cX8_isBelow 2 (some .boolean), Cond.methodLink RX2 30 yX0_isLive, Cond.instanceMethod yX0_isLive, Cond.selects RX0 yX0_isLive yX0_isLive, Cond.initialized RX0, Cond.code yX0_isLive cX0_isLive 1 (some .boolean), Cond.methodLink RX0 56 yX0_isOpen, Cond.instanceMethod yX0_isOpen, Cond.selects RX0 yX0_isOpen yX0_isOpen, Cond.code yX0_isOpen cX0_isOpen 1 (some .boolean), Cond.fieldLink RX0 9 "CryOrder$Alarm" "state" "I", Cond.methodLink RX0 60 yX0_isHushed, Cond.instanceMethod yX0_isHushed, Cond.selects RX0 yX0_isHushed yX0_isHushed, Cond.code yX0_isHushed cX0_isHushed 1 (some .boolean), Cond.fieldLink RX0 49 "CryOrder$Alarm" "silenced" "Z", Cond.fieldLink RX0 53 "CryOrder$Alarm" "capped" "Z"]
def wsX2_joinToldOnes_r2 : List Cond := [Cond.methodLink RX2 79 yX0_joinCaseOf, Cond.instanceMethod yX0_joinCaseOf, Cond.selects RX0 yX0_joinCaseOf yX0_joinCaseOf, Cond.code yX0_joinCaseOf cX0_joinCaseOf 4 none, Cond.fieldLink RX0 15 "CryOrder$Alarm" "number" "I", Cond.fieldLink RX0 97 "CryOrder$Alarm" "above" "LCryOrder$Alarm;", Cond.methodLink RX0 101 yX0_head, Cond.instanceMethod yX0_head, Cond.selects RX0 yX0_head yX0_head, Cond.code yX0_head cX0_head 2 (some (.object "CryOrder$Alarm"))]
def wsX2_joinToldOnes : List Cond := .code yX2_joinToldOnes cX2_joinToldOnes 5 none :: ((wsX2_joinToldOnes_r1 ++ wsX2_joinToldOnes_r2) ++ wsX70 ++ wsX40 ++ wsX00)
def wsX2_fillCases_r1 : List Cond := [Cond.fieldLink RX2 23 "CryOrder$Alarm" "led" "LCryOrder$Case;", Cond.fieldLink RX2 107 "CryOrder$Node" "depth" "I", Cond.methodLink RX2 30 yX0_isLive, Cond.instanceMethod yX0_isLive, Cond.selects RX0 yX0_isLive yX0_isLive, Cond.initialized RX0, Cond.code yX0_isLive cX0_isLive 1 (some .boolean), Cond.methodLink RX0 56 yX0_isOpen, Cond.instanceMethod yX0_isOpen, Cond.selects RX0 yX0_isOpen yX0_isOpen, Cond.code yX0_isOpen cX0_isOpen 1 (some .boolean), Cond.fieldLink RX0 9 "CryOrder$Alarm" "state" "I", Cond.methodLink RX0 60 yX0_isHushed, Cond.instanceMethod yX0_isHushed, Cond.selects RX0 yX0_isHushed yX0_isHushed, Cond.code yX0_isHushed cX0_isHushed 1 (some .boolean), Cond.fieldLink RX0 49 "CryOrder$Alarm" "silenced" "Z", Cond.fieldLink RX0 53 "CryOrder$Alarm" "capped" "Z", Cond.methodLink RX2 67 yX0_head, Cond.instanceMethod yX0_head, Cond.selects RX0 yX0_head yX0_head, Cond.code yX0_head cX0_head 2 (some (.object "CryOrder$Alarm")), Cond.fieldLink RX0 97 "CryOrder$Alarm" "above" "LCryOrder$Alarm;", Cond.methodLink RX2 100 yX0_score]
def wsX2_fillCases_r2 : List Cond := [Cond.instanceMethod yX0_score, Cond.selects RX0 yX0_score yX0_score, Cond.code yX0_score cX0_score 4 (some .int), Cond.fieldLink RX0 30 "CryOrder$Alarm" "worth" "I", Cond.methodLink RX0 86 yX0_nodeFor, Cond.instanceMethod yX0_nodeFor, Cond.selects RX0 yX0_nodeFor yX0_nodeFor, Cond.code yX0_nodeFor cX0_nodeFor 3 (some (.object "CryOrder$Node")), Cond.fieldLink RX0 33 "CryOrder$Alarm" "leaf" "LCryOrder$Node;", Cond.fieldLink RX0 78 "CryOrder$Node" "settled" "I", Cond.fieldLink RX0 83 "CryOrder$Node" "parent" "LCryOrder$Node;", Cond.methodLink RX0 90 yX3_oddsLower, Cond.instanceMethod yX3_oddsLower, Cond.selects RX3 yX3_oddsLower yX3_oddsLower, Cond.initialized RX3, Cond.code yX3_oddsLower cX3_oddsLower 1 (some .int), Cond.fieldLink RX3 42 "CryOrder$Node" "settled" "I", Cond.methodLink RX0 94 yX3_oddsUpper, Cond.instanceMethod yX3_oddsUpper, Cond.selects RX3 yX3_oddsUpper yX3_oddsUpper, Cond.code yX3_oddsUpper cX3_oddsUpper 1 (some .int), Cond.fieldLink RX3 45 "CryOrder$Node" "settledTrue" "I", Cond.methodLink RX2 103 yX0_nodeFor, Cond.methodLink RX2 112 yX1_add]
def wsX2_fillCases_r3 : List Cond := [Cond.instanceMethod yX1_add, Cond.selects RX1 yX1_add yX1_add, Cond.initialized RX1, Cond.code yX1_add cX1_add 3 none, Cond.fieldLink RX1 13 "CryOrder$Case" "size" "I", Cond.fieldLink RX1 16 "CryOrder$Case" "score" "I", Cond.methodLink RX1 23 Lib.Math.max.name, Cond.static Lib.Math.max.name, Cond.initialized "java/lang/Math", Cond.code Lib.Math.max.name Lib.Math.max.code 2 (some .int), Cond.fieldLink RX1 19 "CryOrder$Case" "littleKnown" "Z"]
def wsX2_fillCases : List Cond := .code yX2_fillCases cX2_fillCases 5 none :: ((wsX2_fillCases_r1 ++ (wsX2_fillCases_r2 ++ wsX2_fillCases_r3)) ++ wsX00 ++ wsX30 ++ wsX10)
def wsX2_putInPlace : List Cond := .code yX2_putInPlace cX2_putInPlace 3 none :: ([.fieldLink RX2 50 "CryOrder$Cases" "size" "I", .fieldLink RX2 11 "CryOrder$Cases" "ordered" "[LCryOrder$Case;", .methodLink RX2 121 yX1_isAheadOf, .instanceMethod yX1_isAheadOf, .selects RX1 yX1_isAheadOf yX1_isAheadOf, .initialized RX1, .code yX1_isAheadOf cX1_isAheadOf 2 (some .boolean), .fieldLink RX1 16 "CryOrder$Case" "score" "I", .fieldLink RX1 7 "CryOrder$Case" "number" "I"] ++ wsX20 ++ wsX10)
def wsX2_putInOrder : List Cond := .code yX2_putInOrder cX2_putInOrder 4 none :: ([.fieldLink RX2 50 "CryOrder$Cases" "size" "I", .fieldLink RX2 23 "CryOrder$Alarm" "led" "LCryOrder$Case;", .fieldLink RX2 116 "CryOrder$Case" "size" "I", .methodLink RX2 117 yX2_putInPlace, .instanceMethod yX2_putInPlace, .selects RX2 yX2_putInPlace yX2_putInPlace, .initialized RX2, .code yX2_putInPlace cX2_putInPlace 3 none, .fieldLink RX2 11 "CryOrder$Cases" "ordered" "[LCryOrder$Case;", .methodLink RX2 121 yX1_isAheadOf, .instanceMethod yX1_isAheadOf, .selects RX1 yX1_isAheadOf yX1_isAheadOf, .initialized RX1, .code yX1_isAheadOf cX1_isAheadOf 2 (some .boolean), .fieldLink RX1 16 "CryOrder$Case" "score" "I", .fieldLink RX1 7 "CryOrder$Case" "number" "I"] ++ wsX20 ++ wsX00 ++ wsX10)
def wsX2_gather_r1 : List Cond := [Cond.fieldLink RX2 17 "CryOrder$Alarm" "above" "LCryOrder$Alarm;", Cond.fieldLink RX2 23 "CryOrder$Alarm" "led" "LCryOrder$Case;", Cond.methodLink RX2 27 yX1_clear, Cond.instanceMethod yX1_clear, Cond.selects RX1 yX1_clear yX1_clear, Cond.initialized RX1, Cond.code yX1_clear cX1_clear 1 none, Cond.fieldLink RX1 13 "CryOrder$Case" "size" "I", Cond.fieldLink RX1 16 "CryOrder$Case" "score" "I", Cond.fieldLink RX1 19 "CryOrder$Case" "littleKnown" "Z", Cond.methodLink RX2 30 yX0_isLive, Cond.instanceMethod yX0_isLive, Cond.selects RX0 yX0_isLive yX0_isLive, Cond.initialized RX0, Cond.code yX0_isLive cX0_isLive 1 (some .boolean), Cond.methodLink RX0 56 yX0_isOpen, Cond.instanceMethod yX0_isOpen, Cond.selects RX0 yX0_isOpen yX0_isOpen, Cond.code yX0_isOpen cX0_isOpen 1 (some .boolean), Cond.fieldLink RX0 9 "CryOrder$Alarm" "state" "I", Cond.methodLink RX0 60 yX0_isHushed, Cond.instanceMethod yX0_isHushed, Cond.selects RX0 yX0_isHushed yX0_isHushed, Cond.code yX0_isHushed cX0_isHushed 1 (some .boolean)]
def wsX2_gather_r2 : List Cond := [Cond.fieldLink RX0 49 "CryOrder$Alarm" "silenced" "Z", Cond.fieldLink RX0 53 "CryOrder$Alarm" "capped" "Z", Cond.methodLink RX2 34 yX2_joinWithSoonerOnes, Cond.static yX2_joinWithSoonerOnes, Cond.initialized RX2, Cond.code yX2_joinWithSoonerOnes cX2_joinWithSoonerOnes 3 none, Cond.fieldLink RX2 61 "CryOrder$Alarm" "soonerOfThing" "LCryOrder$Alarm;", Cond.fieldLink RX2 64 "CryOrder$Alarm" "came" "I", Cond.fieldLink RX2 71 "CryOrder$Alarm" "number" "I", Cond.methodLink RX2 67 yX0_head, Cond.instanceMethod yX0_head, Cond.selects RX0 yX0_head yX0_head, Cond.code yX0_head cX0_head 2 (some (.object "CryOrder$Alarm")), Cond.fieldLink RX0 97 "CryOrder$Alarm" "above" "LCryOrder$Alarm;", Cond.methodLink RX2 74 yX7_isParted, Cond.instanceMethod yX7_isParted, Cond.selects RX7 yX7_isParted yX7_isParted, Cond.initialized RX7, Cond.code yX7_isParted cX7_isParted 4 (some .boolean), Cond.fieldLink RX7 40 "CryOrder$Pair" "joined" "Z", Cond.methodLink RX7 36 yX7_find, Cond.instanceMethod yX7_find, Cond.selects RX7 yX7_find yX7_find, Cond.code yX7_find cX7_find 6 (some (.object "CryOrder$Pair"))]
def wsX2_gather_r3 : List Cond := [Cond.methodLink RX7 17 Lib.Math.min.name, Cond.static Lib.Math.min.name, Cond.initialized "java/lang/Math", Cond.code Lib.Math.min.name Lib.Math.min.code 2 (some .int), Cond.methodLink RX7 23 Lib.Math.max.name, Cond.static Lib.Math.max.name, Cond.code Lib.Math.max.name Lib.Math.max.code 2 (some .int), Cond.fieldLink RX7 26 "CryOrder$Ties" "size" "I", Cond.fieldLink RX7 11 "CryOrder$Ties" "pairs" "[LCryOrder$Pair;", Cond.fieldLink RX7 30 "CryOrder$Pair" "lesser" "I", Cond.fieldLink RX7 33 "CryOrder$Pair" "greater" "I", Cond.methodLink RX2 79 yX0_joinCaseOf, Cond.instanceMethod yX0_joinCaseOf, Cond.selects RX0 yX0_joinCaseOf yX0_joinCaseOf, Cond.code yX0_joinCaseOf cX0_joinCaseOf 4 none, Cond.fieldLink RX0 15 "CryOrder$Alarm" "number" "I", Cond.methodLink RX0 101 yX0_head, Cond.methodLink RX2 38 yX2_joinToldOnes, Cond.static yX2_joinToldOnes, Cond.code yX2_joinToldOnes cX2_joinToldOnes 5 none, Cond.fieldLink RX2 83 "CryOrder$Ties" "size" "I", Cond.fieldLink RX2 84 "CryOrder$Ties" "pairs" "[LCryOrder$Pair;", Cond.fieldLink RX2 88 "CryOrder$Pair" "joined" "Z", Cond.fieldLink RX2 94 "CryOrder$Pair" "lesser" "I"]
def wsX2_gather_r4 : List Cond := [Cond.fieldLink RX2 97 "CryOrder$Pair" "greater" "I", Cond.static yX8_isBelow, Cond.initialized RX8, Cond.code yX8_isBelow cX8_isBelow 2 (some .boolean), Cond.methodLink RX2 42 yX2_fillCases, Cond.static yX2_fillCases, Cond.code yX2_fillCases cX2_fillCases 5 none, Cond.fieldLink RX2 107 "CryOrder$Node" "depth" "I", Cond.methodLink RX2 100 yX0_score, Cond.instanceMethod yX0_score, Cond.selects RX0 yX0_score yX0_score, Cond.code yX0_score cX0_score 4 (some .int), Cond.fieldLink RX0 30 "CryOrder$Alarm" "worth" "I", Cond.methodLink RX0 86 yX0_nodeFor, Cond.instanceMethod yX0_nodeFor, Cond.selects RX0 yX0_nodeFor yX0_nodeFor, Cond.code yX0_nodeFor cX0_nodeFor 3 (some (.object "CryOrder$Node")), Cond.fieldLink RX0 33 "CryOrder$Alarm" "leaf" "LCryOrder$Node;", Cond.fieldLink RX0 78 "CryOrder$Node" "settled" "I", Cond.fieldLink RX0 83 "CryOrder$Node" "parent" "LCryOrder$Node;", Cond.methodLink RX0 90 yX3_oddsLower, Cond.instanceMethod yX3_oddsLower, Cond.selects RX3 yX3_oddsLower yX3_oddsLower, Cond.initialized RX3]
def wsX2_gather_r5 : List Cond := [Cond.code yX3_oddsLower cX3_oddsLower 1 (some .int), Cond.fieldLink RX3 42 "CryOrder$Node" "settled" "I", Cond.methodLink RX0 94 yX3_oddsUpper, Cond.instanceMethod yX3_oddsUpper, Cond.selects RX3 yX3_oddsUpper yX3_oddsUpper, Cond.code yX3_oddsUpper cX3_oddsUpper 1 (some .int), Cond.fieldLink RX3 45 "CryOrder$Node" "settledTrue" "I", Cond.methodLink RX2 103 yX0_nodeFor, Cond.methodLink RX2 112 yX1_add, Cond.instanceMethod yX1_add, Cond.selects RX1 yX1_add yX1_add, Cond.code yX1_add cX1_add 3 none, Cond.methodLink RX1 23 Lib.Math.max.name, Cond.methodLink RX2 46 yX2_putInOrder, Cond.instanceMethod yX2_putInOrder, Cond.selects RX2 yX2_putInOrder yX2_putInOrder, Cond.code yX2_putInOrder cX2_putInOrder 4 none, Cond.fieldLink RX2 50 "CryOrder$Cases" "size" "I", Cond.fieldLink RX2 116 "CryOrder$Case" "size" "I", Cond.methodLink RX2 117 yX2_putInPlace, Cond.instanceMethod yX2_putInPlace, Cond.selects RX2 yX2_putInPlace yX2_putInPlace, Cond.code yX2_putInPlace cX2_putInPlace 3 none, Cond.fieldLink RX2 11 "CryOrder$Cases" "ordered" "[LCryOrder$Case;"]
def wsX2_gather_r6 : List Cond := [Cond.methodLink RX2 121 yX1_isAheadOf, Cond.instanceMethod yX1_isAheadOf, Cond.selects RX1 yX1_isAheadOf yX1_isAheadOf, Cond.code yX1_isAheadOf cX1_isAheadOf 2 (some .boolean), Cond.fieldLink RX1 7 "CryOrder$Case" "number" "I"]
def wsX2_gather : List Cond := .code yX2_gather cX2_gather 6 none :: ((wsX2_gather_r1 ++ (wsX2_gather_r2 ++ (wsX2_gather_r3 ++ (wsX2_gather_r4 ++ (wsX2_gather_r5 ++ wsX2_gather_r6))))) ++ wsX00 ++ wsX10 ++ wsX40 ++ wsX70 ++ wsX30 ++ wsX20)
def wsX2_at : List Cond := .code yX2_at cX2_at 2 (some (.object "CryOrder$Case")) :: ([.fieldLink RX2 50 "CryOrder$Cases" "size" "I", .fieldLink RX2 11 "CryOrder$Cases" "ordered" "[LCryOrder$Case;", .static yX8_isBelow, .initialized RX8, .code yX8_isBelow cX8_isBelow 2 (some .boolean)] ++ wsX20)
def wsX2_scoreOfAll : List Cond := .code yX2_scoreOfAll cX2_scoreOfAll 3 (some .int) :: ([.fieldLink RX2 50 "CryOrder$Cases" "size" "I", .fieldLink RX2 11 "CryOrder$Cases" "ordered" "[LCryOrder$Case;", .fieldLink RX2 58 "CryOrder$Case" "score" "I"] ++ wsX20 ++ wsX10)
def wsX3_init : List Cond := .code yX3_init cX3_init 4 none :: ([.methodLink RX3 3 objectInit, .instanceMethod objectInit, .code objectInit ⟨#[0xb1]⟩ 1 none, .fieldLink RX3 9 "CryOrder$Node" "parent" "LCryOrder$Node;", .fieldLink RX3 15 "CryOrder$Node" "depth" "I", .fieldLink RX3 19 "CryOrder$Node" "mark" "I", .fieldLink RX3 22 "CryOrder$Node" "sibling" "LCryOrder$Node;"] ++ wsX30)
def wsX3_markAt : List Cond := .code yX3_markAt cX3_markAt 2 (some .int) :: ([])
def wsX3_child : List Cond := .code yX3_child cX3_child 3 (some (.object "CryOrder$Node")) :: ([.fieldLink RX3 25 "CryOrder$Node" "firstChild" "LCryOrder$Node;", .fieldLink RX3 19 "CryOrder$Node" "mark" "I", .fieldLink RX3 22 "CryOrder$Node" "sibling" "LCryOrder$Node;"] ++ wsX30)
def wsX3_find : List Cond := .code yX3_find cX3_find 5 (some (.object "CryOrder$Node")) :: ([.methodLink RX3 28 yX3_markAt, .static yX3_markAt, .initialized RX3, .code yX3_markAt cX3_markAt 2 (some .int), .methodLink RX3 32 yX3_child, .instanceMethod yX3_child, .selects RX3 yX3_child yX3_child, .code yX3_child cX3_child 3 (some (.object "CryOrder$Node")), .fieldLink RX3 25 "CryOrder$Node" "firstChild" "LCryOrder$Node;", .fieldLink RX3 19 "CryOrder$Node" "mark" "I", .fieldLink RX3 22 "CryOrder$Node" "sibling" "LCryOrder$Node;"] ++ wsX30)
def wsX3_grow : List Cond := .code yX3_grow cX3_grow 6 (some (.object "CryOrder$Node")) :: ([.classLink RX3 10 RX3, .instantiable RX3 8, .initialized RX3, .fieldLink RX3 25 "CryOrder$Node" "firstChild" "LCryOrder$Node;", .methodLink RX3 28 yX3_markAt, .static yX3_markAt, .code yX3_markAt cX3_markAt 2 (some .int), .methodLink RX3 32 yX3_child, .instanceMethod yX3_child, .selects RX3 yX3_child yX3_child, .code yX3_child cX3_child 3 (some (.object "CryOrder$Node")), .fieldLink RX3 19 "CryOrder$Node" "mark" "I", .fieldLink RX3 22 "CryOrder$Node" "sibling" "LCryOrder$Node;", .methodLink RX3 36 yX3_init, .instanceMethod yX3_init, .code yX3_init cX3_init 4 none, .methodLink RX3 3 objectInit, .instanceMethod objectInit, .code objectInit ⟨#[0xb1]⟩ 1 none, .fieldLink RX3 9 "CryOrder$Node" "parent" "LCryOrder$Node;", .fieldLink RX3 15 "CryOrder$Node" "depth" "I"] ++ wsX30)
def wsX3_addOpen : List Cond := .code yX3_addOpen cX3_addOpen 2 none :: ([.fieldLink RX3 39 "CryOrder$Node" "open" "I", .fieldLink RX3 9 "CryOrder$Node" "parent" "LCryOrder$Node;"] ++ wsX30)
def wsX8_oneIf : List Cond := .code yX8_oneIf cX8_oneIf 1 (some .int) :: ([])
def wsX3_settle : List Cond := .code yX3_settle cX3_settle 3 none :: ([.fieldLink RX3 39 "CryOrder$Node" "open" "I", .fieldLink RX3 42 "CryOrder$Node" "settled" "I", .fieldLink RX3 45 "CryOrder$Node" "settledTrue" "I", .fieldLink RX3 9 "CryOrder$Node" "parent" "LCryOrder$Node;", .static yX8_oneIf, .initialized RX8, .code yX8_oneIf cX8_oneIf 1 (some .int)] ++ wsX30)
def wsX4_init : List Cond := .code yX4_init cX4_init 4 none :: ([.methodLink RX4 1 objectInit, .instanceMethod objectInit, .code objectInit ⟨#[0xb1]⟩ 1 none, .fieldLink RX4 7 "CryOrder$Pair" "lesser" "I", .fieldLink RX4 13 "CryOrder$Pair" "greater" "I", .fieldLink RX4 16 "CryOrder$Pair" "joined" "Z"] ++ wsX40)
def wsX5_init : List Cond := .code yX5_init cX5_init 1 none :: ([.methodLink RX5 3 objectInit, .instanceMethod objectInit, .code objectInit ⟨#[0xb1]⟩ 1 none, .classLink RX5 9 RX1, .fieldLink RX5 11 "CryOrder$Plan" "taken" "[LCryOrder$Case;", .fieldLink RX5 17 "CryOrder$Plan" "pool" "[LCryOrder$Case;", .arrayClass .int, .fieldLink RX5 20 "CryOrder$Plan" "best" "[I", .fieldLink RX5 24 "CryOrder$Plan" "needed" "[I"] ++ wsX50)
def wsX5_take : List Cond := .code yX5_take cX5_take 2 none :: ([.fieldLink RX5 27 "CryOrder$Plan" "takenCount" "I", .fieldLink RX5 11 "CryOrder$Plan" "taken" "[LCryOrder$Case;", .fieldLink RX5 34 "CryOrder$Plan" "scoreTaken" "I", .fieldLink RX5 67 "CryOrder$Case" "score" "I", .fieldLink RX5 46 "CryOrder$Plan" "minutesLeft" "I", .methodLink RX5 70 yX1_minutes, .instanceMethod yX1_minutes, .selects RX1 yX1_minutes yX1_minutes, .initialized RX1, .code yX1_minutes cX1_minutes 1 (some .int), .fieldLink RX1 13 "CryOrder$Case" "size" "I"] ++ wsX50 ++ wsX10)
def wsX5_takeTries : List Cond := .code yX5_takeTries cX5_takeTries 5 none :: ([.fieldLink RX5 74 "CryOrder$Cases" "size" "I", .fieldLink RX5 27 "CryOrder$Plan" "takenCount" "I", .fieldLink RX5 79 "CryOrder$Cases" "ordered" "[LCryOrder$Case;", .fieldLink RX5 82 "CryOrder$Case" "littleKnown" "Z", .fieldLink RX5 46 "CryOrder$Plan" "minutesLeft" "I", .methodLink RX5 70 yX1_minutes, .instanceMethod yX1_minutes, .selects RX1 yX1_minutes yX1_minutes, .initialized RX1, .code yX1_minutes cX1_minutes 1 (some .int), .fieldLink RX1 13 "CryOrder$Case" "size" "I", .methodLink RX5 86 yX5_take, .instanceMethod yX5_take, .selects RX5 yX5_take yX5_take, .initialized RX5, .code yX5_take cX5_take 2 none, .fieldLink RX5 11 "CryOrder$Plan" "taken" "[LCryOrder$Case;", .fieldLink RX5 34 "CryOrder$Plan" "scoreTaken" "I", .fieldLink RX5 67 "CryOrder$Case" "score" "I"] ++ wsX20 ++ wsX50 ++ wsX10)
def wsX5_isTaken : List Cond := .code yX5_isTaken cX5_isTaken 3 (some .boolean) :: ([.fieldLink RX5 27 "CryOrder$Plan" "takenCount" "I", .fieldLink RX5 11 "CryOrder$Plan" "taken" "[LCryOrder$Case;"] ++ wsX50)
def wsX5_fillPool : List Cond := .code yX5_fillPool cX5_fillPool 3 none :: ([.fieldLink RX5 74 "CryOrder$Cases" "size" "I", .fieldLink RX5 31 "CryOrder$Plan" "poolCount" "I", .fieldLink RX5 79 "CryOrder$Cases" "ordered" "[LCryOrder$Case;", .fieldLink RX5 17 "CryOrder$Plan" "pool" "[LCryOrder$Case;", .methodLink RX5 90 yX5_isTaken, .instanceMethod yX5_isTaken, .selects RX5 yX5_isTaken yX5_isTaken, .initialized RX5, .code yX5_isTaken cX5_isTaken 3 (some .boolean), .fieldLink RX5 27 "CryOrder$Plan" "takenCount" "I", .fieldLink RX5 11 "CryOrder$Plan" "taken" "[LCryOrder$Case;"] ++ wsX20 ++ wsX50)
def wsX5_weighPool : List Cond := .code yX5_weighPool cX5_weighPool 5 none :: ([.fieldLink RX5 46 "CryOrder$Plan" "minutesLeft" "I", .fieldLink RX5 20 "CryOrder$Plan" "best" "[I", .fieldLink RX5 24 "CryOrder$Plan" "needed" "[I", .fieldLink RX5 31 "CryOrder$Plan" "poolCount" "I", .fieldLink RX5 17 "CryOrder$Plan" "pool" "[LCryOrder$Case;", .fieldLink RX5 67 "CryOrder$Case" "score" "I", .methodLink RX5 70 yX1_minutes, .instanceMethod yX1_minutes, .selects RX1 yX1_minutes yX1_minutes, .initialized RX1, .code yX1_minutes cX1_minutes 1 (some .int), .fieldLink RX1 13 "CryOrder$Case" "size" "I"] ++ wsX50 ++ wsX10)
def wsX5_takeBestOfPool : List Cond := .code yX5_takeBestOfPool cX5_takeBestOfPool 4 none :: ([.fieldLink RX5 46 "CryOrder$Plan" "minutesLeft" "I", .fieldLink RX5 31 "CryOrder$Plan" "poolCount" "I", .fieldLink RX5 24 "CryOrder$Plan" "needed" "[I", .fieldLink RX5 17 "CryOrder$Plan" "pool" "[LCryOrder$Case;", .methodLink RX5 70 yX1_minutes, .instanceMethod yX1_minutes, .selects RX1 yX1_minutes yX1_minutes, .initialized RX1, .code yX1_minutes cX1_minutes 1 (some .int), .fieldLink RX1 13 "CryOrder$Case" "size" "I", .methodLink RX5 86 yX5_take, .instanceMethod yX5_take, .selects RX5 yX5_take yX5_take, .initialized RX5, .code yX5_take cX5_take 2 none, .fieldLink RX5 27 "CryOrder$Plan" "takenCount" "I", .fieldLink RX5 11 "CryOrder$Plan" "taken" "[LCryOrder$Case;", .fieldLink RX5 34 "CryOrder$Plan" "scoreTaken" "I", .fieldLink RX5 67 "CryOrder$Case" "score" "I"] ++ wsX50 ++ wsX10)
def wsX5_make_r1 : List Cond := [Cond.fieldLink RX5 27 "CryOrder$Plan" "takenCount" "I", Cond.fieldLink RX5 31 "CryOrder$Plan" "poolCount" "I", Cond.fieldLink RX5 34 "CryOrder$Plan" "scoreTaken" "I", Cond.methodLink RX5 37 Lib.Math.min.name, Cond.static Lib.Math.min.name, Cond.initialized "java/lang/Math", Cond.code Lib.Math.min.name Lib.Math.min.code 2 (some .int), Cond.methodLink RX5 43 Lib.Math.max.name, Cond.static Lib.Math.max.name, Cond.code Lib.Math.max.name Lib.Math.max.code 2 (some .int), Cond.fieldLink RX5 46 "CryOrder$Plan" "minutesLeft" "I", Cond.methodLink RX5 49 yX5_takeTries, Cond.instanceMethod yX5_takeTries, Cond.selects RX5 yX5_takeTries yX5_takeTries, Cond.initialized RX5, Cond.code yX5_takeTries cX5_takeTries 5 none, Cond.fieldLink RX5 74 "CryOrder$Cases" "size" "I", Cond.fieldLink RX5 79 "CryOrder$Cases" "ordered" "[LCryOrder$Case;", Cond.fieldLink RX5 82 "CryOrder$Case" "littleKnown" "Z", Cond.methodLink RX5 70 yX1_minutes, Cond.instanceMethod yX1_minutes, Cond.selects RX1 yX1_minutes yX1_minutes, Cond.initialized RX1, Cond.code yX1_minutes cX1_minutes 1 (some .int)]
def wsX5_make_r2 : List Cond := [Cond.fieldLink RX1 13 "CryOrder$Case" "size" "I", Cond.methodLink RX5 86 yX5_take, Cond.instanceMethod yX5_take, Cond.selects RX5 yX5_take yX5_take, Cond.code yX5_take cX5_take 2 none, Cond.fieldLink RX5 11 "CryOrder$Plan" "taken" "[LCryOrder$Case;", Cond.fieldLink RX5 67 "CryOrder$Case" "score" "I", Cond.methodLink RX5 53 yX5_fillPool, Cond.instanceMethod yX5_fillPool, Cond.selects RX5 yX5_fillPool yX5_fillPool, Cond.code yX5_fillPool cX5_fillPool 3 none, Cond.fieldLink RX5 17 "CryOrder$Plan" "pool" "[LCryOrder$Case;", Cond.methodLink RX5 90 yX5_isTaken, Cond.instanceMethod yX5_isTaken, Cond.selects RX5 yX5_isTaken yX5_isTaken, Cond.code yX5_isTaken cX5_isTaken 3 (some .boolean), Cond.methodLink RX5 57 yX5_weighPool, Cond.instanceMethod yX5_weighPool, Cond.selects RX5 yX5_weighPool yX5_weighPool, Cond.code yX5_weighPool cX5_weighPool 5 none, Cond.fieldLink RX5 20 "CryOrder$Plan" "best" "[I", Cond.fieldLink RX5 24 "CryOrder$Plan" "needed" "[I", Cond.methodLink RX5 60 yX5_takeBestOfPool, Cond.instanceMethod yX5_takeBestOfPool]
def wsX5_make_r3 : List Cond := [Cond.selects RX5 yX5_takeBestOfPool yX5_takeBestOfPool, Cond.code yX5_takeBestOfPool cX5_takeBestOfPool 4 none]
def wsX5_make : List Cond := .code yX5_make cX5_make 4 none :: ((wsX5_make_r1 ++ (wsX5_make_r2 ++ wsX5_make_r3)) ++ wsX50 ++ wsX20 ++ wsX10)
def wsX5_at : List Cond := .code yX5_at cX5_at 2 (some (.object "CryOrder$Case")) :: ([.fieldLink RX5 27 "CryOrder$Plan" "takenCount" "I", .fieldLink RX5 11 "CryOrder$Plan" "taken" "[LCryOrder$Case;", .static yX8_isBelow, .initialized RX8, .code yX8_isBelow cX8_isBelow 2 (some .boolean)] ++ wsX50)
def wsX6_init : List Cond := .code yX6_init cX6_init 4 none :: ([.methodLink RX6 1 objectInit, .instanceMethod objectInit, .code objectInit ⟨#[0xb1]⟩ 1 none, .fieldLink RX6 7 "CryOrder$Silence" "source" "I", .fieldLink RX6 13 "CryOrder$Silence" "from" "I", .fieldLink RX6 16 "CryOrder$Silence" "to" "I"] ++ wsX60)
def wsX6_covers : List Cond := .code yX6_covers cX6_covers 3 (some .boolean) :: ([.fieldLink RX6 7 "CryOrder$Silence" "source" "I", .fieldLink RX6 13 "CryOrder$Silence" "from" "I", .fieldLink RX6 16 "CryOrder$Silence" "to" "I"] ++ wsX60)
def wsX7_init : List Cond := .code yX7_init cX7_init 1 none :: ([.methodLink RX7 3 objectInit, .instanceMethod objectInit, .code objectInit ⟨#[0xb1]⟩ 1 none, .classLink RX7 9 RX4, .fieldLink RX7 11 "CryOrder$Ties" "pairs" "[LCryOrder$Pair;"] ++ wsX70)
def wsX7_tell_r1 : List Cond := [Cond.fieldLink RX7 40 "CryOrder$Pair" "joined" "Z", Cond.fieldLink RX7 26 "CryOrder$Ties" "size" "I", Cond.fieldLink RX7 11 "CryOrder$Ties" "pairs" "[LCryOrder$Pair;", Cond.classLink RX7 9 RX4, Cond.instantiable RX4 3, Cond.initialized RX4, Cond.methodLink RX7 17 Lib.Math.min.name, Cond.static Lib.Math.min.name, Cond.initialized "java/lang/Math", Cond.code Lib.Math.min.name Lib.Math.min.code 2 (some .int), Cond.methodLink RX7 23 Lib.Math.max.name, Cond.static Lib.Math.max.name, Cond.code Lib.Math.max.name Lib.Math.max.code 2 (some .int), Cond.methodLink RX7 36 yX7_find, Cond.instanceMethod yX7_find, Cond.selects RX7 yX7_find yX7_find, Cond.initialized RX7, Cond.code yX7_find cX7_find 6 (some (.object "CryOrder$Pair")), Cond.fieldLink RX7 30 "CryOrder$Pair" "lesser" "I", Cond.fieldLink RX7 33 "CryOrder$Pair" "greater" "I", Cond.methodLink RX7 44 yX4_init, Cond.instanceMethod yX4_init, Cond.code yX4_init cX4_init 4 none, Cond.methodLink RX4 1 objectInit]
def wsX7_tell_r2 : List Cond := [Cond.instanceMethod objectInit, Cond.code objectInit ⟨#[0xb1]⟩ 1 none, Cond.fieldLink RX4 7 "CryOrder$Pair" "lesser" "I", Cond.fieldLink RX4 13 "CryOrder$Pair" "greater" "I", Cond.fieldLink RX4 16 "CryOrder$Pair" "joined" "Z"]
def wsX7_tell : List Cond := .code yX7_tell cX7_tell 6 (some .boolean) :: ((wsX7_tell_r1 ++ wsX7_tell_r2) ++ wsX40 ++ wsX70)
def wsX8_init_r1 : List Cond := [Cond.methodLink RX8 1 objectInit, Cond.instanceMethod objectInit, Cond.code objectInit ⟨#[0xb1]⟩ 1 none, Cond.classLink RX8 9 RX0, Cond.fieldLink RX8 11 "CryOrder" "alarms" "[LCryOrder$Alarm;", Cond.fieldLink RX8 15 "CryOrder" "latestOfThing" "[LCryOrder$Alarm;", Cond.classLink RX8 18 RX6, Cond.fieldLink RX8 20 "CryOrder" "silences" "[LCryOrder$Silence;", Cond.classLink RX8 24 RX3, Cond.instantiable RX3 8, Cond.initialized RX3, Cond.fieldLink RX8 29 "CryOrder" "root" "LCryOrder$Node;", Cond.classLink RX8 33 RX7, Cond.instantiable RX7 2, Cond.initialized RX7, Cond.fieldLink RX8 36 "CryOrder" "ties" "LCryOrder$Ties;", Cond.classLink RX8 40 RX2, Cond.instantiable RX2 2, Cond.initialized RX2, Cond.fieldLink RX8 43 "CryOrder" "cases" "LCryOrder$Cases;", Cond.classLink RX8 47 RX5, Cond.instantiable RX5 8, Cond.initialized RX5, Cond.fieldLink RX8 50 "CryOrder" "planner" "LCryOrder$Plan;"]
def wsX8_init_r2 : List Cond := [Cond.fieldLink RX8 54 "CryOrder" "cap" "I", Cond.fieldLink RX8 58 "CryOrder" "leastSettled" "I", Cond.methodLink RX8 26 yX3_init, Cond.instanceMethod yX3_init, Cond.code yX3_init cX3_init 4 none, Cond.methodLink RX3 3 objectInit, Cond.fieldLink RX3 9 "CryOrder$Node" "parent" "LCryOrder$Node;", Cond.fieldLink RX3 15 "CryOrder$Node" "depth" "I", Cond.fieldLink RX3 19 "CryOrder$Node" "mark" "I", Cond.fieldLink RX3 22 "CryOrder$Node" "sibling" "LCryOrder$Node;", Cond.instanceMethod yX7_init, Cond.code yX7_init cX7_init 1 none, Cond.methodLink RX7 3 objectInit, Cond.classLink RX7 9 RX4, Cond.fieldLink RX7 11 "CryOrder$Ties" "pairs" "[LCryOrder$Pair;", Cond.instanceMethod yX2_init, Cond.code yX2_init cX2_init 1 none, Cond.methodLink RX2 3 objectInit, Cond.classLink RX2 9 RX1, Cond.fieldLink RX2 11 "CryOrder$Cases" "ordered" "[LCryOrder$Case;", Cond.instanceMethod yX5_init, Cond.code yX5_init cX5_init 1 none, Cond.methodLink RX5 3 objectInit, Cond.classLink RX5 9 RX1]
def wsX8_init_r3 : List Cond := [Cond.fieldLink RX5 11 "CryOrder$Plan" "taken" "[LCryOrder$Case;", Cond.fieldLink RX5 17 "CryOrder$Plan" "pool" "[LCryOrder$Case;", Cond.arrayClass .int, Cond.fieldLink RX5 20 "CryOrder$Plan" "best" "[I", Cond.fieldLink RX5 24 "CryOrder$Plan" "needed" "[I"]
def wsX8_init : List Cond := .code yX8_init cX8_init 1 none :: ((wsX8_init_r1 ++ (wsX8_init_r2 ++ wsX8_init_r3)) ++ wsX80 ++ wsX30 ++ wsX70 ++ wsX20 ++ wsX50)
def wsX8_pass : List Cond := .code yX8_pass cX8_pass 2 (some .int) :: ([.fieldLink RX8 61 "CryOrder" "now" "I"] ++ wsX80)
def wsX8_alarmToRepeat : List Cond := .code yX8_alarmToRepeat cX8_alarmToRepeat 6 (some (.object "CryOrder$Alarm")) :: ([.fieldLink RX8 79 "CryOrder" "alarmCount" "I", .fieldLink RX8 11 "CryOrder" "alarms" "[LCryOrder$Alarm;", .fieldLink RX8 151 "CryOrder$Alarm" "source" "I", .fieldLink RX8 154 "CryOrder$Alarm" "thing" "I", .fieldLink RX8 157 "CryOrder$Alarm" "marks" "I", .fieldLink RX8 61 "CryOrder" "now" "I", .fieldLink RX8 276 "CryOrder$Alarm" "heardLast" "I", .methodLink RX8 225 yX0_isLive, .instanceMethod yX0_isLive, .selects RX0 yX0_isLive yX0_isLive, .initialized RX0, .code yX0_isLive cX0_isLive 1 (some .boolean), .methodLink RX0 56 yX0_isOpen, .instanceMethod yX0_isOpen, .selects RX0 yX0_isOpen yX0_isOpen, .code yX0_isOpen cX0_isOpen 1 (some .boolean), .fieldLink RX0 9 "CryOrder$Alarm" "state" "I", .methodLink RX0 60 yX0_isHushed, .instanceMethod yX0_isHushed, .selects RX0 yX0_isHushed yX0_isHushed, .code yX0_isHushed cX0_isHushed 1 (some .boolean), .fieldLink RX0 49 "CryOrder$Alarm" "silenced" "Z", .fieldLink RX0 53 "CryOrder$Alarm" "capped" "Z"] ++ wsX80 ++ wsX00)
def wsX8_isSilencedNow : List Cond := .code yX8_isSilencedNow cX8_isSilencedNow 3 (some .boolean) :: ([.fieldLink RX8 116 "CryOrder" "silenceCount" "I", .fieldLink RX8 20 "CryOrder" "silences" "[LCryOrder$Silence;", .fieldLink RX8 61 "CryOrder" "now" "I", .methodLink RX8 279 yX6_covers, .instanceMethod yX6_covers, .selects RX6 yX6_covers yX6_covers, .initialized RX6, .code yX6_covers cX6_covers 3 (some .boolean), .fieldLink RX6 7 "CryOrder$Silence" "source" "I", .fieldLink RX6 13 "CryOrder$Silence" "from" "I", .fieldLink RX6 16 "CryOrder$Silence" "to" "I"] ++ wsX80 ++ wsX60)
def wsX8_isCapFullNow : List Cond := .code yX8_isCapFullNow cX8_isCapFullNow 4 (some .boolean) :: ([.fieldLink RX8 79 "CryOrder" "alarmCount" "I", .fieldLink RX8 61 "CryOrder" "now" "I", .fieldLink RX8 11 "CryOrder" "alarms" "[LCryOrder$Alarm;", .fieldLink RX8 148 "CryOrder$Alarm" "came" "I", .fieldLink RX8 151 "CryOrder$Alarm" "source" "I", .fieldLink RX8 54 "CryOrder" "cap" "I", .methodLink RX8 273 yX0_isHushed, .instanceMethod yX0_isHushed, .selects RX0 yX0_isHushed yX0_isHushed, .initialized RX0, .code yX0_isHushed cX0_isHushed 1 (some .boolean), .fieldLink RX0 49 "CryOrder$Alarm" "silenced" "Z", .fieldLink RX0 53 "CryOrder$Alarm" "capped" "Z"] ++ wsX80 ++ wsX00)
def wsX8_alarm_r1 : List Cond := [Cond.fieldLink RX8 61 "CryOrder" "now" "I", Cond.fieldLink RX8 76 "CryOrder$Alarm" "number" "I", Cond.fieldLink RX8 79 "CryOrder" "alarmCount" "I", Cond.classLink RX8 9 RX0, Cond.instantiable RX0 17, Cond.initialized RX0, Cond.fieldLink RX8 29 "CryOrder" "root" "LCryOrder$Node;", Cond.fieldLink RX8 93 "CryOrder$Alarm" "silenced" "Z", Cond.fieldLink RX8 100 "CryOrder$Alarm" "capped" "Z", Cond.fieldLink RX8 103 "CryOrder$Alarm" "leaf" "LCryOrder$Node;", Cond.fieldLink RX8 15 "CryOrder" "latestOfThing" "[LCryOrder$Alarm;", Cond.fieldLink RX8 109 "CryOrder$Alarm" "soonerOfThing" "LCryOrder$Alarm;", Cond.fieldLink RX8 11 "CryOrder" "alarms" "[LCryOrder$Alarm;", Cond.fieldLink RX8 113 "CryOrder" "casesAreStale" "Z", Cond.methodLink RX8 64 yX8_isBelow, Cond.static yX8_isBelow, Cond.initialized RX8, Cond.code yX8_isBelow cX8_isBelow 2 (some .boolean), Cond.methodLink RX8 68 yX8_alarmToRepeat, Cond.instanceMethod yX8_alarmToRepeat, Cond.selects RX8 yX8_alarmToRepeat yX8_alarmToRepeat, Cond.code yX8_alarmToRepeat cX8_alarmToRepeat 6 (some (.object "CryOrder$Alarm")), Cond.fieldLink RX8 151 "CryOrder$Alarm" "source" "I", Cond.fieldLink RX8 154 "CryOrder$Alarm" "thing" "I"]
def wsX8_alarm_r2 : List Cond := [Cond.fieldLink RX8 157 "CryOrder$Alarm" "marks" "I", Cond.fieldLink RX8 276 "CryOrder$Alarm" "heardLast" "I", Cond.methodLink RX8 225 yX0_isLive, Cond.instanceMethod yX0_isLive, Cond.selects RX0 yX0_isLive yX0_isLive, Cond.code yX0_isLive cX0_isLive 1 (some .boolean), Cond.methodLink RX0 56 yX0_isOpen, Cond.instanceMethod yX0_isOpen, Cond.selects RX0 yX0_isOpen yX0_isOpen, Cond.code yX0_isOpen cX0_isOpen 1 (some .boolean), Cond.fieldLink RX0 9 "CryOrder$Alarm" "state" "I", Cond.methodLink RX0 60 yX0_isHushed, Cond.instanceMethod yX0_isHushed, Cond.selects RX0 yX0_isHushed yX0_isHushed, Cond.code yX0_isHushed cX0_isHushed 1 (some .boolean), Cond.fieldLink RX0 49 "CryOrder$Alarm" "silenced" "Z", Cond.fieldLink RX0 53 "CryOrder$Alarm" "capped" "Z", Cond.methodLink RX8 72 yX0_repeat, Cond.instanceMethod yX0_repeat, Cond.selects RX0 yX0_repeat yX0_repeat, Cond.code yX0_repeat cX0_repeat 2 none, Cond.fieldLink RX0 63 "CryOrder$Alarm" "repeats" "I", Cond.fieldLink RX0 46 "CryOrder$Alarm" "heardLast" "I", Cond.methodLink RX8 82 yX3_grow]
def wsX8_alarm_r3 : List Cond := [Cond.instanceMethod yX3_grow, Cond.selects RX3 yX3_grow yX3_grow, Cond.initialized RX3, Cond.code yX3_grow cX3_grow 6 (some (.object "CryOrder$Node")), Cond.classLink RX3 10 RX3, Cond.instantiable RX3 8, Cond.fieldLink RX3 25 "CryOrder$Node" "firstChild" "LCryOrder$Node;", Cond.methodLink RX3 28 yX3_markAt, Cond.static yX3_markAt, Cond.code yX3_markAt cX3_markAt 2 (some .int), Cond.methodLink RX3 32 yX3_child, Cond.instanceMethod yX3_child, Cond.selects RX3 yX3_child yX3_child, Cond.code yX3_child cX3_child 3 (some (.object "CryOrder$Node")), Cond.fieldLink RX3 19 "CryOrder$Node" "mark" "I", Cond.fieldLink RX3 22 "CryOrder$Node" "sibling" "LCryOrder$Node;", Cond.methodLink RX3 36 yX3_init, Cond.instanceMethod yX3_init, Cond.code yX3_init cX3_init 4 none, Cond.methodLink RX3 3 objectInit, Cond.instanceMethod objectInit, Cond.code objectInit ⟨#[0xb1]⟩ 1 none, Cond.fieldLink RX3 9 "CryOrder$Node" "parent" "LCryOrder$Node;", Cond.fieldLink RX3 15 "CryOrder$Node" "depth" "I"]
def wsX8_alarm_r4 : List Cond := [Cond.methodLink RX8 86 yX0_init, Cond.instanceMethod yX0_init, Cond.code yX0_init cX0_init 8 none, Cond.methodLink RX0 3 objectInit, Cond.fieldLink RX0 15 "CryOrder$Alarm" "number" "I", Cond.fieldLink RX0 18 "CryOrder$Alarm" "came" "I", Cond.fieldLink RX0 21 "CryOrder$Alarm" "source" "I", Cond.fieldLink RX0 24 "CryOrder$Alarm" "thing" "I", Cond.fieldLink RX0 27 "CryOrder$Alarm" "marks" "I", Cond.fieldLink RX0 30 "CryOrder$Alarm" "worth" "I", Cond.fieldLink RX0 33 "CryOrder$Alarm" "leaf" "LCryOrder$Node;", Cond.classLink RX0 37 RX1, Cond.instantiable RX1 4, Cond.initialized RX1, Cond.fieldLink RX0 42 "CryOrder$Alarm" "led" "LCryOrder$Case;", Cond.methodLink RX0 39 yX1_init, Cond.instanceMethod yX1_init, Cond.code yX1_init cX1_init 2 none, Cond.methodLink RX1 1 objectInit, Cond.fieldLink RX1 7 "CryOrder$Case" "number" "I", Cond.methodLink RX8 89 yX8_isSilencedNow, Cond.instanceMethod yX8_isSilencedNow, Cond.selects RX8 yX8_isSilencedNow yX8_isSilencedNow, Cond.code yX8_isSilencedNow cX8_isSilencedNow 3 (some .boolean)]
def wsX8_alarm_r5 : List Cond := [Cond.fieldLink RX8 116 "CryOrder" "silenceCount" "I", Cond.fieldLink RX8 20 "CryOrder" "silences" "[LCryOrder$Silence;", Cond.methodLink RX8 279 yX6_covers, Cond.instanceMethod yX6_covers, Cond.selects RX6 yX6_covers yX6_covers, Cond.initialized RX6, Cond.code yX6_covers cX6_covers 3 (some .boolean), Cond.fieldLink RX6 7 "CryOrder$Silence" "source" "I", Cond.fieldLink RX6 13 "CryOrder$Silence" "from" "I", Cond.fieldLink RX6 16 "CryOrder$Silence" "to" "I", Cond.methodLink RX8 97 yX8_isCapFullNow, Cond.instanceMethod yX8_isCapFullNow, Cond.selects RX8 yX8_isCapFullNow yX8_isCapFullNow, Cond.code yX8_isCapFullNow cX8_isCapFullNow 4 (some .boolean), Cond.fieldLink RX8 148 "CryOrder$Alarm" "came" "I", Cond.fieldLink RX8 54 "CryOrder" "cap" "I", Cond.methodLink RX8 273 yX0_isHushed, Cond.methodLink RX8 106 yX3_addOpen, Cond.instanceMethod yX3_addOpen, Cond.selects RX3 yX3_addOpen yX3_addOpen, Cond.code yX3_addOpen cX3_addOpen 2 none, Cond.fieldLink RX3 39 "CryOrder$Node" "open" "I"]
def wsX8_alarm : List Cond := .code yX8_alarm cX8_alarm 7 (some .int) :: ((wsX8_alarm_r1 ++ (wsX8_alarm_r2 ++ (wsX8_alarm_r3 ++ (wsX8_alarm_r4 ++ wsX8_alarm_r5)))) ++ wsX80 ++ wsX00 ++ wsX30 ++ wsX10 ++ wsX60)
def wsX8_silence : List Cond := .code yX8_silence cX8_silence 4 (some .int) :: ([.fieldLink RX8 116 "CryOrder" "silenceCount" "I", .fieldLink RX8 20 "CryOrder" "silences" "[LCryOrder$Silence;", .classLink RX8 18 RX6, .instantiable RX6 3, .initialized RX6, .methodLink RX8 64 yX8_isBelow, .static yX8_isBelow, .initialized RX8, .code yX8_isBelow cX8_isBelow 2 (some .boolean), .methodLink RX8 119 yX6_init, .instanceMethod yX6_init, .code yX6_init cX6_init 4 none, .methodLink RX6 1 objectInit, .instanceMethod objectInit, .code objectInit ⟨#[0xb1]⟩ 1 none, .fieldLink RX6 7 "CryOrder$Silence" "source" "I", .fieldLink RX6 13 "CryOrder$Silence" "from" "I", .fieldLink RX6 16 "CryOrder$Silence" "to" "I"] ++ wsX80 ++ wsX60)
def wsX8_set : List Cond := .code yX8_set cX8_set 3 (some .boolean) :: ([.fieldLink RX8 54 "CryOrder" "cap" "I", .fieldLink RX8 58 "CryOrder" "leastSettled" "I", .fieldLink RX8 113 "CryOrder" "casesAreStale" "Z", .fieldLink RX8 122 "CryOrder" "tries" "I"] ++ wsX80)
def wsX8_alarmAt : List Cond := .code yX8_alarmAt cX8_alarmAt 2 (some (.object "CryOrder$Alarm")) :: ([.fieldLink RX8 79 "CryOrder" "alarmCount" "I", .fieldLink RX8 11 "CryOrder" "alarms" "[LCryOrder$Alarm;", .methodLink RX8 64 yX8_isBelow, .static yX8_isBelow, .initialized RX8, .code yX8_isBelow cX8_isBelow 2 (some .boolean)] ++ wsX80)
def wsX8_verdict_r1 : List Cond := [Cond.fieldLink RX8 103 "CryOrder$Alarm" "leaf" "LCryOrder$Node;", Cond.fieldLink RX8 113 "CryOrder" "casesAreStale" "Z", Cond.methodLink RX8 125 yX8_alarmAt, Cond.instanceMethod yX8_alarmAt, Cond.selects RX8 yX8_alarmAt yX8_alarmAt, Cond.initialized RX8, Cond.code yX8_alarmAt cX8_alarmAt 2 (some (.object "CryOrder$Alarm")), Cond.fieldLink RX8 79 "CryOrder" "alarmCount" "I", Cond.fieldLink RX8 11 "CryOrder" "alarms" "[LCryOrder$Alarm;", Cond.methodLink RX8 64 yX8_isBelow, Cond.static yX8_isBelow, Cond.code yX8_isBelow cX8_isBelow 2 (some .boolean), Cond.methodLink RX8 129 yX0_isOpen, Cond.instanceMethod yX0_isOpen, Cond.selects RX0 yX0_isOpen yX0_isOpen, Cond.initialized RX0, Cond.code yX0_isOpen cX0_isOpen 1 (some .boolean), Cond.fieldLink RX0 9 "CryOrder$Alarm" "state" "I", Cond.methodLink RX8 133 yX0_hasHeard, Cond.instanceMethod yX0_hasHeard, Cond.selects RX0 yX0_hasHeard yX0_hasHeard, Cond.code yX0_hasHeard cX0_hasHeard 2 (some .boolean), Cond.fieldLink RX0 66 "CryOrder$Alarm" "lookersForTrue" "I", Cond.fieldLink RX0 69 "CryOrder$Alarm" "lookersForFalse" "I"]
def wsX8_verdict_r2 : List Cond := [Cond.methodLink RX8 136 yX0_hear, Cond.instanceMethod yX0_hear, Cond.selects RX0 yX0_hear yX0_hear, Cond.code yX0_hear cX0_hear 3 none, Cond.methodLink RX0 72 yJ6_bitCount_0f7a4, Cond.static yJ6_bitCount_0f7a4, Cond.initialized RJ6, Cond.code yJ6_bitCount_0f7a4 cJ6_bitCount_0f7a4 1 (some .int), Cond.constant RJ6 265 (1431655765), Cond.constant RJ6 266 (858993459), Cond.constant RJ6 267 (252645135), Cond.methodLink RX8 140 yX3_settle, Cond.instanceMethod yX3_settle, Cond.selects RX3 yX3_settle yX3_settle, Cond.initialized RX3, Cond.code yX3_settle cX3_settle 3 none, Cond.fieldLink RX3 39 "CryOrder$Node" "open" "I", Cond.fieldLink RX3 42 "CryOrder$Node" "settled" "I", Cond.fieldLink RX3 45 "CryOrder$Node" "settledTrue" "I", Cond.fieldLink RX3 9 "CryOrder$Node" "parent" "LCryOrder$Node;", Cond.static yX8_oneIf, Cond.code yX8_oneIf cX8_oneIf 1 (some .int)]
def wsX8_verdict : List Cond := .code yX8_verdict cX8_verdict 5 (some .int) :: ((wsX8_verdict_r1 ++ wsX8_verdict_r2) ++ wsX00 ++ wsX80 ++ wsX30)
def wsX8_tie_r1 : List Cond := [Cond.fieldLink RX8 79 "CryOrder" "alarmCount" "I", Cond.fieldLink RX8 36 "CryOrder" "ties" "LCryOrder$Ties;", Cond.fieldLink RX8 113 "CryOrder" "casesAreStale" "Z", Cond.methodLink RX8 64 yX8_isBelow, Cond.static yX8_isBelow, Cond.initialized RX8, Cond.code yX8_isBelow cX8_isBelow 2 (some .boolean), Cond.methodLink RX8 144 yX7_tell, Cond.instanceMethod yX7_tell, Cond.selects RX7 yX7_tell yX7_tell, Cond.initialized RX7, Cond.code yX7_tell cX7_tell 6 (some .boolean), Cond.fieldLink RX7 40 "CryOrder$Pair" "joined" "Z", Cond.fieldLink RX7 26 "CryOrder$Ties" "size" "I", Cond.fieldLink RX7 11 "CryOrder$Ties" "pairs" "[LCryOrder$Pair;", Cond.classLink RX7 9 RX4, Cond.instantiable RX4 3, Cond.initialized RX4, Cond.methodLink RX7 17 Lib.Math.min.name, Cond.static Lib.Math.min.name, Cond.initialized "java/lang/Math", Cond.code Lib.Math.min.name Lib.Math.min.code 2 (some .int), Cond.methodLink RX7 23 Lib.Math.max.name, Cond.static Lib.Math.max.name]
def wsX8_tie_r2 : List Cond := [Cond.code Lib.Math.max.name Lib.Math.max.code 2 (some .int), Cond.methodLink RX7 36 yX7_find, Cond.instanceMethod yX7_find, Cond.selects RX7 yX7_find yX7_find, Cond.code yX7_find cX7_find 6 (some (.object "CryOrder$Pair")), Cond.fieldLink RX7 30 "CryOrder$Pair" "lesser" "I", Cond.fieldLink RX7 33 "CryOrder$Pair" "greater" "I", Cond.methodLink RX7 44 yX4_init, Cond.instanceMethod yX4_init, Cond.code yX4_init cX4_init 4 none, Cond.methodLink RX4 1 objectInit, Cond.instanceMethod objectInit, Cond.code objectInit ⟨#[0xb1]⟩ 1 none, Cond.fieldLink RX4 7 "CryOrder$Pair" "lesser" "I", Cond.fieldLink RX4 13 "CryOrder$Pair" "greater" "I", Cond.fieldLink RX4 16 "CryOrder$Pair" "joined" "Z"]
def wsX8_tie : List Cond := .code yX8_tie cX8_tie 4 (some .boolean) :: ((wsX8_tie_r1 ++ wsX8_tie_r2) ++ wsX80 ++ wsX40 ++ wsX70)
def wsX8_casesNow_r1 : List Cond := [Cond.fieldLink RX8 113 "CryOrder" "casesAreStale" "Z", Cond.fieldLink RX8 43 "CryOrder" "cases" "LCryOrder$Cases;", Cond.fieldLink RX8 11 "CryOrder" "alarms" "[LCryOrder$Alarm;", Cond.fieldLink RX8 79 "CryOrder" "alarmCount" "I", Cond.fieldLink RX8 36 "CryOrder" "ties" "LCryOrder$Ties;", Cond.fieldLink RX8 58 "CryOrder" "leastSettled" "I", Cond.methodLink RX8 282 yX2_gather, Cond.instanceMethod yX2_gather, Cond.selects RX2 yX2_gather yX2_gather, Cond.initialized RX2, Cond.code yX2_gather cX2_gather 6 none, Cond.fieldLink RX2 17 "CryOrder$Alarm" "above" "LCryOrder$Alarm;", Cond.fieldLink RX2 23 "CryOrder$Alarm" "led" "LCryOrder$Case;", Cond.methodLink RX2 27 yX1_clear, Cond.instanceMethod yX1_clear, Cond.selects RX1 yX1_clear yX1_clear, Cond.initialized RX1, Cond.code yX1_clear cX1_clear 1 none, Cond.fieldLink RX1 13 "CryOrder$Case" "size" "I", Cond.fieldLink RX1 16 "CryOrder$Case" "score" "I", Cond.fieldLink RX1 19 "CryOrder$Case" "littleKnown" "Z", Cond.methodLink RX2 30 yX0_isLive, Cond.instanceMethod yX0_isLive, Cond.selects RX0 yX0_isLive yX0_isLive]
def wsX8_casesNow_r2 : List Cond := [Cond.initialized RX0, Cond.code yX0_isLive cX0_isLive 1 (some .boolean), Cond.methodLink RX0 56 yX0_isOpen, Cond.instanceMethod yX0_isOpen, Cond.selects RX0 yX0_isOpen yX0_isOpen, Cond.code yX0_isOpen cX0_isOpen 1 (some .boolean), Cond.fieldLink RX0 9 "CryOrder$Alarm" "state" "I", Cond.methodLink RX0 60 yX0_isHushed, Cond.instanceMethod yX0_isHushed, Cond.selects RX0 yX0_isHushed yX0_isHushed, Cond.code yX0_isHushed cX0_isHushed 1 (some .boolean), Cond.fieldLink RX0 49 "CryOrder$Alarm" "silenced" "Z", Cond.fieldLink RX0 53 "CryOrder$Alarm" "capped" "Z", Cond.methodLink RX2 34 yX2_joinWithSoonerOnes, Cond.static yX2_joinWithSoonerOnes, Cond.code yX2_joinWithSoonerOnes cX2_joinWithSoonerOnes 3 none, Cond.fieldLink RX2 61 "CryOrder$Alarm" "soonerOfThing" "LCryOrder$Alarm;", Cond.fieldLink RX2 64 "CryOrder$Alarm" "came" "I", Cond.fieldLink RX2 71 "CryOrder$Alarm" "number" "I", Cond.methodLink RX2 67 yX0_head, Cond.instanceMethod yX0_head, Cond.selects RX0 yX0_head yX0_head, Cond.code yX0_head cX0_head 2 (some (.object "CryOrder$Alarm")), Cond.fieldLink RX0 97 "CryOrder$Alarm" "above" "LCryOrder$Alarm;"]
def wsX8_casesNow_r3 : List Cond := [Cond.methodLink RX2 74 yX7_isParted, Cond.instanceMethod yX7_isParted, Cond.selects RX7 yX7_isParted yX7_isParted, Cond.initialized RX7, Cond.code yX7_isParted cX7_isParted 4 (some .boolean), Cond.fieldLink RX7 40 "CryOrder$Pair" "joined" "Z", Cond.methodLink RX7 36 yX7_find, Cond.instanceMethod yX7_find, Cond.selects RX7 yX7_find yX7_find, Cond.code yX7_find cX7_find 6 (some (.object "CryOrder$Pair")), Cond.methodLink RX7 17 Lib.Math.min.name, Cond.static Lib.Math.min.name, Cond.initialized "java/lang/Math", Cond.code Lib.Math.min.name Lib.Math.min.code 2 (some .int), Cond.methodLink RX7 23 Lib.Math.max.name, Cond.static Lib.Math.max.name, Cond.code Lib.Math.max.name Lib.Math.max.code 2 (some .int), Cond.fieldLink RX7 26 "CryOrder$Ties" "size" "I", Cond.fieldLink RX7 11 "CryOrder$Ties" "pairs" "[LCryOrder$Pair;", Cond.fieldLink RX7 30 "CryOrder$Pair" "lesser" "I", Cond.fieldLink RX7 33 "CryOrder$Pair" "greater" "I", Cond.methodLink RX2 79 yX0_joinCaseOf, Cond.instanceMethod yX0_joinCaseOf, Cond.selects RX0 yX0_joinCaseOf yX0_joinCaseOf]
def wsX8_casesNow_r4 : List Cond := [Cond.code yX0_joinCaseOf cX0_joinCaseOf 4 none, Cond.fieldLink RX0 15 "CryOrder$Alarm" "number" "I", Cond.methodLink RX0 101 yX0_head, Cond.methodLink RX2 38 yX2_joinToldOnes, Cond.static yX2_joinToldOnes, Cond.code yX2_joinToldOnes cX2_joinToldOnes 5 none, Cond.fieldLink RX2 83 "CryOrder$Ties" "size" "I", Cond.fieldLink RX2 84 "CryOrder$Ties" "pairs" "[LCryOrder$Pair;", Cond.fieldLink RX2 88 "CryOrder$Pair" "joined" "Z", Cond.fieldLink RX2 94 "CryOrder$Pair" "lesser" "I", Cond.fieldLink RX2 97 "CryOrder$Pair" "greater" "I", Cond.static yX8_isBelow, Cond.initialized RX8, Cond.code yX8_isBelow cX8_isBelow 2 (some .boolean), Cond.methodLink RX2 42 yX2_fillCases, Cond.static yX2_fillCases, Cond.code yX2_fillCases cX2_fillCases 5 none, Cond.fieldLink RX2 107 "CryOrder$Node" "depth" "I", Cond.methodLink RX2 100 yX0_score, Cond.instanceMethod yX0_score, Cond.selects RX0 yX0_score yX0_score, Cond.code yX0_score cX0_score 4 (some .int), Cond.fieldLink RX0 30 "CryOrder$Alarm" "worth" "I", Cond.methodLink RX0 86 yX0_nodeFor]
def wsX8_casesNow_r5 : List Cond := [Cond.instanceMethod yX0_nodeFor, Cond.selects RX0 yX0_nodeFor yX0_nodeFor, Cond.code yX0_nodeFor cX0_nodeFor 3 (some (.object "CryOrder$Node")), Cond.fieldLink RX0 33 "CryOrder$Alarm" "leaf" "LCryOrder$Node;", Cond.fieldLink RX0 78 "CryOrder$Node" "settled" "I", Cond.fieldLink RX0 83 "CryOrder$Node" "parent" "LCryOrder$Node;", Cond.methodLink RX0 90 yX3_oddsLower, Cond.instanceMethod yX3_oddsLower, Cond.selects RX3 yX3_oddsLower yX3_oddsLower, Cond.initialized RX3, Cond.code yX3_oddsLower cX3_oddsLower 1 (some .int), Cond.fieldLink RX3 42 "CryOrder$Node" "settled" "I", Cond.methodLink RX0 94 yX3_oddsUpper, Cond.instanceMethod yX3_oddsUpper, Cond.selects RX3 yX3_oddsUpper yX3_oddsUpper, Cond.code yX3_oddsUpper cX3_oddsUpper 1 (some .int), Cond.fieldLink RX3 45 "CryOrder$Node" "settledTrue" "I", Cond.methodLink RX2 103 yX0_nodeFor, Cond.methodLink RX2 112 yX1_add, Cond.instanceMethod yX1_add, Cond.selects RX1 yX1_add yX1_add, Cond.code yX1_add cX1_add 3 none, Cond.methodLink RX1 23 Lib.Math.max.name, Cond.methodLink RX2 46 yX2_putInOrder]
def wsX8_casesNow_r6 : List Cond := [Cond.instanceMethod yX2_putInOrder, Cond.selects RX2 yX2_putInOrder yX2_putInOrder, Cond.code yX2_putInOrder cX2_putInOrder 4 none, Cond.fieldLink RX2 50 "CryOrder$Cases" "size" "I", Cond.fieldLink RX2 116 "CryOrder$Case" "size" "I", Cond.methodLink RX2 117 yX2_putInPlace, Cond.instanceMethod yX2_putInPlace, Cond.selects RX2 yX2_putInPlace yX2_putInPlace, Cond.code yX2_putInPlace cX2_putInPlace 3 none, Cond.fieldLink RX2 11 "CryOrder$Cases" "ordered" "[LCryOrder$Case;", Cond.methodLink RX2 121 yX1_isAheadOf, Cond.instanceMethod yX1_isAheadOf, Cond.selects RX1 yX1_isAheadOf yX1_isAheadOf, Cond.code yX1_isAheadOf cX1_isAheadOf 2 (some .boolean), Cond.fieldLink RX1 7 "CryOrder$Case" "number" "I"]
def wsX8_casesNow : List Cond := .code yX8_casesNow cX8_casesNow 1 (some (.object "CryOrder$Cases")) :: ((wsX8_casesNow_r1 ++ (wsX8_casesNow_r2 ++ (wsX8_casesNow_r3 ++ (wsX8_casesNow_r4 ++ (wsX8_casesNow_r5 ++ wsX8_casesNow_r6))))) ++ wsX80 ++ wsX00 ++ wsX10 ++ wsX40 ++ wsX70 ++ wsX30 ++ wsX20)
def wsX8_caseNumberOf_r1 : List Cond := [Cond.fieldLink RX8 76 "CryOrder$Alarm" "number" "I", Cond.methodLink RX8 214 yX8_casesNow, Cond.instanceMethod yX8_casesNow, Cond.selects RX8 yX8_casesNow yX8_casesNow, Cond.initialized RX8, Cond.code yX8_casesNow cX8_casesNow 1 (some (.object "CryOrder$Cases")), Cond.fieldLink RX8 113 "CryOrder" "casesAreStale" "Z", Cond.fieldLink RX8 43 "CryOrder" "cases" "LCryOrder$Cases;", Cond.fieldLink RX8 11 "CryOrder" "alarms" "[LCryOrder$Alarm;", Cond.fieldLink RX8 79 "CryOrder" "alarmCount" "I", Cond.fieldLink RX8 36 "CryOrder" "ties" "LCryOrder$Ties;", Cond.fieldLink RX8 58 "CryOrder" "leastSettled" "I", Cond.methodLink RX8 282 yX2_gather, Cond.instanceMethod yX2_gather, Cond.selects RX2 yX2_gather yX2_gather, Cond.initialized RX2, Cond.code yX2_gather cX2_gather 6 none, Cond.fieldLink RX2 17 "CryOrder$Alarm" "above" "LCryOrder$Alarm;", Cond.fieldLink RX2 23 "CryOrder$Alarm" "led" "LCryOrder$Case;", Cond.methodLink RX2 27 yX1_clear, Cond.instanceMethod yX1_clear, Cond.selects RX1 yX1_clear yX1_clear, Cond.initialized RX1, Cond.code yX1_clear cX1_clear 1 none]
def wsX8_caseNumberOf_r2 : List Cond := [Cond.fieldLink RX1 13 "CryOrder$Case" "size" "I", Cond.fieldLink RX1 16 "CryOrder$Case" "score" "I", Cond.fieldLink RX1 19 "CryOrder$Case" "littleKnown" "Z", Cond.methodLink RX2 30 yX0_isLive, Cond.instanceMethod yX0_isLive, Cond.selects RX0 yX0_isLive yX0_isLive, Cond.initialized RX0, Cond.code yX0_isLive cX0_isLive 1 (some .boolean), Cond.methodLink RX0 56 yX0_isOpen, Cond.instanceMethod yX0_isOpen, Cond.selects RX0 yX0_isOpen yX0_isOpen, Cond.code yX0_isOpen cX0_isOpen 1 (some .boolean), Cond.fieldLink RX0 9 "CryOrder$Alarm" "state" "I", Cond.methodLink RX0 60 yX0_isHushed, Cond.instanceMethod yX0_isHushed, Cond.selects RX0 yX0_isHushed yX0_isHushed, Cond.code yX0_isHushed cX0_isHushed 1 (some .boolean), Cond.fieldLink RX0 49 "CryOrder$Alarm" "silenced" "Z", Cond.fieldLink RX0 53 "CryOrder$Alarm" "capped" "Z", Cond.methodLink RX2 34 yX2_joinWithSoonerOnes, Cond.static yX2_joinWithSoonerOnes, Cond.code yX2_joinWithSoonerOnes cX2_joinWithSoonerOnes 3 none, Cond.fieldLink RX2 61 "CryOrder$Alarm" "soonerOfThing" "LCryOrder$Alarm;", Cond.fieldLink RX2 64 "CryOrder$Alarm" "came" "I"]
def wsX8_caseNumberOf_r3 : List Cond := [Cond.fieldLink RX2 71 "CryOrder$Alarm" "number" "I", Cond.methodLink RX2 67 yX0_head, Cond.instanceMethod yX0_head, Cond.selects RX0 yX0_head yX0_head, Cond.code yX0_head cX0_head 2 (some (.object "CryOrder$Alarm")), Cond.fieldLink RX0 97 "CryOrder$Alarm" "above" "LCryOrder$Alarm;", Cond.methodLink RX2 74 yX7_isParted, Cond.instanceMethod yX7_isParted, Cond.selects RX7 yX7_isParted yX7_isParted, Cond.initialized RX7, Cond.code yX7_isParted cX7_isParted 4 (some .boolean), Cond.fieldLink RX7 40 "CryOrder$Pair" "joined" "Z", Cond.methodLink RX7 36 yX7_find, Cond.instanceMethod yX7_find, Cond.selects RX7 yX7_find yX7_find, Cond.code yX7_find cX7_find 6 (some (.object "CryOrder$Pair")), Cond.methodLink RX7 17 Lib.Math.min.name, Cond.static Lib.Math.min.name, Cond.initialized "java/lang/Math", Cond.code Lib.Math.min.name Lib.Math.min.code 2 (some .int), Cond.methodLink RX7 23 Lib.Math.max.name, Cond.static Lib.Math.max.name, Cond.code Lib.Math.max.name Lib.Math.max.code 2 (some .int), Cond.fieldLink RX7 26 "CryOrder$Ties" "size" "I"]
def wsX8_caseNumberOf_r4 : List Cond := [Cond.fieldLink RX7 11 "CryOrder$Ties" "pairs" "[LCryOrder$Pair;", Cond.fieldLink RX7 30 "CryOrder$Pair" "lesser" "I", Cond.fieldLink RX7 33 "CryOrder$Pair" "greater" "I", Cond.methodLink RX2 79 yX0_joinCaseOf, Cond.instanceMethod yX0_joinCaseOf, Cond.selects RX0 yX0_joinCaseOf yX0_joinCaseOf, Cond.code yX0_joinCaseOf cX0_joinCaseOf 4 none, Cond.fieldLink RX0 15 "CryOrder$Alarm" "number" "I", Cond.methodLink RX0 101 yX0_head, Cond.methodLink RX2 38 yX2_joinToldOnes, Cond.static yX2_joinToldOnes, Cond.code yX2_joinToldOnes cX2_joinToldOnes 5 none, Cond.fieldLink RX2 83 "CryOrder$Ties" "size" "I", Cond.fieldLink RX2 84 "CryOrder$Ties" "pairs" "[LCryOrder$Pair;", Cond.fieldLink RX2 88 "CryOrder$Pair" "joined" "Z", Cond.fieldLink RX2 94 "CryOrder$Pair" "lesser" "I", Cond.fieldLink RX2 97 "CryOrder$Pair" "greater" "I", Cond.static yX8_isBelow, Cond.code yX8_isBelow cX8_isBelow 2 (some .boolean), Cond.methodLink RX2 42 yX2_fillCases, Cond.static yX2_fillCases, Cond.code yX2_fillCases cX2_fillCases 5 none, Cond.fieldLink RX2 107 "CryOrder$Node" "depth" "I", Cond.methodLink RX2 100 yX0_score]
def wsX8_caseNumberOf_r5 : List Cond := [Cond.instanceMethod yX0_score, Cond.selects RX0 yX0_score yX0_score, Cond.code yX0_score cX0_score 4 (some .int), Cond.fieldLink RX0 30 "CryOrder$Alarm" "worth" "I", Cond.methodLink RX0 86 yX0_nodeFor, Cond.instanceMethod yX0_nodeFor, Cond.selects RX0 yX0_nodeFor yX0_nodeFor, Cond.code yX0_nodeFor cX0_nodeFor 3 (some (.object "CryOrder$Node")), Cond.fieldLink RX0 33 "CryOrder$Alarm" "leaf" "LCryOrder$Node;", Cond.fieldLink RX0 78 "CryOrder$Node" "settled" "I", Cond.fieldLink RX0 83 "CryOrder$Node" "parent" "LCryOrder$Node;", Cond.methodLink RX0 90 yX3_oddsLower, Cond.instanceMethod yX3_oddsLower, Cond.selects RX3 yX3_oddsLower yX3_oddsLower, Cond.initialized RX3, Cond.code yX3_oddsLower cX3_oddsLower 1 (some .int), Cond.fieldLink RX3 42 "CryOrder$Node" "settled" "I", Cond.methodLink RX0 94 yX3_oddsUpper, Cond.instanceMethod yX3_oddsUpper, Cond.selects RX3 yX3_oddsUpper yX3_oddsUpper, Cond.code yX3_oddsUpper cX3_oddsUpper 1 (some .int), Cond.fieldLink RX3 45 "CryOrder$Node" "settledTrue" "I", Cond.methodLink RX2 103 yX0_nodeFor, Cond.methodLink RX2 112 yX1_add]
def wsX8_caseNumberOf_r6 : List Cond := [Cond.instanceMethod yX1_add, Cond.selects RX1 yX1_add yX1_add, Cond.code yX1_add cX1_add 3 none, Cond.methodLink RX1 23 Lib.Math.max.name, Cond.methodLink RX2 46 yX2_putInOrder, Cond.instanceMethod yX2_putInOrder, Cond.selects RX2 yX2_putInOrder yX2_putInOrder, Cond.code yX2_putInOrder cX2_putInOrder 4 none, Cond.fieldLink RX2 50 "CryOrder$Cases" "size" "I", Cond.fieldLink RX2 116 "CryOrder$Case" "size" "I", Cond.methodLink RX2 117 yX2_putInPlace, Cond.instanceMethod yX2_putInPlace, Cond.selects RX2 yX2_putInPlace yX2_putInPlace, Cond.code yX2_putInPlace cX2_putInPlace 3 none, Cond.fieldLink RX2 11 "CryOrder$Cases" "ordered" "[LCryOrder$Case;", Cond.methodLink RX2 121 yX1_isAheadOf, Cond.instanceMethod yX1_isAheadOf, Cond.selects RX1 yX1_isAheadOf yX1_isAheadOf, Cond.code yX1_isAheadOf cX1_isAheadOf 2 (some .boolean), Cond.fieldLink RX1 7 "CryOrder$Case" "number" "I", Cond.methodLink RX8 225 yX0_isLive, Cond.methodLink RX8 286 yX0_head]
def wsX8_caseNumberOf : List Cond := .code yX8_caseNumberOf cX8_caseNumberOf 2 (some .int) :: ((wsX8_caseNumberOf_r1 ++ (wsX8_caseNumberOf_r2 ++ (wsX8_caseNumberOf_r3 ++ (wsX8_caseNumberOf_r4 ++ (wsX8_caseNumberOf_r5 ++ wsX8_caseNumberOf_r6))))) ++ wsX00 ++ wsX80 ++ wsX10 ++ wsX40 ++ wsX70 ++ wsX30 ++ wsX20)
def wsX8_told_r1 : List Cond := [Cond.fieldLink RX8 148 "CryOrder$Alarm" "came" "I", Cond.fieldLink RX8 151 "CryOrder$Alarm" "source" "I", Cond.fieldLink RX8 154 "CryOrder$Alarm" "thing" "I", Cond.fieldLink RX8 157 "CryOrder$Alarm" "marks" "I", Cond.fieldLink RX8 160 "CryOrder$Alarm" "worth" "I", Cond.fieldLink RX8 163 "CryOrder$Alarm" "repeats" "I", Cond.fieldLink RX8 166 "CryOrder$Alarm" "state" "I", Cond.fieldLink RX8 93 "CryOrder$Alarm" "silenced" "Z", Cond.fieldLink RX8 100 "CryOrder$Alarm" "capped" "Z", Cond.fieldLink RX8 58 "CryOrder" "leastSettled" "I", Cond.fieldLink RX8 180 "CryOrder$Node" "depth" "I", Cond.methodLink RX8 125 yX8_alarmAt, Cond.instanceMethod yX8_alarmAt, Cond.selects RX8 yX8_alarmAt yX8_alarmAt, Cond.initialized RX8, Cond.code yX8_alarmAt cX8_alarmAt 2 (some (.object "CryOrder$Alarm")), Cond.fieldLink RX8 79 "CryOrder" "alarmCount" "I", Cond.fieldLink RX8 11 "CryOrder" "alarms" "[LCryOrder$Alarm;", Cond.methodLink RX8 64 yX8_isBelow, Cond.static yX8_isBelow, Cond.code yX8_isBelow cX8_isBelow 2 (some .boolean), Cond.methodLink RX8 169 yX8_oneIf, Cond.static yX8_oneIf, Cond.code yX8_oneIf cX8_oneIf 1 (some .int)]
def wsX8_told_r2 : List Cond := [Cond.methodLink RX8 173 yX0_score, Cond.instanceMethod yX0_score, Cond.selects RX0 yX0_score yX0_score, Cond.initialized RX0, Cond.code yX0_score cX0_score 4 (some .int), Cond.fieldLink RX0 30 "CryOrder$Alarm" "worth" "I", Cond.methodLink RX0 86 yX0_nodeFor, Cond.instanceMethod yX0_nodeFor, Cond.selects RX0 yX0_nodeFor yX0_nodeFor, Cond.code yX0_nodeFor cX0_nodeFor 3 (some (.object "CryOrder$Node")), Cond.fieldLink RX0 33 "CryOrder$Alarm" "leaf" "LCryOrder$Node;", Cond.fieldLink RX0 78 "CryOrder$Node" "settled" "I", Cond.fieldLink RX0 83 "CryOrder$Node" "parent" "LCryOrder$Node;", Cond.methodLink RX0 90 yX3_oddsLower, Cond.instanceMethod yX3_oddsLower, Cond.selects RX3 yX3_oddsLower yX3_oddsLower, Cond.initialized RX3, Cond.code yX3_oddsLower cX3_oddsLower 1 (some .int), Cond.fieldLink RX3 42 "CryOrder$Node" "settled" "I", Cond.methodLink RX0 94 yX3_oddsUpper, Cond.instanceMethod yX3_oddsUpper, Cond.selects RX3 yX3_oddsUpper yX3_oddsUpper, Cond.code yX3_oddsUpper cX3_oddsUpper 1 (some .int), Cond.fieldLink RX3 45 "CryOrder$Node" "settledTrue" "I"]
def wsX8_told_r3 : List Cond := [Cond.methodLink RX8 177 yX0_nodeFor, Cond.methodLink RX8 183 yX0_verdicts, Cond.instanceMethod yX0_verdicts, Cond.selects RX0 yX0_verdicts yX0_verdicts, Cond.code yX0_verdicts cX0_verdicts 1 (some .int), Cond.fieldLink RX0 66 "CryOrder$Alarm" "lookersForTrue" "I", Cond.fieldLink RX0 69 "CryOrder$Alarm" "lookersForFalse" "I", Cond.methodLink RX0 72 yJ6_bitCount_0f7a4, Cond.static yJ6_bitCount_0f7a4, Cond.initialized RJ6, Cond.code yJ6_bitCount_0f7a4 cJ6_bitCount_0f7a4 1 (some .int), Cond.constant RJ6 265 (1431655765), Cond.constant RJ6 266 (858993459), Cond.constant RJ6 267 (252645135), Cond.methodLink RX8 187 yX8_caseNumberOf, Cond.instanceMethod yX8_caseNumberOf, Cond.selects RX8 yX8_caseNumberOf yX8_caseNumberOf, Cond.code yX8_caseNumberOf cX8_caseNumberOf 2 (some .int), Cond.fieldLink RX8 76 "CryOrder$Alarm" "number" "I", Cond.methodLink RX8 214 yX8_casesNow, Cond.instanceMethod yX8_casesNow, Cond.selects RX8 yX8_casesNow yX8_casesNow, Cond.code yX8_casesNow cX8_casesNow 1 (some (.object "CryOrder$Cases")), Cond.fieldLink RX8 113 "CryOrder" "casesAreStale" "Z"]
def wsX8_told_r4 : List Cond := [Cond.fieldLink RX8 43 "CryOrder" "cases" "LCryOrder$Cases;", Cond.fieldLink RX8 36 "CryOrder" "ties" "LCryOrder$Ties;", Cond.methodLink RX8 282 yX2_gather, Cond.instanceMethod yX2_gather, Cond.selects RX2 yX2_gather yX2_gather, Cond.initialized RX2, Cond.code yX2_gather cX2_gather 6 none, Cond.fieldLink RX2 17 "CryOrder$Alarm" "above" "LCryOrder$Alarm;", Cond.fieldLink RX2 23 "CryOrder$Alarm" "led" "LCryOrder$Case;", Cond.methodLink RX2 27 yX1_clear, Cond.instanceMethod yX1_clear, Cond.selects RX1 yX1_clear yX1_clear, Cond.initialized RX1, Cond.code yX1_clear cX1_clear 1 none, Cond.fieldLink RX1 13 "CryOrder$Case" "size" "I", Cond.fieldLink RX1 16 "CryOrder$Case" "score" "I", Cond.fieldLink RX1 19 "CryOrder$Case" "littleKnown" "Z", Cond.methodLink RX2 30 yX0_isLive, Cond.instanceMethod yX0_isLive, Cond.selects RX0 yX0_isLive yX0_isLive, Cond.code yX0_isLive cX0_isLive 1 (some .boolean), Cond.methodLink RX0 56 yX0_isOpen, Cond.instanceMethod yX0_isOpen, Cond.selects RX0 yX0_isOpen yX0_isOpen]
def wsX8_told_r5 : List Cond := [Cond.code yX0_isOpen cX0_isOpen 1 (some .boolean), Cond.fieldLink RX0 9 "CryOrder$Alarm" "state" "I", Cond.methodLink RX0 60 yX0_isHushed, Cond.instanceMethod yX0_isHushed, Cond.selects RX0 yX0_isHushed yX0_isHushed, Cond.code yX0_isHushed cX0_isHushed 1 (some .boolean), Cond.fieldLink RX0 49 "CryOrder$Alarm" "silenced" "Z", Cond.fieldLink RX0 53 "CryOrder$Alarm" "capped" "Z", Cond.methodLink RX2 34 yX2_joinWithSoonerOnes, Cond.static yX2_joinWithSoonerOnes, Cond.code yX2_joinWithSoonerOnes cX2_joinWithSoonerOnes 3 none, Cond.fieldLink RX2 61 "CryOrder$Alarm" "soonerOfThing" "LCryOrder$Alarm;", Cond.fieldLink RX2 64 "CryOrder$Alarm" "came" "I", Cond.fieldLink RX2 71 "CryOrder$Alarm" "number" "I", Cond.methodLink RX2 67 yX0_head, Cond.instanceMethod yX0_head, Cond.selects RX0 yX0_head yX0_head, Cond.code yX0_head cX0_head 2 (some (.object "CryOrder$Alarm")), Cond.fieldLink RX0 97 "CryOrder$Alarm" "above" "LCryOrder$Alarm;", Cond.methodLink RX2 74 yX7_isParted, Cond.instanceMethod yX7_isParted, Cond.selects RX7 yX7_isParted yX7_isParted, Cond.initialized RX7, Cond.code yX7_isParted cX7_isParted 4 (some .boolean)]
def wsX8_told_r6 : List Cond := [Cond.fieldLink RX7 40 "CryOrder$Pair" "joined" "Z", Cond.methodLink RX7 36 yX7_find, Cond.instanceMethod yX7_find, Cond.selects RX7 yX7_find yX7_find, Cond.code yX7_find cX7_find 6 (some (.object "CryOrder$Pair")), Cond.methodLink RX7 17 Lib.Math.min.name, Cond.static Lib.Math.min.name, Cond.initialized "java/lang/Math", Cond.code Lib.Math.min.name Lib.Math.min.code 2 (some .int), Cond.methodLink RX7 23 Lib.Math.max.name, Cond.static Lib.Math.max.name, Cond.code Lib.Math.max.name Lib.Math.max.code 2 (some .int), Cond.fieldLink RX7 26 "CryOrder$Ties" "size" "I", Cond.fieldLink RX7 11 "CryOrder$Ties" "pairs" "[LCryOrder$Pair;", Cond.fieldLink RX7 30 "CryOrder$Pair" "lesser" "I", Cond.fieldLink RX7 33 "CryOrder$Pair" "greater" "I", Cond.methodLink RX2 79 yX0_joinCaseOf, Cond.instanceMethod yX0_joinCaseOf, Cond.selects RX0 yX0_joinCaseOf yX0_joinCaseOf, Cond.code yX0_joinCaseOf cX0_joinCaseOf 4 none, Cond.fieldLink RX0 15 "CryOrder$Alarm" "number" "I", Cond.methodLink RX0 101 yX0_head, Cond.methodLink RX2 38 yX2_joinToldOnes, Cond.static yX2_joinToldOnes]
def wsX8_told_r7 : List Cond := [Cond.code yX2_joinToldOnes cX2_joinToldOnes 5 none, Cond.fieldLink RX2 83 "CryOrder$Ties" "size" "I", Cond.fieldLink RX2 84 "CryOrder$Ties" "pairs" "[LCryOrder$Pair;", Cond.fieldLink RX2 88 "CryOrder$Pair" "joined" "Z", Cond.fieldLink RX2 94 "CryOrder$Pair" "lesser" "I", Cond.fieldLink RX2 97 "CryOrder$Pair" "greater" "I", Cond.methodLink RX2 42 yX2_fillCases, Cond.static yX2_fillCases, Cond.code yX2_fillCases cX2_fillCases 5 none, Cond.fieldLink RX2 107 "CryOrder$Node" "depth" "I", Cond.methodLink RX2 100 yX0_score, Cond.methodLink RX2 103 yX0_nodeFor, Cond.methodLink RX2 112 yX1_add, Cond.instanceMethod yX1_add, Cond.selects RX1 yX1_add yX1_add, Cond.code yX1_add cX1_add 3 none, Cond.methodLink RX1 23 Lib.Math.max.name, Cond.methodLink RX2 46 yX2_putInOrder, Cond.instanceMethod yX2_putInOrder, Cond.selects RX2 yX2_putInOrder yX2_putInOrder, Cond.code yX2_putInOrder cX2_putInOrder 4 none, Cond.fieldLink RX2 50 "CryOrder$Cases" "size" "I", Cond.fieldLink RX2 116 "CryOrder$Case" "size" "I", Cond.methodLink RX2 117 yX2_putInPlace]
def wsX8_told_r8 : List Cond := [Cond.instanceMethod yX2_putInPlace, Cond.selects RX2 yX2_putInPlace yX2_putInPlace, Cond.code yX2_putInPlace cX2_putInPlace 3 none, Cond.fieldLink RX2 11 "CryOrder$Cases" "ordered" "[LCryOrder$Case;", Cond.methodLink RX2 121 yX1_isAheadOf, Cond.instanceMethod yX1_isAheadOf, Cond.selects RX1 yX1_isAheadOf yX1_isAheadOf, Cond.code yX1_isAheadOf cX1_isAheadOf 2 (some .boolean), Cond.fieldLink RX1 7 "CryOrder$Case" "number" "I", Cond.methodLink RX8 225 yX0_isLive, Cond.methodLink RX8 286 yX0_head]
def wsX8_told : List Cond := .code yX8_told cX8_told 4 (some .int) :: ((wsX8_told_r1 ++ (wsX8_told_r2 ++ (wsX8_told_r3 ++ (wsX8_told_r4 ++ (wsX8_told_r5 ++ (wsX8_told_r6 ++ (wsX8_told_r7 ++ wsX8_told_r8))))))) ++ wsX00 ++ wsX80 ++ wsX30 ++ wsX10 ++ wsX40 ++ wsX70 ++ wsX20)
def wsX8_node : List Cond := .code yX8_node cX8_node 5 (some .int) :: ([.fieldLink RX8 29 "CryOrder" "root" "LCryOrder$Node;", .fieldLink RX8 195 "CryOrder$Node" "settledTrue" "I", .fieldLink RX8 198 "CryOrder$Node" "settled" "I", .fieldLink RX8 201 "CryOrder$Node" "open" "I", .methodLink RX8 64 yX8_isBelow, .static yX8_isBelow, .initialized RX8, .code yX8_isBelow cX8_isBelow 2 (some .boolean), .methodLink RX8 191 yX3_find, .instanceMethod yX3_find, .selects RX3 yX3_find yX3_find, .initialized RX3, .code yX3_find cX3_find 5 (some (.object "CryOrder$Node")), .methodLink RX3 28 yX3_markAt, .static yX3_markAt, .code yX3_markAt cX3_markAt 2 (some .int), .methodLink RX3 32 yX3_child, .instanceMethod yX3_child, .selects RX3 yX3_child yX3_child, .code yX3_child cX3_child 3 (some (.object "CryOrder$Node")), .fieldLink RX3 25 "CryOrder$Node" "firstChild" "LCryOrder$Node;", .fieldLink RX3 19 "CryOrder$Node" "mark" "I", .fieldLink RX3 22 "CryOrder$Node" "sibling" "LCryOrder$Node;"] ++ wsX80 ++ wsX30)
def wsX8_inLowestTerms : List Cond := .code yX8_inLowestTerms cX8_inLowestTerms 7 (some .int) :: ([])
def wsX8_odds_r1 : List Cond := [Cond.fieldLink RX8 58 "CryOrder" "leastSettled" "I", Cond.fieldLink RX8 195 "CryOrder$Node" "settledTrue" "I", Cond.fieldLink RX8 201 "CryOrder$Node" "open" "I", Cond.fieldLink RX8 198 "CryOrder$Node" "settled" "I", Cond.methodLink RX8 125 yX8_alarmAt, Cond.instanceMethod yX8_alarmAt, Cond.selects RX8 yX8_alarmAt yX8_alarmAt, Cond.initialized RX8, Cond.code yX8_alarmAt cX8_alarmAt 2 (some (.object "CryOrder$Alarm")), Cond.fieldLink RX8 79 "CryOrder" "alarmCount" "I", Cond.fieldLink RX8 11 "CryOrder" "alarms" "[LCryOrder$Alarm;", Cond.methodLink RX8 64 yX8_isBelow, Cond.static yX8_isBelow, Cond.code yX8_isBelow cX8_isBelow 2 (some .boolean), Cond.methodLink RX8 177 yX0_nodeFor, Cond.instanceMethod yX0_nodeFor, Cond.selects RX0 yX0_nodeFor yX0_nodeFor, Cond.initialized RX0, Cond.code yX0_nodeFor cX0_nodeFor 3 (some (.object "CryOrder$Node")), Cond.fieldLink RX0 33 "CryOrder$Alarm" "leaf" "LCryOrder$Node;", Cond.fieldLink RX0 78 "CryOrder$Node" "settled" "I", Cond.fieldLink RX0 83 "CryOrder$Node" "parent" "LCryOrder$Node;", Cond.methodLink RX8 204 yX3_oddsUpper, Cond.instanceMethod yX3_oddsUpper]
def wsX8_odds_r2 : List Cond := [Cond.selects RX3 yX3_oddsUpper yX3_oddsUpper, Cond.initialized RX3, Cond.code yX3_oddsUpper cX3_oddsUpper 1 (some .int), Cond.fieldLink RX3 42 "CryOrder$Node" "settled" "I", Cond.fieldLink RX3 45 "CryOrder$Node" "settledTrue" "I", Cond.methodLink RX8 207 yX3_oddsLower, Cond.instanceMethod yX3_oddsLower, Cond.selects RX3 yX3_oddsLower yX3_oddsLower, Cond.code yX3_oddsLower cX3_oddsLower 1 (some .int), Cond.methodLink RX8 210 yX8_inLowestTerms, Cond.static yX8_inLowestTerms, Cond.code yX8_inLowestTerms cX8_inLowestTerms 7 (some .int)]
def wsX8_odds : List Cond := .code yX8_odds cX8_odds 7 (some .int) :: ((wsX8_odds_r1 ++ wsX8_odds_r2) ++ wsX80 ++ wsX30 ++ wsX00)
def wsX8_order_r1 : List Cond := [Cond.fieldLink RX8 222 "CryOrder$Case" "number" "I", Cond.methodLink RX8 214 yX8_casesNow, Cond.instanceMethod yX8_casesNow, Cond.selects RX8 yX8_casesNow yX8_casesNow, Cond.initialized RX8, Cond.code yX8_casesNow cX8_casesNow 1 (some (.object "CryOrder$Cases")), Cond.fieldLink RX8 113 "CryOrder" "casesAreStale" "Z", Cond.fieldLink RX8 43 "CryOrder" "cases" "LCryOrder$Cases;", Cond.fieldLink RX8 11 "CryOrder" "alarms" "[LCryOrder$Alarm;", Cond.fieldLink RX8 79 "CryOrder" "alarmCount" "I", Cond.fieldLink RX8 36 "CryOrder" "ties" "LCryOrder$Ties;", Cond.fieldLink RX8 58 "CryOrder" "leastSettled" "I", Cond.methodLink RX8 282 yX2_gather, Cond.instanceMethod yX2_gather, Cond.selects RX2 yX2_gather yX2_gather, Cond.initialized RX2, Cond.code yX2_gather cX2_gather 6 none, Cond.fieldLink RX2 17 "CryOrder$Alarm" "above" "LCryOrder$Alarm;", Cond.fieldLink RX2 23 "CryOrder$Alarm" "led" "LCryOrder$Case;", Cond.methodLink RX2 27 yX1_clear, Cond.instanceMethod yX1_clear, Cond.selects RX1 yX1_clear yX1_clear, Cond.initialized RX1, Cond.code yX1_clear cX1_clear 1 none]
def wsX8_order_r2 : List Cond := [Cond.fieldLink RX1 13 "CryOrder$Case" "size" "I", Cond.fieldLink RX1 16 "CryOrder$Case" "score" "I", Cond.fieldLink RX1 19 "CryOrder$Case" "littleKnown" "Z", Cond.methodLink RX2 30 yX0_isLive, Cond.instanceMethod yX0_isLive, Cond.selects RX0 yX0_isLive yX0_isLive, Cond.initialized RX0, Cond.code yX0_isLive cX0_isLive 1 (some .boolean), Cond.methodLink RX0 56 yX0_isOpen, Cond.instanceMethod yX0_isOpen, Cond.selects RX0 yX0_isOpen yX0_isOpen, Cond.code yX0_isOpen cX0_isOpen 1 (some .boolean), Cond.fieldLink RX0 9 "CryOrder$Alarm" "state" "I", Cond.methodLink RX0 60 yX0_isHushed, Cond.instanceMethod yX0_isHushed, Cond.selects RX0 yX0_isHushed yX0_isHushed, Cond.code yX0_isHushed cX0_isHushed 1 (some .boolean), Cond.fieldLink RX0 49 "CryOrder$Alarm" "silenced" "Z", Cond.fieldLink RX0 53 "CryOrder$Alarm" "capped" "Z", Cond.methodLink RX2 34 yX2_joinWithSoonerOnes, Cond.static yX2_joinWithSoonerOnes, Cond.code yX2_joinWithSoonerOnes cX2_joinWithSoonerOnes 3 none, Cond.fieldLink RX2 61 "CryOrder$Alarm" "soonerOfThing" "LCryOrder$Alarm;", Cond.fieldLink RX2 64 "CryOrder$Alarm" "came" "I"]
def wsX8_order_r3 : List Cond := [Cond.fieldLink RX2 71 "CryOrder$Alarm" "number" "I", Cond.methodLink RX2 67 yX0_head, Cond.instanceMethod yX0_head, Cond.selects RX0 yX0_head yX0_head, Cond.code yX0_head cX0_head 2 (some (.object "CryOrder$Alarm")), Cond.fieldLink RX0 97 "CryOrder$Alarm" "above" "LCryOrder$Alarm;", Cond.methodLink RX2 74 yX7_isParted, Cond.instanceMethod yX7_isParted, Cond.selects RX7 yX7_isParted yX7_isParted, Cond.initialized RX7, Cond.code yX7_isParted cX7_isParted 4 (some .boolean), Cond.fieldLink RX7 40 "CryOrder$Pair" "joined" "Z", Cond.methodLink RX7 36 yX7_find, Cond.instanceMethod yX7_find, Cond.selects RX7 yX7_find yX7_find, Cond.code yX7_find cX7_find 6 (some (.object "CryOrder$Pair")), Cond.methodLink RX7 17 Lib.Math.min.name, Cond.static Lib.Math.min.name, Cond.initialized "java/lang/Math", Cond.code Lib.Math.min.name Lib.Math.min.code 2 (some .int), Cond.methodLink RX7 23 Lib.Math.max.name, Cond.static Lib.Math.max.name, Cond.code Lib.Math.max.name Lib.Math.max.code 2 (some .int), Cond.fieldLink RX7 26 "CryOrder$Ties" "size" "I"]
def wsX8_order_r4 : List Cond := [Cond.fieldLink RX7 11 "CryOrder$Ties" "pairs" "[LCryOrder$Pair;", Cond.fieldLink RX7 30 "CryOrder$Pair" "lesser" "I", Cond.fieldLink RX7 33 "CryOrder$Pair" "greater" "I", Cond.methodLink RX2 79 yX0_joinCaseOf, Cond.instanceMethod yX0_joinCaseOf, Cond.selects RX0 yX0_joinCaseOf yX0_joinCaseOf, Cond.code yX0_joinCaseOf cX0_joinCaseOf 4 none, Cond.fieldLink RX0 15 "CryOrder$Alarm" "number" "I", Cond.methodLink RX0 101 yX0_head, Cond.methodLink RX2 38 yX2_joinToldOnes, Cond.static yX2_joinToldOnes, Cond.code yX2_joinToldOnes cX2_joinToldOnes 5 none, Cond.fieldLink RX2 83 "CryOrder$Ties" "size" "I", Cond.fieldLink RX2 84 "CryOrder$Ties" "pairs" "[LCryOrder$Pair;", Cond.fieldLink RX2 88 "CryOrder$Pair" "joined" "Z", Cond.fieldLink RX2 94 "CryOrder$Pair" "lesser" "I", Cond.fieldLink RX2 97 "CryOrder$Pair" "greater" "I", Cond.static yX8_isBelow, Cond.code yX8_isBelow cX8_isBelow 2 (some .boolean), Cond.methodLink RX2 42 yX2_fillCases, Cond.static yX2_fillCases, Cond.code yX2_fillCases cX2_fillCases 5 none, Cond.fieldLink RX2 107 "CryOrder$Node" "depth" "I", Cond.methodLink RX2 100 yX0_score]
def wsX8_order_r5 : List Cond := [Cond.instanceMethod yX0_score, Cond.selects RX0 yX0_score yX0_score, Cond.code yX0_score cX0_score 4 (some .int), Cond.fieldLink RX0 30 "CryOrder$Alarm" "worth" "I", Cond.methodLink RX0 86 yX0_nodeFor, Cond.instanceMethod yX0_nodeFor, Cond.selects RX0 yX0_nodeFor yX0_nodeFor, Cond.code yX0_nodeFor cX0_nodeFor 3 (some (.object "CryOrder$Node")), Cond.fieldLink RX0 33 "CryOrder$Alarm" "leaf" "LCryOrder$Node;", Cond.fieldLink RX0 78 "CryOrder$Node" "settled" "I", Cond.fieldLink RX0 83 "CryOrder$Node" "parent" "LCryOrder$Node;", Cond.methodLink RX0 90 yX3_oddsLower, Cond.instanceMethod yX3_oddsLower, Cond.selects RX3 yX3_oddsLower yX3_oddsLower, Cond.initialized RX3, Cond.code yX3_oddsLower cX3_oddsLower 1 (some .int), Cond.fieldLink RX3 42 "CryOrder$Node" "settled" "I", Cond.methodLink RX0 94 yX3_oddsUpper, Cond.instanceMethod yX3_oddsUpper, Cond.selects RX3 yX3_oddsUpper yX3_oddsUpper, Cond.code yX3_oddsUpper cX3_oddsUpper 1 (some .int), Cond.fieldLink RX3 45 "CryOrder$Node" "settledTrue" "I", Cond.methodLink RX2 103 yX0_nodeFor, Cond.methodLink RX2 112 yX1_add]
def wsX8_order_r6 : List Cond := [Cond.instanceMethod yX1_add, Cond.selects RX1 yX1_add yX1_add, Cond.code yX1_add cX1_add 3 none, Cond.methodLink RX1 23 Lib.Math.max.name, Cond.methodLink RX2 46 yX2_putInOrder, Cond.instanceMethod yX2_putInOrder, Cond.selects RX2 yX2_putInOrder yX2_putInOrder, Cond.code yX2_putInOrder cX2_putInOrder 4 none, Cond.fieldLink RX2 50 "CryOrder$Cases" "size" "I", Cond.fieldLink RX2 116 "CryOrder$Case" "size" "I", Cond.methodLink RX2 117 yX2_putInPlace, Cond.instanceMethod yX2_putInPlace, Cond.selects RX2 yX2_putInPlace yX2_putInPlace, Cond.code yX2_putInPlace cX2_putInPlace 3 none, Cond.fieldLink RX2 11 "CryOrder$Cases" "ordered" "[LCryOrder$Case;", Cond.methodLink RX2 121 yX1_isAheadOf, Cond.instanceMethod yX1_isAheadOf, Cond.selects RX1 yX1_isAheadOf yX1_isAheadOf, Cond.code yX1_isAheadOf cX1_isAheadOf 2 (some .boolean), Cond.fieldLink RX1 7 "CryOrder$Case" "number" "I", Cond.methodLink RX8 218 yX2_at, Cond.instanceMethod yX2_at, Cond.selects RX2 yX2_at yX2_at, Cond.code yX2_at cX2_at 2 (some (.object "CryOrder$Case"))]
def wsX8_order : List Cond := .code yX8_order cX8_order 3 (some .int) :: ((wsX8_order_r1 ++ (wsX8_order_r2 ++ (wsX8_order_r3 ++ (wsX8_order_r4 ++ (wsX8_order_r5 ++ wsX8_order_r6))))) ++ wsX10 ++ wsX80 ++ wsX00 ++ wsX40 ++ wsX70 ++ wsX30 ++ wsX20)
def wsX8_memberOf : List Cond := .code yX8_memberOf cX8_memberOf 6 (some .int) :: ([.fieldLink RX8 76 "CryOrder$Alarm" "number" "I", .fieldLink RX8 79 "CryOrder" "alarmCount" "I", .fieldLink RX8 11 "CryOrder" "alarms" "[LCryOrder$Alarm;", .methodLink RX8 225 yX0_isLive, .instanceMethod yX0_isLive, .selects RX0 yX0_isLive yX0_isLive, .initialized RX0, .code yX0_isLive cX0_isLive 1 (some .boolean), .methodLink RX0 56 yX0_isOpen, .instanceMethod yX0_isOpen, .selects RX0 yX0_isOpen yX0_isOpen, .code yX0_isOpen cX0_isOpen 1 (some .boolean), .fieldLink RX0 9 "CryOrder$Alarm" "state" "I", .methodLink RX0 60 yX0_isHushed, .instanceMethod yX0_isHushed, .selects RX0 yX0_isHushed yX0_isHushed, .code yX0_isHushed cX0_isHushed 1 (some .boolean), .fieldLink RX0 49 "CryOrder$Alarm" "silenced" "Z", .fieldLink RX0 53 "CryOrder$Alarm" "capped" "Z", .methodLink RX8 286 yX0_head, .instanceMethod yX0_head, .selects RX0 yX0_head yX0_head, .code yX0_head cX0_head 2 (some (.object "CryOrder$Alarm")), .fieldLink RX0 97 "CryOrder$Alarm" "above" "LCryOrder$Alarm;"] ++ wsX00 ++ wsX80)
def wsX8_caseOf_r1 : List Cond := [Cond.fieldLink RX8 228 "CryOrder$Alarm" "above" "LCryOrder$Alarm;", Cond.fieldLink RX8 231 "CryOrder$Alarm" "led" "LCryOrder$Case;", Cond.fieldLink RX8 235 "CryOrder$Case" "size" "I", Cond.fieldLink RX8 238 "CryOrder$Case" "score" "I", Cond.fieldLink RX8 243 "CryOrder$Case" "littleKnown" "Z", Cond.methodLink RX8 214 yX8_casesNow, Cond.instanceMethod yX8_casesNow, Cond.selects RX8 yX8_casesNow yX8_casesNow, Cond.initialized RX8, Cond.code yX8_casesNow cX8_casesNow 1 (some (.object "CryOrder$Cases")), Cond.fieldLink RX8 113 "CryOrder" "casesAreStale" "Z", Cond.fieldLink RX8 43 "CryOrder" "cases" "LCryOrder$Cases;", Cond.fieldLink RX8 11 "CryOrder" "alarms" "[LCryOrder$Alarm;", Cond.fieldLink RX8 79 "CryOrder" "alarmCount" "I", Cond.fieldLink RX8 36 "CryOrder" "ties" "LCryOrder$Ties;", Cond.fieldLink RX8 58 "CryOrder" "leastSettled" "I", Cond.methodLink RX8 282 yX2_gather, Cond.instanceMethod yX2_gather, Cond.selects RX2 yX2_gather yX2_gather, Cond.initialized RX2, Cond.code yX2_gather cX2_gather 6 none, Cond.fieldLink RX2 17 "CryOrder$Alarm" "above" "LCryOrder$Alarm;", Cond.fieldLink RX2 23 "CryOrder$Alarm" "led" "LCryOrder$Case;", Cond.methodLink RX2 27 yX1_clear]
def wsX8_caseOf_r2 : List Cond := [Cond.instanceMethod yX1_clear, Cond.selects RX1 yX1_clear yX1_clear, Cond.initialized RX1, Cond.code yX1_clear cX1_clear 1 none, Cond.fieldLink RX1 13 "CryOrder$Case" "size" "I", Cond.fieldLink RX1 16 "CryOrder$Case" "score" "I", Cond.fieldLink RX1 19 "CryOrder$Case" "littleKnown" "Z", Cond.methodLink RX2 30 yX0_isLive, Cond.instanceMethod yX0_isLive, Cond.selects RX0 yX0_isLive yX0_isLive, Cond.initialized RX0, Cond.code yX0_isLive cX0_isLive 1 (some .boolean), Cond.methodLink RX0 56 yX0_isOpen, Cond.instanceMethod yX0_isOpen, Cond.selects RX0 yX0_isOpen yX0_isOpen, Cond.code yX0_isOpen cX0_isOpen 1 (some .boolean), Cond.fieldLink RX0 9 "CryOrder$Alarm" "state" "I", Cond.methodLink RX0 60 yX0_isHushed, Cond.instanceMethod yX0_isHushed, Cond.selects RX0 yX0_isHushed yX0_isHushed, Cond.code yX0_isHushed cX0_isHushed 1 (some .boolean), Cond.fieldLink RX0 49 "CryOrder$Alarm" "silenced" "Z", Cond.fieldLink RX0 53 "CryOrder$Alarm" "capped" "Z", Cond.methodLink RX2 34 yX2_joinWithSoonerOnes]
def wsX8_caseOf_r3 : List Cond := [Cond.static yX2_joinWithSoonerOnes, Cond.code yX2_joinWithSoonerOnes cX2_joinWithSoonerOnes 3 none, Cond.fieldLink RX2 61 "CryOrder$Alarm" "soonerOfThing" "LCryOrder$Alarm;", Cond.fieldLink RX2 64 "CryOrder$Alarm" "came" "I", Cond.fieldLink RX2 71 "CryOrder$Alarm" "number" "I", Cond.methodLink RX2 67 yX0_head, Cond.instanceMethod yX0_head, Cond.selects RX0 yX0_head yX0_head, Cond.code yX0_head cX0_head 2 (some (.object "CryOrder$Alarm")), Cond.fieldLink RX0 97 "CryOrder$Alarm" "above" "LCryOrder$Alarm;", Cond.methodLink RX2 74 yX7_isParted, Cond.instanceMethod yX7_isParted, Cond.selects RX7 yX7_isParted yX7_isParted, Cond.initialized RX7, Cond.code yX7_isParted cX7_isParted 4 (some .boolean), Cond.fieldLink RX7 40 "CryOrder$Pair" "joined" "Z", Cond.methodLink RX7 36 yX7_find, Cond.instanceMethod yX7_find, Cond.selects RX7 yX7_find yX7_find, Cond.code yX7_find cX7_find 6 (some (.object "CryOrder$Pair")), Cond.methodLink RX7 17 Lib.Math.min.name, Cond.static Lib.Math.min.name, Cond.initialized "java/lang/Math", Cond.code Lib.Math.min.name Lib.Math.min.code 2 (some .int)]
def wsX8_caseOf_r4 : List Cond := [Cond.methodLink RX7 23 Lib.Math.max.name, Cond.static Lib.Math.max.name, Cond.code Lib.Math.max.name Lib.Math.max.code 2 (some .int), Cond.fieldLink RX7 26 "CryOrder$Ties" "size" "I", Cond.fieldLink RX7 11 "CryOrder$Ties" "pairs" "[LCryOrder$Pair;", Cond.fieldLink RX7 30 "CryOrder$Pair" "lesser" "I", Cond.fieldLink RX7 33 "CryOrder$Pair" "greater" "I", Cond.methodLink RX2 79 yX0_joinCaseOf, Cond.instanceMethod yX0_joinCaseOf, Cond.selects RX0 yX0_joinCaseOf yX0_joinCaseOf, Cond.code yX0_joinCaseOf cX0_joinCaseOf 4 none, Cond.fieldLink RX0 15 "CryOrder$Alarm" "number" "I", Cond.methodLink RX0 101 yX0_head, Cond.methodLink RX2 38 yX2_joinToldOnes, Cond.static yX2_joinToldOnes, Cond.code yX2_joinToldOnes cX2_joinToldOnes 5 none, Cond.fieldLink RX2 83 "CryOrder$Ties" "size" "I", Cond.fieldLink RX2 84 "CryOrder$Ties" "pairs" "[LCryOrder$Pair;", Cond.fieldLink RX2 88 "CryOrder$Pair" "joined" "Z", Cond.fieldLink RX2 94 "CryOrder$Pair" "lesser" "I", Cond.fieldLink RX2 97 "CryOrder$Pair" "greater" "I", Cond.static yX8_isBelow, Cond.code yX8_isBelow cX8_isBelow 2 (some .boolean), Cond.methodLink RX2 42 yX2_fillCases]
def wsX8_caseOf_r5 : List Cond := [Cond.static yX2_fillCases, Cond.code yX2_fillCases cX2_fillCases 5 none, Cond.fieldLink RX2 107 "CryOrder$Node" "depth" "I", Cond.methodLink RX2 100 yX0_score, Cond.instanceMethod yX0_score, Cond.selects RX0 yX0_score yX0_score, Cond.code yX0_score cX0_score 4 (some .int), Cond.fieldLink RX0 30 "CryOrder$Alarm" "worth" "I", Cond.methodLink RX0 86 yX0_nodeFor, Cond.instanceMethod yX0_nodeFor, Cond.selects RX0 yX0_nodeFor yX0_nodeFor, Cond.code yX0_nodeFor cX0_nodeFor 3 (some (.object "CryOrder$Node")), Cond.fieldLink RX0 33 "CryOrder$Alarm" "leaf" "LCryOrder$Node;", Cond.fieldLink RX0 78 "CryOrder$Node" "settled" "I", Cond.fieldLink RX0 83 "CryOrder$Node" "parent" "LCryOrder$Node;", Cond.methodLink RX0 90 yX3_oddsLower, Cond.instanceMethod yX3_oddsLower, Cond.selects RX3 yX3_oddsLower yX3_oddsLower, Cond.initialized RX3, Cond.code yX3_oddsLower cX3_oddsLower 1 (some .int), Cond.fieldLink RX3 42 "CryOrder$Node" "settled" "I", Cond.methodLink RX0 94 yX3_oddsUpper, Cond.instanceMethod yX3_oddsUpper, Cond.selects RX3 yX3_oddsUpper yX3_oddsUpper]
def wsX8_caseOf_r6 : List Cond := [Cond.code yX3_oddsUpper cX3_oddsUpper 1 (some .int), Cond.fieldLink RX3 45 "CryOrder$Node" "settledTrue" "I", Cond.methodLink RX2 103 yX0_nodeFor, Cond.methodLink RX2 112 yX1_add, Cond.instanceMethod yX1_add, Cond.selects RX1 yX1_add yX1_add, Cond.code yX1_add cX1_add 3 none, Cond.methodLink RX1 23 Lib.Math.max.name, Cond.methodLink RX2 46 yX2_putInOrder, Cond.instanceMethod yX2_putInOrder, Cond.selects RX2 yX2_putInOrder yX2_putInOrder, Cond.code yX2_putInOrder cX2_putInOrder 4 none, Cond.fieldLink RX2 50 "CryOrder$Cases" "size" "I", Cond.fieldLink RX2 116 "CryOrder$Case" "size" "I", Cond.methodLink RX2 117 yX2_putInPlace, Cond.instanceMethod yX2_putInPlace, Cond.selects RX2 yX2_putInPlace yX2_putInPlace, Cond.code yX2_putInPlace cX2_putInPlace 3 none, Cond.fieldLink RX2 11 "CryOrder$Cases" "ordered" "[LCryOrder$Case;", Cond.methodLink RX2 121 yX1_isAheadOf, Cond.instanceMethod yX1_isAheadOf, Cond.selects RX1 yX1_isAheadOf yX1_isAheadOf, Cond.code yX1_isAheadOf cX1_isAheadOf 2 (some .boolean), Cond.fieldLink RX1 7 "CryOrder$Case" "number" "I"]
def wsX8_caseOf_r7 : List Cond := [Cond.methodLink RX8 125 yX8_alarmAt, Cond.instanceMethod yX8_alarmAt, Cond.selects RX8 yX8_alarmAt yX8_alarmAt, Cond.code yX8_alarmAt cX8_alarmAt 2 (some (.object "CryOrder$Alarm")), Cond.methodLink RX8 64 yX8_isBelow, Cond.methodLink RX8 225 yX0_isLive, Cond.methodLink RX8 240 yX1_minutes, Cond.instanceMethod yX1_minutes, Cond.selects RX1 yX1_minutes yX1_minutes, Cond.code yX1_minutes cX1_minutes 1 (some .int), Cond.methodLink RX8 169 yX8_oneIf, Cond.static yX8_oneIf, Cond.code yX8_oneIf cX8_oneIf 1 (some .int), Cond.methodLink RX8 246 yX8_memberOf, Cond.instanceMethod yX8_memberOf, Cond.selects RX8 yX8_memberOf yX8_memberOf, Cond.code yX8_memberOf cX8_memberOf 6 (some .int), Cond.fieldLink RX8 76 "CryOrder$Alarm" "number" "I", Cond.methodLink RX8 286 yX0_head]
def wsX8_caseOf : List Cond := .code yX8_caseOf cX8_caseOf 4 (some .int) :: ((wsX8_caseOf_r1 ++ (wsX8_caseOf_r2 ++ (wsX8_caseOf_r3 ++ (wsX8_caseOf_r4 ++ (wsX8_caseOf_r5 ++ (wsX8_caseOf_r6 ++ wsX8_caseOf_r7)))))) ++ wsX00 ++ wsX10 ++ wsX80 ++ wsX40 ++ wsX70 ++ wsX30 ++ wsX20)
def wsX8_slow_r1 : List Cond := [Cond.fieldLink RX8 15 "CryOrder" "latestOfThing" "[LCryOrder$Alarm;", Cond.fieldLink RX8 61 "CryOrder" "now" "I", Cond.fieldLink RX8 148 "CryOrder$Alarm" "came" "I", Cond.fieldLink RX8 58 "CryOrder" "leastSettled" "I", Cond.fieldLink RX8 109 "CryOrder$Alarm" "soonerOfThing" "LCryOrder$Alarm;", Cond.methodLink RX8 64 yX8_isBelow, Cond.static yX8_isBelow, Cond.initialized RX8, Cond.code yX8_isBelow cX8_isBelow 2 (some .boolean), Cond.methodLink RX8 225 yX0_isLive, Cond.instanceMethod yX0_isLive, Cond.selects RX0 yX0_isLive yX0_isLive, Cond.initialized RX0, Cond.code yX0_isLive cX0_isLive 1 (some .boolean), Cond.methodLink RX0 56 yX0_isOpen, Cond.instanceMethod yX0_isOpen, Cond.selects RX0 yX0_isOpen yX0_isOpen, Cond.code yX0_isOpen cX0_isOpen 1 (some .boolean), Cond.fieldLink RX0 9 "CryOrder$Alarm" "state" "I", Cond.methodLink RX0 60 yX0_isHushed, Cond.instanceMethod yX0_isHushed, Cond.selects RX0 yX0_isHushed yX0_isHushed, Cond.code yX0_isHushed cX0_isHushed 1 (some .boolean), Cond.fieldLink RX0 49 "CryOrder$Alarm" "silenced" "Z"]
def wsX8_slow_r2 : List Cond := [Cond.fieldLink RX0 53 "CryOrder$Alarm" "capped" "Z", Cond.methodLink RX8 173 yX0_score, Cond.instanceMethod yX0_score, Cond.selects RX0 yX0_score yX0_score, Cond.code yX0_score cX0_score 4 (some .int), Cond.fieldLink RX0 30 "CryOrder$Alarm" "worth" "I", Cond.methodLink RX0 86 yX0_nodeFor, Cond.instanceMethod yX0_nodeFor, Cond.selects RX0 yX0_nodeFor yX0_nodeFor, Cond.code yX0_nodeFor cX0_nodeFor 3 (some (.object "CryOrder$Node")), Cond.fieldLink RX0 33 "CryOrder$Alarm" "leaf" "LCryOrder$Node;", Cond.fieldLink RX0 78 "CryOrder$Node" "settled" "I", Cond.fieldLink RX0 83 "CryOrder$Node" "parent" "LCryOrder$Node;", Cond.methodLink RX0 90 yX3_oddsLower, Cond.instanceMethod yX3_oddsLower, Cond.selects RX3 yX3_oddsLower yX3_oddsLower, Cond.initialized RX3, Cond.code yX3_oddsLower cX3_oddsLower 1 (some .int), Cond.fieldLink RX3 42 "CryOrder$Node" "settled" "I", Cond.methodLink RX0 94 yX3_oddsUpper, Cond.instanceMethod yX3_oddsUpper, Cond.selects RX3 yX3_oddsUpper yX3_oddsUpper, Cond.code yX3_oddsUpper cX3_oddsUpper 1 (some .int), Cond.fieldLink RX3 45 "CryOrder$Node" "settledTrue" "I"]
def wsX8_slow : List Cond := .code yX8_slow cX8_slow 5 (some .int) :: ((wsX8_slow_r1 ++ wsX8_slow_r2) ++ wsX80 ++ wsX00 ++ wsX30)
def wsX8_plan_r1 : List Cond := [Cond.fieldLink RX8 50 "CryOrder" "planner" "LCryOrder$Plan;", Cond.fieldLink RX8 122 "CryOrder" "tries" "I", Cond.fieldLink RX8 254 "CryOrder$Plan" "takenCount" "I", Cond.fieldLink RX8 222 "CryOrder$Case" "number" "I", Cond.methodLink RX8 214 yX8_casesNow, Cond.instanceMethod yX8_casesNow, Cond.selects RX8 yX8_casesNow yX8_casesNow, Cond.initialized RX8, Cond.code yX8_casesNow cX8_casesNow 1 (some (.object "CryOrder$Cases")), Cond.fieldLink RX8 113 "CryOrder" "casesAreStale" "Z", Cond.fieldLink RX8 43 "CryOrder" "cases" "LCryOrder$Cases;", Cond.fieldLink RX8 11 "CryOrder" "alarms" "[LCryOrder$Alarm;", Cond.fieldLink RX8 79 "CryOrder" "alarmCount" "I", Cond.fieldLink RX8 36 "CryOrder" "ties" "LCryOrder$Ties;", Cond.fieldLink RX8 58 "CryOrder" "leastSettled" "I", Cond.methodLink RX8 282 yX2_gather, Cond.instanceMethod yX2_gather, Cond.selects RX2 yX2_gather yX2_gather, Cond.initialized RX2, Cond.code yX2_gather cX2_gather 6 none, Cond.fieldLink RX2 17 "CryOrder$Alarm" "above" "LCryOrder$Alarm;", Cond.fieldLink RX2 23 "CryOrder$Alarm" "led" "LCryOrder$Case;", Cond.methodLink RX2 27 yX1_clear, Cond.instanceMethod yX1_clear]
def wsX8_plan_r2 : List Cond := [Cond.selects RX1 yX1_clear yX1_clear, Cond.initialized RX1, Cond.code yX1_clear cX1_clear 1 none, Cond.fieldLink RX1 13 "CryOrder$Case" "size" "I", Cond.fieldLink RX1 16 "CryOrder$Case" "score" "I", Cond.fieldLink RX1 19 "CryOrder$Case" "littleKnown" "Z", Cond.methodLink RX2 30 yX0_isLive, Cond.instanceMethod yX0_isLive, Cond.selects RX0 yX0_isLive yX0_isLive, Cond.initialized RX0, Cond.code yX0_isLive cX0_isLive 1 (some .boolean), Cond.methodLink RX0 56 yX0_isOpen, Cond.instanceMethod yX0_isOpen, Cond.selects RX0 yX0_isOpen yX0_isOpen, Cond.code yX0_isOpen cX0_isOpen 1 (some .boolean), Cond.fieldLink RX0 9 "CryOrder$Alarm" "state" "I", Cond.methodLink RX0 60 yX0_isHushed, Cond.instanceMethod yX0_isHushed, Cond.selects RX0 yX0_isHushed yX0_isHushed, Cond.code yX0_isHushed cX0_isHushed 1 (some .boolean), Cond.fieldLink RX0 49 "CryOrder$Alarm" "silenced" "Z", Cond.fieldLink RX0 53 "CryOrder$Alarm" "capped" "Z", Cond.methodLink RX2 34 yX2_joinWithSoonerOnes, Cond.static yX2_joinWithSoonerOnes]
def wsX8_plan_r3 : List Cond := [Cond.code yX2_joinWithSoonerOnes cX2_joinWithSoonerOnes 3 none, Cond.fieldLink RX2 61 "CryOrder$Alarm" "soonerOfThing" "LCryOrder$Alarm;", Cond.fieldLink RX2 64 "CryOrder$Alarm" "came" "I", Cond.fieldLink RX2 71 "CryOrder$Alarm" "number" "I", Cond.methodLink RX2 67 yX0_head, Cond.instanceMethod yX0_head, Cond.selects RX0 yX0_head yX0_head, Cond.code yX0_head cX0_head 2 (some (.object "CryOrder$Alarm")), Cond.fieldLink RX0 97 "CryOrder$Alarm" "above" "LCryOrder$Alarm;", Cond.methodLink RX2 74 yX7_isParted, Cond.instanceMethod yX7_isParted, Cond.selects RX7 yX7_isParted yX7_isParted, Cond.initialized RX7, Cond.code yX7_isParted cX7_isParted 4 (some .boolean), Cond.fieldLink RX7 40 "CryOrder$Pair" "joined" "Z", Cond.methodLink RX7 36 yX7_find, Cond.instanceMethod yX7_find, Cond.selects RX7 yX7_find yX7_find, Cond.code yX7_find cX7_find 6 (some (.object "CryOrder$Pair")), Cond.methodLink RX7 17 Lib.Math.min.name, Cond.static Lib.Math.min.name, Cond.initialized "java/lang/Math", Cond.code Lib.Math.min.name Lib.Math.min.code 2 (some .int), Cond.methodLink RX7 23 Lib.Math.max.name]
def wsX8_plan_r4 : List Cond := [Cond.static Lib.Math.max.name, Cond.code Lib.Math.max.name Lib.Math.max.code 2 (some .int), Cond.fieldLink RX7 26 "CryOrder$Ties" "size" "I", Cond.fieldLink RX7 11 "CryOrder$Ties" "pairs" "[LCryOrder$Pair;", Cond.fieldLink RX7 30 "CryOrder$Pair" "lesser" "I", Cond.fieldLink RX7 33 "CryOrder$Pair" "greater" "I", Cond.methodLink RX2 79 yX0_joinCaseOf, Cond.instanceMethod yX0_joinCaseOf, Cond.selects RX0 yX0_joinCaseOf yX0_joinCaseOf, Cond.code yX0_joinCaseOf cX0_joinCaseOf 4 none, Cond.fieldLink RX0 15 "CryOrder$Alarm" "number" "I", Cond.methodLink RX0 101 yX0_head, Cond.methodLink RX2 38 yX2_joinToldOnes, Cond.static yX2_joinToldOnes, Cond.code yX2_joinToldOnes cX2_joinToldOnes 5 none, Cond.fieldLink RX2 83 "CryOrder$Ties" "size" "I", Cond.fieldLink RX2 84 "CryOrder$Ties" "pairs" "[LCryOrder$Pair;", Cond.fieldLink RX2 88 "CryOrder$Pair" "joined" "Z", Cond.fieldLink RX2 94 "CryOrder$Pair" "lesser" "I", Cond.fieldLink RX2 97 "CryOrder$Pair" "greater" "I", Cond.static yX8_isBelow, Cond.code yX8_isBelow cX8_isBelow 2 (some .boolean), Cond.methodLink RX2 42 yX2_fillCases, Cond.static yX2_fillCases]
def wsX8_plan_r5 : List Cond := [Cond.code yX2_fillCases cX2_fillCases 5 none, Cond.fieldLink RX2 107 "CryOrder$Node" "depth" "I", Cond.methodLink RX2 100 yX0_score, Cond.instanceMethod yX0_score, Cond.selects RX0 yX0_score yX0_score, Cond.code yX0_score cX0_score 4 (some .int), Cond.fieldLink RX0 30 "CryOrder$Alarm" "worth" "I", Cond.methodLink RX0 86 yX0_nodeFor, Cond.instanceMethod yX0_nodeFor, Cond.selects RX0 yX0_nodeFor yX0_nodeFor, Cond.code yX0_nodeFor cX0_nodeFor 3 (some (.object "CryOrder$Node")), Cond.fieldLink RX0 33 "CryOrder$Alarm" "leaf" "LCryOrder$Node;", Cond.fieldLink RX0 78 "CryOrder$Node" "settled" "I", Cond.fieldLink RX0 83 "CryOrder$Node" "parent" "LCryOrder$Node;", Cond.methodLink RX0 90 yX3_oddsLower, Cond.instanceMethod yX3_oddsLower, Cond.selects RX3 yX3_oddsLower yX3_oddsLower, Cond.initialized RX3, Cond.code yX3_oddsLower cX3_oddsLower 1 (some .int), Cond.fieldLink RX3 42 "CryOrder$Node" "settled" "I", Cond.methodLink RX0 94 yX3_oddsUpper, Cond.instanceMethod yX3_oddsUpper, Cond.selects RX3 yX3_oddsUpper yX3_oddsUpper, Cond.code yX3_oddsUpper cX3_oddsUpper 1 (some .int)]
def wsX8_plan_r6 : List Cond := [Cond.fieldLink RX3 45 "CryOrder$Node" "settledTrue" "I", Cond.methodLink RX2 103 yX0_nodeFor, Cond.methodLink RX2 112 yX1_add, Cond.instanceMethod yX1_add, Cond.selects RX1 yX1_add yX1_add, Cond.code yX1_add cX1_add 3 none, Cond.methodLink RX1 23 Lib.Math.max.name, Cond.methodLink RX2 46 yX2_putInOrder, Cond.instanceMethod yX2_putInOrder, Cond.selects RX2 yX2_putInOrder yX2_putInOrder, Cond.code yX2_putInOrder cX2_putInOrder 4 none, Cond.fieldLink RX2 50 "CryOrder$Cases" "size" "I", Cond.fieldLink RX2 116 "CryOrder$Case" "size" "I", Cond.methodLink RX2 117 yX2_putInPlace, Cond.instanceMethod yX2_putInPlace, Cond.selects RX2 yX2_putInPlace yX2_putInPlace, Cond.code yX2_putInPlace cX2_putInPlace 3 none, Cond.fieldLink RX2 11 "CryOrder$Cases" "ordered" "[LCryOrder$Case;", Cond.methodLink RX2 121 yX1_isAheadOf, Cond.instanceMethod yX1_isAheadOf, Cond.selects RX1 yX1_isAheadOf yX1_isAheadOf, Cond.code yX1_isAheadOf cX1_isAheadOf 2 (some .boolean), Cond.fieldLink RX1 7 "CryOrder$Case" "number" "I", Cond.methodLink RX8 250 yX5_make]
def wsX8_plan_r7 : List Cond := [Cond.instanceMethod yX5_make, Cond.selects RX5 yX5_make yX5_make, Cond.initialized RX5, Cond.code yX5_make cX5_make 4 none, Cond.fieldLink RX5 27 "CryOrder$Plan" "takenCount" "I", Cond.fieldLink RX5 31 "CryOrder$Plan" "poolCount" "I", Cond.fieldLink RX5 34 "CryOrder$Plan" "scoreTaken" "I", Cond.methodLink RX5 37 Lib.Math.min.name, Cond.methodLink RX5 43 Lib.Math.max.name, Cond.fieldLink RX5 46 "CryOrder$Plan" "minutesLeft" "I", Cond.methodLink RX5 49 yX5_takeTries, Cond.instanceMethod yX5_takeTries, Cond.selects RX5 yX5_takeTries yX5_takeTries, Cond.code yX5_takeTries cX5_takeTries 5 none, Cond.fieldLink RX5 74 "CryOrder$Cases" "size" "I", Cond.fieldLink RX5 79 "CryOrder$Cases" "ordered" "[LCryOrder$Case;", Cond.fieldLink RX5 82 "CryOrder$Case" "littleKnown" "Z", Cond.methodLink RX5 70 yX1_minutes, Cond.instanceMethod yX1_minutes, Cond.selects RX1 yX1_minutes yX1_minutes, Cond.code yX1_minutes cX1_minutes 1 (some .int), Cond.methodLink RX5 86 yX5_take, Cond.instanceMethod yX5_take, Cond.selects RX5 yX5_take yX5_take]
def wsX8_plan_r8 : List Cond := [Cond.code yX5_take cX5_take 2 none, Cond.fieldLink RX5 11 "CryOrder$Plan" "taken" "[LCryOrder$Case;", Cond.fieldLink RX5 67 "CryOrder$Case" "score" "I", Cond.methodLink RX5 53 yX5_fillPool, Cond.instanceMethod yX5_fillPool, Cond.selects RX5 yX5_fillPool yX5_fillPool, Cond.code yX5_fillPool cX5_fillPool 3 none, Cond.fieldLink RX5 17 "CryOrder$Plan" "pool" "[LCryOrder$Case;", Cond.methodLink RX5 90 yX5_isTaken, Cond.instanceMethod yX5_isTaken, Cond.selects RX5 yX5_isTaken yX5_isTaken, Cond.code yX5_isTaken cX5_isTaken 3 (some .boolean), Cond.methodLink RX5 57 yX5_weighPool, Cond.instanceMethod yX5_weighPool, Cond.selects RX5 yX5_weighPool yX5_weighPool, Cond.code yX5_weighPool cX5_weighPool 5 none, Cond.fieldLink RX5 20 "CryOrder$Plan" "best" "[I", Cond.fieldLink RX5 24 "CryOrder$Plan" "needed" "[I", Cond.methodLink RX5 60 yX5_takeBestOfPool, Cond.instanceMethod yX5_takeBestOfPool, Cond.selects RX5 yX5_takeBestOfPool yX5_takeBestOfPool, Cond.code yX5_takeBestOfPool cX5_takeBestOfPool 4 none, Cond.methodLink RX8 257 yX5_at, Cond.instanceMethod yX5_at]
def wsX8_plan_r9 : List Cond := [Cond.selects RX5 yX5_at yX5_at, Cond.code yX5_at cX5_at 2 (some (.object "CryOrder$Case"))]
def wsX8_plan : List Cond := .code yX8_plan cX8_plan 4 (some .int) :: ((wsX8_plan_r1 ++ (wsX8_plan_r2 ++ (wsX8_plan_r3 ++ (wsX8_plan_r4 ++ (wsX8_plan_r5 ++ (wsX8_plan_r6 ++ (wsX8_plan_r7 ++ (wsX8_plan_r8 ++ wsX8_plan_r9)))))))) ++ wsX80 ++ wsX50 ++ wsX10 ++ wsX00 ++ wsX40 ++ wsX70 ++ wsX30 ++ wsX20)
def wsX8_worth_r1 : List Cond := [Cond.fieldLink RX8 50 "CryOrder" "planner" "LCryOrder$Plan;", Cond.fieldLink RX8 122 "CryOrder" "tries" "I", Cond.fieldLink RX8 258 "CryOrder$Plan" "scoreTaken" "I", Cond.fieldLink RX8 43 "CryOrder" "cases" "LCryOrder$Cases;", Cond.fieldLink RX8 264 "CryOrder$Plan" "minutesLeft" "I", Cond.methodLink RX8 214 yX8_casesNow, Cond.instanceMethod yX8_casesNow, Cond.selects RX8 yX8_casesNow yX8_casesNow, Cond.initialized RX8, Cond.code yX8_casesNow cX8_casesNow 1 (some (.object "CryOrder$Cases")), Cond.fieldLink RX8 113 "CryOrder" "casesAreStale" "Z", Cond.fieldLink RX8 11 "CryOrder" "alarms" "[LCryOrder$Alarm;", Cond.fieldLink RX8 79 "CryOrder" "alarmCount" "I", Cond.fieldLink RX8 36 "CryOrder" "ties" "LCryOrder$Ties;", Cond.fieldLink RX8 58 "CryOrder" "leastSettled" "I", Cond.methodLink RX8 282 yX2_gather, Cond.instanceMethod yX2_gather, Cond.selects RX2 yX2_gather yX2_gather, Cond.initialized RX2, Cond.code yX2_gather cX2_gather 6 none, Cond.fieldLink RX2 17 "CryOrder$Alarm" "above" "LCryOrder$Alarm;", Cond.fieldLink RX2 23 "CryOrder$Alarm" "led" "LCryOrder$Case;", Cond.methodLink RX2 27 yX1_clear, Cond.instanceMethod yX1_clear]
def wsX8_worth_r2 : List Cond := [Cond.selects RX1 yX1_clear yX1_clear, Cond.initialized RX1, Cond.code yX1_clear cX1_clear 1 none, Cond.fieldLink RX1 13 "CryOrder$Case" "size" "I", Cond.fieldLink RX1 16 "CryOrder$Case" "score" "I", Cond.fieldLink RX1 19 "CryOrder$Case" "littleKnown" "Z", Cond.methodLink RX2 30 yX0_isLive, Cond.instanceMethod yX0_isLive, Cond.selects RX0 yX0_isLive yX0_isLive, Cond.initialized RX0, Cond.code yX0_isLive cX0_isLive 1 (some .boolean), Cond.methodLink RX0 56 yX0_isOpen, Cond.instanceMethod yX0_isOpen, Cond.selects RX0 yX0_isOpen yX0_isOpen, Cond.code yX0_isOpen cX0_isOpen 1 (some .boolean), Cond.fieldLink RX0 9 "CryOrder$Alarm" "state" "I", Cond.methodLink RX0 60 yX0_isHushed, Cond.instanceMethod yX0_isHushed, Cond.selects RX0 yX0_isHushed yX0_isHushed, Cond.code yX0_isHushed cX0_isHushed 1 (some .boolean), Cond.fieldLink RX0 49 "CryOrder$Alarm" "silenced" "Z", Cond.fieldLink RX0 53 "CryOrder$Alarm" "capped" "Z", Cond.methodLink RX2 34 yX2_joinWithSoonerOnes, Cond.static yX2_joinWithSoonerOnes]
def wsX8_worth_r3 : List Cond := [Cond.code yX2_joinWithSoonerOnes cX2_joinWithSoonerOnes 3 none, Cond.fieldLink RX2 61 "CryOrder$Alarm" "soonerOfThing" "LCryOrder$Alarm;", Cond.fieldLink RX2 64 "CryOrder$Alarm" "came" "I", Cond.fieldLink RX2 71 "CryOrder$Alarm" "number" "I", Cond.methodLink RX2 67 yX0_head, Cond.instanceMethod yX0_head, Cond.selects RX0 yX0_head yX0_head, Cond.code yX0_head cX0_head 2 (some (.object "CryOrder$Alarm")), Cond.fieldLink RX0 97 "CryOrder$Alarm" "above" "LCryOrder$Alarm;", Cond.methodLink RX2 74 yX7_isParted, Cond.instanceMethod yX7_isParted, Cond.selects RX7 yX7_isParted yX7_isParted, Cond.initialized RX7, Cond.code yX7_isParted cX7_isParted 4 (some .boolean), Cond.fieldLink RX7 40 "CryOrder$Pair" "joined" "Z", Cond.methodLink RX7 36 yX7_find, Cond.instanceMethod yX7_find, Cond.selects RX7 yX7_find yX7_find, Cond.code yX7_find cX7_find 6 (some (.object "CryOrder$Pair")), Cond.methodLink RX7 17 Lib.Math.min.name, Cond.static Lib.Math.min.name, Cond.initialized "java/lang/Math", Cond.code Lib.Math.min.name Lib.Math.min.code 2 (some .int), Cond.methodLink RX7 23 Lib.Math.max.name]
def wsX8_worth_r4 : List Cond := [Cond.static Lib.Math.max.name, Cond.code Lib.Math.max.name Lib.Math.max.code 2 (some .int), Cond.fieldLink RX7 26 "CryOrder$Ties" "size" "I", Cond.fieldLink RX7 11 "CryOrder$Ties" "pairs" "[LCryOrder$Pair;", Cond.fieldLink RX7 30 "CryOrder$Pair" "lesser" "I", Cond.fieldLink RX7 33 "CryOrder$Pair" "greater" "I", Cond.methodLink RX2 79 yX0_joinCaseOf, Cond.instanceMethod yX0_joinCaseOf, Cond.selects RX0 yX0_joinCaseOf yX0_joinCaseOf, Cond.code yX0_joinCaseOf cX0_joinCaseOf 4 none, Cond.fieldLink RX0 15 "CryOrder$Alarm" "number" "I", Cond.methodLink RX0 101 yX0_head, Cond.methodLink RX2 38 yX2_joinToldOnes, Cond.static yX2_joinToldOnes, Cond.code yX2_joinToldOnes cX2_joinToldOnes 5 none, Cond.fieldLink RX2 83 "CryOrder$Ties" "size" "I", Cond.fieldLink RX2 84 "CryOrder$Ties" "pairs" "[LCryOrder$Pair;", Cond.fieldLink RX2 88 "CryOrder$Pair" "joined" "Z", Cond.fieldLink RX2 94 "CryOrder$Pair" "lesser" "I", Cond.fieldLink RX2 97 "CryOrder$Pair" "greater" "I", Cond.static yX8_isBelow, Cond.code yX8_isBelow cX8_isBelow 2 (some .boolean), Cond.methodLink RX2 42 yX2_fillCases, Cond.static yX2_fillCases]
def wsX8_worth_r5 : List Cond := [Cond.code yX2_fillCases cX2_fillCases 5 none, Cond.fieldLink RX2 107 "CryOrder$Node" "depth" "I", Cond.methodLink RX2 100 yX0_score, Cond.instanceMethod yX0_score, Cond.selects RX0 yX0_score yX0_score, Cond.code yX0_score cX0_score 4 (some .int), Cond.fieldLink RX0 30 "CryOrder$Alarm" "worth" "I", Cond.methodLink RX0 86 yX0_nodeFor, Cond.instanceMethod yX0_nodeFor, Cond.selects RX0 yX0_nodeFor yX0_nodeFor, Cond.code yX0_nodeFor cX0_nodeFor 3 (some (.object "CryOrder$Node")), Cond.fieldLink RX0 33 "CryOrder$Alarm" "leaf" "LCryOrder$Node;", Cond.fieldLink RX0 78 "CryOrder$Node" "settled" "I", Cond.fieldLink RX0 83 "CryOrder$Node" "parent" "LCryOrder$Node;", Cond.methodLink RX0 90 yX3_oddsLower, Cond.instanceMethod yX3_oddsLower, Cond.selects RX3 yX3_oddsLower yX3_oddsLower, Cond.initialized RX3, Cond.code yX3_oddsLower cX3_oddsLower 1 (some .int), Cond.fieldLink RX3 42 "CryOrder$Node" "settled" "I", Cond.methodLink RX0 94 yX3_oddsUpper, Cond.instanceMethod yX3_oddsUpper, Cond.selects RX3 yX3_oddsUpper yX3_oddsUpper, Cond.code yX3_oddsUpper cX3_oddsUpper 1 (some .int)]
def wsX8_worth_r6 : List Cond := [Cond.fieldLink RX3 45 "CryOrder$Node" "settledTrue" "I", Cond.methodLink RX2 103 yX0_nodeFor, Cond.methodLink RX2 112 yX1_add, Cond.instanceMethod yX1_add, Cond.selects RX1 yX1_add yX1_add, Cond.code yX1_add cX1_add 3 none, Cond.methodLink RX1 23 Lib.Math.max.name, Cond.methodLink RX2 46 yX2_putInOrder, Cond.instanceMethod yX2_putInOrder, Cond.selects RX2 yX2_putInOrder yX2_putInOrder, Cond.code yX2_putInOrder cX2_putInOrder 4 none, Cond.fieldLink RX2 50 "CryOrder$Cases" "size" "I", Cond.fieldLink RX2 116 "CryOrder$Case" "size" "I", Cond.methodLink RX2 117 yX2_putInPlace, Cond.instanceMethod yX2_putInPlace, Cond.selects RX2 yX2_putInPlace yX2_putInPlace, Cond.code yX2_putInPlace cX2_putInPlace 3 none, Cond.fieldLink RX2 11 "CryOrder$Cases" "ordered" "[LCryOrder$Case;", Cond.methodLink RX2 121 yX1_isAheadOf, Cond.instanceMethod yX1_isAheadOf, Cond.selects RX1 yX1_isAheadOf yX1_isAheadOf, Cond.code yX1_isAheadOf cX1_isAheadOf 2 (some .boolean), Cond.fieldLink RX1 7 "CryOrder$Case" "number" "I", Cond.methodLink RX8 250 yX5_make]
def wsX8_worth_r7 : List Cond := [Cond.instanceMethod yX5_make, Cond.selects RX5 yX5_make yX5_make, Cond.initialized RX5, Cond.code yX5_make cX5_make 4 none, Cond.fieldLink RX5 27 "CryOrder$Plan" "takenCount" "I", Cond.fieldLink RX5 31 "CryOrder$Plan" "poolCount" "I", Cond.fieldLink RX5 34 "CryOrder$Plan" "scoreTaken" "I", Cond.methodLink RX5 37 Lib.Math.min.name, Cond.methodLink RX5 43 Lib.Math.max.name, Cond.fieldLink RX5 46 "CryOrder$Plan" "minutesLeft" "I", Cond.methodLink RX5 49 yX5_takeTries, Cond.instanceMethod yX5_takeTries, Cond.selects RX5 yX5_takeTries yX5_takeTries, Cond.code yX5_takeTries cX5_takeTries 5 none, Cond.fieldLink RX5 74 "CryOrder$Cases" "size" "I", Cond.fieldLink RX5 79 "CryOrder$Cases" "ordered" "[LCryOrder$Case;", Cond.fieldLink RX5 82 "CryOrder$Case" "littleKnown" "Z", Cond.methodLink RX5 70 yX1_minutes, Cond.instanceMethod yX1_minutes, Cond.selects RX1 yX1_minutes yX1_minutes, Cond.code yX1_minutes cX1_minutes 1 (some .int), Cond.methodLink RX5 86 yX5_take, Cond.instanceMethod yX5_take, Cond.selects RX5 yX5_take yX5_take]
def wsX8_worth_r8 : List Cond := [Cond.code yX5_take cX5_take 2 none, Cond.fieldLink RX5 11 "CryOrder$Plan" "taken" "[LCryOrder$Case;", Cond.fieldLink RX5 67 "CryOrder$Case" "score" "I", Cond.methodLink RX5 53 yX5_fillPool, Cond.instanceMethod yX5_fillPool, Cond.selects RX5 yX5_fillPool yX5_fillPool, Cond.code yX5_fillPool cX5_fillPool 3 none, Cond.fieldLink RX5 17 "CryOrder$Plan" "pool" "[LCryOrder$Case;", Cond.methodLink RX5 90 yX5_isTaken, Cond.instanceMethod yX5_isTaken, Cond.selects RX5 yX5_isTaken yX5_isTaken, Cond.code yX5_isTaken cX5_isTaken 3 (some .boolean), Cond.methodLink RX5 57 yX5_weighPool, Cond.instanceMethod yX5_weighPool, Cond.selects RX5 yX5_weighPool yX5_weighPool, Cond.code yX5_weighPool cX5_weighPool 5 none, Cond.fieldLink RX5 20 "CryOrder$Plan" "best" "[I", Cond.fieldLink RX5 24 "CryOrder$Plan" "needed" "[I", Cond.methodLink RX5 60 yX5_takeBestOfPool, Cond.instanceMethod yX5_takeBestOfPool, Cond.selects RX5 yX5_takeBestOfPool yX5_takeBestOfPool, Cond.code yX5_takeBestOfPool cX5_takeBestOfPool 4 none, Cond.methodLink RX8 261 yX2_scoreOfAll, Cond.instanceMethod yX2_scoreOfAll]
def wsX8_worth_r9 : List Cond := [Cond.selects RX2 yX2_scoreOfAll yX2_scoreOfAll, Cond.code yX2_scoreOfAll cX2_scoreOfAll 3 (some .int), Cond.fieldLink RX2 58 "CryOrder$Case" "score" "I"]
def wsX8_worth : List Cond := .code yX8_worth cX8_worth 3 (some .int) :: ((wsX8_worth_r1 ++ (wsX8_worth_r2 ++ (wsX8_worth_r3 ++ (wsX8_worth_r4 ++ (wsX8_worth_r5 ++ (wsX8_worth_r6 ++ (wsX8_worth_r7 ++ (wsX8_worth_r8 ++ wsX8_worth_r9)))))))) ++ wsX80 ++ wsX50 ++ wsX00 ++ wsX10 ++ wsX40 ++ wsX70 ++ wsX30 ++ wsX20)
def wsX8_isOfKind : List Cond := .code yX8_isOfKind cX8_isOfKind 2 (some .boolean) :: ([.fieldLink RX8 163 "CryOrder$Alarm" "repeats" "I", .fieldLink RX8 93 "CryOrder$Alarm" "silenced" "Z", .fieldLink RX8 100 "CryOrder$Alarm" "capped" "Z", .fieldLink RX8 166 "CryOrder$Alarm" "state" "I", .methodLink RX8 273 yX0_isHushed, .instanceMethod yX0_isHushed, .selects RX0 yX0_isHushed yX0_isHushed, .initialized RX0, .code yX0_isHushed cX0_isHushed 1 (some .boolean), .fieldLink RX0 49 "CryOrder$Alarm" "silenced" "Z", .fieldLink RX0 53 "CryOrder$Alarm" "capped" "Z"] ++ wsX00)
def wsX8_source : List Cond := .code yX8_source cX8_source 5 (some .int) :: ([.fieldLink RX8 79 "CryOrder" "alarmCount" "I", .fieldLink RX8 11 "CryOrder" "alarms" "[LCryOrder$Alarm;", .fieldLink RX8 151 "CryOrder$Alarm" "source" "I", .methodLink RX8 64 yX8_isBelow, .static yX8_isBelow, .initialized RX8, .code yX8_isBelow cX8_isBelow 2 (some .boolean), .methodLink RX8 267 yX8_isOfKind, .static yX8_isOfKind, .code yX8_isOfKind cX8_isOfKind 2 (some .boolean), .fieldLink RX8 163 "CryOrder$Alarm" "repeats" "I", .fieldLink RX8 93 "CryOrder$Alarm" "silenced" "Z", .fieldLink RX8 100 "CryOrder$Alarm" "capped" "Z", .fieldLink RX8 166 "CryOrder$Alarm" "state" "I", .methodLink RX8 273 yX0_isHushed, .instanceMethod yX0_isHushed, .selects RX0 yX0_isHushed yX0_isHushed, .initialized RX0, .code yX0_isHushed cX0_isHushed 1 (some .boolean), .fieldLink RX0 49 "CryOrder$Alarm" "silenced" "Z", .fieldLink RX0 53 "CryOrder$Alarm" "capped" "Z"] ++ wsX80 ++ wsX00)
def wsX8_count_r1 : List Cond := [Cond.fieldLink RX8 61 "CryOrder" "now" "I", Cond.fieldLink RX8 79 "CryOrder" "alarmCount" "I", Cond.fieldLink RX8 29 "CryOrder" "root" "LCryOrder$Node;", Cond.fieldLink RX8 201 "CryOrder$Node" "open" "I", Cond.fieldLink RX8 271 "CryOrder$Cases" "size" "I", Cond.fieldLink RX8 116 "CryOrder" "silenceCount" "I", Cond.fieldLink RX8 36 "CryOrder" "ties" "LCryOrder$Ties;", Cond.fieldLink RX8 272 "CryOrder$Ties" "size" "I", Cond.methodLink RX8 214 yX8_casesNow, Cond.instanceMethod yX8_casesNow, Cond.selects RX8 yX8_casesNow yX8_casesNow, Cond.initialized RX8, Cond.code yX8_casesNow cX8_casesNow 1 (some (.object "CryOrder$Cases")), Cond.fieldLink RX8 113 "CryOrder" "casesAreStale" "Z", Cond.fieldLink RX8 43 "CryOrder" "cases" "LCryOrder$Cases;", Cond.fieldLink RX8 11 "CryOrder" "alarms" "[LCryOrder$Alarm;", Cond.fieldLink RX8 58 "CryOrder" "leastSettled" "I", Cond.methodLink RX8 282 yX2_gather, Cond.instanceMethod yX2_gather, Cond.selects RX2 yX2_gather yX2_gather, Cond.initialized RX2, Cond.code yX2_gather cX2_gather 6 none, Cond.fieldLink RX2 17 "CryOrder$Alarm" "above" "LCryOrder$Alarm;", Cond.fieldLink RX2 23 "CryOrder$Alarm" "led" "LCryOrder$Case;"]
def wsX8_count_r2 : List Cond := [Cond.methodLink RX2 27 yX1_clear, Cond.instanceMethod yX1_clear, Cond.selects RX1 yX1_clear yX1_clear, Cond.initialized RX1, Cond.code yX1_clear cX1_clear 1 none, Cond.fieldLink RX1 13 "CryOrder$Case" "size" "I", Cond.fieldLink RX1 16 "CryOrder$Case" "score" "I", Cond.fieldLink RX1 19 "CryOrder$Case" "littleKnown" "Z", Cond.methodLink RX2 30 yX0_isLive, Cond.instanceMethod yX0_isLive, Cond.selects RX0 yX0_isLive yX0_isLive, Cond.initialized RX0, Cond.code yX0_isLive cX0_isLive 1 (some .boolean), Cond.methodLink RX0 56 yX0_isOpen, Cond.instanceMethod yX0_isOpen, Cond.selects RX0 yX0_isOpen yX0_isOpen, Cond.code yX0_isOpen cX0_isOpen 1 (some .boolean), Cond.fieldLink RX0 9 "CryOrder$Alarm" "state" "I", Cond.methodLink RX0 60 yX0_isHushed, Cond.instanceMethod yX0_isHushed, Cond.selects RX0 yX0_isHushed yX0_isHushed, Cond.code yX0_isHushed cX0_isHushed 1 (some .boolean), Cond.fieldLink RX0 49 "CryOrder$Alarm" "silenced" "Z", Cond.fieldLink RX0 53 "CryOrder$Alarm" "capped" "Z"]
def wsX8_count_r3 : List Cond := [Cond.methodLink RX2 34 yX2_joinWithSoonerOnes, Cond.static yX2_joinWithSoonerOnes, Cond.code yX2_joinWithSoonerOnes cX2_joinWithSoonerOnes 3 none, Cond.fieldLink RX2 61 "CryOrder$Alarm" "soonerOfThing" "LCryOrder$Alarm;", Cond.fieldLink RX2 64 "CryOrder$Alarm" "came" "I", Cond.fieldLink RX2 71 "CryOrder$Alarm" "number" "I", Cond.methodLink RX2 67 yX0_head, Cond.instanceMethod yX0_head, Cond.selects RX0 yX0_head yX0_head, Cond.code yX0_head cX0_head 2 (some (.object "CryOrder$Alarm")), Cond.fieldLink RX0 97 "CryOrder$Alarm" "above" "LCryOrder$Alarm;", Cond.methodLink RX2 74 yX7_isParted, Cond.instanceMethod yX7_isParted, Cond.selects RX7 yX7_isParted yX7_isParted, Cond.initialized RX7, Cond.code yX7_isParted cX7_isParted 4 (some .boolean), Cond.fieldLink RX7 40 "CryOrder$Pair" "joined" "Z", Cond.methodLink RX7 36 yX7_find, Cond.instanceMethod yX7_find, Cond.selects RX7 yX7_find yX7_find, Cond.code yX7_find cX7_find 6 (some (.object "CryOrder$Pair")), Cond.methodLink RX7 17 Lib.Math.min.name, Cond.static Lib.Math.min.name, Cond.initialized "java/lang/Math"]
def wsX8_count_r4 : List Cond := [Cond.code Lib.Math.min.name Lib.Math.min.code 2 (some .int), Cond.methodLink RX7 23 Lib.Math.max.name, Cond.static Lib.Math.max.name, Cond.code Lib.Math.max.name Lib.Math.max.code 2 (some .int), Cond.fieldLink RX7 26 "CryOrder$Ties" "size" "I", Cond.fieldLink RX7 11 "CryOrder$Ties" "pairs" "[LCryOrder$Pair;", Cond.fieldLink RX7 30 "CryOrder$Pair" "lesser" "I", Cond.fieldLink RX7 33 "CryOrder$Pair" "greater" "I", Cond.methodLink RX2 79 yX0_joinCaseOf, Cond.instanceMethod yX0_joinCaseOf, Cond.selects RX0 yX0_joinCaseOf yX0_joinCaseOf, Cond.code yX0_joinCaseOf cX0_joinCaseOf 4 none, Cond.fieldLink RX0 15 "CryOrder$Alarm" "number" "I", Cond.methodLink RX0 101 yX0_head, Cond.methodLink RX2 38 yX2_joinToldOnes, Cond.static yX2_joinToldOnes, Cond.code yX2_joinToldOnes cX2_joinToldOnes 5 none, Cond.fieldLink RX2 83 "CryOrder$Ties" "size" "I", Cond.fieldLink RX2 84 "CryOrder$Ties" "pairs" "[LCryOrder$Pair;", Cond.fieldLink RX2 88 "CryOrder$Pair" "joined" "Z", Cond.fieldLink RX2 94 "CryOrder$Pair" "lesser" "I", Cond.fieldLink RX2 97 "CryOrder$Pair" "greater" "I", Cond.static yX8_isBelow, Cond.code yX8_isBelow cX8_isBelow 2 (some .boolean)]
def wsX8_count_r5 : List Cond := [Cond.methodLink RX2 42 yX2_fillCases, Cond.static yX2_fillCases, Cond.code yX2_fillCases cX2_fillCases 5 none, Cond.fieldLink RX2 107 "CryOrder$Node" "depth" "I", Cond.methodLink RX2 100 yX0_score, Cond.instanceMethod yX0_score, Cond.selects RX0 yX0_score yX0_score, Cond.code yX0_score cX0_score 4 (some .int), Cond.fieldLink RX0 30 "CryOrder$Alarm" "worth" "I", Cond.methodLink RX0 86 yX0_nodeFor, Cond.instanceMethod yX0_nodeFor, Cond.selects RX0 yX0_nodeFor yX0_nodeFor, Cond.code yX0_nodeFor cX0_nodeFor 3 (some (.object "CryOrder$Node")), Cond.fieldLink RX0 33 "CryOrder$Alarm" "leaf" "LCryOrder$Node;", Cond.fieldLink RX0 78 "CryOrder$Node" "settled" "I", Cond.fieldLink RX0 83 "CryOrder$Node" "parent" "LCryOrder$Node;", Cond.methodLink RX0 90 yX3_oddsLower, Cond.instanceMethod yX3_oddsLower, Cond.selects RX3 yX3_oddsLower yX3_oddsLower, Cond.initialized RX3, Cond.code yX3_oddsLower cX3_oddsLower 1 (some .int), Cond.fieldLink RX3 42 "CryOrder$Node" "settled" "I", Cond.methodLink RX0 94 yX3_oddsUpper, Cond.instanceMethod yX3_oddsUpper]
def wsX8_count_r6 : List Cond := [Cond.selects RX3 yX3_oddsUpper yX3_oddsUpper, Cond.code yX3_oddsUpper cX3_oddsUpper 1 (some .int), Cond.fieldLink RX3 45 "CryOrder$Node" "settledTrue" "I", Cond.methodLink RX2 103 yX0_nodeFor, Cond.methodLink RX2 112 yX1_add, Cond.instanceMethod yX1_add, Cond.selects RX1 yX1_add yX1_add, Cond.code yX1_add cX1_add 3 none, Cond.methodLink RX1 23 Lib.Math.max.name, Cond.methodLink RX2 46 yX2_putInOrder, Cond.instanceMethod yX2_putInOrder, Cond.selects RX2 yX2_putInOrder yX2_putInOrder, Cond.code yX2_putInOrder cX2_putInOrder 4 none, Cond.fieldLink RX2 50 "CryOrder$Cases" "size" "I", Cond.fieldLink RX2 116 "CryOrder$Case" "size" "I", Cond.methodLink RX2 117 yX2_putInPlace, Cond.instanceMethod yX2_putInPlace, Cond.selects RX2 yX2_putInPlace yX2_putInPlace, Cond.code yX2_putInPlace cX2_putInPlace 3 none, Cond.fieldLink RX2 11 "CryOrder$Cases" "ordered" "[LCryOrder$Case;", Cond.methodLink RX2 121 yX1_isAheadOf, Cond.instanceMethod yX1_isAheadOf, Cond.selects RX1 yX1_isAheadOf yX1_isAheadOf, Cond.code yX1_isAheadOf cX1_isAheadOf 2 (some .boolean)]
def wsX8_count_r7 : List Cond := [Cond.fieldLink RX1 7 "CryOrder$Case" "number" "I"]
def wsX8_count : List Cond := .code yX8_count cX8_count 2 (some .int) :: ((wsX8_count_r1 ++ (wsX8_count_r2 ++ (wsX8_count_r3 ++ (wsX8_count_r4 ++ (wsX8_count_r5 ++ (wsX8_count_r6 ++ wsX8_count_r7)))))) ++ wsX80 ++ wsX30 ++ wsX20 ++ wsX70 ++ wsX00 ++ wsX10 ++ wsX40)
def wsX9_init_r1 : List Cond := [Cond.methodLink RX9 1 objectInit, Cond.instanceMethod objectInit, Cond.code objectInit ⟨#[0xb1]⟩ 1 none, Cond.fieldLink RX9 7 "CryOrderModel" "cap" "I", Cond.fieldLink RX9 13 "CryOrderModel" "needs" "I", Cond.arrayClass .int, Cond.fieldLink RX9 16 "CryOrderModel" "came" "[I", Cond.fieldLink RX9 20 "CryOrderModel" "last" "[I", Cond.fieldLink RX9 23 "CryOrderModel" "source" "[I", Cond.fieldLink RX9 26 "CryOrderModel" "thing" "[I", Cond.fieldLink RX9 29 "CryOrderModel" "marks" "[I", Cond.fieldLink RX9 32 "CryOrderModel" "worth" "[I", Cond.fieldLink RX9 35 "CryOrderModel" "repeats" "[I", Cond.fieldLink RX9 38 "CryOrderModel" "state" "[I", Cond.fieldLink RX9 41 "CryOrderModel" "saidTrue" "[I", Cond.fieldLink RX9 44 "CryOrderModel" "saidFalse" "[I", Cond.arrayClass .boolean, Cond.fieldLink RX9 47 "CryOrderModel" "isSilenced" "[Z", Cond.fieldLink RX9 51 "CryOrderModel" "isCapped" "[Z", Cond.fieldLink RX9 54 "CryOrderModel" "silenced" "[I", Cond.fieldLink RX9 57 "CryOrderModel" "from" "[I", Cond.fieldLink RX9 60 "CryOrderModel" "to" "[I", Cond.fieldLink RX9 63 "CryOrderModel" "tieA" "[I", Cond.fieldLink RX9 66 "CryOrderModel" "tieB" "[I"]
def wsX9_init_r2 : List Cond := [Cond.fieldLink RX9 69 "CryOrderModel" "isJoined" "[Z", Cond.fieldLink RX9 72 "CryOrderModel" "caseNumber" "[I", Cond.fieldLink RX9 75 "CryOrderModel" "scores" "[I", Cond.fieldLink RX9 78 "CryOrderModel" "order" "[I", Cond.fieldLink RX9 81 "CryOrderModel" "taken" "[I", Cond.fieldLink RX9 84 "CryOrderModel" "rest" "[I", Cond.fieldLink RX9 87 "CryOrderModel" "restMinutes" "[I", Cond.fieldLink RX9 90 "CryOrderModel" "restScores" "[I"]
def wsX9_init : List Cond := .code yX9_init cX9_init 1 none :: ((wsX9_init_r1 ++ wsX9_init_r2) ++ wsX90)
def wsX9_isIn : List Cond := .code yX9_isIn cX9_isIn 3 (some .boolean) :: ([])
def wsX9_one : List Cond := .code yX9_one cX9_one 1 (some .int) :: ([])
def wsX9_isAlarm : List Cond := .code yX9_isAlarm cX9_isAlarm 2 (some .boolean) :: ([.fieldLink RX9 93 "CryOrderModel" "alarms" "I", .methodLink RX9 96 yX9_isIn, .static yX9_isIn, .initialized RX9, .code yX9_isIn cX9_isIn 3 (some .boolean)] ++ wsX90)
def wsX9_pass : List Cond := .code yX9_pass cX9_pass 2 (some .int) :: ([.fieldLink RX9 100 "CryOrderModel" "now" "I", .methodLink RX9 96 yX9_isIn, .static yX9_isIn, .initialized RX9, .code yX9_isIn cX9_isIn 3 (some .boolean)] ++ wsX90)
def wsX9_isLive : List Cond := .code yX9_isLive cX9_isLive 2 (some .boolean) :: ([.fieldLink RX9 38 "CryOrderModel" "state" "[I", .fieldLink RX9 47 "CryOrderModel" "isSilenced" "[Z", .fieldLink RX9 51 "CryOrderModel" "isCapped" "[Z"] ++ wsX90)
def wsX9_alarm_r1 : List Cond := [Cond.fieldLink RX9 93 "CryOrderModel" "alarms" "I", Cond.fieldLink RX9 23 "CryOrderModel" "source" "[I", Cond.fieldLink RX9 26 "CryOrderModel" "thing" "[I", Cond.fieldLink RX9 29 "CryOrderModel" "marks" "[I", Cond.fieldLink RX9 100 "CryOrderModel" "now" "I", Cond.fieldLink RX9 20 "CryOrderModel" "last" "[I", Cond.fieldLink RX9 35 "CryOrderModel" "repeats" "[I", Cond.fieldLink RX9 47 "CryOrderModel" "isSilenced" "[Z", Cond.fieldLink RX9 51 "CryOrderModel" "isCapped" "[Z", Cond.fieldLink RX9 16 "CryOrderModel" "came" "[I", Cond.fieldLink RX9 111 "CryOrderModel" "silences" "I", Cond.fieldLink RX9 54 "CryOrderModel" "silenced" "[I", Cond.fieldLink RX9 57 "CryOrderModel" "from" "[I", Cond.fieldLink RX9 60 "CryOrderModel" "to" "[I", Cond.fieldLink RX9 7 "CryOrderModel" "cap" "I", Cond.fieldLink RX9 32 "CryOrderModel" "worth" "[I", Cond.methodLink RX9 96 yX9_isIn, Cond.static yX9_isIn, Cond.initialized RX9, Cond.code yX9_isIn cX9_isIn 3 (some .boolean), Cond.methodLink RX9 103 yX9_isLive, Cond.instanceMethod yX9_isLive, Cond.selects RX9 yX9_isLive yX9_isLive, Cond.code yX9_isLive cX9_isLive 2 (some .boolean)]
def wsX9_alarm_r2 : List Cond := [Cond.fieldLink RX9 38 "CryOrderModel" "state" "[I", Cond.methodLink RX9 107 yX9_one, Cond.static yX9_one, Cond.code yX9_one cX9_one 1 (some .int)]
def wsX9_alarm : List Cond := .code yX9_alarm cX9_alarm 8 (some .int) :: ((wsX9_alarm_r1 ++ wsX9_alarm_r2) ++ wsX90)
def wsX9_silence : List Cond := .code yX9_silence cX9_silence 4 (some .int) :: ([.fieldLink RX9 111 "CryOrderModel" "silences" "I", .fieldLink RX9 54 "CryOrderModel" "silenced" "[I", .fieldLink RX9 57 "CryOrderModel" "from" "[I", .fieldLink RX9 60 "CryOrderModel" "to" "[I", .methodLink RX9 96 yX9_isIn, .static yX9_isIn, .initialized RX9, .code yX9_isIn cX9_isIn 3 (some .boolean)] ++ wsX90)
def wsX9_set : List Cond := .code yX9_set cX9_set 3 (some .boolean) :: ([.fieldLink RX9 7 "CryOrderModel" "cap" "I", .fieldLink RX9 13 "CryOrderModel" "needs" "I", .fieldLink RX9 114 "CryOrderModel" "tries" "I", .methodLink RX9 96 yX9_isIn, .static yX9_isIn, .initialized RX9, .code yX9_isIn cX9_isIn 3 (some .boolean)] ++ wsX90)
def wsX9_many : List Cond := .code yX9_many cX9_many 3 (some .int) :: ([])
def wsX9_verdict : List Cond := .code yX9_verdict cX9_verdict 4 (some .int) :: ([.fieldLink RX9 38 "CryOrderModel" "state" "[I", .fieldLink RX9 41 "CryOrderModel" "saidTrue" "[I", .fieldLink RX9 44 "CryOrderModel" "saidFalse" "[I", .methodLink RX9 117 yX9_isAlarm, .instanceMethod yX9_isAlarm, .selects RX9 yX9_isAlarm yX9_isAlarm, .initialized RX9, .code yX9_isAlarm cX9_isAlarm 2 (some .boolean), .fieldLink RX9 93 "CryOrderModel" "alarms" "I", .methodLink RX9 96 yX9_isIn, .static yX9_isIn, .code yX9_isIn cX9_isIn 3 (some .boolean), .methodLink RX9 120 yX9_many, .static yX9_many, .code yX9_many cX9_many 3 (some .int)] ++ wsX90)
def wsX9_tieOf : List Cond := .code yX9_tieOf cX9_tieOf 4 (some .int) :: ([.fieldLink RX9 124 "CryOrderModel" "ties" "I", .fieldLink RX9 63 "CryOrderModel" "tieA" "[I", .fieldLink RX9 66 "CryOrderModel" "tieB" "[I"] ++ wsX90)
def wsX9_tie : List Cond := .code yX9_tie cX9_tie 5 (some .boolean) :: ([.fieldLink RX9 69 "CryOrderModel" "isJoined" "[Z", .fieldLink RX9 124 "CryOrderModel" "ties" "I", .fieldLink RX9 63 "CryOrderModel" "tieA" "[I", .fieldLink RX9 66 "CryOrderModel" "tieB" "[I", .methodLink RX9 117 yX9_isAlarm, .instanceMethod yX9_isAlarm, .selects RX9 yX9_isAlarm yX9_isAlarm, .initialized RX9, .code yX9_isAlarm cX9_isAlarm 2 (some .boolean), .fieldLink RX9 93 "CryOrderModel" "alarms" "I", .methodLink RX9 96 yX9_isIn, .static yX9_isIn, .code yX9_isIn cX9_isIn 3 (some .boolean), .methodLink RX9 127 yX9_tieOf, .instanceMethod yX9_tieOf, .selects RX9 yX9_tieOf yX9_tieOf, .code yX9_tieOf cX9_tieOf 4 (some .int)] ++ wsX90)
def wsX9_counts : List Cond := .code yX9_counts cX9_counts 5 none :: ([.fieldLink RX9 131 "CryOrderModel" "trues" "I", .fieldLink RX9 134 "CryOrderModel" "settled" "I", .fieldLink RX9 137 "CryOrderModel" "opens" "I", .fieldLink RX9 93 "CryOrderModel" "alarms" "I", .fieldLink RX9 29 "CryOrderModel" "marks" "[I", .fieldLink RX9 38 "CryOrderModel" "state" "[I", .methodLink RX9 107 yX9_one, .static yX9_one, .initialized RX9, .code yX9_one cX9_one 1 (some .int)] ++ wsX90)
def wsX9_depth : List Cond := .code yX9_depth cX9_depth 3 (some .int) :: ([.fieldLink RX9 29 "CryOrderModel" "marks" "[I", .fieldLink RX9 134 "CryOrderModel" "settled" "I", .fieldLink RX9 13 "CryOrderModel" "needs" "I", .methodLink RX9 140 yX9_counts, .instanceMethod yX9_counts, .selects RX9 yX9_counts yX9_counts, .initialized RX9, .code yX9_counts cX9_counts 5 none, .fieldLink RX9 131 "CryOrderModel" "trues" "I", .fieldLink RX9 137 "CryOrderModel" "opens" "I", .fieldLink RX9 93 "CryOrderModel" "alarms" "I", .fieldLink RX9 38 "CryOrderModel" "state" "[I", .methodLink RX9 107 yX9_one, .static yX9_one, .code yX9_one cX9_one 1 (some .int)] ++ wsX90)
def wsX9_score : List Cond := .code yX9_score cX9_score 2 (some .int) :: ([.fieldLink RX9 134 "CryOrderModel" "settled" "I", .fieldLink RX9 32 "CryOrderModel" "worth" "[I", .fieldLink RX9 131 "CryOrderModel" "trues" "I", .methodLink RX9 144 yX9_depth, .instanceMethod yX9_depth, .selects RX9 yX9_depth yX9_depth, .initialized RX9, .code yX9_depth cX9_depth 3 (some .int), .fieldLink RX9 29 "CryOrderModel" "marks" "[I", .fieldLink RX9 13 "CryOrderModel" "needs" "I", .methodLink RX9 140 yX9_counts, .instanceMethod yX9_counts, .selects RX9 yX9_counts yX9_counts, .code yX9_counts cX9_counts 5 none, .fieldLink RX9 137 "CryOrderModel" "opens" "I", .fieldLink RX9 93 "CryOrderModel" "alarms" "I", .fieldLink RX9 38 "CryOrderModel" "state" "[I", .methodLink RX9 107 yX9_one, .static yX9_one, .code yX9_one cX9_one 1 (some .int)] ++ wsX90)
def wsX9_node : List Cond := .code yX9_node cX9_node 4 (some .int) :: ([.fieldLink RX9 131 "CryOrderModel" "trues" "I", .fieldLink RX9 134 "CryOrderModel" "settled" "I", .fieldLink RX9 137 "CryOrderModel" "opens" "I", .methodLink RX9 96 yX9_isIn, .static yX9_isIn, .initialized RX9, .code yX9_isIn cX9_isIn 3 (some .boolean), .methodLink RX9 140 yX9_counts, .instanceMethod yX9_counts, .selects RX9 yX9_counts yX9_counts, .code yX9_counts cX9_counts 5 none, .fieldLink RX9 93 "CryOrderModel" "alarms" "I", .fieldLink RX9 29 "CryOrderModel" "marks" "[I", .fieldLink RX9 38 "CryOrderModel" "state" "[I", .methodLink RX9 107 yX9_one, .static yX9_one, .code yX9_one cX9_one 1 (some .int)] ++ wsX90)
def wsX9_odds_r1 : List Cond := [Cond.fieldLink RX9 131 "CryOrderModel" "trues" "I", Cond.fieldLink RX9 137 "CryOrderModel" "opens" "I", Cond.fieldLink RX9 134 "CryOrderModel" "settled" "I", Cond.methodLink RX9 117 yX9_isAlarm, Cond.instanceMethod yX9_isAlarm, Cond.selects RX9 yX9_isAlarm yX9_isAlarm, Cond.initialized RX9, Cond.code yX9_isAlarm cX9_isAlarm 2 (some .boolean), Cond.fieldLink RX9 93 "CryOrderModel" "alarms" "I", Cond.methodLink RX9 96 yX9_isIn, Cond.static yX9_isIn, Cond.code yX9_isIn cX9_isIn 3 (some .boolean), Cond.methodLink RX9 144 yX9_depth, Cond.instanceMethod yX9_depth, Cond.selects RX9 yX9_depth yX9_depth, Cond.code yX9_depth cX9_depth 3 (some .int), Cond.fieldLink RX9 29 "CryOrderModel" "marks" "[I", Cond.fieldLink RX9 13 "CryOrderModel" "needs" "I", Cond.methodLink RX9 140 yX9_counts, Cond.instanceMethod yX9_counts, Cond.selects RX9 yX9_counts yX9_counts, Cond.code yX9_counts cX9_counts 5 none, Cond.fieldLink RX9 38 "CryOrderModel" "state" "[I", Cond.methodLink RX9 107 yX9_one]
def wsX9_odds_r2 : List Cond := [Cond.static yX9_one, Cond.code yX9_one cX9_one 1 (some .int)]
def wsX9_odds : List Cond := .code yX9_odds cX9_odds 8 (some .int) :: ((wsX9_odds_r1 ++ wsX9_odds_r2) ++ wsX90)
def wsX9_hangs : List Cond := .code yX9_hangs cX9_hangs 4 (some .boolean) :: ([.fieldLink RX9 69 "CryOrderModel" "isJoined" "[Z", .fieldLink RX9 26 "CryOrderModel" "thing" "[I", .fieldLink RX9 16 "CryOrderModel" "came" "[I", .methodLink RX9 147 Lib.Math.abs.name, .static Lib.Math.abs.name, .initialized "java/lang/Math", .code Lib.Math.abs.name Lib.Math.abs.code 1 (some .int), .methodLink RX9 127 yX9_tieOf, .instanceMethod yX9_tieOf, .selects RX9 yX9_tieOf yX9_tieOf, .initialized RX9, .code yX9_tieOf cX9_tieOf 4 (some .int), .fieldLink RX9 124 "CryOrderModel" "ties" "I", .fieldLink RX9 63 "CryOrderModel" "tieA" "[I", .fieldLink RX9 66 "CryOrderModel" "tieB" "[I"] ++ wsX90)
def wsX9_scoreOf : List Cond := .code yX9_scoreOf cX9_scoreOf 4 (some .int) :: ([.fieldLink RX9 93 "CryOrderModel" "alarms" "I", .fieldLink RX9 72 "CryOrderModel" "caseNumber" "[I", .fieldLink RX9 75 "CryOrderModel" "scores" "[I", .methodLink RX9 162 Lib.Math.max.name, .static Lib.Math.max.name, .initialized "java/lang/Math", .code Lib.Math.max.name Lib.Math.max.code 2 (some .int)] ++ wsX90)
def wsX9_joins_r1 : List Cond := [Cond.fieldLink RX9 93 "CryOrderModel" "alarms" "I", Cond.fieldLink RX9 72 "CryOrderModel" "caseNumber" "[I", Cond.fieldLink RX9 75 "CryOrderModel" "scores" "[I", Cond.methodLink RX9 159 Lib.Math.min.name, Cond.static Lib.Math.min.name, Cond.initialized "java/lang/Math", Cond.code Lib.Math.min.name Lib.Math.min.code 2 (some .int), Cond.methodLink RX9 162 Lib.Math.max.name, Cond.static Lib.Math.max.name, Cond.code Lib.Math.max.name Lib.Math.max.code 2 (some .int), Cond.fieldLink RX9 165 "CryOrderModel" "cases" "I", Cond.fieldLink RX9 78 "CryOrderModel" "order" "[I", Cond.methodLink RX9 103 yX9_isLive, Cond.instanceMethod yX9_isLive, Cond.selects RX9 yX9_isLive yX9_isLive, Cond.initialized RX9, Cond.code yX9_isLive cX9_isLive 2 (some .boolean), Cond.fieldLink RX9 38 "CryOrderModel" "state" "[I", Cond.fieldLink RX9 47 "CryOrderModel" "isSilenced" "[Z", Cond.fieldLink RX9 51 "CryOrderModel" "isCapped" "[Z", Cond.methodLink RX9 152 yX9_score, Cond.instanceMethod yX9_score, Cond.selects RX9 yX9_score yX9_score, Cond.code yX9_score cX9_score 2 (some .int)]
def wsX9_joins_r2 : List Cond := [Cond.fieldLink RX9 134 "CryOrderModel" "settled" "I", Cond.fieldLink RX9 32 "CryOrderModel" "worth" "[I", Cond.fieldLink RX9 131 "CryOrderModel" "trues" "I", Cond.methodLink RX9 144 yX9_depth, Cond.instanceMethod yX9_depth, Cond.selects RX9 yX9_depth yX9_depth, Cond.code yX9_depth cX9_depth 3 (some .int), Cond.fieldLink RX9 29 "CryOrderModel" "marks" "[I", Cond.fieldLink RX9 13 "CryOrderModel" "needs" "I", Cond.methodLink RX9 140 yX9_counts, Cond.instanceMethod yX9_counts, Cond.selects RX9 yX9_counts yX9_counts, Cond.code yX9_counts cX9_counts 5 none, Cond.fieldLink RX9 137 "CryOrderModel" "opens" "I", Cond.methodLink RX9 107 yX9_one, Cond.static yX9_one, Cond.code yX9_one cX9_one 1 (some .int), Cond.methodLink RX9 155 yX9_hangs, Cond.instanceMethod yX9_hangs, Cond.selects RX9 yX9_hangs yX9_hangs, Cond.code yX9_hangs cX9_hangs 4 (some .boolean), Cond.fieldLink RX9 69 "CryOrderModel" "isJoined" "[Z", Cond.fieldLink RX9 26 "CryOrderModel" "thing" "[I", Cond.fieldLink RX9 16 "CryOrderModel" "came" "[I"]
def wsX9_joins_r3 : List Cond := [Cond.methodLink RX9 147 Lib.Math.abs.name, Cond.static Lib.Math.abs.name, Cond.code Lib.Math.abs.name Lib.Math.abs.code 1 (some .int), Cond.methodLink RX9 127 yX9_tieOf, Cond.instanceMethod yX9_tieOf, Cond.selects RX9 yX9_tieOf yX9_tieOf, Cond.code yX9_tieOf cX9_tieOf 4 (some .int), Cond.fieldLink RX9 124 "CryOrderModel" "ties" "I", Cond.fieldLink RX9 63 "CryOrderModel" "tieA" "[I", Cond.fieldLink RX9 66 "CryOrderModel" "tieB" "[I", Cond.methodLink RX9 168 yX9_scoreOf, Cond.instanceMethod yX9_scoreOf, Cond.selects RX9 yX9_scoreOf yX9_scoreOf, Cond.code yX9_scoreOf cX9_scoreOf 4 (some .int)]
def wsX9_joins : List Cond := .code yX9_joins cX9_joins 6 none :: ((wsX9_joins_r1 ++ (wsX9_joins_r2 ++ wsX9_joins_r3)) ++ wsX90)
def wsX9_sizeOf : List Cond := .code yX9_sizeOf cX9_sizeOf 4 (some .int) :: ([.fieldLink RX9 93 "CryOrderModel" "alarms" "I", .fieldLink RX9 72 "CryOrderModel" "caseNumber" "[I", .methodLink RX9 107 yX9_one, .static yX9_one, .initialized RX9, .code yX9_one cX9_one 1 (some .int)] ++ wsX90)
def wsX9_minutesOf : List Cond := .code yX9_minutesOf cX9_minutesOf 2 (some .int) :: ([.methodLink RX9 171 yX9_sizeOf, .instanceMethod yX9_sizeOf, .selects RX9 yX9_sizeOf yX9_sizeOf, .initialized RX9, .code yX9_sizeOf cX9_sizeOf 4 (some .int), .fieldLink RX9 93 "CryOrderModel" "alarms" "I", .fieldLink RX9 72 "CryOrderModel" "caseNumber" "[I", .methodLink RX9 107 yX9_one, .static yX9_one, .code yX9_one cX9_one 1 (some .int)] ++ wsX90)
def wsX9_isLittleKnown : List Cond := .code yX9_isLittleKnown cX9_isLittleKnown 3 (some .boolean) :: ([.fieldLink RX9 93 "CryOrderModel" "alarms" "I", .fieldLink RX9 72 "CryOrderModel" "caseNumber" "[I", .methodLink RX9 144 yX9_depth, .instanceMethod yX9_depth, .selects RX9 yX9_depth yX9_depth, .initialized RX9, .code yX9_depth cX9_depth 3 (some .int), .fieldLink RX9 29 "CryOrderModel" "marks" "[I", .fieldLink RX9 134 "CryOrderModel" "settled" "I", .fieldLink RX9 13 "CryOrderModel" "needs" "I", .methodLink RX9 140 yX9_counts, .instanceMethod yX9_counts, .selects RX9 yX9_counts yX9_counts, .code yX9_counts cX9_counts 5 none, .fieldLink RX9 131 "CryOrderModel" "trues" "I", .fieldLink RX9 137 "CryOrderModel" "opens" "I", .fieldLink RX9 38 "CryOrderModel" "state" "[I", .methodLink RX9 107 yX9_one, .static yX9_one, .code yX9_one cX9_one 1 (some .int)] ++ wsX90)
def wsX9_told_r1 : List Cond := [Cond.fieldLink RX9 16 "CryOrderModel" "came" "[I", Cond.fieldLink RX9 23 "CryOrderModel" "source" "[I", Cond.fieldLink RX9 26 "CryOrderModel" "thing" "[I", Cond.fieldLink RX9 29 "CryOrderModel" "marks" "[I", Cond.fieldLink RX9 32 "CryOrderModel" "worth" "[I", Cond.fieldLink RX9 35 "CryOrderModel" "repeats" "[I", Cond.fieldLink RX9 38 "CryOrderModel" "state" "[I", Cond.fieldLink RX9 47 "CryOrderModel" "isSilenced" "[Z", Cond.fieldLink RX9 51 "CryOrderModel" "isCapped" "[Z", Cond.fieldLink RX9 41 "CryOrderModel" "saidTrue" "[I", Cond.fieldLink RX9 44 "CryOrderModel" "saidFalse" "[I", Cond.fieldLink RX9 72 "CryOrderModel" "caseNumber" "[I", Cond.methodLink RX9 117 yX9_isAlarm, Cond.instanceMethod yX9_isAlarm, Cond.selects RX9 yX9_isAlarm yX9_isAlarm, Cond.initialized RX9, Cond.code yX9_isAlarm cX9_isAlarm 2 (some .boolean), Cond.fieldLink RX9 93 "CryOrderModel" "alarms" "I", Cond.methodLink RX9 96 yX9_isIn, Cond.static yX9_isIn, Cond.code yX9_isIn cX9_isIn 3 (some .boolean), Cond.methodLink RX9 107 yX9_one, Cond.static yX9_one, Cond.code yX9_one cX9_one 1 (some .int)]
def wsX9_told_r2 : List Cond := [Cond.methodLink RX9 152 yX9_score, Cond.instanceMethod yX9_score, Cond.selects RX9 yX9_score yX9_score, Cond.code yX9_score cX9_score 2 (some .int), Cond.fieldLink RX9 134 "CryOrderModel" "settled" "I", Cond.fieldLink RX9 131 "CryOrderModel" "trues" "I", Cond.methodLink RX9 144 yX9_depth, Cond.instanceMethod yX9_depth, Cond.selects RX9 yX9_depth yX9_depth, Cond.code yX9_depth cX9_depth 3 (some .int), Cond.fieldLink RX9 13 "CryOrderModel" "needs" "I", Cond.methodLink RX9 140 yX9_counts, Cond.instanceMethod yX9_counts, Cond.selects RX9 yX9_counts yX9_counts, Cond.code yX9_counts cX9_counts 5 none, Cond.fieldLink RX9 137 "CryOrderModel" "opens" "I", Cond.methodLink RX9 120 yX9_many, Cond.static yX9_many, Cond.code yX9_many cX9_many 3 (some .int), Cond.methodLink RX9 174 yX9_joins, Cond.instanceMethod yX9_joins, Cond.selects RX9 yX9_joins yX9_joins, Cond.code yX9_joins cX9_joins 6 none, Cond.fieldLink RX9 75 "CryOrderModel" "scores" "[I"]
def wsX9_told_r3 : List Cond := [Cond.methodLink RX9 159 Lib.Math.min.name, Cond.static Lib.Math.min.name, Cond.initialized "java/lang/Math", Cond.code Lib.Math.min.name Lib.Math.min.code 2 (some .int), Cond.methodLink RX9 162 Lib.Math.max.name, Cond.static Lib.Math.max.name, Cond.code Lib.Math.max.name Lib.Math.max.code 2 (some .int), Cond.fieldLink RX9 165 "CryOrderModel" "cases" "I", Cond.fieldLink RX9 78 "CryOrderModel" "order" "[I", Cond.methodLink RX9 103 yX9_isLive, Cond.instanceMethod yX9_isLive, Cond.selects RX9 yX9_isLive yX9_isLive, Cond.code yX9_isLive cX9_isLive 2 (some .boolean), Cond.methodLink RX9 155 yX9_hangs, Cond.instanceMethod yX9_hangs, Cond.selects RX9 yX9_hangs yX9_hangs, Cond.code yX9_hangs cX9_hangs 4 (some .boolean), Cond.fieldLink RX9 69 "CryOrderModel" "isJoined" "[Z", Cond.methodLink RX9 147 Lib.Math.abs.name, Cond.static Lib.Math.abs.name, Cond.code Lib.Math.abs.name Lib.Math.abs.code 1 (some .int), Cond.methodLink RX9 127 yX9_tieOf, Cond.instanceMethod yX9_tieOf, Cond.selects RX9 yX9_tieOf yX9_tieOf]
def wsX9_told_r4 : List Cond := [Cond.code yX9_tieOf cX9_tieOf 4 (some .int), Cond.fieldLink RX9 124 "CryOrderModel" "ties" "I", Cond.fieldLink RX9 63 "CryOrderModel" "tieA" "[I", Cond.fieldLink RX9 66 "CryOrderModel" "tieB" "[I", Cond.methodLink RX9 168 yX9_scoreOf, Cond.instanceMethod yX9_scoreOf, Cond.selects RX9 yX9_scoreOf yX9_scoreOf, Cond.code yX9_scoreOf cX9_scoreOf 4 (some .int)]
def wsX9_told : List Cond := .code yX9_told cX9_told 3 (some .int) :: ((wsX9_told_r1 ++ (wsX9_told_r2 ++ (wsX9_told_r3 ++ wsX9_told_r4))) ++ wsX90)
def wsX9_order_r1 : List Cond := [Cond.fieldLink RX9 165 "CryOrderModel" "cases" "I", Cond.fieldLink RX9 78 "CryOrderModel" "order" "[I", Cond.methodLink RX9 174 yX9_joins, Cond.instanceMethod yX9_joins, Cond.selects RX9 yX9_joins yX9_joins, Cond.initialized RX9, Cond.code yX9_joins cX9_joins 6 none, Cond.fieldLink RX9 93 "CryOrderModel" "alarms" "I", Cond.fieldLink RX9 72 "CryOrderModel" "caseNumber" "[I", Cond.fieldLink RX9 75 "CryOrderModel" "scores" "[I", Cond.methodLink RX9 159 Lib.Math.min.name, Cond.static Lib.Math.min.name, Cond.initialized "java/lang/Math", Cond.code Lib.Math.min.name Lib.Math.min.code 2 (some .int), Cond.methodLink RX9 162 Lib.Math.max.name, Cond.static Lib.Math.max.name, Cond.code Lib.Math.max.name Lib.Math.max.code 2 (some .int), Cond.methodLink RX9 103 yX9_isLive, Cond.instanceMethod yX9_isLive, Cond.selects RX9 yX9_isLive yX9_isLive, Cond.code yX9_isLive cX9_isLive 2 (some .boolean), Cond.fieldLink RX9 38 "CryOrderModel" "state" "[I", Cond.fieldLink RX9 47 "CryOrderModel" "isSilenced" "[Z", Cond.fieldLink RX9 51 "CryOrderModel" "isCapped" "[Z"]
def wsX9_order_r2 : List Cond := [Cond.methodLink RX9 152 yX9_score, Cond.instanceMethod yX9_score, Cond.selects RX9 yX9_score yX9_score, Cond.code yX9_score cX9_score 2 (some .int), Cond.fieldLink RX9 134 "CryOrderModel" "settled" "I", Cond.fieldLink RX9 32 "CryOrderModel" "worth" "[I", Cond.fieldLink RX9 131 "CryOrderModel" "trues" "I", Cond.methodLink RX9 144 yX9_depth, Cond.instanceMethod yX9_depth, Cond.selects RX9 yX9_depth yX9_depth, Cond.code yX9_depth cX9_depth 3 (some .int), Cond.fieldLink RX9 29 "CryOrderModel" "marks" "[I", Cond.fieldLink RX9 13 "CryOrderModel" "needs" "I", Cond.methodLink RX9 140 yX9_counts, Cond.instanceMethod yX9_counts, Cond.selects RX9 yX9_counts yX9_counts, Cond.code yX9_counts cX9_counts 5 none, Cond.fieldLink RX9 137 "CryOrderModel" "opens" "I", Cond.methodLink RX9 107 yX9_one, Cond.static yX9_one, Cond.code yX9_one cX9_one 1 (some .int), Cond.methodLink RX9 155 yX9_hangs, Cond.instanceMethod yX9_hangs, Cond.selects RX9 yX9_hangs yX9_hangs]
def wsX9_order_r3 : List Cond := [Cond.code yX9_hangs cX9_hangs 4 (some .boolean), Cond.fieldLink RX9 69 "CryOrderModel" "isJoined" "[Z", Cond.fieldLink RX9 26 "CryOrderModel" "thing" "[I", Cond.fieldLink RX9 16 "CryOrderModel" "came" "[I", Cond.methodLink RX9 147 Lib.Math.abs.name, Cond.static Lib.Math.abs.name, Cond.code Lib.Math.abs.name Lib.Math.abs.code 1 (some .int), Cond.methodLink RX9 127 yX9_tieOf, Cond.instanceMethod yX9_tieOf, Cond.selects RX9 yX9_tieOf yX9_tieOf, Cond.code yX9_tieOf cX9_tieOf 4 (some .int), Cond.fieldLink RX9 124 "CryOrderModel" "ties" "I", Cond.fieldLink RX9 63 "CryOrderModel" "tieA" "[I", Cond.fieldLink RX9 66 "CryOrderModel" "tieB" "[I", Cond.methodLink RX9 168 yX9_scoreOf, Cond.instanceMethod yX9_scoreOf, Cond.selects RX9 yX9_scoreOf yX9_scoreOf, Cond.code yX9_scoreOf cX9_scoreOf 4 (some .int), Cond.methodLink RX9 96 yX9_isIn, Cond.static yX9_isIn, Cond.code yX9_isIn cX9_isIn 3 (some .boolean)]
def wsX9_order : List Cond := .code yX9_order cX9_order 2 (some .int) :: ((wsX9_order_r1 ++ (wsX9_order_r2 ++ wsX9_order_r3)) ++ wsX90)
def wsX9_caseOf_r1 : List Cond := [Cond.fieldLink RX9 72 "CryOrderModel" "caseNumber" "[I", Cond.fieldLink RX9 93 "CryOrderModel" "alarms" "I", Cond.methodLink RX9 117 yX9_isAlarm, Cond.instanceMethod yX9_isAlarm, Cond.selects RX9 yX9_isAlarm yX9_isAlarm, Cond.initialized RX9, Cond.code yX9_isAlarm cX9_isAlarm 2 (some .boolean), Cond.methodLink RX9 96 yX9_isIn, Cond.static yX9_isIn, Cond.code yX9_isIn cX9_isIn 3 (some .boolean), Cond.methodLink RX9 174 yX9_joins, Cond.instanceMethod yX9_joins, Cond.selects RX9 yX9_joins yX9_joins, Cond.code yX9_joins cX9_joins 6 none, Cond.fieldLink RX9 75 "CryOrderModel" "scores" "[I", Cond.methodLink RX9 159 Lib.Math.min.name, Cond.static Lib.Math.min.name, Cond.initialized "java/lang/Math", Cond.code Lib.Math.min.name Lib.Math.min.code 2 (some .int), Cond.methodLink RX9 162 Lib.Math.max.name, Cond.static Lib.Math.max.name, Cond.code Lib.Math.max.name Lib.Math.max.code 2 (some .int), Cond.fieldLink RX9 165 "CryOrderModel" "cases" "I", Cond.fieldLink RX9 78 "CryOrderModel" "order" "[I"]
def wsX9_caseOf_r2 : List Cond := [Cond.methodLink RX9 103 yX9_isLive, Cond.instanceMethod yX9_isLive, Cond.selects RX9 yX9_isLive yX9_isLive, Cond.code yX9_isLive cX9_isLive 2 (some .boolean), Cond.fieldLink RX9 38 "CryOrderModel" "state" "[I", Cond.fieldLink RX9 47 "CryOrderModel" "isSilenced" "[Z", Cond.fieldLink RX9 51 "CryOrderModel" "isCapped" "[Z", Cond.methodLink RX9 152 yX9_score, Cond.instanceMethod yX9_score, Cond.selects RX9 yX9_score yX9_score, Cond.code yX9_score cX9_score 2 (some .int), Cond.fieldLink RX9 134 "CryOrderModel" "settled" "I", Cond.fieldLink RX9 32 "CryOrderModel" "worth" "[I", Cond.fieldLink RX9 131 "CryOrderModel" "trues" "I", Cond.methodLink RX9 144 yX9_depth, Cond.instanceMethod yX9_depth, Cond.selects RX9 yX9_depth yX9_depth, Cond.code yX9_depth cX9_depth 3 (some .int), Cond.fieldLink RX9 29 "CryOrderModel" "marks" "[I", Cond.fieldLink RX9 13 "CryOrderModel" "needs" "I", Cond.methodLink RX9 140 yX9_counts, Cond.instanceMethod yX9_counts, Cond.selects RX9 yX9_counts yX9_counts, Cond.code yX9_counts cX9_counts 5 none]
def wsX9_caseOf_r3 : List Cond := [Cond.fieldLink RX9 137 "CryOrderModel" "opens" "I", Cond.methodLink RX9 107 yX9_one, Cond.static yX9_one, Cond.code yX9_one cX9_one 1 (some .int), Cond.methodLink RX9 155 yX9_hangs, Cond.instanceMethod yX9_hangs, Cond.selects RX9 yX9_hangs yX9_hangs, Cond.code yX9_hangs cX9_hangs 4 (some .boolean), Cond.fieldLink RX9 69 "CryOrderModel" "isJoined" "[Z", Cond.fieldLink RX9 26 "CryOrderModel" "thing" "[I", Cond.fieldLink RX9 16 "CryOrderModel" "came" "[I", Cond.methodLink RX9 147 Lib.Math.abs.name, Cond.static Lib.Math.abs.name, Cond.code Lib.Math.abs.name Lib.Math.abs.code 1 (some .int), Cond.methodLink RX9 127 yX9_tieOf, Cond.instanceMethod yX9_tieOf, Cond.selects RX9 yX9_tieOf yX9_tieOf, Cond.code yX9_tieOf cX9_tieOf 4 (some .int), Cond.fieldLink RX9 124 "CryOrderModel" "ties" "I", Cond.fieldLink RX9 63 "CryOrderModel" "tieA" "[I", Cond.fieldLink RX9 66 "CryOrderModel" "tieB" "[I", Cond.methodLink RX9 168 yX9_scoreOf, Cond.instanceMethod yX9_scoreOf, Cond.selects RX9 yX9_scoreOf yX9_scoreOf]
def wsX9_caseOf_r4 : List Cond := [Cond.code yX9_scoreOf cX9_scoreOf 4 (some .int), Cond.methodLink RX9 171 yX9_sizeOf, Cond.instanceMethod yX9_sizeOf, Cond.selects RX9 yX9_sizeOf yX9_sizeOf, Cond.code yX9_sizeOf cX9_sizeOf 4 (some .int), Cond.methodLink RX9 177 yX9_minutesOf, Cond.instanceMethod yX9_minutesOf, Cond.selects RX9 yX9_minutesOf yX9_minutesOf, Cond.code yX9_minutesOf cX9_minutesOf 2 (some .int), Cond.methodLink RX9 180 yX9_isLittleKnown, Cond.instanceMethod yX9_isLittleKnown, Cond.selects RX9 yX9_isLittleKnown yX9_isLittleKnown, Cond.code yX9_isLittleKnown cX9_isLittleKnown 3 (some .boolean)]
def wsX9_caseOf : List Cond := .code yX9_caseOf cX9_caseOf 5 (some .int) :: ((wsX9_caseOf_r1 ++ (wsX9_caseOf_r2 ++ (wsX9_caseOf_r3 ++ wsX9_caseOf_r4))) ++ wsX90)
def wsX9_slow_r1 : List Cond := [Cond.fieldLink RX9 93 "CryOrderModel" "alarms" "I", Cond.fieldLink RX9 26 "CryOrderModel" "thing" "[I", Cond.fieldLink RX9 100 "CryOrderModel" "now" "I", Cond.fieldLink RX9 16 "CryOrderModel" "came" "[I", Cond.methodLink RX9 96 yX9_isIn, Cond.static yX9_isIn, Cond.initialized RX9, Cond.code yX9_isIn cX9_isIn 3 (some .boolean), Cond.methodLink RX9 103 yX9_isLive, Cond.instanceMethod yX9_isLive, Cond.selects RX9 yX9_isLive yX9_isLive, Cond.code yX9_isLive cX9_isLive 2 (some .boolean), Cond.fieldLink RX9 38 "CryOrderModel" "state" "[I", Cond.fieldLink RX9 47 "CryOrderModel" "isSilenced" "[Z", Cond.fieldLink RX9 51 "CryOrderModel" "isCapped" "[Z", Cond.methodLink RX9 152 yX9_score, Cond.instanceMethod yX9_score, Cond.selects RX9 yX9_score yX9_score, Cond.code yX9_score cX9_score 2 (some .int), Cond.fieldLink RX9 134 "CryOrderModel" "settled" "I", Cond.fieldLink RX9 32 "CryOrderModel" "worth" "[I", Cond.fieldLink RX9 131 "CryOrderModel" "trues" "I", Cond.methodLink RX9 144 yX9_depth, Cond.instanceMethod yX9_depth]
def wsX9_slow_r2 : List Cond := [Cond.selects RX9 yX9_depth yX9_depth, Cond.code yX9_depth cX9_depth 3 (some .int), Cond.fieldLink RX9 29 "CryOrderModel" "marks" "[I", Cond.fieldLink RX9 13 "CryOrderModel" "needs" "I", Cond.methodLink RX9 140 yX9_counts, Cond.instanceMethod yX9_counts, Cond.selects RX9 yX9_counts yX9_counts, Cond.code yX9_counts cX9_counts 5 none, Cond.fieldLink RX9 137 "CryOrderModel" "opens" "I", Cond.methodLink RX9 107 yX9_one, Cond.static yX9_one, Cond.code yX9_one cX9_one 1 (some .int)]
def wsX9_slow : List Cond := .code yX9_slow cX9_slow 5 (some .int) :: ((wsX9_slow_r1 ++ wsX9_slow_r2) ++ wsX90)
def wsX9_isTaken : List Cond := .code yX9_isTaken cX9_isTaken 3 (some .boolean) :: ([.fieldLink RX9 183 "CryOrderModel" "takenMany" "I", .fieldLink RX9 81 "CryOrderModel" "taken" "[I"] ++ wsX90)
def wsX9_plans_r1 : List Cond := [Cond.fieldLink RX9 183 "CryOrderModel" "takenMany" "I", Cond.fieldLink RX9 165 "CryOrderModel" "cases" "I", Cond.fieldLink RX9 114 "CryOrderModel" "tries" "I", Cond.fieldLink RX9 78 "CryOrderModel" "order" "[I", Cond.fieldLink RX9 81 "CryOrderModel" "taken" "[I", Cond.fieldLink RX9 84 "CryOrderModel" "rest" "[I", Cond.fieldLink RX9 87 "CryOrderModel" "restMinutes" "[I", Cond.fieldLink RX9 90 "CryOrderModel" "restScores" "[I", Cond.methodLink RX9 174 yX9_joins, Cond.instanceMethod yX9_joins, Cond.selects RX9 yX9_joins yX9_joins, Cond.initialized RX9, Cond.code yX9_joins cX9_joins 6 none, Cond.fieldLink RX9 93 "CryOrderModel" "alarms" "I", Cond.fieldLink RX9 72 "CryOrderModel" "caseNumber" "[I", Cond.fieldLink RX9 75 "CryOrderModel" "scores" "[I", Cond.methodLink RX9 159 Lib.Math.min.name, Cond.static Lib.Math.min.name, Cond.initialized "java/lang/Math", Cond.code Lib.Math.min.name Lib.Math.min.code 2 (some .int), Cond.methodLink RX9 162 Lib.Math.max.name, Cond.static Lib.Math.max.name, Cond.code Lib.Math.max.name Lib.Math.max.code 2 (some .int), Cond.methodLink RX9 103 yX9_isLive]
def wsX9_plans_r2 : List Cond := [Cond.instanceMethod yX9_isLive, Cond.selects RX9 yX9_isLive yX9_isLive, Cond.code yX9_isLive cX9_isLive 2 (some .boolean), Cond.fieldLink RX9 38 "CryOrderModel" "state" "[I", Cond.fieldLink RX9 47 "CryOrderModel" "isSilenced" "[Z", Cond.fieldLink RX9 51 "CryOrderModel" "isCapped" "[Z", Cond.methodLink RX9 152 yX9_score, Cond.instanceMethod yX9_score, Cond.selects RX9 yX9_score yX9_score, Cond.code yX9_score cX9_score 2 (some .int), Cond.fieldLink RX9 134 "CryOrderModel" "settled" "I", Cond.fieldLink RX9 32 "CryOrderModel" "worth" "[I", Cond.fieldLink RX9 131 "CryOrderModel" "trues" "I", Cond.methodLink RX9 144 yX9_depth, Cond.instanceMethod yX9_depth, Cond.selects RX9 yX9_depth yX9_depth, Cond.code yX9_depth cX9_depth 3 (some .int), Cond.fieldLink RX9 29 "CryOrderModel" "marks" "[I", Cond.fieldLink RX9 13 "CryOrderModel" "needs" "I", Cond.methodLink RX9 140 yX9_counts, Cond.instanceMethod yX9_counts, Cond.selects RX9 yX9_counts yX9_counts, Cond.code yX9_counts cX9_counts 5 none, Cond.fieldLink RX9 137 "CryOrderModel" "opens" "I"]
def wsX9_plans_r3 : List Cond := [Cond.methodLink RX9 107 yX9_one, Cond.static yX9_one, Cond.code yX9_one cX9_one 1 (some .int), Cond.methodLink RX9 155 yX9_hangs, Cond.instanceMethod yX9_hangs, Cond.selects RX9 yX9_hangs yX9_hangs, Cond.code yX9_hangs cX9_hangs 4 (some .boolean), Cond.fieldLink RX9 69 "CryOrderModel" "isJoined" "[Z", Cond.fieldLink RX9 26 "CryOrderModel" "thing" "[I", Cond.fieldLink RX9 16 "CryOrderModel" "came" "[I", Cond.methodLink RX9 147 Lib.Math.abs.name, Cond.static Lib.Math.abs.name, Cond.code Lib.Math.abs.name Lib.Math.abs.code 1 (some .int), Cond.methodLink RX9 127 yX9_tieOf, Cond.instanceMethod yX9_tieOf, Cond.selects RX9 yX9_tieOf yX9_tieOf, Cond.code yX9_tieOf cX9_tieOf 4 (some .int), Cond.fieldLink RX9 124 "CryOrderModel" "ties" "I", Cond.fieldLink RX9 63 "CryOrderModel" "tieA" "[I", Cond.fieldLink RX9 66 "CryOrderModel" "tieB" "[I", Cond.methodLink RX9 168 yX9_scoreOf, Cond.instanceMethod yX9_scoreOf, Cond.selects RX9 yX9_scoreOf yX9_scoreOf, Cond.code yX9_scoreOf cX9_scoreOf 4 (some .int)]
def wsX9_plans_r4 : List Cond := [Cond.methodLink RX9 180 yX9_isLittleKnown, Cond.instanceMethod yX9_isLittleKnown, Cond.selects RX9 yX9_isLittleKnown yX9_isLittleKnown, Cond.code yX9_isLittleKnown cX9_isLittleKnown 3 (some .boolean), Cond.methodLink RX9 177 yX9_minutesOf, Cond.instanceMethod yX9_minutesOf, Cond.selects RX9 yX9_minutesOf yX9_minutesOf, Cond.code yX9_minutesOf cX9_minutesOf 2 (some .int), Cond.methodLink RX9 171 yX9_sizeOf, Cond.instanceMethod yX9_sizeOf, Cond.selects RX9 yX9_sizeOf yX9_sizeOf, Cond.code yX9_sizeOf cX9_sizeOf 4 (some .int), Cond.methodLink RX9 186 yX9_isTaken, Cond.instanceMethod yX9_isTaken, Cond.selects RX9 yX9_isTaken yX9_isTaken, Cond.code yX9_isTaken cX9_isTaken 3 (some .boolean)]
def wsX9_plans : List Cond := .code yX9_plans cX9_plans 10 none :: ((wsX9_plans_r1 ++ (wsX9_plans_r2 ++ (wsX9_plans_r3 ++ wsX9_plans_r4))) ++ wsX90)
def wsX9_isPlan : List Cond := .code yX9_isPlan cX9_isPlan 1 (some .boolean) :: ([.methodLink RX9 96 yX9_isIn, .static yX9_isIn, .initialized RX9, .code yX9_isIn cX9_isIn 3 (some .boolean)])
def wsX9_plan_r1 : List Cond := [Cond.fieldLink RX9 183 "CryOrderModel" "takenMany" "I", Cond.fieldLink RX9 81 "CryOrderModel" "taken" "[I", Cond.methodLink RX9 189 yX9_isPlan, Cond.static yX9_isPlan, Cond.initialized RX9, Cond.code yX9_isPlan cX9_isPlan 1 (some .boolean), Cond.methodLink RX9 96 yX9_isIn, Cond.static yX9_isIn, Cond.code yX9_isIn cX9_isIn 3 (some .boolean), Cond.methodLink RX9 192 yX9_plans, Cond.instanceMethod yX9_plans, Cond.selects RX9 yX9_plans yX9_plans, Cond.code yX9_plans cX9_plans 10 none, Cond.fieldLink RX9 165 "CryOrderModel" "cases" "I", Cond.fieldLink RX9 114 "CryOrderModel" "tries" "I", Cond.fieldLink RX9 78 "CryOrderModel" "order" "[I", Cond.fieldLink RX9 84 "CryOrderModel" "rest" "[I", Cond.fieldLink RX9 87 "CryOrderModel" "restMinutes" "[I", Cond.fieldLink RX9 90 "CryOrderModel" "restScores" "[I", Cond.methodLink RX9 174 yX9_joins, Cond.instanceMethod yX9_joins, Cond.selects RX9 yX9_joins yX9_joins, Cond.code yX9_joins cX9_joins 6 none, Cond.fieldLink RX9 93 "CryOrderModel" "alarms" "I"]
def wsX9_plan_r2 : List Cond := [Cond.fieldLink RX9 72 "CryOrderModel" "caseNumber" "[I", Cond.fieldLink RX9 75 "CryOrderModel" "scores" "[I", Cond.methodLink RX9 159 Lib.Math.min.name, Cond.static Lib.Math.min.name, Cond.initialized "java/lang/Math", Cond.code Lib.Math.min.name Lib.Math.min.code 2 (some .int), Cond.methodLink RX9 162 Lib.Math.max.name, Cond.static Lib.Math.max.name, Cond.code Lib.Math.max.name Lib.Math.max.code 2 (some .int), Cond.methodLink RX9 103 yX9_isLive, Cond.instanceMethod yX9_isLive, Cond.selects RX9 yX9_isLive yX9_isLive, Cond.code yX9_isLive cX9_isLive 2 (some .boolean), Cond.fieldLink RX9 38 "CryOrderModel" "state" "[I", Cond.fieldLink RX9 47 "CryOrderModel" "isSilenced" "[Z", Cond.fieldLink RX9 51 "CryOrderModel" "isCapped" "[Z", Cond.methodLink RX9 152 yX9_score, Cond.instanceMethod yX9_score, Cond.selects RX9 yX9_score yX9_score, Cond.code yX9_score cX9_score 2 (some .int), Cond.fieldLink RX9 134 "CryOrderModel" "settled" "I", Cond.fieldLink RX9 32 "CryOrderModel" "worth" "[I", Cond.fieldLink RX9 131 "CryOrderModel" "trues" "I", Cond.methodLink RX9 144 yX9_depth]
def wsX9_plan_r3 : List Cond := [Cond.instanceMethod yX9_depth, Cond.selects RX9 yX9_depth yX9_depth, Cond.code yX9_depth cX9_depth 3 (some .int), Cond.fieldLink RX9 29 "CryOrderModel" "marks" "[I", Cond.fieldLink RX9 13 "CryOrderModel" "needs" "I", Cond.methodLink RX9 140 yX9_counts, Cond.instanceMethod yX9_counts, Cond.selects RX9 yX9_counts yX9_counts, Cond.code yX9_counts cX9_counts 5 none, Cond.fieldLink RX9 137 "CryOrderModel" "opens" "I", Cond.methodLink RX9 107 yX9_one, Cond.static yX9_one, Cond.code yX9_one cX9_one 1 (some .int), Cond.methodLink RX9 155 yX9_hangs, Cond.instanceMethod yX9_hangs, Cond.selects RX9 yX9_hangs yX9_hangs, Cond.code yX9_hangs cX9_hangs 4 (some .boolean), Cond.fieldLink RX9 69 "CryOrderModel" "isJoined" "[Z", Cond.fieldLink RX9 26 "CryOrderModel" "thing" "[I", Cond.fieldLink RX9 16 "CryOrderModel" "came" "[I", Cond.methodLink RX9 147 Lib.Math.abs.name, Cond.static Lib.Math.abs.name, Cond.code Lib.Math.abs.name Lib.Math.abs.code 1 (some .int), Cond.methodLink RX9 127 yX9_tieOf]
def wsX9_plan_r4 : List Cond := [Cond.instanceMethod yX9_tieOf, Cond.selects RX9 yX9_tieOf yX9_tieOf, Cond.code yX9_tieOf cX9_tieOf 4 (some .int), Cond.fieldLink RX9 124 "CryOrderModel" "ties" "I", Cond.fieldLink RX9 63 "CryOrderModel" "tieA" "[I", Cond.fieldLink RX9 66 "CryOrderModel" "tieB" "[I", Cond.methodLink RX9 168 yX9_scoreOf, Cond.instanceMethod yX9_scoreOf, Cond.selects RX9 yX9_scoreOf yX9_scoreOf, Cond.code yX9_scoreOf cX9_scoreOf 4 (some .int), Cond.methodLink RX9 180 yX9_isLittleKnown, Cond.instanceMethod yX9_isLittleKnown, Cond.selects RX9 yX9_isLittleKnown yX9_isLittleKnown, Cond.code yX9_isLittleKnown cX9_isLittleKnown 3 (some .boolean), Cond.methodLink RX9 177 yX9_minutesOf, Cond.instanceMethod yX9_minutesOf, Cond.selects RX9 yX9_minutesOf yX9_minutesOf, Cond.code yX9_minutesOf cX9_minutesOf 2 (some .int), Cond.methodLink RX9 171 yX9_sizeOf, Cond.instanceMethod yX9_sizeOf, Cond.selects RX9 yX9_sizeOf yX9_sizeOf, Cond.code yX9_sizeOf cX9_sizeOf 4 (some .int), Cond.methodLink RX9 186 yX9_isTaken, Cond.instanceMethod yX9_isTaken]
def wsX9_plan_r5 : List Cond := [Cond.selects RX9 yX9_isTaken yX9_isTaken, Cond.code yX9_isTaken cX9_isTaken 3 (some .boolean)]
def wsX9_plan : List Cond := .code yX9_plan cX9_plan 3 (some .int) :: ((wsX9_plan_r1 ++ (wsX9_plan_r2 ++ (wsX9_plan_r3 ++ (wsX9_plan_r4 ++ wsX9_plan_r5)))) ++ wsX90)
def wsX9_worth_r1 : List Cond := [Cond.fieldLink RX9 165 "CryOrderModel" "cases" "I", Cond.fieldLink RX9 78 "CryOrderModel" "order" "[I", Cond.methodLink RX9 189 yX9_isPlan, Cond.static yX9_isPlan, Cond.initialized RX9, Cond.code yX9_isPlan cX9_isPlan 1 (some .boolean), Cond.methodLink RX9 96 yX9_isIn, Cond.static yX9_isIn, Cond.code yX9_isIn cX9_isIn 3 (some .boolean), Cond.methodLink RX9 192 yX9_plans, Cond.instanceMethod yX9_plans, Cond.selects RX9 yX9_plans yX9_plans, Cond.code yX9_plans cX9_plans 10 none, Cond.fieldLink RX9 183 "CryOrderModel" "takenMany" "I", Cond.fieldLink RX9 114 "CryOrderModel" "tries" "I", Cond.fieldLink RX9 81 "CryOrderModel" "taken" "[I", Cond.fieldLink RX9 84 "CryOrderModel" "rest" "[I", Cond.fieldLink RX9 87 "CryOrderModel" "restMinutes" "[I", Cond.fieldLink RX9 90 "CryOrderModel" "restScores" "[I", Cond.methodLink RX9 174 yX9_joins, Cond.instanceMethod yX9_joins, Cond.selects RX9 yX9_joins yX9_joins, Cond.code yX9_joins cX9_joins 6 none, Cond.fieldLink RX9 93 "CryOrderModel" "alarms" "I"]
def wsX9_worth_r2 : List Cond := [Cond.fieldLink RX9 72 "CryOrderModel" "caseNumber" "[I", Cond.fieldLink RX9 75 "CryOrderModel" "scores" "[I", Cond.methodLink RX9 159 Lib.Math.min.name, Cond.static Lib.Math.min.name, Cond.initialized "java/lang/Math", Cond.code Lib.Math.min.name Lib.Math.min.code 2 (some .int), Cond.methodLink RX9 162 Lib.Math.max.name, Cond.static Lib.Math.max.name, Cond.code Lib.Math.max.name Lib.Math.max.code 2 (some .int), Cond.methodLink RX9 103 yX9_isLive, Cond.instanceMethod yX9_isLive, Cond.selects RX9 yX9_isLive yX9_isLive, Cond.code yX9_isLive cX9_isLive 2 (some .boolean), Cond.fieldLink RX9 38 "CryOrderModel" "state" "[I", Cond.fieldLink RX9 47 "CryOrderModel" "isSilenced" "[Z", Cond.fieldLink RX9 51 "CryOrderModel" "isCapped" "[Z", Cond.methodLink RX9 152 yX9_score, Cond.instanceMethod yX9_score, Cond.selects RX9 yX9_score yX9_score, Cond.code yX9_score cX9_score 2 (some .int), Cond.fieldLink RX9 134 "CryOrderModel" "settled" "I", Cond.fieldLink RX9 32 "CryOrderModel" "worth" "[I", Cond.fieldLink RX9 131 "CryOrderModel" "trues" "I", Cond.methodLink RX9 144 yX9_depth]
def wsX9_worth_r3 : List Cond := [Cond.instanceMethod yX9_depth, Cond.selects RX9 yX9_depth yX9_depth, Cond.code yX9_depth cX9_depth 3 (some .int), Cond.fieldLink RX9 29 "CryOrderModel" "marks" "[I", Cond.fieldLink RX9 13 "CryOrderModel" "needs" "I", Cond.methodLink RX9 140 yX9_counts, Cond.instanceMethod yX9_counts, Cond.selects RX9 yX9_counts yX9_counts, Cond.code yX9_counts cX9_counts 5 none, Cond.fieldLink RX9 137 "CryOrderModel" "opens" "I", Cond.methodLink RX9 107 yX9_one, Cond.static yX9_one, Cond.code yX9_one cX9_one 1 (some .int), Cond.methodLink RX9 155 yX9_hangs, Cond.instanceMethod yX9_hangs, Cond.selects RX9 yX9_hangs yX9_hangs, Cond.code yX9_hangs cX9_hangs 4 (some .boolean), Cond.fieldLink RX9 69 "CryOrderModel" "isJoined" "[Z", Cond.fieldLink RX9 26 "CryOrderModel" "thing" "[I", Cond.fieldLink RX9 16 "CryOrderModel" "came" "[I", Cond.methodLink RX9 147 Lib.Math.abs.name, Cond.static Lib.Math.abs.name, Cond.code Lib.Math.abs.name Lib.Math.abs.code 1 (some .int), Cond.methodLink RX9 127 yX9_tieOf]
def wsX9_worth_r4 : List Cond := [Cond.instanceMethod yX9_tieOf, Cond.selects RX9 yX9_tieOf yX9_tieOf, Cond.code yX9_tieOf cX9_tieOf 4 (some .int), Cond.fieldLink RX9 124 "CryOrderModel" "ties" "I", Cond.fieldLink RX9 63 "CryOrderModel" "tieA" "[I", Cond.fieldLink RX9 66 "CryOrderModel" "tieB" "[I", Cond.methodLink RX9 168 yX9_scoreOf, Cond.instanceMethod yX9_scoreOf, Cond.selects RX9 yX9_scoreOf yX9_scoreOf, Cond.code yX9_scoreOf cX9_scoreOf 4 (some .int), Cond.methodLink RX9 180 yX9_isLittleKnown, Cond.instanceMethod yX9_isLittleKnown, Cond.selects RX9 yX9_isLittleKnown yX9_isLittleKnown, Cond.code yX9_isLittleKnown cX9_isLittleKnown 3 (some .boolean), Cond.methodLink RX9 177 yX9_minutesOf, Cond.instanceMethod yX9_minutesOf, Cond.selects RX9 yX9_minutesOf yX9_minutesOf, Cond.code yX9_minutesOf cX9_minutesOf 2 (some .int), Cond.methodLink RX9 171 yX9_sizeOf, Cond.instanceMethod yX9_sizeOf, Cond.selects RX9 yX9_sizeOf yX9_sizeOf, Cond.code yX9_sizeOf cX9_sizeOf 4 (some .int), Cond.methodLink RX9 186 yX9_isTaken, Cond.instanceMethod yX9_isTaken]
def wsX9_worth_r5 : List Cond := [Cond.selects RX9 yX9_isTaken yX9_isTaken, Cond.code yX9_isTaken cX9_isTaken 3 (some .boolean)]
def wsX9_worth : List Cond := .code yX9_worth cX9_worth 6 (some .int) :: ((wsX9_worth_r1 ++ (wsX9_worth_r2 ++ (wsX9_worth_r3 ++ (wsX9_worth_r4 ++ wsX9_worth_r5)))) ++ wsX90)
def wsX9_source : List Cond := .code yX9_source cX9_source 6 (some .int) :: ([.fieldLink RX9 93 "CryOrderModel" "alarms" "I", .fieldLink RX9 23 "CryOrderModel" "source" "[I", .fieldLink RX9 47 "CryOrderModel" "isSilenced" "[Z", .fieldLink RX9 51 "CryOrderModel" "isCapped" "[Z", .fieldLink RX9 35 "CryOrderModel" "repeats" "[I", .fieldLink RX9 38 "CryOrderModel" "state" "[I", .methodLink RX9 96 yX9_isIn, .static yX9_isIn, .initialized RX9, .code yX9_isIn cX9_isIn 3 (some .boolean), .methodLink RX9 107 yX9_one, .static yX9_one, .code yX9_one cX9_one 1 (some .int)] ++ wsX90)
def wsX9_count_r1 : List Cond := [Cond.fieldLink RX9 100 "CryOrderModel" "now" "I", Cond.fieldLink RX9 93 "CryOrderModel" "alarms" "I", Cond.fieldLink RX9 38 "CryOrderModel" "state" "[I", Cond.fieldLink RX9 165 "CryOrderModel" "cases" "I", Cond.fieldLink RX9 111 "CryOrderModel" "silences" "I", Cond.fieldLink RX9 124 "CryOrderModel" "ties" "I", Cond.methodLink RX9 107 yX9_one, Cond.static yX9_one, Cond.initialized RX9, Cond.code yX9_one cX9_one 1 (some .int), Cond.methodLink RX9 174 yX9_joins, Cond.instanceMethod yX9_joins, Cond.selects RX9 yX9_joins yX9_joins, Cond.code yX9_joins cX9_joins 6 none, Cond.fieldLink RX9 72 "CryOrderModel" "caseNumber" "[I", Cond.fieldLink RX9 75 "CryOrderModel" "scores" "[I", Cond.methodLink RX9 159 Lib.Math.min.name, Cond.static Lib.Math.min.name, Cond.initialized "java/lang/Math", Cond.code Lib.Math.min.name Lib.Math.min.code 2 (some .int), Cond.methodLink RX9 162 Lib.Math.max.name, Cond.static Lib.Math.max.name, Cond.code Lib.Math.max.name Lib.Math.max.code 2 (some .int), Cond.fieldLink RX9 78 "CryOrderModel" "order" "[I"]
def wsX9_count_r2 : List Cond := [Cond.methodLink RX9 103 yX9_isLive, Cond.instanceMethod yX9_isLive, Cond.selects RX9 yX9_isLive yX9_isLive, Cond.code yX9_isLive cX9_isLive 2 (some .boolean), Cond.fieldLink RX9 47 "CryOrderModel" "isSilenced" "[Z", Cond.fieldLink RX9 51 "CryOrderModel" "isCapped" "[Z", Cond.methodLink RX9 152 yX9_score, Cond.instanceMethod yX9_score, Cond.selects RX9 yX9_score yX9_score, Cond.code yX9_score cX9_score 2 (some .int), Cond.fieldLink RX9 134 "CryOrderModel" "settled" "I", Cond.fieldLink RX9 32 "CryOrderModel" "worth" "[I", Cond.fieldLink RX9 131 "CryOrderModel" "trues" "I", Cond.methodLink RX9 144 yX9_depth, Cond.instanceMethod yX9_depth, Cond.selects RX9 yX9_depth yX9_depth, Cond.code yX9_depth cX9_depth 3 (some .int), Cond.fieldLink RX9 29 "CryOrderModel" "marks" "[I", Cond.fieldLink RX9 13 "CryOrderModel" "needs" "I", Cond.methodLink RX9 140 yX9_counts, Cond.instanceMethod yX9_counts, Cond.selects RX9 yX9_counts yX9_counts, Cond.code yX9_counts cX9_counts 5 none, Cond.fieldLink RX9 137 "CryOrderModel" "opens" "I"]
def wsX9_count_r3 : List Cond := [Cond.methodLink RX9 155 yX9_hangs, Cond.instanceMethod yX9_hangs, Cond.selects RX9 yX9_hangs yX9_hangs, Cond.code yX9_hangs cX9_hangs 4 (some .boolean), Cond.fieldLink RX9 69 "CryOrderModel" "isJoined" "[Z", Cond.fieldLink RX9 26 "CryOrderModel" "thing" "[I", Cond.fieldLink RX9 16 "CryOrderModel" "came" "[I", Cond.methodLink RX9 147 Lib.Math.abs.name, Cond.static Lib.Math.abs.name, Cond.code Lib.Math.abs.name Lib.Math.abs.code 1 (some .int), Cond.methodLink RX9 127 yX9_tieOf, Cond.instanceMethod yX9_tieOf, Cond.selects RX9 yX9_tieOf yX9_tieOf, Cond.code yX9_tieOf cX9_tieOf 4 (some .int), Cond.fieldLink RX9 63 "CryOrderModel" "tieA" "[I", Cond.fieldLink RX9 66 "CryOrderModel" "tieB" "[I", Cond.methodLink RX9 168 yX9_scoreOf, Cond.instanceMethod yX9_scoreOf, Cond.selects RX9 yX9_scoreOf yX9_scoreOf, Cond.code yX9_scoreOf cX9_scoreOf 4 (some .int)]
def wsX9_count : List Cond := .code yX9_count cX9_count 4 (some .int) :: ((wsX9_count_r1 ++ (wsX9_count_r2 ++ wsX9_count_r3)) ++ wsX90)
def wsJ9_abs_0f7a4 : List Cond := .code yJ9_abs_0f7a4 cJ9_abs_0f7a4 1 (some .int) :: ([])
def wsJ9_max_7cf53 : List Cond := .code yJ9_max_7cf53 cJ9_max_7cf53 2 (some .int) :: ([])
def wsJ9_min_7cf53 : List Cond := .code yJ9_min_7cf53 cJ9_min_7cf53 2 (some .int) :: ([])
def wsL_law_r1 : List Cond := [Cond.classLink RL 7 RX8, Cond.instantiable RX8 14, Cond.initialized RX8, Cond.classLink RL 10 RX9, Cond.instantiable RX9 37, Cond.initialized RX9, Cond.methodLink RL 9 yX8_init, Cond.instanceMethod yX8_init, Cond.code yX8_init cX8_init 1 none, Cond.methodLink RX8 1 objectInit, Cond.instanceMethod objectInit, Cond.code objectInit ⟨#[0xb1]⟩ 1 none, Cond.classLink RX8 9 RX0, Cond.fieldLink RX8 11 "CryOrder" "alarms" "[LCryOrder$Alarm;", Cond.fieldLink RX8 15 "CryOrder" "latestOfThing" "[LCryOrder$Alarm;", Cond.classLink RX8 18 RX6, Cond.fieldLink RX8 20 "CryOrder" "silences" "[LCryOrder$Silence;", Cond.classLink RX8 24 RX3, Cond.instantiable RX3 8, Cond.initialized RX3, Cond.fieldLink RX8 29 "CryOrder" "root" "LCryOrder$Node;", Cond.classLink RX8 33 RX7, Cond.instantiable RX7 2, Cond.initialized RX7]
def wsL_law_r2 : List Cond := [Cond.fieldLink RX8 36 "CryOrder" "ties" "LCryOrder$Ties;", Cond.classLink RX8 40 RX2, Cond.instantiable RX2 2, Cond.initialized RX2, Cond.fieldLink RX8 43 "CryOrder" "cases" "LCryOrder$Cases;", Cond.classLink RX8 47 RX5, Cond.instantiable RX5 8, Cond.initialized RX5, Cond.fieldLink RX8 50 "CryOrder" "planner" "LCryOrder$Plan;", Cond.fieldLink RX8 54 "CryOrder" "cap" "I", Cond.fieldLink RX8 58 "CryOrder" "leastSettled" "I", Cond.methodLink RX8 26 yX3_init, Cond.instanceMethod yX3_init, Cond.code yX3_init cX3_init 4 none, Cond.methodLink RX3 3 objectInit, Cond.fieldLink RX3 9 "CryOrder$Node" "parent" "LCryOrder$Node;", Cond.fieldLink RX3 15 "CryOrder$Node" "depth" "I", Cond.fieldLink RX3 19 "CryOrder$Node" "mark" "I", Cond.fieldLink RX3 22 "CryOrder$Node" "sibling" "LCryOrder$Node;", Cond.instanceMethod yX7_init, Cond.code yX7_init cX7_init 1 none, Cond.methodLink RX7 3 objectInit, Cond.classLink RX7 9 RX4, Cond.fieldLink RX7 11 "CryOrder$Ties" "pairs" "[LCryOrder$Pair;"]
def wsL_law_r3 : List Cond := [Cond.instanceMethod yX2_init, Cond.code yX2_init cX2_init 1 none, Cond.methodLink RX2 3 objectInit, Cond.classLink RX2 9 RX1, Cond.fieldLink RX2 11 "CryOrder$Cases" "ordered" "[LCryOrder$Case;", Cond.instanceMethod yX5_init, Cond.code yX5_init cX5_init 1 none, Cond.methodLink RX5 3 objectInit, Cond.classLink RX5 9 RX1, Cond.fieldLink RX5 11 "CryOrder$Plan" "taken" "[LCryOrder$Case;", Cond.fieldLink RX5 17 "CryOrder$Plan" "pool" "[LCryOrder$Case;", Cond.arrayClass .int, Cond.fieldLink RX5 20 "CryOrder$Plan" "best" "[I", Cond.fieldLink RX5 24 "CryOrder$Plan" "needed" "[I", Cond.methodLink RL 12 yX9_init, Cond.instanceMethod yX9_init, Cond.code yX9_init cX9_init 1 none, Cond.methodLink RX9 1 objectInit, Cond.fieldLink RX9 7 "CryOrderModel" "cap" "I", Cond.fieldLink RX9 13 "CryOrderModel" "needs" "I", Cond.fieldLink RX9 16 "CryOrderModel" "came" "[I", Cond.fieldLink RX9 20 "CryOrderModel" "last" "[I", Cond.fieldLink RX9 23 "CryOrderModel" "source" "[I", Cond.fieldLink RX9 26 "CryOrderModel" "thing" "[I"]
def wsL_law_r4 : List Cond := [Cond.fieldLink RX9 29 "CryOrderModel" "marks" "[I", Cond.fieldLink RX9 32 "CryOrderModel" "worth" "[I", Cond.fieldLink RX9 35 "CryOrderModel" "repeats" "[I", Cond.fieldLink RX9 38 "CryOrderModel" "state" "[I", Cond.fieldLink RX9 41 "CryOrderModel" "saidTrue" "[I", Cond.fieldLink RX9 44 "CryOrderModel" "saidFalse" "[I", Cond.arrayClass .boolean, Cond.fieldLink RX9 47 "CryOrderModel" "isSilenced" "[Z", Cond.fieldLink RX9 51 "CryOrderModel" "isCapped" "[Z", Cond.fieldLink RX9 54 "CryOrderModel" "silenced" "[I", Cond.fieldLink RX9 57 "CryOrderModel" "from" "[I", Cond.fieldLink RX9 60 "CryOrderModel" "to" "[I", Cond.fieldLink RX9 63 "CryOrderModel" "tieA" "[I", Cond.fieldLink RX9 66 "CryOrderModel" "tieB" "[I", Cond.fieldLink RX9 69 "CryOrderModel" "isJoined" "[Z", Cond.fieldLink RX9 72 "CryOrderModel" "caseNumber" "[I", Cond.fieldLink RX9 75 "CryOrderModel" "scores" "[I", Cond.fieldLink RX9 78 "CryOrderModel" "order" "[I", Cond.fieldLink RX9 81 "CryOrderModel" "taken" "[I", Cond.fieldLink RX9 84 "CryOrderModel" "rest" "[I", Cond.fieldLink RX9 87 "CryOrderModel" "restMinutes" "[I", Cond.fieldLink RX9 90 "CryOrderModel" "restScores" "[I", Cond.methodLink RL 13 yX8_pass, Cond.instanceMethod yX8_pass]
def wsL_law_r5 : List Cond := [Cond.selects RX8 yX8_pass yX8_pass, Cond.code yX8_pass cX8_pass 2 (some .int), Cond.fieldLink RX8 61 "CryOrder" "now" "I", Cond.methodLink RL 17 yX9_pass, Cond.instanceMethod yX9_pass, Cond.selects RX9 yX9_pass yX9_pass, Cond.code yX9_pass cX9_pass 2 (some .int), Cond.fieldLink RX9 100 "CryOrderModel" "now" "I", Cond.methodLink RX9 96 yX9_isIn, Cond.static yX9_isIn, Cond.code yX9_isIn cX9_isIn 3 (some .boolean), Cond.methodLink RL 18 yX8_alarm, Cond.instanceMethod yX8_alarm, Cond.selects RX8 yX8_alarm yX8_alarm, Cond.code yX8_alarm cX8_alarm 7 (some .int), Cond.fieldLink RX8 76 "CryOrder$Alarm" "number" "I", Cond.fieldLink RX8 79 "CryOrder" "alarmCount" "I", Cond.instantiable RX0 17, Cond.initialized RX0, Cond.fieldLink RX8 93 "CryOrder$Alarm" "silenced" "Z", Cond.fieldLink RX8 100 "CryOrder$Alarm" "capped" "Z", Cond.fieldLink RX8 103 "CryOrder$Alarm" "leaf" "LCryOrder$Node;", Cond.fieldLink RX8 109 "CryOrder$Alarm" "soonerOfThing" "LCryOrder$Alarm;", Cond.fieldLink RX8 113 "CryOrder" "casesAreStale" "Z"]
def wsL_law_r6 : List Cond := [Cond.methodLink RX8 64 yX8_isBelow, Cond.static yX8_isBelow, Cond.code yX8_isBelow cX8_isBelow 2 (some .boolean), Cond.methodLink RX8 68 yX8_alarmToRepeat, Cond.instanceMethod yX8_alarmToRepeat, Cond.selects RX8 yX8_alarmToRepeat yX8_alarmToRepeat, Cond.code yX8_alarmToRepeat cX8_alarmToRepeat 6 (some (.object "CryOrder$Alarm")), Cond.fieldLink RX8 151 "CryOrder$Alarm" "source" "I", Cond.fieldLink RX8 154 "CryOrder$Alarm" "thing" "I", Cond.fieldLink RX8 157 "CryOrder$Alarm" "marks" "I", Cond.fieldLink RX8 276 "CryOrder$Alarm" "heardLast" "I", Cond.methodLink RX8 225 yX0_isLive, Cond.instanceMethod yX0_isLive, Cond.selects RX0 yX0_isLive yX0_isLive, Cond.code yX0_isLive cX0_isLive 1 (some .boolean), Cond.methodLink RX0 56 yX0_isOpen, Cond.instanceMethod yX0_isOpen, Cond.selects RX0 yX0_isOpen yX0_isOpen, Cond.code yX0_isOpen cX0_isOpen 1 (some .boolean), Cond.fieldLink RX0 9 "CryOrder$Alarm" "state" "I", Cond.methodLink RX0 60 yX0_isHushed, Cond.instanceMethod yX0_isHushed, Cond.selects RX0 yX0_isHushed yX0_isHushed, Cond.code yX0_isHushed cX0_isHushed 1 (some .boolean)]
def wsL_law_r7 : List Cond := [Cond.fieldLink RX0 49 "CryOrder$Alarm" "silenced" "Z", Cond.fieldLink RX0 53 "CryOrder$Alarm" "capped" "Z", Cond.methodLink RX8 72 yX0_repeat, Cond.instanceMethod yX0_repeat, Cond.selects RX0 yX0_repeat yX0_repeat, Cond.code yX0_repeat cX0_repeat 2 none, Cond.fieldLink RX0 63 "CryOrder$Alarm" "repeats" "I", Cond.fieldLink RX0 46 "CryOrder$Alarm" "heardLast" "I", Cond.methodLink RX8 82 yX3_grow, Cond.instanceMethod yX3_grow, Cond.selects RX3 yX3_grow yX3_grow, Cond.code yX3_grow cX3_grow 6 (some (.object "CryOrder$Node")), Cond.classLink RX3 10 RX3, Cond.fieldLink RX3 25 "CryOrder$Node" "firstChild" "LCryOrder$Node;", Cond.methodLink RX3 28 yX3_markAt, Cond.static yX3_markAt, Cond.code yX3_markAt cX3_markAt 2 (some .int), Cond.methodLink RX3 32 yX3_child, Cond.instanceMethod yX3_child, Cond.selects RX3 yX3_child yX3_child, Cond.code yX3_child cX3_child 3 (some (.object "CryOrder$Node")), Cond.methodLink RX3 36 yX3_init, Cond.methodLink RX8 86 yX0_init, Cond.instanceMethod yX0_init]
def wsL_law_r8 : List Cond := [Cond.code yX0_init cX0_init 8 none, Cond.methodLink RX0 3 objectInit, Cond.fieldLink RX0 15 "CryOrder$Alarm" "number" "I", Cond.fieldLink RX0 18 "CryOrder$Alarm" "came" "I", Cond.fieldLink RX0 21 "CryOrder$Alarm" "source" "I", Cond.fieldLink RX0 24 "CryOrder$Alarm" "thing" "I", Cond.fieldLink RX0 27 "CryOrder$Alarm" "marks" "I", Cond.fieldLink RX0 30 "CryOrder$Alarm" "worth" "I", Cond.fieldLink RX0 33 "CryOrder$Alarm" "leaf" "LCryOrder$Node;", Cond.classLink RX0 37 RX1, Cond.instantiable RX1 4, Cond.initialized RX1, Cond.fieldLink RX0 42 "CryOrder$Alarm" "led" "LCryOrder$Case;", Cond.methodLink RX0 39 yX1_init, Cond.instanceMethod yX1_init, Cond.code yX1_init cX1_init 2 none, Cond.methodLink RX1 1 objectInit, Cond.fieldLink RX1 7 "CryOrder$Case" "number" "I", Cond.methodLink RX8 89 yX8_isSilencedNow, Cond.instanceMethod yX8_isSilencedNow, Cond.selects RX8 yX8_isSilencedNow yX8_isSilencedNow, Cond.code yX8_isSilencedNow cX8_isSilencedNow 3 (some .boolean), Cond.fieldLink RX8 116 "CryOrder" "silenceCount" "I", Cond.methodLink RX8 279 yX6_covers]
def wsL_law_r9 : List Cond := [Cond.instanceMethod yX6_covers, Cond.selects RX6 yX6_covers yX6_covers, Cond.initialized RX6, Cond.code yX6_covers cX6_covers 3 (some .boolean), Cond.fieldLink RX6 7 "CryOrder$Silence" "source" "I", Cond.fieldLink RX6 13 "CryOrder$Silence" "from" "I", Cond.fieldLink RX6 16 "CryOrder$Silence" "to" "I", Cond.methodLink RX8 97 yX8_isCapFullNow, Cond.instanceMethod yX8_isCapFullNow, Cond.selects RX8 yX8_isCapFullNow yX8_isCapFullNow, Cond.code yX8_isCapFullNow cX8_isCapFullNow 4 (some .boolean), Cond.fieldLink RX8 148 "CryOrder$Alarm" "came" "I", Cond.methodLink RX8 273 yX0_isHushed, Cond.methodLink RX8 106 yX3_addOpen, Cond.instanceMethod yX3_addOpen, Cond.selects RX3 yX3_addOpen yX3_addOpen, Cond.code yX3_addOpen cX3_addOpen 2 none, Cond.fieldLink RX3 39 "CryOrder$Node" "open" "I", Cond.methodLink RL 22 yX9_alarm, Cond.instanceMethod yX9_alarm, Cond.selects RX9 yX9_alarm yX9_alarm, Cond.code yX9_alarm cX9_alarm 8 (some .int), Cond.fieldLink RX9 93 "CryOrderModel" "alarms" "I", Cond.fieldLink RX9 111 "CryOrderModel" "silences" "I"]
def wsL_law_r10 : List Cond := [Cond.methodLink RX9 103 yX9_isLive, Cond.instanceMethod yX9_isLive, Cond.selects RX9 yX9_isLive yX9_isLive, Cond.code yX9_isLive cX9_isLive 2 (some .boolean), Cond.methodLink RX9 107 yX9_one, Cond.static yX9_one, Cond.code yX9_one cX9_one 1 (some .int), Cond.methodLink RL 23 yX8_silence, Cond.instanceMethod yX8_silence, Cond.selects RX8 yX8_silence yX8_silence, Cond.code yX8_silence cX8_silence 4 (some .int), Cond.instantiable RX6 3, Cond.methodLink RX8 119 yX6_init, Cond.instanceMethod yX6_init, Cond.code yX6_init cX6_init 4 none, Cond.methodLink RX6 1 objectInit, Cond.methodLink RL 27 yX9_silence, Cond.instanceMethod yX9_silence, Cond.selects RX9 yX9_silence yX9_silence, Cond.code yX9_silence cX9_silence 4 (some .int), Cond.methodLink RL 28 yX8_set, Cond.instanceMethod yX8_set, Cond.selects RX8 yX8_set yX8_set, Cond.code yX8_set cX8_set 3 (some .boolean)]
def wsL_law_r11 : List Cond := [Cond.fieldLink RX8 122 "CryOrder" "tries" "I", Cond.methodLink RL 32 yX9_set, Cond.instanceMethod yX9_set, Cond.selects RX9 yX9_set yX9_set, Cond.code yX9_set cX9_set 3 (some .boolean), Cond.fieldLink RX9 114 "CryOrderModel" "tries" "I", Cond.methodLink RL 33 yX8_verdict, Cond.instanceMethod yX8_verdict, Cond.selects RX8 yX8_verdict yX8_verdict, Cond.code yX8_verdict cX8_verdict 5 (some .int), Cond.methodLink RX8 125 yX8_alarmAt, Cond.instanceMethod yX8_alarmAt, Cond.selects RX8 yX8_alarmAt yX8_alarmAt, Cond.code yX8_alarmAt cX8_alarmAt 2 (some (.object "CryOrder$Alarm")), Cond.methodLink RX8 129 yX0_isOpen, Cond.methodLink RX8 133 yX0_hasHeard, Cond.instanceMethod yX0_hasHeard, Cond.selects RX0 yX0_hasHeard yX0_hasHeard, Cond.code yX0_hasHeard cX0_hasHeard 2 (some .boolean), Cond.fieldLink RX0 66 "CryOrder$Alarm" "lookersForTrue" "I", Cond.fieldLink RX0 69 "CryOrder$Alarm" "lookersForFalse" "I", Cond.methodLink RX8 136 yX0_hear, Cond.instanceMethod yX0_hear, Cond.selects RX0 yX0_hear yX0_hear]
def wsL_law_r12 : List Cond := [Cond.code yX0_hear cX0_hear 3 none, Cond.methodLink RX0 72 yJ6_bitCount_0f7a4, Cond.static yJ6_bitCount_0f7a4, Cond.initialized RJ6, Cond.code yJ6_bitCount_0f7a4 cJ6_bitCount_0f7a4 1 (some .int), Cond.constant RJ6 265 (1431655765), Cond.constant RJ6 266 (858993459), Cond.constant RJ6 267 (252645135), Cond.methodLink RX8 140 yX3_settle, Cond.instanceMethod yX3_settle, Cond.selects RX3 yX3_settle yX3_settle, Cond.code yX3_settle cX3_settle 3 none, Cond.fieldLink RX3 42 "CryOrder$Node" "settled" "I", Cond.fieldLink RX3 45 "CryOrder$Node" "settledTrue" "I", Cond.static yX8_oneIf, Cond.code yX8_oneIf cX8_oneIf 1 (some .int), Cond.methodLink RL 37 yX9_verdict, Cond.instanceMethod yX9_verdict, Cond.selects RX9 yX9_verdict yX9_verdict, Cond.code yX9_verdict cX9_verdict 4 (some .int), Cond.methodLink RX9 117 yX9_isAlarm, Cond.instanceMethod yX9_isAlarm, Cond.selects RX9 yX9_isAlarm yX9_isAlarm, Cond.code yX9_isAlarm cX9_isAlarm 2 (some .boolean)]
def wsL_law_r13 : List Cond := [Cond.methodLink RX9 120 yX9_many, Cond.static yX9_many, Cond.code yX9_many cX9_many 3 (some .int), Cond.methodLink RL 38 yX8_tie, Cond.instanceMethod yX8_tie, Cond.selects RX8 yX8_tie yX8_tie, Cond.code yX8_tie cX8_tie 4 (some .boolean), Cond.methodLink RX8 144 yX7_tell, Cond.instanceMethod yX7_tell, Cond.selects RX7 yX7_tell yX7_tell, Cond.code yX7_tell cX7_tell 6 (some .boolean), Cond.fieldLink RX7 40 "CryOrder$Pair" "joined" "Z", Cond.fieldLink RX7 26 "CryOrder$Ties" "size" "I", Cond.instantiable RX4 3, Cond.initialized RX4, Cond.methodLink RX7 17 Lib.Math.min.name, Cond.static Lib.Math.min.name, Cond.initialized "java/lang/Math", Cond.code Lib.Math.min.name Lib.Math.min.code 2 (some .int), Cond.methodLink RX7 23 Lib.Math.max.name, Cond.static Lib.Math.max.name, Cond.code Lib.Math.max.name Lib.Math.max.code 2 (some .int), Cond.methodLink RX7 36 yX7_find, Cond.instanceMethod yX7_find]
def wsL_law_r14 : List Cond := [Cond.selects RX7 yX7_find yX7_find, Cond.code yX7_find cX7_find 6 (some (.object "CryOrder$Pair")), Cond.fieldLink RX7 30 "CryOrder$Pair" "lesser" "I", Cond.fieldLink RX7 33 "CryOrder$Pair" "greater" "I", Cond.methodLink RX7 44 yX4_init, Cond.instanceMethod yX4_init, Cond.code yX4_init cX4_init 4 none, Cond.methodLink RX4 1 objectInit, Cond.fieldLink RX4 7 "CryOrder$Pair" "lesser" "I", Cond.fieldLink RX4 13 "CryOrder$Pair" "greater" "I", Cond.fieldLink RX4 16 "CryOrder$Pair" "joined" "Z", Cond.methodLink RL 42 yX9_tie, Cond.instanceMethod yX9_tie, Cond.selects RX9 yX9_tie yX9_tie, Cond.code yX9_tie cX9_tie 5 (some .boolean), Cond.fieldLink RX9 124 "CryOrderModel" "ties" "I", Cond.methodLink RX9 127 yX9_tieOf, Cond.instanceMethod yX9_tieOf, Cond.selects RX9 yX9_tieOf yX9_tieOf, Cond.code yX9_tieOf cX9_tieOf 4 (some .int), Cond.methodLink RL 43 yX8_told, Cond.instanceMethod yX8_told, Cond.selects RX8 yX8_told yX8_told, Cond.code yX8_told cX8_told 4 (some .int)]
def wsL_law_r15 : List Cond := [Cond.fieldLink RX8 160 "CryOrder$Alarm" "worth" "I", Cond.fieldLink RX8 163 "CryOrder$Alarm" "repeats" "I", Cond.fieldLink RX8 166 "CryOrder$Alarm" "state" "I", Cond.fieldLink RX8 180 "CryOrder$Node" "depth" "I", Cond.methodLink RX8 169 yX8_oneIf, Cond.methodLink RX8 173 yX0_score, Cond.instanceMethod yX0_score, Cond.selects RX0 yX0_score yX0_score, Cond.code yX0_score cX0_score 4 (some .int), Cond.methodLink RX0 86 yX0_nodeFor, Cond.instanceMethod yX0_nodeFor, Cond.selects RX0 yX0_nodeFor yX0_nodeFor, Cond.code yX0_nodeFor cX0_nodeFor 3 (some (.object "CryOrder$Node")), Cond.fieldLink RX0 78 "CryOrder$Node" "settled" "I", Cond.fieldLink RX0 83 "CryOrder$Node" "parent" "LCryOrder$Node;", Cond.methodLink RX0 90 yX3_oddsLower, Cond.instanceMethod yX3_oddsLower, Cond.selects RX3 yX3_oddsLower yX3_oddsLower, Cond.code yX3_oddsLower cX3_oddsLower 1 (some .int), Cond.methodLink RX0 94 yX3_oddsUpper, Cond.instanceMethod yX3_oddsUpper, Cond.selects RX3 yX3_oddsUpper yX3_oddsUpper, Cond.code yX3_oddsUpper cX3_oddsUpper 1 (some .int), Cond.methodLink RX8 177 yX0_nodeFor]
def wsL_law_r16 : List Cond := [Cond.methodLink RX8 183 yX0_verdicts, Cond.instanceMethod yX0_verdicts, Cond.selects RX0 yX0_verdicts yX0_verdicts, Cond.code yX0_verdicts cX0_verdicts 1 (some .int), Cond.methodLink RX8 187 yX8_caseNumberOf, Cond.instanceMethod yX8_caseNumberOf, Cond.selects RX8 yX8_caseNumberOf yX8_caseNumberOf, Cond.code yX8_caseNumberOf cX8_caseNumberOf 2 (some .int), Cond.methodLink RX8 214 yX8_casesNow, Cond.instanceMethod yX8_casesNow, Cond.selects RX8 yX8_casesNow yX8_casesNow, Cond.code yX8_casesNow cX8_casesNow 1 (some (.object "CryOrder$Cases")), Cond.methodLink RX8 282 yX2_gather, Cond.instanceMethod yX2_gather, Cond.selects RX2 yX2_gather yX2_gather, Cond.code yX2_gather cX2_gather 6 none, Cond.fieldLink RX2 17 "CryOrder$Alarm" "above" "LCryOrder$Alarm;", Cond.fieldLink RX2 23 "CryOrder$Alarm" "led" "LCryOrder$Case;", Cond.methodLink RX2 27 yX1_clear, Cond.instanceMethod yX1_clear, Cond.selects RX1 yX1_clear yX1_clear, Cond.code yX1_clear cX1_clear 1 none, Cond.fieldLink RX1 13 "CryOrder$Case" "size" "I", Cond.fieldLink RX1 16 "CryOrder$Case" "score" "I"]
def wsL_law_r17 : List Cond := [Cond.fieldLink RX1 19 "CryOrder$Case" "littleKnown" "Z", Cond.methodLink RX2 30 yX0_isLive, Cond.methodLink RX2 34 yX2_joinWithSoonerOnes, Cond.static yX2_joinWithSoonerOnes, Cond.code yX2_joinWithSoonerOnes cX2_joinWithSoonerOnes 3 none, Cond.fieldLink RX2 61 "CryOrder$Alarm" "soonerOfThing" "LCryOrder$Alarm;", Cond.fieldLink RX2 64 "CryOrder$Alarm" "came" "I", Cond.fieldLink RX2 71 "CryOrder$Alarm" "number" "I", Cond.methodLink RX2 67 yX0_head, Cond.instanceMethod yX0_head, Cond.selects RX0 yX0_head yX0_head, Cond.code yX0_head cX0_head 2 (some (.object "CryOrder$Alarm")), Cond.fieldLink RX0 97 "CryOrder$Alarm" "above" "LCryOrder$Alarm;", Cond.methodLink RX2 74 yX7_isParted, Cond.instanceMethod yX7_isParted, Cond.selects RX7 yX7_isParted yX7_isParted, Cond.code yX7_isParted cX7_isParted 4 (some .boolean), Cond.methodLink RX2 79 yX0_joinCaseOf, Cond.instanceMethod yX0_joinCaseOf, Cond.selects RX0 yX0_joinCaseOf yX0_joinCaseOf, Cond.code yX0_joinCaseOf cX0_joinCaseOf 4 none, Cond.methodLink RX0 101 yX0_head, Cond.methodLink RX2 38 yX2_joinToldOnes, Cond.static yX2_joinToldOnes]
def wsL_law_r18 : List Cond := [Cond.code yX2_joinToldOnes cX2_joinToldOnes 5 none, Cond.fieldLink RX2 83 "CryOrder$Ties" "size" "I", Cond.fieldLink RX2 84 "CryOrder$Ties" "pairs" "[LCryOrder$Pair;", Cond.fieldLink RX2 88 "CryOrder$Pair" "joined" "Z", Cond.fieldLink RX2 94 "CryOrder$Pair" "lesser" "I", Cond.fieldLink RX2 97 "CryOrder$Pair" "greater" "I", Cond.methodLink RX2 42 yX2_fillCases, Cond.static yX2_fillCases, Cond.code yX2_fillCases cX2_fillCases 5 none, Cond.fieldLink RX2 107 "CryOrder$Node" "depth" "I", Cond.methodLink RX2 100 yX0_score, Cond.methodLink RX2 103 yX0_nodeFor, Cond.methodLink RX2 112 yX1_add, Cond.instanceMethod yX1_add, Cond.selects RX1 yX1_add yX1_add, Cond.code yX1_add cX1_add 3 none, Cond.methodLink RX1 23 Lib.Math.max.name, Cond.methodLink RX2 46 yX2_putInOrder, Cond.instanceMethod yX2_putInOrder, Cond.selects RX2 yX2_putInOrder yX2_putInOrder, Cond.code yX2_putInOrder cX2_putInOrder 4 none, Cond.fieldLink RX2 50 "CryOrder$Cases" "size" "I", Cond.fieldLink RX2 116 "CryOrder$Case" "size" "I", Cond.methodLink RX2 117 yX2_putInPlace]
def wsL_law_r19 : List Cond := [Cond.instanceMethod yX2_putInPlace, Cond.selects RX2 yX2_putInPlace yX2_putInPlace, Cond.code yX2_putInPlace cX2_putInPlace 3 none, Cond.methodLink RX2 121 yX1_isAheadOf, Cond.instanceMethod yX1_isAheadOf, Cond.selects RX1 yX1_isAheadOf yX1_isAheadOf, Cond.code yX1_isAheadOf cX1_isAheadOf 2 (some .boolean), Cond.methodLink RX8 286 yX0_head, Cond.methodLink RL 47 yX9_told, Cond.instanceMethod yX9_told, Cond.selects RX9 yX9_told yX9_told, Cond.code yX9_told cX9_told 3 (some .int), Cond.methodLink RX9 152 yX9_score, Cond.instanceMethod yX9_score, Cond.selects RX9 yX9_score yX9_score, Cond.code yX9_score cX9_score 2 (some .int), Cond.fieldLink RX9 134 "CryOrderModel" "settled" "I", Cond.fieldLink RX9 131 "CryOrderModel" "trues" "I", Cond.methodLink RX9 144 yX9_depth, Cond.instanceMethod yX9_depth, Cond.selects RX9 yX9_depth yX9_depth, Cond.code yX9_depth cX9_depth 3 (some .int), Cond.methodLink RX9 140 yX9_counts, Cond.instanceMethod yX9_counts]
def wsL_law_r20 : List Cond := [Cond.selects RX9 yX9_counts yX9_counts, Cond.code yX9_counts cX9_counts 5 none, Cond.fieldLink RX9 137 "CryOrderModel" "opens" "I", Cond.methodLink RX9 174 yX9_joins, Cond.instanceMethod yX9_joins, Cond.selects RX9 yX9_joins yX9_joins, Cond.code yX9_joins cX9_joins 6 none, Cond.methodLink RX9 159 Lib.Math.min.name, Cond.methodLink RX9 162 Lib.Math.max.name, Cond.fieldLink RX9 165 "CryOrderModel" "cases" "I", Cond.methodLink RX9 155 yX9_hangs, Cond.instanceMethod yX9_hangs, Cond.selects RX9 yX9_hangs yX9_hangs, Cond.code yX9_hangs cX9_hangs 4 (some .boolean), Cond.methodLink RX9 147 Lib.Math.abs.name, Cond.static Lib.Math.abs.name, Cond.code Lib.Math.abs.name Lib.Math.abs.code 1 (some .int), Cond.methodLink RX9 168 yX9_scoreOf, Cond.instanceMethod yX9_scoreOf, Cond.selects RX9 yX9_scoreOf yX9_scoreOf, Cond.code yX9_scoreOf cX9_scoreOf 4 (some .int), Cond.methodLink RL 48 yX8_node, Cond.instanceMethod yX8_node, Cond.selects RX8 yX8_node yX8_node]
def wsL_law_r21 : List Cond := [Cond.code yX8_node cX8_node 5 (some .int), Cond.fieldLink RX8 195 "CryOrder$Node" "settledTrue" "I", Cond.fieldLink RX8 198 "CryOrder$Node" "settled" "I", Cond.fieldLink RX8 201 "CryOrder$Node" "open" "I", Cond.methodLink RX8 191 yX3_find, Cond.instanceMethod yX3_find, Cond.selects RX3 yX3_find yX3_find, Cond.code yX3_find cX3_find 5 (some (.object "CryOrder$Node")), Cond.methodLink RL 51 yX9_node, Cond.instanceMethod yX9_node, Cond.selects RX9 yX9_node yX9_node, Cond.code yX9_node cX9_node 4 (some .int), Cond.methodLink RL 52 yX8_odds, Cond.instanceMethod yX8_odds, Cond.selects RX8 yX8_odds yX8_odds, Cond.code yX8_odds cX8_odds 7 (some .int), Cond.methodLink RX8 204 yX3_oddsUpper, Cond.methodLink RX8 207 yX3_oddsLower, Cond.methodLink RX8 210 yX8_inLowestTerms, Cond.static yX8_inLowestTerms, Cond.code yX8_inLowestTerms cX8_inLowestTerms 7 (some .int), Cond.methodLink RL 55 yX9_odds, Cond.instanceMethod yX9_odds, Cond.selects RX9 yX9_odds yX9_odds]
def wsL_law_r22 : List Cond := [Cond.code yX9_odds cX9_odds 8 (some .int), Cond.methodLink RL 56 yX8_order, Cond.instanceMethod yX8_order, Cond.selects RX8 yX8_order yX8_order, Cond.code yX8_order cX8_order 3 (some .int), Cond.fieldLink RX8 222 "CryOrder$Case" "number" "I", Cond.methodLink RX8 218 yX2_at, Cond.instanceMethod yX2_at, Cond.selects RX2 yX2_at yX2_at, Cond.code yX2_at cX2_at 2 (some (.object "CryOrder$Case")), Cond.methodLink RL 59 yX9_order, Cond.instanceMethod yX9_order, Cond.selects RX9 yX9_order yX9_order, Cond.code yX9_order cX9_order 2 (some .int), Cond.methodLink RL 60 yX8_caseOf, Cond.instanceMethod yX8_caseOf, Cond.selects RX8 yX8_caseOf yX8_caseOf, Cond.code yX8_caseOf cX8_caseOf 4 (some .int), Cond.fieldLink RX8 228 "CryOrder$Alarm" "above" "LCryOrder$Alarm;", Cond.fieldLink RX8 231 "CryOrder$Alarm" "led" "LCryOrder$Case;", Cond.fieldLink RX8 235 "CryOrder$Case" "size" "I", Cond.fieldLink RX8 238 "CryOrder$Case" "score" "I", Cond.fieldLink RX8 243 "CryOrder$Case" "littleKnown" "Z", Cond.methodLink RX8 240 yX1_minutes]
def wsL_law_r23 : List Cond := [Cond.instanceMethod yX1_minutes, Cond.selects RX1 yX1_minutes yX1_minutes, Cond.code yX1_minutes cX1_minutes 1 (some .int), Cond.methodLink RX8 246 yX8_memberOf, Cond.instanceMethod yX8_memberOf, Cond.selects RX8 yX8_memberOf yX8_memberOf, Cond.code yX8_memberOf cX8_memberOf 6 (some .int), Cond.methodLink RL 63 yX9_caseOf, Cond.instanceMethod yX9_caseOf, Cond.selects RX9 yX9_caseOf yX9_caseOf, Cond.code yX9_caseOf cX9_caseOf 5 (some .int), Cond.methodLink RX9 171 yX9_sizeOf, Cond.instanceMethod yX9_sizeOf, Cond.selects RX9 yX9_sizeOf yX9_sizeOf, Cond.code yX9_sizeOf cX9_sizeOf 4 (some .int), Cond.methodLink RX9 177 yX9_minutesOf, Cond.instanceMethod yX9_minutesOf, Cond.selects RX9 yX9_minutesOf yX9_minutesOf, Cond.code yX9_minutesOf cX9_minutesOf 2 (some .int), Cond.methodLink RX9 180 yX9_isLittleKnown, Cond.instanceMethod yX9_isLittleKnown, Cond.selects RX9 yX9_isLittleKnown yX9_isLittleKnown, Cond.code yX9_isLittleKnown cX9_isLittleKnown 3 (some .boolean), Cond.methodLink RL 64 yX8_slow]
def wsL_law_r24 : List Cond := [Cond.instanceMethod yX8_slow, Cond.selects RX8 yX8_slow yX8_slow, Cond.code yX8_slow cX8_slow 5 (some .int), Cond.methodLink RL 67 yX9_slow, Cond.instanceMethod yX9_slow, Cond.selects RX9 yX9_slow yX9_slow, Cond.code yX9_slow cX9_slow 5 (some .int), Cond.methodLink RL 68 yX8_plan, Cond.instanceMethod yX8_plan, Cond.selects RX8 yX8_plan yX8_plan, Cond.code yX8_plan cX8_plan 4 (some .int), Cond.fieldLink RX8 254 "CryOrder$Plan" "takenCount" "I", Cond.methodLink RX8 250 yX5_make, Cond.instanceMethod yX5_make, Cond.selects RX5 yX5_make yX5_make, Cond.code yX5_make cX5_make 4 none, Cond.fieldLink RX5 27 "CryOrder$Plan" "takenCount" "I", Cond.fieldLink RX5 31 "CryOrder$Plan" "poolCount" "I", Cond.fieldLink RX5 34 "CryOrder$Plan" "scoreTaken" "I", Cond.methodLink RX5 37 Lib.Math.min.name, Cond.methodLink RX5 43 Lib.Math.max.name, Cond.fieldLink RX5 46 "CryOrder$Plan" "minutesLeft" "I", Cond.methodLink RX5 49 yX5_takeTries, Cond.instanceMethod yX5_takeTries]
def wsL_law_r25 : List Cond := [Cond.selects RX5 yX5_takeTries yX5_takeTries, Cond.code yX5_takeTries cX5_takeTries 5 none, Cond.fieldLink RX5 74 "CryOrder$Cases" "size" "I", Cond.fieldLink RX5 79 "CryOrder$Cases" "ordered" "[LCryOrder$Case;", Cond.fieldLink RX5 82 "CryOrder$Case" "littleKnown" "Z", Cond.methodLink RX5 70 yX1_minutes, Cond.methodLink RX5 86 yX5_take, Cond.instanceMethod yX5_take, Cond.selects RX5 yX5_take yX5_take, Cond.code yX5_take cX5_take 2 none, Cond.fieldLink RX5 67 "CryOrder$Case" "score" "I", Cond.methodLink RX5 53 yX5_fillPool, Cond.instanceMethod yX5_fillPool, Cond.selects RX5 yX5_fillPool yX5_fillPool, Cond.code yX5_fillPool cX5_fillPool 3 none, Cond.methodLink RX5 90 yX5_isTaken, Cond.instanceMethod yX5_isTaken, Cond.selects RX5 yX5_isTaken yX5_isTaken, Cond.code yX5_isTaken cX5_isTaken 3 (some .boolean), Cond.methodLink RX5 57 yX5_weighPool, Cond.instanceMethod yX5_weighPool, Cond.selects RX5 yX5_weighPool yX5_weighPool, Cond.code yX5_weighPool cX5_weighPool 5 none, Cond.methodLink RX5 60 yX5_takeBestOfPool]
def wsL_law_r26 : List Cond := [Cond.instanceMethod yX5_takeBestOfPool, Cond.selects RX5 yX5_takeBestOfPool yX5_takeBestOfPool, Cond.code yX5_takeBestOfPool cX5_takeBestOfPool 4 none, Cond.methodLink RX8 257 yX5_at, Cond.instanceMethod yX5_at, Cond.selects RX5 yX5_at yX5_at, Cond.code yX5_at cX5_at 2 (some (.object "CryOrder$Case")), Cond.methodLink RL 71 yX9_plan, Cond.instanceMethod yX9_plan, Cond.selects RX9 yX9_plan yX9_plan, Cond.code yX9_plan cX9_plan 3 (some .int), Cond.fieldLink RX9 183 "CryOrderModel" "takenMany" "I", Cond.methodLink RX9 189 yX9_isPlan, Cond.static yX9_isPlan, Cond.code yX9_isPlan cX9_isPlan 1 (some .boolean), Cond.methodLink RX9 192 yX9_plans, Cond.instanceMethod yX9_plans, Cond.selects RX9 yX9_plans yX9_plans, Cond.code yX9_plans cX9_plans 10 none, Cond.methodLink RX9 186 yX9_isTaken, Cond.instanceMethod yX9_isTaken, Cond.selects RX9 yX9_isTaken yX9_isTaken, Cond.code yX9_isTaken cX9_isTaken 3 (some .boolean), Cond.methodLink RL 72 yX8_worth]
def wsL_law_r27 : List Cond := [Cond.instanceMethod yX8_worth, Cond.selects RX8 yX8_worth yX8_worth, Cond.code yX8_worth cX8_worth 3 (some .int), Cond.fieldLink RX8 258 "CryOrder$Plan" "scoreTaken" "I", Cond.fieldLink RX8 264 "CryOrder$Plan" "minutesLeft" "I", Cond.methodLink RX8 261 yX2_scoreOfAll, Cond.instanceMethod yX2_scoreOfAll, Cond.selects RX2 yX2_scoreOfAll yX2_scoreOfAll, Cond.code yX2_scoreOfAll cX2_scoreOfAll 3 (some .int), Cond.fieldLink RX2 58 "CryOrder$Case" "score" "I", Cond.methodLink RL 75 yX9_worth, Cond.instanceMethod yX9_worth, Cond.selects RX9 yX9_worth yX9_worth, Cond.code yX9_worth cX9_worth 6 (some .int), Cond.methodLink RL 76 yX8_source, Cond.instanceMethod yX8_source, Cond.selects RX8 yX8_source yX8_source, Cond.code yX8_source cX8_source 5 (some .int), Cond.methodLink RX8 267 yX8_isOfKind, Cond.static yX8_isOfKind, Cond.code yX8_isOfKind cX8_isOfKind 2 (some .boolean), Cond.methodLink RL 79 yX9_source, Cond.instanceMethod yX9_source, Cond.selects RX9 yX9_source yX9_source]
def wsL_law_r28 : List Cond := [Cond.code yX9_source cX9_source 6 (some .int), Cond.methodLink RL 80 yX8_count, Cond.instanceMethod yX8_count, Cond.selects RX8 yX8_count yX8_count, Cond.code yX8_count cX8_count 2 (some .int), Cond.fieldLink RX8 271 "CryOrder$Cases" "size" "I", Cond.fieldLink RX8 272 "CryOrder$Ties" "size" "I", Cond.methodLink RL 83 yX9_count, Cond.instanceMethod yX9_count, Cond.selects RX9 yX9_count yX9_count, Cond.code yX9_count cX9_count 4 (some .int)]
def wsL_law : List Cond := (wsL_law_r1 ++ (wsL_law_r2 ++ (wsL_law_r3 ++ (wsL_law_r4 ++ (wsL_law_r5 ++ (wsL_law_r6 ++ (wsL_law_r7 ++ (wsL_law_r8 ++ (wsL_law_r9 ++ (wsL_law_r10 ++ (wsL_law_r11 ++ (wsL_law_r12 ++ (wsL_law_r13 ++ (wsL_law_r14 ++ (wsL_law_r15 ++ (wsL_law_r16 ++ (wsL_law_r17 ++ (wsL_law_r18 ++ (wsL_law_r19 ++ (wsL_law_r20 ++ (wsL_law_r21 ++ (wsL_law_r22 ++ (wsL_law_r23 ++ (wsL_law_r24 ++ (wsL_law_r25 ++ (wsL_law_r26 ++ (wsL_law_r27 ++ wsL_law_r28))))))))))))))))))))))))))) ++ wsX80 ++ wsX90 ++ wsX30 ++ wsX70 ++ wsX20 ++ wsX50 ++ wsX00 ++ wsX10 ++ wsX60 ++ wsX40 ++ ([] : List Cond)
set_option maxRecDepth 20000 in
theorem wsL_law_in : ∀ w ∈ wsL_law, w ∈ lw_tbl := fun w h => (goodIn_p wsL_law [48, 51, 60, 98, 116, 134, 655, 212, 773, 776, 216, 219, 223, 227, 231, 235, 239, 244, 247, 251, 256, 262, 359, 363, 367, 372, 780, 784, 787, 376, 380, 791, 395, 795, 399, 403, 408, 412, 415, 422, 425, 799, 803, 806, 429, 433, 440, 443, 437, 447, 810, 814, 468, 473, 477, 481, 485, 490, 494, 498, 502, 506, 510, 514, 518, 522, 526, 530, 536, 541, 545, 549, 834, 838, 830, 822, 842, 846, 849, 855, 554, 558, 818, 562, 567, 826, 571, 575, 859, 579, 583, 587, 863, 867, 871, 875, 591, 879, 595, 599, 605, 610, 614, 618, 622, 626, 630, 883, 886, 890, 894, 635, 639, 898, 643, 646, 902, 650, 906] (by decide +kernel) (by decide +kernel) w h).1
theorem inlX0 : ∀ w ∈ wsX00, w ∈ wsL_law := fun _ h => List.mem_append_left _ (List.mem_append_left _ (List.mem_append_left _ (List.mem_append_left _ (List.mem_append_right _ h))))
theorem inX0 : ∀ w ∈ wsX00, w ∈ lw_tbl := fun w h => wsL_law_in w (inlX0 w h)
theorem inlX1 : ∀ w ∈ wsX10, w ∈ wsL_law := fun _ h => List.mem_append_left _ (List.mem_append_left _ (List.mem_append_left _ (List.mem_append_right _ h)))
theorem inX1 : ∀ w ∈ wsX10, w ∈ lw_tbl := fun w h => wsL_law_in w (inlX1 w h)
theorem inlX2 : ∀ w ∈ wsX20, w ∈ wsL_law := fun _ h => List.mem_append_left _ (List.mem_append_left _ (List.mem_append_left _ (List.mem_append_left _ (List.mem_append_left _ (List.mem_append_left _ (List.mem_append_right _ h))))))
theorem inX2 : ∀ w ∈ wsX20, w ∈ lw_tbl := fun w h => wsL_law_in w (inlX2 w h)
theorem inlX3 : ∀ w ∈ wsX30, w ∈ wsL_law := fun _ h => List.mem_append_left _ (List.mem_append_left _ (List.mem_append_left _ (List.mem_append_left _ (List.mem_append_left _ (List.mem_append_left _ (List.mem_append_left _ (List.mem_append_left _ (List.mem_append_right _ h))))))))
theorem inX3 : ∀ w ∈ wsX30, w ∈ lw_tbl := fun w h => wsL_law_in w (inlX3 w h)
theorem inlX4 : ∀ w ∈ wsX40, w ∈ wsL_law := fun _ h => List.mem_append_left _ (List.mem_append_right _ h)
theorem inX4 : ∀ w ∈ wsX40, w ∈ lw_tbl := fun w h => wsL_law_in w (inlX4 w h)
theorem inlX5 : ∀ w ∈ wsX50, w ∈ wsL_law := fun _ h => List.mem_append_left _ (List.mem_append_left _ (List.mem_append_left _ (List.mem_append_left _ (List.mem_append_left _ (List.mem_append_right _ h)))))
theorem inX5 : ∀ w ∈ wsX50, w ∈ lw_tbl := fun w h => wsL_law_in w (inlX5 w h)
theorem inlX6 : ∀ w ∈ wsX60, w ∈ wsL_law := fun _ h => List.mem_append_left _ (List.mem_append_left _ (List.mem_append_right _ h))
theorem inX6 : ∀ w ∈ wsX60, w ∈ lw_tbl := fun w h => wsL_law_in w (inlX6 w h)
theorem inlX7 : ∀ w ∈ wsX70, w ∈ wsL_law := fun _ h => List.mem_append_left _ (List.mem_append_left _ (List.mem_append_left _ (List.mem_append_left _ (List.mem_append_left _ (List.mem_append_left _ (List.mem_append_left _ (List.mem_append_right _ h)))))))
theorem inX7 : ∀ w ∈ wsX70, w ∈ lw_tbl := fun w h => wsL_law_in w (inlX7 w h)
theorem inlX8 : ∀ w ∈ wsX80, w ∈ wsL_law := fun _ h => List.mem_append_left _ (List.mem_append_left _ (List.mem_append_left _ (List.mem_append_left _ (List.mem_append_left _ (List.mem_append_left _ (List.mem_append_left _ (List.mem_append_left _ (List.mem_append_left _ (List.mem_append_left _ (List.mem_append_right _ h))))))))))
theorem inX8 : ∀ w ∈ wsX80, w ∈ lw_tbl := fun w h => wsL_law_in w (inlX8 w h)
theorem inlX9 : ∀ w ∈ wsX90, w ∈ wsL_law := fun _ h => List.mem_append_left _ (List.mem_append_left _ (List.mem_append_left _ (List.mem_append_left _ (List.mem_append_left _ (List.mem_append_left _ (List.mem_append_left _ (List.mem_append_left _ (List.mem_append_left _ (List.mem_append_right _ h)))))))))
theorem inX9 : ∀ w ∈ wsX90, w ∈ lw_tbl := fun w h => wsL_law_in w (inlX9 w h)
theorem inJ6 : ∀ w ∈ wsJ60, w ∈ lw_tbl := by decide +kernel
theorem inJ9 : ∀ w ∈ wsJ90, w ∈ lw_tbl := by decide +kernel
set_option maxRecDepth 20000 in
theorem ggX0_init_X1_init : GoodIn wsX0_init wsX1_init := goodIn_r _ [19, 20, 2, 3, 21, 39, 40, 41, 42] (by decide +kernel) (by decide +kernel)
set_option maxRecDepth 20000 in
theorem gX0_init_X1_init : GoodIn wsX0_init (wsX1_init) := ggX0_init_X1_init
set_option maxRecDepth 20000 in
theorem ggX0_isLive_X0_isOpen : GoodIn wsX0_isLive wsX0_isOpen := goodIn_r _ [5, 6, 13, 14, 15, 16, 17, 18, 19, 20, 21, 22, 23, 24, 25, 26, 27, 28, 29] (by decide +kernel) (by decide +kernel)
set_option maxRecDepth 20000 in
theorem gX0_isLive_X0_isOpen : GoodIn wsX0_isLive (wsV RX0 56 RX0 yX0_isOpen wsX0_isOpen) := goodIn_app (goodIn_of _ (by decide +kernel)) ggX0_isLive_X0_isOpen
set_option maxRecDepth 20000 in
theorem ggX0_isLive_X0_isHushed : GoodIn wsX0_isLive wsX0_isHushed := goodIn_r _ [10, 11, 12, 13, 14, 15, 16, 17, 18, 19, 20, 21, 22, 23, 24, 25, 26, 27, 28, 29] (by decide +kernel) (by decide +kernel)
set_option maxRecDepth 20000 in
theorem gX0_isLive_X0_isHushed : GoodIn wsX0_isLive (wsV RX0 60 RX0 yX0_isHushed wsX0_isHushed) := goodIn_app (goodIn_of _ (by decide +kernel)) ggX0_isLive_X0_isHushed
set_option maxRecDepth 20000 in
theorem ggX0_hear_J6_bitCount_0f7a4 : GoodIn wsX0_hear wsJ6_bitCount_0f7a4 := goodIn_r _ [7, 8, 9, 10] (by decide +kernel) (by decide +kernel)
set_option maxRecDepth 20000 in
theorem gX0_hear_J6_bitCount_0f7a4 : GoodIn wsX0_hear (va_wsS RX0 72 yJ6_bitCount_0f7a4 wsJ6_bitCount_0f7a4) := goodIn_app (goodIn_of _ (by decide +kernel)) ggX0_hear_J6_bitCount_0f7a4
set_option maxRecDepth 20000 in
theorem ggX0_verdicts_J6_bitCount_0f7a4 : GoodIn wsX0_verdicts wsJ6_bitCount_0f7a4 := goodIn_r _ [6, 7, 8, 9] (by decide +kernel) (by decide +kernel)
set_option maxRecDepth 20000 in
theorem gX0_verdicts_J6_bitCount_0f7a4 : GoodIn wsX0_verdicts (va_wsS RX0 72 yJ6_bitCount_0f7a4 wsJ6_bitCount_0f7a4) := goodIn_app (goodIn_of _ (by decide +kernel)) ggX0_verdicts_J6_bitCount_0f7a4
set_option maxRecDepth 20000 in
theorem ggX0_score_X0_nodeFor : GoodIn wsX0_score wsX0_nodeFor := goodIn_r _ [6, 7, 8, 9, 21, 22, 23, 24, 25, 26, 27, 28, 29, 30, 31, 32, 33, 34, 35, 36, 37, 38, 39, 40, 41, 42, 43, 44, 45] (by decide +kernel) (by decide +kernel)
set_option maxRecDepth 20000 in
theorem gX0_score_X0_nodeFor : GoodIn wsX0_score (wsV RX0 86 RX0 yX0_nodeFor wsX0_nodeFor) := goodIn_app (goodIn_of _ (by decide +kernel)) ggX0_score_X0_nodeFor
set_option maxRecDepth 20000 in
theorem ggX0_score_X3_oddsLower : GoodIn wsX0_score wsX3_oddsLower := goodIn_r _ [14, 15, 38, 39, 40, 41, 42, 43, 44, 45] (by decide +kernel) (by decide +kernel)
set_option maxRecDepth 20000 in
theorem gX0_score_X3_oddsLower : GoodIn wsX0_score (wsV RX0 90 RX3 yX3_oddsLower wsX3_oddsLower) := goodIn_app (goodIn_of _ (by decide +kernel)) ggX0_score_X3_oddsLower
set_option maxRecDepth 20000 in
theorem ggX0_score_X3_oddsUpper : GoodIn wsX0_score wsX3_oddsUpper := goodIn_r _ [19, 15, 20, 38, 39, 40, 41, 42, 43, 44, 45] (by decide +kernel) (by decide +kernel)
set_option maxRecDepth 20000 in
theorem gX0_score_X3_oddsUpper : GoodIn wsX0_score (wsV RX0 94 RX3 yX3_oddsUpper wsX3_oddsUpper) := goodIn_app (goodIn_of _ (by decide +kernel)) ggX0_score_X3_oddsUpper
set_option maxRecDepth 20000 in
theorem ggX0_joinCaseOf_X0_head : GoodIn wsX0_joinCaseOf wsX0_head := goodIn_r _ [7, 2, 8, 9, 10, 11, 12, 13, 14, 15, 16, 17, 18, 19, 20, 21, 22, 23, 24] (by decide +kernel) (by decide +kernel)
set_option maxRecDepth 20000 in
theorem gX0_joinCaseOf_X0_head : GoodIn wsX0_joinCaseOf (wsV RX0 101 RX0 yX0_head wsX0_head) := goodIn_app (goodIn_of _ (by decide +kernel)) ggX0_joinCaseOf_X0_head
set_option maxRecDepth 20000 in
theorem ggX2_gather_X1_clear : GoodIn wsX2_gather wsX1_clear := goodIn_r _ [7, 8, 9, 10, 143, 144, 145, 146] (by decide +kernel) (by decide +kernel)
set_option maxRecDepth 20000 in
theorem gX2_gather_X1_clear : GoodIn wsX2_gather (wsV RX2 27 RX1 yX1_clear wsX1_clear) := goodIn_app (goodIn_of _ (by decide +kernel)) ggX2_gather_X1_clear
set_option maxRecDepth 20000 in
theorem ggX2_gather_X0_isLive : GoodIn wsX2_gather wsX0_isLive := goodIn_r _ [15, 16, 17, 18, 14, 19, 20, 21, 22, 23, 24, 25, 26, 126, 127, 128, 129, 130, 131, 132, 133, 134, 135, 136, 137, 138, 139, 140, 141, 142] (by decide +kernel) (by decide +kernel)
set_option maxRecDepth 20000 in
theorem gX2_gather_X0_isLive : GoodIn wsX2_gather (wsV RX2 30 RX0 yX0_isLive wsX0_isLive) := goodIn_app (goodIn_of _ (by decide +kernel)) ggX2_gather_X0_isLive
set_option maxRecDepth 20000 in
theorem ggX2_gather_X2_joinWithSoonerOnes : GoodIn wsX2_gather wsX2_joinWithSoonerOnes := goodIn_r _ [30, 31, 32, 33, 11, 12, 13, 14, 15, 16, 17, 18, 19, 20, 21, 22, 23, 24, 25, 26, 34, 35, 36, 37, 38, 39, 40, 41, 42, 43, 44, 45, 46, 47, 48, 49, 50, 51, 52, 53, 54, 55, 56, 57, 58, 59, 60, 61, 62, 63, 64, 65, 126, 127, 128, 129, 130, 131, 132, 133, 134, 135, 136, 137, 138, 139, 140, 141, 142, 147, 148, 149, 150, 151] (by decide +kernel) (by decide +kernel)
set_option maxRecDepth 20000 in
theorem gX2_gather_X2_joinWithSoonerOnes : GoodIn wsX2_gather (va_wsS RX2 34 yX2_joinWithSoonerOnes wsX2_joinWithSoonerOnes) := goodIn_app (goodIn_of _ (by decide +kernel)) ggX2_gather_X2_joinWithSoonerOnes
set_option maxRecDepth 20000 in
theorem ggX2_gather_X2_joinToldOnes : GoodIn wsX2_gather wsX2_joinToldOnes := goodIn_r _ [68, 69, 70, 71, 72, 73, 74, 75, 76, 11, 12, 13, 14, 15, 16, 17, 18, 19, 20, 21, 22, 23, 24, 25, 26, 60, 61, 62, 63, 64, 38, 65, 35, 36, 37, 150, 151, 147, 148, 149, 126, 127, 128, 129, 130, 131, 132, 133, 134, 135, 136, 137, 138, 139, 140, 141, 142] (by decide +kernel) (by decide +kernel)
set_option maxRecDepth 20000 in
theorem gX2_gather_X2_joinToldOnes : GoodIn wsX2_gather (va_wsS RX2 38 yX2_joinToldOnes wsX2_joinToldOnes) := goodIn_app (goodIn_of _ (by decide +kernel)) ggX2_gather_X2_joinToldOnes
set_option maxRecDepth 20000 in
theorem ggX2_gather_X2_fillCases : GoodIn wsX2_gather wsX2_fillCases := goodIn_r _ [79, 2, 80, 11, 12, 13, 14, 15, 16, 17, 18, 19, 20, 21, 22, 23, 24, 25, 26, 34, 35, 36, 37, 38, 81, 82, 83, 84, 85, 86, 87, 88, 89, 90, 91, 92, 93, 94, 95, 96, 97, 98, 99, 100, 101, 102, 103, 104, 105, 106, 107, 6, 108, 8, 9, 109, 54, 51, 55, 10, 126, 127, 128, 129, 130, 131, 132, 133, 134, 135, 136, 137, 138, 139, 140, 141, 142, 152, 153, 154, 155, 156, 157, 158, 159, 143, 144, 145, 146] (by decide +kernel) (by decide +kernel)
set_option maxRecDepth 20000 in
theorem gX2_gather_X2_fillCases : GoodIn wsX2_gather (va_wsS RX2 42 yX2_fillCases wsX2_fillCases) := goodIn_app (goodIn_of _ (by decide +kernel)) ggX2_gather_X2_fillCases
set_option maxRecDepth 20000 in
theorem ggX2_gather_X2_putInOrder : GoodIn wsX2_gather wsX2_putInOrder := goodIn_r _ [113, 114, 2, 115, 116, 117, 118, 29, 119, 120, 121, 122, 123, 6, 124, 9, 125, 160, 161, 126, 127, 128, 129, 130, 131, 132, 133, 134, 135, 136, 137, 138, 139, 140, 141, 142, 143, 144, 145, 146] (by decide +kernel) (by decide +kernel)
set_option maxRecDepth 20000 in
theorem gX2_gather_X2_putInOrder : GoodIn wsX2_gather (wsV RX2 46 RX2 yX2_putInOrder wsX2_putInOrder) := goodIn_app (goodIn_of _ (by decide +kernel)) ggX2_gather_X2_putInOrder
set_option maxRecDepth 20000 in
theorem ggX2_at_X8_isBelow : GoodIn wsX2_at wsX8_isBelow := goodIn_r _ [5] (by decide +kernel) (by decide +kernel)
set_option maxRecDepth 20000 in
theorem gX2_at_X8_isBelow_n54 : GoodIn wsX2_at (wsX8_isBelow) := ggX2_at_X8_isBelow
set_option maxRecDepth 20000 in
theorem ggX2_joinWithSoonerOnes_X0_isLive : GoodIn wsX2_joinWithSoonerOnes wsX0_isLive := goodIn_r _ [8, 9, 10, 11, 7, 12, 13, 14, 15, 16, 17, 18, 19, 52, 53, 54, 55, 56, 57, 58, 59, 60, 61, 62, 63, 64, 65, 66, 67, 68] (by decide +kernel) (by decide +kernel)
set_option maxRecDepth 20000 in
theorem gX2_joinWithSoonerOnes_X0_isLive : GoodIn wsX2_joinWithSoonerOnes (wsV RX2 30 RX0 yX0_isLive wsX0_isLive) := goodIn_app (goodIn_of _ (by decide +kernel)) ggX2_joinWithSoonerOnes_X0_isLive
set_option maxRecDepth 20000 in
theorem ggX2_joinWithSoonerOnes_X0_head : GoodIn wsX2_joinWithSoonerOnes wsX0_head := goodIn_r _ [23, 24, 52, 53, 54, 55, 56, 57, 58, 59, 60, 61, 62, 63, 64, 65, 66, 67, 68] (by decide +kernel) (by decide +kernel)
set_option maxRecDepth 20000 in
theorem gX2_joinWithSoonerOnes_X0_head : GoodIn wsX2_joinWithSoonerOnes (wsV RX2 67 RX0 yX0_head wsX0_head) := goodIn_app (goodIn_of _ (by decide +kernel)) ggX2_joinWithSoonerOnes_X0_head
set_option maxRecDepth 20000 in
theorem ggX2_joinWithSoonerOnes_X7_isParted : GoodIn wsX2_joinWithSoonerOnes wsX7_isParted := goodIn_r _ [29, 30, 31, 32, 33, 28, 34, 35, 36, 37, 38, 39, 40, 41, 42, 43, 44, 45, 69, 70, 71, 72, 73] (by decide +kernel) (by decide +kernel)
set_option maxRecDepth 20000 in
theorem gX2_joinWithSoonerOnes_X7_isParted : GoodIn wsX2_joinWithSoonerOnes (wsV RX2 74 RX7 yX7_isParted wsX7_isParted) := goodIn_app (goodIn_of _ (by decide +kernel)) ggX2_joinWithSoonerOnes_X7_isParted
set_option maxRecDepth 20000 in
theorem ggX2_joinWithSoonerOnes_X0_joinCaseOf : GoodIn wsX2_joinWithSoonerOnes wsX0_joinCaseOf := goodIn_r _ [49, 50, 24, 51, 21, 22, 7, 23, 52, 53, 54, 55, 56, 57, 58, 59, 60, 61, 62, 63, 64, 65, 66, 67, 68] (by decide +kernel) (by decide +kernel)
set_option maxRecDepth 20000 in
theorem gX2_joinWithSoonerOnes_X0_joinCaseOf : GoodIn wsX2_joinWithSoonerOnes (wsV RX2 79 RX0 yX0_joinCaseOf wsX0_joinCaseOf) := goodIn_app (goodIn_of _ (by decide +kernel)) ggX2_joinWithSoonerOnes_X0_joinCaseOf
set_option maxRecDepth 20000 in
theorem ggX2_joinToldOnes_X8_isBelow : GoodIn wsX2_joinToldOnes wsX8_isBelow := goodIn_r _ [8] (by decide +kernel) (by decide +kernel)
set_option maxRecDepth 20000 in
theorem gX2_joinToldOnes_X8_isBelow_n54 : GoodIn wsX2_joinToldOnes (wsX8_isBelow) := ggX2_joinToldOnes_X8_isBelow
set_option maxRecDepth 20000 in
theorem ggX2_joinToldOnes_X0_isLive : GoodIn wsX2_joinToldOnes wsX0_isLive := goodIn_r _ [13, 14, 15, 16, 12, 17, 18, 19, 20, 21, 22, 23, 24, 40, 41, 42, 43, 44, 45, 46, 47, 48, 49, 50, 51, 52, 53, 54, 55, 56] (by decide +kernel) (by decide +kernel)
set_option maxRecDepth 20000 in
theorem gX2_joinToldOnes_X0_isLive : GoodIn wsX2_joinToldOnes (wsV RX2 30 RX0 yX0_isLive wsX0_isLive) := goodIn_app (goodIn_of _ (by decide +kernel)) ggX2_joinToldOnes_X0_isLive
set_option maxRecDepth 20000 in
theorem ggX2_joinToldOnes_X0_joinCaseOf : GoodIn wsX2_joinToldOnes wsX0_joinCaseOf := goodIn_r _ [28, 29, 30, 31, 32, 33, 12, 34, 40, 41, 42, 43, 44, 45, 46, 47, 48, 49, 50, 51, 52, 53, 54, 55, 56] (by decide +kernel) (by decide +kernel)
set_option maxRecDepth 20000 in
theorem gX2_joinToldOnes_X0_joinCaseOf : GoodIn wsX2_joinToldOnes (wsV RX2 79 RX0 yX0_joinCaseOf wsX0_joinCaseOf) := goodIn_app (goodIn_of _ (by decide +kernel)) ggX2_joinToldOnes_X0_joinCaseOf
set_option maxRecDepth 20000 in
theorem ggX2_fillCases_X0_isLive : GoodIn wsX2_fillCases wsX0_isLive := goodIn_r _ [7, 8, 9, 10, 6, 11, 12, 13, 14, 15, 16, 17, 18, 60, 61, 62, 63, 64, 65, 66, 67, 68, 69, 70, 71, 72, 73, 74, 75, 76] (by decide +kernel) (by decide +kernel)
set_option maxRecDepth 20000 in
theorem gX2_fillCases_X0_isLive : GoodIn wsX2_fillCases (wsV RX2 30 RX0 yX0_isLive wsX0_isLive) := goodIn_app (goodIn_of _ (by decide +kernel)) ggX2_fillCases_X0_isLive
set_option maxRecDepth 20000 in
theorem ggX2_fillCases_X0_head : GoodIn wsX2_fillCases wsX0_head := goodIn_r _ [22, 23, 60, 61, 62, 63, 64, 65, 66, 67, 68, 69, 70, 71, 72, 73, 74, 75, 76] (by decide +kernel) (by decide +kernel)
set_option maxRecDepth 20000 in
theorem gX2_fillCases_X0_head : GoodIn wsX2_fillCases (wsV RX2 67 RX0 yX0_head wsX0_head) := goodIn_app (goodIn_of _ (by decide +kernel)) ggX2_fillCases_X0_head
set_option maxRecDepth 20000 in
theorem ggX2_fillCases_X0_score : GoodIn wsX2_fillCases wsX0_score := goodIn_r _ [27, 28, 29, 30, 31, 6, 32, 33, 34, 35, 36, 37, 38, 39, 40, 41, 42, 43, 44, 45, 46, 60, 61, 62, 63, 64, 65, 66, 67, 68, 69, 70, 71, 72, 73, 74, 75, 76, 77, 78, 79, 80, 81, 82, 83, 84] (by decide +kernel) (by decide +kernel)
set_option maxRecDepth 20000 in
theorem gX2_fillCases_X0_score : GoodIn wsX2_fillCases (wsV RX2 100 RX0 yX0_score wsX0_score) := goodIn_app (goodIn_of _ (by decide +kernel)) ggX2_fillCases_X0_score
set_option maxRecDepth 20000 in
theorem ggX2_fillCases_X0_nodeFor : GoodIn wsX2_fillCases wsX0_nodeFor := goodIn_r _ [32, 33, 34, 35, 60, 61, 62, 63, 64, 65, 66, 67, 68, 69, 70, 71, 72, 73, 74, 75, 76, 77, 78, 79, 80, 81, 82, 83, 84] (by decide +kernel) (by decide +kernel)
set_option maxRecDepth 20000 in
theorem gX2_fillCases_X0_nodeFor : GoodIn wsX2_fillCases (wsV RX2 103 RX0 yX0_nodeFor wsX0_nodeFor) := goodIn_app (goodIn_of _ (by decide +kernel)) ggX2_fillCases_X0_nodeFor
set_option maxRecDepth 20000 in
theorem ggX2_fillCases_X1_add : GoodIn wsX2_fillCases wsX1_add := goodIn_r _ [52, 53, 54, 55, 56, 57, 58, 59, 85, 86, 87, 88] (by decide +kernel) (by decide +kernel)
set_option maxRecDepth 20000 in
theorem gX2_fillCases_X1_add : GoodIn wsX2_fillCases (wsV RX2 112 RX1 yX1_add wsX1_add) := goodIn_app (goodIn_of _ (by decide +kernel)) ggX2_fillCases_X1_add
set_option maxRecDepth 20000 in
theorem ggX2_putInOrder_X2_putInPlace : GoodIn wsX2_putInOrder wsX2_putInPlace := goodIn_r _ [8, 1, 9, 10, 11, 12, 13, 14, 15, 16, 17, 18, 36, 37, 38, 39] (by decide +kernel) (by decide +kernel)
set_option maxRecDepth 20000 in
theorem gX2_putInOrder_X2_putInPlace : GoodIn wsX2_putInOrder (wsV RX2 117 RX2 yX2_putInPlace wsX2_putInPlace) := goodIn_app (goodIn_of _ (by decide +kernel)) ggX2_putInOrder_X2_putInPlace
set_option maxRecDepth 20000 in
theorem ggX2_putInPlace_X1_isAheadOf : GoodIn wsX2_putInPlace wsX1_isAheadOf := goodIn_r _ [7, 8, 9, 12, 13, 14, 15] (by decide +kernel) (by decide +kernel)
set_option maxRecDepth 20000 in
theorem gX2_putInPlace_X1_isAheadOf : GoodIn wsX2_putInPlace (wsV RX2 121 RX1 yX1_isAheadOf wsX1_isAheadOf) := goodIn_app (goodIn_of _ (by decide +kernel)) ggX2_putInPlace_X1_isAheadOf
set_option maxRecDepth 20000 in
theorem ggX3_find_X3_markAt : GoodIn wsX3_find wsX3_markAt := goodIn_r _ [4] (by decide +kernel) (by decide +kernel)
set_option maxRecDepth 20000 in
theorem gX3_find_X3_markAt : GoodIn wsX3_find (va_wsS RX3 28 yX3_markAt wsX3_markAt) := goodIn_app (goodIn_of _ (by decide +kernel)) ggX3_find_X3_markAt
set_option maxRecDepth 20000 in
theorem ggX3_find_X3_child : GoodIn wsX3_find wsX3_child := goodIn_r _ [8, 9, 10, 11, 12, 13, 14, 15, 16, 17, 18, 19] (by decide +kernel) (by decide +kernel)
set_option maxRecDepth 20000 in
theorem gX3_find_X3_child : GoodIn wsX3_find (wsV RX3 32 RX3 yX3_child wsX3_child) := goodIn_app (goodIn_of _ (by decide +kernel)) ggX3_find_X3_child
set_option maxRecDepth 20000 in
theorem ggX3_grow_X3_markAt : GoodIn wsX3_grow wsX3_markAt := goodIn_r _ [7] (by decide +kernel) (by decide +kernel)
set_option maxRecDepth 20000 in
theorem gX3_grow_X3_markAt : GoodIn wsX3_grow (va_wsS RX3 28 yX3_markAt wsX3_markAt) := goodIn_app (goodIn_of _ (by decide +kernel)) ggX3_grow_X3_markAt
set_option maxRecDepth 20000 in
theorem ggX3_grow_X3_child : GoodIn wsX3_grow wsX3_child := goodIn_r _ [11, 4, 12, 13, 22, 23, 24, 25, 26, 27, 28, 29] (by decide +kernel) (by decide +kernel)
set_option maxRecDepth 20000 in
theorem gX3_grow_X3_child : GoodIn wsX3_grow (wsV RX3 32 RX3 yX3_child wsX3_child) := goodIn_app (goodIn_of _ (by decide +kernel)) ggX3_grow_X3_child
set_option maxRecDepth 20000 in
theorem ggX3_grow_X3_init : GoodIn wsX3_grow wsX3_init := goodIn_r _ [16, 17, 18, 19, 20, 21, 12, 13, 22, 23, 24, 25, 26, 27, 28, 29] (by decide +kernel) (by decide +kernel)
set_option maxRecDepth 20000 in
theorem gX3_grow_X3_init : GoodIn wsX3_grow (wsX3_init) := ggX3_grow_X3_init
set_option maxRecDepth 20000 in
theorem ggX3_settle_X8_oneIf : GoodIn wsX3_settle wsX8_oneIf := goodIn_r _ [7] (by decide +kernel) (by decide +kernel)
set_option maxRecDepth 20000 in
theorem gX3_settle_X8_oneIf_n48 : GoodIn wsX3_settle (wsX8_oneIf) := ggX3_settle_X8_oneIf
set_option maxRecDepth 20000 in
theorem ggX5_make_X5_takeTries : GoodIn wsX5_make wsX5_takeTries := goodIn_r _ [16, 17, 1, 18, 19, 11, 20, 21, 22, 23, 24, 25, 26, 27, 28, 15, 29, 30, 3, 31, 59, 60, 51, 52, 53, 54, 55, 56, 57, 58, 61, 62, 63, 64] (by decide +kernel) (by decide +kernel)
set_option maxRecDepth 20000 in
theorem gX5_make_X5_takeTries : GoodIn wsX5_make (wsV RX5 49 RX5 yX5_takeTries wsX5_takeTries) := goodIn_app (goodIn_of _ (by decide +kernel)) ggX5_make_X5_takeTries
set_option maxRecDepth 20000 in
theorem ggX5_make_X5_fillPool : GoodIn wsX5_make wsX5_fillPool := goodIn_r _ [35, 17, 2, 18, 36, 37, 38, 39, 15, 40, 1, 30, 59, 60, 51, 52, 53, 54, 55, 56, 57, 58] (by decide +kernel) (by decide +kernel)
set_option maxRecDepth 20000 in
theorem gX5_make_X5_fillPool : GoodIn wsX5_make (wsV RX5 53 RX5 yX5_fillPool wsX5_fillPool) := goodIn_app (goodIn_of _ (by decide +kernel)) ggX5_make_X5_fillPool
set_option maxRecDepth 20000 in
theorem ggX5_make_X5_weighPool : GoodIn wsX5_make wsX5_weighPool := goodIn_r _ [44, 11, 45, 46, 2, 36, 31, 20, 21, 22, 23, 24, 25, 51, 52, 53, 54, 55, 56, 57, 58, 61, 62, 63, 64] (by decide +kernel) (by decide +kernel)
set_option maxRecDepth 20000 in
theorem gX5_make_X5_weighPool : GoodIn wsX5_make (wsV RX5 57 RX5 yX5_weighPool wsX5_weighPool) := goodIn_app (goodIn_of _ (by decide +kernel)) ggX5_make_X5_weighPool
set_option maxRecDepth 20000 in
theorem ggX5_make_X5_takeBestOfPool : GoodIn wsX5_make wsX5_takeBestOfPool := goodIn_r _ [50, 11, 2, 46, 36, 20, 21, 22, 23, 24, 25, 26, 27, 28, 15, 29, 1, 30, 3, 31, 51, 52, 53, 54, 55, 56, 57, 58, 61, 62, 63, 64] (by decide +kernel) (by decide +kernel)
set_option maxRecDepth 20000 in
theorem gX5_make_X5_takeBestOfPool : GoodIn wsX5_make (wsV RX5 60 RX5 yX5_takeBestOfPool wsX5_takeBestOfPool) := goodIn_app (goodIn_of _ (by decide +kernel)) ggX5_make_X5_takeBestOfPool
set_option maxRecDepth 20000 in
theorem ggX5_at_X8_isBelow : GoodIn wsX5_at wsX8_isBelow := goodIn_r _ [5] (by decide +kernel) (by decide +kernel)
set_option maxRecDepth 20000 in
theorem gX5_at_X8_isBelow_n63 : GoodIn wsX5_at (wsX8_isBelow) := ggX5_at_X8_isBelow
set_option maxRecDepth 20000 in
theorem ggX5_take_X1_minutes : GoodIn wsX5_take wsX1_minutes := goodIn_r _ [10, 11, 20, 21, 22, 23] (by decide +kernel) (by decide +kernel)
set_option maxRecDepth 20000 in
theorem gX5_take_X1_minutes : GoodIn wsX5_take (wsV RX5 70 RX1 yX1_minutes wsX1_minutes) := goodIn_app (goodIn_of _ (by decide +kernel)) ggX5_take_X1_minutes
set_option maxRecDepth 20000 in
theorem ggX5_takeTries_X1_minutes : GoodIn wsX5_takeTries wsX1_minutes := goodIn_r _ [10, 11, 30, 31, 32, 33] (by decide +kernel) (by decide +kernel)
set_option maxRecDepth 20000 in
theorem gX5_takeTries_X1_minutes : GoodIn wsX5_takeTries (wsV RX5 70 RX1 yX1_minutes wsX1_minutes) := goodIn_app (goodIn_of _ (by decide +kernel)) ggX5_takeTries_X1_minutes
set_option maxRecDepth 20000 in
theorem ggX5_takeTries_X5_take : GoodIn wsX5_takeTries wsX5_take := goodIn_r _ [16, 2, 17, 18, 19, 5, 6, 7, 8, 9, 10, 11, 22, 23, 24, 25, 26, 27, 28, 29, 30, 31, 32, 33] (by decide +kernel) (by decide +kernel)
set_option maxRecDepth 20000 in
theorem gX5_takeTries_X5_take : GoodIn wsX5_takeTries (wsV RX5 86 RX5 yX5_take wsX5_take) := goodIn_app (goodIn_of _ (by decide +kernel)) ggX5_takeTries_X5_take
set_option maxRecDepth 20000 in
theorem ggX5_fillPool_X5_isTaken : GoodIn wsX5_fillPool wsX5_isTaken := goodIn_r _ [9, 10, 11, 14, 15, 16, 17, 18, 19, 20, 21] (by decide +kernel) (by decide +kernel)
set_option maxRecDepth 20000 in
theorem gX5_fillPool_X5_isTaken : GoodIn wsX5_fillPool (wsV RX5 90 RX5 yX5_isTaken wsX5_isTaken) := goodIn_app (goodIn_of _ (by decide +kernel)) ggX5_fillPool_X5_isTaken
set_option maxRecDepth 20000 in
theorem ggX5_weighPool_X1_minutes : GoodIn wsX5_weighPool wsX1_minutes := goodIn_r _ [11, 12, 21, 22, 23, 24] (by decide +kernel) (by decide +kernel)
set_option maxRecDepth 20000 in
theorem gX5_weighPool_X1_minutes : GoodIn wsX5_weighPool (wsV RX5 70 RX1 yX1_minutes wsX1_minutes) := goodIn_app (goodIn_of _ (by decide +kernel)) ggX5_weighPool_X1_minutes
set_option maxRecDepth 20000 in
theorem ggX5_takeBestOfPool_X1_minutes : GoodIn wsX5_takeBestOfPool wsX1_minutes := goodIn_r _ [9, 10, 28, 29, 30, 31] (by decide +kernel) (by decide +kernel)
set_option maxRecDepth 20000 in
theorem gX5_takeBestOfPool_X1_minutes : GoodIn wsX5_takeBestOfPool (wsV RX5 70 RX1 yX1_minutes wsX1_minutes) := goodIn_app (goodIn_of _ (by decide +kernel)) ggX5_takeBestOfPool_X1_minutes
set_option maxRecDepth 20000 in
theorem ggX5_takeBestOfPool_X5_take : GoodIn wsX5_takeBestOfPool wsX5_take := goodIn_r _ [15, 16, 17, 18, 19, 1, 5, 6, 7, 8, 9, 10, 20, 21, 22, 23, 24, 25, 26, 27, 28, 29, 30, 31] (by decide +kernel) (by decide +kernel)
set_option maxRecDepth 20000 in
theorem gX5_takeBestOfPool_X5_take : GoodIn wsX5_takeBestOfPool (wsV RX5 86 RX5 yX5_take wsX5_take) := goodIn_app (goodIn_of _ (by decide +kernel)) ggX5_takeBestOfPool_X5_take
set_option maxRecDepth 20000 in
theorem ggX7_tell_X7_find : GoodIn wsX7_tell wsX7_find := goodIn_r _ [18, 7, 8, 9, 10, 11, 12, 13, 2, 3, 19, 20, 33, 34, 30, 31, 32] (by decide +kernel) (by decide +kernel)
set_option maxRecDepth 20000 in
theorem gX7_tell_X7_find : GoodIn wsX7_tell (wsV RX7 36 RX7 yX7_find wsX7_find) := goodIn_app (goodIn_of _ (by decide +kernel)) ggX7_tell_X7_find
set_option maxRecDepth 20000 in
theorem ggX7_tell_X4_init : GoodIn wsX7_tell wsX4_init := goodIn_r _ [23, 24, 25, 26, 27, 28, 29, 30, 31, 32] (by decide +kernel) (by decide +kernel)
set_option maxRecDepth 20000 in
theorem gX7_tell_X4_init : GoodIn wsX7_tell (wsX4_init) := ggX7_tell_X4_init
set_option maxRecDepth 20000 in
theorem ggX7_isParted_X7_find : GoodIn wsX7_isParted wsX7_find := goodIn_r _ [6, 7, 8, 9, 10, 11, 12, 13, 14, 15, 16, 17, 21, 22, 18, 19, 20] (by decide +kernel) (by decide +kernel)
set_option maxRecDepth 20000 in
theorem gX7_isParted_X7_find : GoodIn wsX7_isParted (wsV RX7 36 RX7 yX7_find wsX7_find) := goodIn_app (goodIn_of _ (by decide +kernel)) ggX7_isParted_X7_find
set_option maxRecDepth 20000 in
theorem ggX8_init_X3_init : GoodIn wsX8_init wsX3_init := goodIn_r _ [29, 30, 2, 3, 31, 32, 33, 34, 68, 69, 70, 71, 72, 73, 74, 75] (by decide +kernel) (by decide +kernel)
set_option maxRecDepth 20000 in
theorem gX8_init_X3_init : GoodIn wsX8_init (wsX3_init) := ggX8_init_X3_init
set_option maxRecDepth 20000 in
theorem ggX8_init_X7_init : GoodIn wsX8_init wsX7_init := goodIn_r _ [36, 37, 2, 3, 38, 39, 76, 77] (by decide +kernel) (by decide +kernel)
set_option maxRecDepth 20000 in
theorem gX8_init_X7_init_n35 : GoodIn wsX8_init (wsX7_init) := ggX8_init_X7_init
set_option maxRecDepth 20000 in
theorem ggX8_init_X2_init : GoodIn wsX8_init wsX2_init := goodIn_r _ [41, 42, 2, 3, 43, 44, 78, 79] (by decide +kernel) (by decide +kernel)
set_option maxRecDepth 20000 in
theorem gX8_init_X2_init_n42 : GoodIn wsX8_init (wsX2_init) := ggX8_init_X2_init
set_option maxRecDepth 20000 in
theorem ggX8_init_X5_init : GoodIn wsX8_init wsX5_init := goodIn_r _ [46, 47, 2, 3, 48, 49, 50, 51, 52, 53, 80, 81, 82, 83, 84, 85, 86, 87] (by decide +kernel) (by decide +kernel)
set_option maxRecDepth 20000 in
theorem gX8_init_X5_init_n49 : GoodIn wsX8_init (wsX5_init) := ggX8_init_X5_init
set_option maxRecDepth 20000 in
theorem ggX8_alarm_X8_isBelow : GoodIn wsX8_alarm wsX8_isBelow := goodIn_r _ [18] (by decide +kernel) (by decide +kernel)
set_option maxRecDepth 20000 in
theorem gX8_alarm_X8_isBelow : GoodIn wsX8_alarm (va_wsS RX8 64 yX8_isBelow wsX8_isBelow) := goodIn_app (goodIn_of _ (by decide +kernel)) ggX8_alarm_X8_isBelow
set_option maxRecDepth 20000 in
theorem ggX8_alarm_X8_alarmToRepeat : GoodIn wsX8_alarm wsX8_alarmToRepeat := goodIn_r _ [22, 3, 13, 23, 24, 25, 1, 26, 27, 28, 29, 6, 30, 31, 32, 33, 34, 35, 36, 37, 38, 39, 40, 41, 119, 120, 121, 122, 123, 124, 125, 126, 127, 128, 129, 130, 131, 132, 133, 134, 135, 136, 137, 138, 139, 140, 141, 142, 143, 144, 145, 146, 147, 148, 149] (by decide +kernel) (by decide +kernel)
set_option maxRecDepth 20000 in
theorem gX8_alarm_X8_alarmToRepeat : GoodIn wsX8_alarm (wsV RX8 68 RX8 yX8_alarmToRepeat wsX8_alarmToRepeat) := goodIn_app (goodIn_of _ (by decide +kernel)) ggX8_alarm_X8_alarmToRepeat
set_option maxRecDepth 20000 in
theorem ggX8_alarm_X0_repeat : GoodIn wsX8_alarm wsX0_repeat := goodIn_r _ [45, 46, 47, 133, 134, 135, 136, 137, 138, 139, 140, 141, 142, 143, 144, 145, 146, 147, 148, 149] (by decide +kernel) (by decide +kernel)
set_option maxRecDepth 20000 in
theorem gX8_alarm_X0_repeat : GoodIn wsX8_alarm (wsV RX8 72 RX0 yX0_repeat wsX0_repeat) := goodIn_app (goodIn_of _ (by decide +kernel)) ggX8_alarm_X0_repeat
set_option maxRecDepth 20000 in
theorem ggX8_alarm_X3_grow : GoodIn wsX8_alarm wsX3_grow := goodIn_r _ [52, 53, 54, 51, 55, 56, 57, 58, 59, 60, 61, 62, 63, 64, 65, 66, 67, 68, 69, 70, 71, 72, 150, 151, 152, 153, 154, 155, 156, 157] (by decide +kernel) (by decide +kernel)
set_option maxRecDepth 20000 in
theorem gX8_alarm_X3_grow : GoodIn wsX8_alarm (wsV RX8 82 RX3 yX3_grow wsX3_grow) := goodIn_app (goodIn_of _ (by decide +kernel)) ggX8_alarm_X3_grow
set_option maxRecDepth 20000 in
theorem ggX8_alarm_X0_init : GoodIn wsX8_alarm wsX0_init := goodIn_r _ [75, 76, 69, 70, 35, 77, 78, 79, 80, 81, 82, 83, 84, 85, 86, 87, 47, 88, 89, 90, 91, 92, 133, 134, 135, 136, 137, 138, 139, 140, 141, 142, 143, 144, 145, 146, 147, 148, 149, 158, 159, 160, 161] (by decide +kernel) (by decide +kernel)
set_option maxRecDepth 20000 in
theorem gX8_alarm_X0_init : GoodIn wsX8_alarm (wsX0_init) := ggX8_alarm_X0_init
set_option maxRecDepth 20000 in
theorem ggX8_alarm_X8_isSilencedNow : GoodIn wsX8_alarm wsX8_isSilencedNow := goodIn_r _ [96, 97, 98, 1, 99, 100, 101, 102, 103, 104, 105, 106, 119, 120, 121, 122, 123, 124, 125, 126, 127, 128, 129, 130, 131, 132, 162, 163, 164] (by decide +kernel) (by decide +kernel)
set_option maxRecDepth 20000 in
theorem gX8_alarm_X8_isSilencedNow : GoodIn wsX8_alarm (wsV RX8 89 RX8 yX8_isSilencedNow wsX8_isSilencedNow) := goodIn_app (goodIn_of _ (by decide +kernel)) ggX8_alarm_X8_isSilencedNow
set_option maxRecDepth 20000 in
theorem ggX8_alarm_X8_isCapFullNow : GoodIn wsX8_alarm wsX8_isCapFullNow := goodIn_r _ [110, 3, 1, 13, 111, 23, 112, 113, 37, 38, 6, 39, 40, 41, 119, 120, 121, 122, 123, 124, 125, 126, 127, 128, 129, 130, 131, 132, 133, 134, 135, 136, 137, 138, 139, 140, 141, 142, 143, 144, 145, 146, 147, 148, 149] (by decide +kernel) (by decide +kernel)
set_option maxRecDepth 20000 in
theorem gX8_alarm_X8_isCapFullNow : GoodIn wsX8_alarm (wsV RX8 97 RX8 yX8_isCapFullNow wsX8_isCapFullNow) := goodIn_app (goodIn_of _ (by decide +kernel)) ggX8_alarm_X8_isCapFullNow
set_option maxRecDepth 20000 in
theorem ggX8_alarm_X3_addOpen : GoodIn wsX8_alarm wsX3_addOpen := goodIn_r _ [117, 118, 71, 150, 151, 152, 153, 154, 155, 156, 157] (by decide +kernel) (by decide +kernel)
set_option maxRecDepth 20000 in
theorem gX8_alarm_X3_addOpen : GoodIn wsX8_alarm (wsV RX8 106 RX3 yX3_addOpen wsX3_addOpen) := goodIn_app (goodIn_of _ (by decide +kernel)) ggX8_alarm_X3_addOpen
set_option maxRecDepth 20000 in
theorem ggX8_silence_X8_isBelow : GoodIn wsX8_silence wsX8_isBelow := goodIn_r _ [9] (by decide +kernel) (by decide +kernel)
set_option maxRecDepth 20000 in
theorem gX8_silence_X8_isBelow : GoodIn wsX8_silence (va_wsS RX8 64 yX8_isBelow wsX8_isBelow) := goodIn_app (goodIn_of _ (by decide +kernel)) ggX8_silence_X8_isBelow
set_option maxRecDepth 20000 in
theorem ggX8_silence_X6_init : GoodIn wsX8_silence wsX6_init := goodIn_r _ [12, 13, 14, 15, 16, 17, 18, 33, 34, 35] (by decide +kernel) (by decide +kernel)
set_option maxRecDepth 20000 in
theorem gX8_silence_X6_init : GoodIn wsX8_silence (wsX6_init) := ggX8_silence_X6_init
set_option maxRecDepth 20000 in
theorem ggX8_verdict_X8_alarmAt : GoodIn wsX8_verdict wsX8_alarmAt := goodIn_r _ [7, 8, 9, 10, 11, 6, 12, 64, 65, 66, 67, 68, 69, 70, 71, 72, 73, 74, 75, 76, 77] (by decide +kernel) (by decide +kernel)
set_option maxRecDepth 20000 in
theorem gX8_verdict_X8_alarmAt : GoodIn wsX8_verdict (wsV RX8 125 RX8 yX8_alarmAt wsX8_alarmAt) := goodIn_app (goodIn_of _ (by decide +kernel)) ggX8_verdict_X8_alarmAt
set_option maxRecDepth 20000 in
theorem ggX8_verdict_X8_isBelow : GoodIn wsX8_verdict wsX8_isBelow := goodIn_r _ [12] (by decide +kernel) (by decide +kernel)
set_option maxRecDepth 20000 in
theorem gX8_verdict_X8_isBelow : GoodIn wsX8_verdict (va_wsS RX8 64 yX8_isBelow wsX8_isBelow) := goodIn_app (goodIn_of _ (by decide +kernel)) ggX8_verdict_X8_isBelow
set_option maxRecDepth 20000 in
theorem ggX8_verdict_X0_isOpen : GoodIn wsX8_verdict wsX0_isOpen := goodIn_r _ [17, 18, 47, 48, 49, 50, 51, 52, 53, 54, 55, 56, 57, 58, 59, 60, 61, 62, 63] (by decide +kernel) (by decide +kernel)
set_option maxRecDepth 20000 in
theorem gX8_verdict_X0_isOpen : GoodIn wsX8_verdict (wsV RX8 129 RX0 yX0_isOpen wsX0_isOpen) := goodIn_app (goodIn_of _ (by decide +kernel)) ggX8_verdict_X0_isOpen
set_option maxRecDepth 20000 in
theorem ggX8_verdict_X0_hasHeard : GoodIn wsX8_verdict wsX0_hasHeard := goodIn_r _ [22, 23, 24, 47, 48, 49, 50, 51, 52, 53, 54, 55, 56, 57, 58, 59, 60, 61, 62, 63] (by decide +kernel) (by decide +kernel)
set_option maxRecDepth 20000 in
theorem gX8_verdict_X0_hasHeard : GoodIn wsX8_verdict (wsV RX8 133 RX0 yX0_hasHeard wsX0_hasHeard) := goodIn_app (goodIn_of _ (by decide +kernel)) ggX8_verdict_X0_hasHeard
set_option maxRecDepth 20000 in
theorem ggX8_verdict_X0_hear : GoodIn wsX8_verdict wsX0_hear := goodIn_r _ [28, 23, 24, 18, 29, 30, 31, 32, 33, 34, 35, 47, 48, 49, 50, 51, 52, 53, 54, 55, 56, 57, 58, 59, 60, 61, 62, 63] (by decide +kernel) (by decide +kernel)
set_option maxRecDepth 20000 in
theorem gX8_verdict_X0_hear : GoodIn wsX8_verdict (wsV RX8 136 RX0 yX0_hear wsX0_hear) := goodIn_app (goodIn_of _ (by decide +kernel)) ggX8_verdict_X0_hear
set_option maxRecDepth 20000 in
theorem ggX8_verdict_X3_settle : GoodIn wsX8_verdict wsX3_settle := goodIn_r _ [40, 41, 42, 43, 44, 45, 6, 46, 78, 79, 80, 81, 82, 83, 84, 85] (by decide +kernel) (by decide +kernel)
set_option maxRecDepth 20000 in
theorem gX8_verdict_X3_settle : GoodIn wsX8_verdict (wsV RX8 140 RX3 yX3_settle wsX3_settle) := goodIn_app (goodIn_of _ (by decide +kernel)) ggX8_verdict_X3_settle
set_option maxRecDepth 20000 in
theorem ggX8_tie_X8_isBelow : GoodIn wsX8_tie wsX8_isBelow := goodIn_r _ [7] (by decide +kernel) (by decide +kernel)
set_option maxRecDepth 20000 in
theorem gX8_tie_X8_isBelow : GoodIn wsX8_tie (va_wsS RX8 64 yX8_isBelow wsX8_isBelow) := goodIn_app (goodIn_of _ (by decide +kernel)) ggX8_tie_X8_isBelow
set_option maxRecDepth 20000 in
theorem ggX8_tie_X7_tell : GoodIn wsX8_tie wsX7_tell := goodIn_r _ [12, 13, 14, 15, 16, 17, 18, 19, 20, 21, 22, 23, 24, 25, 26, 27, 28, 11, 29, 30, 31, 32, 33, 34, 35, 36, 37, 38, 39, 40, 55, 56, 57, 58, 59] (by decide +kernel) (by decide +kernel)
set_option maxRecDepth 20000 in
theorem gX8_tie_X7_tell : GoodIn wsX8_tie (wsV RX8 144 RX7 yX7_tell wsX7_tell) := goodIn_app (goodIn_of _ (by decide +kernel)) ggX8_tie_X7_tell
set_option maxRecDepth 20000 in
theorem ggX8_told_X8_alarmAt : GoodIn wsX8_told wsX8_alarmAt := goodIn_r _ [16, 17, 18, 19, 20, 15, 21, 197, 198, 199, 200, 201, 202, 203, 204, 205, 206, 207, 208, 209, 210] (by decide +kernel) (by decide +kernel)
set_option maxRecDepth 20000 in
theorem gX8_told_X8_alarmAt : GoodIn wsX8_told (wsV RX8 125 RX8 yX8_alarmAt wsX8_alarmAt) := goodIn_app (goodIn_of _ (by decide +kernel)) ggX8_told_X8_alarmAt
set_option maxRecDepth 20000 in
theorem ggX8_told_X8_oneIf : GoodIn wsX8_told wsX8_oneIf := goodIn_r _ [24] (by decide +kernel) (by decide +kernel)
set_option maxRecDepth 20000 in
theorem gX8_told_X8_oneIf : GoodIn wsX8_told (va_wsS RX8 169 yX8_oneIf wsX8_oneIf) := goodIn_app (goodIn_of _ (by decide +kernel)) ggX8_told_X8_oneIf
set_option maxRecDepth 20000 in
theorem ggX8_told_X0_score : GoodIn wsX8_told wsX0_score := goodIn_r _ [29, 30, 31, 32, 33, 28, 34, 35, 36, 37, 38, 39, 40, 41, 42, 43, 44, 45, 46, 47, 48, 180, 181, 182, 183, 184, 185, 186, 187, 188, 189, 190, 191, 192, 193, 194, 195, 196, 211, 212, 213, 214, 215, 216, 217, 218] (by decide +kernel) (by decide +kernel)
set_option maxRecDepth 20000 in
theorem gX8_told_X0_score : GoodIn wsX8_told (wsV RX8 173 RX0 yX0_score wsX0_score) := goodIn_app (goodIn_of _ (by decide +kernel)) ggX8_told_X0_score
set_option maxRecDepth 20000 in
theorem ggX8_told_X0_nodeFor : GoodIn wsX8_told wsX0_nodeFor := goodIn_r _ [34, 35, 36, 37, 180, 181, 182, 183, 184, 185, 186, 187, 188, 189, 190, 191, 192, 193, 194, 195, 196, 211, 212, 213, 214, 215, 216, 217, 218] (by decide +kernel) (by decide +kernel)
set_option maxRecDepth 20000 in
theorem gX8_told_X0_nodeFor : GoodIn wsX8_told (wsV RX8 177 RX0 yX0_nodeFor wsX0_nodeFor) := goodIn_app (goodIn_of _ (by decide +kernel)) ggX8_told_X0_nodeFor
set_option maxRecDepth 20000 in
theorem ggX8_told_X0_verdicts : GoodIn wsX8_told wsX0_verdicts := goodIn_r _ [53, 54, 55, 56, 57, 58, 59, 60, 61, 62, 180, 181, 182, 183, 184, 185, 186, 187, 188, 189, 190, 191, 192, 193, 194, 195, 196] (by decide +kernel) (by decide +kernel)
set_option maxRecDepth 20000 in
theorem gX8_told_X0_verdicts : GoodIn wsX8_told (wsV RX8 183 RX0 yX0_verdicts wsX0_verdicts) := goodIn_app (goodIn_of _ (by decide +kernel)) ggX8_told_X0_verdicts
set_option maxRecDepth 20000 in
theorem ggX8_told_X8_caseNumberOf : GoodIn wsX8_told wsX8_caseNumberOf := goodIn_r _ [66, 67, 68, 69, 70, 15, 71, 72, 73, 18, 17, 74, 10, 75, 76, 77, 78, 79, 80, 81, 82, 83, 84, 85, 86, 87, 88, 89, 90, 91, 92, 28, 93, 94, 95, 96, 97, 98, 99, 100, 101, 102, 103, 104, 105, 106, 107, 108, 109, 110, 111, 112, 113, 114, 115, 116, 117, 118, 119, 120, 121, 122, 123, 124, 125, 126, 127, 128, 129, 130, 131, 132, 133, 134, 135, 136, 137, 138, 139, 140, 141, 142, 143, 144, 145, 146, 147, 148, 149, 150, 20, 21, 151, 152, 153, 154, 155, 26, 27, 29, 30, 31, 32, 33, 34, 35, 36, 37, 38, 39, 40, 41, 42, 43, 44, 45, 46, 47, 48, 156, 157, 158, 159, 160, 161, 162, 163, 164, 165, 166, 167, 168, 169, 170, 171, 172, 173, 174, 175, 176, 177, 178, 179, 180, 181, 182, 183, 184, 185, 186, 187, 188, 189, 190, 191, 192, 193, 194, 195, 196, 197, 198, 199, 200, 201, 202, 203, 204, 205, 206, 207, 208, 209, 210, 219, 220, 221, 222, 223, 224, 225, 226, 227, 211, 212, 213, 214, 215, 216, 217, 218, 228, 229] (by decide +kernel) (by decide +kernel)
set_option maxRecDepth 20000 in
theorem gX8_told_X8_caseNumberOf : GoodIn wsX8_told (wsV RX8 187 RX8 yX8_caseNumberOf wsX8_caseNumberOf) := goodIn_app (goodIn_of _ (by decide +kernel)) ggX8_told_X8_caseNumberOf
set_option maxRecDepth 20000 in
theorem ggX8_node_X8_isBelow : GoodIn wsX8_node wsX8_isBelow := goodIn_r _ [8] (by decide +kernel) (by decide +kernel)
set_option maxRecDepth 20000 in
theorem gX8_node_X8_isBelow : GoodIn wsX8_node (va_wsS RX8 64 yX8_isBelow wsX8_isBelow) := goodIn_app (goodIn_of _ (by decide +kernel)) ggX8_node_X8_isBelow
set_option maxRecDepth 20000 in
theorem ggX8_node_X3_find : GoodIn wsX8_node wsX3_find := goodIn_r _ [13, 14, 15, 12, 16, 17, 18, 19, 20, 21, 22, 23, 38, 39, 40, 41, 42, 43, 44, 45] (by decide +kernel) (by decide +kernel)
set_option maxRecDepth 20000 in
theorem gX8_node_X3_find : GoodIn wsX8_node (wsV RX8 191 RX3 yX3_find wsX3_find) := goodIn_app (goodIn_of _ (by decide +kernel)) ggX8_node_X3_find
set_option maxRecDepth 20000 in
theorem ggX8_odds_X8_alarmAt : GoodIn wsX8_odds wsX8_alarmAt := goodIn_r _ [9, 10, 11, 12, 13, 8, 14, 37, 38, 39, 40, 41, 42, 43, 44, 45, 46, 47, 48, 49, 50] (by decide +kernel) (by decide +kernel)
set_option maxRecDepth 20000 in
theorem gX8_odds_X8_alarmAt : GoodIn wsX8_odds (wsV RX8 125 RX8 yX8_alarmAt wsX8_alarmAt) := goodIn_app (goodIn_of _ (by decide +kernel)) ggX8_odds_X8_alarmAt
set_option maxRecDepth 20000 in
theorem ggX8_odds_X0_nodeFor : GoodIn wsX8_odds wsX0_nodeFor := goodIn_r _ [19, 20, 21, 22, 59, 60, 61, 62, 63, 64, 65, 66, 67, 68, 69, 70, 71, 72, 73, 74, 75, 51, 52, 53, 54, 55, 56, 57, 58] (by decide +kernel) (by decide +kernel)
set_option maxRecDepth 20000 in
theorem gX8_odds_X0_nodeFor : GoodIn wsX8_odds (wsV RX8 177 RX0 yX0_nodeFor wsX0_nodeFor) := goodIn_app (goodIn_of _ (by decide +kernel)) ggX8_odds_X0_nodeFor
set_option maxRecDepth 20000 in
theorem ggX8_odds_X3_oddsUpper : GoodIn wsX8_odds wsX3_oddsUpper := goodIn_r _ [27, 28, 29, 51, 52, 53, 54, 55, 56, 57, 58] (by decide +kernel) (by decide +kernel)
set_option maxRecDepth 20000 in
theorem gX8_odds_X3_oddsUpper : GoodIn wsX8_odds (wsV RX8 204 RX3 yX3_oddsUpper wsX3_oddsUpper) := goodIn_app (goodIn_of _ (by decide +kernel)) ggX8_odds_X3_oddsUpper
set_option maxRecDepth 20000 in
theorem ggX8_odds_X3_oddsLower : GoodIn wsX8_odds wsX3_oddsLower := goodIn_r _ [33, 28, 51, 52, 53, 54, 55, 56, 57, 58] (by decide +kernel) (by decide +kernel)
set_option maxRecDepth 20000 in
theorem gX8_odds_X3_oddsLower : GoodIn wsX8_odds (wsV RX8 207 RX3 yX3_oddsLower wsX3_oddsLower) := goodIn_app (goodIn_of _ (by decide +kernel)) ggX8_odds_X3_oddsLower
set_option maxRecDepth 20000 in
theorem ggX8_odds_X8_inLowestTerms : GoodIn wsX8_odds wsX8_inLowestTerms := goodIn_r _ [36] (by decide +kernel) (by decide +kernel)
set_option maxRecDepth 20000 in
theorem gX8_odds_X8_inLowestTerms : GoodIn wsX8_odds (va_wsS RX8 210 yX8_inLowestTerms wsX8_inLowestTerms) := goodIn_app (goodIn_of _ (by decide +kernel)) ggX8_odds_X8_inLowestTerms
set_option maxRecDepth 20000 in
theorem ggX8_order_X8_casesNow : GoodIn wsX8_order wsX8_casesNow := goodIn_r _ [6, 7, 8, 9, 10, 11, 12, 13, 14, 15, 16, 17, 18, 19, 20, 21, 22, 23, 24, 25, 26, 27, 28, 29, 30, 31, 32, 33, 34, 35, 36, 37, 38, 39, 40, 41, 42, 43, 44, 45, 46, 47, 48, 49, 50, 51, 52, 53, 54, 55, 56, 57, 58, 59, 60, 61, 62, 63, 64, 65, 66, 67, 68, 69, 70, 71, 72, 73, 74, 75, 76, 77, 78, 79, 80, 81, 82, 83, 84, 85, 86, 87, 88, 89, 90, 5, 91, 92, 93, 94, 95, 96, 97, 98, 99, 100, 101, 102, 103, 104, 105, 106, 107, 108, 109, 110, 111, 112, 113, 114, 115, 116, 117, 118, 119, 120, 121, 122, 123, 124, 125, 126, 127, 128, 129, 130, 131, 132, 133, 134, 135, 136, 137, 138, 139, 140, 149, 150, 151, 152, 153, 154, 155, 156, 157, 158, 159, 160, 161, 162, 163, 164, 165, 166, 167, 168, 169, 170, 171, 172, 173, 174, 175, 176, 177, 178, 179, 145, 146, 147, 148, 180, 181, 182, 183, 184, 185, 186, 187, 188, 189, 190, 191, 192, 193, 194] (by decide +kernel) (by decide +kernel)
set_option maxRecDepth 20000 in
theorem gX8_order_X8_casesNow : GoodIn wsX8_order (wsV RX8 214 RX8 yX8_casesNow wsX8_casesNow) := goodIn_app (goodIn_of _ (by decide +kernel)) ggX8_order_X8_casesNow
set_option maxRecDepth 20000 in
theorem ggX8_order_X2_at : GoodIn wsX8_order wsX2_at := goodIn_r _ [144, 129, 135, 90, 5, 91, 193, 194] (by decide +kernel) (by decide +kernel)
set_option maxRecDepth 20000 in
theorem gX8_order_X2_at : GoodIn wsX8_order (wsV RX8 218 RX2 yX2_at wsX2_at) := goodIn_app (goodIn_of _ (by decide +kernel)) ggX8_order_X2_at
set_option maxRecDepth 20000 in
theorem ggX8_caseOf_X8_casesNow : GoodIn wsX8_caseOf wsX8_casesNow := goodIn_r _ [10, 11, 12, 13, 14, 15, 16, 17, 18, 19, 20, 21, 22, 23, 24, 25, 26, 27, 28, 29, 30, 31, 32, 33, 34, 35, 36, 37, 38, 39, 40, 41, 42, 43, 44, 45, 46, 47, 48, 49, 50, 51, 52, 53, 54, 55, 56, 57, 58, 59, 60, 61, 62, 63, 64, 65, 66, 67, 68, 69, 70, 71, 72, 73, 74, 75, 76, 77, 78, 79, 80, 81, 82, 83, 84, 85, 86, 87, 88, 89, 90, 91, 92, 93, 94, 9, 95, 96, 97, 98, 99, 100, 101, 102, 103, 104, 105, 106, 107, 108, 109, 110, 111, 112, 113, 114, 115, 116, 117, 118, 119, 120, 121, 122, 123, 124, 125, 126, 127, 128, 129, 130, 131, 132, 133, 134, 135, 136, 137, 138, 139, 140, 141, 142, 143, 144, 185, 186, 187, 188, 189, 190, 191, 192, 193, 194, 195, 196, 197, 198, 164, 165, 166, 167, 168, 169, 170, 171, 172, 173, 174, 175, 176, 177, 178, 179, 180, 181, 182, 183, 184, 199, 200, 201, 202, 203, 204, 205, 206, 207, 208, 209, 210, 211, 212, 213] (by decide +kernel) (by decide +kernel)
set_option maxRecDepth 20000 in
theorem gX8_caseOf_X8_casesNow : GoodIn wsX8_caseOf (wsV RX8 214 RX8 yX8_casesNow wsX8_casesNow) := goodIn_app (goodIn_of _ (by decide +kernel)) ggX8_caseOf_X8_casesNow
set_option maxRecDepth 20000 in
theorem ggX8_caseOf_X8_alarmAt : GoodIn wsX8_caseOf wsX8_alarmAt := goodIn_r _ [148, 14, 13, 149, 94, 9, 95, 185, 186, 187, 188, 189, 190, 191, 192, 193, 194, 195, 196, 197, 198] (by decide +kernel) (by decide +kernel)
set_option maxRecDepth 20000 in
theorem gX8_caseOf_X8_alarmAt : GoodIn wsX8_caseOf (wsV RX8 125 RX8 yX8_alarmAt wsX8_alarmAt) := goodIn_app (goodIn_of _ (by decide +kernel)) ggX8_caseOf_X8_alarmAt
set_option maxRecDepth 20000 in
theorem ggX8_caseOf_X0_isLive : GoodIn wsX8_caseOf wsX0_isLive := goodIn_r _ [36, 37, 38, 39, 35, 40, 41, 42, 43, 44, 45, 46, 47, 164, 165, 166, 167, 168, 169, 170, 171, 172, 173, 174, 175, 176, 177, 178, 179, 180] (by decide +kernel) (by decide +kernel)
set_option maxRecDepth 20000 in
theorem gX8_caseOf_X0_isLive : GoodIn wsX8_caseOf (wsV RX8 225 RX0 yX0_isLive wsX0_isLive) := goodIn_app (goodIn_of _ (by decide +kernel)) ggX8_caseOf_X0_isLive
set_option maxRecDepth 20000 in
theorem ggX8_caseOf_X1_minutes : GoodIn wsX8_caseOf wsX1_minutes := goodIn_r _ [154, 29, 181, 182, 183, 184] (by decide +kernel) (by decide +kernel)
set_option maxRecDepth 20000 in
theorem gX8_caseOf_X1_minutes : GoodIn wsX8_caseOf (wsV RX8 240 RX1 yX1_minutes wsX1_minutes) := goodIn_app (goodIn_of _ (by decide +kernel)) ggX8_caseOf_X1_minutes
set_option maxRecDepth 20000 in
theorem ggX8_caseOf_X8_oneIf : GoodIn wsX8_caseOf wsX8_oneIf := goodIn_r _ [157] (by decide +kernel) (by decide +kernel)
set_option maxRecDepth 20000 in
theorem gX8_caseOf_X8_oneIf : GoodIn wsX8_caseOf (va_wsS RX8 169 yX8_oneIf wsX8_oneIf) := goodIn_app (goodIn_of _ (by decide +kernel)) ggX8_caseOf_X8_oneIf
set_option maxRecDepth 20000 in
theorem ggX8_caseOf_X8_memberOf : GoodIn wsX8_caseOf wsX8_memberOf := goodIn_r _ [161, 162, 14, 13, 150, 33, 34, 35, 36, 37, 38, 39, 40, 41, 42, 43, 44, 45, 46, 47, 163, 55, 56, 57, 58, 164, 165, 166, 167, 168, 169, 170, 171, 172, 173, 174, 175, 176, 177, 178, 179, 180, 185, 186, 187, 188, 189, 190, 191, 192, 193, 194, 195, 196, 197, 198] (by decide +kernel) (by decide +kernel)
set_option maxRecDepth 20000 in
theorem gX8_caseOf_X8_memberOf : GoodIn wsX8_caseOf (wsV RX8 246 RX8 yX8_memberOf wsX8_memberOf) := goodIn_app (goodIn_of _ (by decide +kernel)) ggX8_caseOf_X8_memberOf
set_option maxRecDepth 20000 in
theorem ggX8_slow_X8_isBelow : GoodIn wsX8_slow wsX8_isBelow := goodIn_r _ [9] (by decide +kernel) (by decide +kernel)
set_option maxRecDepth 20000 in
theorem gX8_slow_X8_isBelow : GoodIn wsX8_slow (va_wsS RX8 64 yX8_isBelow wsX8_isBelow) := goodIn_app (goodIn_of _ (by decide +kernel)) ggX8_slow_X8_isBelow
set_option maxRecDepth 20000 in
theorem ggX8_slow_X0_isLive : GoodIn wsX8_slow wsX0_isLive := goodIn_r _ [14, 15, 16, 17, 13, 18, 19, 20, 21, 22, 23, 24, 25, 63, 64, 65, 66, 67, 68, 69, 70, 71, 72, 73, 74, 75, 76, 77, 78, 79] (by decide +kernel) (by decide +kernel)
set_option maxRecDepth 20000 in
theorem gX8_slow_X0_isLive : GoodIn wsX8_slow (wsV RX8 225 RX0 yX0_isLive wsX0_isLive) := goodIn_app (goodIn_of _ (by decide +kernel)) ggX8_slow_X0_isLive
set_option maxRecDepth 20000 in
theorem ggX8_slow_X0_score : GoodIn wsX8_slow wsX0_score := goodIn_r _ [29, 30, 31, 32, 33, 13, 34, 35, 36, 37, 38, 39, 40, 41, 42, 43, 44, 45, 46, 47, 48, 63, 64, 65, 66, 67, 68, 69, 70, 71, 72, 73, 74, 75, 76, 77, 78, 79, 80, 81, 82, 83, 84, 85, 86, 87] (by decide +kernel) (by decide +kernel)
set_option maxRecDepth 20000 in
theorem gX8_slow_X0_score : GoodIn wsX8_slow (wsV RX8 173 RX0 yX0_score wsX0_score) := goodIn_app (goodIn_of _ (by decide +kernel)) ggX8_slow_X0_score
set_option maxRecDepth 20000 in
theorem ggX8_plan_X8_casesNow : GoodIn wsX8_plan wsX8_casesNow := goodIn_r _ [9, 10, 11, 12, 13, 14, 15, 16, 17, 18, 19, 20, 21, 22, 23, 24, 25, 26, 27, 28, 29, 30, 31, 32, 33, 34, 35, 36, 37, 38, 39, 40, 41, 42, 43, 44, 45, 46, 47, 48, 49, 50, 51, 52, 53, 54, 55, 56, 57, 58, 59, 60, 61, 62, 63, 64, 65, 66, 67, 68, 69, 70, 71, 72, 73, 74, 75, 76, 77, 78, 79, 80, 81, 82, 83, 84, 85, 86, 87, 88, 89, 90, 91, 92, 93, 8, 94, 95, 96, 97, 98, 99, 100, 101, 102, 103, 104, 105, 106, 107, 108, 109, 110, 111, 112, 113, 114, 115, 116, 117, 118, 119, 120, 121, 122, 123, 124, 125, 126, 127, 128, 129, 130, 131, 132, 133, 134, 135, 136, 137, 138, 139, 140, 141, 142, 143, 195, 196, 197, 198, 199, 200, 201, 202, 203, 204, 205, 206, 207, 208, 221, 222, 223, 224, 225, 226, 227, 228, 229, 230, 231, 232, 233, 234, 235, 236, 237, 217, 218, 219, 220, 238, 239, 240, 241, 242, 243, 244, 245, 246, 247, 248, 249, 250, 251, 252] (by decide +kernel) (by decide +kernel)
set_option maxRecDepth 20000 in
theorem gX8_plan_X8_casesNow : GoodIn wsX8_plan (wsV RX8 214 RX8 yX8_casesNow wsX8_casesNow) := goodIn_app (goodIn_of _ (by decide +kernel)) ggX8_plan_X8_casesNow
set_option maxRecDepth 20000 in
theorem ggX8_plan_X5_make : GoodIn wsX8_plan wsX5_make := goodIn_r _ [148, 149, 150, 151, 152, 69, 70, 71, 153, 73, 74, 154, 155, 156, 157, 147, 158, 159, 160, 161, 162, 163, 164, 26, 165, 28, 166, 167, 168, 169, 170, 171, 172, 173, 174, 175, 176, 177, 178, 179, 180, 181, 182, 183, 184, 185, 186, 187, 188, 189, 190, 209, 210, 211, 212, 213, 214, 215, 216, 251, 252, 217, 218, 219, 220] (by decide +kernel) (by decide +kernel)
set_option maxRecDepth 20000 in
theorem gX8_plan_X5_make : GoodIn wsX8_plan (wsV RX8 250 RX5 yX5_make wsX5_make) := goodIn_app (goodIn_of _ (by decide +kernel)) ggX8_plan_X5_make
set_option maxRecDepth 20000 in
theorem ggX8_plan_X5_at : GoodIn wsX8_plan wsX5_at := goodIn_r _ [194, 149, 170, 93, 8, 94, 209, 210, 211, 212, 213, 214, 215, 216] (by decide +kernel) (by decide +kernel)
set_option maxRecDepth 20000 in
theorem gX8_plan_X5_at : GoodIn wsX8_plan (wsV RX8 257 RX5 yX5_at wsX5_at) := goodIn_app (goodIn_of _ (by decide +kernel)) ggX8_plan_X5_at
set_option maxRecDepth 20000 in
theorem ggX8_worth_X8_casesNow : GoodIn wsX8_worth wsX8_casesNow := goodIn_r _ [10, 11, 4, 12, 13, 14, 15, 16, 17, 18, 19, 20, 21, 22, 23, 24, 25, 26, 27, 28, 29, 30, 31, 32, 33, 34, 35, 36, 37, 38, 39, 40, 41, 42, 43, 44, 45, 46, 47, 48, 49, 50, 51, 52, 53, 54, 55, 56, 57, 58, 59, 60, 61, 62, 63, 64, 65, 66, 67, 68, 69, 70, 71, 72, 73, 74, 75, 76, 77, 78, 79, 80, 81, 82, 83, 84, 85, 86, 87, 88, 89, 90, 91, 92, 93, 9, 94, 95, 96, 97, 98, 99, 100, 101, 102, 103, 104, 105, 106, 107, 108, 109, 110, 111, 112, 113, 114, 115, 116, 117, 118, 119, 120, 121, 122, 123, 124, 125, 126, 127, 128, 129, 130, 131, 132, 133, 134, 135, 136, 137, 138, 139, 140, 141, 142, 143, 196, 197, 198, 199, 200, 201, 202, 203, 204, 205, 206, 207, 208, 209, 218, 219, 220, 221, 222, 223, 224, 225, 226, 227, 228, 229, 230, 231, 232, 233, 234, 235, 236, 237, 238, 239, 240, 241, 242, 243, 244, 245, 246, 247, 248, 249, 250, 251, 252, 253] (by decide +kernel) (by decide +kernel)
set_option maxRecDepth 20000 in
theorem gX8_worth_X8_casesNow : GoodIn wsX8_worth (wsV RX8 214 RX8 yX8_casesNow wsX8_casesNow) := goodIn_app (goodIn_of _ (by decide +kernel)) ggX8_worth_X8_casesNow
set_option maxRecDepth 20000 in
theorem ggX8_worth_X5_make : GoodIn wsX8_worth wsX5_make := goodIn_r _ [148, 149, 150, 151, 152, 69, 70, 71, 153, 73, 74, 154, 155, 156, 157, 147, 158, 159, 160, 161, 162, 163, 164, 26, 165, 28, 166, 167, 168, 169, 170, 171, 172, 173, 174, 175, 176, 177, 178, 179, 180, 181, 182, 183, 184, 185, 186, 187, 188, 189, 190, 210, 211, 212, 213, 214, 215, 216, 217, 252, 253, 235, 236, 237, 238] (by decide +kernel) (by decide +kernel)
set_option maxRecDepth 20000 in
theorem gX8_worth_X5_make : GoodIn wsX8_worth (wsV RX8 250 RX5 yX5_make wsX5_make) := goodIn_app (goodIn_of _ (by decide +kernel)) ggX8_worth_X5_make
set_option maxRecDepth 20000 in
theorem ggX8_worth_X2_scoreOfAll : GoodIn wsX8_worth wsX2_scoreOfAll := goodIn_r _ [194, 132, 138, 195, 252, 253, 235, 236, 237, 238] (by decide +kernel) (by decide +kernel)
set_option maxRecDepth 20000 in
theorem gX8_worth_X2_scoreOfAll : GoodIn wsX8_worth (wsV RX8 261 RX2 yX2_scoreOfAll wsX2_scoreOfAll) := goodIn_app (goodIn_of _ (by decide +kernel)) ggX8_worth_X2_scoreOfAll
set_option maxRecDepth 20000 in
theorem ggX8_source_X8_isBelow : GoodIn wsX8_source wsX8_isBelow := goodIn_r _ [7] (by decide +kernel) (by decide +kernel)
set_option maxRecDepth 20000 in
theorem gX8_source_X8_isBelow : GoodIn wsX8_source (va_wsS RX8 64 yX8_isBelow wsX8_isBelow) := goodIn_app (goodIn_of _ (by decide +kernel)) ggX8_source_X8_isBelow
set_option maxRecDepth 20000 in
theorem ggX8_source_X8_isOfKind : GoodIn wsX8_source wsX8_isOfKind := goodIn_r _ [10, 11, 12, 13, 14, 15, 16, 17, 18, 19, 20, 21, 36, 37, 38, 39, 40, 41, 42, 43, 44, 45, 46, 47, 48, 49, 50, 51, 52] (by decide +kernel) (by decide +kernel)
set_option maxRecDepth 20000 in
theorem gX8_source_X8_isOfKind : GoodIn wsX8_source (va_wsS RX8 267 yX8_isOfKind wsX8_isOfKind) := goodIn_app (goodIn_of _ (by decide +kernel)) ggX8_source_X8_isOfKind
set_option maxRecDepth 20000 in
theorem ggX8_count_X8_casesNow : GoodIn wsX8_count wsX8_casesNow := goodIn_r _ [13, 14, 15, 16, 2, 7, 17, 18, 19, 20, 21, 22, 23, 24, 25, 26, 27, 28, 29, 30, 31, 32, 33, 34, 35, 36, 37, 38, 39, 40, 41, 42, 43, 44, 45, 46, 47, 48, 49, 50, 51, 52, 53, 54, 55, 56, 57, 58, 59, 60, 61, 62, 63, 64, 65, 66, 67, 68, 69, 70, 71, 72, 73, 74, 75, 76, 77, 78, 79, 80, 81, 82, 83, 84, 85, 86, 87, 88, 89, 90, 91, 92, 93, 94, 95, 12, 96, 97, 98, 99, 100, 101, 102, 103, 104, 105, 106, 107, 108, 109, 110, 111, 112, 113, 114, 115, 116, 117, 118, 119, 120, 121, 122, 123, 124, 125, 126, 127, 128, 129, 130, 131, 132, 133, 134, 135, 136, 137, 138, 139, 140, 141, 142, 143, 144, 145, 146, 147, 148, 149, 150, 151, 152, 153, 154, 155, 156, 157, 158, 159, 172, 173, 174, 175, 176, 177, 178, 179, 180, 181, 182, 183, 184, 185, 186, 187, 188, 189, 190, 191, 192, 193, 194, 195, 170, 171, 160, 161, 162, 163, 164, 165, 166, 167, 168, 169] (by decide +kernel) (by decide +kernel)
set_option maxRecDepth 20000 in
theorem gX8_count_X8_casesNow : GoodIn wsX8_count (wsV RX8 214 RX8 yX8_casesNow wsX8_casesNow) := goodIn_app (goodIn_of _ (by decide +kernel)) ggX8_count_X8_casesNow
set_option maxRecDepth 20000 in
theorem ggX8_isOfKind_X0_isHushed : GoodIn wsX8_isOfKind wsX0_isHushed := goodIn_r _ [9, 10, 11, 12, 13, 14, 15, 16, 17, 18, 19, 20, 21, 22, 23, 24, 25, 26, 27, 28] (by decide +kernel) (by decide +kernel)
set_option maxRecDepth 20000 in
theorem gX8_isOfKind_X0_isHushed : GoodIn wsX8_isOfKind (wsV RX8 273 RX0 yX0_isHushed wsX0_isHushed) := goodIn_app (goodIn_of _ (by decide +kernel)) ggX8_isOfKind_X0_isHushed
set_option maxRecDepth 20000 in
theorem ggX8_alarmAt_X8_isBelow : GoodIn wsX8_alarmAt wsX8_isBelow := goodIn_r _ [6] (by decide +kernel) (by decide +kernel)
set_option maxRecDepth 20000 in
theorem gX8_alarmAt_X8_isBelow : GoodIn wsX8_alarmAt (va_wsS RX8 64 yX8_isBelow wsX8_isBelow) := goodIn_app (goodIn_of _ (by decide +kernel)) ggX8_alarmAt_X8_isBelow
set_option maxRecDepth 20000 in
theorem ggX8_alarmToRepeat_X0_isLive : GoodIn wsX8_alarmToRepeat wsX0_isLive := goodIn_r _ [12, 13, 14, 15, 11, 16, 17, 18, 19, 20, 21, 22, 23, 38, 39, 40, 41, 42, 43, 44, 45, 46, 47, 48, 49, 50, 51, 52, 53, 54] (by decide +kernel) (by decide +kernel)
set_option maxRecDepth 20000 in
theorem gX8_alarmToRepeat_X0_isLive : GoodIn wsX8_alarmToRepeat (wsV RX8 225 RX0 yX0_isLive wsX0_isLive) := goodIn_app (goodIn_of _ (by decide +kernel)) ggX8_alarmToRepeat_X0_isLive
set_option maxRecDepth 20000 in
theorem ggX8_isSilencedNow_X6_covers : GoodIn wsX8_isSilencedNow wsX6_covers := goodIn_r _ [8, 9, 10, 11, 26, 27, 28] (by decide +kernel) (by decide +kernel)
set_option maxRecDepth 20000 in
theorem gX8_isSilencedNow_X6_covers : GoodIn wsX8_isSilencedNow (wsV RX8 279 RX6 yX6_covers wsX6_covers) := goodIn_app (goodIn_of _ (by decide +kernel)) ggX8_isSilencedNow_X6_covers
set_option maxRecDepth 20000 in
theorem ggX8_isCapFullNow_X0_isHushed : GoodIn wsX8_isCapFullNow wsX0_isHushed := goodIn_r _ [11, 12, 13, 28, 29, 30, 31, 32, 33, 34, 35, 36, 37, 38, 39, 40, 41, 42, 43, 44] (by decide +kernel) (by decide +kernel)
set_option maxRecDepth 20000 in
theorem gX8_isCapFullNow_X0_isHushed : GoodIn wsX8_isCapFullNow (wsV RX8 273 RX0 yX0_isHushed wsX0_isHushed) := goodIn_app (goodIn_of _ (by decide +kernel)) ggX8_isCapFullNow_X0_isHushed
set_option maxRecDepth 20000 in
theorem ggX8_casesNow_X2_gather : GoodIn wsX8_casesNow wsX2_gather := goodIn_r _ [11, 12, 13, 14, 15, 16, 17, 18, 19, 20, 21, 22, 23, 24, 25, 26, 27, 28, 29, 30, 31, 32, 33, 34, 35, 36, 37, 38, 39, 10, 40, 41, 42, 43, 44, 45, 46, 47, 48, 49, 50, 51, 52, 53, 54, 55, 56, 57, 58, 59, 60, 61, 62, 63, 64, 65, 66, 67, 68, 69, 70, 71, 72, 73, 74, 75, 76, 77, 78, 79, 80, 81, 82, 83, 84, 85, 86, 87, 88, 89, 90, 91, 92, 93, 94, 95, 96, 97, 98, 99, 100, 101, 102, 103, 104, 105, 106, 107, 108, 109, 110, 111, 112, 113, 114, 115, 116, 117, 118, 119, 120, 121, 122, 123, 124, 125, 126, 127, 128, 129, 130, 131, 132, 133, 134, 135, 150, 151, 152, 153, 154, 155, 156, 157, 158, 159, 160, 161, 162, 163, 164, 165, 166, 167, 168, 169, 170, 171, 172, 173, 174, 175, 176, 177, 178, 179, 180, 181, 182, 183, 184, 185] (by decide +kernel) (by decide +kernel)
set_option maxRecDepth 20000 in
theorem gX8_casesNow_X2_gather : GoodIn wsX8_casesNow (wsV RX8 282 RX2 yX2_gather wsX2_gather) := goodIn_app (goodIn_of _ (by decide +kernel)) ggX8_casesNow_X2_gather
set_option maxRecDepth 20000 in
theorem ggX8_caseNumberOf_X8_casesNow : GoodIn wsX8_caseNumberOf wsX8_casesNow := goodIn_r _ [6, 7, 8, 9, 10, 11, 12, 13, 14, 15, 16, 17, 18, 19, 20, 21, 22, 23, 24, 25, 26, 27, 28, 29, 30, 31, 32, 33, 34, 35, 36, 37, 38, 39, 40, 41, 42, 43, 44, 45, 46, 47, 48, 49, 50, 51, 52, 53, 54, 55, 56, 57, 58, 59, 60, 61, 62, 63, 64, 65, 66, 67, 68, 69, 70, 71, 72, 73, 74, 75, 76, 77, 78, 79, 80, 81, 82, 83, 84, 85, 86, 87, 88, 89, 90, 5, 91, 92, 93, 94, 95, 96, 97, 98, 99, 100, 101, 102, 103, 104, 105, 106, 107, 108, 109, 110, 111, 112, 113, 114, 115, 116, 117, 118, 119, 120, 121, 122, 123, 124, 125, 126, 127, 128, 129, 130, 131, 132, 133, 134, 135, 136, 137, 138, 139, 140, 160, 161, 162, 163, 164, 165, 166, 167, 168, 169, 170, 171, 172, 173, 143, 144, 145, 146, 147, 148, 149, 150, 151, 152, 153, 154, 155, 156, 157, 158, 159, 174, 175, 176, 177, 178, 179, 180, 181, 182, 183, 184, 185, 186, 187, 188, 189, 190, 191, 192] (by decide +kernel) (by decide +kernel)
set_option maxRecDepth 20000 in
theorem gX8_caseNumberOf_X8_casesNow : GoodIn wsX8_caseNumberOf (wsV RX8 214 RX8 yX8_casesNow wsX8_casesNow) := goodIn_app (goodIn_of _ (by decide +kernel)) ggX8_caseNumberOf_X8_casesNow
set_option maxRecDepth 20000 in
theorem ggX8_caseNumberOf_X0_isLive : GoodIn wsX8_caseNumberOf wsX0_isLive := goodIn_r _ [32, 33, 34, 35, 31, 36, 37, 38, 39, 40, 41, 42, 43, 143, 144, 145, 146, 147, 148, 149, 150, 151, 152, 153, 154, 155, 156, 157, 158, 159] (by decide +kernel) (by decide +kernel)
set_option maxRecDepth 20000 in
theorem gX8_caseNumberOf_X0_isLive : GoodIn wsX8_caseNumberOf (wsV RX8 225 RX0 yX0_isLive wsX0_isLive) := goodIn_app (goodIn_of _ (by decide +kernel)) ggX8_caseNumberOf_X0_isLive
set_option maxRecDepth 20000 in
theorem ggX8_caseNumberOf_X0_head : GoodIn wsX8_caseNumberOf wsX0_head := goodIn_r _ [53, 54, 143, 144, 145, 146, 147, 148, 149, 150, 151, 152, 153, 154, 155, 156, 157, 158, 159] (by decide +kernel) (by decide +kernel)
set_option maxRecDepth 20000 in
theorem gX8_caseNumberOf_X0_head : GoodIn wsX8_caseNumberOf (wsV RX8 286 RX0 yX0_head wsX0_head) := goodIn_app (goodIn_of _ (by decide +kernel)) ggX8_caseNumberOf_X0_head
set_option maxRecDepth 20000 in
theorem ggX8_memberOf_X0_isLive : GoodIn wsX8_memberOf wsX0_isLive := goodIn_r _ [8, 9, 10, 11, 7, 12, 13, 14, 15, 16, 17, 18, 19, 25, 26, 27, 28, 29, 30, 31, 32, 33, 34, 35, 36, 37, 38, 39, 40, 41] (by decide +kernel) (by decide +kernel)
set_option maxRecDepth 20000 in
theorem gX8_memberOf_X0_isLive : GoodIn wsX8_memberOf (wsV RX8 225 RX0 yX0_isLive wsX0_isLive) := goodIn_app (goodIn_of _ (by decide +kernel)) ggX8_memberOf_X0_isLive
set_option maxRecDepth 20000 in
theorem ggX8_memberOf_X0_head : GoodIn wsX8_memberOf wsX0_head := goodIn_r _ [23, 24, 25, 26, 27, 28, 29, 30, 31, 32, 33, 34, 35, 36, 37, 38, 39, 40, 41] (by decide +kernel) (by decide +kernel)
set_option maxRecDepth 20000 in
theorem gX8_memberOf_X0_head : GoodIn wsX8_memberOf (wsV RX8 286 RX0 yX0_head wsX0_head) := goodIn_app (goodIn_of _ (by decide +kernel)) ggX8_memberOf_X0_head
set_option maxRecDepth 20000 in
theorem ggX9_isAlarm_X9_isIn : GoodIn wsX9_isAlarm wsX9_isIn := goodIn_r _ [5] (by decide +kernel) (by decide +kernel)
set_option maxRecDepth 20000 in
theorem gX9_isAlarm_X9_isIn : GoodIn wsX9_isAlarm (va_wsS RX9 96 yX9_isIn wsX9_isIn) := goodIn_app (goodIn_of _ (by decide +kernel)) ggX9_isAlarm_X9_isIn
set_option maxRecDepth 20000 in
theorem ggX9_pass_X9_isIn : GoodIn wsX9_pass wsX9_isIn := goodIn_r _ [5] (by decide +kernel) (by decide +kernel)
set_option maxRecDepth 20000 in
theorem gX9_pass_X9_isIn : GoodIn wsX9_pass (va_wsS RX9 96 yX9_isIn wsX9_isIn) := goodIn_app (goodIn_of _ (by decide +kernel)) ggX9_pass_X9_isIn
set_option maxRecDepth 20000 in
theorem ggX9_alarm_X9_isIn : GoodIn wsX9_alarm wsX9_isIn := goodIn_r _ [20] (by decide +kernel) (by decide +kernel)
set_option maxRecDepth 20000 in
theorem gX9_alarm_X9_isIn : GoodIn wsX9_alarm (va_wsS RX9 96 yX9_isIn wsX9_isIn) := goodIn_app (goodIn_of _ (by decide +kernel)) ggX9_alarm_X9_isIn
set_option maxRecDepth 20000 in
theorem ggX9_alarm_X9_isLive : GoodIn wsX9_alarm wsX9_isLive := goodIn_r _ [24, 25, 8, 9, 29, 30, 31, 32, 33, 34, 35, 36, 37, 38, 39, 40, 41, 42, 43, 44, 45, 46, 47, 48, 49, 50, 51, 52, 53, 54, 55, 56, 57, 58, 59, 60, 61, 62, 63, 64, 65] (by decide +kernel) (by decide +kernel)
set_option maxRecDepth 20000 in
theorem gX9_alarm_X9_isLive : GoodIn wsX9_alarm (wsV RX9 103 RX9 yX9_isLive wsX9_isLive) := goodIn_app (goodIn_of _ (by decide +kernel)) ggX9_alarm_X9_isLive
set_option maxRecDepth 20000 in
theorem ggX9_alarm_X9_one : GoodIn wsX9_alarm wsX9_one := goodIn_r _ [28] (by decide +kernel) (by decide +kernel)
set_option maxRecDepth 20000 in
theorem gX9_alarm_X9_one : GoodIn wsX9_alarm (va_wsS RX9 107 yX9_one wsX9_one) := goodIn_app (goodIn_of _ (by decide +kernel)) ggX9_alarm_X9_one
set_option maxRecDepth 20000 in
theorem ggX9_silence_X9_isIn : GoodIn wsX9_silence wsX9_isIn := goodIn_r _ [8] (by decide +kernel) (by decide +kernel)
set_option maxRecDepth 20000 in
theorem gX9_silence_X9_isIn : GoodIn wsX9_silence (va_wsS RX9 96 yX9_isIn wsX9_isIn) := goodIn_app (goodIn_of _ (by decide +kernel)) ggX9_silence_X9_isIn
set_option maxRecDepth 20000 in
theorem ggX9_set_X9_isIn : GoodIn wsX9_set wsX9_isIn := goodIn_r _ [7] (by decide +kernel) (by decide +kernel)
set_option maxRecDepth 20000 in
theorem gX9_set_X9_isIn : GoodIn wsX9_set (va_wsS RX9 96 yX9_isIn wsX9_isIn) := goodIn_app (goodIn_of _ (by decide +kernel)) ggX9_set_X9_isIn
set_option maxRecDepth 20000 in
theorem ggX9_verdict_X9_isAlarm : GoodIn wsX9_verdict wsX9_isAlarm := goodIn_r _ [8, 9, 10, 11, 7, 12, 16, 17, 18, 19, 20, 21, 22, 23, 24, 25, 26, 27, 28, 29, 30, 31, 32, 33, 34, 35, 36, 37, 38, 39, 40, 41, 42, 43, 44, 45, 46, 47, 48, 49, 50, 51, 52] (by decide +kernel) (by decide +kernel)
set_option maxRecDepth 20000 in
theorem gX9_verdict_X9_isAlarm : GoodIn wsX9_verdict (wsV RX9 117 RX9 yX9_isAlarm wsX9_isAlarm) := goodIn_app (goodIn_of _ (by decide +kernel)) ggX9_verdict_X9_isAlarm
set_option maxRecDepth 20000 in
theorem ggX9_verdict_X9_isIn : GoodIn wsX9_verdict wsX9_isIn := goodIn_r _ [12] (by decide +kernel) (by decide +kernel)
set_option maxRecDepth 20000 in
theorem gX9_verdict_X9_isIn : GoodIn wsX9_verdict (va_wsS RX9 96 yX9_isIn wsX9_isIn) := goodIn_app (goodIn_of _ (by decide +kernel)) ggX9_verdict_X9_isIn
set_option maxRecDepth 20000 in
theorem ggX9_verdict_X9_many : GoodIn wsX9_verdict wsX9_many := goodIn_r _ [15] (by decide +kernel) (by decide +kernel)
set_option maxRecDepth 20000 in
theorem gX9_verdict_X9_many : GoodIn wsX9_verdict (va_wsS RX9 120 yX9_many wsX9_many) := goodIn_app (goodIn_of _ (by decide +kernel)) ggX9_verdict_X9_many
set_option maxRecDepth 20000 in
theorem ggX9_tie_X9_isAlarm : GoodIn wsX9_tie wsX9_isAlarm := goodIn_r _ [9, 10, 11, 12, 8, 13, 18, 19, 20, 21, 22, 23, 24, 25, 26, 27, 28, 29, 30, 31, 32, 33, 34, 35, 36, 37, 38, 39, 40, 41, 42, 43, 44, 45, 46, 47, 48, 49, 50, 51, 52, 53, 54] (by decide +kernel) (by decide +kernel)
set_option maxRecDepth 20000 in
theorem gX9_tie_X9_isAlarm : GoodIn wsX9_tie (wsV RX9 117 RX9 yX9_isAlarm wsX9_isAlarm) := goodIn_app (goodIn_of _ (by decide +kernel)) ggX9_tie_X9_isAlarm
set_option maxRecDepth 20000 in
theorem ggX9_tie_X9_tieOf : GoodIn wsX9_tie wsX9_tieOf := goodIn_r _ [17, 2, 3, 4, 18, 19, 20, 21, 22, 23, 24, 25, 26, 27, 28, 29, 30, 31, 32, 33, 34, 35, 36, 37, 38, 39, 40, 41, 42, 43, 44, 45, 46, 47, 48, 49, 50, 51, 52, 53, 54] (by decide +kernel) (by decide +kernel)
set_option maxRecDepth 20000 in
theorem gX9_tie_X9_tieOf : GoodIn wsX9_tie (wsV RX9 127 RX9 yX9_tieOf wsX9_tieOf) := goodIn_app (goodIn_of _ (by decide +kernel)) ggX9_tie_X9_tieOf
set_option maxRecDepth 20000 in
theorem ggX9_counts_X9_one : GoodIn wsX9_counts wsX9_one := goodIn_r _ [10] (by decide +kernel) (by decide +kernel)
set_option maxRecDepth 20000 in
theorem gX9_counts_X9_one : GoodIn wsX9_counts (va_wsS RX9 107 yX9_one wsX9_one) := goodIn_app (goodIn_of _ (by decide +kernel)) ggX9_counts_X9_one
set_option maxRecDepth 20000 in
theorem ggX9_depth_X9_counts : GoodIn wsX9_depth wsX9_counts := goodIn_r _ [8, 9, 2, 10, 11, 1, 12, 13, 14, 7, 15, 16, 17, 18, 19, 20, 21, 22, 23, 24, 25, 26, 27, 28, 29, 30, 31, 32, 33, 34, 35, 36, 37, 38, 39, 40, 41, 42, 43, 44, 45, 46, 47, 48, 49, 50, 51, 52] (by decide +kernel) (by decide +kernel)
set_option maxRecDepth 20000 in
theorem gX9_depth_X9_counts : GoodIn wsX9_depth (wsV RX9 140 RX9 yX9_counts wsX9_counts) := goodIn_app (goodIn_of _ (by decide +kernel)) ggX9_depth_X9_counts
set_option maxRecDepth 20000 in
theorem ggX9_score_X9_depth : GoodIn wsX9_score wsX9_depth := goodIn_r _ [8, 9, 1, 10, 11, 12, 13, 7, 14, 3, 15, 16, 17, 18, 19, 20, 21, 22, 23, 24, 25, 26, 27, 28, 29, 30, 31, 32, 33, 34, 35, 36, 37, 38, 39, 40, 41, 42, 43, 44, 45, 46, 47, 48, 49, 50, 51, 52, 53, 54, 55, 56, 57] (by decide +kernel) (by decide +kernel)
set_option maxRecDepth 20000 in
theorem gX9_score_X9_depth : GoodIn wsX9_score (wsV RX9 144 RX9 yX9_depth wsX9_depth) := goodIn_app (goodIn_of _ (by decide +kernel)) ggX9_score_X9_depth
set_option maxRecDepth 20000 in
theorem ggX9_node_X9_isIn : GoodIn wsX9_node wsX9_isIn := goodIn_r _ [7] (by decide +kernel) (by decide +kernel)
set_option maxRecDepth 20000 in
theorem gX9_node_X9_isIn : GoodIn wsX9_node (va_wsS RX9 96 yX9_isIn wsX9_isIn) := goodIn_app (goodIn_of _ (by decide +kernel)) ggX9_node_X9_isIn
set_option maxRecDepth 20000 in
theorem ggX9_node_X9_counts : GoodIn wsX9_node wsX9_counts := goodIn_r _ [11, 1, 2, 3, 12, 13, 14, 15, 16, 6, 17, 18, 19, 20, 21, 22, 23, 24, 25, 26, 27, 28, 29, 30, 31, 32, 33, 34, 35, 36, 37, 38, 39, 40, 41, 42, 43, 44, 45, 46, 47, 48, 49, 50, 51, 52, 53, 54] (by decide +kernel) (by decide +kernel)
set_option maxRecDepth 20000 in
theorem gX9_node_X9_counts : GoodIn wsX9_node (wsV RX9 140 RX9 yX9_counts wsX9_counts) := goodIn_app (goodIn_of _ (by decide +kernel)) ggX9_node_X9_counts
set_option maxRecDepth 20000 in
theorem ggX9_odds_X9_isAlarm : GoodIn wsX9_odds wsX9_isAlarm := goodIn_r _ [8, 9, 10, 11, 7, 12, 27, 28, 29, 30, 31, 32, 33, 34, 35, 36, 37, 38, 39, 40, 41, 42, 43, 44, 45, 46, 47, 48, 49, 50, 51, 52, 53, 54, 55, 56, 57, 58, 59, 60, 61, 62, 63] (by decide +kernel) (by decide +kernel)
set_option maxRecDepth 20000 in
theorem gX9_odds_X9_isAlarm : GoodIn wsX9_odds (wsV RX9 117 RX9 yX9_isAlarm wsX9_isAlarm) := goodIn_app (goodIn_of _ (by decide +kernel)) ggX9_odds_X9_isAlarm
set_option maxRecDepth 20000 in
theorem ggX9_odds_X9_isIn : GoodIn wsX9_odds wsX9_isIn := goodIn_r _ [12] (by decide +kernel) (by decide +kernel)
set_option maxRecDepth 20000 in
theorem gX9_odds_X9_isIn : GoodIn wsX9_odds (va_wsS RX9 96 yX9_isIn wsX9_isIn) := goodIn_app (goodIn_of _ (by decide +kernel)) ggX9_odds_X9_isIn
set_option maxRecDepth 20000 in
theorem ggX9_odds_X9_depth : GoodIn wsX9_odds wsX9_depth := goodIn_r _ [16, 17, 3, 18, 19, 20, 21, 7, 22, 1, 2, 9, 23, 24, 25, 26, 27, 28, 29, 30, 31, 32, 33, 34, 35, 36, 37, 38, 39, 40, 41, 42, 43, 44, 45, 46, 47, 48, 49, 50, 51, 52, 53, 54, 55, 56, 57, 58, 59, 60, 61, 62, 63] (by decide +kernel) (by decide +kernel)
set_option maxRecDepth 20000 in
theorem gX9_odds_X9_depth : GoodIn wsX9_odds (wsV RX9 144 RX9 yX9_depth wsX9_depth) := goodIn_app (goodIn_of _ (by decide +kernel)) ggX9_odds_X9_depth
set_option maxRecDepth 20000 in
theorem ggX9_hangs_X9_tieOf : GoodIn wsX9_hangs wsX9_tieOf := goodIn_r _ [12, 13, 14, 15, 16, 17, 18, 19, 20, 21, 22, 23, 24, 25, 26, 27, 28, 29, 30, 31, 32, 33, 34, 35, 36, 37, 38, 39, 40, 41, 42, 43, 44, 45, 46, 47, 48, 49, 50, 51, 52] (by decide +kernel) (by decide +kernel)
set_option maxRecDepth 20000 in
theorem gX9_hangs_X9_tieOf : GoodIn wsX9_hangs (wsV RX9 127 RX9 yX9_tieOf wsX9_tieOf) := goodIn_app (goodIn_of _ (by decide +kernel)) ggX9_hangs_X9_tieOf
set_option maxRecDepth 20000 in
theorem ggX9_joins_X9_isLive : GoodIn wsX9_joins wsX9_isLive := goodIn_r _ [17, 18, 19, 20, 63, 64, 65, 66, 67, 68, 69, 70, 71, 72, 73, 74, 75, 76, 77, 78, 79, 80, 81, 82, 83, 84, 85, 86, 87, 88, 89, 90, 91, 92, 93, 94, 95, 96, 97, 98, 99] (by decide +kernel) (by decide +kernel)
set_option maxRecDepth 20000 in
theorem gX9_joins_X9_isLive : GoodIn wsX9_joins (wsV RX9 103 RX9 yX9_isLive wsX9_isLive) := goodIn_app (goodIn_of _ (by decide +kernel)) ggX9_joins_X9_isLive
set_option maxRecDepth 20000 in
theorem ggX9_joins_X9_score : GoodIn wsX9_joins wsX9_score := goodIn_r _ [24, 25, 26, 27, 28, 29, 30, 16, 31, 32, 33, 34, 35, 36, 37, 38, 1, 18, 39, 40, 41, 63, 64, 65, 66, 67, 68, 69, 70, 71, 72, 73, 74, 75, 76, 77, 78, 79, 80, 81, 82, 83, 84, 85, 86, 87, 88, 89, 90, 91, 92, 93, 94, 95, 96, 97, 98, 99] (by decide +kernel) (by decide +kernel)
set_option maxRecDepth 20000 in
theorem gX9_joins_X9_score : GoodIn wsX9_joins (wsV RX9 152 RX9 yX9_score wsX9_score) := goodIn_app (goodIn_of _ (by decide +kernel)) ggX9_joins_X9_score
set_option maxRecDepth 20000 in
theorem ggX9_joins_X9_hangs : GoodIn wsX9_joins wsX9_hangs := goodIn_r _ [45, 46, 47, 48, 49, 50, 6, 51, 52, 53, 54, 16, 55, 56, 57, 58, 63, 64, 65, 66, 67, 68, 69, 70, 71, 72, 73, 74, 75, 76, 77, 78, 79, 80, 81, 82, 83, 84, 85, 86, 87, 88, 89, 90, 91, 92, 93, 94, 95, 96, 97, 98, 99] (by decide +kernel) (by decide +kernel)
set_option maxRecDepth 20000 in
theorem gX9_joins_X9_hangs : GoodIn wsX9_joins (wsV RX9 155 RX9 yX9_hangs wsX9_hangs) := goodIn_app (goodIn_of _ (by decide +kernel)) ggX9_joins_X9_hangs
set_option maxRecDepth 20000 in
theorem ggX9_joins_X9_scoreOf : GoodIn wsX9_joins wsX9_scoreOf := goodIn_r _ [62, 1, 2, 3, 8, 9, 6, 10, 63, 64, 65, 66, 67, 68, 69, 70, 71, 72, 73, 74, 75, 76, 77, 78, 79, 80, 81, 82, 83, 84, 85, 86, 87, 88, 89, 90, 91, 92, 93, 94, 95, 96, 97, 98, 99] (by decide +kernel) (by decide +kernel)
set_option maxRecDepth 20000 in
theorem gX9_joins_X9_scoreOf : GoodIn wsX9_joins (wsV RX9 168 RX9 yX9_scoreOf wsX9_scoreOf) := goodIn_app (goodIn_of _ (by decide +kernel)) ggX9_joins_X9_scoreOf
set_option maxRecDepth 20000 in
theorem ggX9_sizeOf_X9_one : GoodIn wsX9_sizeOf wsX9_one := goodIn_r _ [6] (by decide +kernel) (by decide +kernel)
set_option maxRecDepth 20000 in
theorem gX9_sizeOf_X9_one : GoodIn wsX9_sizeOf (va_wsS RX9 107 yX9_one wsX9_one) := goodIn_app (goodIn_of _ (by decide +kernel)) ggX9_sizeOf_X9_one
set_option maxRecDepth 20000 in
theorem ggX9_minutesOf_X9_sizeOf : GoodIn wsX9_minutesOf wsX9_sizeOf := goodIn_r _ [5, 6, 7, 8, 9, 4, 10, 11, 12, 13, 14, 15, 16, 17, 18, 19, 20, 21, 22, 23, 24, 25, 26, 27, 28, 29, 30, 31, 32, 33, 34, 35, 36, 37, 38, 39, 40, 41, 42, 43, 44, 45, 46, 47] (by decide +kernel) (by decide +kernel)
set_option maxRecDepth 20000 in
theorem gX9_minutesOf_X9_sizeOf : GoodIn wsX9_minutesOf (wsV RX9 171 RX9 yX9_sizeOf wsX9_sizeOf) := goodIn_app (goodIn_of _ (by decide +kernel)) ggX9_minutesOf_X9_sizeOf
set_option maxRecDepth 20000 in
theorem ggX9_isLittleKnown_X9_depth : GoodIn wsX9_isLittleKnown wsX9_depth := goodIn_r _ [7, 8, 9, 10, 11, 12, 13, 6, 14, 15, 16, 1, 17, 18, 19, 20, 21, 22, 23, 24, 25, 26, 27, 28, 29, 30, 31, 32, 33, 34, 35, 36, 37, 38, 39, 40, 41, 42, 43, 44, 45, 46, 47, 48, 49, 50, 51, 52, 53, 54, 55, 56, 57] (by decide +kernel) (by decide +kernel)
set_option maxRecDepth 20000 in
theorem gX9_isLittleKnown_X9_depth : GoodIn wsX9_isLittleKnown (wsV RX9 144 RX9 yX9_depth wsX9_depth) := goodIn_app (goodIn_of _ (by decide +kernel)) ggX9_isLittleKnown_X9_depth
set_option maxRecDepth 20000 in
theorem ggX9_told_X9_isAlarm : GoodIn wsX9_told wsX9_isAlarm := goodIn_r _ [17, 18, 19, 20, 16, 21, 81, 82, 83, 84, 85, 86, 87, 88, 89, 90, 91, 92, 93, 94, 95, 96, 97, 98, 99, 100, 101, 102, 103, 104, 105, 106, 107, 108, 109, 110, 111, 112, 113, 114, 115, 116, 117] (by decide +kernel) (by decide +kernel)
set_option maxRecDepth 20000 in
theorem gX9_told_X9_isAlarm : GoodIn wsX9_told (wsV RX9 117 RX9 yX9_isAlarm wsX9_isAlarm) := goodIn_app (goodIn_of _ (by decide +kernel)) ggX9_told_X9_isAlarm
set_option maxRecDepth 20000 in
theorem ggX9_told_X9_one : GoodIn wsX9_told wsX9_one := goodIn_r _ [24] (by decide +kernel) (by decide +kernel)
set_option maxRecDepth 20000 in
theorem gX9_told_X9_one : GoodIn wsX9_told (va_wsS RX9 107 yX9_one wsX9_one) := goodIn_app (goodIn_of _ (by decide +kernel)) ggX9_told_X9_one
set_option maxRecDepth 20000 in
theorem ggX9_told_X9_score : GoodIn wsX9_told wsX9_score := goodIn_r _ [28, 29, 5, 30, 31, 32, 33, 16, 34, 4, 35, 36, 37, 38, 39, 40, 18, 7, 22, 23, 24, 81, 82, 83, 84, 85, 86, 87, 88, 89, 90, 91, 92, 93, 94, 95, 96, 97, 98, 99, 100, 101, 102, 103, 104, 105, 106, 107, 108, 109, 110, 111, 112, 113, 114, 115, 116, 117] (by decide +kernel) (by decide +kernel)
set_option maxRecDepth 20000 in
theorem gX9_told_X9_score : GoodIn wsX9_told (wsV RX9 152 RX9 yX9_score wsX9_score) := goodIn_app (goodIn_of _ (by decide +kernel)) ggX9_told_X9_score
set_option maxRecDepth 20000 in
theorem ggX9_told_X9_depth : GoodIn wsX9_told wsX9_depth := goodIn_r _ [34, 4, 29, 35, 36, 37, 38, 16, 39, 30, 40, 18, 7, 22, 23, 24, 81, 82, 83, 84, 85, 86, 87, 88, 89, 90, 91, 92, 93, 94, 95, 96, 97, 98, 99, 100, 101, 102, 103, 104, 105, 106, 107, 108, 109, 110, 111, 112, 113, 114, 115, 116, 117] (by decide +kernel) (by decide +kernel)
set_option maxRecDepth 20000 in
theorem gX9_told_X9_depth : GoodIn wsX9_told (wsV RX9 144 RX9 yX9_depth wsX9_depth) := goodIn_app (goodIn_of _ (by decide +kernel)) ggX9_told_X9_depth
set_option maxRecDepth 20000 in
theorem ggX9_told_X9_many : GoodIn wsX9_told wsX9_many := goodIn_r _ [43] (by decide +kernel) (by decide +kernel)
set_option maxRecDepth 20000 in
theorem gX9_told_X9_many : GoodIn wsX9_told (va_wsS RX9 120 yX9_many wsX9_many) := goodIn_app (goodIn_of _ (by decide +kernel)) ggX9_told_X9_many
set_option maxRecDepth 20000 in
theorem ggX9_told_X9_joins : GoodIn wsX9_told wsX9_joins := goodIn_r _ [47, 18, 12, 48, 49, 50, 51, 52, 53, 54, 55, 56, 57, 58, 59, 60, 16, 61, 7, 8, 9, 25, 26, 27, 28, 29, 5, 30, 31, 32, 33, 34, 4, 35, 36, 37, 38, 39, 40, 22, 23, 24, 62, 63, 64, 65, 66, 3, 1, 67, 68, 69, 70, 71, 72, 73, 74, 75, 76, 77, 78, 79, 80, 81, 82, 83, 84, 85, 86, 87, 88, 89, 90, 91, 92, 93, 94, 95, 96, 97, 98, 99, 100, 101, 102, 103, 104, 105, 106, 107, 108, 109, 110, 111, 112, 113, 114, 115, 116, 117] (by decide +kernel) (by decide +kernel)
set_option maxRecDepth 20000 in
theorem gX9_told_X9_joins : GoodIn wsX9_told (wsV RX9 174 RX9 yX9_joins wsX9_joins) := goodIn_app (goodIn_of _ (by decide +kernel)) ggX9_told_X9_joins
set_option maxRecDepth 20000 in
theorem ggX9_order_X9_joins : GoodIn wsX9_order wsX9_joins := goodIn_r _ [7, 8, 9, 10, 11, 12, 13, 14, 15, 16, 17, 1, 2, 18, 19, 20, 6, 21, 22, 23, 24, 25, 26, 27, 28, 29, 30, 31, 32, 33, 34, 35, 36, 37, 38, 39, 40, 41, 42, 43, 44, 45, 46, 47, 48, 49, 50, 51, 52, 53, 54, 55, 56, 57, 58, 59, 60, 61, 62, 63, 64, 65, 66, 70, 71, 72, 73, 74, 75, 76, 77, 78, 79, 80, 81, 82, 83, 84, 85, 86, 87, 88, 89, 90, 91, 92, 93, 94, 95, 96, 97, 98, 99, 100, 101, 102, 103, 104, 105, 106] (by decide +kernel) (by decide +kernel)
set_option maxRecDepth 20000 in
theorem gX9_order_X9_joins : GoodIn wsX9_order (wsV RX9 174 RX9 yX9_joins wsX9_joins) := goodIn_app (goodIn_of _ (by decide +kernel)) ggX9_order_X9_joins
set_option maxRecDepth 20000 in
theorem ggX9_order_X9_isIn : GoodIn wsX9_order wsX9_isIn := goodIn_r _ [69] (by decide +kernel) (by decide +kernel)
set_option maxRecDepth 20000 in
theorem gX9_order_X9_isIn : GoodIn wsX9_order (va_wsS RX9 96 yX9_isIn wsX9_isIn) := goodIn_app (goodIn_of _ (by decide +kernel)) ggX9_order_X9_isIn
set_option maxRecDepth 20000 in
theorem ggX9_caseOf_X9_isAlarm : GoodIn wsX9_caseOf wsX9_isAlarm := goodIn_r _ [7, 2, 8, 9, 6, 10, 86, 87, 88, 89, 90, 91, 92, 93, 94, 95, 96, 97, 98, 99, 100, 101, 102, 103, 104, 105, 106, 107, 108, 109, 110, 111, 112, 113, 114, 115, 116, 117, 118, 119, 120, 121, 122] (by decide +kernel) (by decide +kernel)
set_option maxRecDepth 20000 in
theorem gX9_caseOf_X9_isAlarm : GoodIn wsX9_caseOf (wsV RX9 117 RX9 yX9_isAlarm wsX9_isAlarm) := goodIn_app (goodIn_of _ (by decide +kernel)) ggX9_caseOf_X9_isAlarm
set_option maxRecDepth 20000 in
theorem ggX9_caseOf_X9_joins : GoodIn wsX9_caseOf wsX9_joins := goodIn_r _ [14, 2, 1, 15, 16, 17, 18, 19, 20, 21, 22, 23, 24, 25, 26, 27, 6, 28, 29, 30, 31, 32, 33, 34, 35, 36, 37, 38, 39, 40, 41, 42, 43, 44, 45, 46, 47, 48, 49, 50, 51, 52, 53, 54, 55, 56, 57, 58, 59, 60, 61, 62, 63, 64, 65, 66, 67, 68, 69, 70, 71, 72, 73, 86, 87, 88, 89, 90, 91, 92, 93, 94, 95, 96, 97, 98, 99, 100, 101, 102, 103, 104, 105, 106, 107, 108, 109, 110, 111, 112, 113, 114, 115, 116, 117, 118, 119, 120, 121, 122] (by decide +kernel) (by decide +kernel)
set_option maxRecDepth 20000 in
theorem gX9_caseOf_X9_joins : GoodIn wsX9_caseOf (wsV RX9 174 RX9 yX9_joins wsX9_joins) := goodIn_app (goodIn_of _ (by decide +kernel)) ggX9_caseOf_X9_joins
set_option maxRecDepth 20000 in
theorem ggX9_caseOf_X9_sizeOf : GoodIn wsX9_caseOf wsX9_sizeOf := goodIn_r _ [77, 2, 1, 50, 51, 6, 52, 86, 87, 88, 89, 90, 91, 92, 93, 94, 95, 96, 97, 98, 99, 100, 101, 102, 103, 104, 105, 106, 107, 108, 109, 110, 111, 112, 113, 114, 115, 116, 117, 118, 119, 120, 121, 122] (by decide +kernel) (by decide +kernel)
set_option maxRecDepth 20000 in
theorem gX9_caseOf_X9_sizeOf : GoodIn wsX9_caseOf (wsV RX9 171 RX9 yX9_sizeOf wsX9_sizeOf) := goodIn_app (goodIn_of _ (by decide +kernel)) ggX9_caseOf_X9_sizeOf
set_option maxRecDepth 20000 in
theorem ggX9_caseOf_X9_scoreOf : GoodIn wsX9_caseOf wsX9_scoreOf := goodIn_r _ [73, 2, 1, 15, 20, 21, 18, 22, 86, 87, 88, 89, 90, 91, 92, 93, 94, 95, 96, 97, 98, 99, 100, 101, 102, 103, 104, 105, 106, 107, 108, 109, 110, 111, 112, 113, 114, 115, 116, 117, 118, 119, 120, 121, 122] (by decide +kernel) (by decide +kernel)
set_option maxRecDepth 20000 in
theorem gX9_caseOf_X9_scoreOf : GoodIn wsX9_caseOf (wsV RX9 168 RX9 yX9_scoreOf wsX9_scoreOf) := goodIn_app (goodIn_of _ (by decide +kernel)) ggX9_caseOf_X9_scoreOf
set_option maxRecDepth 20000 in
theorem ggX9_caseOf_X9_minutesOf : GoodIn wsX9_caseOf wsX9_minutesOf := goodIn_r _ [81, 74, 75, 76, 6, 77, 2, 1, 50, 51, 52, 86, 87, 88, 89, 90, 91, 92, 93, 94, 95, 96, 97, 98, 99, 100, 101, 102, 103, 104, 105, 106, 107, 108, 109, 110, 111, 112, 113, 114, 115, 116, 117, 118, 119, 120, 121, 122] (by decide +kernel) (by decide +kernel)
set_option maxRecDepth 20000 in
theorem gX9_caseOf_X9_minutesOf : GoodIn wsX9_caseOf (wsV RX9 177 RX9 yX9_minutesOf wsX9_minutesOf) := goodIn_app (goodIn_of _ (by decide +kernel)) ggX9_caseOf_X9_minutesOf
set_option maxRecDepth 20000 in
theorem ggX9_caseOf_X9_isLittleKnown : GoodIn wsX9_caseOf wsX9_isLittleKnown := goodIn_r _ [85, 2, 1, 39, 40, 41, 6, 42, 43, 36, 44, 45, 46, 47, 48, 38, 49, 29, 50, 51, 52, 86, 87, 88, 89, 90, 91, 92, 93, 94, 95, 96, 97, 98, 99, 100, 101, 102, 103, 104, 105, 106, 107, 108, 109, 110, 111, 112, 113, 114, 115, 116, 117, 118, 119, 120, 121, 122] (by decide +kernel) (by decide +kernel)
set_option maxRecDepth 20000 in
theorem gX9_caseOf_X9_isLittleKnown : GoodIn wsX9_caseOf (wsV RX9 180 RX9 yX9_isLittleKnown wsX9_isLittleKnown) := goodIn_app (goodIn_of _ (by decide +kernel)) ggX9_caseOf_X9_isLittleKnown
set_option maxRecDepth 20000 in
theorem ggX9_caseOf_X9_one : GoodIn wsX9_caseOf wsX9_one := goodIn_r _ [52] (by decide +kernel) (by decide +kernel)
set_option maxRecDepth 20000 in
theorem gX9_caseOf_X9_one : GoodIn wsX9_caseOf (va_wsS RX9 107 yX9_one wsX9_one) := goodIn_app (goodIn_of _ (by decide +kernel)) ggX9_caseOf_X9_one
set_option maxRecDepth 20000 in
theorem ggX9_slow_X9_isIn : GoodIn wsX9_slow wsX9_isIn := goodIn_r _ [8] (by decide +kernel) (by decide +kernel)
set_option maxRecDepth 20000 in
theorem gX9_slow_X9_isIn : GoodIn wsX9_slow (va_wsS RX9 96 yX9_isIn wsX9_isIn) := goodIn_app (goodIn_of _ (by decide +kernel)) ggX9_slow_X9_isIn
set_option maxRecDepth 20000 in
theorem ggX9_slow_X9_isLive : GoodIn wsX9_slow wsX9_isLive := goodIn_r _ [12, 13, 14, 15, 37, 38, 39, 40, 41, 42, 43, 44, 45, 46, 47, 48, 49, 50, 51, 52, 53, 54, 55, 56, 57, 58, 59, 60, 61, 62, 63, 64, 65, 66, 67, 68, 69, 70, 71, 72, 73] (by decide +kernel) (by decide +kernel)
set_option maxRecDepth 20000 in
theorem gX9_slow_X9_isLive : GoodIn wsX9_slow (wsV RX9 103 RX9 yX9_isLive wsX9_isLive) := goodIn_app (goodIn_of _ (by decide +kernel)) ggX9_slow_X9_isLive
set_option maxRecDepth 20000 in
theorem ggX9_slow_X9_score : GoodIn wsX9_slow wsX9_score := goodIn_r _ [19, 20, 21, 22, 23, 24, 25, 7, 26, 27, 28, 29, 30, 31, 32, 33, 1, 13, 34, 35, 36, 37, 38, 39, 40, 41, 42, 43, 44, 45, 46, 47, 48, 49, 50, 51, 52, 53, 54, 55, 56, 57, 58, 59, 60, 61, 62, 63, 64, 65, 66, 67, 68, 69, 70, 71, 72, 73] (by decide +kernel) (by decide +kernel)
set_option maxRecDepth 20000 in
theorem gX9_slow_X9_score : GoodIn wsX9_slow (wsV RX9 152 RX9 yX9_score wsX9_score) := goodIn_app (goodIn_of _ (by decide +kernel)) ggX9_slow_X9_score
set_option maxRecDepth 20000 in
theorem ggX9_plans_X9_joins : GoodIn wsX9_plans wsX9_joins := goodIn_r _ [13, 14, 15, 16, 17, 18, 19, 20, 21, 22, 23, 2, 4, 24, 25, 26, 12, 27, 28, 29, 30, 31, 32, 33, 34, 35, 36, 37, 38, 39, 40, 41, 42, 43, 44, 45, 46, 47, 48, 49, 50, 51, 52, 53, 54, 55, 56, 57, 58, 59, 60, 61, 62, 63, 64, 65, 66, 67, 68, 69, 70, 71, 72, 89, 90, 91, 92, 93, 94, 95, 96, 97, 98, 99, 100, 101, 102, 103, 104, 105, 106, 107, 108, 109, 110, 111, 112, 113, 114, 115, 116, 117, 118, 119, 120, 121, 122, 123, 124, 125] (by decide +kernel) (by decide +kernel)
set_option maxRecDepth 20000 in
theorem gX9_plans_X9_joins : GoodIn wsX9_plans (wsV RX9 174 RX9 yX9_joins wsX9_joins) := goodIn_app (goodIn_of _ (by decide +kernel)) ggX9_plans_X9_joins
set_option maxRecDepth 20000 in
theorem ggX9_plans_X9_isLittleKnown : GoodIn wsX9_plans wsX9_isLittleKnown := goodIn_r _ [76, 14, 15, 38, 39, 40, 12, 41, 42, 35, 43, 44, 45, 46, 47, 37, 48, 28, 49, 50, 51, 89, 90, 91, 92, 93, 94, 95, 96, 97, 98, 99, 100, 101, 102, 103, 104, 105, 106, 107, 108, 109, 110, 111, 112, 113, 114, 115, 116, 117, 118, 119, 120, 121, 122, 123, 124, 125] (by decide +kernel) (by decide +kernel)
set_option maxRecDepth 20000 in
theorem gX9_plans_X9_isLittleKnown : GoodIn wsX9_plans (wsV RX9 180 RX9 yX9_isLittleKnown wsX9_isLittleKnown) := goodIn_app (goodIn_of _ (by decide +kernel)) ggX9_plans_X9_isLittleKnown
set_option maxRecDepth 20000 in
theorem ggX9_plans_X9_minutesOf : GoodIn wsX9_plans wsX9_minutesOf := goodIn_r _ [80, 81, 82, 83, 12, 84, 14, 15, 49, 50, 51, 89, 90, 91, 92, 93, 94, 95, 96, 97, 98, 99, 100, 101, 102, 103, 104, 105, 106, 107, 108, 109, 110, 111, 112, 113, 114, 115, 116, 117, 118, 119, 120, 121, 122, 123, 124, 125] (by decide +kernel) (by decide +kernel)
set_option maxRecDepth 20000 in
theorem gX9_plans_X9_minutesOf : GoodIn wsX9_plans (wsV RX9 177 RX9 yX9_minutesOf wsX9_minutesOf) := goodIn_app (goodIn_of _ (by decide +kernel)) ggX9_plans_X9_minutesOf
set_option maxRecDepth 20000 in
theorem ggX9_plans_X9_isTaken : GoodIn wsX9_plans wsX9_isTaken := goodIn_r _ [88, 1, 5, 89, 90, 91, 92, 93, 94, 95, 96, 97, 98, 99, 100, 101, 102, 103, 104, 105, 106, 107, 108, 109, 110, 111, 112, 113, 114, 115, 116, 117, 118, 119, 120, 121, 122, 123, 124, 125] (by decide +kernel) (by decide +kernel)
set_option maxRecDepth 20000 in
theorem gX9_plans_X9_isTaken : GoodIn wsX9_plans (wsV RX9 186 RX9 yX9_isTaken wsX9_isTaken) := goodIn_app (goodIn_of _ (by decide +kernel)) ggX9_plans_X9_isTaken
set_option maxRecDepth 20000 in
theorem ggX9_plans_X9_scoreOf : GoodIn wsX9_plans wsX9_scoreOf := goodIn_r _ [72, 14, 15, 16, 21, 22, 19, 23, 89, 90, 91, 92, 93, 94, 95, 96, 97, 98, 99, 100, 101, 102, 103, 104, 105, 106, 107, 108, 109, 110, 111, 112, 113, 114, 115, 116, 117, 118, 119, 120, 121, 122, 123, 124, 125] (by decide +kernel) (by decide +kernel)
set_option maxRecDepth 20000 in
theorem gX9_plans_X9_scoreOf : GoodIn wsX9_plans (wsV RX9 168 RX9 yX9_scoreOf wsX9_scoreOf) := goodIn_app (goodIn_of _ (by decide +kernel)) ggX9_plans_X9_scoreOf
set_option maxRecDepth 20000 in
theorem ggX9_isPlan_X9_isIn : GoodIn wsX9_isPlan wsX9_isIn := goodIn_r _ [4] (by decide +kernel) (by decide +kernel)
set_option maxRecDepth 20000 in
theorem gX9_isPlan_X9_isIn : GoodIn wsX9_isPlan (va_wsS RX9 96 yX9_isIn wsX9_isIn) := goodIn_app (goodIn_of _ (by decide +kernel)) ggX9_isPlan_X9_isIn
set_option maxRecDepth 20000 in
theorem ggX9_plan_X9_isPlan : GoodIn wsX9_plan wsX9_isPlan := goodIn_r _ [6, 7, 8, 5, 9] (by decide +kernel) (by decide +kernel)
set_option maxRecDepth 20000 in
theorem gX9_plan_X9_isPlan : GoodIn wsX9_plan (va_wsS RX9 189 yX9_isPlan wsX9_isPlan) := goodIn_app (goodIn_of _ (by decide +kernel)) ggX9_plan_X9_isPlan
set_option maxRecDepth 20000 in
theorem ggX9_plan_X9_plans : GoodIn wsX9_plan wsX9_plans := goodIn_r _ [13, 1, 14, 15, 16, 2, 17, 18, 19, 20, 21, 22, 5, 23, 24, 25, 26, 27, 28, 29, 30, 31, 32, 33, 34, 35, 36, 37, 38, 39, 40, 41, 42, 43, 44, 45, 46, 47, 48, 49, 50, 51, 52, 53, 54, 55, 56, 57, 58, 59, 60, 61, 62, 63, 64, 65, 66, 67, 68, 69, 70, 71, 72, 73, 74, 75, 76, 77, 78, 79, 80, 81, 82, 83, 84, 85, 86, 87, 88, 89, 90, 91, 92, 93, 94, 95, 96, 97, 98, 99, 100, 101, 102, 103, 104, 105, 106, 107, 108, 109, 110, 111, 112, 113, 114, 115, 116, 117, 118, 119, 120, 121, 122, 123, 124, 125, 126, 127, 128, 129, 130, 131, 132, 133, 134, 135] (by decide +kernel) (by decide +kernel)
set_option maxRecDepth 20000 in
theorem gX9_plan_X9_plans : GoodIn wsX9_plan (wsV RX9 192 RX9 yX9_plans wsX9_plans) := goodIn_app (goodIn_of _ (by decide +kernel)) ggX9_plan_X9_plans
set_option maxRecDepth 20000 in
theorem ggX9_plan_X9_isIn : GoodIn wsX9_plan wsX9_isIn := goodIn_r _ [9] (by decide +kernel) (by decide +kernel)
set_option maxRecDepth 20000 in
theorem gX9_plan_X9_isIn : GoodIn wsX9_plan (va_wsS RX9 96 yX9_isIn wsX9_isIn) := goodIn_app (goodIn_of _ (by decide +kernel)) ggX9_plan_X9_isIn
set_option maxRecDepth 20000 in
theorem ggX9_worth_X9_isPlan : GoodIn wsX9_worth wsX9_isPlan := goodIn_r _ [6, 7, 8, 5, 9] (by decide +kernel) (by decide +kernel)
set_option maxRecDepth 20000 in
theorem gX9_worth_X9_isPlan : GoodIn wsX9_worth (va_wsS RX9 189 yX9_isPlan wsX9_isPlan) := goodIn_app (goodIn_of _ (by decide +kernel)) ggX9_worth_X9_isPlan
set_option maxRecDepth 20000 in
theorem ggX9_worth_X9_isIn : GoodIn wsX9_worth wsX9_isIn := goodIn_r _ [9] (by decide +kernel) (by decide +kernel)
set_option maxRecDepth 20000 in
theorem gX9_worth_X9_isIn : GoodIn wsX9_worth (va_wsS RX9 96 yX9_isIn wsX9_isIn) := goodIn_app (goodIn_of _ (by decide +kernel)) ggX9_worth_X9_isIn
set_option maxRecDepth 20000 in
theorem ggX9_worth_X9_plans : GoodIn wsX9_worth wsX9_plans := goodIn_r _ [13, 14, 1, 15, 2, 16, 17, 18, 19, 20, 21, 22, 5, 23, 24, 25, 26, 27, 28, 29, 30, 31, 32, 33, 34, 35, 36, 37, 38, 39, 40, 41, 42, 43, 44, 45, 46, 47, 48, 49, 50, 51, 52, 53, 54, 55, 56, 57, 58, 59, 60, 61, 62, 63, 64, 65, 66, 67, 68, 69, 70, 71, 72, 73, 74, 75, 76, 77, 78, 79, 80, 81, 82, 83, 84, 85, 86, 87, 88, 89, 90, 91, 92, 93, 94, 95, 96, 97, 98, 99, 100, 101, 102, 103, 104, 105, 106, 107, 108, 109, 110, 111, 112, 113, 114, 115, 116, 117, 118, 119, 120, 121, 122, 123, 124, 125, 126, 127, 128, 129, 130, 131, 132, 133, 134, 135] (by decide +kernel) (by decide +kernel)
set_option maxRecDepth 20000 in
theorem gX9_worth_X9_plans : GoodIn wsX9_worth (wsV RX9 192 RX9 yX9_plans wsX9_plans) := goodIn_app (goodIn_of _ (by decide +kernel)) ggX9_worth_X9_plans
set_option maxRecDepth 20000 in
theorem ggX9_worth_X9_isTaken : GoodIn wsX9_worth wsX9_isTaken := goodIn_r _ [98, 14, 16, 99, 100, 101, 102, 103, 104, 105, 106, 107, 108, 109, 110, 111, 112, 113, 114, 115, 116, 117, 118, 119, 120, 121, 122, 123, 124, 125, 126, 127, 128, 129, 130, 131, 132, 133, 134, 135] (by decide +kernel) (by decide +kernel)
set_option maxRecDepth 20000 in
theorem gX9_worth_X9_isTaken : GoodIn wsX9_worth (wsV RX9 186 RX9 yX9_isTaken wsX9_isTaken) := goodIn_app (goodIn_of _ (by decide +kernel)) ggX9_worth_X9_isTaken
set_option maxRecDepth 20000 in
theorem ggX9_worth_X9_minutesOf : GoodIn wsX9_worth wsX9_minutesOf := goodIn_r _ [90, 91, 92, 93, 5, 94, 24, 25, 59, 60, 61, 99, 100, 101, 102, 103, 104, 105, 106, 107, 108, 109, 110, 111, 112, 113, 114, 115, 116, 117, 118, 119, 120, 121, 122, 123, 124, 125, 126, 127, 128, 129, 130, 131, 132, 133, 134, 135] (by decide +kernel) (by decide +kernel)
set_option maxRecDepth 20000 in
theorem gX9_worth_X9_minutesOf : GoodIn wsX9_worth (wsV RX9 177 RX9 yX9_minutesOf wsX9_minutesOf) := goodIn_app (goodIn_of _ (by decide +kernel)) ggX9_worth_X9_minutesOf
set_option maxRecDepth 20000 in
theorem ggX9_worth_X9_scoreOf : GoodIn wsX9_worth wsX9_scoreOf := goodIn_r _ [82, 24, 25, 26, 31, 32, 29, 33, 99, 100, 101, 102, 103, 104, 105, 106, 107, 108, 109, 110, 111, 112, 113, 114, 115, 116, 117, 118, 119, 120, 121, 122, 123, 124, 125, 126, 127, 128, 129, 130, 131, 132, 133, 134, 135] (by decide +kernel) (by decide +kernel)
set_option maxRecDepth 20000 in
theorem gX9_worth_X9_scoreOf : GoodIn wsX9_worth (wsV RX9 168 RX9 yX9_scoreOf wsX9_scoreOf) := goodIn_app (goodIn_of _ (by decide +kernel)) ggX9_worth_X9_scoreOf
set_option maxRecDepth 20000 in
theorem ggX9_source_X9_isIn : GoodIn wsX9_source wsX9_isIn := goodIn_r _ [10] (by decide +kernel) (by decide +kernel)
set_option maxRecDepth 20000 in
theorem gX9_source_X9_isIn : GoodIn wsX9_source (va_wsS RX9 96 yX9_isIn wsX9_isIn) := goodIn_app (goodIn_of _ (by decide +kernel)) ggX9_source_X9_isIn
set_option maxRecDepth 20000 in
theorem ggX9_source_X9_one : GoodIn wsX9_source wsX9_one := goodIn_r _ [13] (by decide +kernel) (by decide +kernel)
set_option maxRecDepth 20000 in
theorem gX9_source_X9_one : GoodIn wsX9_source (va_wsS RX9 107 yX9_one wsX9_one) := goodIn_app (goodIn_of _ (by decide +kernel)) ggX9_source_X9_one
set_option maxRecDepth 20000 in
theorem ggX9_count_X9_one : GoodIn wsX9_count wsX9_one := goodIn_r _ [10] (by decide +kernel) (by decide +kernel)
set_option maxRecDepth 20000 in
theorem gX9_count_X9_one : GoodIn wsX9_count (va_wsS RX9 107 yX9_one wsX9_one) := goodIn_app (goodIn_of _ (by decide +kernel)) ggX9_count_X9_one
set_option maxRecDepth 20000 in
theorem ggX9_count_X9_joins : GoodIn wsX9_count wsX9_joins := goodIn_r _ [14, 2, 15, 16, 17, 18, 19, 20, 21, 22, 23, 4, 24, 25, 26, 27, 9, 28, 3, 29, 30, 31, 32, 33, 34, 35, 36, 37, 38, 39, 40, 41, 42, 43, 44, 45, 46, 47, 48, 7, 8, 10, 49, 50, 51, 52, 53, 54, 55, 56, 57, 58, 59, 60, 61, 62, 6, 63, 64, 65, 66, 67, 68, 69, 70, 71, 72, 73, 74, 75, 76, 77, 78, 79, 80, 81, 82, 83, 84, 85, 86, 87, 88, 89, 90, 91, 92, 93, 94, 95, 96, 97, 98, 99, 100, 101, 102, 103, 104, 105] (by decide +kernel) (by decide +kernel)
set_option maxRecDepth 20000 in
theorem gX9_count_X9_joins : GoodIn wsX9_count (wsV RX9 174 RX9 yX9_joins wsX9_joins) := goodIn_app (goodIn_of _ (by decide +kernel)) ggX9_count_X9_joins
set_option maxRecDepth 20000 in
theorem ggL_law_X8_init : GoodIn wsL_law wsX8_init := goodIn_r _ [8, 9, 10, 11, 12, 13, 14, 15, 16, 17, 18, 19, 20, 21, 22, 23, 24, 25, 26, 27, 28, 29, 30, 31, 32, 33, 34, 35, 36, 37, 38, 39, 40, 41, 42, 43, 44, 45, 46, 47, 48, 49, 50, 51, 52, 53, 54, 55, 56, 57, 58, 59, 60, 61, 659, 660, 661, 662, 663, 664, 665, 666, 667, 668, 669, 670, 671, 672, 710, 711, 712, 713, 714, 715, 716, 717, 718, 719, 720, 721, 722, 723, 724, 725, 726, 727, 728, 729] (by decide +kernel) (by decide +kernel)
set_option maxRecDepth 20000 in
theorem gL_law_X8_init : GoodIn wsL_law (wsX8_init) := ggL_law_X8_init
set_option maxRecDepth 20000 in
theorem ggL_law_X9_init : GoodIn wsL_law wsX9_init := goodIn_r _ [64, 65, 10, 11, 66, 67, 59, 68, 69, 70, 71, 72, 73, 74, 75, 76, 77, 78, 79, 80, 81, 82, 83, 84, 85, 86, 87, 88, 89, 90, 91, 92, 93, 673, 674, 675, 676, 677, 678, 679, 680, 681, 682, 683, 684, 685, 686, 687, 688, 689, 690, 691, 692, 693, 694, 695, 696, 697, 698, 699, 700, 701, 702, 703, 704, 705, 706, 707, 708, 709] (by decide +kernel) (by decide +kernel)
set_option maxRecDepth 20000 in
theorem gL_law_X9_init : GoodIn wsL_law (wsX9_init) := ggL_law_X9_init
set_option maxRecDepth 20000 in
theorem ggL_law_X8_pass : GoodIn wsL_law wsX8_pass := goodIn_r _ [97, 98, 659, 660, 661, 662, 663, 664, 665, 666, 667, 668, 669, 670, 671, 672] (by decide +kernel) (by decide +kernel)
set_option maxRecDepth 20000 in
theorem gL_law_X8_pass : GoodIn wsL_law (wsV RL 13 RX8 yX8_pass wsX8_pass) := goodIn_app (goodIn_of _ (by decide +kernel)) ggL_law_X8_pass
set_option maxRecDepth 20000 in
theorem ggL_law_X9_pass : GoodIn wsL_law wsX9_pass := goodIn_r _ [102, 103, 104, 105, 5, 106, 673, 674, 675, 676, 677, 678, 679, 680, 681, 682, 683, 684, 685, 686, 687, 688, 689, 690, 691, 692, 693, 694, 695, 696, 697, 698, 699, 700, 701, 702, 703, 704, 705, 706, 707, 708, 709] (by decide +kernel) (by decide +kernel)
set_option maxRecDepth 20000 in
theorem gL_law_X9_pass : GoodIn wsL_law (wsV RL 17 RX9 yX9_pass wsX9_pass) := goodIn_app (goodIn_of _ (by decide +kernel)) ggL_law_X9_pass
set_option maxRecDepth 20000 in
theorem ggL_law_X8_alarm : GoodIn wsL_law wsX8_alarm := goodIn_r _ [110, 98, 111, 112, 12, 113, 114, 20, 115, 116, 117, 14, 118, 13, 119, 120, 121, 2, 122, 123, 124, 125, 126, 127, 128, 129, 130, 131, 132, 133, 134, 135, 136, 137, 138, 139, 140, 141, 142, 143, 144, 145, 146, 147, 148, 149, 150, 151, 152, 153, 154, 19, 155, 156, 18, 157, 158, 159, 160, 161, 162, 163, 164, 41, 42, 165, 36, 37, 38, 10, 11, 39, 40, 166, 167, 168, 169, 170, 171, 172, 173, 174, 175, 176, 177, 178, 179, 180, 181, 182, 183, 184, 185, 186, 187, 188, 189, 190, 16, 191, 192, 193, 194, 195, 196, 197, 198, 199, 200, 201, 202, 203, 33, 204, 205, 206, 207, 208, 209, 659, 660, 661, 662, 663, 664, 665, 666, 667, 668, 669, 670, 671, 672, 730, 731, 732, 733, 734, 735, 736, 737, 738, 739, 740, 741, 742, 743, 744, 745, 746, 710, 711, 712, 713, 714, 715, 716, 717, 747, 748, 749, 750, 751, 752, 753] (by decide +kernel) (by decide +kernel)
set_option maxRecDepth 20000 in
theorem gL_law_X8_alarm : GoodIn wsL_law (wsV RL 18 RX8 yX8_alarm wsX8_alarm) := goodIn_app (goodIn_of _ (by decide +kernel)) ggL_law_X8_alarm
set_option maxRecDepth 20000 in
theorem ggL_law_X9_alarm : GoodIn wsL_law wsX9_alarm := goodIn_r _ [213, 214, 70, 71, 72, 103, 69, 74, 79, 80, 68, 215, 81, 82, 83, 66, 73, 104, 105, 5, 106, 216, 217, 218, 219, 75, 220, 221, 222, 673, 674, 675, 676, 677, 678, 679, 680, 681, 682, 683, 684, 685, 686, 687, 688, 689, 690, 691, 692, 693, 694, 695, 696, 697, 698, 699, 700, 701, 702, 703, 704, 705, 706, 707, 708, 709] (by decide +kernel) (by decide +kernel)
set_option maxRecDepth 20000 in
theorem gL_law_X9_alarm : GoodIn wsL_law (wsV RL 22 RX9 yX9_alarm wsX9_alarm) := goodIn_app (goodIn_of _ (by decide +kernel)) ggL_law_X9_alarm
set_option maxRecDepth 20000 in
theorem ggL_law_X8_silence : GoodIn wsL_law wsX8_silence := goodIn_r _ [226, 190, 16, 15, 227, 194, 120, 121, 2, 122, 228, 229, 230, 231, 10, 11, 196, 197, 198, 659, 660, 661, 662, 663, 664, 665, 666, 667, 668, 669, 670, 671, 672, 751, 752, 753] (by decide +kernel) (by decide +kernel)
set_option maxRecDepth 20000 in
theorem gL_law_X8_silence : GoodIn wsL_law (wsV RL 23 RX8 yX8_silence wsX8_silence) := goodIn_app (goodIn_of _ (by decide +kernel)) ggL_law_X8_silence
set_option maxRecDepth 20000 in
theorem ggL_law_X9_silence : GoodIn wsL_law wsX9_silence := goodIn_r _ [235, 215, 81, 82, 83, 104, 105, 5, 106, 673, 674, 675, 676, 677, 678, 679, 680, 681, 682, 683, 684, 685, 686, 687, 688, 689, 690, 691, 692, 693, 694, 695, 696, 697, 698, 699, 700, 701, 702, 703, 704, 705, 706, 707, 708, 709] (by decide +kernel) (by decide +kernel)
set_option maxRecDepth 20000 in
theorem gL_law_X9_silence : GoodIn wsL_law (wsV RL 27 RX9 yX9_silence wsX9_silence) := goodIn_app (goodIn_of _ (by decide +kernel)) ggL_law_X9_silence
set_option maxRecDepth 20000 in
theorem ggL_law_X8_set : GoodIn wsL_law wsX8_set := goodIn_r _ [239, 33, 34, 119, 240, 659, 660, 661, 662, 663, 664, 665, 666, 667, 668, 669, 670, 671, 672] (by decide +kernel) (by decide +kernel)
set_option maxRecDepth 20000 in
theorem gL_law_X8_set : GoodIn wsL_law (wsV RL 28 RX8 yX8_set wsX8_set) := goodIn_app (goodIn_of _ (by decide +kernel)) ggL_law_X8_set
set_option maxRecDepth 20000 in
theorem ggL_law_X9_set : GoodIn wsL_law wsX9_set := goodIn_r _ [244, 66, 67, 245, 104, 105, 5, 106, 673, 674, 675, 676, 677, 678, 679, 680, 681, 682, 683, 684, 685, 686, 687, 688, 689, 690, 691, 692, 693, 694, 695, 696, 697, 698, 699, 700, 701, 702, 703, 704, 705, 706, 707, 708, 709] (by decide +kernel) (by decide +kernel)
set_option maxRecDepth 20000 in
theorem gL_law_X9_set : GoodIn wsL_law (wsV RL 32 RX9 yX9_set wsX9_set) := goodIn_app (goodIn_of _ (by decide +kernel)) ggL_law_X9_set
set_option maxRecDepth 20000 in
theorem ggL_law_X8_verdict : GoodIn wsL_law wsX8_verdict := goodIn_r _ [249, 117, 119, 250, 251, 252, 2, 253, 112, 13, 120, 121, 122, 254, 136, 137, 114, 138, 139, 255, 256, 257, 258, 259, 260, 261, 262, 263, 264, 265, 266, 267, 268, 269, 270, 271, 272, 273, 274, 19, 275, 209, 276, 277, 39, 278, 279, 730, 731, 732, 733, 734, 735, 736, 737, 738, 739, 740, 741, 742, 743, 744, 745, 746, 659, 660, 661, 662, 663, 664, 665, 666, 667, 668, 669, 670, 671, 672, 710, 711, 712, 713, 714, 715, 716, 717] (by decide +kernel) (by decide +kernel)
set_option maxRecDepth 20000 in
theorem gL_law_X8_verdict : GoodIn wsL_law (wsV RL 33 RX8 yX8_verdict wsX8_verdict) := goodIn_app (goodIn_of _ (by decide +kernel)) ggL_law_X8_verdict
set_option maxRecDepth 20000 in
theorem ggL_law_X9_verdict : GoodIn wsL_law wsX9_verdict := goodIn_r _ [283, 75, 76, 77, 284, 285, 286, 5, 287, 214, 104, 105, 106, 288, 289, 290, 673, 674, 675, 676, 677, 678, 679, 680, 681, 682, 683, 684, 685, 686, 687, 688, 689, 690, 691, 692, 693, 694, 695, 696, 697, 698, 699, 700, 701, 702, 703, 704, 705, 706, 707, 708, 709] (by decide +kernel) (by decide +kernel)
set_option maxRecDepth 20000 in
theorem gL_law_X9_verdict : GoodIn wsL_law (wsV RL 37 RX9 yX9_verdict wsX9_verdict) := goodIn_app (goodIn_of _ (by decide +kernel)) ggL_law_X9_verdict
set_option maxRecDepth 20000 in
theorem ggL_law_X8_tie : GoodIn wsL_law wsX8_tie := goodIn_r _ [294, 112, 24, 119, 120, 121, 2, 122, 295, 296, 297, 23, 298, 299, 300, 47, 46, 301, 302, 303, 304, 305, 306, 307, 308, 309, 310, 311, 312, 313, 314, 315, 316, 317, 318, 319, 10, 11, 320, 321, 322, 659, 660, 661, 662, 663, 664, 665, 666, 667, 668, 669, 670, 671, 672, 754, 755, 756, 718, 719] (by decide +kernel) (by decide +kernel)
set_option maxRecDepth 20000 in
theorem gL_law_X8_tie : GoodIn wsL_law (wsV RL 38 RX8 yX8_tie wsX8_tie) := goodIn_app (goodIn_of _ (by decide +kernel)) ggL_law_X8_tie
set_option maxRecDepth 20000 in
theorem ggL_law_X9_tie : GoodIn wsL_law wsX9_tie := goodIn_r _ [326, 86, 327, 84, 85, 284, 285, 286, 5, 287, 214, 104, 105, 106, 328, 329, 330, 331, 673, 674, 675, 676, 677, 678, 679, 680, 681, 682, 683, 684, 685, 686, 687, 688, 689, 690, 691, 692, 693, 694, 695, 696, 697, 698, 699, 700, 701, 702, 703, 704, 705, 706, 707, 708, 709] (by decide +kernel) (by decide +kernel)
set_option maxRecDepth 20000 in
theorem gL_law_X9_tie : GoodIn wsL_law (wsV RL 42 RX9 yX9_tie wsX9_tie) := goodIn_app (goodIn_of _ (by decide +kernel)) ggL_law_X9_tie
set_option maxRecDepth 20000 in
theorem ggL_law_X8_told : GoodIn wsL_law wsX8_told := goodIn_r _ [335, 203, 127, 128, 129, 336, 337, 338, 115, 116, 34, 339, 250, 251, 252, 2, 253, 112, 13, 120, 121, 122, 340, 278, 279, 341, 342, 343, 114, 344, 175, 345, 346, 347, 348, 176, 349, 350, 351, 352, 353, 19, 354, 276, 355, 356, 357, 358, 277, 359, 360, 361, 362, 363, 259, 260, 265, 266, 267, 268, 269, 270, 271, 364, 365, 366, 367, 111, 368, 369, 370, 371, 119, 28, 24, 372, 373, 374, 27, 375, 376, 377, 378, 379, 380, 179, 381, 382, 383, 384, 385, 132, 133, 134, 135, 136, 137, 138, 139, 140, 141, 142, 143, 144, 145, 386, 387, 388, 389, 390, 391, 392, 393, 394, 395, 396, 397, 398, 399, 23, 400, 299, 310, 311, 312, 313, 303, 304, 305, 306, 307, 308, 309, 300, 47, 314, 315, 401, 402, 403, 404, 170, 405, 406, 407, 408, 409, 410, 411, 412, 413, 414, 415, 416, 417, 418, 419, 420, 421, 422, 423, 424, 425, 426, 427, 428, 429, 430, 431, 432, 433, 434, 52, 435, 436, 437, 438, 185, 131, 439, 730, 731, 732, 733, 734, 735, 736, 737, 738, 739, 740, 741, 742, 743, 744, 745, 746, 659, 660, 661, 662, 663, 664, 665, 666, 667, 668, 669, 670, 671, 672, 710, 711, 712, 713, 714, 715, 716, 717, 747, 748, 749, 750, 754, 755, 756, 718, 719, 720, 721] (by decide +kernel) (by decide +kernel)
set_option maxRecDepth 20000 in
theorem gL_law_X8_told : GoodIn wsL_law (wsV RL 43 RX8 yX8_told wsX8_told) := goodIn_app (goodIn_of _ (by decide +kernel)) ggL_law_X8_told
set_option maxRecDepth 20000 in
theorem ggL_law_X9_told : GoodIn wsL_law wsX9_told := goodIn_r _ [443, 68, 70, 71, 72, 73, 74, 75, 79, 80, 76, 77, 87, 284, 285, 286, 5, 287, 214, 104, 105, 106, 220, 221, 222, 444, 445, 446, 447, 448, 449, 450, 451, 452, 453, 67, 454, 455, 456, 457, 458, 288, 289, 290, 459, 460, 461, 462, 88, 463, 304, 305, 306, 464, 308, 309, 465, 89, 216, 217, 218, 219, 466, 467, 468, 469, 86, 470, 471, 472, 328, 329, 330, 331, 327, 84, 85, 473, 474, 475, 476, 673, 674, 675, 676, 677, 678, 679, 680, 681, 682, 683, 684, 685, 686, 687, 688, 689, 690, 691, 692, 693, 694, 695, 696, 697, 698, 699, 700, 701, 702, 703, 704, 705, 706, 707, 708, 709] (by decide +kernel) (by decide +kernel)
set_option maxRecDepth 20000 in
theorem gL_law_X9_told : GoodIn wsL_law (wsV RL 47 RX9 yX9_told wsX9_told) := goodIn_app (goodIn_of _ (by decide +kernel)) ggL_law_X9_told
set_option maxRecDepth 20000 in
theorem ggL_law_X8_node : GoodIn wsL_law wsX8_node := goodIn_r _ [480, 20, 481, 482, 483, 120, 121, 2, 122, 484, 485, 486, 19, 487, 158, 159, 160, 161, 162, 163, 164, 157, 41, 42, 659, 660, 661, 662, 663, 664, 665, 666, 667, 668, 669, 670, 671, 672, 710, 711, 712, 713, 714, 715, 716, 717] (by decide +kernel) (by decide +kernel)
set_option maxRecDepth 20000 in
theorem gL_law_X8_node : GoodIn wsL_law (wsV RL 48 RX8 yX8_node wsX8_node) := goodIn_app (goodIn_of _ (by decide +kernel)) ggL_law_X8_node
set_option maxRecDepth 20000 in
theorem ggL_law_X9_node : GoodIn wsL_law wsX9_node := goodIn_r _ [491, 449, 448, 458, 104, 105, 5, 106, 454, 455, 456, 457, 214, 72, 75, 220, 221, 222, 673, 674, 675, 676, 677, 678, 679, 680, 681, 682, 683, 684, 685, 686, 687, 688, 689, 690, 691, 692, 693, 694, 695, 696, 697, 698, 699, 700, 701, 702, 703, 704, 705, 706, 707, 708, 709] (by decide +kernel) (by decide +kernel)
set_option maxRecDepth 20000 in
theorem gL_law_X9_node : GoodIn wsL_law (wsV RL 51 RX9 yX9_node wsX9_node) := goodIn_app (goodIn_of _ (by decide +kernel)) ggL_law_X9_node
set_option maxRecDepth 20000 in
theorem ggL_law_X8_odds : GoodIn wsL_law wsX8_odds := goodIn_r _ [495, 34, 481, 483, 482, 250, 251, 252, 2, 253, 112, 13, 120, 121, 122, 359, 346, 347, 114, 348, 176, 349, 350, 496, 356, 357, 19, 358, 276, 277, 497, 352, 353, 354, 498, 499, 500, 659, 660, 661, 662, 663, 664, 665, 666, 667, 668, 669, 670, 671, 672, 710, 711, 712, 713, 714, 715, 716, 717, 730, 731, 732, 733, 734, 735, 736, 737, 738, 739, 740, 741, 742, 743, 744, 745, 746] (by decide +kernel) (by decide +kernel)
set_option maxRecDepth 20000 in
theorem gL_law_X8_odds : GoodIn wsL_law (wsV RL 52 RX8 yX8_odds wsX8_odds) := goodIn_app (goodIn_of _ (by decide +kernel)) ggL_law_X8_odds
set_option maxRecDepth 20000 in
theorem ggL_law_X9_odds : GoodIn wsL_law wsX9_odds := goodIn_r _ [504, 449, 458, 448, 284, 285, 286, 5, 287, 214, 104, 105, 106, 450, 451, 452, 453, 72, 67, 454, 455, 456, 457, 75, 220, 221, 222, 673, 674, 675, 676, 677, 678, 679, 680, 681, 682, 683, 684, 685, 686, 687, 688, 689, 690, 691, 692, 693, 694, 695, 696, 697, 698, 699, 700, 701, 702, 703, 704, 705, 706, 707, 708, 709] (by decide +kernel) (by decide +kernel)
set_option maxRecDepth 20000 in
theorem gL_law_X9_odds : GoodIn wsL_law (wsV RL 55 RX9 yX9_odds wsX9_odds) := goodIn_app (goodIn_of _ (by decide +kernel)) ggL_law_X9_odds
set_option maxRecDepth 20000 in
theorem ggL_law_X8_order : GoodIn wsL_law wsX8_order := goodIn_r _ [508, 509, 368, 369, 370, 2, 371, 119, 28, 13, 112, 24, 34, 372, 373, 374, 27, 375, 376, 377, 378, 379, 380, 179, 381, 382, 383, 384, 385, 132, 133, 114, 134, 135, 136, 137, 138, 139, 140, 141, 142, 143, 144, 145, 386, 387, 388, 389, 390, 391, 392, 393, 394, 395, 396, 397, 398, 399, 23, 400, 299, 310, 311, 312, 313, 303, 304, 305, 306, 307, 308, 309, 300, 47, 314, 315, 401, 402, 403, 404, 170, 405, 406, 407, 408, 409, 410, 411, 412, 413, 121, 122, 414, 415, 416, 417, 418, 342, 343, 344, 175, 345, 346, 347, 348, 176, 349, 350, 351, 352, 353, 19, 354, 276, 355, 356, 357, 358, 277, 419, 420, 421, 422, 423, 424, 425, 426, 427, 428, 429, 430, 431, 432, 433, 434, 52, 435, 436, 437, 438, 185, 510, 511, 512, 513, 747, 748, 749, 750, 659, 660, 661, 662, 663, 664, 665, 666, 667, 668, 669, 670, 671, 672, 730, 731, 732, 733, 734, 735, 736, 737, 738, 739, 740, 741, 742, 743, 744, 745, 746, 754, 755, 756, 718, 719, 710, 711, 712, 713, 714, 715, 716, 717, 720, 721] (by decide +kernel) (by decide +kernel)
set_option maxRecDepth 20000 in
theorem gL_law_X8_order : GoodIn wsL_law (wsV RL 56 RX8 yX8_order wsX8_order) := goodIn_app (goodIn_of _ (by decide +kernel)) ggL_law_X8_order
set_option maxRecDepth 20000 in
theorem ggL_law_X9_order : GoodIn wsL_law wsX9_order := goodIn_r _ [517, 465, 89, 459, 460, 461, 5, 462, 214, 87, 88, 463, 304, 305, 306, 464, 308, 309, 216, 217, 218, 219, 75, 79, 80, 444, 445, 446, 447, 448, 73, 449, 450, 451, 452, 453, 72, 67, 454, 455, 456, 457, 458, 220, 221, 222, 466, 467, 468, 469, 86, 71, 68, 470, 471, 472, 328, 329, 330, 331, 327, 84, 85, 473, 474, 475, 476, 104, 105, 106, 673, 674, 675, 676, 677, 678, 679, 680, 681, 682, 683, 684, 685, 686, 687, 688, 689, 690, 691, 692, 693, 694, 695, 696, 697, 698, 699, 700, 701, 702, 703, 704, 705, 706, 707, 708, 709] (by decide +kernel) (by decide +kernel)
set_option maxRecDepth 20000 in
theorem gL_law_X9_order : GoodIn wsL_law (wsV RL 59 RX9 yX9_order wsX9_order) := goodIn_app (goodIn_of _ (by decide +kernel)) ggL_law_X9_order
set_option maxRecDepth 20000 in
theorem ggL_law_X8_caseOf : GoodIn wsL_law wsX8_caseOf := goodIn_r _ [521, 522, 523, 524, 525, 526, 368, 369, 370, 2, 371, 119, 28, 13, 112, 24, 34, 372, 373, 374, 27, 375, 376, 377, 378, 379, 380, 179, 381, 382, 383, 384, 385, 132, 133, 114, 134, 135, 136, 137, 138, 139, 140, 141, 142, 143, 144, 145, 386, 387, 388, 389, 390, 391, 392, 393, 394, 395, 396, 397, 398, 399, 23, 400, 299, 310, 311, 312, 313, 303, 304, 305, 306, 307, 308, 309, 300, 47, 314, 315, 401, 402, 403, 404, 170, 405, 406, 407, 408, 409, 410, 411, 412, 413, 121, 122, 414, 415, 416, 417, 418, 342, 343, 344, 175, 345, 346, 347, 348, 176, 349, 350, 351, 352, 353, 19, 354, 276, 355, 356, 357, 358, 277, 419, 420, 421, 422, 423, 424, 425, 426, 427, 428, 429, 430, 431, 432, 433, 434, 52, 435, 436, 437, 438, 185, 250, 251, 252, 253, 120, 131, 527, 528, 529, 530, 340, 278, 279, 531, 532, 533, 534, 111, 439, 730, 731, 732, 733, 734, 735, 736, 737, 738, 739, 740, 741, 742, 743, 744, 745, 746, 747, 748, 749, 750, 659, 660, 661, 662, 663, 664, 665, 666, 667, 668, 669, 670, 671, 672, 754, 755, 756, 718, 719, 710, 711, 712, 713, 714, 715, 716, 717, 720, 721] (by decide +kernel) (by decide +kernel)
set_option maxRecDepth 20000 in
theorem gL_law_X8_caseOf : GoodIn wsL_law (wsV RL 60 RX8 yX8_caseOf wsX8_caseOf) := goodIn_app (goodIn_of _ (by decide +kernel)) ggL_law_X8_caseOf
set_option maxRecDepth 20000 in
theorem ggL_law_X9_caseOf : GoodIn wsL_law wsX9_caseOf := goodIn_r _ [538, 87, 214, 284, 285, 286, 5, 287, 104, 105, 106, 459, 460, 461, 462, 88, 463, 304, 305, 306, 464, 308, 309, 465, 89, 216, 217, 218, 219, 75, 79, 80, 444, 445, 446, 447, 448, 73, 449, 450, 451, 452, 453, 72, 67, 454, 455, 456, 457, 458, 220, 221, 222, 466, 467, 468, 469, 86, 71, 68, 470, 471, 472, 328, 329, 330, 331, 327, 84, 85, 473, 474, 475, 476, 539, 540, 541, 542, 543, 544, 545, 546, 547, 548, 549, 550, 673, 674, 675, 676, 677, 678, 679, 680, 681, 682, 683, 684, 685, 686, 687, 688, 689, 690, 691, 692, 693, 694, 695, 696, 697, 698, 699, 700, 701, 702, 703, 704, 705, 706, 707, 708, 709] (by decide +kernel) (by decide +kernel)
set_option maxRecDepth 20000 in
theorem gL_law_X9_caseOf : GoodIn wsL_law (wsV RL 63 RX9 yX9_caseOf wsX9_caseOf) := goodIn_app (goodIn_of _ (by decide +kernel)) ggL_law_X9_caseOf
set_option maxRecDepth 20000 in
theorem ggL_law_X8_slow : GoodIn wsL_law wsX8_slow := goodIn_r _ [554, 14, 98, 203, 34, 118, 120, 121, 2, 122, 131, 132, 133, 114, 134, 135, 136, 137, 138, 139, 140, 141, 142, 143, 144, 145, 341, 342, 343, 344, 175, 345, 346, 347, 348, 176, 349, 350, 351, 352, 353, 19, 354, 276, 355, 356, 357, 358, 277, 659, 660, 661, 662, 663, 664, 665, 666, 667, 668, 669, 670, 671, 672, 730, 731, 732, 733, 734, 735, 736, 737, 738, 739, 740, 741, 742, 743, 744, 745, 746, 710, 711, 712, 713, 714, 715, 716, 717] (by decide +kernel) (by decide +kernel)
set_option maxRecDepth 20000 in
theorem gL_law_X8_slow : GoodIn wsL_law (wsV RL 64 RX8 yX8_slow wsX8_slow) := goodIn_app (goodIn_of _ (by decide +kernel)) ggL_law_X8_slow
set_option maxRecDepth 20000 in
theorem ggL_law_X9_slow : GoodIn wsL_law wsX9_slow := goodIn_r _ [558, 214, 71, 103, 68, 104, 105, 5, 106, 216, 217, 218, 219, 75, 79, 80, 444, 445, 446, 447, 448, 73, 449, 450, 451, 452, 453, 72, 67, 454, 455, 456, 457, 458, 220, 221, 222, 673, 674, 675, 676, 677, 678, 679, 680, 681, 682, 683, 684, 685, 686, 687, 688, 689, 690, 691, 692, 693, 694, 695, 696, 697, 698, 699, 700, 701, 702, 703, 704, 705, 706, 707, 708, 709] (by decide +kernel) (by decide +kernel)
set_option maxRecDepth 20000 in
theorem gL_law_X9_slow : GoodIn wsL_law (wsV RL 67 RX9 yX9_slow wsX9_slow) := goodIn_app (goodIn_of _ (by decide +kernel)) ggL_law_X9_slow
set_option maxRecDepth 20000 in
theorem ggL_law_X8_plan : GoodIn wsL_law wsX8_plan := goodIn_r _ [562, 32, 240, 563, 509, 368, 369, 370, 2, 371, 119, 28, 13, 112, 24, 34, 372, 373, 374, 27, 375, 376, 377, 378, 379, 380, 179, 381, 382, 383, 384, 385, 132, 133, 114, 134, 135, 136, 137, 138, 139, 140, 141, 142, 143, 144, 145, 386, 387, 388, 389, 390, 391, 392, 393, 394, 395, 396, 397, 398, 399, 23, 400, 299, 310, 311, 312, 313, 303, 304, 305, 306, 307, 308, 309, 300, 47, 314, 315, 401, 402, 403, 404, 170, 405, 406, 407, 408, 409, 410, 411, 412, 413, 121, 122, 414, 415, 416, 417, 418, 342, 343, 344, 175, 345, 346, 347, 348, 176, 349, 350, 351, 352, 353, 19, 354, 276, 355, 356, 357, 358, 277, 419, 420, 421, 422, 423, 424, 425, 426, 427, 428, 429, 430, 431, 432, 433, 434, 52, 435, 436, 437, 438, 185, 564, 565, 566, 31, 567, 568, 569, 570, 571, 572, 573, 574, 575, 576, 577, 578, 579, 580, 581, 528, 529, 530, 582, 583, 584, 585, 57, 586, 587, 588, 589, 590, 58, 591, 592, 593, 594, 595, 596, 597, 598, 60, 61, 599, 600, 601, 602, 603, 604, 605, 606, 659, 660, 661, 662, 663, 664, 665, 666, 667, 668, 669, 670, 671, 672, 722, 723, 724, 725, 726, 727, 728, 729, 747, 748, 749, 750, 730, 731, 732, 733, 734, 735, 736, 737, 738, 739, 740, 741, 742, 743, 744, 745, 746, 754, 755, 756, 718, 719, 710, 711, 712, 713, 714, 715, 716, 717, 720, 721] (by decide +kernel) (by decide +kernel)
set_option maxRecDepth 20000 in
theorem gL_law_X8_plan : GoodIn wsL_law (wsV RL 68 RX8 yX8_plan wsX8_plan) := goodIn_app (goodIn_of _ (by decide +kernel)) ggL_law_X8_plan
set_option maxRecDepth 20000 in
theorem ggL_law_X9_plan : GoodIn wsL_law wsX9_plan := goodIn_r _ [610, 611, 90, 612, 613, 5, 614, 104, 105, 106, 615, 616, 617, 618, 465, 245, 89, 91, 92, 93, 459, 460, 461, 462, 214, 87, 88, 463, 304, 305, 306, 464, 308, 309, 216, 217, 218, 219, 75, 79, 80, 444, 445, 446, 447, 448, 73, 449, 450, 451, 452, 453, 72, 67, 454, 455, 456, 457, 458, 220, 221, 222, 466, 467, 468, 469, 86, 71, 68, 470, 471, 472, 328, 329, 330, 331, 327, 84, 85, 473, 474, 475, 476, 547, 548, 549, 550, 543, 544, 545, 546, 539, 540, 541, 542, 619, 620, 621, 622, 673, 674, 675, 676, 677, 678, 679, 680, 681, 682, 683, 684, 685, 686, 687, 688, 689, 690, 691, 692, 693, 694, 695, 696, 697, 698, 699, 700, 701, 702, 703, 704, 705, 706, 707, 708, 709] (by decide +kernel) (by decide +kernel)
set_option maxRecDepth 20000 in
theorem gL_law_X9_plan : GoodIn wsL_law (wsV RL 71 RX9 yX9_plan wsX9_plan) := goodIn_app (goodIn_of _ (by decide +kernel)) ggL_law_X9_plan
set_option maxRecDepth 20000 in
theorem ggL_law_X8_worth : GoodIn wsL_law wsX8_worth := goodIn_r _ [626, 32, 240, 627, 28, 628, 368, 369, 370, 2, 371, 119, 13, 112, 24, 34, 372, 373, 374, 27, 375, 376, 377, 378, 379, 380, 179, 381, 382, 383, 384, 385, 132, 133, 114, 134, 135, 136, 137, 138, 139, 140, 141, 142, 143, 144, 145, 386, 387, 388, 389, 390, 391, 392, 393, 394, 395, 396, 397, 398, 399, 23, 400, 299, 310, 311, 312, 313, 303, 304, 305, 306, 307, 308, 309, 300, 47, 314, 315, 401, 402, 403, 404, 170, 405, 406, 407, 408, 409, 410, 411, 412, 413, 121, 122, 414, 415, 416, 417, 418, 342, 343, 344, 175, 345, 346, 347, 348, 176, 349, 350, 351, 352, 353, 19, 354, 276, 355, 356, 357, 358, 277, 419, 420, 421, 422, 423, 424, 425, 426, 427, 428, 429, 430, 431, 432, 433, 434, 52, 435, 436, 437, 438, 185, 564, 565, 566, 31, 567, 568, 569, 570, 571, 572, 573, 574, 575, 576, 577, 578, 579, 580, 581, 528, 529, 530, 582, 583, 584, 585, 57, 586, 587, 588, 589, 590, 58, 591, 592, 593, 594, 595, 596, 597, 598, 60, 61, 599, 600, 601, 602, 629, 630, 631, 632, 633, 659, 660, 661, 662, 663, 664, 665, 666, 667, 668, 669, 670, 671, 672, 722, 723, 724, 725, 726, 727, 728, 729, 730, 731, 732, 733, 734, 735, 736, 737, 738, 739, 740, 741, 742, 743, 744, 745, 746, 747, 748, 749, 750, 754, 755, 756, 718, 719, 710, 711, 712, 713, 714, 715, 716, 717, 720, 721] (by decide +kernel) (by decide +kernel)
set_option maxRecDepth 20000 in
theorem gL_law_X8_worth : GoodIn wsL_law (wsV RL 72 RX8 yX8_worth wsX8_worth) := goodIn_app (goodIn_of _ (by decide +kernel)) ggL_law_X8_worth
set_option maxRecDepth 20000 in
theorem ggL_law_X9_worth : GoodIn wsL_law wsX9_worth := goodIn_r _ [637, 465, 89, 612, 613, 5, 614, 104, 105, 106, 615, 616, 617, 618, 611, 245, 90, 91, 92, 93, 459, 460, 461, 462, 214, 87, 88, 463, 304, 305, 306, 464, 308, 309, 216, 217, 218, 219, 75, 79, 80, 444, 445, 446, 447, 448, 73, 449, 450, 451, 452, 453, 72, 67, 454, 455, 456, 457, 458, 220, 221, 222, 466, 467, 468, 469, 86, 71, 68, 470, 471, 472, 328, 329, 330, 331, 327, 84, 85, 473, 474, 475, 476, 547, 548, 549, 550, 543, 544, 545, 546, 539, 540, 541, 542, 619, 620, 621, 622, 673, 674, 675, 676, 677, 678, 679, 680, 681, 682, 683, 684, 685, 686, 687, 688, 689, 690, 691, 692, 693, 694, 695, 696, 697, 698, 699, 700, 701, 702, 703, 704, 705, 706, 707, 708, 709] (by decide +kernel) (by decide +kernel)
set_option maxRecDepth 20000 in
theorem gL_law_X9_worth : GoodIn wsL_law (wsV RL 75 RX9 yX9_worth wsX9_worth) := goodIn_app (goodIn_of _ (by decide +kernel)) ggL_law_X9_worth
set_option maxRecDepth 20000 in
theorem ggL_law_X8_source : GoodIn wsL_law wsX8_source := goodIn_r _ [641, 112, 13, 127, 120, 121, 2, 122, 642, 643, 644, 337, 115, 116, 338, 204, 141, 142, 114, 143, 144, 145, 659, 660, 661, 662, 663, 664, 665, 666, 667, 668, 669, 670, 671, 672, 730, 731, 732, 733, 734, 735, 736, 737, 738, 739, 740, 741, 742, 743, 744, 745, 746] (by decide +kernel) (by decide +kernel)
set_option maxRecDepth 20000 in
theorem gL_law_X8_source : GoodIn wsL_law (wsV RL 76 RX8 yX8_source wsX8_source) := goodIn_app (goodIn_of _ (by decide +kernel)) ggL_law_X8_source
set_option maxRecDepth 20000 in
theorem ggL_law_X9_source : GoodIn wsL_law wsX9_source := goodIn_r _ [648, 214, 70, 79, 80, 74, 75, 104, 105, 5, 106, 220, 221, 222, 673, 674, 675, 676, 677, 678, 679, 680, 681, 682, 683, 684, 685, 686, 687, 688, 689, 690, 691, 692, 693, 694, 695, 696, 697, 698, 699, 700, 701, 702, 703, 704, 705, 706, 707, 708, 709] (by decide +kernel) (by decide +kernel)
set_option maxRecDepth 20000 in
theorem gL_law_X9_source : GoodIn wsL_law (wsV RL 79 RX9 yX9_source wsX9_source) := goodIn_app (goodIn_of _ (by decide +kernel)) ggL_law_X9_source
set_option maxRecDepth 20000 in
theorem ggL_law_X8_count : GoodIn wsL_law wsX8_count := goodIn_r _ [652, 98, 112, 20, 483, 653, 190, 24, 654, 368, 369, 370, 2, 371, 119, 28, 13, 34, 372, 373, 374, 27, 375, 376, 377, 378, 379, 380, 179, 381, 382, 383, 384, 385, 132, 133, 114, 134, 135, 136, 137, 138, 139, 140, 141, 142, 143, 144, 145, 386, 387, 388, 389, 390, 391, 392, 393, 394, 395, 396, 397, 398, 399, 23, 400, 299, 310, 311, 312, 313, 303, 304, 305, 306, 307, 308, 309, 300, 47, 314, 315, 401, 402, 403, 404, 170, 405, 406, 407, 408, 409, 410, 411, 412, 413, 121, 122, 414, 415, 416, 417, 418, 342, 343, 344, 175, 345, 346, 347, 348, 176, 349, 350, 351, 352, 353, 19, 354, 276, 355, 356, 357, 358, 277, 419, 420, 421, 422, 423, 424, 425, 426, 427, 428, 429, 430, 431, 432, 433, 434, 52, 435, 436, 437, 438, 185, 659, 660, 661, 662, 663, 664, 665, 666, 667, 668, 669, 670, 671, 672, 710, 711, 712, 713, 714, 715, 716, 717, 720, 721, 718, 719, 730, 731, 732, 733, 734, 735, 736, 737, 738, 739, 740, 741, 742, 743, 744, 745, 746, 747, 748, 749, 750, 754, 755, 756] (by decide +kernel) (by decide +kernel)
set_option maxRecDepth 20000 in
theorem gL_law_X8_count : GoodIn wsL_law (wsV RL 80 RX8 yX8_count wsX8_count) := goodIn_app (goodIn_of _ (by decide +kernel)) ggL_law_X8_count
set_option maxRecDepth 20000 in
theorem ggL_law_X9_count : GoodIn wsL_law wsX9_count := goodIn_r _ [658, 103, 214, 75, 465, 215, 327, 220, 221, 5, 222, 459, 460, 461, 462, 87, 88, 463, 304, 305, 306, 464, 308, 309, 89, 216, 217, 218, 219, 79, 80, 444, 445, 446, 447, 448, 73, 449, 450, 451, 452, 453, 72, 67, 454, 455, 456, 457, 458, 466, 467, 468, 469, 86, 71, 68, 470, 471, 472, 328, 329, 330, 331, 84, 85, 473, 474, 475, 476, 673, 674, 675, 676, 677, 678, 679, 680, 681, 682, 683, 684, 685, 686, 687, 688, 689, 690, 691, 692, 693, 694, 695, 696, 697, 698, 699, 700, 701, 702, 703, 704, 705, 706, 707, 708, 709] (by decide +kernel) (by decide +kernel)
set_option maxRecDepth 20000 in
theorem gL_law_X9_count : GoodIn wsL_law (wsV RL 83 RX9 yX9_count wsX9_count) := goodIn_app (goodIn_of _ (by decide +kernel)) ggL_law_X9_count
abbrev vwCl : List vw_C := [(RX0, TX0, 17), (RX1, TX1, 4), (RX2, TX2, 2), (RX3, TX3, 8), (RX4, TX4, 3), (RX5, TX5, 8), (RX6, TX6, 3), (RX7, TX7, 2), (RX8, TX8, 14), (RX9, TX9, 37)]
end
section
theorem dX0_init_0 : decode cX0_init 0 = .ok (.aload_n 0, 1) := by decide +kernel
theorem dX0_init_1 : decode cX0_init 1 = .ok (.invokespecial 3, 3) := by decide +kernel
theorem dX0_init_4 : decode cX0_init 4 = .ok (.aload_n 0, 1) := by decide +kernel
theorem dX0_init_5 : decode cX0_init 5 = .ok (.iconst 0, 1) := by decide +kernel
theorem dX0_init_6 : decode cX0_init 6 = .ok (.putfield 9, 3) := by decide +kernel
theorem dX0_init_9 : decode cX0_init 9 = .ok (.aload_n 0, 1) := by decide +kernel
theorem dX0_init_10 : decode cX0_init 10 = .ok (.iload_n 1, 1) := by decide +kernel
theorem dX0_init_11 : decode cX0_init 11 = .ok (.putfield 15, 3) := by decide +kernel
theorem dX0_init_14 : decode cX0_init 14 = .ok (.aload_n 0, 1) := by decide +kernel
theorem dX0_init_15 : decode cX0_init 15 = .ok (.iload_n 2, 1) := by decide +kernel
theorem dX0_init_16 : decode cX0_init 16 = .ok (.putfield 18, 3) := by decide +kernel
theorem dX0_init_19 : decode cX0_init 19 = .ok (.aload_n 0, 1) := by decide +kernel
theorem dX0_init_20 : decode cX0_init 20 = .ok (.iload_n 3, 1) := by decide +kernel
theorem dX0_init_21 : decode cX0_init 21 = .ok (.putfield 21, 3) := by decide +kernel
theorem dX0_init_24 : decode cX0_init 24 = .ok (.aload_n 0, 1) := by decide +kernel
theorem dX0_init_25 : decode cX0_init 25 = .ok (.iload 4, 2) := by decide +kernel
theorem dX0_init_27 : decode cX0_init 27 = .ok (.putfield 24, 3) := by decide +kernel
theorem dX0_init_30 : decode cX0_init 30 = .ok (.aload_n 0, 1) := by decide +kernel
theorem dX0_init_31 : decode cX0_init 31 = .ok (.iload 5, 2) := by decide +kernel
theorem dX0_init_33 : decode cX0_init 33 = .ok (.putfield 27, 3) := by decide +kernel
theorem dX0_init_36 : decode cX0_init 36 = .ok (.aload_n 0, 1) := by decide +kernel
theorem dX0_init_37 : decode cX0_init 37 = .ok (.iload 6, 2) := by decide +kernel
theorem dX0_init_39 : decode cX0_init 39 = .ok (.putfield 30, 3) := by decide +kernel
theorem dX0_init_42 : decode cX0_init 42 = .ok (.aload_n 0, 1) := by decide +kernel
theorem dX0_init_43 : decode cX0_init 43 = .ok (.aload 7, 2) := by decide +kernel
theorem dX0_init_45 : decode cX0_init 45 = .ok (.putfield 33, 3) := by decide +kernel
theorem dX0_init_48 : decode cX0_init 48 = .ok (.aload_n 0, 1) := by decide +kernel
theorem dX0_init_49 : decode cX0_init 49 = .ok (.new 37, 3) := by decide +kernel
theorem dX0_init_52 : decode cX0_init 52 = .ok (.dup, 1) := by decide +kernel
theorem dX0_init_53 : decode cX0_init 53 = .ok (.iload_n 1, 1) := by decide +kernel
theorem dX0_init_54 : decode cX0_init 54 = .ok (.invokespecial 39, 3) := by decide +kernel
theorem dX0_init_57 : decode cX0_init 57 = .ok (.putfield 42, 3) := by decide +kernel
theorem dX0_init_60 : decode cX0_init 60 = .ok (.aload_n 0, 1) := by decide +kernel
theorem dX0_init_61 : decode cX0_init 61 = .ok (.iload_n 2, 1) := by decide +kernel
theorem dX0_init_62 : decode cX0_init 62 = .ok (.putfield 46, 3) := by decide +kernel
theorem dX0_init_65 : decode cX0_init 65 = .ok (.return_, 1) := by decide +kernel
theorem dX0_isOpen_0 : decode cX0_isOpen 0 = .ok (.aload_n 0, 1) := by decide +kernel
theorem dX0_isOpen_1 : decode cX0_isOpen 1 = .ok (.getfield 9, 3) := by decide +kernel
theorem dX0_isOpen_4 : decode cX0_isOpen 4 = .ok (.ifCond .ne 7, 3) := by decide +kernel
theorem dX0_isOpen_7 : decode cX0_isOpen 7 = .ok (.iconst 1, 1) := by decide +kernel
theorem dX0_isOpen_8 : decode cX0_isOpen 8 = .ok (.goto 4, 3) := by decide +kernel
theorem dX0_isOpen_11 : decode cX0_isOpen 11 = .ok (.iconst 0, 1) := by decide +kernel
theorem dX0_isOpen_12 : decode cX0_isOpen 12 = .ok (.ireturn, 1) := by decide +kernel
theorem dX0_isHushed_0 : decode cX0_isHushed 0 = .ok (.aload_n 0, 1) := by decide +kernel
theorem dX0_isHushed_1 : decode cX0_isHushed 1 = .ok (.getfield 49, 3) := by decide +kernel
theorem dX0_isHushed_4 : decode cX0_isHushed 4 = .ok (.ifCond .ne 10, 3) := by decide +kernel
theorem dX0_isHushed_7 : decode cX0_isHushed 7 = .ok (.aload_n 0, 1) := by decide +kernel
theorem dX0_isHushed_8 : decode cX0_isHushed 8 = .ok (.getfield 53, 3) := by decide +kernel
theorem dX0_isHushed_11 : decode cX0_isHushed 11 = .ok (.ifCond .eq 7, 3) := by decide +kernel
theorem dX0_isHushed_14 : decode cX0_isHushed 14 = .ok (.iconst 1, 1) := by decide +kernel
theorem dX0_isHushed_15 : decode cX0_isHushed 15 = .ok (.goto 4, 3) := by decide +kernel
theorem dX0_isHushed_18 : decode cX0_isHushed 18 = .ok (.iconst 0, 1) := by decide +kernel
theorem dX0_isHushed_19 : decode cX0_isHushed 19 = .ok (.ireturn, 1) := by decide +kernel
theorem dX0_isLive_0 : decode cX0_isLive 0 = .ok (.aload_n 0, 1) := by decide +kernel
theorem dX0_isLive_1 : decode cX0_isLive 1 = .ok (.invokevirtual 56, 3) := by decide +kernel
theorem dX0_isLive_4 : decode cX0_isLive 4 = .ok (.ifCond .eq 14, 3) := by decide +kernel
theorem dX0_isLive_7 : decode cX0_isLive 7 = .ok (.aload_n 0, 1) := by decide +kernel
theorem dX0_isLive_8 : decode cX0_isLive 8 = .ok (.invokevirtual 60, 3) := by decide +kernel
theorem dX0_isLive_11 : decode cX0_isLive 11 = .ok (.ifCond .ne 7, 3) := by decide +kernel
theorem dX0_isLive_14 : decode cX0_isLive 14 = .ok (.iconst 1, 1) := by decide +kernel
theorem dX0_isLive_15 : decode cX0_isLive 15 = .ok (.goto 4, 3) := by decide +kernel
theorem dX0_isLive_18 : decode cX0_isLive 18 = .ok (.iconst 0, 1) := by decide +kernel
theorem dX0_isLive_19 : decode cX0_isLive 19 = .ok (.ireturn, 1) := by decide +kernel
theorem dX0_repeat_0 : decode cX0_repeat 0 = .ok (.aload_n 0, 1) := by decide +kernel
theorem dX0_repeat_1 : decode cX0_repeat 1 = .ok (.dup, 1) := by decide +kernel
theorem dX0_repeat_2 : decode cX0_repeat 2 = .ok (.getfield 63, 3) := by decide +kernel
theorem dX0_repeat_5 : decode cX0_repeat 5 = .ok (.iconst 1, 1) := by decide +kernel
theorem dX0_repeat_6 : decode cX0_repeat 6 = .ok (.iadd, 1) := by decide +kernel
theorem dX0_repeat_7 : decode cX0_repeat 7 = .ok (.putfield 63, 3) := by decide +kernel
theorem dX0_repeat_10 : decode cX0_repeat 10 = .ok (.aload_n 0, 1) := by decide +kernel
theorem dX0_repeat_11 : decode cX0_repeat 11 = .ok (.iload_n 1, 1) := by decide +kernel
theorem dX0_repeat_12 : decode cX0_repeat 12 = .ok (.putfield 46, 3) := by decide +kernel
theorem dX0_repeat_15 : decode cX0_repeat 15 = .ok (.return_, 1) := by decide +kernel
theorem dX0_hasHeard_0 : decode cX0_hasHeard 0 = .ok (.aload_n 0, 1) := by decide +kernel
theorem dX0_hasHeard_1 : decode cX0_hasHeard 1 = .ok (.getfield 66, 3) := by decide +kernel
theorem dX0_hasHeard_4 : decode cX0_hasHeard 4 = .ok (.aload_n 0, 1) := by decide +kernel
theorem dX0_hasHeard_5 : decode cX0_hasHeard 5 = .ok (.getfield 69, 3) := by decide +kernel
theorem dX0_hasHeard_8 : decode cX0_hasHeard 8 = .ok (.ior, 1) := by decide +kernel
theorem dX0_hasHeard_9 : decode cX0_hasHeard 9 = .ok (.iload_n 1, 1) := by decide +kernel
theorem dX0_hasHeard_10 : decode cX0_hasHeard 10 = .ok (.ishr, 1) := by decide +kernel
theorem dX0_hasHeard_11 : decode cX0_hasHeard 11 = .ok (.iconst 1, 1) := by decide +kernel
theorem dX0_hasHeard_12 : decode cX0_hasHeard 12 = .ok (.iand, 1) := by decide +kernel
theorem dX0_hasHeard_13 : decode cX0_hasHeard 13 = .ok (.iconst 1, 1) := by decide +kernel
theorem dX0_hasHeard_14 : decode cX0_hasHeard 14 = .ok (.if_icmp .ne 7, 3) := by decide +kernel
theorem dX0_hasHeard_17 : decode cX0_hasHeard 17 = .ok (.iconst 1, 1) := by decide +kernel
theorem dX0_hasHeard_18 : decode cX0_hasHeard 18 = .ok (.goto 4, 3) := by decide +kernel
theorem dX0_hasHeard_21 : decode cX0_hasHeard 21 = .ok (.iconst 0, 1) := by decide +kernel
theorem dX0_hasHeard_22 : decode cX0_hasHeard 22 = .ok (.ireturn, 1) := by decide +kernel
theorem dX0_hear_0 : decode cX0_hear 0 = .ok (.iload_n 2, 1) := by decide +kernel
theorem dX0_hear_1 : decode cX0_hear 1 = .ok (.ifCond .eq 18, 3) := by decide +kernel
theorem dX0_hear_4 : decode cX0_hear 4 = .ok (.aload_n 0, 1) := by decide +kernel
theorem dX0_hear_5 : decode cX0_hear 5 = .ok (.dup, 1) := by decide +kernel
theorem dX0_hear_6 : decode cX0_hear 6 = .ok (.getfield 66, 3) := by decide +kernel
theorem dX0_hear_9 : decode cX0_hear 9 = .ok (.iconst 1, 1) := by decide +kernel
theorem dX0_hear_10 : decode cX0_hear 10 = .ok (.iload_n 1, 1) := by decide +kernel
theorem dX0_hear_11 : decode cX0_hear 11 = .ok (.ishl, 1) := by decide +kernel
theorem dX0_hear_12 : decode cX0_hear 12 = .ok (.ior, 1) := by decide +kernel
theorem dX0_hear_13 : decode cX0_hear 13 = .ok (.putfield 66, 3) := by decide +kernel
theorem dX0_hear_16 : decode cX0_hear 16 = .ok (.goto 15, 3) := by decide +kernel
theorem dX0_hear_19 : decode cX0_hear 19 = .ok (.aload_n 0, 1) := by decide +kernel
theorem dX0_hear_20 : decode cX0_hear 20 = .ok (.dup, 1) := by decide +kernel
theorem dX0_hear_21 : decode cX0_hear 21 = .ok (.getfield 69, 3) := by decide +kernel
theorem dX0_hear_24 : decode cX0_hear 24 = .ok (.iconst 1, 1) := by decide +kernel
theorem dX0_hear_25 : decode cX0_hear 25 = .ok (.iload_n 1, 1) := by decide +kernel
theorem dX0_hear_26 : decode cX0_hear 26 = .ok (.ishl, 1) := by decide +kernel
theorem dX0_hear_27 : decode cX0_hear 27 = .ok (.ior, 1) := by decide +kernel
theorem dX0_hear_28 : decode cX0_hear 28 = .ok (.putfield 69, 3) := by decide +kernel
theorem dX0_hear_31 : decode cX0_hear 31 = .ok (.aload_n 0, 1) := by decide +kernel
theorem dX0_hear_32 : decode cX0_hear 32 = .ok (.getfield 66, 3) := by decide +kernel
theorem dX0_hear_35 : decode cX0_hear 35 = .ok (.invokestatic 72, 3) := by decide +kernel
theorem dX0_hear_38 : decode cX0_hear 38 = .ok (.iconst 2, 1) := by decide +kernel
theorem dX0_hear_39 : decode cX0_hear 39 = .ok (.if_icmp .lt 11, 3) := by decide +kernel
theorem dX0_hear_42 : decode cX0_hear 42 = .ok (.aload_n 0, 1) := by decide +kernel
theorem dX0_hear_43 : decode cX0_hear 43 = .ok (.iconst 1, 1) := by decide +kernel
theorem dX0_hear_44 : decode cX0_hear 44 = .ok (.putfield 9, 3) := by decide +kernel
theorem dX0_hear_47 : decode cX0_hear 47 = .ok (.goto 19, 3) := by decide +kernel
theorem dX0_hear_50 : decode cX0_hear 50 = .ok (.aload_n 0, 1) := by decide +kernel
theorem dX0_hear_51 : decode cX0_hear 51 = .ok (.getfield 69, 3) := by decide +kernel
theorem dX0_hear_54 : decode cX0_hear 54 = .ok (.invokestatic 72, 3) := by decide +kernel
theorem dX0_hear_57 : decode cX0_hear 57 = .ok (.iconst 2, 1) := by decide +kernel
theorem dX0_hear_58 : decode cX0_hear 58 = .ok (.if_icmp .lt 8, 3) := by decide +kernel
theorem dX0_hear_61 : decode cX0_hear 61 = .ok (.aload_n 0, 1) := by decide +kernel
theorem dX0_hear_62 : decode cX0_hear 62 = .ok (.iconst 2, 1) := by decide +kernel
theorem dX0_hear_63 : decode cX0_hear 63 = .ok (.putfield 9, 3) := by decide +kernel
theorem dX0_hear_66 : decode cX0_hear 66 = .ok (.return_, 1) := by decide +kernel
theorem dX0_verdicts_0 : decode cX0_verdicts 0 = .ok (.aload_n 0, 1) := by decide +kernel
theorem dX0_verdicts_1 : decode cX0_verdicts 1 = .ok (.getfield 66, 3) := by decide +kernel
theorem dX0_verdicts_4 : decode cX0_verdicts 4 = .ok (.aload_n 0, 1) := by decide +kernel
theorem dX0_verdicts_5 : decode cX0_verdicts 5 = .ok (.getfield 69, 3) := by decide +kernel
theorem dX0_verdicts_8 : decode cX0_verdicts 8 = .ok (.ior, 1) := by decide +kernel
theorem dX0_verdicts_9 : decode cX0_verdicts 9 = .ok (.invokestatic 72, 3) := by decide +kernel
theorem dX0_verdicts_12 : decode cX0_verdicts 12 = .ok (.ireturn, 1) := by decide +kernel
theorem dX0_nodeFor_0 : decode cX0_nodeFor 0 = .ok (.aload_n 0, 1) := by decide +kernel
theorem dX0_nodeFor_1 : decode cX0_nodeFor 1 = .ok (.getfield 33, 3) := by decide +kernel
theorem dX0_nodeFor_4 : decode cX0_nodeFor 4 = .ok (.astore_n 2, 1) := by decide +kernel
theorem dX0_nodeFor_5 : decode cX0_nodeFor 5 = .ok (.aload_n 2, 1) := by decide +kernel
theorem dX0_nodeFor_6 : decode cX0_nodeFor 6 = .ok (.getfield 78, 3) := by decide +kernel
theorem dX0_nodeFor_9 : decode cX0_nodeFor 9 = .ok (.iload_n 1, 1) := by decide +kernel
theorem dX0_nodeFor_10 : decode cX0_nodeFor 10 = .ok (.if_icmp .ge 18, 3) := by decide +kernel
theorem dX0_nodeFor_13 : decode cX0_nodeFor 13 = .ok (.aload_n 2, 1) := by decide +kernel
theorem dX0_nodeFor_14 : decode cX0_nodeFor 14 = .ok (.getfield 83, 3) := by decide +kernel
theorem dX0_nodeFor_17 : decode cX0_nodeFor 17 = .ok (.ifnull 11, 3) := by decide +kernel
theorem dX0_nodeFor_20 : decode cX0_nodeFor 20 = .ok (.aload_n 2, 1) := by decide +kernel
theorem dX0_nodeFor_21 : decode cX0_nodeFor 21 = .ok (.getfield 83, 3) := by decide +kernel
theorem dX0_nodeFor_24 : decode cX0_nodeFor 24 = .ok (.astore_n 2, 1) := by decide +kernel
theorem dX0_nodeFor_25 : decode cX0_nodeFor 25 = .ok (.goto (-20), 3) := by decide +kernel
theorem dX0_nodeFor_28 : decode cX0_nodeFor 28 = .ok (.aload_n 2, 1) := by decide +kernel
theorem dX0_nodeFor_29 : decode cX0_nodeFor 29 = .ok (.areturn, 1) := by decide +kernel
theorem dX0_score_0 : decode cX0_score 0 = .ok (.aload_n 0, 1) := by decide +kernel
theorem dX0_score_1 : decode cX0_score 1 = .ok (.iload_n 1, 1) := by decide +kernel
theorem dX0_score_2 : decode cX0_score 2 = .ok (.invokevirtual 86, 3) := by decide +kernel
theorem dX0_score_5 : decode cX0_score 5 = .ok (.astore_n 2, 1) := by decide +kernel
theorem dX0_score_6 : decode cX0_score 6 = .ok (.aload_n 2, 1) := by decide +kernel
theorem dX0_score_7 : decode cX0_score 7 = .ok (.invokevirtual 90, 3) := by decide +kernel
theorem dX0_score_10 : decode cX0_score 10 = .ok (.istore_n 3, 1) := by decide +kernel
theorem dX0_score_11 : decode cX0_score 11 = .ok (.iload_n 3, 1) := by decide +kernel
theorem dX0_score_12 : decode cX0_score 12 = .ok (.iconst 1, 1) := by decide +kernel
theorem dX0_score_13 : decode cX0_score 13 = .ok (.if_icmp .ge 7, 3) := by decide +kernel
theorem dX0_score_16 : decode cX0_score 16 = .ok (.iconst 0, 1) := by decide +kernel
theorem dX0_score_17 : decode cX0_score 17 = .ok (.goto 18, 3) := by decide +kernel
theorem dX0_score_20 : decode cX0_score 20 = .ok (.sipush 1000, 3) := by decide +kernel
theorem dX0_score_23 : decode cX0_score 23 = .ok (.aload_n 0, 1) := by decide +kernel
theorem dX0_score_24 : decode cX0_score 24 = .ok (.getfield 30, 3) := by decide +kernel
theorem dX0_score_27 : decode cX0_score 27 = .ok (.imul, 1) := by decide +kernel
theorem dX0_score_28 : decode cX0_score 28 = .ok (.aload_n 2, 1) := by decide +kernel
theorem dX0_score_29 : decode cX0_score 29 = .ok (.invokevirtual 94, 3) := by decide +kernel
theorem dX0_score_32 : decode cX0_score 32 = .ok (.imul, 1) := by decide +kernel
theorem dX0_score_33 : decode cX0_score 33 = .ok (.iload_n 3, 1) := by decide +kernel
theorem dX0_score_34 : decode cX0_score 34 = .ok (.idiv, 1) := by decide +kernel
theorem dX0_score_35 : decode cX0_score 35 = .ok (.ireturn, 1) := by decide +kernel
theorem dX0_head_0 : decode cX0_head 0 = .ok (.aload_n 0, 1) := by decide +kernel
theorem dX0_head_1 : decode cX0_head 1 = .ok (.astore_n 1, 1) := by decide +kernel
theorem dX0_head_2 : decode cX0_head 2 = .ok (.aload_n 1, 1) := by decide +kernel
theorem dX0_head_3 : decode cX0_head 3 = .ok (.getfield 97, 3) := by decide +kernel
theorem dX0_head_6 : decode cX0_head 6 = .ok (.ifnull 11, 3) := by decide +kernel
theorem dX0_head_9 : decode cX0_head 9 = .ok (.aload_n 1, 1) := by decide +kernel
theorem dX0_head_10 : decode cX0_head 10 = .ok (.getfield 97, 3) := by decide +kernel
theorem dX0_head_13 : decode cX0_head 13 = .ok (.astore_n 1, 1) := by decide +kernel
theorem dX0_head_14 : decode cX0_head 14 = .ok (.goto (-12), 3) := by decide +kernel
theorem dX0_head_17 : decode cX0_head 17 = .ok (.aload_n 1, 1) := by decide +kernel
theorem dX0_head_18 : decode cX0_head 18 = .ok (.areturn, 1) := by decide +kernel
theorem dX0_joinCaseOf_0 : decode cX0_joinCaseOf 0 = .ok (.aload_n 0, 1) := by decide +kernel
theorem dX0_joinCaseOf_1 : decode cX0_joinCaseOf 1 = .ok (.invokevirtual 101, 3) := by decide +kernel
theorem dX0_joinCaseOf_4 : decode cX0_joinCaseOf 4 = .ok (.astore_n 2, 1) := by decide +kernel
theorem dX0_joinCaseOf_5 : decode cX0_joinCaseOf 5 = .ok (.aload_n 1, 1) := by decide +kernel
theorem dX0_joinCaseOf_6 : decode cX0_joinCaseOf 6 = .ok (.invokevirtual 101, 3) := by decide +kernel
theorem dX0_joinCaseOf_9 : decode cX0_joinCaseOf 9 = .ok (.astore_n 3, 1) := by decide +kernel
theorem dX0_joinCaseOf_10 : decode cX0_joinCaseOf 10 = .ok (.aload_n 2, 1) := by decide +kernel
theorem dX0_joinCaseOf_11 : decode cX0_joinCaseOf 11 = .ok (.getfield 15, 3) := by decide +kernel
theorem dX0_joinCaseOf_14 : decode cX0_joinCaseOf 14 = .ok (.aload_n 3, 1) := by decide +kernel
theorem dX0_joinCaseOf_15 : decode cX0_joinCaseOf 15 = .ok (.getfield 15, 3) := by decide +kernel
theorem dX0_joinCaseOf_18 : decode cX0_joinCaseOf 18 = .ok (.if_icmp .ge 11, 3) := by decide +kernel
theorem dX0_joinCaseOf_21 : decode cX0_joinCaseOf 21 = .ok (.aload_n 3, 1) := by decide +kernel
theorem dX0_joinCaseOf_22 : decode cX0_joinCaseOf 22 = .ok (.aload_n 2, 1) := by decide +kernel
theorem dX0_joinCaseOf_23 : decode cX0_joinCaseOf 23 = .ok (.putfield 97, 3) := by decide +kernel
theorem dX0_joinCaseOf_26 : decode cX0_joinCaseOf 26 = .ok (.goto 19, 3) := by decide +kernel
theorem dX0_joinCaseOf_29 : decode cX0_joinCaseOf 29 = .ok (.aload_n 3, 1) := by decide +kernel
theorem dX0_joinCaseOf_30 : decode cX0_joinCaseOf 30 = .ok (.getfield 15, 3) := by decide +kernel
theorem dX0_joinCaseOf_33 : decode cX0_joinCaseOf 33 = .ok (.aload_n 2, 1) := by decide +kernel
theorem dX0_joinCaseOf_34 : decode cX0_joinCaseOf 34 = .ok (.getfield 15, 3) := by decide +kernel
theorem dX0_joinCaseOf_37 : decode cX0_joinCaseOf 37 = .ok (.if_icmp .ge 8, 3) := by decide +kernel
theorem dX0_joinCaseOf_40 : decode cX0_joinCaseOf 40 = .ok (.aload_n 2, 1) := by decide +kernel
theorem dX0_joinCaseOf_41 : decode cX0_joinCaseOf 41 = .ok (.aload_n 3, 1) := by decide +kernel
theorem dX0_joinCaseOf_42 : decode cX0_joinCaseOf 42 = .ok (.putfield 97, 3) := by decide +kernel
theorem dX0_joinCaseOf_45 : decode cX0_joinCaseOf 45 = .ok (.return_, 1) := by decide +kernel
theorem dX1_init_0 : decode cX1_init 0 = .ok (.aload_n 0, 1) := by decide +kernel
theorem dX1_init_1 : decode cX1_init 1 = .ok (.invokespecial 1, 3) := by decide +kernel
theorem dX1_init_4 : decode cX1_init 4 = .ok (.aload_n 0, 1) := by decide +kernel
theorem dX1_init_5 : decode cX1_init 5 = .ok (.iload_n 1, 1) := by decide +kernel
theorem dX1_init_6 : decode cX1_init 6 = .ok (.putfield 7, 3) := by decide +kernel
theorem dX1_init_9 : decode cX1_init 9 = .ok (.return_, 1) := by decide +kernel
theorem dX1_clear_0 : decode cX1_clear 0 = .ok (.aload_n 0, 1) := by decide +kernel
theorem dX1_clear_1 : decode cX1_clear 1 = .ok (.iconst 0, 1) := by decide +kernel
theorem dX1_clear_2 : decode cX1_clear 2 = .ok (.putfield 13, 3) := by decide +kernel
theorem dX1_clear_5 : decode cX1_clear 5 = .ok (.aload_n 0, 1) := by decide +kernel
theorem dX1_clear_6 : decode cX1_clear 6 = .ok (.iconst 0, 1) := by decide +kernel
theorem dX1_clear_7 : decode cX1_clear 7 = .ok (.putfield 16, 3) := by decide +kernel
theorem dX1_clear_10 : decode cX1_clear 10 = .ok (.aload_n 0, 1) := by decide +kernel
theorem dX1_clear_11 : decode cX1_clear 11 = .ok (.iconst 0, 1) := by decide +kernel
theorem dX1_clear_12 : decode cX1_clear 12 = .ok (.putfield 19, 3) := by decide +kernel
theorem dX1_clear_15 : decode cX1_clear 15 = .ok (.return_, 1) := by decide +kernel
theorem dX1_add_0 : decode cX1_add 0 = .ok (.aload_n 0, 1) := by decide +kernel
theorem dX1_add_1 : decode cX1_add 1 = .ok (.dup, 1) := by decide +kernel
theorem dX1_add_2 : decode cX1_add 2 = .ok (.getfield 13, 3) := by decide +kernel
theorem dX1_add_5 : decode cX1_add 5 = .ok (.iconst 1, 1) := by decide +kernel
theorem dX1_add_6 : decode cX1_add 6 = .ok (.iadd, 1) := by decide +kernel
theorem dX1_add_7 : decode cX1_add 7 = .ok (.putfield 13, 3) := by decide +kernel
theorem dX1_add_10 : decode cX1_add 10 = .ok (.aload_n 0, 1) := by decide +kernel
theorem dX1_add_11 : decode cX1_add 11 = .ok (.aload_n 0, 1) := by decide +kernel
theorem dX1_add_12 : decode cX1_add 12 = .ok (.getfield 16, 3) := by decide +kernel
theorem dX1_add_15 : decode cX1_add 15 = .ok (.iload_n 1, 1) := by decide +kernel
theorem dX1_add_16 : decode cX1_add 16 = .ok (.invokestatic 23, 3) := by decide +kernel
theorem dX1_add_19 : decode cX1_add 19 = .ok (.putfield 16, 3) := by decide +kernel
theorem dX1_add_22 : decode cX1_add 22 = .ok (.aload_n 0, 1) := by decide +kernel
theorem dX1_add_23 : decode cX1_add 23 = .ok (.aload_n 0, 1) := by decide +kernel
theorem dX1_add_24 : decode cX1_add 24 = .ok (.getfield 19, 3) := by decide +kernel
theorem dX1_add_27 : decode cX1_add 27 = .ok (.ifCond .ne 7, 3) := by decide +kernel
theorem dX1_add_30 : decode cX1_add 30 = .ok (.iload_n 2, 1) := by decide +kernel
theorem dX1_add_31 : decode cX1_add 31 = .ok (.ifCond .ne 7, 3) := by decide +kernel
theorem dX1_add_34 : decode cX1_add 34 = .ok (.iconst 1, 1) := by decide +kernel
theorem dX1_add_35 : decode cX1_add 35 = .ok (.goto 4, 3) := by decide +kernel
theorem dX1_add_38 : decode cX1_add 38 = .ok (.iconst 0, 1) := by decide +kernel
theorem dX1_add_39 : decode cX1_add 39 = .ok (.putfield 19, 3) := by decide +kernel
theorem dX1_add_42 : decode cX1_add 42 = .ok (.return_, 1) := by decide +kernel
theorem dX1_minutes_0 : decode cX1_minutes 0 = .ok (.iconst 5, 1) := by decide +kernel
theorem dX1_minutes_1 : decode cX1_minutes 1 = .ok (.iconst 2, 1) := by decide +kernel
theorem dX1_minutes_2 : decode cX1_minutes 2 = .ok (.aload_n 0, 1) := by decide +kernel
theorem dX1_minutes_3 : decode cX1_minutes 3 = .ok (.getfield 13, 3) := by decide +kernel
theorem dX1_minutes_6 : decode cX1_minutes 6 = .ok (.imul, 1) := by decide +kernel
theorem dX1_minutes_7 : decode cX1_minutes 7 = .ok (.iadd, 1) := by decide +kernel
theorem dX1_minutes_8 : decode cX1_minutes 8 = .ok (.ireturn, 1) := by decide +kernel
theorem dX1_isAheadOf_0 : decode cX1_isAheadOf 0 = .ok (.aload_n 0, 1) := by decide +kernel
theorem dX1_isAheadOf_1 : decode cX1_isAheadOf 1 = .ok (.getfield 16, 3) := by decide +kernel
theorem dX1_isAheadOf_4 : decode cX1_isAheadOf 4 = .ok (.aload_n 1, 1) := by decide +kernel
theorem dX1_isAheadOf_5 : decode cX1_isAheadOf 5 = .ok (.getfield 16, 3) := by decide +kernel
theorem dX1_isAheadOf_8 : decode cX1_isAheadOf 8 = .ok (.if_icmp .gt 25, 3) := by decide +kernel
theorem dX1_isAheadOf_11 : decode cX1_isAheadOf 11 = .ok (.aload_n 0, 1) := by decide +kernel
theorem dX1_isAheadOf_12 : decode cX1_isAheadOf 12 = .ok (.getfield 16, 3) := by decide +kernel
theorem dX1_isAheadOf_15 : decode cX1_isAheadOf 15 = .ok (.aload_n 1, 1) := by decide +kernel
theorem dX1_isAheadOf_16 : decode cX1_isAheadOf 16 = .ok (.getfield 16, 3) := by decide +kernel
theorem dX1_isAheadOf_19 : decode cX1_isAheadOf 19 = .ok (.if_icmp .ne 18, 3) := by decide +kernel
theorem dX1_isAheadOf_22 : decode cX1_isAheadOf 22 = .ok (.aload_n 0, 1) := by decide +kernel
theorem dX1_isAheadOf_23 : decode cX1_isAheadOf 23 = .ok (.getfield 7, 3) := by decide +kernel
theorem dX1_isAheadOf_26 : decode cX1_isAheadOf 26 = .ok (.aload_n 1, 1) := by decide +kernel
theorem dX1_isAheadOf_27 : decode cX1_isAheadOf 27 = .ok (.getfield 7, 3) := by decide +kernel
theorem dX1_isAheadOf_30 : decode cX1_isAheadOf 30 = .ok (.if_icmp .ge 7, 3) := by decide +kernel
theorem dX1_isAheadOf_33 : decode cX1_isAheadOf 33 = .ok (.iconst 1, 1) := by decide +kernel
theorem dX1_isAheadOf_34 : decode cX1_isAheadOf 34 = .ok (.goto 4, 3) := by decide +kernel
theorem dX1_isAheadOf_37 : decode cX1_isAheadOf 37 = .ok (.iconst 0, 1) := by decide +kernel
theorem dX1_isAheadOf_38 : decode cX1_isAheadOf 38 = .ok (.ireturn, 1) := by decide +kernel
theorem dX2_init_0 : decode cX2_init 0 = .ok (.aload_n 0, 1) := by decide +kernel
theorem dX2_init_1 : decode cX2_init 1 = .ok (.invokespecial 3, 3) := by decide +kernel
theorem dX2_init_4 : decode cX2_init 4 = .ok (.aload_n 0, 1) := by decide +kernel
theorem dX2_init_5 : decode cX2_init 5 = .ok (.sipush 200, 3) := by decide +kernel
theorem dX2_init_8 : decode cX2_init 8 = .ok (.anewarray 9, 3) := by decide +kernel
theorem dX2_init_11 : decode cX2_init 11 = .ok (.putfield 11, 3) := by decide +kernel
theorem dX2_init_14 : decode cX2_init 14 = .ok (.return_, 1) := by decide +kernel
theorem dX2_gather_0 : decode cX2_gather 0 = .ok (.iconst 0, 1) := by decide +kernel
theorem dX2_gather_1 : decode cX2_gather 1 = .ok (.istore 5, 2) := by decide +kernel
theorem dX2_gather_3 : decode cX2_gather 3 = .ok (.iload 5, 2) := by decide +kernel
theorem dX2_gather_5 : decode cX2_gather 5 = .ok (.iload_n 2, 1) := by decide +kernel
theorem dX2_gather_6 : decode cX2_gather 6 = .ok (.if_icmp .ge 27, 3) := by decide +kernel
theorem dX2_gather_9 : decode cX2_gather 9 = .ok (.aload_n 1, 1) := by decide +kernel
theorem dX2_gather_10 : decode cX2_gather 10 = .ok (.iload 5, 2) := by decide +kernel
theorem dX2_gather_12 : decode cX2_gather 12 = .ok (.aaload, 1) := by decide +kernel
theorem dX2_gather_13 : decode cX2_gather 13 = .ok (.aconst_null, 1) := by decide +kernel
theorem dX2_gather_14 : decode cX2_gather 14 = .ok (.putfield 17, 3) := by decide +kernel
theorem dX2_gather_17 : decode cX2_gather 17 = .ok (.aload_n 1, 1) := by decide +kernel
theorem dX2_gather_18 : decode cX2_gather 18 = .ok (.iload 5, 2) := by decide +kernel
theorem dX2_gather_20 : decode cX2_gather 20 = .ok (.aaload, 1) := by decide +kernel
theorem dX2_gather_21 : decode cX2_gather 21 = .ok (.getfield 23, 3) := by decide +kernel
theorem dX2_gather_24 : decode cX2_gather 24 = .ok (.invokevirtual 27, 3) := by decide +kernel
theorem dX2_gather_27 : decode cX2_gather 27 = .ok (.iinc 5 1, 3) := by decide +kernel
theorem dX2_gather_30 : decode cX2_gather 30 = .ok (.goto (-27), 3) := by decide +kernel
theorem dX2_gather_33 : decode cX2_gather 33 = .ok (.iconst 0, 1) := by decide +kernel
theorem dX2_gather_34 : decode cX2_gather 34 = .ok (.istore 5, 2) := by decide +kernel
theorem dX2_gather_36 : decode cX2_gather 36 = .ok (.iload 5, 2) := by decide +kernel
theorem dX2_gather_38 : decode cX2_gather 38 = .ok (.iload_n 2, 1) := by decide +kernel
theorem dX2_gather_39 : decode cX2_gather 39 = .ok (.if_icmp .ge 27, 3) := by decide +kernel
theorem dX2_gather_42 : decode cX2_gather 42 = .ok (.aload_n 1, 1) := by decide +kernel
theorem dX2_gather_43 : decode cX2_gather 43 = .ok (.iload 5, 2) := by decide +kernel
theorem dX2_gather_45 : decode cX2_gather 45 = .ok (.aaload, 1) := by decide +kernel
theorem dX2_gather_46 : decode cX2_gather 46 = .ok (.invokevirtual 30, 3) := by decide +kernel
theorem dX2_gather_49 : decode cX2_gather 49 = .ok (.ifCond .eq 11, 3) := by decide +kernel
theorem dX2_gather_52 : decode cX2_gather 52 = .ok (.aload_n 1, 1) := by decide +kernel
theorem dX2_gather_53 : decode cX2_gather 53 = .ok (.iload 5, 2) := by decide +kernel
theorem dX2_gather_55 : decode cX2_gather 55 = .ok (.aaload, 1) := by decide +kernel
theorem dX2_gather_56 : decode cX2_gather 56 = .ok (.aload_n 3, 1) := by decide +kernel
theorem dX2_gather_57 : decode cX2_gather 57 = .ok (.invokestatic 34, 3) := by decide +kernel
theorem dX2_gather_60 : decode cX2_gather 60 = .ok (.iinc 5 1, 3) := by decide +kernel
theorem dX2_gather_63 : decode cX2_gather 63 = .ok (.goto (-27), 3) := by decide +kernel
theorem dX2_gather_66 : decode cX2_gather 66 = .ok (.aload_n 1, 1) := by decide +kernel
theorem dX2_gather_67 : decode cX2_gather 67 = .ok (.iload_n 2, 1) := by decide +kernel
theorem dX2_gather_68 : decode cX2_gather 68 = .ok (.aload_n 3, 1) := by decide +kernel
theorem dX2_gather_69 : decode cX2_gather 69 = .ok (.invokestatic 38, 3) := by decide +kernel
theorem dX2_gather_72 : decode cX2_gather 72 = .ok (.aload_n 1, 1) := by decide +kernel
theorem dX2_gather_73 : decode cX2_gather 73 = .ok (.iload_n 2, 1) := by decide +kernel
theorem dX2_gather_74 : decode cX2_gather 74 = .ok (.iload 4, 2) := by decide +kernel
theorem dX2_gather_76 : decode cX2_gather 76 = .ok (.invokestatic 42, 3) := by decide +kernel
theorem dX2_gather_79 : decode cX2_gather 79 = .ok (.aload_n 0, 1) := by decide +kernel
theorem dX2_gather_80 : decode cX2_gather 80 = .ok (.aload_n 1, 1) := by decide +kernel
theorem dX2_gather_81 : decode cX2_gather 81 = .ok (.iload_n 2, 1) := by decide +kernel
theorem dX2_gather_82 : decode cX2_gather 82 = .ok (.invokevirtual 46, 3) := by decide +kernel
theorem dX2_gather_85 : decode cX2_gather 85 = .ok (.return_, 1) := by decide +kernel
theorem dX2_at_0 : decode cX2_at 0 = .ok (.iload_n 1, 1) := by decide +kernel
theorem dX2_at_1 : decode cX2_at 1 = .ok (.aload_n 0, 1) := by decide +kernel
theorem dX2_at_2 : decode cX2_at 2 = .ok (.getfield 50, 3) := by decide +kernel
theorem dX2_at_5 : decode cX2_at 5 = .ok (.invokestatic 54, 3) := by decide +kernel
theorem dX2_at_8 : decode cX2_at 8 = .ok (.ifCond .eq 12, 3) := by decide +kernel
theorem dX2_at_11 : decode cX2_at 11 = .ok (.aload_n 0, 1) := by decide +kernel
theorem dX2_at_12 : decode cX2_at 12 = .ok (.getfield 11, 3) := by decide +kernel
theorem dX2_at_15 : decode cX2_at 15 = .ok (.iload_n 1, 1) := by decide +kernel
theorem dX2_at_16 : decode cX2_at 16 = .ok (.aaload, 1) := by decide +kernel
theorem dX2_at_17 : decode cX2_at 17 = .ok (.goto 4, 3) := by decide +kernel
theorem dX2_at_20 : decode cX2_at 20 = .ok (.aconst_null, 1) := by decide +kernel
theorem dX2_at_21 : decode cX2_at 21 = .ok (.areturn, 1) := by decide +kernel
theorem dX2_scoreOfAll_0 : decode cX2_scoreOfAll 0 = .ok (.iconst 0, 1) := by decide +kernel
theorem dX2_scoreOfAll_1 : decode cX2_scoreOfAll 1 = .ok (.istore_n 1, 1) := by decide +kernel
theorem dX2_scoreOfAll_2 : decode cX2_scoreOfAll 2 = .ok (.iconst 0, 1) := by decide +kernel
theorem dX2_scoreOfAll_3 : decode cX2_scoreOfAll 3 = .ok (.istore_n 2, 1) := by decide +kernel
theorem dX2_scoreOfAll_4 : decode cX2_scoreOfAll 4 = .ok (.iload_n 2, 1) := by decide +kernel
theorem dX2_scoreOfAll_5 : decode cX2_scoreOfAll 5 = .ok (.aload_n 0, 1) := by decide +kernel
theorem dX2_scoreOfAll_6 : decode cX2_scoreOfAll 6 = .ok (.getfield 50, 3) := by decide +kernel
theorem dX2_scoreOfAll_9 : decode cX2_scoreOfAll 9 = .ok (.if_icmp .ge 21, 3) := by decide +kernel
theorem dX2_scoreOfAll_12 : decode cX2_scoreOfAll 12 = .ok (.iload_n 1, 1) := by decide +kernel
theorem dX2_scoreOfAll_13 : decode cX2_scoreOfAll 13 = .ok (.aload_n 0, 1) := by decide +kernel
theorem dX2_scoreOfAll_14 : decode cX2_scoreOfAll 14 = .ok (.getfield 11, 3) := by decide +kernel
theorem dX2_scoreOfAll_17 : decode cX2_scoreOfAll 17 = .ok (.iload_n 2, 1) := by decide +kernel
theorem dX2_scoreOfAll_18 : decode cX2_scoreOfAll 18 = .ok (.aaload, 1) := by decide +kernel
theorem dX2_scoreOfAll_19 : decode cX2_scoreOfAll 19 = .ok (.getfield 58, 3) := by decide +kernel
theorem dX2_scoreOfAll_22 : decode cX2_scoreOfAll 22 = .ok (.iadd, 1) := by decide +kernel
theorem dX2_scoreOfAll_23 : decode cX2_scoreOfAll 23 = .ok (.istore_n 1, 1) := by decide +kernel
theorem dX2_scoreOfAll_24 : decode cX2_scoreOfAll 24 = .ok (.iinc 2 1, 3) := by decide +kernel
theorem dX2_scoreOfAll_27 : decode cX2_scoreOfAll 27 = .ok (.goto (-23), 3) := by decide +kernel
theorem dX2_scoreOfAll_30 : decode cX2_scoreOfAll 30 = .ok (.iload_n 1, 1) := by decide +kernel
theorem dX2_scoreOfAll_31 : decode cX2_scoreOfAll 31 = .ok (.ireturn, 1) := by decide +kernel
theorem dX2_joinWithSoonerOnes_0 : decode cX2_joinWithSoonerOnes 0 = .ok (.aload_n 0, 1) := by decide +kernel
theorem dX2_joinWithSoonerOnes_1 : decode cX2_joinWithSoonerOnes 1 = .ok (.getfield 61, 3) := by decide +kernel
theorem dX2_joinWithSoonerOnes_4 : decode cX2_joinWithSoonerOnes 4 = .ok (.astore_n 2, 1) := by decide +kernel
theorem dX2_joinWithSoonerOnes_5 : decode cX2_joinWithSoonerOnes 5 = .ok (.aload_n 2, 1) := by decide +kernel
theorem dX2_joinWithSoonerOnes_6 : decode cX2_joinWithSoonerOnes 6 = .ok (.ifnull 63, 3) := by decide +kernel
theorem dX2_joinWithSoonerOnes_9 : decode cX2_joinWithSoonerOnes 9 = .ok (.aload_n 0, 1) := by decide +kernel
theorem dX2_joinWithSoonerOnes_10 : decode cX2_joinWithSoonerOnes 10 = .ok (.getfield 64, 3) := by decide +kernel
theorem dX2_joinWithSoonerOnes_13 : decode cX2_joinWithSoonerOnes 13 = .ok (.aload_n 2, 1) := by decide +kernel
theorem dX2_joinWithSoonerOnes_14 : decode cX2_joinWithSoonerOnes 14 = .ok (.getfield 64, 3) := by decide +kernel
theorem dX2_joinWithSoonerOnes_17 : decode cX2_joinWithSoonerOnes 17 = .ok (.isub, 1) := by decide +kernel
theorem dX2_joinWithSoonerOnes_18 : decode cX2_joinWithSoonerOnes 18 = .ok (.bipush 20, 2) := by decide +kernel
theorem dX2_joinWithSoonerOnes_20 : decode cX2_joinWithSoonerOnes 20 = .ok (.if_icmp .gt 49, 3) := by decide +kernel
theorem dX2_joinWithSoonerOnes_23 : decode cX2_joinWithSoonerOnes 23 = .ok (.aload_n 2, 1) := by decide +kernel
theorem dX2_joinWithSoonerOnes_24 : decode cX2_joinWithSoonerOnes 24 = .ok (.invokevirtual 30, 3) := by decide +kernel
theorem dX2_joinWithSoonerOnes_27 : decode cX2_joinWithSoonerOnes 27 = .ok (.ifCond .eq 34, 3) := by decide +kernel
theorem dX2_joinWithSoonerOnes_30 : decode cX2_joinWithSoonerOnes 30 = .ok (.aload_n 2, 1) := by decide +kernel
theorem dX2_joinWithSoonerOnes_31 : decode cX2_joinWithSoonerOnes 31 = .ok (.invokevirtual 67, 3) := by decide +kernel
theorem dX2_joinWithSoonerOnes_34 : decode cX2_joinWithSoonerOnes 34 = .ok (.aload_n 0, 1) := by decide +kernel
theorem dX2_joinWithSoonerOnes_35 : decode cX2_joinWithSoonerOnes 35 = .ok (.invokevirtual 67, 3) := by decide +kernel
theorem dX2_joinWithSoonerOnes_38 : decode cX2_joinWithSoonerOnes 38 = .ok (.if_acmp .eq 23, 3) := by decide +kernel
theorem dX2_joinWithSoonerOnes_41 : decode cX2_joinWithSoonerOnes 41 = .ok (.aload_n 1, 1) := by decide +kernel
theorem dX2_joinWithSoonerOnes_42 : decode cX2_joinWithSoonerOnes 42 = .ok (.aload_n 2, 1) := by decide +kernel
theorem dX2_joinWithSoonerOnes_43 : decode cX2_joinWithSoonerOnes 43 = .ok (.getfield 71, 3) := by decide +kernel
theorem dX2_joinWithSoonerOnes_46 : decode cX2_joinWithSoonerOnes 46 = .ok (.aload_n 0, 1) := by decide +kernel
theorem dX2_joinWithSoonerOnes_47 : decode cX2_joinWithSoonerOnes 47 = .ok (.getfield 71, 3) := by decide +kernel
theorem dX2_joinWithSoonerOnes_50 : decode cX2_joinWithSoonerOnes 50 = .ok (.invokevirtual 74, 3) := by decide +kernel
theorem dX2_joinWithSoonerOnes_53 : decode cX2_joinWithSoonerOnes 53 = .ok (.ifCond .ne 8, 3) := by decide +kernel
theorem dX2_joinWithSoonerOnes_56 : decode cX2_joinWithSoonerOnes 56 = .ok (.aload_n 0, 1) := by decide +kernel
theorem dX2_joinWithSoonerOnes_57 : decode cX2_joinWithSoonerOnes 57 = .ok (.aload_n 2, 1) := by decide +kernel
theorem dX2_joinWithSoonerOnes_58 : decode cX2_joinWithSoonerOnes 58 = .ok (.invokevirtual 79, 3) := by decide +kernel
theorem dX2_joinWithSoonerOnes_61 : decode cX2_joinWithSoonerOnes 61 = .ok (.aload_n 2, 1) := by decide +kernel
theorem dX2_joinWithSoonerOnes_62 : decode cX2_joinWithSoonerOnes 62 = .ok (.getfield 61, 3) := by decide +kernel
theorem dX2_joinWithSoonerOnes_65 : decode cX2_joinWithSoonerOnes 65 = .ok (.astore_n 2, 1) := by decide +kernel
theorem dX2_joinWithSoonerOnes_66 : decode cX2_joinWithSoonerOnes 66 = .ok (.goto (-61), 3) := by decide +kernel
theorem dX2_joinWithSoonerOnes_69 : decode cX2_joinWithSoonerOnes 69 = .ok (.return_, 1) := by decide +kernel
theorem dX2_joinToldOnes_0 : decode cX2_joinToldOnes 0 = .ok (.iconst 0, 1) := by decide +kernel
theorem dX2_joinToldOnes_1 : decode cX2_joinToldOnes 1 = .ok (.istore_n 3, 1) := by decide +kernel
theorem dX2_joinToldOnes_2 : decode cX2_joinToldOnes 2 = .ok (.iload_n 3, 1) := by decide +kernel
theorem dX2_joinToldOnes_3 : decode cX2_joinToldOnes 3 = .ok (.aload_n 2, 1) := by decide +kernel
theorem dX2_joinToldOnes_4 : decode cX2_joinToldOnes 4 = .ok (.getfield 83, 3) := by decide +kernel
theorem dX2_joinToldOnes_7 : decode cX2_joinToldOnes 7 = .ok (.if_icmp .ge 92, 3) := by decide +kernel
theorem dX2_joinToldOnes_10 : decode cX2_joinToldOnes 10 = .ok (.aload_n 2, 1) := by decide +kernel
theorem dX2_joinToldOnes_11 : decode cX2_joinToldOnes 11 = .ok (.getfield 84, 3) := by decide +kernel
theorem dX2_joinToldOnes_14 : decode cX2_joinToldOnes 14 = .ok (.iload_n 3, 1) := by decide +kernel
theorem dX2_joinToldOnes_15 : decode cX2_joinToldOnes 15 = .ok (.aaload, 1) := by decide +kernel
theorem dX2_joinToldOnes_16 : decode cX2_joinToldOnes 16 = .ok (.astore 4, 2) := by decide +kernel
theorem dX2_joinToldOnes_18 : decode cX2_joinToldOnes 18 = .ok (.aload 4, 2) := by decide +kernel
theorem dX2_joinToldOnes_20 : decode cX2_joinToldOnes 20 = .ok (.getfield 88, 3) := by decide +kernel
theorem dX2_joinToldOnes_23 : decode cX2_joinToldOnes 23 = .ok (.ifCond .eq 70, 3) := by decide +kernel
theorem dX2_joinToldOnes_26 : decode cX2_joinToldOnes 26 = .ok (.aload 4, 2) := by decide +kernel
theorem dX2_joinToldOnes_28 : decode cX2_joinToldOnes 28 = .ok (.getfield 94, 3) := by decide +kernel
theorem dX2_joinToldOnes_31 : decode cX2_joinToldOnes 31 = .ok (.iload_n 1, 1) := by decide +kernel
theorem dX2_joinToldOnes_32 : decode cX2_joinToldOnes 32 = .ok (.invokestatic 54, 3) := by decide +kernel
theorem dX2_joinToldOnes_35 : decode cX2_joinToldOnes 35 = .ok (.ifCond .eq 58, 3) := by decide +kernel
theorem dX2_joinToldOnes_38 : decode cX2_joinToldOnes 38 = .ok (.aload 4, 2) := by decide +kernel
theorem dX2_joinToldOnes_40 : decode cX2_joinToldOnes 40 = .ok (.getfield 97, 3) := by decide +kernel
theorem dX2_joinToldOnes_43 : decode cX2_joinToldOnes 43 = .ok (.iload_n 1, 1) := by decide +kernel
theorem dX2_joinToldOnes_44 : decode cX2_joinToldOnes 44 = .ok (.invokestatic 54, 3) := by decide +kernel
theorem dX2_joinToldOnes_47 : decode cX2_joinToldOnes 47 = .ok (.ifCond .eq 46, 3) := by decide +kernel
theorem dX2_joinToldOnes_50 : decode cX2_joinToldOnes 50 = .ok (.aload_n 0, 1) := by decide +kernel
theorem dX2_joinToldOnes_51 : decode cX2_joinToldOnes 51 = .ok (.aload 4, 2) := by decide +kernel
theorem dX2_joinToldOnes_53 : decode cX2_joinToldOnes 53 = .ok (.getfield 94, 3) := by decide +kernel
theorem dX2_joinToldOnes_56 : decode cX2_joinToldOnes 56 = .ok (.aaload, 1) := by decide +kernel
theorem dX2_joinToldOnes_57 : decode cX2_joinToldOnes 57 = .ok (.invokevirtual 30, 3) := by decide +kernel
theorem dX2_joinToldOnes_60 : decode cX2_joinToldOnes 60 = .ok (.ifCond .eq 33, 3) := by decide +kernel
theorem dX2_joinToldOnes_63 : decode cX2_joinToldOnes 63 = .ok (.aload_n 0, 1) := by decide +kernel
theorem dX2_joinToldOnes_64 : decode cX2_joinToldOnes 64 = .ok (.aload 4, 2) := by decide +kernel
theorem dX2_joinToldOnes_66 : decode cX2_joinToldOnes 66 = .ok (.getfield 97, 3) := by decide +kernel
theorem dX2_joinToldOnes_69 : decode cX2_joinToldOnes 69 = .ok (.aaload, 1) := by decide +kernel
theorem dX2_joinToldOnes_70 : decode cX2_joinToldOnes 70 = .ok (.invokevirtual 30, 3) := by decide +kernel
theorem dX2_joinToldOnes_73 : decode cX2_joinToldOnes 73 = .ok (.ifCond .eq 20, 3) := by decide +kernel
theorem dX2_joinToldOnes_76 : decode cX2_joinToldOnes 76 = .ok (.aload_n 0, 1) := by decide +kernel
theorem dX2_joinToldOnes_77 : decode cX2_joinToldOnes 77 = .ok (.aload 4, 2) := by decide +kernel
theorem dX2_joinToldOnes_79 : decode cX2_joinToldOnes 79 = .ok (.getfield 94, 3) := by decide +kernel
theorem dX2_joinToldOnes_82 : decode cX2_joinToldOnes 82 = .ok (.aaload, 1) := by decide +kernel
theorem dX2_joinToldOnes_83 : decode cX2_joinToldOnes 83 = .ok (.aload_n 0, 1) := by decide +kernel
theorem dX2_joinToldOnes_84 : decode cX2_joinToldOnes 84 = .ok (.aload 4, 2) := by decide +kernel
theorem dX2_joinToldOnes_86 : decode cX2_joinToldOnes 86 = .ok (.getfield 97, 3) := by decide +kernel
theorem dX2_joinToldOnes_89 : decode cX2_joinToldOnes 89 = .ok (.aaload, 1) := by decide +kernel
theorem dX2_joinToldOnes_90 : decode cX2_joinToldOnes 90 = .ok (.invokevirtual 79, 3) := by decide +kernel
theorem dX2_joinToldOnes_93 : decode cX2_joinToldOnes 93 = .ok (.iinc 3 1, 3) := by decide +kernel
theorem dX2_joinToldOnes_96 : decode cX2_joinToldOnes 96 = .ok (.goto (-94), 3) := by decide +kernel
theorem dX2_joinToldOnes_99 : decode cX2_joinToldOnes 99 = .ok (.return_, 1) := by decide +kernel
theorem dX2_fillCases_0 : decode cX2_fillCases 0 = .ok (.iconst 0, 1) := by decide +kernel
theorem dX2_fillCases_1 : decode cX2_fillCases 1 = .ok (.istore_n 3, 1) := by decide +kernel
theorem dX2_fillCases_2 : decode cX2_fillCases 2 = .ok (.iload_n 3, 1) := by decide +kernel
theorem dX2_fillCases_3 : decode cX2_fillCases 3 = .ok (.iload_n 1, 1) := by decide +kernel
theorem dX2_fillCases_4 : decode cX2_fillCases 4 = .ok (.if_icmp .ge 48, 3) := by decide +kernel
theorem dX2_fillCases_7 : decode cX2_fillCases 7 = .ok (.aload_n 0, 1) := by decide +kernel
theorem dX2_fillCases_8 : decode cX2_fillCases 8 = .ok (.iload_n 3, 1) := by decide +kernel
theorem dX2_fillCases_9 : decode cX2_fillCases 9 = .ok (.aaload, 1) := by decide +kernel
theorem dX2_fillCases_10 : decode cX2_fillCases 10 = .ok (.astore 4, 2) := by decide +kernel
theorem dX2_fillCases_12 : decode cX2_fillCases 12 = .ok (.aload 4, 2) := by decide +kernel
theorem dX2_fillCases_14 : decode cX2_fillCases 14 = .ok (.invokevirtual 30, 3) := by decide +kernel
theorem dX2_fillCases_17 : decode cX2_fillCases 17 = .ok (.ifCond .eq 29, 3) := by decide +kernel
theorem dX2_fillCases_20 : decode cX2_fillCases 20 = .ok (.aload 4, 2) := by decide +kernel
theorem dX2_fillCases_22 : decode cX2_fillCases 22 = .ok (.invokevirtual 67, 3) := by decide +kernel
theorem dX2_fillCases_25 : decode cX2_fillCases 25 = .ok (.getfield 23, 3) := by decide +kernel
theorem dX2_fillCases_28 : decode cX2_fillCases 28 = .ok (.aload 4, 2) := by decide +kernel
theorem dX2_fillCases_30 : decode cX2_fillCases 30 = .ok (.iload_n 2, 1) := by decide +kernel
theorem dX2_fillCases_31 : decode cX2_fillCases 31 = .ok (.invokevirtual 100, 3) := by decide +kernel
theorem dX2_fillCases_34 : decode cX2_fillCases 34 = .ok (.aload 4, 2) := by decide +kernel
theorem dX2_fillCases_36 : decode cX2_fillCases 36 = .ok (.iload_n 2, 1) := by decide +kernel
theorem dX2_fillCases_37 : decode cX2_fillCases 37 = .ok (.invokevirtual 103, 3) := by decide +kernel
theorem dX2_fillCases_40 : decode cX2_fillCases 40 = .ok (.getfield 107, 3) := by decide +kernel
theorem dX2_fillCases_43 : decode cX2_fillCases 43 = .ok (.invokevirtual 112, 3) := by decide +kernel
theorem dX2_fillCases_46 : decode cX2_fillCases 46 = .ok (.iinc 3 1, 3) := by decide +kernel
theorem dX2_fillCases_49 : decode cX2_fillCases 49 = .ok (.goto (-47), 3) := by decide +kernel
theorem dX2_fillCases_52 : decode cX2_fillCases 52 = .ok (.return_, 1) := by decide +kernel
theorem dX2_putInOrder_0 : decode cX2_putInOrder 0 = .ok (.aload_n 0, 1) := by decide +kernel
theorem dX2_putInOrder_1 : decode cX2_putInOrder 1 = .ok (.iconst 0, 1) := by decide +kernel
theorem dX2_putInOrder_2 : decode cX2_putInOrder 2 = .ok (.putfield 50, 3) := by decide +kernel
theorem dX2_putInOrder_5 : decode cX2_putInOrder 5 = .ok (.iconst 0, 1) := by decide +kernel
theorem dX2_putInOrder_6 : decode cX2_putInOrder 6 = .ok (.istore_n 3, 1) := by decide +kernel
theorem dX2_putInOrder_7 : decode cX2_putInOrder 7 = .ok (.iload_n 3, 1) := by decide +kernel
theorem dX2_putInOrder_8 : decode cX2_putInOrder 8 = .ok (.iload_n 2, 1) := by decide +kernel
theorem dX2_putInOrder_9 : decode cX2_putInOrder 9 = .ok (.if_icmp .ge 31, 3) := by decide +kernel
theorem dX2_putInOrder_12 : decode cX2_putInOrder 12 = .ok (.aload_n 1, 1) := by decide +kernel
theorem dX2_putInOrder_13 : decode cX2_putInOrder 13 = .ok (.iload_n 3, 1) := by decide +kernel
theorem dX2_putInOrder_14 : decode cX2_putInOrder 14 = .ok (.aaload, 1) := by decide +kernel
theorem dX2_putInOrder_15 : decode cX2_putInOrder 15 = .ok (.getfield 23, 3) := by decide +kernel
theorem dX2_putInOrder_18 : decode cX2_putInOrder 18 = .ok (.getfield 116, 3) := by decide +kernel
theorem dX2_putInOrder_21 : decode cX2_putInOrder 21 = .ok (.ifCond .le 13, 3) := by decide +kernel
theorem dX2_putInOrder_24 : decode cX2_putInOrder 24 = .ok (.aload_n 0, 1) := by decide +kernel
theorem dX2_putInOrder_25 : decode cX2_putInOrder 25 = .ok (.aload_n 1, 1) := by decide +kernel
theorem dX2_putInOrder_26 : decode cX2_putInOrder 26 = .ok (.iload_n 3, 1) := by decide +kernel
theorem dX2_putInOrder_27 : decode cX2_putInOrder 27 = .ok (.aaload, 1) := by decide +kernel
theorem dX2_putInOrder_28 : decode cX2_putInOrder 28 = .ok (.getfield 23, 3) := by decide +kernel
theorem dX2_putInOrder_31 : decode cX2_putInOrder 31 = .ok (.invokevirtual 117, 3) := by decide +kernel
theorem dX2_putInOrder_34 : decode cX2_putInOrder 34 = .ok (.iinc 3 1, 3) := by decide +kernel
theorem dX2_putInOrder_37 : decode cX2_putInOrder 37 = .ok (.goto (-30), 3) := by decide +kernel
theorem dX2_putInOrder_40 : decode cX2_putInOrder 40 = .ok (.return_, 1) := by decide +kernel
theorem dX2_putInPlace_0 : decode cX2_putInPlace 0 = .ok (.aload_n 0, 1) := by decide +kernel
theorem dX2_putInPlace_1 : decode cX2_putInPlace 1 = .ok (.getfield 50, 3) := by decide +kernel
theorem dX2_putInPlace_4 : decode cX2_putInPlace 4 = .ok (.aload_n 0, 1) := by decide +kernel
theorem dX2_putInPlace_5 : decode cX2_putInPlace 5 = .ok (.getfield 11, 3) := by decide +kernel
theorem dX2_putInPlace_8 : decode cX2_putInPlace 8 = .ok (.arraylength, 1) := by decide +kernel
theorem dX2_putInPlace_9 : decode cX2_putInPlace 9 = .ok (.if_icmp .lt 4, 3) := by decide +kernel
theorem dX2_putInPlace_12 : decode cX2_putInPlace 12 = .ok (.return_, 1) := by decide +kernel
theorem dX2_putInPlace_13 : decode cX2_putInPlace 13 = .ok (.aload_n 0, 1) := by decide +kernel
theorem dX2_putInPlace_14 : decode cX2_putInPlace 14 = .ok (.getfield 50, 3) := by decide +kernel
theorem dX2_putInPlace_17 : decode cX2_putInPlace 17 = .ok (.istore_n 2, 1) := by decide +kernel
theorem dX2_putInPlace_18 : decode cX2_putInPlace 18 = .ok (.iload_n 2, 1) := by decide +kernel
theorem dX2_putInPlace_19 : decode cX2_putInPlace 19 = .ok (.ifCond .le 38, 3) := by decide +kernel
theorem dX2_putInPlace_22 : decode cX2_putInPlace 22 = .ok (.aload_n 1, 1) := by decide +kernel
theorem dX2_putInPlace_23 : decode cX2_putInPlace 23 = .ok (.aload_n 0, 1) := by decide +kernel
theorem dX2_putInPlace_24 : decode cX2_putInPlace 24 = .ok (.getfield 11, 3) := by decide +kernel
theorem dX2_putInPlace_27 : decode cX2_putInPlace 27 = .ok (.iload_n 2, 1) := by decide +kernel
theorem dX2_putInPlace_28 : decode cX2_putInPlace 28 = .ok (.iconst 1, 1) := by decide +kernel
theorem dX2_putInPlace_29 : decode cX2_putInPlace 29 = .ok (.isub, 1) := by decide +kernel
theorem dX2_putInPlace_30 : decode cX2_putInPlace 30 = .ok (.aaload, 1) := by decide +kernel
theorem dX2_putInPlace_31 : decode cX2_putInPlace 31 = .ok (.invokevirtual 121, 3) := by decide +kernel
theorem dX2_putInPlace_34 : decode cX2_putInPlace 34 = .ok (.ifCond .eq 23, 3) := by decide +kernel
theorem dX2_putInPlace_37 : decode cX2_putInPlace 37 = .ok (.aload_n 0, 1) := by decide +kernel
theorem dX2_putInPlace_38 : decode cX2_putInPlace 38 = .ok (.getfield 11, 3) := by decide +kernel
theorem dX2_putInPlace_41 : decode cX2_putInPlace 41 = .ok (.iload_n 2, 1) := by decide +kernel
theorem dX2_putInPlace_42 : decode cX2_putInPlace 42 = .ok (.aload_n 0, 1) := by decide +kernel
theorem dX2_putInPlace_43 : decode cX2_putInPlace 43 = .ok (.getfield 11, 3) := by decide +kernel
theorem dX2_putInPlace_46 : decode cX2_putInPlace 46 = .ok (.iload_n 2, 1) := by decide +kernel
theorem dX2_putInPlace_47 : decode cX2_putInPlace 47 = .ok (.iconst 1, 1) := by decide +kernel
theorem dX2_putInPlace_48 : decode cX2_putInPlace 48 = .ok (.isub, 1) := by decide +kernel
theorem dX2_putInPlace_49 : decode cX2_putInPlace 49 = .ok (.aaload, 1) := by decide +kernel
theorem dX2_putInPlace_50 : decode cX2_putInPlace 50 = .ok (.aastore, 1) := by decide +kernel
theorem dX2_putInPlace_51 : decode cX2_putInPlace 51 = .ok (.iinc 2 (-1), 3) := by decide +kernel
theorem dX2_putInPlace_54 : decode cX2_putInPlace 54 = .ok (.goto (-36), 3) := by decide +kernel
theorem dX2_putInPlace_57 : decode cX2_putInPlace 57 = .ok (.aload_n 0, 1) := by decide +kernel
theorem dX2_putInPlace_58 : decode cX2_putInPlace 58 = .ok (.getfield 11, 3) := by decide +kernel
theorem dX2_putInPlace_61 : decode cX2_putInPlace 61 = .ok (.iload_n 2, 1) := by decide +kernel
theorem dX2_putInPlace_62 : decode cX2_putInPlace 62 = .ok (.aload_n 1, 1) := by decide +kernel
theorem dX2_putInPlace_63 : decode cX2_putInPlace 63 = .ok (.aastore, 1) := by decide +kernel
theorem dX2_putInPlace_64 : decode cX2_putInPlace 64 = .ok (.aload_n 0, 1) := by decide +kernel
theorem dX2_putInPlace_65 : decode cX2_putInPlace 65 = .ok (.dup, 1) := by decide +kernel
theorem dX2_putInPlace_66 : decode cX2_putInPlace 66 = .ok (.getfield 50, 3) := by decide +kernel
theorem dX2_putInPlace_69 : decode cX2_putInPlace 69 = .ok (.iconst 1, 1) := by decide +kernel
theorem dX2_putInPlace_70 : decode cX2_putInPlace 70 = .ok (.iadd, 1) := by decide +kernel
theorem dX2_putInPlace_71 : decode cX2_putInPlace 71 = .ok (.putfield 50, 3) := by decide +kernel
theorem dX2_putInPlace_74 : decode cX2_putInPlace 74 = .ok (.return_, 1) := by decide +kernel
theorem dX3_init_0 : decode cX3_init 0 = .ok (.aload_n 0, 1) := by decide +kernel
theorem dX3_init_1 : decode cX3_init 1 = .ok (.invokespecial 3, 3) := by decide +kernel
theorem dX3_init_4 : decode cX3_init 4 = .ok (.aload_n 0, 1) := by decide +kernel
theorem dX3_init_5 : decode cX3_init 5 = .ok (.aload_n 1, 1) := by decide +kernel
theorem dX3_init_6 : decode cX3_init 6 = .ok (.putfield 9, 3) := by decide +kernel
theorem dX3_init_9 : decode cX3_init 9 = .ok (.aload_n 0, 1) := by decide +kernel
theorem dX3_init_10 : decode cX3_init 10 = .ok (.aload_n 1, 1) := by decide +kernel
theorem dX3_init_11 : decode cX3_init 11 = .ok (.ifnonnull 7, 3) := by decide +kernel
theorem dX3_init_14 : decode cX3_init 14 = .ok (.iconst 0, 1) := by decide +kernel
theorem dX3_init_15 : decode cX3_init 15 = .ok (.goto 9, 3) := by decide +kernel
theorem dX3_init_18 : decode cX3_init 18 = .ok (.aload_n 1, 1) := by decide +kernel
theorem dX3_init_19 : decode cX3_init 19 = .ok (.getfield 15, 3) := by decide +kernel
theorem dX3_init_22 : decode cX3_init 22 = .ok (.iconst 1, 1) := by decide +kernel
theorem dX3_init_23 : decode cX3_init 23 = .ok (.iadd, 1) := by decide +kernel
theorem dX3_init_24 : decode cX3_init 24 = .ok (.putfield 15, 3) := by decide +kernel
theorem dX3_init_27 : decode cX3_init 27 = .ok (.aload_n 0, 1) := by decide +kernel
theorem dX3_init_28 : decode cX3_init 28 = .ok (.iload_n 2, 1) := by decide +kernel
theorem dX3_init_29 : decode cX3_init 29 = .ok (.putfield 19, 3) := by decide +kernel
theorem dX3_init_32 : decode cX3_init 32 = .ok (.aload_n 0, 1) := by decide +kernel
theorem dX3_init_33 : decode cX3_init 33 = .ok (.aload_n 3, 1) := by decide +kernel
theorem dX3_init_34 : decode cX3_init 34 = .ok (.putfield 22, 3) := by decide +kernel
theorem dX3_init_37 : decode cX3_init 37 = .ok (.return_, 1) := by decide +kernel
theorem dX3_markAt_0 : decode cX3_markAt 0 = .ok (.iload_n 0, 1) := by decide +kernel
theorem dX3_markAt_1 : decode cX3_markAt 1 = .ok (.iconst 3, 1) := by decide +kernel
theorem dX3_markAt_2 : decode cX3_markAt 2 = .ok (.iconst 3, 1) := by decide +kernel
theorem dX3_markAt_3 : decode cX3_markAt 3 = .ok (.iload_n 1, 1) := by decide +kernel
theorem dX3_markAt_4 : decode cX3_markAt 4 = .ok (.isub, 1) := by decide +kernel
theorem dX3_markAt_5 : decode cX3_markAt 5 = .ok (.imul, 1) := by decide +kernel
theorem dX3_markAt_6 : decode cX3_markAt 6 = .ok (.ishr, 1) := by decide +kernel
theorem dX3_markAt_7 : decode cX3_markAt 7 = .ok (.bipush 7, 2) := by decide +kernel
theorem dX3_markAt_9 : decode cX3_markAt 9 = .ok (.iand, 1) := by decide +kernel
theorem dX3_markAt_10 : decode cX3_markAt 10 = .ok (.ireturn, 1) := by decide +kernel
theorem dX3_child_0 : decode cX3_child 0 = .ok (.aload_n 0, 1) := by decide +kernel
theorem dX3_child_1 : decode cX3_child 1 = .ok (.getfield 25, 3) := by decide +kernel
theorem dX3_child_4 : decode cX3_child 4 = .ok (.astore_n 2, 1) := by decide +kernel
theorem dX3_child_5 : decode cX3_child 5 = .ok (.aload_n 2, 1) := by decide +kernel
theorem dX3_child_6 : decode cX3_child 6 = .ok (.ifnull 19, 3) := by decide +kernel
theorem dX3_child_9 : decode cX3_child 9 = .ok (.aload_n 2, 1) := by decide +kernel
theorem dX3_child_10 : decode cX3_child 10 = .ok (.getfield 19, 3) := by decide +kernel
theorem dX3_child_13 : decode cX3_child 13 = .ok (.iload_n 1, 1) := by decide +kernel
theorem dX3_child_14 : decode cX3_child 14 = .ok (.if_icmp .eq 11, 3) := by decide +kernel
theorem dX3_child_17 : decode cX3_child 17 = .ok (.aload_n 2, 1) := by decide +kernel
theorem dX3_child_18 : decode cX3_child 18 = .ok (.getfield 22, 3) := by decide +kernel
theorem dX3_child_21 : decode cX3_child 21 = .ok (.astore_n 2, 1) := by decide +kernel
theorem dX3_child_22 : decode cX3_child 22 = .ok (.goto (-17), 3) := by decide +kernel
theorem dX3_child_25 : decode cX3_child 25 = .ok (.aload_n 2, 1) := by decide +kernel
theorem dX3_child_26 : decode cX3_child 26 = .ok (.areturn, 1) := by decide +kernel
theorem dX3_find_0 : decode cX3_find 0 = .ok (.aload_n 0, 1) := by decide +kernel
theorem dX3_find_1 : decode cX3_find 1 = .ok (.astore_n 3, 1) := by decide +kernel
theorem dX3_find_2 : decode cX3_find 2 = .ok (.iconst 0, 1) := by decide +kernel
theorem dX3_find_3 : decode cX3_find 3 = .ok (.istore 4, 2) := by decide +kernel
theorem dX3_find_5 : decode cX3_find 5 = .ok (.iload 4, 2) := by decide +kernel
theorem dX3_find_7 : decode cX3_find 7 = .ok (.iload_n 1, 1) := by decide +kernel
theorem dX3_find_8 : decode cX3_find 8 = .ok (.if_icmp .ge 24, 3) := by decide +kernel
theorem dX3_find_11 : decode cX3_find 11 = .ok (.aload_n 3, 1) := by decide +kernel
theorem dX3_find_12 : decode cX3_find 12 = .ok (.ifnull 20, 3) := by decide +kernel
theorem dX3_find_15 : decode cX3_find 15 = .ok (.aload_n 3, 1) := by decide +kernel
theorem dX3_find_16 : decode cX3_find 16 = .ok (.iload_n 2, 1) := by decide +kernel
theorem dX3_find_17 : decode cX3_find 17 = .ok (.iload 4, 2) := by decide +kernel
theorem dX3_find_19 : decode cX3_find 19 = .ok (.invokestatic 28, 3) := by decide +kernel
theorem dX3_find_22 : decode cX3_find 22 = .ok (.invokevirtual 32, 3) := by decide +kernel
theorem dX3_find_25 : decode cX3_find 25 = .ok (.astore_n 3, 1) := by decide +kernel
theorem dX3_find_26 : decode cX3_find 26 = .ok (.iinc 4 1, 3) := by decide +kernel
theorem dX3_find_29 : decode cX3_find 29 = .ok (.goto (-24), 3) := by decide +kernel
theorem dX3_find_32 : decode cX3_find 32 = .ok (.aload_n 3, 1) := by decide +kernel
theorem dX3_find_33 : decode cX3_find 33 = .ok (.areturn, 1) := by decide +kernel
theorem dX3_grow_0 : decode cX3_grow 0 = .ok (.aload_n 0, 1) := by decide +kernel
theorem dX3_grow_1 : decode cX3_grow 1 = .ok (.astore_n 2, 1) := by decide +kernel
theorem dX3_grow_2 : decode cX3_grow 2 = .ok (.iconst 0, 1) := by decide +kernel
theorem dX3_grow_3 : decode cX3_grow 3 = .ok (.istore_n 3, 1) := by decide +kernel
theorem dX3_grow_4 : decode cX3_grow 4 = .ok (.iload_n 3, 1) := by decide +kernel
theorem dX3_grow_5 : decode cX3_grow 5 = .ok (.iconst 4, 1) := by decide +kernel
theorem dX3_grow_6 : decode cX3_grow 6 = .ok (.if_icmp .ge 54, 3) := by decide +kernel
theorem dX3_grow_9 : decode cX3_grow 9 = .ok (.iload_n 1, 1) := by decide +kernel
theorem dX3_grow_10 : decode cX3_grow 10 = .ok (.iload_n 3, 1) := by decide +kernel
theorem dX3_grow_11 : decode cX3_grow 11 = .ok (.invokestatic 28, 3) := by decide +kernel
theorem dX3_grow_14 : decode cX3_grow 14 = .ok (.istore 4, 2) := by decide +kernel
theorem dX3_grow_16 : decode cX3_grow 16 = .ok (.aload_n 2, 1) := by decide +kernel
theorem dX3_grow_17 : decode cX3_grow 17 = .ok (.iload 4, 2) := by decide +kernel
theorem dX3_grow_19 : decode cX3_grow 19 = .ok (.invokevirtual 32, 3) := by decide +kernel
theorem dX3_grow_22 : decode cX3_grow 22 = .ok (.astore 5, 2) := by decide +kernel
theorem dX3_grow_24 : decode cX3_grow 24 = .ok (.aload 5, 2) := by decide +kernel
theorem dX3_grow_26 : decode cX3_grow 26 = .ok (.ifnonnull 25, 3) := by decide +kernel
theorem dX3_grow_29 : decode cX3_grow 29 = .ok (.new 10, 3) := by decide +kernel
theorem dX3_grow_32 : decode cX3_grow 32 = .ok (.dup, 1) := by decide +kernel
theorem dX3_grow_33 : decode cX3_grow 33 = .ok (.aload_n 2, 1) := by decide +kernel
theorem dX3_grow_34 : decode cX3_grow 34 = .ok (.iload 4, 2) := by decide +kernel
theorem dX3_grow_36 : decode cX3_grow 36 = .ok (.aload_n 2, 1) := by decide +kernel
theorem dX3_grow_37 : decode cX3_grow 37 = .ok (.getfield 25, 3) := by decide +kernel
theorem dX3_grow_40 : decode cX3_grow 40 = .ok (.invokespecial 36, 3) := by decide +kernel
theorem dX3_grow_43 : decode cX3_grow 43 = .ok (.astore 5, 2) := by decide +kernel
theorem dX3_grow_45 : decode cX3_grow 45 = .ok (.aload_n 2, 1) := by decide +kernel
theorem dX3_grow_46 : decode cX3_grow 46 = .ok (.aload 5, 2) := by decide +kernel
theorem dX3_grow_48 : decode cX3_grow 48 = .ok (.putfield 25, 3) := by decide +kernel
theorem dX3_grow_51 : decode cX3_grow 51 = .ok (.aload 5, 2) := by decide +kernel
theorem dX3_grow_53 : decode cX3_grow 53 = .ok (.astore_n 2, 1) := by decide +kernel
theorem dX3_grow_54 : decode cX3_grow 54 = .ok (.iinc 3 1, 3) := by decide +kernel
theorem dX3_grow_57 : decode cX3_grow 57 = .ok (.goto (-53), 3) := by decide +kernel
theorem dX3_grow_60 : decode cX3_grow 60 = .ok (.aload_n 2, 1) := by decide +kernel
theorem dX3_grow_61 : decode cX3_grow 61 = .ok (.areturn, 1) := by decide +kernel
theorem dX3_addOpen_0 : decode cX3_addOpen 0 = .ok (.aload_n 0, 1) := by decide +kernel
theorem dX3_addOpen_1 : decode cX3_addOpen 1 = .ok (.astore_n 1, 1) := by decide +kernel
theorem dX3_addOpen_2 : decode cX3_addOpen 2 = .ok (.aload_n 1, 1) := by decide +kernel
theorem dX3_addOpen_3 : decode cX3_addOpen 3 = .ok (.ifnull 21, 3) := by decide +kernel
theorem dX3_addOpen_6 : decode cX3_addOpen 6 = .ok (.aload_n 1, 1) := by decide +kernel
theorem dX3_addOpen_7 : decode cX3_addOpen 7 = .ok (.dup, 1) := by decide +kernel
theorem dX3_addOpen_8 : decode cX3_addOpen 8 = .ok (.getfield 39, 3) := by decide +kernel
theorem dX3_addOpen_11 : decode cX3_addOpen 11 = .ok (.iconst 1, 1) := by decide +kernel
theorem dX3_addOpen_12 : decode cX3_addOpen 12 = .ok (.iadd, 1) := by decide +kernel
theorem dX3_addOpen_13 : decode cX3_addOpen 13 = .ok (.putfield 39, 3) := by decide +kernel
theorem dX3_addOpen_16 : decode cX3_addOpen 16 = .ok (.aload_n 1, 1) := by decide +kernel
theorem dX3_addOpen_17 : decode cX3_addOpen 17 = .ok (.getfield 9, 3) := by decide +kernel
theorem dX3_addOpen_20 : decode cX3_addOpen 20 = .ok (.astore_n 1, 1) := by decide +kernel
theorem dX3_addOpen_21 : decode cX3_addOpen 21 = .ok (.goto (-19), 3) := by decide +kernel
theorem dX3_addOpen_24 : decode cX3_addOpen 24 = .ok (.return_, 1) := by decide +kernel
theorem dX3_settle_0 : decode cX3_settle 0 = .ok (.aload_n 0, 1) := by decide +kernel
theorem dX3_settle_1 : decode cX3_settle 1 = .ok (.astore_n 2, 1) := by decide +kernel
theorem dX3_settle_2 : decode cX3_settle 2 = .ok (.aload_n 2, 1) := by decide +kernel
theorem dX3_settle_3 : decode cX3_settle 3 = .ok (.ifnull 44, 3) := by decide +kernel
theorem dX3_settle_6 : decode cX3_settle 6 = .ok (.aload_n 2, 1) := by decide +kernel
theorem dX3_settle_7 : decode cX3_settle 7 = .ok (.dup, 1) := by decide +kernel
theorem dX3_settle_8 : decode cX3_settle 8 = .ok (.getfield 39, 3) := by decide +kernel
theorem dX3_settle_11 : decode cX3_settle 11 = .ok (.iconst 1, 1) := by decide +kernel
theorem dX3_settle_12 : decode cX3_settle 12 = .ok (.isub, 1) := by decide +kernel
theorem dX3_settle_13 : decode cX3_settle 13 = .ok (.putfield 39, 3) := by decide +kernel
theorem dX3_settle_16 : decode cX3_settle 16 = .ok (.aload_n 2, 1) := by decide +kernel
theorem dX3_settle_17 : decode cX3_settle 17 = .ok (.dup, 1) := by decide +kernel
theorem dX3_settle_18 : decode cX3_settle 18 = .ok (.getfield 42, 3) := by decide +kernel
theorem dX3_settle_21 : decode cX3_settle 21 = .ok (.iconst 1, 1) := by decide +kernel
theorem dX3_settle_22 : decode cX3_settle 22 = .ok (.iadd, 1) := by decide +kernel
theorem dX3_settle_23 : decode cX3_settle 23 = .ok (.putfield 42, 3) := by decide +kernel
theorem dX3_settle_26 : decode cX3_settle 26 = .ok (.aload_n 2, 1) := by decide +kernel
theorem dX3_settle_27 : decode cX3_settle 27 = .ok (.dup, 1) := by decide +kernel
theorem dX3_settle_28 : decode cX3_settle 28 = .ok (.getfield 45, 3) := by decide +kernel
theorem dX3_settle_31 : decode cX3_settle 31 = .ok (.iload_n 1, 1) := by decide +kernel
theorem dX3_settle_32 : decode cX3_settle 32 = .ok (.invokestatic 48, 3) := by decide +kernel
theorem dX3_settle_35 : decode cX3_settle 35 = .ok (.iadd, 1) := by decide +kernel
theorem dX3_settle_36 : decode cX3_settle 36 = .ok (.putfield 45, 3) := by decide +kernel
theorem dX3_settle_39 : decode cX3_settle 39 = .ok (.aload_n 2, 1) := by decide +kernel
theorem dX3_settle_40 : decode cX3_settle 40 = .ok (.getfield 9, 3) := by decide +kernel
theorem dX3_settle_43 : decode cX3_settle 43 = .ok (.astore_n 2, 1) := by decide +kernel
theorem dX3_settle_44 : decode cX3_settle 44 = .ok (.goto (-42), 3) := by decide +kernel
theorem dX3_settle_47 : decode cX3_settle 47 = .ok (.return_, 1) := by decide +kernel
theorem dX3_oddsUpper_0 : decode cX3_oddsUpper 0 = .ok (.aload_n 0, 1) := by decide +kernel
theorem dX3_oddsUpper_1 : decode cX3_oddsUpper 1 = .ok (.getfield 42, 3) := by decide +kernel
theorem dX3_oddsUpper_4 : decode cX3_oddsUpper 4 = .ok (.ifCond .ne 7, 3) := by decide +kernel
theorem dX3_oddsUpper_7 : decode cX3_oddsUpper 7 = .ok (.iconst 1, 1) := by decide +kernel
theorem dX3_oddsUpper_8 : decode cX3_oddsUpper 8 = .ok (.goto 7, 3) := by decide +kernel
theorem dX3_oddsUpper_11 : decode cX3_oddsUpper 11 = .ok (.aload_n 0, 1) := by decide +kernel
theorem dX3_oddsUpper_12 : decode cX3_oddsUpper 12 = .ok (.getfield 45, 3) := by decide +kernel
theorem dX3_oddsUpper_15 : decode cX3_oddsUpper 15 = .ok (.ireturn, 1) := by decide +kernel
theorem dX3_oddsLower_0 : decode cX3_oddsLower 0 = .ok (.aload_n 0, 1) := by decide +kernel
theorem dX3_oddsLower_1 : decode cX3_oddsLower 1 = .ok (.getfield 42, 3) := by decide +kernel
theorem dX3_oddsLower_4 : decode cX3_oddsLower 4 = .ok (.ifCond .ne 7, 3) := by decide +kernel
theorem dX3_oddsLower_7 : decode cX3_oddsLower 7 = .ok (.iconst 2, 1) := by decide +kernel
theorem dX3_oddsLower_8 : decode cX3_oddsLower 8 = .ok (.goto 7, 3) := by decide +kernel
theorem dX3_oddsLower_11 : decode cX3_oddsLower 11 = .ok (.aload_n 0, 1) := by decide +kernel
theorem dX3_oddsLower_12 : decode cX3_oddsLower 12 = .ok (.getfield 42, 3) := by decide +kernel
theorem dX3_oddsLower_15 : decode cX3_oddsLower 15 = .ok (.ireturn, 1) := by decide +kernel
theorem dX4_init_0 : decode cX4_init 0 = .ok (.aload_n 0, 1) := by decide +kernel
theorem dX4_init_1 : decode cX4_init 1 = .ok (.invokespecial 1, 3) := by decide +kernel
theorem dX4_init_4 : decode cX4_init 4 = .ok (.aload_n 0, 1) := by decide +kernel
theorem dX4_init_5 : decode cX4_init 5 = .ok (.iload_n 1, 1) := by decide +kernel
theorem dX4_init_6 : decode cX4_init 6 = .ok (.putfield 7, 3) := by decide +kernel
theorem dX4_init_9 : decode cX4_init 9 = .ok (.aload_n 0, 1) := by decide +kernel
theorem dX4_init_10 : decode cX4_init 10 = .ok (.iload_n 2, 1) := by decide +kernel
theorem dX4_init_11 : decode cX4_init 11 = .ok (.putfield 13, 3) := by decide +kernel
theorem dX4_init_14 : decode cX4_init 14 = .ok (.aload_n 0, 1) := by decide +kernel
theorem dX4_init_15 : decode cX4_init 15 = .ok (.iload_n 3, 1) := by decide +kernel
theorem dX4_init_16 : decode cX4_init 16 = .ok (.putfield 16, 3) := by decide +kernel
theorem dX4_init_19 : decode cX4_init 19 = .ok (.return_, 1) := by decide +kernel
theorem dX5_init_0 : decode cX5_init 0 = .ok (.aload_n 0, 1) := by decide +kernel
theorem dX5_init_1 : decode cX5_init 1 = .ok (.invokespecial 3, 3) := by decide +kernel
theorem dX5_init_4 : decode cX5_init 4 = .ok (.aload_n 0, 1) := by decide +kernel
theorem dX5_init_5 : decode cX5_init 5 = .ok (.bipush 17, 2) := by decide +kernel
theorem dX5_init_7 : decode cX5_init 7 = .ok (.anewarray 9, 3) := by decide +kernel
theorem dX5_init_10 : decode cX5_init 10 = .ok (.putfield 11, 3) := by decide +kernel
theorem dX5_init_13 : decode cX5_init 13 = .ok (.aload_n 0, 1) := by decide +kernel
theorem dX5_init_14 : decode cX5_init 14 = .ok (.bipush 12, 2) := by decide +kernel
theorem dX5_init_16 : decode cX5_init 16 = .ok (.anewarray 9, 3) := by decide +kernel
theorem dX5_init_19 : decode cX5_init 19 = .ok (.putfield 17, 3) := by decide +kernel
theorem dX5_init_22 : decode cX5_init 22 = .ok (.aload_n 0, 1) := by decide +kernel
theorem dX5_init_23 : decode cX5_init 23 = .ok (.sipush 301, 3) := by decide +kernel
theorem dX5_init_26 : decode cX5_init 26 = .ok (.newarray .int, 2) := by decide +kernel
theorem dX5_init_28 : decode cX5_init 28 = .ok (.putfield 20, 3) := by decide +kernel
theorem dX5_init_31 : decode cX5_init 31 = .ok (.aload_n 0, 1) := by decide +kernel
theorem dX5_init_32 : decode cX5_init 32 = .ok (.sipush 301, 3) := by decide +kernel
theorem dX5_init_35 : decode cX5_init 35 = .ok (.newarray .int, 2) := by decide +kernel
theorem dX5_init_37 : decode cX5_init 37 = .ok (.putfield 24, 3) := by decide +kernel
theorem dX5_init_40 : decode cX5_init 40 = .ok (.return_, 1) := by decide +kernel
theorem dX5_make_0 : decode cX5_make 0 = .ok (.aload_n 0, 1) := by decide +kernel
theorem dX5_make_1 : decode cX5_make 1 = .ok (.iconst 0, 1) := by decide +kernel
theorem dX5_make_2 : decode cX5_make 2 = .ok (.putfield 27, 3) := by decide +kernel
theorem dX5_make_5 : decode cX5_make 5 = .ok (.aload_n 0, 1) := by decide +kernel
theorem dX5_make_6 : decode cX5_make 6 = .ok (.iconst 0, 1) := by decide +kernel
theorem dX5_make_7 : decode cX5_make 7 = .ok (.putfield 31, 3) := by decide +kernel
theorem dX5_make_10 : decode cX5_make 10 = .ok (.aload_n 0, 1) := by decide +kernel
theorem dX5_make_11 : decode cX5_make 11 = .ok (.iconst 0, 1) := by decide +kernel
theorem dX5_make_12 : decode cX5_make 12 = .ok (.putfield 34, 3) := by decide +kernel
theorem dX5_make_15 : decode cX5_make 15 = .ok (.aload_n 0, 1) := by decide +kernel
theorem dX5_make_16 : decode cX5_make 16 = .ok (.iconst 0, 1) := by decide +kernel
theorem dX5_make_17 : decode cX5_make 17 = .ok (.iload_n 2, 1) := by decide +kernel
theorem dX5_make_18 : decode cX5_make 18 = .ok (.sipush 300, 3) := by decide +kernel
theorem dX5_make_21 : decode cX5_make 21 = .ok (.invokestatic 37, 3) := by decide +kernel
theorem dX5_make_24 : decode cX5_make 24 = .ok (.invokestatic 43, 3) := by decide +kernel
theorem dX5_make_27 : decode cX5_make 27 = .ok (.putfield 46, 3) := by decide +kernel
theorem dX5_make_30 : decode cX5_make 30 = .ok (.aload_n 0, 1) := by decide +kernel
theorem dX5_make_31 : decode cX5_make 31 = .ok (.aload_n 1, 1) := by decide +kernel
theorem dX5_make_32 : decode cX5_make 32 = .ok (.iload_n 3, 1) := by decide +kernel
theorem dX5_make_33 : decode cX5_make 33 = .ok (.invokevirtual 49, 3) := by decide +kernel
theorem dX5_make_36 : decode cX5_make 36 = .ok (.aload_n 0, 1) := by decide +kernel
theorem dX5_make_37 : decode cX5_make 37 = .ok (.aload_n 1, 1) := by decide +kernel
theorem dX5_make_38 : decode cX5_make 38 = .ok (.invokevirtual 53, 3) := by decide +kernel
theorem dX5_make_41 : decode cX5_make 41 = .ok (.aload_n 0, 1) := by decide +kernel
theorem dX5_make_42 : decode cX5_make 42 = .ok (.invokevirtual 57, 3) := by decide +kernel
theorem dX5_make_45 : decode cX5_make 45 = .ok (.aload_n 0, 1) := by decide +kernel
theorem dX5_make_46 : decode cX5_make 46 = .ok (.invokevirtual 60, 3) := by decide +kernel
theorem dX5_make_49 : decode cX5_make 49 = .ok (.return_, 1) := by decide +kernel
theorem dX5_at_0 : decode cX5_at 0 = .ok (.iload_n 1, 1) := by decide +kernel
theorem dX5_at_1 : decode cX5_at 1 = .ok (.aload_n 0, 1) := by decide +kernel
theorem dX5_at_2 : decode cX5_at 2 = .ok (.getfield 27, 3) := by decide +kernel
theorem dX5_at_5 : decode cX5_at 5 = .ok (.invokestatic 63, 3) := by decide +kernel
theorem dX5_at_8 : decode cX5_at 8 = .ok (.ifCond .eq 12, 3) := by decide +kernel
theorem dX5_at_11 : decode cX5_at 11 = .ok (.aload_n 0, 1) := by decide +kernel
theorem dX5_at_12 : decode cX5_at 12 = .ok (.getfield 11, 3) := by decide +kernel
theorem dX5_at_15 : decode cX5_at 15 = .ok (.iload_n 1, 1) := by decide +kernel
theorem dX5_at_16 : decode cX5_at 16 = .ok (.aaload, 1) := by decide +kernel
theorem dX5_at_17 : decode cX5_at 17 = .ok (.goto 4, 3) := by decide +kernel
theorem dX5_at_20 : decode cX5_at 20 = .ok (.aconst_null, 1) := by decide +kernel
theorem dX5_at_21 : decode cX5_at 21 = .ok (.areturn, 1) := by decide +kernel
theorem dX5_take_0 : decode cX5_take 0 = .ok (.aload_n 0, 1) := by decide +kernel
theorem dX5_take_1 : decode cX5_take 1 = .ok (.getfield 27, 3) := by decide +kernel
theorem dX5_take_4 : decode cX5_take 4 = .ok (.aload_n 0, 1) := by decide +kernel
theorem dX5_take_5 : decode cX5_take 5 = .ok (.getfield 11, 3) := by decide +kernel
theorem dX5_take_8 : decode cX5_take 8 = .ok (.arraylength, 1) := by decide +kernel
theorem dX5_take_9 : decode cX5_take 9 = .ok (.if_icmp .ge 49, 3) := by decide +kernel
theorem dX5_take_12 : decode cX5_take 12 = .ok (.aload_n 0, 1) := by decide +kernel
theorem dX5_take_13 : decode cX5_take 13 = .ok (.getfield 11, 3) := by decide +kernel
theorem dX5_take_16 : decode cX5_take 16 = .ok (.aload_n 0, 1) := by decide +kernel
theorem dX5_take_17 : decode cX5_take 17 = .ok (.getfield 27, 3) := by decide +kernel
theorem dX5_take_20 : decode cX5_take 20 = .ok (.aload_n 1, 1) := by decide +kernel
theorem dX5_take_21 : decode cX5_take 21 = .ok (.aastore, 1) := by decide +kernel
theorem dX5_take_22 : decode cX5_take 22 = .ok (.aload_n 0, 1) := by decide +kernel
theorem dX5_take_23 : decode cX5_take 23 = .ok (.dup, 1) := by decide +kernel
theorem dX5_take_24 : decode cX5_take 24 = .ok (.getfield 27, 3) := by decide +kernel
theorem dX5_take_27 : decode cX5_take 27 = .ok (.iconst 1, 1) := by decide +kernel
theorem dX5_take_28 : decode cX5_take 28 = .ok (.iadd, 1) := by decide +kernel
theorem dX5_take_29 : decode cX5_take 29 = .ok (.putfield 27, 3) := by decide +kernel
theorem dX5_take_32 : decode cX5_take 32 = .ok (.aload_n 0, 1) := by decide +kernel
theorem dX5_take_33 : decode cX5_take 33 = .ok (.dup, 1) := by decide +kernel
theorem dX5_take_34 : decode cX5_take 34 = .ok (.getfield 34, 3) := by decide +kernel
theorem dX5_take_37 : decode cX5_take 37 = .ok (.aload_n 1, 1) := by decide +kernel
theorem dX5_take_38 : decode cX5_take 38 = .ok (.getfield 67, 3) := by decide +kernel
theorem dX5_take_41 : decode cX5_take 41 = .ok (.iadd, 1) := by decide +kernel
theorem dX5_take_42 : decode cX5_take 42 = .ok (.putfield 34, 3) := by decide +kernel
theorem dX5_take_45 : decode cX5_take 45 = .ok (.aload_n 0, 1) := by decide +kernel
theorem dX5_take_46 : decode cX5_take 46 = .ok (.dup, 1) := by decide +kernel
theorem dX5_take_47 : decode cX5_take 47 = .ok (.getfield 46, 3) := by decide +kernel
theorem dX5_take_50 : decode cX5_take 50 = .ok (.aload_n 1, 1) := by decide +kernel
theorem dX5_take_51 : decode cX5_take 51 = .ok (.invokevirtual 70, 3) := by decide +kernel
theorem dX5_take_54 : decode cX5_take 54 = .ok (.isub, 1) := by decide +kernel
theorem dX5_take_55 : decode cX5_take 55 = .ok (.putfield 46, 3) := by decide +kernel
theorem dX5_take_58 : decode cX5_take 58 = .ok (.return_, 1) := by decide +kernel
theorem dX5_isTaken_0 : decode cX5_isTaken 0 = .ok (.iconst 0, 1) := by decide +kernel
theorem dX5_isTaken_1 : decode cX5_isTaken 1 = .ok (.istore_n 2, 1) := by decide +kernel
theorem dX5_isTaken_2 : decode cX5_isTaken 2 = .ok (.iload_n 2, 1) := by decide +kernel
theorem dX5_isTaken_3 : decode cX5_isTaken 3 = .ok (.aload_n 0, 1) := by decide +kernel
theorem dX5_isTaken_4 : decode cX5_isTaken 4 = .ok (.getfield 27, 3) := by decide +kernel
theorem dX5_isTaken_7 : decode cX5_isTaken 7 = .ok (.if_icmp .ge 21, 3) := by decide +kernel
theorem dX5_isTaken_10 : decode cX5_isTaken 10 = .ok (.aload_n 0, 1) := by decide +kernel
theorem dX5_isTaken_11 : decode cX5_isTaken 11 = .ok (.getfield 11, 3) := by decide +kernel
theorem dX5_isTaken_14 : decode cX5_isTaken 14 = .ok (.iload_n 2, 1) := by decide +kernel
theorem dX5_isTaken_15 : decode cX5_isTaken 15 = .ok (.aaload, 1) := by decide +kernel
theorem dX5_isTaken_16 : decode cX5_isTaken 16 = .ok (.aload_n 1, 1) := by decide +kernel
theorem dX5_isTaken_17 : decode cX5_isTaken 17 = .ok (.if_acmp .ne 5, 3) := by decide +kernel
theorem dX5_isTaken_20 : decode cX5_isTaken 20 = .ok (.iconst 1, 1) := by decide +kernel
theorem dX5_isTaken_21 : decode cX5_isTaken 21 = .ok (.ireturn, 1) := by decide +kernel
theorem dX5_isTaken_22 : decode cX5_isTaken 22 = .ok (.iinc 2 1, 3) := by decide +kernel
theorem dX5_isTaken_25 : decode cX5_isTaken 25 = .ok (.goto (-23), 3) := by decide +kernel
theorem dX5_isTaken_28 : decode cX5_isTaken 28 = .ok (.iconst 0, 1) := by decide +kernel
theorem dX5_isTaken_29 : decode cX5_isTaken 29 = .ok (.ireturn, 1) := by decide +kernel
theorem dX5_takeTries_0 : decode cX5_takeTries 0 = .ok (.iconst 0, 1) := by decide +kernel
theorem dX5_takeTries_1 : decode cX5_takeTries 1 = .ok (.istore_n 3, 1) := by decide +kernel
theorem dX5_takeTries_2 : decode cX5_takeTries 2 = .ok (.iload_n 3, 1) := by decide +kernel
theorem dX5_takeTries_3 : decode cX5_takeTries 3 = .ok (.aload_n 1, 1) := by decide +kernel
theorem dX5_takeTries_4 : decode cX5_takeTries 4 = .ok (.getfield 74, 3) := by decide +kernel
theorem dX5_takeTries_7 : decode cX5_takeTries 7 = .ok (.if_icmp .ge 51, 3) := by decide +kernel
theorem dX5_takeTries_10 : decode cX5_takeTries 10 = .ok (.aload_n 0, 1) := by decide +kernel
theorem dX5_takeTries_11 : decode cX5_takeTries 11 = .ok (.getfield 27, 3) := by decide +kernel
theorem dX5_takeTries_14 : decode cX5_takeTries 14 = .ok (.iload_n 2, 1) := by decide +kernel
theorem dX5_takeTries_15 : decode cX5_takeTries 15 = .ok (.if_icmp .ge 43, 3) := by decide +kernel
theorem dX5_takeTries_18 : decode cX5_takeTries 18 = .ok (.aload_n 1, 1) := by decide +kernel
theorem dX5_takeTries_19 : decode cX5_takeTries 19 = .ok (.getfield 79, 3) := by decide +kernel
theorem dX5_takeTries_22 : decode cX5_takeTries 22 = .ok (.iload_n 3, 1) := by decide +kernel
theorem dX5_takeTries_23 : decode cX5_takeTries 23 = .ok (.aaload, 1) := by decide +kernel
theorem dX5_takeTries_24 : decode cX5_takeTries 24 = .ok (.astore 4, 2) := by decide +kernel
theorem dX5_takeTries_26 : decode cX5_takeTries 26 = .ok (.aload 4, 2) := by decide +kernel
theorem dX5_takeTries_28 : decode cX5_takeTries 28 = .ok (.getfield 82, 3) := by decide +kernel
theorem dX5_takeTries_31 : decode cX5_takeTries 31 = .ok (.ifCond .eq 21, 3) := by decide +kernel
theorem dX5_takeTries_34 : decode cX5_takeTries 34 = .ok (.aload 4, 2) := by decide +kernel
theorem dX5_takeTries_36 : decode cX5_takeTries 36 = .ok (.invokevirtual 70, 3) := by decide +kernel
theorem dX5_takeTries_39 : decode cX5_takeTries 39 = .ok (.aload_n 0, 1) := by decide +kernel
theorem dX5_takeTries_40 : decode cX5_takeTries 40 = .ok (.getfield 46, 3) := by decide +kernel
theorem dX5_takeTries_43 : decode cX5_takeTries 43 = .ok (.if_icmp .gt 9, 3) := by decide +kernel
theorem dX5_takeTries_46 : decode cX5_takeTries 46 = .ok (.aload_n 0, 1) := by decide +kernel
theorem dX5_takeTries_47 : decode cX5_takeTries 47 = .ok (.aload 4, 2) := by decide +kernel
theorem dX5_takeTries_49 : decode cX5_takeTries 49 = .ok (.invokevirtual 86, 3) := by decide +kernel
theorem dX5_takeTries_52 : decode cX5_takeTries 52 = .ok (.iinc 3 1, 3) := by decide +kernel
theorem dX5_takeTries_55 : decode cX5_takeTries 55 = .ok (.goto (-53), 3) := by decide +kernel
theorem dX5_takeTries_58 : decode cX5_takeTries 58 = .ok (.return_, 1) := by decide +kernel
theorem dX5_fillPool_0 : decode cX5_fillPool 0 = .ok (.iconst 0, 1) := by decide +kernel
theorem dX5_fillPool_1 : decode cX5_fillPool 1 = .ok (.istore_n 2, 1) := by decide +kernel
theorem dX5_fillPool_2 : decode cX5_fillPool 2 = .ok (.iload_n 2, 1) := by decide +kernel
theorem dX5_fillPool_3 : decode cX5_fillPool 3 = .ok (.aload_n 1, 1) := by decide +kernel
theorem dX5_fillPool_4 : decode cX5_fillPool 4 = .ok (.getfield 74, 3) := by decide +kernel
theorem dX5_fillPool_7 : decode cX5_fillPool 7 = .ok (.if_icmp .ge 56, 3) := by decide +kernel
theorem dX5_fillPool_10 : decode cX5_fillPool 10 = .ok (.aload_n 0, 1) := by decide +kernel
theorem dX5_fillPool_11 : decode cX5_fillPool 11 = .ok (.getfield 31, 3) := by decide +kernel
theorem dX5_fillPool_14 : decode cX5_fillPool 14 = .ok (.bipush 12, 2) := by decide +kernel
theorem dX5_fillPool_16 : decode cX5_fillPool 16 = .ok (.if_icmp .ge 47, 3) := by decide +kernel
theorem dX5_fillPool_19 : decode cX5_fillPool 19 = .ok (.aload_n 0, 1) := by decide +kernel
theorem dX5_fillPool_20 : decode cX5_fillPool 20 = .ok (.aload_n 1, 1) := by decide +kernel
theorem dX5_fillPool_21 : decode cX5_fillPool 21 = .ok (.getfield 79, 3) := by decide +kernel
theorem dX5_fillPool_24 : decode cX5_fillPool 24 = .ok (.iload_n 2, 1) := by decide +kernel
theorem dX5_fillPool_25 : decode cX5_fillPool 25 = .ok (.aaload, 1) := by decide +kernel
theorem dX5_fillPool_26 : decode cX5_fillPool 26 = .ok (.invokevirtual 90, 3) := by decide +kernel
theorem dX5_fillPool_29 : decode cX5_fillPool 29 = .ok (.ifCond .ne 28, 3) := by decide +kernel
theorem dX5_fillPool_32 : decode cX5_fillPool 32 = .ok (.aload_n 0, 1) := by decide +kernel
theorem dX5_fillPool_33 : decode cX5_fillPool 33 = .ok (.getfield 17, 3) := by decide +kernel
theorem dX5_fillPool_36 : decode cX5_fillPool 36 = .ok (.aload_n 0, 1) := by decide +kernel
theorem dX5_fillPool_37 : decode cX5_fillPool 37 = .ok (.getfield 31, 3) := by decide +kernel
theorem dX5_fillPool_40 : decode cX5_fillPool 40 = .ok (.aload_n 1, 1) := by decide +kernel
theorem dX5_fillPool_41 : decode cX5_fillPool 41 = .ok (.getfield 79, 3) := by decide +kernel
theorem dX5_fillPool_44 : decode cX5_fillPool 44 = .ok (.iload_n 2, 1) := by decide +kernel
theorem dX5_fillPool_45 : decode cX5_fillPool 45 = .ok (.aaload, 1) := by decide +kernel
theorem dX5_fillPool_46 : decode cX5_fillPool 46 = .ok (.aastore, 1) := by decide +kernel
theorem dX5_fillPool_47 : decode cX5_fillPool 47 = .ok (.aload_n 0, 1) := by decide +kernel
theorem dX5_fillPool_48 : decode cX5_fillPool 48 = .ok (.dup, 1) := by decide +kernel
theorem dX5_fillPool_49 : decode cX5_fillPool 49 = .ok (.getfield 31, 3) := by decide +kernel
theorem dX5_fillPool_52 : decode cX5_fillPool 52 = .ok (.iconst 1, 1) := by decide +kernel
theorem dX5_fillPool_53 : decode cX5_fillPool 53 = .ok (.iadd, 1) := by decide +kernel
theorem dX5_fillPool_54 : decode cX5_fillPool 54 = .ok (.putfield 31, 3) := by decide +kernel
theorem dX5_fillPool_57 : decode cX5_fillPool 57 = .ok (.iinc 2 1, 3) := by decide +kernel
theorem dX5_fillPool_60 : decode cX5_fillPool 60 = .ok (.goto (-58), 3) := by decide +kernel
theorem dX5_fillPool_63 : decode cX5_fillPool 63 = .ok (.return_, 1) := by decide +kernel
theorem dX5_weighPool_0 : decode cX5_weighPool 0 = .ok (.iconst 0, 1) := by decide +kernel
theorem dX5_weighPool_1 : decode cX5_weighPool 1 = .ok (.istore_n 1, 1) := by decide +kernel
theorem dX5_weighPool_2 : decode cX5_weighPool 2 = .ok (.iload_n 1, 1) := by decide +kernel
theorem dX5_weighPool_3 : decode cX5_weighPool 3 = .ok (.aload_n 0, 1) := by decide +kernel
theorem dX5_weighPool_4 : decode cX5_weighPool 4 = .ok (.getfield 46, 3) := by decide +kernel
theorem dX5_weighPool_7 : decode cX5_weighPool 7 = .ok (.if_icmp .gt 23, 3) := by decide +kernel
theorem dX5_weighPool_10 : decode cX5_weighPool 10 = .ok (.aload_n 0, 1) := by decide +kernel
theorem dX5_weighPool_11 : decode cX5_weighPool 11 = .ok (.getfield 20, 3) := by decide +kernel
theorem dX5_weighPool_14 : decode cX5_weighPool 14 = .ok (.iload_n 1, 1) := by decide +kernel
theorem dX5_weighPool_15 : decode cX5_weighPool 15 = .ok (.iconst 0, 1) := by decide +kernel
theorem dX5_weighPool_16 : decode cX5_weighPool 16 = .ok (.iastore, 1) := by decide +kernel
theorem dX5_weighPool_17 : decode cX5_weighPool 17 = .ok (.aload_n 0, 1) := by decide +kernel
theorem dX5_weighPool_18 : decode cX5_weighPool 18 = .ok (.getfield 24, 3) := by decide +kernel
theorem dX5_weighPool_21 : decode cX5_weighPool 21 = .ok (.iload_n 1, 1) := by decide +kernel
theorem dX5_weighPool_22 : decode cX5_weighPool 22 = .ok (.iconst 0, 1) := by decide +kernel
theorem dX5_weighPool_23 : decode cX5_weighPool 23 = .ok (.iastore, 1) := by decide +kernel
theorem dX5_weighPool_24 : decode cX5_weighPool 24 = .ok (.iinc 1 1, 3) := by decide +kernel
theorem dX5_weighPool_27 : decode cX5_weighPool 27 = .ok (.goto (-25), 3) := by decide +kernel
theorem dX5_weighPool_30 : decode cX5_weighPool 30 = .ok (.iconst 0, 1) := by decide +kernel
theorem dX5_weighPool_31 : decode cX5_weighPool 31 = .ok (.istore_n 1, 1) := by decide +kernel
theorem dX5_weighPool_32 : decode cX5_weighPool 32 = .ok (.iload_n 1, 1) := by decide +kernel
theorem dX5_weighPool_33 : decode cX5_weighPool 33 = .ok (.aload_n 0, 1) := by decide +kernel
theorem dX5_weighPool_34 : decode cX5_weighPool 34 = .ok (.getfield 31, 3) := by decide +kernel
theorem dX5_weighPool_37 : decode cX5_weighPool 37 = .ok (.if_icmp .ge 99, 3) := by decide +kernel
theorem dX5_weighPool_40 : decode cX5_weighPool 40 = .ok (.aload_n 0, 1) := by decide +kernel
theorem dX5_weighPool_41 : decode cX5_weighPool 41 = .ok (.getfield 17, 3) := by decide +kernel
theorem dX5_weighPool_44 : decode cX5_weighPool 44 = .ok (.iload_n 1, 1) := by decide +kernel
theorem dX5_weighPool_45 : decode cX5_weighPool 45 = .ok (.aaload, 1) := by decide +kernel
theorem dX5_weighPool_46 : decode cX5_weighPool 46 = .ok (.invokevirtual 70, 3) := by decide +kernel
theorem dX5_weighPool_49 : decode cX5_weighPool 49 = .ok (.istore_n 2, 1) := by decide +kernel
theorem dX5_weighPool_50 : decode cX5_weighPool 50 = .ok (.aload_n 0, 1) := by decide +kernel
theorem dX5_weighPool_51 : decode cX5_weighPool 51 = .ok (.getfield 17, 3) := by decide +kernel
theorem dX5_weighPool_54 : decode cX5_weighPool 54 = .ok (.iload_n 1, 1) := by decide +kernel
theorem dX5_weighPool_55 : decode cX5_weighPool 55 = .ok (.aaload, 1) := by decide +kernel
theorem dX5_weighPool_56 : decode cX5_weighPool 56 = .ok (.getfield 67, 3) := by decide +kernel
theorem dX5_weighPool_59 : decode cX5_weighPool 59 = .ok (.istore_n 3, 1) := by decide +kernel
theorem dX5_weighPool_60 : decode cX5_weighPool 60 = .ok (.aload_n 0, 1) := by decide +kernel
theorem dX5_weighPool_61 : decode cX5_weighPool 61 = .ok (.getfield 46, 3) := by decide +kernel
theorem dX5_weighPool_64 : decode cX5_weighPool 64 = .ok (.istore 4, 2) := by decide +kernel
theorem dX5_weighPool_66 : decode cX5_weighPool 66 = .ok (.iload 4, 2) := by decide +kernel
theorem dX5_weighPool_68 : decode cX5_weighPool 68 = .ok (.iload_n 2, 1) := by decide +kernel
theorem dX5_weighPool_69 : decode cX5_weighPool 69 = .ok (.if_icmp .lt 61, 3) := by decide +kernel
theorem dX5_weighPool_72 : decode cX5_weighPool 72 = .ok (.aload_n 0, 1) := by decide +kernel
theorem dX5_weighPool_73 : decode cX5_weighPool 73 = .ok (.getfield 20, 3) := by decide +kernel
theorem dX5_weighPool_76 : decode cX5_weighPool 76 = .ok (.iload 4, 2) := by decide +kernel
theorem dX5_weighPool_78 : decode cX5_weighPool 78 = .ok (.iload_n 2, 1) := by decide +kernel
theorem dX5_weighPool_79 : decode cX5_weighPool 79 = .ok (.isub, 1) := by decide +kernel
theorem dX5_weighPool_80 : decode cX5_weighPool 80 = .ok (.iaload, 1) := by decide +kernel
theorem dX5_weighPool_81 : decode cX5_weighPool 81 = .ok (.iload_n 3, 1) := by decide +kernel
theorem dX5_weighPool_82 : decode cX5_weighPool 82 = .ok (.iadd, 1) := by decide +kernel
theorem dX5_weighPool_83 : decode cX5_weighPool 83 = .ok (.aload_n 0, 1) := by decide +kernel
theorem dX5_weighPool_84 : decode cX5_weighPool 84 = .ok (.getfield 20, 3) := by decide +kernel
theorem dX5_weighPool_87 : decode cX5_weighPool 87 = .ok (.iload 4, 2) := by decide +kernel
theorem dX5_weighPool_89 : decode cX5_weighPool 89 = .ok (.iaload, 1) := by decide +kernel
theorem dX5_weighPool_90 : decode cX5_weighPool 90 = .ok (.if_icmp .le 34, 3) := by decide +kernel
theorem dX5_weighPool_93 : decode cX5_weighPool 93 = .ok (.aload_n 0, 1) := by decide +kernel
theorem dX5_weighPool_94 : decode cX5_weighPool 94 = .ok (.getfield 20, 3) := by decide +kernel
theorem dX5_weighPool_97 : decode cX5_weighPool 97 = .ok (.iload 4, 2) := by decide +kernel
theorem dX5_weighPool_99 : decode cX5_weighPool 99 = .ok (.aload_n 0, 1) := by decide +kernel
theorem dX5_weighPool_100 : decode cX5_weighPool 100 = .ok (.getfield 20, 3) := by decide +kernel
theorem dX5_weighPool_103 : decode cX5_weighPool 103 = .ok (.iload 4, 2) := by decide +kernel
theorem dX5_weighPool_105 : decode cX5_weighPool 105 = .ok (.iload_n 2, 1) := by decide +kernel
theorem dX5_weighPool_106 : decode cX5_weighPool 106 = .ok (.isub, 1) := by decide +kernel
theorem dX5_weighPool_107 : decode cX5_weighPool 107 = .ok (.iaload, 1) := by decide +kernel
theorem dX5_weighPool_108 : decode cX5_weighPool 108 = .ok (.iload_n 3, 1) := by decide +kernel
theorem dX5_weighPool_109 : decode cX5_weighPool 109 = .ok (.iadd, 1) := by decide +kernel
theorem dX5_weighPool_110 : decode cX5_weighPool 110 = .ok (.iastore, 1) := by decide +kernel
theorem dX5_weighPool_111 : decode cX5_weighPool 111 = .ok (.aload_n 0, 1) := by decide +kernel
theorem dX5_weighPool_112 : decode cX5_weighPool 112 = .ok (.getfield 24, 3) := by decide +kernel
theorem dX5_weighPool_115 : decode cX5_weighPool 115 = .ok (.iload 4, 2) := by decide +kernel
theorem dX5_weighPool_117 : decode cX5_weighPool 117 = .ok (.dup2, 1) := by decide +kernel
theorem dX5_weighPool_118 : decode cX5_weighPool 118 = .ok (.iaload, 1) := by decide +kernel
theorem dX5_weighPool_119 : decode cX5_weighPool 119 = .ok (.iconst 1, 1) := by decide +kernel
theorem dX5_weighPool_120 : decode cX5_weighPool 120 = .ok (.iload_n 1, 1) := by decide +kernel
theorem dX5_weighPool_121 : decode cX5_weighPool 121 = .ok (.ishl, 1) := by decide +kernel
theorem dX5_weighPool_122 : decode cX5_weighPool 122 = .ok (.ior, 1) := by decide +kernel
theorem dX5_weighPool_123 : decode cX5_weighPool 123 = .ok (.iastore, 1) := by decide +kernel
theorem dX5_weighPool_124 : decode cX5_weighPool 124 = .ok (.iinc 4 (-1), 3) := by decide +kernel
theorem dX5_weighPool_127 : decode cX5_weighPool 127 = .ok (.goto (-61), 3) := by decide +kernel
theorem dX5_weighPool_130 : decode cX5_weighPool 130 = .ok (.iinc 1 1, 3) := by decide +kernel
theorem dX5_weighPool_133 : decode cX5_weighPool 133 = .ok (.goto (-101), 3) := by decide +kernel
theorem dX5_weighPool_136 : decode cX5_weighPool 136 = .ok (.return_, 1) := by decide +kernel
theorem dX5_takeBestOfPool_0 : decode cX5_takeBestOfPool 0 = .ok (.iconst 0, 1) := by decide +kernel
theorem dX5_takeBestOfPool_1 : decode cX5_takeBestOfPool 1 = .ok (.istore_n 1, 1) := by decide +kernel
theorem dX5_takeBestOfPool_2 : decode cX5_takeBestOfPool 2 = .ok (.aload_n 0, 1) := by decide +kernel
theorem dX5_takeBestOfPool_3 : decode cX5_takeBestOfPool 3 = .ok (.getfield 46, 3) := by decide +kernel
theorem dX5_takeBestOfPool_6 : decode cX5_takeBestOfPool 6 = .ok (.istore_n 2, 1) := by decide +kernel
theorem dX5_takeBestOfPool_7 : decode cX5_takeBestOfPool 7 = .ok (.aload_n 0, 1) := by decide +kernel
theorem dX5_takeBestOfPool_8 : decode cX5_takeBestOfPool 8 = .ok (.getfield 31, 3) := by decide +kernel
theorem dX5_takeBestOfPool_11 : decode cX5_takeBestOfPool 11 = .ok (.iconst 1, 1) := by decide +kernel
theorem dX5_takeBestOfPool_12 : decode cX5_takeBestOfPool 12 = .ok (.isub, 1) := by decide +kernel
theorem dX5_takeBestOfPool_13 : decode cX5_takeBestOfPool 13 = .ok (.istore_n 3, 1) := by decide +kernel
theorem dX5_takeBestOfPool_14 : decode cX5_takeBestOfPool 14 = .ok (.iload_n 3, 1) := by decide +kernel
theorem dX5_takeBestOfPool_15 : decode cX5_takeBestOfPool 15 = .ok (.ifCond .lt 45, 3) := by decide +kernel
theorem dX5_takeBestOfPool_18 : decode cX5_takeBestOfPool 18 = .ok (.iload_n 2, 1) := by decide +kernel
theorem dX5_takeBestOfPool_19 : decode cX5_takeBestOfPool 19 = .ok (.ifCond .lt 35, 3) := by decide +kernel
theorem dX5_takeBestOfPool_22 : decode cX5_takeBestOfPool 22 = .ok (.aload_n 0, 1) := by decide +kernel
theorem dX5_takeBestOfPool_23 : decode cX5_takeBestOfPool 23 = .ok (.getfield 24, 3) := by decide +kernel
theorem dX5_takeBestOfPool_26 : decode cX5_takeBestOfPool 26 = .ok (.iload_n 2, 1) := by decide +kernel
theorem dX5_takeBestOfPool_27 : decode cX5_takeBestOfPool 27 = .ok (.iaload, 1) := by decide +kernel
theorem dX5_takeBestOfPool_28 : decode cX5_takeBestOfPool 28 = .ok (.iload_n 3, 1) := by decide +kernel
theorem dX5_takeBestOfPool_29 : decode cX5_takeBestOfPool 29 = .ok (.ishr, 1) := by decide +kernel
theorem dX5_takeBestOfPool_30 : decode cX5_takeBestOfPool 30 = .ok (.iconst 1, 1) := by decide +kernel
theorem dX5_takeBestOfPool_31 : decode cX5_takeBestOfPool 31 = .ok (.iand, 1) := by decide +kernel
theorem dX5_takeBestOfPool_32 : decode cX5_takeBestOfPool 32 = .ok (.iconst 1, 1) := by decide +kernel
theorem dX5_takeBestOfPool_33 : decode cX5_takeBestOfPool 33 = .ok (.if_icmp .ne 21, 3) := by decide +kernel
theorem dX5_takeBestOfPool_36 : decode cX5_takeBestOfPool 36 = .ok (.iload_n 1, 1) := by decide +kernel
theorem dX5_takeBestOfPool_37 : decode cX5_takeBestOfPool 37 = .ok (.iconst 1, 1) := by decide +kernel
theorem dX5_takeBestOfPool_38 : decode cX5_takeBestOfPool 38 = .ok (.iload_n 3, 1) := by decide +kernel
theorem dX5_takeBestOfPool_39 : decode cX5_takeBestOfPool 39 = .ok (.ishl, 1) := by decide +kernel
theorem dX5_takeBestOfPool_40 : decode cX5_takeBestOfPool 40 = .ok (.ior, 1) := by decide +kernel
theorem dX5_takeBestOfPool_41 : decode cX5_takeBestOfPool 41 = .ok (.istore_n 1, 1) := by decide +kernel
theorem dX5_takeBestOfPool_42 : decode cX5_takeBestOfPool 42 = .ok (.iload_n 2, 1) := by decide +kernel
theorem dX5_takeBestOfPool_43 : decode cX5_takeBestOfPool 43 = .ok (.aload_n 0, 1) := by decide +kernel
theorem dX5_takeBestOfPool_44 : decode cX5_takeBestOfPool 44 = .ok (.getfield 17, 3) := by decide +kernel
theorem dX5_takeBestOfPool_47 : decode cX5_takeBestOfPool 47 = .ok (.iload_n 3, 1) := by decide +kernel
theorem dX5_takeBestOfPool_48 : decode cX5_takeBestOfPool 48 = .ok (.aaload, 1) := by decide +kernel
theorem dX5_takeBestOfPool_49 : decode cX5_takeBestOfPool 49 = .ok (.invokevirtual 70, 3) := by decide +kernel
theorem dX5_takeBestOfPool_52 : decode cX5_takeBestOfPool 52 = .ok (.isub, 1) := by decide +kernel
theorem dX5_takeBestOfPool_53 : decode cX5_takeBestOfPool 53 = .ok (.istore_n 2, 1) := by decide +kernel
theorem dX5_takeBestOfPool_54 : decode cX5_takeBestOfPool 54 = .ok (.iinc 3 (-1), 3) := by decide +kernel
theorem dX5_takeBestOfPool_57 : decode cX5_takeBestOfPool 57 = .ok (.goto (-43), 3) := by decide +kernel
theorem dX5_takeBestOfPool_60 : decode cX5_takeBestOfPool 60 = .ok (.iconst 0, 1) := by decide +kernel
theorem dX5_takeBestOfPool_61 : decode cX5_takeBestOfPool 61 = .ok (.istore_n 3, 1) := by decide +kernel
theorem dX5_takeBestOfPool_62 : decode cX5_takeBestOfPool 62 = .ok (.iload_n 3, 1) := by decide +kernel
theorem dX5_takeBestOfPool_63 : decode cX5_takeBestOfPool 63 = .ok (.aload_n 0, 1) := by decide +kernel
theorem dX5_takeBestOfPool_64 : decode cX5_takeBestOfPool 64 = .ok (.getfield 31, 3) := by decide +kernel
theorem dX5_takeBestOfPool_67 : decode cX5_takeBestOfPool 67 = .ok (.if_icmp .ge 28, 3) := by decide +kernel
theorem dX5_takeBestOfPool_70 : decode cX5_takeBestOfPool 70 = .ok (.iload_n 1, 1) := by decide +kernel
theorem dX5_takeBestOfPool_71 : decode cX5_takeBestOfPool 71 = .ok (.iload_n 3, 1) := by decide +kernel
theorem dX5_takeBestOfPool_72 : decode cX5_takeBestOfPool 72 = .ok (.ishr, 1) := by decide +kernel
theorem dX5_takeBestOfPool_73 : decode cX5_takeBestOfPool 73 = .ok (.iconst 1, 1) := by decide +kernel
theorem dX5_takeBestOfPool_74 : decode cX5_takeBestOfPool 74 = .ok (.iand, 1) := by decide +kernel
theorem dX5_takeBestOfPool_75 : decode cX5_takeBestOfPool 75 = .ok (.iconst 1, 1) := by decide +kernel
theorem dX5_takeBestOfPool_76 : decode cX5_takeBestOfPool 76 = .ok (.if_icmp .ne 13, 3) := by decide +kernel
theorem dX5_takeBestOfPool_79 : decode cX5_takeBestOfPool 79 = .ok (.aload_n 0, 1) := by decide +kernel
theorem dX5_takeBestOfPool_80 : decode cX5_takeBestOfPool 80 = .ok (.aload_n 0, 1) := by decide +kernel
theorem dX5_takeBestOfPool_81 : decode cX5_takeBestOfPool 81 = .ok (.getfield 17, 3) := by decide +kernel
theorem dX5_takeBestOfPool_84 : decode cX5_takeBestOfPool 84 = .ok (.iload_n 3, 1) := by decide +kernel
theorem dX5_takeBestOfPool_85 : decode cX5_takeBestOfPool 85 = .ok (.aaload, 1) := by decide +kernel
theorem dX5_takeBestOfPool_86 : decode cX5_takeBestOfPool 86 = .ok (.invokevirtual 86, 3) := by decide +kernel
theorem dX5_takeBestOfPool_89 : decode cX5_takeBestOfPool 89 = .ok (.iinc 3 1, 3) := by decide +kernel
theorem dX5_takeBestOfPool_92 : decode cX5_takeBestOfPool 92 = .ok (.goto (-30), 3) := by decide +kernel
theorem dX5_takeBestOfPool_95 : decode cX5_takeBestOfPool 95 = .ok (.return_, 1) := by decide +kernel
theorem dX6_init_0 : decode cX6_init 0 = .ok (.aload_n 0, 1) := by decide +kernel
theorem dX6_init_1 : decode cX6_init 1 = .ok (.invokespecial 1, 3) := by decide +kernel
theorem dX6_init_4 : decode cX6_init 4 = .ok (.aload_n 0, 1) := by decide +kernel
theorem dX6_init_5 : decode cX6_init 5 = .ok (.iload_n 1, 1) := by decide +kernel
theorem dX6_init_6 : decode cX6_init 6 = .ok (.putfield 7, 3) := by decide +kernel
theorem dX6_init_9 : decode cX6_init 9 = .ok (.aload_n 0, 1) := by decide +kernel
theorem dX6_init_10 : decode cX6_init 10 = .ok (.iload_n 2, 1) := by decide +kernel
theorem dX6_init_11 : decode cX6_init 11 = .ok (.putfield 13, 3) := by decide +kernel
theorem dX6_init_14 : decode cX6_init 14 = .ok (.aload_n 0, 1) := by decide +kernel
theorem dX6_init_15 : decode cX6_init 15 = .ok (.iload_n 3, 1) := by decide +kernel
theorem dX6_init_16 : decode cX6_init 16 = .ok (.putfield 16, 3) := by decide +kernel
theorem dX6_init_19 : decode cX6_init 19 = .ok (.return_, 1) := by decide +kernel
theorem dX6_covers_0 : decode cX6_covers 0 = .ok (.iload_n 1, 1) := by decide +kernel
theorem dX6_covers_1 : decode cX6_covers 1 = .ok (.aload_n 0, 1) := by decide +kernel
theorem dX6_covers_2 : decode cX6_covers 2 = .ok (.getfield 7, 3) := by decide +kernel
theorem dX6_covers_5 : decode cX6_covers 5 = .ok (.if_icmp .ne 23, 3) := by decide +kernel
theorem dX6_covers_8 : decode cX6_covers 8 = .ok (.aload_n 0, 1) := by decide +kernel
theorem dX6_covers_9 : decode cX6_covers 9 = .ok (.getfield 13, 3) := by decide +kernel
theorem dX6_covers_12 : decode cX6_covers 12 = .ok (.iload_n 2, 1) := by decide +kernel
theorem dX6_covers_13 : decode cX6_covers 13 = .ok (.if_icmp .gt 15, 3) := by decide +kernel
theorem dX6_covers_16 : decode cX6_covers 16 = .ok (.iload_n 2, 1) := by decide +kernel
theorem dX6_covers_17 : decode cX6_covers 17 = .ok (.aload_n 0, 1) := by decide +kernel
theorem dX6_covers_18 : decode cX6_covers 18 = .ok (.getfield 16, 3) := by decide +kernel
theorem dX6_covers_21 : decode cX6_covers 21 = .ok (.if_icmp .gt 7, 3) := by decide +kernel
theorem dX6_covers_24 : decode cX6_covers 24 = .ok (.iconst 1, 1) := by decide +kernel
theorem dX6_covers_25 : decode cX6_covers 25 = .ok (.goto 4, 3) := by decide +kernel
theorem dX6_covers_28 : decode cX6_covers 28 = .ok (.iconst 0, 1) := by decide +kernel
theorem dX6_covers_29 : decode cX6_covers 29 = .ok (.ireturn, 1) := by decide +kernel
theorem dX7_init_0 : decode cX7_init 0 = .ok (.aload_n 0, 1) := by decide +kernel
theorem dX7_init_1 : decode cX7_init 1 = .ok (.invokespecial 3, 3) := by decide +kernel
theorem dX7_init_4 : decode cX7_init 4 = .ok (.aload_n 0, 1) := by decide +kernel
theorem dX7_init_5 : decode cX7_init 5 = .ok (.bipush 60, 2) := by decide +kernel
theorem dX7_init_7 : decode cX7_init 7 = .ok (.anewarray 9, 3) := by decide +kernel
theorem dX7_init_10 : decode cX7_init 10 = .ok (.putfield 11, 3) := by decide +kernel
theorem dX7_init_13 : decode cX7_init 13 = .ok (.return_, 1) := by decide +kernel
theorem dX7_find_0 : decode cX7_find 0 = .ok (.iload_n 1, 1) := by decide +kernel
theorem dX7_find_1 : decode cX7_find 1 = .ok (.iload_n 2, 1) := by decide +kernel
theorem dX7_find_2 : decode cX7_find 2 = .ok (.invokestatic 17, 3) := by decide +kernel
theorem dX7_find_5 : decode cX7_find 5 = .ok (.istore_n 3, 1) := by decide +kernel
theorem dX7_find_6 : decode cX7_find 6 = .ok (.iload_n 1, 1) := by decide +kernel
theorem dX7_find_7 : decode cX7_find 7 = .ok (.iload_n 2, 1) := by decide +kernel
theorem dX7_find_8 : decode cX7_find 8 = .ok (.invokestatic 23, 3) := by decide +kernel
theorem dX7_find_11 : decode cX7_find 11 = .ok (.istore 4, 2) := by decide +kernel
theorem dX7_find_13 : decode cX7_find 13 = .ok (.iconst 0, 1) := by decide +kernel
theorem dX7_find_14 : decode cX7_find 14 = .ok (.istore 5, 2) := by decide +kernel
theorem dX7_find_16 : decode cX7_find 16 = .ok (.iload 5, 2) := by decide +kernel
theorem dX7_find_18 : decode cX7_find 18 = .ok (.aload_n 0, 1) := by decide +kernel
theorem dX7_find_19 : decode cX7_find 19 = .ok (.getfield 26, 3) := by decide +kernel
theorem dX7_find_22 : decode cX7_find 22 = .ok (.if_icmp .ge 46, 3) := by decide +kernel
theorem dX7_find_25 : decode cX7_find 25 = .ok (.aload_n 0, 1) := by decide +kernel
theorem dX7_find_26 : decode cX7_find 26 = .ok (.getfield 11, 3) := by decide +kernel
theorem dX7_find_29 : decode cX7_find 29 = .ok (.iload 5, 2) := by decide +kernel
theorem dX7_find_31 : decode cX7_find 31 = .ok (.aaload, 1) := by decide +kernel
theorem dX7_find_32 : decode cX7_find 32 = .ok (.getfield 30, 3) := by decide +kernel
theorem dX7_find_35 : decode cX7_find 35 = .ok (.iload_n 3, 1) := by decide +kernel
theorem dX7_find_36 : decode cX7_find 36 = .ok (.if_icmp .ne 26, 3) := by decide +kernel
theorem dX7_find_39 : decode cX7_find 39 = .ok (.aload_n 0, 1) := by decide +kernel
theorem dX7_find_40 : decode cX7_find 40 = .ok (.getfield 11, 3) := by decide +kernel
theorem dX7_find_43 : decode cX7_find 43 = .ok (.iload 5, 2) := by decide +kernel
theorem dX7_find_45 : decode cX7_find 45 = .ok (.aaload, 1) := by decide +kernel
theorem dX7_find_46 : decode cX7_find 46 = .ok (.getfield 33, 3) := by decide +kernel
theorem dX7_find_49 : decode cX7_find 49 = .ok (.iload 4, 2) := by decide +kernel
theorem dX7_find_51 : decode cX7_find 51 = .ok (.if_icmp .ne 11, 3) := by decide +kernel
theorem dX7_find_54 : decode cX7_find 54 = .ok (.aload_n 0, 1) := by decide +kernel
theorem dX7_find_55 : decode cX7_find 55 = .ok (.getfield 11, 3) := by decide +kernel
theorem dX7_find_58 : decode cX7_find 58 = .ok (.iload 5, 2) := by decide +kernel
theorem dX7_find_60 : decode cX7_find 60 = .ok (.aaload, 1) := by decide +kernel
theorem dX7_find_61 : decode cX7_find 61 = .ok (.areturn, 1) := by decide +kernel
theorem dX7_find_62 : decode cX7_find 62 = .ok (.iinc 5 1, 3) := by decide +kernel
theorem dX7_find_65 : decode cX7_find 65 = .ok (.goto (-49), 3) := by decide +kernel
theorem dX7_find_68 : decode cX7_find 68 = .ok (.aconst_null, 1) := by decide +kernel
theorem dX7_find_69 : decode cX7_find 69 = .ok (.areturn, 1) := by decide +kernel
theorem dX7_tell_0 : decode cX7_tell 0 = .ok (.aload_n 0, 1) := by decide +kernel
theorem dX7_tell_1 : decode cX7_tell 1 = .ok (.iload_n 1, 1) := by decide +kernel
theorem dX7_tell_2 : decode cX7_tell 2 = .ok (.iload_n 2, 1) := by decide +kernel
theorem dX7_tell_3 : decode cX7_tell 3 = .ok (.invokevirtual 36, 3) := by decide +kernel
theorem dX7_tell_6 : decode cX7_tell 6 = .ok (.astore 4, 2) := by decide +kernel
theorem dX7_tell_8 : decode cX7_tell 8 = .ok (.aload 4, 2) := by decide +kernel
theorem dX7_tell_10 : decode cX7_tell 10 = .ok (.ifnull 28, 3) := by decide +kernel
theorem dX7_tell_13 : decode cX7_tell 13 = .ok (.aload 4, 2) := by decide +kernel
theorem dX7_tell_15 : decode cX7_tell 15 = .ok (.getfield 40, 3) := by decide +kernel
theorem dX7_tell_18 : decode cX7_tell 18 = .ok (.iload_n 3, 1) := by decide +kernel
theorem dX7_tell_19 : decode cX7_tell 19 = .ok (.if_icmp .eq 7, 3) := by decide +kernel
theorem dX7_tell_22 : decode cX7_tell 22 = .ok (.iconst 1, 1) := by decide +kernel
theorem dX7_tell_23 : decode cX7_tell 23 = .ok (.goto 4, 3) := by decide +kernel
theorem dX7_tell_26 : decode cX7_tell 26 = .ok (.iconst 0, 1) := by decide +kernel
theorem dX7_tell_27 : decode cX7_tell 27 = .ok (.istore 5, 2) := by decide +kernel
theorem dX7_tell_29 : decode cX7_tell 29 = .ok (.aload 4, 2) := by decide +kernel
theorem dX7_tell_31 : decode cX7_tell 31 = .ok (.iload_n 3, 1) := by decide +kernel
theorem dX7_tell_32 : decode cX7_tell 32 = .ok (.putfield 40, 3) := by decide +kernel
theorem dX7_tell_35 : decode cX7_tell 35 = .ok (.iload 5, 2) := by decide +kernel
theorem dX7_tell_37 : decode cX7_tell 37 = .ok (.ireturn, 1) := by decide +kernel
theorem dX7_tell_38 : decode cX7_tell 38 = .ok (.aload_n 0, 1) := by decide +kernel
theorem dX7_tell_39 : decode cX7_tell 39 = .ok (.getfield 26, 3) := by decide +kernel
theorem dX7_tell_42 : decode cX7_tell 42 = .ok (.bipush 60, 2) := by decide +kernel
theorem dX7_tell_44 : decode cX7_tell 44 = .ok (.if_icmp .lt 5, 3) := by decide +kernel
theorem dX7_tell_47 : decode cX7_tell 47 = .ok (.iconst 0, 1) := by decide +kernel
theorem dX7_tell_48 : decode cX7_tell 48 = .ok (.ireturn, 1) := by decide +kernel
theorem dX7_tell_49 : decode cX7_tell 49 = .ok (.aload_n 0, 1) := by decide +kernel
theorem dX7_tell_50 : decode cX7_tell 50 = .ok (.getfield 11, 3) := by decide +kernel
theorem dX7_tell_53 : decode cX7_tell 53 = .ok (.aload_n 0, 1) := by decide +kernel
theorem dX7_tell_54 : decode cX7_tell 54 = .ok (.getfield 26, 3) := by decide +kernel
theorem dX7_tell_57 : decode cX7_tell 57 = .ok (.new 9, 3) := by decide +kernel
theorem dX7_tell_60 : decode cX7_tell 60 = .ok (.dup, 1) := by decide +kernel
theorem dX7_tell_61 : decode cX7_tell 61 = .ok (.iload_n 1, 1) := by decide +kernel
theorem dX7_tell_62 : decode cX7_tell 62 = .ok (.iload_n 2, 1) := by decide +kernel
theorem dX7_tell_63 : decode cX7_tell 63 = .ok (.invokestatic 17, 3) := by decide +kernel
theorem dX7_tell_66 : decode cX7_tell 66 = .ok (.iload_n 1, 1) := by decide +kernel
theorem dX7_tell_67 : decode cX7_tell 67 = .ok (.iload_n 2, 1) := by decide +kernel
theorem dX7_tell_68 : decode cX7_tell 68 = .ok (.invokestatic 23, 3) := by decide +kernel
theorem dX7_tell_71 : decode cX7_tell 71 = .ok (.iload_n 3, 1) := by decide +kernel
theorem dX7_tell_72 : decode cX7_tell 72 = .ok (.invokespecial 44, 3) := by decide +kernel
theorem dX7_tell_75 : decode cX7_tell 75 = .ok (.aastore, 1) := by decide +kernel
theorem dX7_tell_76 : decode cX7_tell 76 = .ok (.aload_n 0, 1) := by decide +kernel
theorem dX7_tell_77 : decode cX7_tell 77 = .ok (.dup, 1) := by decide +kernel
theorem dX7_tell_78 : decode cX7_tell 78 = .ok (.getfield 26, 3) := by decide +kernel
theorem dX7_tell_81 : decode cX7_tell 81 = .ok (.iconst 1, 1) := by decide +kernel
theorem dX7_tell_82 : decode cX7_tell 82 = .ok (.iadd, 1) := by decide +kernel
theorem dX7_tell_83 : decode cX7_tell 83 = .ok (.putfield 26, 3) := by decide +kernel
theorem dX7_tell_86 : decode cX7_tell 86 = .ok (.iconst 1, 1) := by decide +kernel
theorem dX7_tell_87 : decode cX7_tell 87 = .ok (.ireturn, 1) := by decide +kernel
theorem dX7_isParted_0 : decode cX7_isParted 0 = .ok (.aload_n 0, 1) := by decide +kernel
theorem dX7_isParted_1 : decode cX7_isParted 1 = .ok (.iload_n 1, 1) := by decide +kernel
theorem dX7_isParted_2 : decode cX7_isParted 2 = .ok (.iload_n 2, 1) := by decide +kernel
theorem dX7_isParted_3 : decode cX7_isParted 3 = .ok (.invokevirtual 36, 3) := by decide +kernel
theorem dX7_isParted_6 : decode cX7_isParted 6 = .ok (.astore_n 3, 1) := by decide +kernel
theorem dX7_isParted_7 : decode cX7_isParted 7 = .ok (.aload_n 3, 1) := by decide +kernel
theorem dX7_isParted_8 : decode cX7_isParted 8 = .ok (.ifnull 14, 3) := by decide +kernel
theorem dX7_isParted_11 : decode cX7_isParted 11 = .ok (.aload_n 3, 1) := by decide +kernel
theorem dX7_isParted_12 : decode cX7_isParted 12 = .ok (.getfield 40, 3) := by decide +kernel
theorem dX7_isParted_15 : decode cX7_isParted 15 = .ok (.ifCond .ne 7, 3) := by decide +kernel
theorem dX7_isParted_18 : decode cX7_isParted 18 = .ok (.iconst 1, 1) := by decide +kernel
theorem dX7_isParted_19 : decode cX7_isParted 19 = .ok (.goto 4, 3) := by decide +kernel
theorem dX7_isParted_22 : decode cX7_isParted 22 = .ok (.iconst 0, 1) := by decide +kernel
theorem dX7_isParted_23 : decode cX7_isParted 23 = .ok (.ireturn, 1) := by decide +kernel
theorem dX8_init_0 : decode cX8_init 0 = .ok (.aload_n 0, 1) := by decide +kernel
theorem dX8_init_1 : decode cX8_init 1 = .ok (.invokespecial 1, 3) := by decide +kernel
theorem dX8_init_4 : decode cX8_init 4 = .ok (.aload_n 0, 1) := by decide +kernel
theorem dX8_init_5 : decode cX8_init 5 = .ok (.sipush 200, 3) := by decide +kernel
theorem dX8_init_8 : decode cX8_init 8 = .ok (.anewarray 9, 3) := by decide +kernel
theorem dX8_init_11 : decode cX8_init 11 = .ok (.putfield 11, 3) := by decide +kernel
theorem dX8_init_14 : decode cX8_init 14 = .ok (.aload_n 0, 1) := by decide +kernel
theorem dX8_init_15 : decode cX8_init 15 = .ok (.bipush 40, 2) := by decide +kernel
theorem dX8_init_17 : decode cX8_init 17 = .ok (.anewarray 9, 3) := by decide +kernel
theorem dX8_init_20 : decode cX8_init 20 = .ok (.putfield 15, 3) := by decide +kernel
theorem dX8_init_23 : decode cX8_init 23 = .ok (.aload_n 0, 1) := by decide +kernel
theorem dX8_init_24 : decode cX8_init 24 = .ok (.bipush 30, 2) := by decide +kernel
theorem dX8_init_26 : decode cX8_init 26 = .ok (.anewarray 18, 3) := by decide +kernel
theorem dX8_init_29 : decode cX8_init 29 = .ok (.putfield 20, 3) := by decide +kernel
theorem dX8_init_32 : decode cX8_init 32 = .ok (.aload_n 0, 1) := by decide +kernel
theorem dX8_init_33 : decode cX8_init 33 = .ok (.new 24, 3) := by decide +kernel
theorem dX8_init_36 : decode cX8_init 36 = .ok (.dup, 1) := by decide +kernel
theorem dX8_init_37 : decode cX8_init 37 = .ok (.aconst_null, 1) := by decide +kernel
theorem dX8_init_38 : decode cX8_init 38 = .ok (.iconst 0, 1) := by decide +kernel
theorem dX8_init_39 : decode cX8_init 39 = .ok (.aconst_null, 1) := by decide +kernel
theorem dX8_init_40 : decode cX8_init 40 = .ok (.invokespecial 26, 3) := by decide +kernel
theorem dX8_init_43 : decode cX8_init 43 = .ok (.putfield 29, 3) := by decide +kernel
theorem dX8_init_46 : decode cX8_init 46 = .ok (.aload_n 0, 1) := by decide +kernel
theorem dX8_init_47 : decode cX8_init 47 = .ok (.new 33, 3) := by decide +kernel
theorem dX8_init_50 : decode cX8_init 50 = .ok (.dup, 1) := by decide +kernel
theorem dX8_init_51 : decode cX8_init 51 = .ok (.invokespecial 35, 3) := by decide +kernel
theorem dX8_init_54 : decode cX8_init 54 = .ok (.putfield 36, 3) := by decide +kernel
theorem dX8_init_57 : decode cX8_init 57 = .ok (.aload_n 0, 1) := by decide +kernel
theorem dX8_init_58 : decode cX8_init 58 = .ok (.new 40, 3) := by decide +kernel
theorem dX8_init_61 : decode cX8_init 61 = .ok (.dup, 1) := by decide +kernel
theorem dX8_init_62 : decode cX8_init 62 = .ok (.invokespecial 42, 3) := by decide +kernel
theorem dX8_init_65 : decode cX8_init 65 = .ok (.putfield 43, 3) := by decide +kernel
theorem dX8_init_68 : decode cX8_init 68 = .ok (.aload_n 0, 1) := by decide +kernel
theorem dX8_init_69 : decode cX8_init 69 = .ok (.new 47, 3) := by decide +kernel
theorem dX8_init_72 : decode cX8_init 72 = .ok (.dup, 1) := by decide +kernel
theorem dX8_init_73 : decode cX8_init 73 = .ok (.invokespecial 49, 3) := by decide +kernel
theorem dX8_init_76 : decode cX8_init 76 = .ok (.putfield 50, 3) := by decide +kernel
theorem dX8_init_79 : decode cX8_init 79 = .ok (.aload_n 0, 1) := by decide +kernel
theorem dX8_init_80 : decode cX8_init 80 = .ok (.bipush 50, 2) := by decide +kernel
theorem dX8_init_82 : decode cX8_init 82 = .ok (.putfield 54, 3) := by decide +kernel
theorem dX8_init_85 : decode cX8_init 85 = .ok (.aload_n 0, 1) := by decide +kernel
theorem dX8_init_86 : decode cX8_init 86 = .ok (.iconst 3, 1) := by decide +kernel
theorem dX8_init_87 : decode cX8_init 87 = .ok (.putfield 58, 3) := by decide +kernel
end
section
theorem dX8_init_90 : decode cX8_init 90 = .ok (.return_, 1) := by decide +kernel
theorem dX8_pass_0 : decode cX8_pass 0 = .ok (.iload_n 1, 1) := by decide +kernel
theorem dX8_pass_1 : decode cX8_pass 1 = .ok (.iconst 1, 1) := by decide +kernel
theorem dX8_pass_2 : decode cX8_pass 2 = .ok (.if_icmp .lt 22, 3) := by decide +kernel
theorem dX8_pass_5 : decode cX8_pass 5 = .ok (.iload_n 1, 1) := by decide +kernel
theorem dX8_pass_6 : decode cX8_pass 6 = .ok (.sipush 1000, 3) := by decide +kernel
theorem dX8_pass_9 : decode cX8_pass 9 = .ok (.if_icmp .gt 15, 3) := by decide +kernel
theorem dX8_pass_12 : decode cX8_pass 12 = .ok (.aload_n 0, 1) := by decide +kernel
theorem dX8_pass_13 : decode cX8_pass 13 = .ok (.getfield 61, 3) := by decide +kernel
theorem dX8_pass_16 : decode cX8_pass 16 = .ok (.iload_n 1, 1) := by decide +kernel
theorem dX8_pass_17 : decode cX8_pass 17 = .ok (.iadd, 1) := by decide +kernel
theorem dX8_pass_18 : decode cX8_pass 18 = .ok (.sipush 10000, 3) := by decide +kernel
theorem dX8_pass_21 : decode cX8_pass 21 = .ok (.if_icmp .le 5, 3) := by decide +kernel
theorem dX8_pass_24 : decode cX8_pass 24 = .ok (.iconst (-1), 1) := by decide +kernel
theorem dX8_pass_25 : decode cX8_pass 25 = .ok (.ireturn, 1) := by decide +kernel
theorem dX8_pass_26 : decode cX8_pass 26 = .ok (.aload_n 0, 1) := by decide +kernel
theorem dX8_pass_27 : decode cX8_pass 27 = .ok (.dup, 1) := by decide +kernel
theorem dX8_pass_28 : decode cX8_pass 28 = .ok (.getfield 61, 3) := by decide +kernel
theorem dX8_pass_31 : decode cX8_pass 31 = .ok (.iload_n 1, 1) := by decide +kernel
theorem dX8_pass_32 : decode cX8_pass 32 = .ok (.iadd, 1) := by decide +kernel
theorem dX8_pass_33 : decode cX8_pass 33 = .ok (.putfield 61, 3) := by decide +kernel
theorem dX8_pass_36 : decode cX8_pass 36 = .ok (.aload_n 0, 1) := by decide +kernel
theorem dX8_pass_37 : decode cX8_pass 37 = .ok (.getfield 61, 3) := by decide +kernel
theorem dX8_pass_40 : decode cX8_pass 40 = .ok (.ireturn, 1) := by decide +kernel
theorem dX8_alarm_0 : decode cX8_alarm 0 = .ok (.iload_n 1, 1) := by decide +kernel
theorem dX8_alarm_1 : decode cX8_alarm 1 = .ok (.bipush 10, 2) := by decide +kernel
theorem dX8_alarm_3 : decode cX8_alarm 3 = .ok (.invokestatic 64, 3) := by decide +kernel
theorem dX8_alarm_6 : decode cX8_alarm 6 = .ok (.ifCond .eq 35, 3) := by decide +kernel
theorem dX8_alarm_9 : decode cX8_alarm 9 = .ok (.iload_n 2, 1) := by decide +kernel
theorem dX8_alarm_10 : decode cX8_alarm 10 = .ok (.bipush 40, 2) := by decide +kernel
theorem dX8_alarm_12 : decode cX8_alarm 12 = .ok (.invokestatic 64, 3) := by decide +kernel
theorem dX8_alarm_15 : decode cX8_alarm 15 = .ok (.ifCond .eq 26, 3) := by decide +kernel
theorem dX8_alarm_18 : decode cX8_alarm 18 = .ok (.iload_n 3, 1) := by decide +kernel
theorem dX8_alarm_19 : decode cX8_alarm 19 = .ok (.sipush 4096, 3) := by decide +kernel
theorem dX8_alarm_22 : decode cX8_alarm 22 = .ok (.invokestatic 64, 3) := by decide +kernel
theorem dX8_alarm_25 : decode cX8_alarm 25 = .ok (.ifCond .eq 16, 3) := by decide +kernel
theorem dX8_alarm_28 : decode cX8_alarm 28 = .ok (.iload 4, 2) := by decide +kernel
theorem dX8_alarm_30 : decode cX8_alarm 30 = .ok (.iconst 1, 1) := by decide +kernel
theorem dX8_alarm_31 : decode cX8_alarm 31 = .ok (.if_icmp .lt 10, 3) := by decide +kernel
theorem dX8_alarm_34 : decode cX8_alarm 34 = .ok (.iload 4, 2) := by decide +kernel
theorem dX8_alarm_36 : decode cX8_alarm 36 = .ok (.bipush 100, 2) := by decide +kernel
theorem dX8_alarm_38 : decode cX8_alarm 38 = .ok (.if_icmp .le 6, 3) := by decide +kernel
theorem dX8_alarm_41 : decode cX8_alarm 41 = .ok (.bipush (-2), 2) := by decide +kernel
theorem dX8_alarm_43 : decode cX8_alarm 43 = .ok (.ireturn, 1) := by decide +kernel
theorem dX8_alarm_44 : decode cX8_alarm 44 = .ok (.aload_n 0, 1) := by decide +kernel
theorem dX8_alarm_45 : decode cX8_alarm 45 = .ok (.iload_n 1, 1) := by decide +kernel
theorem dX8_alarm_46 : decode cX8_alarm 46 = .ok (.iload_n 2, 1) := by decide +kernel
theorem dX8_alarm_47 : decode cX8_alarm 47 = .ok (.iload_n 3, 1) := by decide +kernel
theorem dX8_alarm_48 : decode cX8_alarm 48 = .ok (.invokevirtual 68, 3) := by decide +kernel
theorem dX8_alarm_51 : decode cX8_alarm 51 = .ok (.astore 5, 2) := by decide +kernel
theorem dX8_alarm_53 : decode cX8_alarm 53 = .ok (.aload 5, 2) := by decide +kernel
theorem dX8_alarm_55 : decode cX8_alarm 55 = .ok (.ifnull 18, 3) := by decide +kernel
theorem dX8_alarm_58 : decode cX8_alarm 58 = .ok (.aload 5, 2) := by decide +kernel
theorem dX8_alarm_60 : decode cX8_alarm 60 = .ok (.aload_n 0, 1) := by decide +kernel
theorem dX8_alarm_61 : decode cX8_alarm 61 = .ok (.getfield 61, 3) := by decide +kernel
theorem dX8_alarm_64 : decode cX8_alarm 64 = .ok (.invokevirtual 72, 3) := by decide +kernel
theorem dX8_alarm_67 : decode cX8_alarm 67 = .ok (.aload 5, 2) := by decide +kernel
theorem dX8_alarm_69 : decode cX8_alarm 69 = .ok (.getfield 76, 3) := by decide +kernel
theorem dX8_alarm_72 : decode cX8_alarm 72 = .ok (.ireturn, 1) := by decide +kernel
theorem dX8_alarm_73 : decode cX8_alarm 73 = .ok (.aload_n 0, 1) := by decide +kernel
theorem dX8_alarm_74 : decode cX8_alarm 74 = .ok (.getfield 79, 3) := by decide +kernel
theorem dX8_alarm_77 : decode cX8_alarm 77 = .ok (.sipush 200, 3) := by decide +kernel
theorem dX8_alarm_80 : decode cX8_alarm 80 = .ok (.if_icmp .lt 6, 3) := by decide +kernel
theorem dX8_alarm_83 : decode cX8_alarm 83 = .ok (.bipush (-3), 2) := by decide +kernel
theorem dX8_alarm_85 : decode cX8_alarm 85 = .ok (.ireturn, 1) := by decide +kernel
theorem dX8_alarm_86 : decode cX8_alarm 86 = .ok (.new 9, 3) := by decide +kernel
theorem dX8_alarm_89 : decode cX8_alarm 89 = .ok (.dup, 1) := by decide +kernel
theorem dX8_alarm_90 : decode cX8_alarm 90 = .ok (.aload_n 0, 1) := by decide +kernel
theorem dX8_alarm_91 : decode cX8_alarm 91 = .ok (.getfield 79, 3) := by decide +kernel
theorem dX8_alarm_94 : decode cX8_alarm 94 = .ok (.aload_n 0, 1) := by decide +kernel
theorem dX8_alarm_95 : decode cX8_alarm 95 = .ok (.getfield 61, 3) := by decide +kernel
theorem dX8_alarm_98 : decode cX8_alarm 98 = .ok (.iload_n 1, 1) := by decide +kernel
theorem dX8_alarm_99 : decode cX8_alarm 99 = .ok (.iload_n 2, 1) := by decide +kernel
theorem dX8_alarm_100 : decode cX8_alarm 100 = .ok (.iload_n 3, 1) := by decide +kernel
theorem dX8_alarm_101 : decode cX8_alarm 101 = .ok (.iload 4, 2) := by decide +kernel
theorem dX8_alarm_103 : decode cX8_alarm 103 = .ok (.aload_n 0, 1) := by decide +kernel
theorem dX8_alarm_104 : decode cX8_alarm 104 = .ok (.getfield 29, 3) := by decide +kernel
theorem dX8_alarm_107 : decode cX8_alarm 107 = .ok (.iload_n 3, 1) := by decide +kernel
theorem dX8_alarm_108 : decode cX8_alarm 108 = .ok (.invokevirtual 82, 3) := by decide +kernel
theorem dX8_alarm_111 : decode cX8_alarm 111 = .ok (.invokespecial 86, 3) := by decide +kernel
theorem dX8_alarm_114 : decode cX8_alarm 114 = .ok (.astore 6, 2) := by decide +kernel
theorem dX8_alarm_116 : decode cX8_alarm 116 = .ok (.aload 6, 2) := by decide +kernel
theorem dX8_alarm_118 : decode cX8_alarm 118 = .ok (.aload_n 0, 1) := by decide +kernel
theorem dX8_alarm_119 : decode cX8_alarm 119 = .ok (.iload_n 1, 1) := by decide +kernel
theorem dX8_alarm_120 : decode cX8_alarm 120 = .ok (.invokevirtual 89, 3) := by decide +kernel
theorem dX8_alarm_123 : decode cX8_alarm 123 = .ok (.putfield 93, 3) := by decide +kernel
theorem dX8_alarm_126 : decode cX8_alarm 126 = .ok (.aload 6, 2) := by decide +kernel
theorem dX8_alarm_128 : decode cX8_alarm 128 = .ok (.aload 6, 2) := by decide +kernel
theorem dX8_alarm_130 : decode cX8_alarm 130 = .ok (.getfield 93, 3) := by decide +kernel
theorem dX8_alarm_133 : decode cX8_alarm 133 = .ok (.ifCond .ne 15, 3) := by decide +kernel
theorem dX8_alarm_136 : decode cX8_alarm 136 = .ok (.aload_n 0, 1) := by decide +kernel
theorem dX8_alarm_137 : decode cX8_alarm 137 = .ok (.iload_n 1, 1) := by decide +kernel
theorem dX8_alarm_138 : decode cX8_alarm 138 = .ok (.invokevirtual 97, 3) := by decide +kernel
theorem dX8_alarm_141 : decode cX8_alarm 141 = .ok (.ifCond .eq 7, 3) := by decide +kernel
theorem dX8_alarm_144 : decode cX8_alarm 144 = .ok (.iconst 1, 1) := by decide +kernel
theorem dX8_alarm_145 : decode cX8_alarm 145 = .ok (.goto 4, 3) := by decide +kernel
theorem dX8_alarm_148 : decode cX8_alarm 148 = .ok (.iconst 0, 1) := by decide +kernel
theorem dX8_alarm_149 : decode cX8_alarm 149 = .ok (.putfield 100, 3) := by decide +kernel
theorem dX8_alarm_152 : decode cX8_alarm 152 = .ok (.aload 6, 2) := by decide +kernel
theorem dX8_alarm_154 : decode cX8_alarm 154 = .ok (.getfield 103, 3) := by decide +kernel
theorem dX8_alarm_157 : decode cX8_alarm 157 = .ok (.invokevirtual 106, 3) := by decide +kernel
theorem dX8_alarm_160 : decode cX8_alarm 160 = .ok (.aload 6, 2) := by decide +kernel
theorem dX8_alarm_162 : decode cX8_alarm 162 = .ok (.aload_n 0, 1) := by decide +kernel
theorem dX8_alarm_163 : decode cX8_alarm 163 = .ok (.getfield 15, 3) := by decide +kernel
theorem dX8_alarm_166 : decode cX8_alarm 166 = .ok (.iload_n 2, 1) := by decide +kernel
theorem dX8_alarm_167 : decode cX8_alarm 167 = .ok (.aaload, 1) := by decide +kernel
theorem dX8_alarm_168 : decode cX8_alarm 168 = .ok (.putfield 109, 3) := by decide +kernel
theorem dX8_alarm_171 : decode cX8_alarm 171 = .ok (.aload_n 0, 1) := by decide +kernel
theorem dX8_alarm_172 : decode cX8_alarm 172 = .ok (.getfield 15, 3) := by decide +kernel
theorem dX8_alarm_175 : decode cX8_alarm 175 = .ok (.iload_n 2, 1) := by decide +kernel
theorem dX8_alarm_176 : decode cX8_alarm 176 = .ok (.aload 6, 2) := by decide +kernel
theorem dX8_alarm_178 : decode cX8_alarm 178 = .ok (.aastore, 1) := by decide +kernel
theorem dX8_alarm_179 : decode cX8_alarm 179 = .ok (.aload_n 0, 1) := by decide +kernel
theorem dX8_alarm_180 : decode cX8_alarm 180 = .ok (.getfield 11, 3) := by decide +kernel
theorem dX8_alarm_183 : decode cX8_alarm 183 = .ok (.aload_n 0, 1) := by decide +kernel
theorem dX8_alarm_184 : decode cX8_alarm 184 = .ok (.getfield 79, 3) := by decide +kernel
theorem dX8_alarm_187 : decode cX8_alarm 187 = .ok (.aload 6, 2) := by decide +kernel
theorem dX8_alarm_189 : decode cX8_alarm 189 = .ok (.aastore, 1) := by decide +kernel
theorem dX8_alarm_190 : decode cX8_alarm 190 = .ok (.aload_n 0, 1) := by decide +kernel
theorem dX8_alarm_191 : decode cX8_alarm 191 = .ok (.dup, 1) := by decide +kernel
theorem dX8_alarm_192 : decode cX8_alarm 192 = .ok (.getfield 79, 3) := by decide +kernel
theorem dX8_alarm_195 : decode cX8_alarm 195 = .ok (.iconst 1, 1) := by decide +kernel
theorem dX8_alarm_196 : decode cX8_alarm 196 = .ok (.iadd, 1) := by decide +kernel
theorem dX8_alarm_197 : decode cX8_alarm 197 = .ok (.putfield 79, 3) := by decide +kernel
theorem dX8_alarm_200 : decode cX8_alarm 200 = .ok (.aload_n 0, 1) := by decide +kernel
theorem dX8_alarm_201 : decode cX8_alarm 201 = .ok (.iconst 1, 1) := by decide +kernel
theorem dX8_alarm_202 : decode cX8_alarm 202 = .ok (.putfield 113, 3) := by decide +kernel
theorem dX8_alarm_205 : decode cX8_alarm 205 = .ok (.aload 6, 2) := by decide +kernel
theorem dX8_alarm_207 : decode cX8_alarm 207 = .ok (.getfield 76, 3) := by decide +kernel
theorem dX8_alarm_210 : decode cX8_alarm 210 = .ok (.ireturn, 1) := by decide +kernel
theorem dX8_silence_0 : decode cX8_silence 0 = .ok (.iload_n 1, 1) := by decide +kernel
theorem dX8_silence_1 : decode cX8_silence 1 = .ok (.bipush 10, 2) := by decide +kernel
theorem dX8_silence_3 : decode cX8_silence 3 = .ok (.invokestatic 64, 3) := by decide +kernel
theorem dX8_silence_6 : decode cX8_silence 6 = .ok (.ifCond .eq 28, 3) := by decide +kernel
theorem dX8_silence_9 : decode cX8_silence 9 = .ok (.iload_n 2, 1) := by decide +kernel
theorem dX8_silence_10 : decode cX8_silence 10 = .ok (.ifCond .lt 24, 3) := by decide +kernel
theorem dX8_silence_13 : decode cX8_silence 13 = .ok (.iload_n 2, 1) := by decide +kernel
theorem dX8_silence_14 : decode cX8_silence 14 = .ok (.iload_n 3, 1) := by decide +kernel
theorem dX8_silence_15 : decode cX8_silence 15 = .ok (.if_icmp .gt 19, 3) := by decide +kernel
theorem dX8_silence_18 : decode cX8_silence 18 = .ok (.iload_n 3, 1) := by decide +kernel
theorem dX8_silence_19 : decode cX8_silence 19 = .ok (.sipush 10000, 3) := by decide +kernel
theorem dX8_silence_22 : decode cX8_silence 22 = .ok (.if_icmp .gt 12, 3) := by decide +kernel
theorem dX8_silence_25 : decode cX8_silence 25 = .ok (.aload_n 0, 1) := by decide +kernel
theorem dX8_silence_26 : decode cX8_silence 26 = .ok (.getfield 116, 3) := by decide +kernel
theorem dX8_silence_29 : decode cX8_silence 29 = .ok (.bipush 30, 2) := by decide +kernel
theorem dX8_silence_31 : decode cX8_silence 31 = .ok (.if_icmp .lt 5, 3) := by decide +kernel
theorem dX8_silence_34 : decode cX8_silence 34 = .ok (.iconst (-1), 1) := by decide +kernel
theorem dX8_silence_35 : decode cX8_silence 35 = .ok (.ireturn, 1) := by decide +kernel
theorem dX8_silence_36 : decode cX8_silence 36 = .ok (.aload_n 0, 1) := by decide +kernel
theorem dX8_silence_37 : decode cX8_silence 37 = .ok (.getfield 20, 3) := by decide +kernel
theorem dX8_silence_40 : decode cX8_silence 40 = .ok (.aload_n 0, 1) := by decide +kernel
theorem dX8_silence_41 : decode cX8_silence 41 = .ok (.getfield 116, 3) := by decide +kernel
theorem dX8_silence_44 : decode cX8_silence 44 = .ok (.new 18, 3) := by decide +kernel
theorem dX8_silence_47 : decode cX8_silence 47 = .ok (.dup, 1) := by decide +kernel
theorem dX8_silence_48 : decode cX8_silence 48 = .ok (.iload_n 1, 1) := by decide +kernel
theorem dX8_silence_49 : decode cX8_silence 49 = .ok (.iload_n 2, 1) := by decide +kernel
theorem dX8_silence_50 : decode cX8_silence 50 = .ok (.iload_n 3, 1) := by decide +kernel
theorem dX8_silence_51 : decode cX8_silence 51 = .ok (.invokespecial 119, 3) := by decide +kernel
theorem dX8_silence_54 : decode cX8_silence 54 = .ok (.aastore, 1) := by decide +kernel
theorem dX8_silence_55 : decode cX8_silence 55 = .ok (.aload_n 0, 1) := by decide +kernel
theorem dX8_silence_56 : decode cX8_silence 56 = .ok (.dup, 1) := by decide +kernel
theorem dX8_silence_57 : decode cX8_silence 57 = .ok (.getfield 116, 3) := by decide +kernel
theorem dX8_silence_60 : decode cX8_silence 60 = .ok (.iconst 1, 1) := by decide +kernel
theorem dX8_silence_61 : decode cX8_silence 61 = .ok (.iadd, 1) := by decide +kernel
theorem dX8_silence_62 : decode cX8_silence 62 = .ok (.putfield 116, 3) := by decide +kernel
theorem dX8_silence_65 : decode cX8_silence 65 = .ok (.aload_n 0, 1) := by decide +kernel
theorem dX8_silence_66 : decode cX8_silence 66 = .ok (.getfield 116, 3) := by decide +kernel
theorem dX8_silence_69 : decode cX8_silence 69 = .ok (.ireturn, 1) := by decide +kernel
theorem dX8_set_0 : decode cX8_set 0 = .ok (.iload_n 1, 1) := by decide +kernel
theorem dX8_set_1 : decode cX8_set 1 = .ok (.ifCond .ne 21, 3) := by decide +kernel
theorem dX8_set_4 : decode cX8_set 4 = .ok (.iload_n 2, 1) := by decide +kernel
theorem dX8_set_5 : decode cX8_set 5 = .ok (.iconst 1, 1) := by decide +kernel
theorem dX8_set_6 : decode cX8_set 6 = .ok (.if_icmp .lt 16, 3) := by decide +kernel
theorem dX8_set_9 : decode cX8_set 9 = .ok (.iload_n 2, 1) := by decide +kernel
theorem dX8_set_10 : decode cX8_set 10 = .ok (.bipush 50, 2) := by decide +kernel
theorem dX8_set_12 : decode cX8_set 12 = .ok (.if_icmp .gt 10, 3) := by decide +kernel
theorem dX8_set_15 : decode cX8_set 15 = .ok (.aload_n 0, 1) := by decide +kernel
theorem dX8_set_16 : decode cX8_set 16 = .ok (.iload_n 2, 1) := by decide +kernel
theorem dX8_set_17 : decode cX8_set 17 = .ok (.putfield 54, 3) := by decide +kernel
theorem dX8_set_20 : decode cX8_set 20 = .ok (.iconst 1, 1) := by decide +kernel
theorem dX8_set_21 : decode cX8_set 21 = .ok (.ireturn, 1) := by decide +kernel
theorem dX8_set_22 : decode cX8_set 22 = .ok (.iload_n 1, 1) := by decide +kernel
theorem dX8_set_23 : decode cX8_set 23 = .ok (.iconst 1, 1) := by decide +kernel
theorem dX8_set_24 : decode cX8_set 24 = .ok (.if_icmp .ne 26, 3) := by decide +kernel
theorem dX8_set_27 : decode cX8_set 27 = .ok (.iload_n 2, 1) := by decide +kernel
theorem dX8_set_28 : decode cX8_set 28 = .ok (.iconst 1, 1) := by decide +kernel
theorem dX8_set_29 : decode cX8_set 29 = .ok (.if_icmp .lt 21, 3) := by decide +kernel
theorem dX8_set_32 : decode cX8_set 32 = .ok (.iload_n 2, 1) := by decide +kernel
theorem dX8_set_33 : decode cX8_set 33 = .ok (.bipush 20, 2) := by decide +kernel
theorem dX8_set_35 : decode cX8_set 35 = .ok (.if_icmp .gt 15, 3) := by decide +kernel
theorem dX8_set_38 : decode cX8_set 38 = .ok (.aload_n 0, 1) := by decide +kernel
theorem dX8_set_39 : decode cX8_set 39 = .ok (.iload_n 2, 1) := by decide +kernel
theorem dX8_set_40 : decode cX8_set 40 = .ok (.putfield 58, 3) := by decide +kernel
theorem dX8_set_43 : decode cX8_set 43 = .ok (.aload_n 0, 1) := by decide +kernel
theorem dX8_set_44 : decode cX8_set 44 = .ok (.iconst 1, 1) := by decide +kernel
theorem dX8_set_45 : decode cX8_set 45 = .ok (.putfield 113, 3) := by decide +kernel
theorem dX8_set_48 : decode cX8_set 48 = .ok (.iconst 1, 1) := by decide +kernel
theorem dX8_set_49 : decode cX8_set 49 = .ok (.ireturn, 1) := by decide +kernel
theorem dX8_set_50 : decode cX8_set 50 = .ok (.iload_n 1, 1) := by decide +kernel
theorem dX8_set_51 : decode cX8_set 51 = .ok (.iconst 2, 1) := by decide +kernel
theorem dX8_set_52 : decode cX8_set 52 = .ok (.if_icmp .ne 19, 3) := by decide +kernel
theorem dX8_set_55 : decode cX8_set 55 = .ok (.iload_n 2, 1) := by decide +kernel
theorem dX8_set_56 : decode cX8_set 56 = .ok (.ifCond .lt 15, 3) := by decide +kernel
theorem dX8_set_59 : decode cX8_set 59 = .ok (.iload_n 2, 1) := by decide +kernel
theorem dX8_set_60 : decode cX8_set 60 = .ok (.iconst 5, 1) := by decide +kernel
theorem dX8_set_61 : decode cX8_set 61 = .ok (.if_icmp .gt 10, 3) := by decide +kernel
theorem dX8_set_64 : decode cX8_set 64 = .ok (.aload_n 0, 1) := by decide +kernel
theorem dX8_set_65 : decode cX8_set 65 = .ok (.iload_n 2, 1) := by decide +kernel
theorem dX8_set_66 : decode cX8_set 66 = .ok (.putfield 122, 3) := by decide +kernel
theorem dX8_set_69 : decode cX8_set 69 = .ok (.iconst 1, 1) := by decide +kernel
theorem dX8_set_70 : decode cX8_set 70 = .ok (.ireturn, 1) := by decide +kernel
theorem dX8_set_71 : decode cX8_set 71 = .ok (.iconst 0, 1) := by decide +kernel
theorem dX8_set_72 : decode cX8_set 72 = .ok (.ireturn, 1) := by decide +kernel
theorem dX8_verdict_0 : decode cX8_verdict 0 = .ok (.aload_n 0, 1) := by decide +kernel
theorem dX8_verdict_1 : decode cX8_verdict 1 = .ok (.iload_n 1, 1) := by decide +kernel
theorem dX8_verdict_2 : decode cX8_verdict 2 = .ok (.invokevirtual 125, 3) := by decide +kernel
theorem dX8_verdict_5 : decode cX8_verdict 5 = .ok (.astore 4, 2) := by decide +kernel
theorem dX8_verdict_7 : decode cX8_verdict 7 = .ok (.aload 4, 2) := by decide +kernel
theorem dX8_verdict_9 : decode cX8_verdict 9 = .ok (.ifnull 29, 3) := by decide +kernel
theorem dX8_verdict_12 : decode cX8_verdict 12 = .ok (.iload_n 2, 1) := by decide +kernel
theorem dX8_verdict_13 : decode cX8_verdict 13 = .ok (.bipush 10, 2) := by decide +kernel
theorem dX8_verdict_15 : decode cX8_verdict 15 = .ok (.invokestatic 64, 3) := by decide +kernel
theorem dX8_verdict_18 : decode cX8_verdict 18 = .ok (.ifCond .eq 20, 3) := by decide +kernel
theorem dX8_verdict_21 : decode cX8_verdict 21 = .ok (.aload 4, 2) := by decide +kernel
theorem dX8_verdict_23 : decode cX8_verdict 23 = .ok (.invokevirtual 129, 3) := by decide +kernel
theorem dX8_verdict_26 : decode cX8_verdict 26 = .ok (.ifCond .eq 12, 3) := by decide +kernel
theorem dX8_verdict_29 : decode cX8_verdict 29 = .ok (.aload 4, 2) := by decide +kernel
theorem dX8_verdict_31 : decode cX8_verdict 31 = .ok (.iload_n 2, 1) := by decide +kernel
theorem dX8_verdict_32 : decode cX8_verdict 32 = .ok (.invokevirtual 133, 3) := by decide +kernel
theorem dX8_verdict_35 : decode cX8_verdict 35 = .ok (.ifCond .eq 5, 3) := by decide +kernel
theorem dX8_verdict_38 : decode cX8_verdict 38 = .ok (.iconst (-1), 1) := by decide +kernel
theorem dX8_verdict_39 : decode cX8_verdict 39 = .ok (.ireturn, 1) := by decide +kernel
theorem dX8_verdict_40 : decode cX8_verdict 40 = .ok (.aload 4, 2) := by decide +kernel
theorem dX8_verdict_42 : decode cX8_verdict 42 = .ok (.iload_n 2, 1) := by decide +kernel
theorem dX8_verdict_43 : decode cX8_verdict 43 = .ok (.iload_n 3, 1) := by decide +kernel
theorem dX8_verdict_44 : decode cX8_verdict 44 = .ok (.invokevirtual 136, 3) := by decide +kernel
theorem dX8_verdict_47 : decode cX8_verdict 47 = .ok (.aload 4, 2) := by decide +kernel
theorem dX8_verdict_49 : decode cX8_verdict 49 = .ok (.invokevirtual 129, 3) := by decide +kernel
theorem dX8_verdict_52 : decode cX8_verdict 52 = .ok (.ifCond .eq 5, 3) := by decide +kernel
theorem dX8_verdict_55 : decode cX8_verdict 55 = .ok (.iconst 0, 1) := by decide +kernel
theorem dX8_verdict_56 : decode cX8_verdict 56 = .ok (.ireturn, 1) := by decide +kernel
theorem dX8_verdict_57 : decode cX8_verdict 57 = .ok (.aload 4, 2) := by decide +kernel
theorem dX8_verdict_59 : decode cX8_verdict 59 = .ok (.getfield 103, 3) := by decide +kernel
theorem dX8_verdict_62 : decode cX8_verdict 62 = .ok (.iload_n 3, 1) := by decide +kernel
theorem dX8_verdict_63 : decode cX8_verdict 63 = .ok (.invokevirtual 140, 3) := by decide +kernel
theorem dX8_verdict_66 : decode cX8_verdict 66 = .ok (.aload_n 0, 1) := by decide +kernel
theorem dX8_verdict_67 : decode cX8_verdict 67 = .ok (.iconst 1, 1) := by decide +kernel
theorem dX8_verdict_68 : decode cX8_verdict 68 = .ok (.putfield 113, 3) := by decide +kernel
theorem dX8_verdict_71 : decode cX8_verdict 71 = .ok (.iconst 1, 1) := by decide +kernel
theorem dX8_verdict_72 : decode cX8_verdict 72 = .ok (.ireturn, 1) := by decide +kernel
theorem dX8_tie_0 : decode cX8_tie 0 = .ok (.iload_n 1, 1) := by decide +kernel
theorem dX8_tie_1 : decode cX8_tie 1 = .ok (.iload_n 2, 1) := by decide +kernel
theorem dX8_tie_2 : decode cX8_tie 2 = .ok (.if_icmp .eq 25, 3) := by decide +kernel
theorem dX8_tie_5 : decode cX8_tie 5 = .ok (.iload_n 1, 1) := by decide +kernel
theorem dX8_tie_6 : decode cX8_tie 6 = .ok (.aload_n 0, 1) := by decide +kernel
theorem dX8_tie_7 : decode cX8_tie 7 = .ok (.getfield 79, 3) := by decide +kernel
theorem dX8_tie_10 : decode cX8_tie 10 = .ok (.invokestatic 64, 3) := by decide +kernel
theorem dX8_tie_13 : decode cX8_tie 13 = .ok (.ifCond .eq 14, 3) := by decide +kernel
theorem dX8_tie_16 : decode cX8_tie 16 = .ok (.iload_n 2, 1) := by decide +kernel
theorem dX8_tie_17 : decode cX8_tie 17 = .ok (.aload_n 0, 1) := by decide +kernel
theorem dX8_tie_18 : decode cX8_tie 18 = .ok (.getfield 79, 3) := by decide +kernel
theorem dX8_tie_21 : decode cX8_tie 21 = .ok (.invokestatic 64, 3) := by decide +kernel
theorem dX8_tie_24 : decode cX8_tie 24 = .ok (.ifCond .ne 5, 3) := by decide +kernel
theorem dX8_tie_27 : decode cX8_tie 27 = .ok (.iconst 0, 1) := by decide +kernel
theorem dX8_tie_28 : decode cX8_tie 28 = .ok (.ireturn, 1) := by decide +kernel
theorem dX8_tie_29 : decode cX8_tie 29 = .ok (.aload_n 0, 1) := by decide +kernel
theorem dX8_tie_30 : decode cX8_tie 30 = .ok (.getfield 36, 3) := by decide +kernel
theorem dX8_tie_33 : decode cX8_tie 33 = .ok (.iload_n 1, 1) := by decide +kernel
theorem dX8_tie_34 : decode cX8_tie 34 = .ok (.iload_n 2, 1) := by decide +kernel
theorem dX8_tie_35 : decode cX8_tie 35 = .ok (.iload_n 3, 1) := by decide +kernel
theorem dX8_tie_36 : decode cX8_tie 36 = .ok (.invokevirtual 144, 3) := by decide +kernel
theorem dX8_tie_39 : decode cX8_tie 39 = .ok (.ifCond .ne 5, 3) := by decide +kernel
theorem dX8_tie_42 : decode cX8_tie 42 = .ok (.iconst 0, 1) := by decide +kernel
theorem dX8_tie_43 : decode cX8_tie 43 = .ok (.ireturn, 1) := by decide +kernel
theorem dX8_tie_44 : decode cX8_tie 44 = .ok (.aload_n 0, 1) := by decide +kernel
theorem dX8_tie_45 : decode cX8_tie 45 = .ok (.iconst 1, 1) := by decide +kernel
theorem dX8_tie_46 : decode cX8_tie 46 = .ok (.putfield 113, 3) := by decide +kernel
theorem dX8_tie_49 : decode cX8_tie 49 = .ok (.iconst 1, 1) := by decide +kernel
theorem dX8_tie_50 : decode cX8_tie 50 = .ok (.ireturn, 1) := by decide +kernel
theorem dX8_told_0 : decode cX8_told 0 = .ok (.aload_n 0, 1) := by decide +kernel
theorem dX8_told_1 : decode cX8_told 1 = .ok (.iload_n 1, 1) := by decide +kernel
theorem dX8_told_2 : decode cX8_told 2 = .ok (.invokevirtual 125, 3) := by decide +kernel
theorem dX8_told_5 : decode cX8_told 5 = .ok (.astore_n 3, 1) := by decide +kernel
theorem dX8_told_6 : decode cX8_told 6 = .ok (.aload_n 3, 1) := by decide +kernel
theorem dX8_told_7 : decode cX8_told 7 = .ok (.ifnonnull 5, 3) := by decide +kernel
theorem dX8_told_10 : decode cX8_told 10 = .ok (.iconst (-1), 1) := by decide +kernel
theorem dX8_told_11 : decode cX8_told 11 = .ok (.ireturn, 1) := by decide +kernel
theorem dX8_told_12 : decode cX8_told 12 = .ok (.iload_n 2, 1) := by decide +kernel
theorem dX8_told_13 : decode cX8_told 13 = .ok (.tableswitch 150 0 12 #[67, 72, 77, 82, 87, 92, 97, 102, 110, 118, 127, 139, 144], 67) := by decide +kernel
theorem dX8_told_80 : decode cX8_told 80 = .ok (.aload_n 3, 1) := by decide +kernel
theorem dX8_told_81 : decode cX8_told 81 = .ok (.getfield 148, 3) := by decide +kernel
theorem dX8_told_84 : decode cX8_told 84 = .ok (.ireturn, 1) := by decide +kernel
theorem dX8_told_85 : decode cX8_told 85 = .ok (.aload_n 3, 1) := by decide +kernel
theorem dX8_told_86 : decode cX8_told 86 = .ok (.getfield 151, 3) := by decide +kernel
theorem dX8_told_89 : decode cX8_told 89 = .ok (.ireturn, 1) := by decide +kernel
theorem dX8_told_90 : decode cX8_told 90 = .ok (.aload_n 3, 1) := by decide +kernel
theorem dX8_told_91 : decode cX8_told 91 = .ok (.getfield 154, 3) := by decide +kernel
theorem dX8_told_94 : decode cX8_told 94 = .ok (.ireturn, 1) := by decide +kernel
theorem dX8_told_95 : decode cX8_told 95 = .ok (.aload_n 3, 1) := by decide +kernel
theorem dX8_told_96 : decode cX8_told 96 = .ok (.getfield 157, 3) := by decide +kernel
theorem dX8_told_99 : decode cX8_told 99 = .ok (.ireturn, 1) := by decide +kernel
theorem dX8_told_100 : decode cX8_told 100 = .ok (.aload_n 3, 1) := by decide +kernel
theorem dX8_told_101 : decode cX8_told 101 = .ok (.getfield 160, 3) := by decide +kernel
theorem dX8_told_104 : decode cX8_told 104 = .ok (.ireturn, 1) := by decide +kernel
theorem dX8_told_105 : decode cX8_told 105 = .ok (.aload_n 3, 1) := by decide +kernel
theorem dX8_told_106 : decode cX8_told 106 = .ok (.getfield 163, 3) := by decide +kernel
theorem dX8_told_109 : decode cX8_told 109 = .ok (.ireturn, 1) := by decide +kernel
theorem dX8_told_110 : decode cX8_told 110 = .ok (.aload_n 3, 1) := by decide +kernel
theorem dX8_told_111 : decode cX8_told 111 = .ok (.getfield 166, 3) := by decide +kernel
theorem dX8_told_114 : decode cX8_told 114 = .ok (.ireturn, 1) := by decide +kernel
theorem dX8_told_115 : decode cX8_told 115 = .ok (.aload_n 3, 1) := by decide +kernel
theorem dX8_told_116 : decode cX8_told 116 = .ok (.getfield 93, 3) := by decide +kernel
theorem dX8_told_119 : decode cX8_told 119 = .ok (.invokestatic 169, 3) := by decide +kernel
theorem dX8_told_122 : decode cX8_told 122 = .ok (.ireturn, 1) := by decide +kernel
theorem dX8_told_123 : decode cX8_told 123 = .ok (.aload_n 3, 1) := by decide +kernel
theorem dX8_told_124 : decode cX8_told 124 = .ok (.getfield 100, 3) := by decide +kernel
theorem dX8_told_127 : decode cX8_told 127 = .ok (.invokestatic 169, 3) := by decide +kernel
theorem dX8_told_130 : decode cX8_told 130 = .ok (.ireturn, 1) := by decide +kernel
theorem dX8_told_131 : decode cX8_told 131 = .ok (.aload_n 3, 1) := by decide +kernel
theorem dX8_told_132 : decode cX8_told 132 = .ok (.aload_n 0, 1) := by decide +kernel
theorem dX8_told_133 : decode cX8_told 133 = .ok (.getfield 58, 3) := by decide +kernel
theorem dX8_told_136 : decode cX8_told 136 = .ok (.invokevirtual 173, 3) := by decide +kernel
theorem dX8_told_139 : decode cX8_told 139 = .ok (.ireturn, 1) := by decide +kernel
theorem dX8_told_140 : decode cX8_told 140 = .ok (.aload_n 3, 1) := by decide +kernel
theorem dX8_told_141 : decode cX8_told 141 = .ok (.aload_n 0, 1) := by decide +kernel
theorem dX8_told_142 : decode cX8_told 142 = .ok (.getfield 58, 3) := by decide +kernel
theorem dX8_told_145 : decode cX8_told 145 = .ok (.invokevirtual 177, 3) := by decide +kernel
theorem dX8_told_148 : decode cX8_told 148 = .ok (.getfield 180, 3) := by decide +kernel
theorem dX8_told_151 : decode cX8_told 151 = .ok (.ireturn, 1) := by decide +kernel
theorem dX8_told_152 : decode cX8_told 152 = .ok (.aload_n 3, 1) := by decide +kernel
theorem dX8_told_153 : decode cX8_told 153 = .ok (.invokevirtual 183, 3) := by decide +kernel
theorem dX8_told_156 : decode cX8_told 156 = .ok (.ireturn, 1) := by decide +kernel
theorem dX8_told_157 : decode cX8_told 157 = .ok (.aload_n 0, 1) := by decide +kernel
theorem dX8_told_158 : decode cX8_told 158 = .ok (.aload_n 3, 1) := by decide +kernel
theorem dX8_told_159 : decode cX8_told 159 = .ok (.invokevirtual 187, 3) := by decide +kernel
theorem dX8_told_162 : decode cX8_told 162 = .ok (.ireturn, 1) := by decide +kernel
theorem dX8_told_163 : decode cX8_told 163 = .ok (.iconst (-1), 1) := by decide +kernel
theorem dX8_told_164 : decode cX8_told 164 = .ok (.ireturn, 1) := by decide +kernel
theorem dX8_node_0 : decode cX8_node 0 = .ok (.iload_n 1, 1) := by decide +kernel
theorem dX8_node_1 : decode cX8_node 1 = .ok (.ifCond .lt 27, 3) := by decide +kernel
theorem dX8_node_4 : decode cX8_node 4 = .ok (.iload_n 1, 1) := by decide +kernel
theorem dX8_node_5 : decode cX8_node 5 = .ok (.iconst 4, 1) := by decide +kernel
theorem dX8_node_6 : decode cX8_node 6 = .ok (.if_icmp .gt 22, 3) := by decide +kernel
theorem dX8_node_9 : decode cX8_node 9 = .ok (.iload_n 2, 1) := by decide +kernel
theorem dX8_node_10 : decode cX8_node 10 = .ok (.sipush 4096, 3) := by decide +kernel
theorem dX8_node_13 : decode cX8_node 13 = .ok (.invokestatic 64, 3) := by decide +kernel
theorem dX8_node_16 : decode cX8_node 16 = .ok (.ifCond .eq 12, 3) := by decide +kernel
theorem dX8_node_19 : decode cX8_node 19 = .ok (.iload_n 3, 1) := by decide +kernel
theorem dX8_node_20 : decode cX8_node 20 = .ok (.ifCond .lt 8, 3) := by decide +kernel
theorem dX8_node_23 : decode cX8_node 23 = .ok (.iload_n 3, 1) := by decide +kernel
theorem dX8_node_24 : decode cX8_node 24 = .ok (.iconst 2, 1) := by decide +kernel
theorem dX8_node_25 : decode cX8_node 25 = .ok (.if_icmp .le 5, 3) := by decide +kernel
theorem dX8_node_28 : decode cX8_node 28 = .ok (.iconst (-1), 1) := by decide +kernel
theorem dX8_node_29 : decode cX8_node 29 = .ok (.ireturn, 1) := by decide +kernel
theorem dX8_node_30 : decode cX8_node 30 = .ok (.aload_n 0, 1) := by decide +kernel
theorem dX8_node_31 : decode cX8_node 31 = .ok (.getfield 29, 3) := by decide +kernel
theorem dX8_node_34 : decode cX8_node 34 = .ok (.iload_n 1, 1) := by decide +kernel
theorem dX8_node_35 : decode cX8_node 35 = .ok (.iload_n 2, 1) := by decide +kernel
theorem dX8_node_36 : decode cX8_node 36 = .ok (.invokevirtual 191, 3) := by decide +kernel
theorem dX8_node_39 : decode cX8_node 39 = .ok (.astore 4, 2) := by decide +kernel
theorem dX8_node_41 : decode cX8_node 41 = .ok (.aload 4, 2) := by decide +kernel
theorem dX8_node_43 : decode cX8_node 43 = .ok (.ifnonnull 5, 3) := by decide +kernel
theorem dX8_node_46 : decode cX8_node 46 = .ok (.iconst 0, 1) := by decide +kernel
theorem dX8_node_47 : decode cX8_node 47 = .ok (.ireturn, 1) := by decide +kernel
theorem dX8_node_48 : decode cX8_node 48 = .ok (.iload_n 3, 1) := by decide +kernel
theorem dX8_node_49 : decode cX8_node 49 = .ok (.lookupswitch 39 #[(0, 27), (1, 33)], 27) := by decide +kernel
theorem dX8_node_76 : decode cX8_node 76 = .ok (.aload 4, 2) := by decide +kernel
theorem dX8_node_78 : decode cX8_node 78 = .ok (.getfield 195, 3) := by decide +kernel
theorem dX8_node_81 : decode cX8_node 81 = .ok (.ireturn, 1) := by decide +kernel
theorem dX8_node_82 : decode cX8_node 82 = .ok (.aload 4, 2) := by decide +kernel
theorem dX8_node_84 : decode cX8_node 84 = .ok (.getfield 198, 3) := by decide +kernel
theorem dX8_node_87 : decode cX8_node 87 = .ok (.ireturn, 1) := by decide +kernel
theorem dX8_node_88 : decode cX8_node 88 = .ok (.aload 4, 2) := by decide +kernel
theorem dX8_node_90 : decode cX8_node 90 = .ok (.getfield 201, 3) := by decide +kernel
theorem dX8_node_93 : decode cX8_node 93 = .ok (.ireturn, 1) := by decide +kernel
theorem dX8_odds_0 : decode cX8_odds 0 = .ok (.aload_n 0, 1) := by decide +kernel
theorem dX8_odds_1 : decode cX8_odds 1 = .ok (.iload_n 1, 1) := by decide +kernel
theorem dX8_odds_2 : decode cX8_odds 2 = .ok (.invokevirtual 125, 3) := by decide +kernel
theorem dX8_odds_5 : decode cX8_odds 5 = .ok (.astore_n 3, 1) := by decide +kernel
theorem dX8_odds_6 : decode cX8_odds 6 = .ok (.aload_n 3, 1) := by decide +kernel
theorem dX8_odds_7 : decode cX8_odds 7 = .ok (.ifnull 12, 3) := by decide +kernel
theorem dX8_odds_10 : decode cX8_odds 10 = .ok (.iload_n 2, 1) := by decide +kernel
theorem dX8_odds_11 : decode cX8_odds 11 = .ok (.ifCond .lt 8, 3) := by decide +kernel
theorem dX8_odds_14 : decode cX8_odds 14 = .ok (.iload_n 2, 1) := by decide +kernel
theorem dX8_odds_15 : decode cX8_odds 15 = .ok (.iconst 5, 1) := by decide +kernel
theorem dX8_odds_16 : decode cX8_odds 16 = .ok (.if_icmp .le 5, 3) := by decide +kernel
theorem dX8_odds_19 : decode cX8_odds 19 = .ok (.iconst (-1), 1) := by decide +kernel
theorem dX8_odds_20 : decode cX8_odds 20 = .ok (.ireturn, 1) := by decide +kernel
theorem dX8_odds_21 : decode cX8_odds 21 = .ok (.aload_n 3, 1) := by decide +kernel
theorem dX8_odds_22 : decode cX8_odds 22 = .ok (.aload_n 0, 1) := by decide +kernel
theorem dX8_odds_23 : decode cX8_odds 23 = .ok (.getfield 58, 3) := by decide +kernel
theorem dX8_odds_26 : decode cX8_odds 26 = .ok (.invokevirtual 177, 3) := by decide +kernel
theorem dX8_odds_29 : decode cX8_odds 29 = .ok (.astore 4, 2) := by decide +kernel
theorem dX8_odds_31 : decode cX8_odds 31 = .ok (.iload_n 2, 1) := by decide +kernel
theorem dX8_odds_32 : decode cX8_odds 32 = .ok (.iconst 2, 1) := by decide +kernel
theorem dX8_odds_33 : decode cX8_odds 33 = .ok (.irem, 1) := by decide +kernel
theorem dX8_odds_34 : decode cX8_odds 34 = .ok (.ifCond .ne 7, 3) := by decide +kernel
theorem dX8_odds_37 : decode cX8_odds 37 = .ok (.iconst 1, 1) := by decide +kernel
theorem dX8_odds_38 : decode cX8_odds 38 = .ok (.goto 4, 3) := by decide +kernel
theorem dX8_odds_41 : decode cX8_odds 41 = .ok (.iconst 0, 1) := by decide +kernel
theorem dX8_odds_42 : decode cX8_odds 42 = .ok (.istore 5, 2) := by decide +kernel
theorem dX8_odds_44 : decode cX8_odds 44 = .ok (.iload_n 2, 1) := by decide +kernel
theorem dX8_odds_45 : decode cX8_odds 45 = .ok (.iconst 1, 1) := by decide +kernel
theorem dX8_odds_46 : decode cX8_odds 46 = .ok (.if_icmp .gt 19, 3) := by decide +kernel
theorem dX8_odds_49 : decode cX8_odds 49 = .ok (.aload 4, 2) := by decide +kernel
theorem dX8_odds_51 : decode cX8_odds 51 = .ok (.invokevirtual 204, 3) := by decide +kernel
theorem dX8_odds_54 : decode cX8_odds 54 = .ok (.aload 4, 2) := by decide +kernel
theorem dX8_odds_56 : decode cX8_odds 56 = .ok (.invokevirtual 207, 3) := by decide +kernel
theorem dX8_odds_59 : decode cX8_odds 59 = .ok (.iload 5, 2) := by decide +kernel
theorem dX8_odds_61 : decode cX8_odds 61 = .ok (.invokestatic 210, 3) := by decide +kernel
theorem dX8_odds_64 : decode cX8_odds 64 = .ok (.ireturn, 1) := by decide +kernel
theorem dX8_odds_65 : decode cX8_odds 65 = .ok (.iload_n 2, 1) := by decide +kernel
theorem dX8_odds_66 : decode cX8_odds 66 = .ok (.iconst 3, 1) := by decide +kernel
theorem dX8_odds_67 : decode cX8_odds 67 = .ok (.if_icmp .gt 11, 3) := by decide +kernel
theorem dX8_odds_70 : decode cX8_odds 70 = .ok (.aload 4, 2) := by decide +kernel
theorem dX8_odds_72 : decode cX8_odds 72 = .ok (.getfield 195, 3) := by decide +kernel
theorem dX8_odds_75 : decode cX8_odds 75 = .ok (.goto 14, 3) := by decide +kernel
theorem dX8_odds_78 : decode cX8_odds 78 = .ok (.aload 4, 2) := by decide +kernel
theorem dX8_odds_80 : decode cX8_odds 80 = .ok (.getfield 195, 3) := by decide +kernel
theorem dX8_odds_83 : decode cX8_odds 83 = .ok (.aload 4, 2) := by decide +kernel
theorem dX8_odds_85 : decode cX8_odds 85 = .ok (.getfield 201, 3) := by decide +kernel
theorem dX8_odds_88 : decode cX8_odds 88 = .ok (.iadd, 1) := by decide +kernel
theorem dX8_odds_89 : decode cX8_odds 89 = .ok (.istore 6, 2) := by decide +kernel
theorem dX8_odds_91 : decode cX8_odds 91 = .ok (.iload 6, 2) := by decide +kernel
theorem dX8_odds_93 : decode cX8_odds 93 = .ok (.aload 4, 2) := by decide +kernel
theorem dX8_odds_95 : decode cX8_odds 95 = .ok (.getfield 198, 3) := by decide +kernel
theorem dX8_odds_98 : decode cX8_odds 98 = .ok (.aload 4, 2) := by decide +kernel
theorem dX8_odds_100 : decode cX8_odds 100 = .ok (.getfield 201, 3) := by decide +kernel
theorem dX8_odds_103 : decode cX8_odds 103 = .ok (.iadd, 1) := by decide +kernel
theorem dX8_odds_104 : decode cX8_odds 104 = .ok (.iload 5, 2) := by decide +kernel
theorem dX8_odds_106 : decode cX8_odds 106 = .ok (.invokestatic 210, 3) := by decide +kernel
theorem dX8_odds_109 : decode cX8_odds 109 = .ok (.ireturn, 1) := by decide +kernel
theorem dX8_order_0 : decode cX8_order 0 = .ok (.aload_n 0, 1) := by decide +kernel
theorem dX8_order_1 : decode cX8_order 1 = .ok (.invokevirtual 214, 3) := by decide +kernel
theorem dX8_order_4 : decode cX8_order 4 = .ok (.iload_n 1, 1) := by decide +kernel
theorem dX8_order_5 : decode cX8_order 5 = .ok (.invokevirtual 218, 3) := by decide +kernel
theorem dX8_order_8 : decode cX8_order 8 = .ok (.astore_n 2, 1) := by decide +kernel
theorem dX8_order_9 : decode cX8_order 9 = .ok (.aload_n 2, 1) := by decide +kernel
theorem dX8_order_10 : decode cX8_order 10 = .ok (.ifnonnull 7, 3) := by decide +kernel
theorem dX8_order_13 : decode cX8_order 13 = .ok (.iconst (-1), 1) := by decide +kernel
theorem dX8_order_14 : decode cX8_order 14 = .ok (.goto 7, 3) := by decide +kernel
theorem dX8_order_17 : decode cX8_order 17 = .ok (.aload_n 2, 1) := by decide +kernel
theorem dX8_order_18 : decode cX8_order 18 = .ok (.getfield 222, 3) := by decide +kernel
theorem dX8_order_21 : decode cX8_order 21 = .ok (.ireturn, 1) := by decide +kernel
theorem dX8_caseOf_0 : decode cX8_caseOf 0 = .ok (.aload_n 0, 1) := by decide +kernel
theorem dX8_caseOf_1 : decode cX8_caseOf 1 = .ok (.invokevirtual 214, 3) := by decide +kernel
theorem dX8_caseOf_4 : decode cX8_caseOf 4 = .ok (.pop, 1) := by decide +kernel
theorem dX8_caseOf_5 : decode cX8_caseOf 5 = .ok (.aload_n 0, 1) := by decide +kernel
theorem dX8_caseOf_6 : decode cX8_caseOf 6 = .ok (.iload_n 1, 1) := by decide +kernel
theorem dX8_caseOf_7 : decode cX8_caseOf 7 = .ok (.invokevirtual 125, 3) := by decide +kernel
theorem dX8_caseOf_10 : decode cX8_caseOf 10 = .ok (.astore_n 3, 1) := by decide +kernel
theorem dX8_caseOf_11 : decode cX8_caseOf 11 = .ok (.aload_n 3, 1) := by decide +kernel
theorem dX8_caseOf_12 : decode cX8_caseOf 12 = .ok (.ifnull 17, 3) := by decide +kernel
theorem dX8_caseOf_15 : decode cX8_caseOf 15 = .ok (.aload_n 3, 1) := by decide +kernel
theorem dX8_caseOf_16 : decode cX8_caseOf 16 = .ok (.invokevirtual 225, 3) := by decide +kernel
theorem dX8_caseOf_19 : decode cX8_caseOf 19 = .ok (.ifCond .eq 10, 3) := by decide +kernel
theorem dX8_caseOf_22 : decode cX8_caseOf 22 = .ok (.aload_n 3, 1) := by decide +kernel
theorem dX8_caseOf_23 : decode cX8_caseOf 23 = .ok (.getfield 228, 3) := by decide +kernel
theorem dX8_caseOf_26 : decode cX8_caseOf 26 = .ok (.ifnull 5, 3) := by decide +kernel
theorem dX8_caseOf_29 : decode cX8_caseOf 29 = .ok (.iconst (-1), 1) := by decide +kernel
theorem dX8_caseOf_30 : decode cX8_caseOf 30 = .ok (.ireturn, 1) := by decide +kernel
theorem dX8_caseOf_31 : decode cX8_caseOf 31 = .ok (.iload_n 2, 1) := by decide +kernel
theorem dX8_caseOf_32 : decode cX8_caseOf 32 = .ok (.tableswitch 67 0 3 #[32, 40, 48, 56], 32) := by decide +kernel
theorem dX8_caseOf_64 : decode cX8_caseOf 64 = .ok (.aload_n 3, 1) := by decide +kernel
theorem dX8_caseOf_65 : decode cX8_caseOf 65 = .ok (.getfield 231, 3) := by decide +kernel
theorem dX8_caseOf_68 : decode cX8_caseOf 68 = .ok (.getfield 235, 3) := by decide +kernel
theorem dX8_caseOf_71 : decode cX8_caseOf 71 = .ok (.ireturn, 1) := by decide +kernel
theorem dX8_caseOf_72 : decode cX8_caseOf 72 = .ok (.aload_n 3, 1) := by decide +kernel
theorem dX8_caseOf_73 : decode cX8_caseOf 73 = .ok (.getfield 231, 3) := by decide +kernel
theorem dX8_caseOf_76 : decode cX8_caseOf 76 = .ok (.getfield 238, 3) := by decide +kernel
theorem dX8_caseOf_79 : decode cX8_caseOf 79 = .ok (.ireturn, 1) := by decide +kernel
theorem dX8_caseOf_80 : decode cX8_caseOf 80 = .ok (.aload_n 3, 1) := by decide +kernel
theorem dX8_caseOf_81 : decode cX8_caseOf 81 = .ok (.getfield 231, 3) := by decide +kernel
theorem dX8_caseOf_84 : decode cX8_caseOf 84 = .ok (.invokevirtual 240, 3) := by decide +kernel
theorem dX8_caseOf_87 : decode cX8_caseOf 87 = .ok (.ireturn, 1) := by decide +kernel
theorem dX8_caseOf_88 : decode cX8_caseOf 88 = .ok (.aload_n 3, 1) := by decide +kernel
theorem dX8_caseOf_89 : decode cX8_caseOf 89 = .ok (.getfield 231, 3) := by decide +kernel
theorem dX8_caseOf_92 : decode cX8_caseOf 92 = .ok (.getfield 243, 3) := by decide +kernel
theorem dX8_caseOf_95 : decode cX8_caseOf 95 = .ok (.invokestatic 169, 3) := by decide +kernel
theorem dX8_caseOf_98 : decode cX8_caseOf 98 = .ok (.ireturn, 1) := by decide +kernel
theorem dX8_caseOf_99 : decode cX8_caseOf 99 = .ok (.iload_n 2, 1) := by decide +kernel
theorem dX8_caseOf_100 : decode cX8_caseOf 100 = .ok (.bipush 10, 2) := by decide +kernel
theorem dX8_caseOf_102 : decode cX8_caseOf 102 = .ok (.if_icmp .ge 7, 3) := by decide +kernel
theorem dX8_caseOf_105 : decode cX8_caseOf 105 = .ok (.iconst (-1), 1) := by decide +kernel
theorem dX8_caseOf_106 : decode cX8_caseOf 106 = .ok (.goto 12, 3) := by decide +kernel
theorem dX8_caseOf_109 : decode cX8_caseOf 109 = .ok (.aload_n 0, 1) := by decide +kernel
theorem dX8_caseOf_110 : decode cX8_caseOf 110 = .ok (.aload_n 3, 1) := by decide +kernel
theorem dX8_caseOf_111 : decode cX8_caseOf 111 = .ok (.iload_n 2, 1) := by decide +kernel
theorem dX8_caseOf_112 : decode cX8_caseOf 112 = .ok (.bipush 10, 2) := by decide +kernel
theorem dX8_caseOf_114 : decode cX8_caseOf 114 = .ok (.isub, 1) := by decide +kernel
theorem dX8_caseOf_115 : decode cX8_caseOf 115 = .ok (.invokevirtual 246, 3) := by decide +kernel
theorem dX8_caseOf_118 : decode cX8_caseOf 118 = .ok (.ireturn, 1) := by decide +kernel
theorem dX8_slow_0 : decode cX8_slow 0 = .ok (.iload_n 1, 1) := by decide +kernel
theorem dX8_slow_1 : decode cX8_slow 1 = .ok (.bipush 40, 2) := by decide +kernel
theorem dX8_slow_3 : decode cX8_slow 3 = .ok (.invokestatic 64, 3) := by decide +kernel
theorem dX8_slow_6 : decode cX8_slow 6 = .ok (.ifCond .ne 5, 3) := by decide +kernel
theorem dX8_slow_9 : decode cX8_slow 9 = .ok (.iconst (-1), 1) := by decide +kernel
theorem dX8_slow_10 : decode cX8_slow 10 = .ok (.ireturn, 1) := by decide +kernel
theorem dX8_slow_11 : decode cX8_slow 11 = .ok (.iconst 0, 1) := by decide +kernel
theorem dX8_slow_12 : decode cX8_slow 12 = .ok (.istore_n 2, 1) := by decide +kernel
theorem dX8_slow_13 : decode cX8_slow 13 = .ok (.aload_n 0, 1) := by decide +kernel
theorem dX8_slow_14 : decode cX8_slow 14 = .ok (.getfield 15, 3) := by decide +kernel
theorem dX8_slow_17 : decode cX8_slow 17 = .ok (.iload_n 1, 1) := by decide +kernel
theorem dX8_slow_18 : decode cX8_slow 18 = .ok (.aaload, 1) := by decide +kernel
theorem dX8_slow_19 : decode cX8_slow 19 = .ok (.astore_n 3, 1) := by decide +kernel
theorem dX8_slow_20 : decode cX8_slow 20 = .ok (.aload_n 3, 1) := by decide +kernel
theorem dX8_slow_21 : decode cX8_slow 21 = .ok (.ifnull 62, 3) := by decide +kernel
theorem dX8_slow_24 : decode cX8_slow 24 = .ok (.aload_n 0, 1) := by decide +kernel
theorem dX8_slow_25 : decode cX8_slow 25 = .ok (.getfield 61, 3) := by decide +kernel
theorem dX8_slow_28 : decode cX8_slow 28 = .ok (.aload_n 3, 1) := by decide +kernel
theorem dX8_slow_29 : decode cX8_slow 29 = .ok (.getfield 148, 3) := by decide +kernel
theorem dX8_slow_32 : decode cX8_slow 32 = .ok (.isub, 1) := by decide +kernel
theorem dX8_slow_33 : decode cX8_slow 33 = .ok (.sipush 199, 3) := by decide +kernel
theorem dX8_slow_36 : decode cX8_slow 36 = .ok (.if_icmp .gt 47, 3) := by decide +kernel
theorem dX8_slow_39 : decode cX8_slow 39 = .ok (.aload_n 3, 1) := by decide +kernel
theorem dX8_slow_40 : decode cX8_slow 40 = .ok (.invokevirtual 225, 3) := by decide +kernel
theorem dX8_slow_43 : decode cX8_slow 43 = .ok (.ifCond .eq 14, 3) := by decide +kernel
theorem dX8_slow_46 : decode cX8_slow 46 = .ok (.aload_n 3, 1) := by decide +kernel
theorem dX8_slow_47 : decode cX8_slow 47 = .ok (.aload_n 0, 1) := by decide +kernel
theorem dX8_slow_48 : decode cX8_slow 48 = .ok (.getfield 58, 3) := by decide +kernel
theorem dX8_slow_51 : decode cX8_slow 51 = .ok (.invokevirtual 173, 3) := by decide +kernel
theorem dX8_slow_54 : decode cX8_slow 54 = .ok (.goto 4, 3) := by decide +kernel
theorem dX8_slow_57 : decode cX8_slow 57 = .ok (.iconst 0, 1) := by decide +kernel
theorem dX8_slow_58 : decode cX8_slow 58 = .ok (.istore 4, 2) := by decide +kernel
theorem dX8_slow_60 : decode cX8_slow 60 = .ok (.iload 4, 2) := by decide +kernel
theorem dX8_slow_62 : decode cX8_slow 62 = .ok (.sipush 10000, 3) := by decide +kernel
theorem dX8_slow_65 : decode cX8_slow 65 = .ok (.if_icmp .lt 5, 3) := by decide +kernel
theorem dX8_slow_68 : decode cX8_slow 68 = .ok (.iconst (-1), 1) := by decide +kernel
theorem dX8_slow_69 : decode cX8_slow 69 = .ok (.ireturn, 1) := by decide +kernel
theorem dX8_slow_70 : decode cX8_slow 70 = .ok (.iload_n 2, 1) := by decide +kernel
theorem dX8_slow_71 : decode cX8_slow 71 = .ok (.iload 4, 2) := by decide +kernel
theorem dX8_slow_73 : decode cX8_slow 73 = .ok (.iadd, 1) := by decide +kernel
theorem dX8_slow_74 : decode cX8_slow 74 = .ok (.istore_n 2, 1) := by decide +kernel
theorem dX8_slow_75 : decode cX8_slow 75 = .ok (.aload_n 3, 1) := by decide +kernel
theorem dX8_slow_76 : decode cX8_slow 76 = .ok (.getfield 109, 3) := by decide +kernel
theorem dX8_slow_79 : decode cX8_slow 79 = .ok (.astore_n 3, 1) := by decide +kernel
theorem dX8_slow_80 : decode cX8_slow 80 = .ok (.goto (-60), 3) := by decide +kernel
theorem dX8_slow_83 : decode cX8_slow 83 = .ok (.iload_n 2, 1) := by decide +kernel
theorem dX8_slow_84 : decode cX8_slow 84 = .ok (.sipush 30000, 3) := by decide +kernel
theorem dX8_slow_87 : decode cX8_slow 87 = .ok (.if_icmp .le 7, 3) := by decide +kernel
theorem dX8_slow_90 : decode cX8_slow 90 = .ok (.iload_n 2, 1) := by decide +kernel
theorem dX8_slow_91 : decode cX8_slow 91 = .ok (.goto 4, 3) := by decide +kernel
theorem dX8_slow_94 : decode cX8_slow 94 = .ok (.iconst (-1), 1) := by decide +kernel
theorem dX8_slow_95 : decode cX8_slow 95 = .ok (.ireturn, 1) := by decide +kernel
theorem dX8_plan_0 : decode cX8_plan 0 = .ok (.iload_n 1, 1) := by decide +kernel
theorem dX8_plan_1 : decode cX8_plan 1 = .ok (.ifCond .lt 10, 3) := by decide +kernel
theorem dX8_plan_4 : decode cX8_plan 4 = .ok (.iload_n 1, 1) := by decide +kernel
theorem dX8_plan_5 : decode cX8_plan 5 = .ok (.sipush 300, 3) := by decide +kernel
theorem dX8_plan_8 : decode cX8_plan 8 = .ok (.if_icmp .le 5, 3) := by decide +kernel
theorem dX8_plan_11 : decode cX8_plan 11 = .ok (.iconst (-1), 1) := by decide +kernel
theorem dX8_plan_12 : decode cX8_plan 12 = .ok (.ireturn, 1) := by decide +kernel
theorem dX8_plan_13 : decode cX8_plan 13 = .ok (.aload_n 0, 1) := by decide +kernel
theorem dX8_plan_14 : decode cX8_plan 14 = .ok (.getfield 50, 3) := by decide +kernel
theorem dX8_plan_17 : decode cX8_plan 17 = .ok (.aload_n 0, 1) := by decide +kernel
theorem dX8_plan_18 : decode cX8_plan 18 = .ok (.invokevirtual 214, 3) := by decide +kernel
theorem dX8_plan_21 : decode cX8_plan 21 = .ok (.iload_n 1, 1) := by decide +kernel
theorem dX8_plan_22 : decode cX8_plan 22 = .ok (.aload_n 0, 1) := by decide +kernel
theorem dX8_plan_23 : decode cX8_plan 23 = .ok (.getfield 122, 3) := by decide +kernel
theorem dX8_plan_26 : decode cX8_plan 26 = .ok (.invokevirtual 250, 3) := by decide +kernel
theorem dX8_plan_29 : decode cX8_plan 29 = .ok (.iload_n 2, 1) := by decide +kernel
theorem dX8_plan_30 : decode cX8_plan 30 = .ok (.iconst (-1), 1) := by decide +kernel
theorem dX8_plan_31 : decode cX8_plan 31 = .ok (.if_icmp .ne 11, 3) := by decide +kernel
theorem dX8_plan_34 : decode cX8_plan 34 = .ok (.aload_n 0, 1) := by decide +kernel
theorem dX8_plan_35 : decode cX8_plan 35 = .ok (.getfield 50, 3) := by decide +kernel
theorem dX8_plan_38 : decode cX8_plan 38 = .ok (.getfield 254, 3) := by decide +kernel
theorem dX8_plan_41 : decode cX8_plan 41 = .ok (.ireturn, 1) := by decide +kernel
theorem dX8_plan_42 : decode cX8_plan 42 = .ok (.aload_n 0, 1) := by decide +kernel
theorem dX8_plan_43 : decode cX8_plan 43 = .ok (.getfield 50, 3) := by decide +kernel
theorem dX8_plan_46 : decode cX8_plan 46 = .ok (.iload_n 2, 1) := by decide +kernel
theorem dX8_plan_47 : decode cX8_plan 47 = .ok (.invokevirtual 257, 3) := by decide +kernel
theorem dX8_plan_50 : decode cX8_plan 50 = .ok (.astore_n 3, 1) := by decide +kernel
theorem dX8_plan_51 : decode cX8_plan 51 = .ok (.aload_n 3, 1) := by decide +kernel
theorem dX8_plan_52 : decode cX8_plan 52 = .ok (.ifnonnull 7, 3) := by decide +kernel
theorem dX8_plan_55 : decode cX8_plan 55 = .ok (.iconst (-1), 1) := by decide +kernel
theorem dX8_plan_56 : decode cX8_plan 56 = .ok (.goto 7, 3) := by decide +kernel
theorem dX8_plan_59 : decode cX8_plan 59 = .ok (.aload_n 3, 1) := by decide +kernel
theorem dX8_plan_60 : decode cX8_plan 60 = .ok (.getfield 222, 3) := by decide +kernel
theorem dX8_plan_63 : decode cX8_plan 63 = .ok (.ireturn, 1) := by decide +kernel
theorem dX8_worth_0 : decode cX8_worth 0 = .ok (.iload_n 1, 1) := by decide +kernel
theorem dX8_worth_1 : decode cX8_worth 1 = .ok (.ifCond .lt 19, 3) := by decide +kernel
theorem dX8_worth_4 : decode cX8_worth 4 = .ok (.iload_n 1, 1) := by decide +kernel
theorem dX8_worth_5 : decode cX8_worth 5 = .ok (.sipush 300, 3) := by decide +kernel
theorem dX8_worth_8 : decode cX8_worth 8 = .ok (.if_icmp .gt 12, 3) := by decide +kernel
theorem dX8_worth_11 : decode cX8_worth 11 = .ok (.iload_n 2, 1) := by decide +kernel
theorem dX8_worth_12 : decode cX8_worth 12 = .ok (.ifCond .lt 8, 3) := by decide +kernel
theorem dX8_worth_15 : decode cX8_worth 15 = .ok (.iload_n 2, 1) := by decide +kernel
theorem dX8_worth_16 : decode cX8_worth 16 = .ok (.iconst 2, 1) := by decide +kernel
theorem dX8_worth_17 : decode cX8_worth 17 = .ok (.if_icmp .le 5, 3) := by decide +kernel
theorem dX8_worth_20 : decode cX8_worth 20 = .ok (.iconst (-1), 1) := by decide +kernel
theorem dX8_worth_21 : decode cX8_worth 21 = .ok (.ireturn, 1) := by decide +kernel
theorem dX8_worth_22 : decode cX8_worth 22 = .ok (.aload_n 0, 1) := by decide +kernel
theorem dX8_worth_23 : decode cX8_worth 23 = .ok (.getfield 50, 3) := by decide +kernel
theorem dX8_worth_26 : decode cX8_worth 26 = .ok (.aload_n 0, 1) := by decide +kernel
theorem dX8_worth_27 : decode cX8_worth 27 = .ok (.invokevirtual 214, 3) := by decide +kernel
theorem dX8_worth_30 : decode cX8_worth 30 = .ok (.iload_n 1, 1) := by decide +kernel
theorem dX8_worth_31 : decode cX8_worth 31 = .ok (.aload_n 0, 1) := by decide +kernel
theorem dX8_worth_32 : decode cX8_worth 32 = .ok (.getfield 122, 3) := by decide +kernel
theorem dX8_worth_35 : decode cX8_worth 35 = .ok (.invokevirtual 250, 3) := by decide +kernel
theorem dX8_worth_38 : decode cX8_worth 38 = .ok (.iload_n 2, 1) := by decide +kernel
theorem dX8_worth_39 : decode cX8_worth 39 = .ok (.lookupswitch 49 #[(0, 25), (1, 33)], 25) := by decide +kernel
theorem dX8_worth_64 : decode cX8_worth 64 = .ok (.aload_n 0, 1) := by decide +kernel
theorem dX8_worth_65 : decode cX8_worth 65 = .ok (.getfield 50, 3) := by decide +kernel
theorem dX8_worth_68 : decode cX8_worth 68 = .ok (.getfield 258, 3) := by decide +kernel
theorem dX8_worth_71 : decode cX8_worth 71 = .ok (.ireturn, 1) := by decide +kernel
theorem dX8_worth_72 : decode cX8_worth 72 = .ok (.aload_n 0, 1) := by decide +kernel
theorem dX8_worth_73 : decode cX8_worth 73 = .ok (.getfield 43, 3) := by decide +kernel
theorem dX8_worth_76 : decode cX8_worth 76 = .ok (.invokevirtual 261, 3) := by decide +kernel
theorem dX8_worth_79 : decode cX8_worth 79 = .ok (.aload_n 0, 1) := by decide +kernel
theorem dX8_worth_80 : decode cX8_worth 80 = .ok (.getfield 50, 3) := by decide +kernel
theorem dX8_worth_83 : decode cX8_worth 83 = .ok (.getfield 258, 3) := by decide +kernel
theorem dX8_worth_86 : decode cX8_worth 86 = .ok (.isub, 1) := by decide +kernel
theorem dX8_worth_87 : decode cX8_worth 87 = .ok (.ireturn, 1) := by decide +kernel
theorem dX8_worth_88 : decode cX8_worth 88 = .ok (.iload_n 1, 1) := by decide +kernel
theorem dX8_worth_89 : decode cX8_worth 89 = .ok (.aload_n 0, 1) := by decide +kernel
theorem dX8_worth_90 : decode cX8_worth 90 = .ok (.getfield 50, 3) := by decide +kernel
theorem dX8_worth_93 : decode cX8_worth 93 = .ok (.getfield 264, 3) := by decide +kernel
theorem dX8_worth_96 : decode cX8_worth 96 = .ok (.isub, 1) := by decide +kernel
theorem dX8_worth_97 : decode cX8_worth 97 = .ok (.ireturn, 1) := by decide +kernel
theorem dX8_source_0 : decode cX8_source 0 = .ok (.iload_n 1, 1) := by decide +kernel
theorem dX8_source_1 : decode cX8_source 1 = .ok (.bipush 10, 2) := by decide +kernel
theorem dX8_source_3 : decode cX8_source 3 = .ok (.invokestatic 64, 3) := by decide +kernel
theorem dX8_source_6 : decode cX8_source 6 = .ok (.ifCond .eq 13, 3) := by decide +kernel
theorem dX8_source_9 : decode cX8_source 9 = .ok (.iload_n 2, 1) := by decide +kernel
theorem dX8_source_10 : decode cX8_source 10 = .ok (.ifCond .lt 9, 3) := by decide +kernel
theorem dX8_source_13 : decode cX8_source 13 = .ok (.iload_n 2, 1) := by decide +kernel
theorem dX8_source_14 : decode cX8_source 14 = .ok (.bipush 6, 2) := by decide +kernel
theorem dX8_source_16 : decode cX8_source 16 = .ok (.if_icmp .le 5, 3) := by decide +kernel
theorem dX8_source_19 : decode cX8_source 19 = .ok (.iconst (-1), 1) := by decide +kernel
theorem dX8_source_20 : decode cX8_source 20 = .ok (.ireturn, 1) := by decide +kernel
theorem dX8_source_21 : decode cX8_source 21 = .ok (.iconst 0, 1) := by decide +kernel
theorem dX8_source_22 : decode cX8_source 22 = .ok (.istore_n 3, 1) := by decide +kernel
theorem dX8_source_23 : decode cX8_source 23 = .ok (.iconst 0, 1) := by decide +kernel
theorem dX8_source_24 : decode cX8_source 24 = .ok (.istore 4, 2) := by decide +kernel
theorem dX8_source_26 : decode cX8_source 26 = .ok (.iload 4, 2) := by decide +kernel
theorem dX8_source_28 : decode cX8_source 28 = .ok (.aload_n 0, 1) := by decide +kernel
theorem dX8_source_29 : decode cX8_source 29 = .ok (.getfield 79, 3) := by decide +kernel
theorem dX8_source_32 : decode cX8_source 32 = .ok (.if_icmp .ge 40, 3) := by decide +kernel
theorem dX8_source_35 : decode cX8_source 35 = .ok (.aload_n 0, 1) := by decide +kernel
theorem dX8_source_36 : decode cX8_source 36 = .ok (.getfield 11, 3) := by decide +kernel
theorem dX8_source_39 : decode cX8_source 39 = .ok (.iload 4, 2) := by decide +kernel
theorem dX8_source_41 : decode cX8_source 41 = .ok (.aaload, 1) := by decide +kernel
theorem dX8_source_42 : decode cX8_source 42 = .ok (.getfield 151, 3) := by decide +kernel
theorem dX8_source_45 : decode cX8_source 45 = .ok (.iload_n 1, 1) := by decide +kernel
theorem dX8_source_46 : decode cX8_source 46 = .ok (.if_icmp .ne 20, 3) := by decide +kernel
theorem dX8_source_49 : decode cX8_source 49 = .ok (.aload_n 0, 1) := by decide +kernel
theorem dX8_source_50 : decode cX8_source 50 = .ok (.getfield 11, 3) := by decide +kernel
theorem dX8_source_53 : decode cX8_source 53 = .ok (.iload 4, 2) := by decide +kernel
theorem dX8_source_55 : decode cX8_source 55 = .ok (.aaload, 1) := by decide +kernel
theorem dX8_source_56 : decode cX8_source 56 = .ok (.iload_n 2, 1) := by decide +kernel
theorem dX8_source_57 : decode cX8_source 57 = .ok (.invokestatic 267, 3) := by decide +kernel
theorem dX8_source_60 : decode cX8_source 60 = .ok (.ifCond .eq 6, 3) := by decide +kernel
theorem dX8_source_63 : decode cX8_source 63 = .ok (.iinc 3 1, 3) := by decide +kernel
theorem dX8_source_66 : decode cX8_source 66 = .ok (.iinc 4 1, 3) := by decide +kernel
theorem dX8_source_69 : decode cX8_source 69 = .ok (.goto (-43), 3) := by decide +kernel
theorem dX8_source_72 : decode cX8_source 72 = .ok (.iload_n 3, 1) := by decide +kernel
theorem dX8_source_73 : decode cX8_source 73 = .ok (.ireturn, 1) := by decide +kernel
theorem dX8_count_0 : decode cX8_count 0 = .ok (.iload_n 1, 1) := by decide +kernel
theorem dX8_count_1 : decode cX8_count 1 = .ok (.tableswitch 78 0 5 #[39, 44, 49, 57, 65, 70], 39) := by decide +kernel
theorem dX8_count_40 : decode cX8_count 40 = .ok (.aload_n 0, 1) := by decide +kernel
theorem dX8_count_41 : decode cX8_count 41 = .ok (.getfield 61, 3) := by decide +kernel
theorem dX8_count_44 : decode cX8_count 44 = .ok (.ireturn, 1) := by decide +kernel
theorem dX8_count_45 : decode cX8_count 45 = .ok (.aload_n 0, 1) := by decide +kernel
theorem dX8_count_46 : decode cX8_count 46 = .ok (.getfield 79, 3) := by decide +kernel
theorem dX8_count_49 : decode cX8_count 49 = .ok (.ireturn, 1) := by decide +kernel
theorem dX8_count_50 : decode cX8_count 50 = .ok (.aload_n 0, 1) := by decide +kernel
theorem dX8_count_51 : decode cX8_count 51 = .ok (.getfield 29, 3) := by decide +kernel
theorem dX8_count_54 : decode cX8_count 54 = .ok (.getfield 201, 3) := by decide +kernel
theorem dX8_count_57 : decode cX8_count 57 = .ok (.ireturn, 1) := by decide +kernel
theorem dX8_count_58 : decode cX8_count 58 = .ok (.aload_n 0, 1) := by decide +kernel
theorem dX8_count_59 : decode cX8_count 59 = .ok (.invokevirtual 214, 3) := by decide +kernel
theorem dX8_count_62 : decode cX8_count 62 = .ok (.getfield 271, 3) := by decide +kernel
theorem dX8_count_65 : decode cX8_count 65 = .ok (.ireturn, 1) := by decide +kernel
theorem dX8_count_66 : decode cX8_count 66 = .ok (.aload_n 0, 1) := by decide +kernel
theorem dX8_count_67 : decode cX8_count 67 = .ok (.getfield 116, 3) := by decide +kernel
theorem dX8_count_70 : decode cX8_count 70 = .ok (.ireturn, 1) := by decide +kernel
theorem dX8_count_71 : decode cX8_count 71 = .ok (.aload_n 0, 1) := by decide +kernel
theorem dX8_count_72 : decode cX8_count 72 = .ok (.getfield 36, 3) := by decide +kernel
theorem dX8_count_75 : decode cX8_count 75 = .ok (.getfield 272, 3) := by decide +kernel
theorem dX8_count_78 : decode cX8_count 78 = .ok (.ireturn, 1) := by decide +kernel
theorem dX8_count_79 : decode cX8_count 79 = .ok (.iconst (-1), 1) := by decide +kernel
theorem dX8_count_80 : decode cX8_count 80 = .ok (.ireturn, 1) := by decide +kernel
theorem dX8_isBelow_0 : decode cX8_isBelow 0 = .ok (.iload_n 0, 1) := by decide +kernel
theorem dX8_isBelow_1 : decode cX8_isBelow 1 = .ok (.ifCond .lt 12, 3) := by decide +kernel
theorem dX8_isBelow_4 : decode cX8_isBelow 4 = .ok (.iload_n 0, 1) := by decide +kernel
theorem dX8_isBelow_5 : decode cX8_isBelow 5 = .ok (.iload_n 1, 1) := by decide +kernel
theorem dX8_isBelow_6 : decode cX8_isBelow 6 = .ok (.if_icmp .ge 7, 3) := by decide +kernel
theorem dX8_isBelow_9 : decode cX8_isBelow 9 = .ok (.iconst 1, 1) := by decide +kernel
theorem dX8_isBelow_10 : decode cX8_isBelow 10 = .ok (.goto 4, 3) := by decide +kernel
theorem dX8_isBelow_13 : decode cX8_isBelow 13 = .ok (.iconst 0, 1) := by decide +kernel
theorem dX8_isBelow_14 : decode cX8_isBelow 14 = .ok (.ireturn, 1) := by decide +kernel
theorem dX8_oneIf_0 : decode cX8_oneIf 0 = .ok (.iload_n 0, 1) := by decide +kernel
theorem dX8_oneIf_1 : decode cX8_oneIf 1 = .ok (.ifCond .eq 7, 3) := by decide +kernel
theorem dX8_oneIf_4 : decode cX8_oneIf 4 = .ok (.iconst 1, 1) := by decide +kernel
theorem dX8_oneIf_5 : decode cX8_oneIf 5 = .ok (.goto 4, 3) := by decide +kernel
theorem dX8_oneIf_8 : decode cX8_oneIf 8 = .ok (.iconst 0, 1) := by decide +kernel
theorem dX8_oneIf_9 : decode cX8_oneIf 9 = .ok (.ireturn, 1) := by decide +kernel
theorem dX8_inLowestTerms_0 : decode cX8_inLowestTerms 0 = .ok (.iload_n 1, 1) := by decide +kernel
theorem dX8_inLowestTerms_1 : decode cX8_inLowestTerms 1 = .ok (.istore_n 3, 1) := by decide +kernel
theorem dX8_inLowestTerms_2 : decode cX8_inLowestTerms 2 = .ok (.iload_n 0, 1) := by decide +kernel
theorem dX8_inLowestTerms_3 : decode cX8_inLowestTerms 3 = .ok (.istore 4, 2) := by decide +kernel
theorem dX8_inLowestTerms_5 : decode cX8_inLowestTerms 5 = .ok (.iconst 0, 1) := by decide +kernel
theorem dX8_inLowestTerms_6 : decode cX8_inLowestTerms 6 = .ok (.istore 5, 2) := by decide +kernel
theorem dX8_inLowestTerms_8 : decode cX8_inLowestTerms 8 = .ok (.iload 5, 2) := by decide +kernel
theorem dX8_inLowestTerms_10 : decode cX8_inLowestTerms 10 = .ok (.bipush 100, 2) := by decide +kernel
theorem dX8_inLowestTerms_12 : decode cX8_inLowestTerms 12 = .ok (.if_icmp .ge 27, 3) := by decide +kernel
theorem dX8_inLowestTerms_15 : decode cX8_inLowestTerms 15 = .ok (.iload 4, 2) := by decide +kernel
theorem dX8_inLowestTerms_17 : decode cX8_inLowestTerms 17 = .ok (.ifCond .le 22, 3) := by decide +kernel
theorem dX8_inLowestTerms_20 : decode cX8_inLowestTerms 20 = .ok (.iload_n 3, 1) := by decide +kernel
theorem dX8_inLowestTerms_21 : decode cX8_inLowestTerms 21 = .ok (.iload 4, 2) := by decide +kernel
theorem dX8_inLowestTerms_23 : decode cX8_inLowestTerms 23 = .ok (.irem, 1) := by decide +kernel
theorem dX8_inLowestTerms_24 : decode cX8_inLowestTerms 24 = .ok (.istore 6, 2) := by decide +kernel
theorem dX8_inLowestTerms_26 : decode cX8_inLowestTerms 26 = .ok (.iload 4, 2) := by decide +kernel
theorem dX8_inLowestTerms_28 : decode cX8_inLowestTerms 28 = .ok (.istore_n 3, 1) := by decide +kernel
theorem dX8_inLowestTerms_29 : decode cX8_inLowestTerms 29 = .ok (.iload 6, 2) := by decide +kernel
theorem dX8_inLowestTerms_31 : decode cX8_inLowestTerms 31 = .ok (.istore 4, 2) := by decide +kernel
theorem dX8_inLowestTerms_33 : decode cX8_inLowestTerms 33 = .ok (.iinc 5 1, 3) := by decide +kernel
theorem dX8_inLowestTerms_36 : decode cX8_inLowestTerms 36 = .ok (.goto (-28), 3) := by decide +kernel
theorem dX8_inLowestTerms_39 : decode cX8_inLowestTerms 39 = .ok (.iload_n 3, 1) := by decide +kernel
theorem dX8_inLowestTerms_40 : decode cX8_inLowestTerms 40 = .ok (.iconst 1, 1) := by decide +kernel
theorem dX8_inLowestTerms_41 : decode cX8_inLowestTerms 41 = .ok (.if_icmp .ge 5, 3) := by decide +kernel
theorem dX8_inLowestTerms_44 : decode cX8_inLowestTerms 44 = .ok (.iconst (-1), 1) := by decide +kernel
theorem dX8_inLowestTerms_45 : decode cX8_inLowestTerms 45 = .ok (.ireturn, 1) := by decide +kernel
theorem dX8_inLowestTerms_46 : decode cX8_inLowestTerms 46 = .ok (.iload_n 2, 1) := by decide +kernel
theorem dX8_inLowestTerms_47 : decode cX8_inLowestTerms 47 = .ok (.ifCond .eq 7, 3) := by decide +kernel
theorem dX8_inLowestTerms_50 : decode cX8_inLowestTerms 50 = .ok (.iload_n 0, 1) := by decide +kernel
theorem dX8_inLowestTerms_51 : decode cX8_inLowestTerms 51 = .ok (.goto 4, 3) := by decide +kernel
theorem dX8_inLowestTerms_54 : decode cX8_inLowestTerms 54 = .ok (.iload_n 1, 1) := by decide +kernel
theorem dX8_inLowestTerms_55 : decode cX8_inLowestTerms 55 = .ok (.iload_n 3, 1) := by decide +kernel
theorem dX8_inLowestTerms_56 : decode cX8_inLowestTerms 56 = .ok (.idiv, 1) := by decide +kernel
theorem dX8_inLowestTerms_57 : decode cX8_inLowestTerms 57 = .ok (.ireturn, 1) := by decide +kernel
theorem dX8_isOfKind_0 : decode cX8_isOfKind 0 = .ok (.iload_n 1, 1) := by decide +kernel
theorem dX8_isOfKind_1 : decode cX8_isOfKind 1 = .ok (.tableswitch 117 0 6 #[43, 45, 58, 63, 68, 82, 96], 43) := by decide +kernel
theorem dX8_isOfKind_44 : decode cX8_isOfKind 44 = .ok (.iconst 1, 1) := by decide +kernel
theorem dX8_isOfKind_45 : decode cX8_isOfKind 45 = .ok (.ireturn, 1) := by decide +kernel
theorem dX8_isOfKind_46 : decode cX8_isOfKind 46 = .ok (.aload_n 0, 1) := by decide +kernel
theorem dX8_isOfKind_47 : decode cX8_isOfKind 47 = .ok (.getfield 163, 3) := by decide +kernel
theorem dX8_isOfKind_50 : decode cX8_isOfKind 50 = .ok (.ifCond .le 7, 3) := by decide +kernel
theorem dX8_isOfKind_53 : decode cX8_isOfKind 53 = .ok (.iconst 1, 1) := by decide +kernel
theorem dX8_isOfKind_54 : decode cX8_isOfKind 54 = .ok (.goto 4, 3) := by decide +kernel
theorem dX8_isOfKind_57 : decode cX8_isOfKind 57 = .ok (.iconst 0, 1) := by decide +kernel
theorem dX8_isOfKind_58 : decode cX8_isOfKind 58 = .ok (.ireturn, 1) := by decide +kernel
theorem dX8_isOfKind_59 : decode cX8_isOfKind 59 = .ok (.aload_n 0, 1) := by decide +kernel
theorem dX8_isOfKind_60 : decode cX8_isOfKind 60 = .ok (.getfield 93, 3) := by decide +kernel
theorem dX8_isOfKind_63 : decode cX8_isOfKind 63 = .ok (.ireturn, 1) := by decide +kernel
theorem dX8_isOfKind_64 : decode cX8_isOfKind 64 = .ok (.aload_n 0, 1) := by decide +kernel
theorem dX8_isOfKind_65 : decode cX8_isOfKind 65 = .ok (.getfield 100, 3) := by decide +kernel
theorem dX8_isOfKind_68 : decode cX8_isOfKind 68 = .ok (.ireturn, 1) := by decide +kernel
theorem dX8_isOfKind_69 : decode cX8_isOfKind 69 = .ok (.aload_n 0, 1) := by decide +kernel
theorem dX8_isOfKind_70 : decode cX8_isOfKind 70 = .ok (.getfield 166, 3) := by decide +kernel
theorem dX8_isOfKind_73 : decode cX8_isOfKind 73 = .ok (.iconst 1, 1) := by decide +kernel
theorem dX8_isOfKind_74 : decode cX8_isOfKind 74 = .ok (.if_icmp .ne 7, 3) := by decide +kernel
theorem dX8_isOfKind_77 : decode cX8_isOfKind 77 = .ok (.iconst 1, 1) := by decide +kernel
theorem dX8_isOfKind_78 : decode cX8_isOfKind 78 = .ok (.goto 4, 3) := by decide +kernel
theorem dX8_isOfKind_81 : decode cX8_isOfKind 81 = .ok (.iconst 0, 1) := by decide +kernel
theorem dX8_isOfKind_82 : decode cX8_isOfKind 82 = .ok (.ireturn, 1) := by decide +kernel
theorem dX8_isOfKind_83 : decode cX8_isOfKind 83 = .ok (.aload_n 0, 1) := by decide +kernel
theorem dX8_isOfKind_84 : decode cX8_isOfKind 84 = .ok (.getfield 166, 3) := by decide +kernel
theorem dX8_isOfKind_87 : decode cX8_isOfKind 87 = .ok (.iconst 2, 1) := by decide +kernel
theorem dX8_isOfKind_88 : decode cX8_isOfKind 88 = .ok (.if_icmp .ne 7, 3) := by decide +kernel
theorem dX8_isOfKind_91 : decode cX8_isOfKind 91 = .ok (.iconst 1, 1) := by decide +kernel
theorem dX8_isOfKind_92 : decode cX8_isOfKind 92 = .ok (.goto 4, 3) := by decide +kernel
theorem dX8_isOfKind_95 : decode cX8_isOfKind 95 = .ok (.iconst 0, 1) := by decide +kernel
theorem dX8_isOfKind_96 : decode cX8_isOfKind 96 = .ok (.ireturn, 1) := by decide +kernel
theorem dX8_isOfKind_97 : decode cX8_isOfKind 97 = .ok (.aload_n 0, 1) := by decide +kernel
theorem dX8_isOfKind_98 : decode cX8_isOfKind 98 = .ok (.getfield 166, 3) := by decide +kernel
theorem dX8_isOfKind_101 : decode cX8_isOfKind 101 = .ok (.iconst 1, 1) := by decide +kernel
theorem dX8_isOfKind_102 : decode cX8_isOfKind 102 = .ok (.if_icmp .ne 14, 3) := by decide +kernel
theorem dX8_isOfKind_105 : decode cX8_isOfKind 105 = .ok (.aload_n 0, 1) := by decide +kernel
theorem dX8_isOfKind_106 : decode cX8_isOfKind 106 = .ok (.invokevirtual 273, 3) := by decide +kernel
theorem dX8_isOfKind_109 : decode cX8_isOfKind 109 = .ok (.ifCond .eq 7, 3) := by decide +kernel
theorem dX8_isOfKind_112 : decode cX8_isOfKind 112 = .ok (.iconst 1, 1) := by decide +kernel
theorem dX8_isOfKind_113 : decode cX8_isOfKind 113 = .ok (.goto 4, 3) := by decide +kernel
theorem dX8_isOfKind_116 : decode cX8_isOfKind 116 = .ok (.iconst 0, 1) := by decide +kernel
theorem dX8_isOfKind_117 : decode cX8_isOfKind 117 = .ok (.ireturn, 1) := by decide +kernel
theorem dX8_isOfKind_118 : decode cX8_isOfKind 118 = .ok (.iconst 0, 1) := by decide +kernel
theorem dX8_isOfKind_119 : decode cX8_isOfKind 119 = .ok (.ireturn, 1) := by decide +kernel
theorem dX8_alarmAt_0 : decode cX8_alarmAt 0 = .ok (.iload_n 1, 1) := by decide +kernel
theorem dX8_alarmAt_1 : decode cX8_alarmAt 1 = .ok (.aload_n 0, 1) := by decide +kernel
theorem dX8_alarmAt_2 : decode cX8_alarmAt 2 = .ok (.getfield 79, 3) := by decide +kernel
theorem dX8_alarmAt_5 : decode cX8_alarmAt 5 = .ok (.invokestatic 64, 3) := by decide +kernel
theorem dX8_alarmAt_8 : decode cX8_alarmAt 8 = .ok (.ifCond .eq 12, 3) := by decide +kernel
theorem dX8_alarmAt_11 : decode cX8_alarmAt 11 = .ok (.aload_n 0, 1) := by decide +kernel
theorem dX8_alarmAt_12 : decode cX8_alarmAt 12 = .ok (.getfield 11, 3) := by decide +kernel
theorem dX8_alarmAt_15 : decode cX8_alarmAt 15 = .ok (.iload_n 1, 1) := by decide +kernel
theorem dX8_alarmAt_16 : decode cX8_alarmAt 16 = .ok (.aaload, 1) := by decide +kernel
theorem dX8_alarmAt_17 : decode cX8_alarmAt 17 = .ok (.goto 4, 3) := by decide +kernel
theorem dX8_alarmAt_20 : decode cX8_alarmAt 20 = .ok (.aconst_null, 1) := by decide +kernel
theorem dX8_alarmAt_21 : decode cX8_alarmAt 21 = .ok (.areturn, 1) := by decide +kernel
theorem dX8_alarmToRepeat_0 : decode cX8_alarmToRepeat 0 = .ok (.aload_n 0, 1) := by decide +kernel
theorem dX8_alarmToRepeat_1 : decode cX8_alarmToRepeat 1 = .ok (.getfield 79, 3) := by decide +kernel
theorem dX8_alarmToRepeat_4 : decode cX8_alarmToRepeat 4 = .ok (.iconst 1, 1) := by decide +kernel
theorem dX8_alarmToRepeat_5 : decode cX8_alarmToRepeat 5 = .ok (.isub, 1) := by decide +kernel
theorem dX8_alarmToRepeat_6 : decode cX8_alarmToRepeat 6 = .ok (.istore 4, 2) := by decide +kernel
theorem dX8_alarmToRepeat_8 : decode cX8_alarmToRepeat 8 = .ok (.iload 4, 2) := by decide +kernel
theorem dX8_alarmToRepeat_10 : decode cX8_alarmToRepeat 10 = .ok (.ifCond .lt 71, 3) := by decide +kernel
theorem dX8_alarmToRepeat_13 : decode cX8_alarmToRepeat 13 = .ok (.aload_n 0, 1) := by decide +kernel
theorem dX8_alarmToRepeat_14 : decode cX8_alarmToRepeat 14 = .ok (.getfield 11, 3) := by decide +kernel
theorem dX8_alarmToRepeat_17 : decode cX8_alarmToRepeat 17 = .ok (.iload 4, 2) := by decide +kernel
theorem dX8_alarmToRepeat_19 : decode cX8_alarmToRepeat 19 = .ok (.aaload, 1) := by decide +kernel
theorem dX8_alarmToRepeat_20 : decode cX8_alarmToRepeat 20 = .ok (.astore 5, 2) := by decide +kernel
theorem dX8_alarmToRepeat_22 : decode cX8_alarmToRepeat 22 = .ok (.aload 5, 2) := by decide +kernel
theorem dX8_alarmToRepeat_24 : decode cX8_alarmToRepeat 24 = .ok (.getfield 151, 3) := by decide +kernel
theorem dX8_alarmToRepeat_27 : decode cX8_alarmToRepeat 27 = .ok (.iload_n 1, 1) := by decide +kernel
theorem dX8_alarmToRepeat_28 : decode cX8_alarmToRepeat 28 = .ok (.if_icmp .ne 47, 3) := by decide +kernel
theorem dX8_alarmToRepeat_31 : decode cX8_alarmToRepeat 31 = .ok (.aload 5, 2) := by decide +kernel
theorem dX8_alarmToRepeat_33 : decode cX8_alarmToRepeat 33 = .ok (.getfield 154, 3) := by decide +kernel
theorem dX8_alarmToRepeat_36 : decode cX8_alarmToRepeat 36 = .ok (.iload_n 2, 1) := by decide +kernel
theorem dX8_alarmToRepeat_37 : decode cX8_alarmToRepeat 37 = .ok (.if_icmp .ne 38, 3) := by decide +kernel
theorem dX8_alarmToRepeat_40 : decode cX8_alarmToRepeat 40 = .ok (.aload 5, 2) := by decide +kernel
theorem dX8_alarmToRepeat_42 : decode cX8_alarmToRepeat 42 = .ok (.getfield 157, 3) := by decide +kernel
theorem dX8_alarmToRepeat_45 : decode cX8_alarmToRepeat 45 = .ok (.iload_n 3, 1) := by decide +kernel
theorem dX8_alarmToRepeat_46 : decode cX8_alarmToRepeat 46 = .ok (.if_icmp .ne 29, 3) := by decide +kernel
theorem dX8_alarmToRepeat_49 : decode cX8_alarmToRepeat 49 = .ok (.aload 5, 2) := by decide +kernel
theorem dX8_alarmToRepeat_51 : decode cX8_alarmToRepeat 51 = .ok (.invokevirtual 225, 3) := by decide +kernel
theorem dX8_alarmToRepeat_54 : decode cX8_alarmToRepeat 54 = .ok (.ifCond .eq 21, 3) := by decide +kernel
theorem dX8_alarmToRepeat_57 : decode cX8_alarmToRepeat 57 = .ok (.aload_n 0, 1) := by decide +kernel
theorem dX8_alarmToRepeat_58 : decode cX8_alarmToRepeat 58 = .ok (.getfield 61, 3) := by decide +kernel
theorem dX8_alarmToRepeat_61 : decode cX8_alarmToRepeat 61 = .ok (.aload 5, 2) := by decide +kernel
theorem dX8_alarmToRepeat_63 : decode cX8_alarmToRepeat 63 = .ok (.getfield 276, 3) := by decide +kernel
theorem dX8_alarmToRepeat_66 : decode cX8_alarmToRepeat 66 = .ok (.isub, 1) := by decide +kernel
theorem dX8_alarmToRepeat_67 : decode cX8_alarmToRepeat 67 = .ok (.bipush 10, 2) := by decide +kernel
theorem dX8_alarmToRepeat_69 : decode cX8_alarmToRepeat 69 = .ok (.if_icmp .gt 6, 3) := by decide +kernel
theorem dX8_alarmToRepeat_72 : decode cX8_alarmToRepeat 72 = .ok (.aload 5, 2) := by decide +kernel
theorem dX8_alarmToRepeat_74 : decode cX8_alarmToRepeat 74 = .ok (.areturn, 1) := by decide +kernel
theorem dX8_alarmToRepeat_75 : decode cX8_alarmToRepeat 75 = .ok (.iinc 4 (-1), 3) := by decide +kernel
theorem dX8_alarmToRepeat_78 : decode cX8_alarmToRepeat 78 = .ok (.goto (-70), 3) := by decide +kernel
theorem dX8_alarmToRepeat_81 : decode cX8_alarmToRepeat 81 = .ok (.aconst_null, 1) := by decide +kernel
theorem dX8_alarmToRepeat_82 : decode cX8_alarmToRepeat 82 = .ok (.areturn, 1) := by decide +kernel
theorem dX8_isSilencedNow_0 : decode cX8_isSilencedNow 0 = .ok (.iconst 0, 1) := by decide +kernel
theorem dX8_isSilencedNow_1 : decode cX8_isSilencedNow 1 = .ok (.istore_n 2, 1) := by decide +kernel
theorem dX8_isSilencedNow_2 : decode cX8_isSilencedNow 2 = .ok (.iload_n 2, 1) := by decide +kernel
theorem dX8_isSilencedNow_3 : decode cX8_isSilencedNow 3 = .ok (.aload_n 0, 1) := by decide +kernel
theorem dX8_isSilencedNow_4 : decode cX8_isSilencedNow 4 = .ok (.getfield 116, 3) := by decide +kernel
theorem dX8_isSilencedNow_7 : decode cX8_isSilencedNow 7 = .ok (.if_icmp .ge 28, 3) := by decide +kernel
theorem dX8_isSilencedNow_10 : decode cX8_isSilencedNow 10 = .ok (.aload_n 0, 1) := by decide +kernel
theorem dX8_isSilencedNow_11 : decode cX8_isSilencedNow 11 = .ok (.getfield 20, 3) := by decide +kernel
theorem dX8_isSilencedNow_14 : decode cX8_isSilencedNow 14 = .ok (.iload_n 2, 1) := by decide +kernel
theorem dX8_isSilencedNow_15 : decode cX8_isSilencedNow 15 = .ok (.aaload, 1) := by decide +kernel
theorem dX8_isSilencedNow_16 : decode cX8_isSilencedNow 16 = .ok (.iload_n 1, 1) := by decide +kernel
theorem dX8_isSilencedNow_17 : decode cX8_isSilencedNow 17 = .ok (.aload_n 0, 1) := by decide +kernel
theorem dX8_isSilencedNow_18 : decode cX8_isSilencedNow 18 = .ok (.getfield 61, 3) := by decide +kernel
theorem dX8_isSilencedNow_21 : decode cX8_isSilencedNow 21 = .ok (.invokevirtual 279, 3) := by decide +kernel
theorem dX8_isSilencedNow_24 : decode cX8_isSilencedNow 24 = .ok (.ifCond .eq 5, 3) := by decide +kernel
theorem dX8_isSilencedNow_27 : decode cX8_isSilencedNow 27 = .ok (.iconst 1, 1) := by decide +kernel
theorem dX8_isSilencedNow_28 : decode cX8_isSilencedNow 28 = .ok (.ireturn, 1) := by decide +kernel
theorem dX8_isSilencedNow_29 : decode cX8_isSilencedNow 29 = .ok (.iinc 2 1, 3) := by decide +kernel
theorem dX8_isSilencedNow_32 : decode cX8_isSilencedNow 32 = .ok (.goto (-30), 3) := by decide +kernel
theorem dX8_isSilencedNow_35 : decode cX8_isSilencedNow 35 = .ok (.iconst 0, 1) := by decide +kernel
theorem dX8_isSilencedNow_36 : decode cX8_isSilencedNow 36 = .ok (.ireturn, 1) := by decide +kernel
theorem dX8_isCapFullNow_0 : decode cX8_isCapFullNow 0 = .ok (.iconst 0, 1) := by decide +kernel
theorem dX8_isCapFullNow_1 : decode cX8_isCapFullNow 1 = .ok (.istore_n 2, 1) := by decide +kernel
theorem dX8_isCapFullNow_2 : decode cX8_isCapFullNow 2 = .ok (.aload_n 0, 1) := by decide +kernel
theorem dX8_isCapFullNow_3 : decode cX8_isCapFullNow 3 = .ok (.getfield 79, 3) := by decide +kernel
theorem dX8_isCapFullNow_6 : decode cX8_isCapFullNow 6 = .ok (.iconst 1, 1) := by decide +kernel
theorem dX8_isCapFullNow_7 : decode cX8_isCapFullNow 7 = .ok (.isub, 1) := by decide +kernel
theorem dX8_isCapFullNow_8 : decode cX8_isCapFullNow 8 = .ok (.istore_n 3, 1) := by decide +kernel
theorem dX8_isCapFullNow_9 : decode cX8_isCapFullNow 9 = .ok (.iload_n 3, 1) := by decide +kernel
theorem dX8_isCapFullNow_10 : decode cX8_isCapFullNow 10 = .ok (.ifCond .lt 56, 3) := by decide +kernel
theorem dX8_isCapFullNow_13 : decode cX8_isCapFullNow 13 = .ok (.aload_n 0, 1) := by decide +kernel
theorem dX8_isCapFullNow_14 : decode cX8_isCapFullNow 14 = .ok (.getfield 61, 3) := by decide +kernel
theorem dX8_isCapFullNow_17 : decode cX8_isCapFullNow 17 = .ok (.aload_n 0, 1) := by decide +kernel
theorem dX8_isCapFullNow_18 : decode cX8_isCapFullNow 18 = .ok (.getfield 11, 3) := by decide +kernel
theorem dX8_isCapFullNow_21 : decode cX8_isCapFullNow 21 = .ok (.iload_n 3, 1) := by decide +kernel
theorem dX8_isCapFullNow_22 : decode cX8_isCapFullNow 22 = .ok (.aaload, 1) := by decide +kernel
theorem dX8_isCapFullNow_23 : decode cX8_isCapFullNow 23 = .ok (.getfield 148, 3) := by decide +kernel
theorem dX8_isCapFullNow_26 : decode cX8_isCapFullNow 26 = .ok (.isub, 1) := by decide +kernel
theorem dX8_isCapFullNow_27 : decode cX8_isCapFullNow 27 = .ok (.bipush 9, 2) := by decide +kernel
theorem dX8_isCapFullNow_29 : decode cX8_isCapFullNow 29 = .ok (.if_icmp .gt 37, 3) := by decide +kernel
theorem dX8_isCapFullNow_32 : decode cX8_isCapFullNow 32 = .ok (.aload_n 0, 1) := by decide +kernel
theorem dX8_isCapFullNow_33 : decode cX8_isCapFullNow 33 = .ok (.getfield 11, 3) := by decide +kernel
theorem dX8_isCapFullNow_36 : decode cX8_isCapFullNow 36 = .ok (.iload_n 3, 1) := by decide +kernel
theorem dX8_isCapFullNow_37 : decode cX8_isCapFullNow 37 = .ok (.aaload, 1) := by decide +kernel
theorem dX8_isCapFullNow_38 : decode cX8_isCapFullNow 38 = .ok (.getfield 151, 3) := by decide +kernel
theorem dX8_isCapFullNow_41 : decode cX8_isCapFullNow 41 = .ok (.iload_n 1, 1) := by decide +kernel
theorem dX8_isCapFullNow_42 : decode cX8_isCapFullNow 42 = .ok (.if_icmp .ne 18, 3) := by decide +kernel
theorem dX8_isCapFullNow_45 : decode cX8_isCapFullNow 45 = .ok (.aload_n 0, 1) := by decide +kernel
theorem dX8_isCapFullNow_46 : decode cX8_isCapFullNow 46 = .ok (.getfield 11, 3) := by decide +kernel
theorem dX8_isCapFullNow_49 : decode cX8_isCapFullNow 49 = .ok (.iload_n 3, 1) := by decide +kernel
theorem dX8_isCapFullNow_50 : decode cX8_isCapFullNow 50 = .ok (.aaload, 1) := by decide +kernel
theorem dX8_isCapFullNow_51 : decode cX8_isCapFullNow 51 = .ok (.invokevirtual 273, 3) := by decide +kernel
theorem dX8_isCapFullNow_54 : decode cX8_isCapFullNow 54 = .ok (.ifCond .ne 6, 3) := by decide +kernel
theorem dX8_isCapFullNow_57 : decode cX8_isCapFullNow 57 = .ok (.iinc 2 1, 3) := by decide +kernel
theorem dX8_isCapFullNow_60 : decode cX8_isCapFullNow 60 = .ok (.iinc 3 (-1), 3) := by decide +kernel
theorem dX8_isCapFullNow_63 : decode cX8_isCapFullNow 63 = .ok (.goto (-54), 3) := by decide +kernel
theorem dX8_isCapFullNow_66 : decode cX8_isCapFullNow 66 = .ok (.iload_n 2, 1) := by decide +kernel
theorem dX8_isCapFullNow_67 : decode cX8_isCapFullNow 67 = .ok (.aload_n 0, 1) := by decide +kernel
theorem dX8_isCapFullNow_68 : decode cX8_isCapFullNow 68 = .ok (.getfield 54, 3) := by decide +kernel
theorem dX8_isCapFullNow_71 : decode cX8_isCapFullNow 71 = .ok (.if_icmp .lt 7, 3) := by decide +kernel
theorem dX8_isCapFullNow_74 : decode cX8_isCapFullNow 74 = .ok (.iconst 1, 1) := by decide +kernel
theorem dX8_isCapFullNow_75 : decode cX8_isCapFullNow 75 = .ok (.goto 4, 3) := by decide +kernel
theorem dX8_isCapFullNow_78 : decode cX8_isCapFullNow 78 = .ok (.iconst 0, 1) := by decide +kernel
theorem dX8_isCapFullNow_79 : decode cX8_isCapFullNow 79 = .ok (.ireturn, 1) := by decide +kernel
theorem dX8_casesNow_0 : decode cX8_casesNow 0 = .ok (.aload_n 0, 1) := by decide +kernel
theorem dX8_casesNow_1 : decode cX8_casesNow 1 = .ok (.getfield 113, 3) := by decide +kernel
theorem dX8_casesNow_4 : decode cX8_casesNow 4 = .ok (.ifCond .eq 31, 3) := by decide +kernel
theorem dX8_casesNow_7 : decode cX8_casesNow 7 = .ok (.aload_n 0, 1) := by decide +kernel
theorem dX8_casesNow_8 : decode cX8_casesNow 8 = .ok (.getfield 43, 3) := by decide +kernel
theorem dX8_casesNow_11 : decode cX8_casesNow 11 = .ok (.aload_n 0, 1) := by decide +kernel
theorem dX8_casesNow_12 : decode cX8_casesNow 12 = .ok (.getfield 11, 3) := by decide +kernel
theorem dX8_casesNow_15 : decode cX8_casesNow 15 = .ok (.aload_n 0, 1) := by decide +kernel
theorem dX8_casesNow_16 : decode cX8_casesNow 16 = .ok (.getfield 79, 3) := by decide +kernel
theorem dX8_casesNow_19 : decode cX8_casesNow 19 = .ok (.aload_n 0, 1) := by decide +kernel
theorem dX8_casesNow_20 : decode cX8_casesNow 20 = .ok (.getfield 36, 3) := by decide +kernel
theorem dX8_casesNow_23 : decode cX8_casesNow 23 = .ok (.aload_n 0, 1) := by decide +kernel
theorem dX8_casesNow_24 : decode cX8_casesNow 24 = .ok (.getfield 58, 3) := by decide +kernel
theorem dX8_casesNow_27 : decode cX8_casesNow 27 = .ok (.invokevirtual 282, 3) := by decide +kernel
theorem dX8_casesNow_30 : decode cX8_casesNow 30 = .ok (.aload_n 0, 1) := by decide +kernel
theorem dX8_casesNow_31 : decode cX8_casesNow 31 = .ok (.iconst 0, 1) := by decide +kernel
theorem dX8_casesNow_32 : decode cX8_casesNow 32 = .ok (.putfield 113, 3) := by decide +kernel
theorem dX8_casesNow_35 : decode cX8_casesNow 35 = .ok (.aload_n 0, 1) := by decide +kernel
theorem dX8_casesNow_36 : decode cX8_casesNow 36 = .ok (.getfield 43, 3) := by decide +kernel
theorem dX8_casesNow_39 : decode cX8_casesNow 39 = .ok (.areturn, 1) := by decide +kernel
theorem dX8_caseNumberOf_0 : decode cX8_caseNumberOf 0 = .ok (.aload_n 0, 1) := by decide +kernel
theorem dX8_caseNumberOf_1 : decode cX8_caseNumberOf 1 = .ok (.invokevirtual 214, 3) := by decide +kernel
theorem dX8_caseNumberOf_4 : decode cX8_caseNumberOf 4 = .ok (.pop, 1) := by decide +kernel
theorem dX8_caseNumberOf_5 : decode cX8_caseNumberOf 5 = .ok (.aload_n 1, 1) := by decide +kernel
theorem dX8_caseNumberOf_6 : decode cX8_caseNumberOf 6 = .ok (.invokevirtual 225, 3) := by decide +kernel
theorem dX8_caseNumberOf_9 : decode cX8_caseNumberOf 9 = .ok (.ifCond .eq 13, 3) := by decide +kernel
theorem dX8_caseNumberOf_12 : decode cX8_caseNumberOf 12 = .ok (.aload_n 1, 1) := by decide +kernel
theorem dX8_caseNumberOf_13 : decode cX8_caseNumberOf 13 = .ok (.invokevirtual 286, 3) := by decide +kernel
theorem dX8_caseNumberOf_16 : decode cX8_caseNumberOf 16 = .ok (.getfield 76, 3) := by decide +kernel
theorem dX8_caseNumberOf_19 : decode cX8_caseNumberOf 19 = .ok (.goto 4, 3) := by decide +kernel
theorem dX8_caseNumberOf_22 : decode cX8_caseNumberOf 22 = .ok (.iconst (-1), 1) := by decide +kernel
theorem dX8_caseNumberOf_23 : decode cX8_caseNumberOf 23 = .ok (.ireturn, 1) := by decide +kernel
theorem dX8_memberOf_0 : decode cX8_memberOf 0 = .ok (.iload_n 2, 1) := by decide +kernel
theorem dX8_memberOf_1 : decode cX8_memberOf 1 = .ok (.istore_n 3, 1) := by decide +kernel
theorem dX8_memberOf_2 : decode cX8_memberOf 2 = .ok (.aload_n 1, 1) := by decide +kernel
theorem dX8_memberOf_3 : decode cX8_memberOf 3 = .ok (.getfield 76, 3) := by decide +kernel
theorem dX8_memberOf_6 : decode cX8_memberOf 6 = .ok (.istore 4, 2) := by decide +kernel
theorem dX8_memberOf_8 : decode cX8_memberOf 8 = .ok (.iload 4, 2) := by decide +kernel
theorem dX8_memberOf_10 : decode cX8_memberOf 10 = .ok (.aload_n 0, 1) := by decide +kernel
theorem dX8_memberOf_11 : decode cX8_memberOf 11 = .ok (.getfield 79, 3) := by decide +kernel
theorem dX8_memberOf_14 : decode cX8_memberOf 14 = .ok (.if_icmp .ge 48, 3) := by decide +kernel
theorem dX8_memberOf_17 : decode cX8_memberOf 17 = .ok (.aload_n 0, 1) := by decide +kernel
theorem dX8_memberOf_18 : decode cX8_memberOf 18 = .ok (.getfield 11, 3) := by decide +kernel
theorem dX8_memberOf_21 : decode cX8_memberOf 21 = .ok (.iload 4, 2) := by decide +kernel
theorem dX8_memberOf_23 : decode cX8_memberOf 23 = .ok (.aaload, 1) := by decide +kernel
theorem dX8_memberOf_24 : decode cX8_memberOf 24 = .ok (.astore 5, 2) := by decide +kernel
theorem dX8_memberOf_26 : decode cX8_memberOf 26 = .ok (.aload 5, 2) := by decide +kernel
theorem dX8_memberOf_28 : decode cX8_memberOf 28 = .ok (.invokevirtual 225, 3) := by decide +kernel
theorem dX8_memberOf_31 : decode cX8_memberOf 31 = .ok (.ifCond .eq 25, 3) := by decide +kernel
theorem dX8_memberOf_34 : decode cX8_memberOf 34 = .ok (.aload 5, 2) := by decide +kernel
theorem dX8_memberOf_36 : decode cX8_memberOf 36 = .ok (.invokevirtual 286, 3) := by decide +kernel
theorem dX8_memberOf_39 : decode cX8_memberOf 39 = .ok (.aload_n 1, 1) := by decide +kernel
theorem dX8_memberOf_40 : decode cX8_memberOf 40 = .ok (.if_acmp .ne 16, 3) := by decide +kernel
theorem dX8_memberOf_43 : decode cX8_memberOf 43 = .ok (.iload_n 3, 1) := by decide +kernel
theorem dX8_memberOf_44 : decode cX8_memberOf 44 = .ok (.ifCond .ne 9, 3) := by decide +kernel
theorem dX8_memberOf_47 : decode cX8_memberOf 47 = .ok (.aload 5, 2) := by decide +kernel
theorem dX8_memberOf_49 : decode cX8_memberOf 49 = .ok (.getfield 76, 3) := by decide +kernel
theorem dX8_memberOf_52 : decode cX8_memberOf 52 = .ok (.ireturn, 1) := by decide +kernel
theorem dX8_memberOf_53 : decode cX8_memberOf 53 = .ok (.iinc 3 (-1), 3) := by decide +kernel
theorem dX8_memberOf_56 : decode cX8_memberOf 56 = .ok (.iinc 4 1, 3) := by decide +kernel
theorem dX8_memberOf_59 : decode cX8_memberOf 59 = .ok (.goto (-51), 3) := by decide +kernel
theorem dX8_memberOf_62 : decode cX8_memberOf 62 = .ok (.iconst (-1), 1) := by decide +kernel
theorem dX8_memberOf_63 : decode cX8_memberOf 63 = .ok (.ireturn, 1) := by decide +kernel
theorem dX9_init_0 : decode cX9_init 0 = .ok (.aload_n 0, 1) := by decide +kernel
theorem dX9_init_1 : decode cX9_init 1 = .ok (.invokespecial 1, 3) := by decide +kernel
theorem dX9_init_4 : decode cX9_init 4 = .ok (.aload_n 0, 1) := by decide +kernel
theorem dX9_init_5 : decode cX9_init 5 = .ok (.bipush 50, 2) := by decide +kernel
theorem dX9_init_7 : decode cX9_init 7 = .ok (.putfield 7, 3) := by decide +kernel
theorem dX9_init_10 : decode cX9_init 10 = .ok (.aload_n 0, 1) := by decide +kernel
theorem dX9_init_11 : decode cX9_init 11 = .ok (.iconst 3, 1) := by decide +kernel
theorem dX9_init_12 : decode cX9_init 12 = .ok (.putfield 13, 3) := by decide +kernel
theorem dX9_init_15 : decode cX9_init 15 = .ok (.aload_n 0, 1) := by decide +kernel
theorem dX9_init_16 : decode cX9_init 16 = .ok (.sipush 200, 3) := by decide +kernel
theorem dX9_init_19 : decode cX9_init 19 = .ok (.newarray .int, 2) := by decide +kernel
theorem dX9_init_21 : decode cX9_init 21 = .ok (.putfield 16, 3) := by decide +kernel
theorem dX9_init_24 : decode cX9_init 24 = .ok (.aload_n 0, 1) := by decide +kernel
theorem dX9_init_25 : decode cX9_init 25 = .ok (.sipush 200, 3) := by decide +kernel
theorem dX9_init_28 : decode cX9_init 28 = .ok (.newarray .int, 2) := by decide +kernel
theorem dX9_init_30 : decode cX9_init 30 = .ok (.putfield 20, 3) := by decide +kernel
theorem dX9_init_33 : decode cX9_init 33 = .ok (.aload_n 0, 1) := by decide +kernel
theorem dX9_init_34 : decode cX9_init 34 = .ok (.sipush 200, 3) := by decide +kernel
theorem dX9_init_37 : decode cX9_init 37 = .ok (.newarray .int, 2) := by decide +kernel
theorem dX9_init_39 : decode cX9_init 39 = .ok (.putfield 23, 3) := by decide +kernel
theorem dX9_init_42 : decode cX9_init 42 = .ok (.aload_n 0, 1) := by decide +kernel
theorem dX9_init_43 : decode cX9_init 43 = .ok (.sipush 200, 3) := by decide +kernel
theorem dX9_init_46 : decode cX9_init 46 = .ok (.newarray .int, 2) := by decide +kernel
theorem dX9_init_48 : decode cX9_init 48 = .ok (.putfield 26, 3) := by decide +kernel
theorem dX9_init_51 : decode cX9_init 51 = .ok (.aload_n 0, 1) := by decide +kernel
theorem dX9_init_52 : decode cX9_init 52 = .ok (.sipush 200, 3) := by decide +kernel
theorem dX9_init_55 : decode cX9_init 55 = .ok (.newarray .int, 2) := by decide +kernel
theorem dX9_init_57 : decode cX9_init 57 = .ok (.putfield 29, 3) := by decide +kernel
theorem dX9_init_60 : decode cX9_init 60 = .ok (.aload_n 0, 1) := by decide +kernel
theorem dX9_init_61 : decode cX9_init 61 = .ok (.sipush 200, 3) := by decide +kernel
theorem dX9_init_64 : decode cX9_init 64 = .ok (.newarray .int, 2) := by decide +kernel
theorem dX9_init_66 : decode cX9_init 66 = .ok (.putfield 32, 3) := by decide +kernel
theorem dX9_init_69 : decode cX9_init 69 = .ok (.aload_n 0, 1) := by decide +kernel
theorem dX9_init_70 : decode cX9_init 70 = .ok (.sipush 200, 3) := by decide +kernel
theorem dX9_init_73 : decode cX9_init 73 = .ok (.newarray .int, 2) := by decide +kernel
theorem dX9_init_75 : decode cX9_init 75 = .ok (.putfield 35, 3) := by decide +kernel
theorem dX9_init_78 : decode cX9_init 78 = .ok (.aload_n 0, 1) := by decide +kernel
theorem dX9_init_79 : decode cX9_init 79 = .ok (.sipush 200, 3) := by decide +kernel
theorem dX9_init_82 : decode cX9_init 82 = .ok (.newarray .int, 2) := by decide +kernel
theorem dX9_init_84 : decode cX9_init 84 = .ok (.putfield 38, 3) := by decide +kernel
theorem dX9_init_87 : decode cX9_init 87 = .ok (.aload_n 0, 1) := by decide +kernel
theorem dX9_init_88 : decode cX9_init 88 = .ok (.sipush 200, 3) := by decide +kernel
theorem dX9_init_91 : decode cX9_init 91 = .ok (.newarray .int, 2) := by decide +kernel
theorem dX9_init_93 : decode cX9_init 93 = .ok (.putfield 41, 3) := by decide +kernel
theorem dX9_init_96 : decode cX9_init 96 = .ok (.aload_n 0, 1) := by decide +kernel
theorem dX9_init_97 : decode cX9_init 97 = .ok (.sipush 200, 3) := by decide +kernel
theorem dX9_init_100 : decode cX9_init 100 = .ok (.newarray .int, 2) := by decide +kernel
theorem dX9_init_102 : decode cX9_init 102 = .ok (.putfield 44, 3) := by decide +kernel
theorem dX9_init_105 : decode cX9_init 105 = .ok (.aload_n 0, 1) := by decide +kernel
theorem dX9_init_106 : decode cX9_init 106 = .ok (.sipush 200, 3) := by decide +kernel
theorem dX9_init_109 : decode cX9_init 109 = .ok (.newarray .boolean, 2) := by decide +kernel
theorem dX9_init_111 : decode cX9_init 111 = .ok (.putfield 47, 3) := by decide +kernel
theorem dX9_init_114 : decode cX9_init 114 = .ok (.aload_n 0, 1) := by decide +kernel
theorem dX9_init_115 : decode cX9_init 115 = .ok (.sipush 200, 3) := by decide +kernel
theorem dX9_init_118 : decode cX9_init 118 = .ok (.newarray .boolean, 2) := by decide +kernel
theorem dX9_init_120 : decode cX9_init 120 = .ok (.putfield 51, 3) := by decide +kernel
theorem dX9_init_123 : decode cX9_init 123 = .ok (.aload_n 0, 1) := by decide +kernel
theorem dX9_init_124 : decode cX9_init 124 = .ok (.bipush 30, 2) := by decide +kernel
theorem dX9_init_126 : decode cX9_init 126 = .ok (.newarray .int, 2) := by decide +kernel
theorem dX9_init_128 : decode cX9_init 128 = .ok (.putfield 54, 3) := by decide +kernel
theorem dX9_init_131 : decode cX9_init 131 = .ok (.aload_n 0, 1) := by decide +kernel
theorem dX9_init_132 : decode cX9_init 132 = .ok (.bipush 30, 2) := by decide +kernel
theorem dX9_init_134 : decode cX9_init 134 = .ok (.newarray .int, 2) := by decide +kernel
theorem dX9_init_136 : decode cX9_init 136 = .ok (.putfield 57, 3) := by decide +kernel
theorem dX9_init_139 : decode cX9_init 139 = .ok (.aload_n 0, 1) := by decide +kernel
theorem dX9_init_140 : decode cX9_init 140 = .ok (.bipush 30, 2) := by decide +kernel
theorem dX9_init_142 : decode cX9_init 142 = .ok (.newarray .int, 2) := by decide +kernel
theorem dX9_init_144 : decode cX9_init 144 = .ok (.putfield 60, 3) := by decide +kernel
theorem dX9_init_147 : decode cX9_init 147 = .ok (.aload_n 0, 1) := by decide +kernel
theorem dX9_init_148 : decode cX9_init 148 = .ok (.bipush 60, 2) := by decide +kernel
theorem dX9_init_150 : decode cX9_init 150 = .ok (.newarray .int, 2) := by decide +kernel
theorem dX9_init_152 : decode cX9_init 152 = .ok (.putfield 63, 3) := by decide +kernel
theorem dX9_init_155 : decode cX9_init 155 = .ok (.aload_n 0, 1) := by decide +kernel
theorem dX9_init_156 : decode cX9_init 156 = .ok (.bipush 60, 2) := by decide +kernel
theorem dX9_init_158 : decode cX9_init 158 = .ok (.newarray .int, 2) := by decide +kernel
theorem dX9_init_160 : decode cX9_init 160 = .ok (.putfield 66, 3) := by decide +kernel
theorem dX9_init_163 : decode cX9_init 163 = .ok (.aload_n 0, 1) := by decide +kernel
theorem dX9_init_164 : decode cX9_init 164 = .ok (.bipush 60, 2) := by decide +kernel
theorem dX9_init_166 : decode cX9_init 166 = .ok (.newarray .boolean, 2) := by decide +kernel
theorem dX9_init_168 : decode cX9_init 168 = .ok (.putfield 69, 3) := by decide +kernel
theorem dX9_init_171 : decode cX9_init 171 = .ok (.aload_n 0, 1) := by decide +kernel
theorem dX9_init_172 : decode cX9_init 172 = .ok (.sipush 200, 3) := by decide +kernel
theorem dX9_init_175 : decode cX9_init 175 = .ok (.newarray .int, 2) := by decide +kernel
theorem dX9_init_177 : decode cX9_init 177 = .ok (.putfield 72, 3) := by decide +kernel
theorem dX9_init_180 : decode cX9_init 180 = .ok (.aload_n 0, 1) := by decide +kernel
theorem dX9_init_181 : decode cX9_init 181 = .ok (.sipush 200, 3) := by decide +kernel
theorem dX9_init_184 : decode cX9_init 184 = .ok (.newarray .int, 2) := by decide +kernel
theorem dX9_init_186 : decode cX9_init 186 = .ok (.putfield 75, 3) := by decide +kernel
theorem dX9_init_189 : decode cX9_init 189 = .ok (.aload_n 0, 1) := by decide +kernel
theorem dX9_init_190 : decode cX9_init 190 = .ok (.sipush 200, 3) := by decide +kernel
theorem dX9_init_193 : decode cX9_init 193 = .ok (.newarray .int, 2) := by decide +kernel
theorem dX9_init_195 : decode cX9_init 195 = .ok (.putfield 78, 3) := by decide +kernel
theorem dX9_init_198 : decode cX9_init 198 = .ok (.aload_n 0, 1) := by decide +kernel
theorem dX9_init_199 : decode cX9_init 199 = .ok (.bipush 20, 2) := by decide +kernel
theorem dX9_init_201 : decode cX9_init 201 = .ok (.newarray .int, 2) := by decide +kernel
theorem dX9_init_203 : decode cX9_init 203 = .ok (.putfield 81, 3) := by decide +kernel
theorem dX9_init_206 : decode cX9_init 206 = .ok (.aload_n 0, 1) := by decide +kernel
theorem dX9_init_207 : decode cX9_init 207 = .ok (.bipush 12, 2) := by decide +kernel
theorem dX9_init_209 : decode cX9_init 209 = .ok (.newarray .int, 2) := by decide +kernel
theorem dX9_init_211 : decode cX9_init 211 = .ok (.putfield 84, 3) := by decide +kernel
theorem dX9_init_214 : decode cX9_init 214 = .ok (.aload_n 0, 1) := by decide +kernel
theorem dX9_init_215 : decode cX9_init 215 = .ok (.bipush 12, 2) := by decide +kernel
theorem dX9_init_217 : decode cX9_init 217 = .ok (.newarray .int, 2) := by decide +kernel
theorem dX9_init_219 : decode cX9_init 219 = .ok (.putfield 87, 3) := by decide +kernel
theorem dX9_init_222 : decode cX9_init 222 = .ok (.aload_n 0, 1) := by decide +kernel
theorem dX9_init_223 : decode cX9_init 223 = .ok (.bipush 12, 2) := by decide +kernel
theorem dX9_init_225 : decode cX9_init 225 = .ok (.newarray .int, 2) := by decide +kernel
theorem dX9_init_227 : decode cX9_init 227 = .ok (.putfield 90, 3) := by decide +kernel
theorem dX9_init_230 : decode cX9_init 230 = .ok (.return_, 1) := by decide +kernel
theorem dX9_isIn_0 : decode cX9_isIn 0 = .ok (.iload_n 0, 1) := by decide +kernel
theorem dX9_isIn_1 : decode cX9_isIn 1 = .ok (.iload_n 1, 1) := by decide +kernel
theorem dX9_isIn_2 : decode cX9_isIn 2 = .ok (.if_icmp .lt 12, 3) := by decide +kernel
theorem dX9_isIn_5 : decode cX9_isIn 5 = .ok (.iload_n 0, 1) := by decide +kernel
theorem dX9_isIn_6 : decode cX9_isIn 6 = .ok (.iload_n 2, 1) := by decide +kernel
theorem dX9_isIn_7 : decode cX9_isIn 7 = .ok (.if_icmp .gt 7, 3) := by decide +kernel
theorem dX9_isIn_10 : decode cX9_isIn 10 = .ok (.iconst 1, 1) := by decide +kernel
theorem dX9_isIn_11 : decode cX9_isIn 11 = .ok (.goto 4, 3) := by decide +kernel
theorem dX9_isIn_14 : decode cX9_isIn 14 = .ok (.iconst 0, 1) := by decide +kernel
theorem dX9_isIn_15 : decode cX9_isIn 15 = .ok (.ireturn, 1) := by decide +kernel
theorem dX9_one_0 : decode cX9_one 0 = .ok (.iload_n 0, 1) := by decide +kernel
theorem dX9_one_1 : decode cX9_one 1 = .ok (.ifCond .eq 7, 3) := by decide +kernel
theorem dX9_one_4 : decode cX9_one 4 = .ok (.iconst 1, 1) := by decide +kernel
theorem dX9_one_5 : decode cX9_one 5 = .ok (.goto 4, 3) := by decide +kernel
theorem dX9_one_8 : decode cX9_one 8 = .ok (.iconst 0, 1) := by decide +kernel
theorem dX9_one_9 : decode cX9_one 9 = .ok (.ireturn, 1) := by decide +kernel
theorem dX9_isAlarm_0 : decode cX9_isAlarm 0 = .ok (.iload_n 1, 1) := by decide +kernel
theorem dX9_isAlarm_1 : decode cX9_isAlarm 1 = .ok (.iconst 0, 1) := by decide +kernel
theorem dX9_isAlarm_2 : decode cX9_isAlarm 2 = .ok (.aload_n 0, 1) := by decide +kernel
theorem dX9_isAlarm_3 : decode cX9_isAlarm 3 = .ok (.getfield 93, 3) := by decide +kernel
theorem dX9_isAlarm_6 : decode cX9_isAlarm 6 = .ok (.iconst 1, 1) := by decide +kernel
theorem dX9_isAlarm_7 : decode cX9_isAlarm 7 = .ok (.isub, 1) := by decide +kernel
theorem dX9_isAlarm_8 : decode cX9_isAlarm 8 = .ok (.invokestatic 96, 3) := by decide +kernel
theorem dX9_isAlarm_11 : decode cX9_isAlarm 11 = .ok (.ireturn, 1) := by decide +kernel
theorem dX9_pass_0 : decode cX9_pass 0 = .ok (.iload_n 1, 1) := by decide +kernel
theorem dX9_pass_1 : decode cX9_pass 1 = .ok (.iconst 1, 1) := by decide +kernel
theorem dX9_pass_2 : decode cX9_pass 2 = .ok (.sipush 1000, 3) := by decide +kernel
theorem dX9_pass_5 : decode cX9_pass 5 = .ok (.invokestatic 96, 3) := by decide +kernel
theorem dX9_pass_8 : decode cX9_pass 8 = .ok (.ifCond .eq 15, 3) := by decide +kernel
theorem dX9_pass_11 : decode cX9_pass 11 = .ok (.aload_n 0, 1) := by decide +kernel
theorem dX9_pass_12 : decode cX9_pass 12 = .ok (.getfield 100, 3) := by decide +kernel
theorem dX9_pass_15 : decode cX9_pass 15 = .ok (.iload_n 1, 1) := by decide +kernel
theorem dX9_pass_16 : decode cX9_pass 16 = .ok (.iadd, 1) := by decide +kernel
theorem dX9_pass_17 : decode cX9_pass 17 = .ok (.sipush 10000, 3) := by decide +kernel
theorem dX9_pass_20 : decode cX9_pass 20 = .ok (.if_icmp .le 5, 3) := by decide +kernel
theorem dX9_pass_23 : decode cX9_pass 23 = .ok (.iconst (-1), 1) := by decide +kernel
theorem dX9_pass_24 : decode cX9_pass 24 = .ok (.ireturn, 1) := by decide +kernel
theorem dX9_pass_25 : decode cX9_pass 25 = .ok (.aload_n 0, 1) := by decide +kernel
theorem dX9_pass_26 : decode cX9_pass 26 = .ok (.dup, 1) := by decide +kernel
theorem dX9_pass_27 : decode cX9_pass 27 = .ok (.getfield 100, 3) := by decide +kernel
theorem dX9_pass_30 : decode cX9_pass 30 = .ok (.iload_n 1, 1) := by decide +kernel
theorem dX9_pass_31 : decode cX9_pass 31 = .ok (.iadd, 1) := by decide +kernel
theorem dX9_pass_32 : decode cX9_pass 32 = .ok (.putfield 100, 3) := by decide +kernel
theorem dX9_pass_35 : decode cX9_pass 35 = .ok (.aload_n 0, 1) := by decide +kernel
theorem dX9_pass_36 : decode cX9_pass 36 = .ok (.getfield 100, 3) := by decide +kernel
theorem dX9_pass_39 : decode cX9_pass 39 = .ok (.ireturn, 1) := by decide +kernel
theorem dX9_isLive_0 : decode cX9_isLive 0 = .ok (.aload_n 0, 1) := by decide +kernel
theorem dX9_isLive_1 : decode cX9_isLive 1 = .ok (.getfield 38, 3) := by decide +kernel
theorem dX9_isLive_4 : decode cX9_isLive 4 = .ok (.iload_n 1, 1) := by decide +kernel
theorem dX9_isLive_5 : decode cX9_isLive 5 = .ok (.iaload, 1) := by decide +kernel
theorem dX9_isLive_6 : decode cX9_isLive 6 = .ok (.ifCond .ne 25, 3) := by decide +kernel
theorem dX9_isLive_9 : decode cX9_isLive 9 = .ok (.aload_n 0, 1) := by decide +kernel
theorem dX9_isLive_10 : decode cX9_isLive 10 = .ok (.getfield 47, 3) := by decide +kernel
theorem dX9_isLive_13 : decode cX9_isLive 13 = .ok (.iload_n 1, 1) := by decide +kernel
theorem dX9_isLive_14 : decode cX9_isLive 14 = .ok (.baload, 1) := by decide +kernel
theorem dX9_isLive_15 : decode cX9_isLive 15 = .ok (.ifCond .ne 16, 3) := by decide +kernel
theorem dX9_isLive_18 : decode cX9_isLive 18 = .ok (.aload_n 0, 1) := by decide +kernel
theorem dX9_isLive_19 : decode cX9_isLive 19 = .ok (.getfield 51, 3) := by decide +kernel
theorem dX9_isLive_22 : decode cX9_isLive 22 = .ok (.iload_n 1, 1) := by decide +kernel
theorem dX9_isLive_23 : decode cX9_isLive 23 = .ok (.baload, 1) := by decide +kernel
theorem dX9_isLive_24 : decode cX9_isLive 24 = .ok (.ifCond .ne 7, 3) := by decide +kernel
theorem dX9_isLive_27 : decode cX9_isLive 27 = .ok (.iconst 1, 1) := by decide +kernel
theorem dX9_isLive_28 : decode cX9_isLive 28 = .ok (.goto 4, 3) := by decide +kernel
theorem dX9_isLive_31 : decode cX9_isLive 31 = .ok (.iconst 0, 1) := by decide +kernel
theorem dX9_isLive_32 : decode cX9_isLive 32 = .ok (.ireturn, 1) := by decide +kernel
theorem dX9_alarm_0 : decode cX9_alarm 0 = .ok (.iload_n 1, 1) := by decide +kernel
theorem dX9_alarm_1 : decode cX9_alarm 1 = .ok (.iconst 0, 1) := by decide +kernel
theorem dX9_alarm_2 : decode cX9_alarm 2 = .ok (.bipush 9, 2) := by decide +kernel
theorem dX9_alarm_4 : decode cX9_alarm 4 = .ok (.invokestatic 96, 3) := by decide +kernel
theorem dX9_alarm_7 : decode cX9_alarm 7 = .ok (.ifCond .eq 35, 3) := by decide +kernel
theorem dX9_alarm_10 : decode cX9_alarm 10 = .ok (.iload_n 2, 1) := by decide +kernel
theorem dX9_alarm_11 : decode cX9_alarm 11 = .ok (.iconst 0, 1) := by decide +kernel
theorem dX9_alarm_12 : decode cX9_alarm 12 = .ok (.bipush 39, 2) := by decide +kernel
theorem dX9_alarm_14 : decode cX9_alarm 14 = .ok (.invokestatic 96, 3) := by decide +kernel
theorem dX9_alarm_17 : decode cX9_alarm 17 = .ok (.ifCond .eq 25, 3) := by decide +kernel
theorem dX9_alarm_20 : decode cX9_alarm 20 = .ok (.iload_n 3, 1) := by decide +kernel
theorem dX9_alarm_21 : decode cX9_alarm 21 = .ok (.iconst 0, 1) := by decide +kernel
theorem dX9_alarm_22 : decode cX9_alarm 22 = .ok (.sipush 4095, 3) := by decide +kernel
theorem dX9_alarm_25 : decode cX9_alarm 25 = .ok (.invokestatic 96, 3) := by decide +kernel
theorem dX9_alarm_28 : decode cX9_alarm 28 = .ok (.ifCond .eq 14, 3) := by decide +kernel
theorem dX9_alarm_31 : decode cX9_alarm 31 = .ok (.iload 4, 2) := by decide +kernel
theorem dX9_alarm_33 : decode cX9_alarm 33 = .ok (.iconst 1, 1) := by decide +kernel
theorem dX9_alarm_34 : decode cX9_alarm 34 = .ok (.bipush 100, 2) := by decide +kernel
theorem dX9_alarm_36 : decode cX9_alarm 36 = .ok (.invokestatic 96, 3) := by decide +kernel
theorem dX9_alarm_39 : decode cX9_alarm 39 = .ok (.ifCond .ne 6, 3) := by decide +kernel
theorem dX9_alarm_42 : decode cX9_alarm 42 = .ok (.bipush (-2), 2) := by decide +kernel
theorem dX9_alarm_44 : decode cX9_alarm 44 = .ok (.ireturn, 1) := by decide +kernel
theorem dX9_alarm_45 : decode cX9_alarm 45 = .ok (.aload_n 0, 1) := by decide +kernel
theorem dX9_alarm_46 : decode cX9_alarm 46 = .ok (.getfield 93, 3) := by decide +kernel
theorem dX9_alarm_49 : decode cX9_alarm 49 = .ok (.iconst 1, 1) := by decide +kernel
theorem dX9_alarm_50 : decode cX9_alarm 50 = .ok (.isub, 1) := by decide +kernel
theorem dX9_alarm_51 : decode cX9_alarm 51 = .ok (.istore 5, 2) := by decide +kernel
theorem dX9_alarm_53 : decode cX9_alarm 53 = .ok (.iload 5, 2) := by decide +kernel
theorem dX9_alarm_55 : decode cX9_alarm 55 = .ok (.ifCond .lt 96, 3) := by decide +kernel
theorem dX9_alarm_58 : decode cX9_alarm 58 = .ok (.aload_n 0, 1) := by decide +kernel
theorem dX9_alarm_59 : decode cX9_alarm 59 = .ok (.iload 5, 2) := by decide +kernel
theorem dX9_alarm_61 : decode cX9_alarm 61 = .ok (.invokevirtual 103, 3) := by decide +kernel
theorem dX9_alarm_64 : decode cX9_alarm 64 = .ok (.ifCond .eq 81, 3) := by decide +kernel
theorem dX9_alarm_67 : decode cX9_alarm 67 = .ok (.aload_n 0, 1) := by decide +kernel
theorem dX9_alarm_68 : decode cX9_alarm 68 = .ok (.getfield 23, 3) := by decide +kernel
theorem dX9_alarm_71 : decode cX9_alarm 71 = .ok (.iload 5, 2) := by decide +kernel
theorem dX9_alarm_73 : decode cX9_alarm 73 = .ok (.iaload, 1) := by decide +kernel
theorem dX9_alarm_74 : decode cX9_alarm 74 = .ok (.iload_n 1, 1) := by decide +kernel
theorem dX9_alarm_75 : decode cX9_alarm 75 = .ok (.if_icmp .ne 70, 3) := by decide +kernel
theorem dX9_alarm_78 : decode cX9_alarm 78 = .ok (.aload_n 0, 1) := by decide +kernel
theorem dX9_alarm_79 : decode cX9_alarm 79 = .ok (.getfield 26, 3) := by decide +kernel
theorem dX9_alarm_82 : decode cX9_alarm 82 = .ok (.iload 5, 2) := by decide +kernel
theorem dX9_alarm_84 : decode cX9_alarm 84 = .ok (.iaload, 1) := by decide +kernel
theorem dX9_alarm_85 : decode cX9_alarm 85 = .ok (.iload_n 2, 1) := by decide +kernel
theorem dX9_alarm_86 : decode cX9_alarm 86 = .ok (.if_icmp .ne 59, 3) := by decide +kernel
theorem dX9_alarm_89 : decode cX9_alarm 89 = .ok (.aload_n 0, 1) := by decide +kernel
theorem dX9_alarm_90 : decode cX9_alarm 90 = .ok (.getfield 29, 3) := by decide +kernel
theorem dX9_alarm_93 : decode cX9_alarm 93 = .ok (.iload 5, 2) := by decide +kernel
theorem dX9_alarm_95 : decode cX9_alarm 95 = .ok (.iaload, 1) := by decide +kernel
theorem dX9_alarm_96 : decode cX9_alarm 96 = .ok (.iload_n 3, 1) := by decide +kernel
theorem dX9_alarm_97 : decode cX9_alarm 97 = .ok (.if_icmp .ne 48, 3) := by decide +kernel
theorem dX9_alarm_100 : decode cX9_alarm 100 = .ok (.aload_n 0, 1) := by decide +kernel
theorem dX9_alarm_101 : decode cX9_alarm 101 = .ok (.getfield 100, 3) := by decide +kernel
theorem dX9_alarm_104 : decode cX9_alarm 104 = .ok (.aload_n 0, 1) := by decide +kernel
theorem dX9_alarm_105 : decode cX9_alarm 105 = .ok (.getfield 20, 3) := by decide +kernel
theorem dX9_alarm_108 : decode cX9_alarm 108 = .ok (.iload 5, 2) := by decide +kernel
theorem dX9_alarm_110 : decode cX9_alarm 110 = .ok (.iaload, 1) := by decide +kernel
theorem dX9_alarm_111 : decode cX9_alarm 111 = .ok (.isub, 1) := by decide +kernel
theorem dX9_alarm_112 : decode cX9_alarm 112 = .ok (.bipush 10, 2) := by decide +kernel
theorem dX9_alarm_114 : decode cX9_alarm 114 = .ok (.if_icmp .le 6, 3) := by decide +kernel
theorem dX9_alarm_117 : decode cX9_alarm 117 = .ok (.goto 28, 3) := by decide +kernel
theorem dX9_alarm_120 : decode cX9_alarm 120 = .ok (.aload_n 0, 1) := by decide +kernel
theorem dX9_alarm_121 : decode cX9_alarm 121 = .ok (.getfield 35, 3) := by decide +kernel
theorem dX9_alarm_124 : decode cX9_alarm 124 = .ok (.iload 5, 2) := by decide +kernel
theorem dX9_alarm_126 : decode cX9_alarm 126 = .ok (.dup2, 1) := by decide +kernel
theorem dX9_alarm_127 : decode cX9_alarm 127 = .ok (.iaload, 1) := by decide +kernel
theorem dX9_alarm_128 : decode cX9_alarm 128 = .ok (.iconst 1, 1) := by decide +kernel
theorem dX9_alarm_129 : decode cX9_alarm 129 = .ok (.iadd, 1) := by decide +kernel
theorem dX9_alarm_130 : decode cX9_alarm 130 = .ok (.iastore, 1) := by decide +kernel
theorem dX9_alarm_131 : decode cX9_alarm 131 = .ok (.aload_n 0, 1) := by decide +kernel
theorem dX9_alarm_132 : decode cX9_alarm 132 = .ok (.getfield 20, 3) := by decide +kernel
end
section
theorem dX9_alarm_135 : decode cX9_alarm 135 = .ok (.iload 5, 2) := by decide +kernel
theorem dX9_alarm_137 : decode cX9_alarm 137 = .ok (.aload_n 0, 1) := by decide +kernel
theorem dX9_alarm_138 : decode cX9_alarm 138 = .ok (.getfield 100, 3) := by decide +kernel
theorem dX9_alarm_141 : decode cX9_alarm 141 = .ok (.iastore, 1) := by decide +kernel
theorem dX9_alarm_142 : decode cX9_alarm 142 = .ok (.iload 5, 2) := by decide +kernel
theorem dX9_alarm_144 : decode cX9_alarm 144 = .ok (.ireturn, 1) := by decide +kernel
theorem dX9_alarm_145 : decode cX9_alarm 145 = .ok (.iinc 5 (-1), 3) := by decide +kernel
theorem dX9_alarm_148 : decode cX9_alarm 148 = .ok (.goto (-95), 3) := by decide +kernel
theorem dX9_alarm_151 : decode cX9_alarm 151 = .ok (.aload_n 0, 1) := by decide +kernel
theorem dX9_alarm_152 : decode cX9_alarm 152 = .ok (.getfield 93, 3) := by decide +kernel
theorem dX9_alarm_155 : decode cX9_alarm 155 = .ok (.sipush 200, 3) := by decide +kernel
theorem dX9_alarm_158 : decode cX9_alarm 158 = .ok (.if_icmp .ne 6, 3) := by decide +kernel
theorem dX9_alarm_161 : decode cX9_alarm 161 = .ok (.bipush (-3), 2) := by decide +kernel
theorem dX9_alarm_163 : decode cX9_alarm 163 = .ok (.ireturn, 1) := by decide +kernel
theorem dX9_alarm_164 : decode cX9_alarm 164 = .ok (.aload_n 0, 1) := by decide +kernel
theorem dX9_alarm_165 : decode cX9_alarm 165 = .ok (.getfield 93, 3) := by decide +kernel
theorem dX9_alarm_168 : decode cX9_alarm 168 = .ok (.istore 5, 2) := by decide +kernel
theorem dX9_alarm_170 : decode cX9_alarm 170 = .ok (.iconst 0, 1) := by decide +kernel
theorem dX9_alarm_171 : decode cX9_alarm 171 = .ok (.istore 6, 2) := by decide +kernel
theorem dX9_alarm_173 : decode cX9_alarm 173 = .ok (.iconst 0, 1) := by decide +kernel
theorem dX9_alarm_174 : decode cX9_alarm 174 = .ok (.istore 7, 2) := by decide +kernel
theorem dX9_alarm_176 : decode cX9_alarm 176 = .ok (.iload 7, 2) := by decide +kernel
theorem dX9_alarm_178 : decode cX9_alarm 178 = .ok (.iload 5, 2) := by decide +kernel
theorem dX9_alarm_180 : decode cX9_alarm 180 = .ok (.if_icmp .ge 70, 3) := by decide +kernel
theorem dX9_alarm_183 : decode cX9_alarm 183 = .ok (.iload 6, 2) := by decide +kernel
theorem dX9_alarm_185 : decode cX9_alarm 185 = .ok (.aload_n 0, 1) := by decide +kernel
theorem dX9_alarm_186 : decode cX9_alarm 186 = .ok (.getfield 23, 3) := by decide +kernel
theorem dX9_alarm_189 : decode cX9_alarm 189 = .ok (.iload 7, 2) := by decide +kernel
theorem dX9_alarm_191 : decode cX9_alarm 191 = .ok (.iaload, 1) := by decide +kernel
theorem dX9_alarm_192 : decode cX9_alarm 192 = .ok (.iload_n 1, 1) := by decide +kernel
theorem dX9_alarm_193 : decode cX9_alarm 193 = .ok (.if_icmp .ne 44, 3) := by decide +kernel
theorem dX9_alarm_196 : decode cX9_alarm 196 = .ok (.aload_n 0, 1) := by decide +kernel
theorem dX9_alarm_197 : decode cX9_alarm 197 = .ok (.getfield 47, 3) := by decide +kernel
theorem dX9_alarm_200 : decode cX9_alarm 200 = .ok (.iload 7, 2) := by decide +kernel
theorem dX9_alarm_202 : decode cX9_alarm 202 = .ok (.baload, 1) := by decide +kernel
theorem dX9_alarm_203 : decode cX9_alarm 203 = .ok (.ifCond .ne 34, 3) := by decide +kernel
theorem dX9_alarm_206 : decode cX9_alarm 206 = .ok (.aload_n 0, 1) := by decide +kernel
theorem dX9_alarm_207 : decode cX9_alarm 207 = .ok (.getfield 51, 3) := by decide +kernel
theorem dX9_alarm_210 : decode cX9_alarm 210 = .ok (.iload 7, 2) := by decide +kernel
theorem dX9_alarm_212 : decode cX9_alarm 212 = .ok (.baload, 1) := by decide +kernel
theorem dX9_alarm_213 : decode cX9_alarm 213 = .ok (.ifCond .ne 24, 3) := by decide +kernel
theorem dX9_alarm_216 : decode cX9_alarm 216 = .ok (.aload_n 0, 1) := by decide +kernel
theorem dX9_alarm_217 : decode cX9_alarm 217 = .ok (.getfield 100, 3) := by decide +kernel
theorem dX9_alarm_220 : decode cX9_alarm 220 = .ok (.aload_n 0, 1) := by decide +kernel
theorem dX9_alarm_221 : decode cX9_alarm 221 = .ok (.getfield 16, 3) := by decide +kernel
theorem dX9_alarm_224 : decode cX9_alarm 224 = .ok (.iload 7, 2) := by decide +kernel
theorem dX9_alarm_226 : decode cX9_alarm 226 = .ok (.iaload, 1) := by decide +kernel
theorem dX9_alarm_227 : decode cX9_alarm 227 = .ok (.isub, 1) := by decide +kernel
theorem dX9_alarm_228 : decode cX9_alarm 228 = .ok (.bipush 10, 2) := by decide +kernel
theorem dX9_alarm_230 : decode cX9_alarm 230 = .ok (.if_icmp .ge 7, 3) := by decide +kernel
theorem dX9_alarm_233 : decode cX9_alarm 233 = .ok (.iconst 1, 1) := by decide +kernel
theorem dX9_alarm_234 : decode cX9_alarm 234 = .ok (.goto 4, 3) := by decide +kernel
theorem dX9_alarm_237 : decode cX9_alarm 237 = .ok (.iconst 0, 1) := by decide +kernel
theorem dX9_alarm_238 : decode cX9_alarm 238 = .ok (.invokestatic 107, 3) := by decide +kernel
theorem dX9_alarm_241 : decode cX9_alarm 241 = .ok (.iadd, 1) := by decide +kernel
theorem dX9_alarm_242 : decode cX9_alarm 242 = .ok (.istore 6, 2) := by decide +kernel
theorem dX9_alarm_244 : decode cX9_alarm 244 = .ok (.iinc 7 1, 3) := by decide +kernel
theorem dX9_alarm_247 : decode cX9_alarm 247 = .ok (.goto (-71), 3) := by decide +kernel
theorem dX9_alarm_250 : decode cX9_alarm 250 = .ok (.iconst 0, 1) := by decide +kernel
theorem dX9_alarm_251 : decode cX9_alarm 251 = .ok (.istore 7, 2) := by decide +kernel
theorem dX9_alarm_253 : decode cX9_alarm 253 = .ok (.iload 7, 2) := by decide +kernel
theorem dX9_alarm_255 : decode cX9_alarm 255 = .ok (.aload_n 0, 1) := by decide +kernel
theorem dX9_alarm_256 : decode cX9_alarm 256 = .ok (.getfield 111, 3) := by decide +kernel
theorem dX9_alarm_259 : decode cX9_alarm 259 = .ok (.if_icmp .ge 66, 3) := by decide +kernel
theorem dX9_alarm_262 : decode cX9_alarm 262 = .ok (.aload_n 0, 1) := by decide +kernel
theorem dX9_alarm_263 : decode cX9_alarm 263 = .ok (.getfield 47, 3) := by decide +kernel
theorem dX9_alarm_266 : decode cX9_alarm 266 = .ok (.iload 5, 2) := by decide +kernel
theorem dX9_alarm_268 : decode cX9_alarm 268 = .ok (.aload_n 0, 1) := by decide +kernel
theorem dX9_alarm_269 : decode cX9_alarm 269 = .ok (.getfield 47, 3) := by decide +kernel
theorem dX9_alarm_272 : decode cX9_alarm 272 = .ok (.iload 5, 2) := by decide +kernel
theorem dX9_alarm_274 : decode cX9_alarm 274 = .ok (.baload, 1) := by decide +kernel
theorem dX9_alarm_275 : decode cX9_alarm 275 = .ok (.ifCond .ne 38, 3) := by decide +kernel
theorem dX9_alarm_278 : decode cX9_alarm 278 = .ok (.aload_n 0, 1) := by decide +kernel
theorem dX9_alarm_279 : decode cX9_alarm 279 = .ok (.getfield 54, 3) := by decide +kernel
theorem dX9_alarm_282 : decode cX9_alarm 282 = .ok (.iload 7, 2) := by decide +kernel
theorem dX9_alarm_284 : decode cX9_alarm 284 = .ok (.iaload, 1) := by decide +kernel
theorem dX9_alarm_285 : decode cX9_alarm 285 = .ok (.iload_n 1, 1) := by decide +kernel
theorem dX9_alarm_286 : decode cX9_alarm 286 = .ok (.if_icmp .ne 31, 3) := by decide +kernel
theorem dX9_alarm_289 : decode cX9_alarm 289 = .ok (.aload_n 0, 1) := by decide +kernel
theorem dX9_alarm_290 : decode cX9_alarm 290 = .ok (.getfield 100, 3) := by decide +kernel
theorem dX9_alarm_293 : decode cX9_alarm 293 = .ok (.aload_n 0, 1) := by decide +kernel
theorem dX9_alarm_294 : decode cX9_alarm 294 = .ok (.getfield 57, 3) := by decide +kernel
theorem dX9_alarm_297 : decode cX9_alarm 297 = .ok (.iload 7, 2) := by decide +kernel
theorem dX9_alarm_299 : decode cX9_alarm 299 = .ok (.iaload, 1) := by decide +kernel
theorem dX9_alarm_300 : decode cX9_alarm 300 = .ok (.aload_n 0, 1) := by decide +kernel
theorem dX9_alarm_301 : decode cX9_alarm 301 = .ok (.getfield 60, 3) := by decide +kernel
theorem dX9_alarm_304 : decode cX9_alarm 304 = .ok (.iload 7, 2) := by decide +kernel
theorem dX9_alarm_306 : decode cX9_alarm 306 = .ok (.iaload, 1) := by decide +kernel
theorem dX9_alarm_307 : decode cX9_alarm 307 = .ok (.invokestatic 96, 3) := by decide +kernel
theorem dX9_alarm_310 : decode cX9_alarm 310 = .ok (.ifCond .eq 7, 3) := by decide +kernel
theorem dX9_alarm_313 : decode cX9_alarm 313 = .ok (.iconst 1, 1) := by decide +kernel
theorem dX9_alarm_314 : decode cX9_alarm 314 = .ok (.goto 4, 3) := by decide +kernel
theorem dX9_alarm_317 : decode cX9_alarm 317 = .ok (.iconst 0, 1) := by decide +kernel
theorem dX9_alarm_318 : decode cX9_alarm 318 = .ok (.bastore, 1) := by decide +kernel
theorem dX9_alarm_319 : decode cX9_alarm 319 = .ok (.iinc 7 1, 3) := by decide +kernel
theorem dX9_alarm_322 : decode cX9_alarm 322 = .ok (.goto (-69), 3) := by decide +kernel
theorem dX9_alarm_325 : decode cX9_alarm 325 = .ok (.aload_n 0, 1) := by decide +kernel
theorem dX9_alarm_326 : decode cX9_alarm 326 = .ok (.getfield 51, 3) := by decide +kernel
theorem dX9_alarm_329 : decode cX9_alarm 329 = .ok (.iload 5, 2) := by decide +kernel
theorem dX9_alarm_331 : decode cX9_alarm 331 = .ok (.aload_n 0, 1) := by decide +kernel
theorem dX9_alarm_332 : decode cX9_alarm 332 = .ok (.getfield 47, 3) := by decide +kernel
theorem dX9_alarm_335 : decode cX9_alarm 335 = .ok (.iload 5, 2) := by decide +kernel
theorem dX9_alarm_337 : decode cX9_alarm 337 = .ok (.baload, 1) := by decide +kernel
theorem dX9_alarm_338 : decode cX9_alarm 338 = .ok (.ifCond .ne 16, 3) := by decide +kernel
theorem dX9_alarm_341 : decode cX9_alarm 341 = .ok (.iload 6, 2) := by decide +kernel
theorem dX9_alarm_343 : decode cX9_alarm 343 = .ok (.aload_n 0, 1) := by decide +kernel
theorem dX9_alarm_344 : decode cX9_alarm 344 = .ok (.getfield 7, 3) := by decide +kernel
theorem dX9_alarm_347 : decode cX9_alarm 347 = .ok (.if_icmp .lt 7, 3) := by decide +kernel
theorem dX9_alarm_350 : decode cX9_alarm 350 = .ok (.iconst 1, 1) := by decide +kernel
theorem dX9_alarm_351 : decode cX9_alarm 351 = .ok (.goto 4, 3) := by decide +kernel
theorem dX9_alarm_354 : decode cX9_alarm 354 = .ok (.iconst 0, 1) := by decide +kernel
theorem dX9_alarm_355 : decode cX9_alarm 355 = .ok (.bastore, 1) := by decide +kernel
theorem dX9_alarm_356 : decode cX9_alarm 356 = .ok (.aload_n 0, 1) := by decide +kernel
theorem dX9_alarm_357 : decode cX9_alarm 357 = .ok (.dup, 1) := by decide +kernel
theorem dX9_alarm_358 : decode cX9_alarm 358 = .ok (.getfield 93, 3) := by decide +kernel
theorem dX9_alarm_361 : decode cX9_alarm 361 = .ok (.iconst 1, 1) := by decide +kernel
theorem dX9_alarm_362 : decode cX9_alarm 362 = .ok (.iadd, 1) := by decide +kernel
theorem dX9_alarm_363 : decode cX9_alarm 363 = .ok (.putfield 93, 3) := by decide +kernel
theorem dX9_alarm_366 : decode cX9_alarm 366 = .ok (.aload_n 0, 1) := by decide +kernel
theorem dX9_alarm_367 : decode cX9_alarm 367 = .ok (.getfield 16, 3) := by decide +kernel
theorem dX9_alarm_370 : decode cX9_alarm 370 = .ok (.iload 5, 2) := by decide +kernel
theorem dX9_alarm_372 : decode cX9_alarm 372 = .ok (.aload_n 0, 1) := by decide +kernel
theorem dX9_alarm_373 : decode cX9_alarm 373 = .ok (.getfield 100, 3) := by decide +kernel
theorem dX9_alarm_376 : decode cX9_alarm 376 = .ok (.iastore, 1) := by decide +kernel
theorem dX9_alarm_377 : decode cX9_alarm 377 = .ok (.aload_n 0, 1) := by decide +kernel
theorem dX9_alarm_378 : decode cX9_alarm 378 = .ok (.getfield 20, 3) := by decide +kernel
theorem dX9_alarm_381 : decode cX9_alarm 381 = .ok (.iload 5, 2) := by decide +kernel
theorem dX9_alarm_383 : decode cX9_alarm 383 = .ok (.aload_n 0, 1) := by decide +kernel
theorem dX9_alarm_384 : decode cX9_alarm 384 = .ok (.getfield 100, 3) := by decide +kernel
theorem dX9_alarm_387 : decode cX9_alarm 387 = .ok (.iastore, 1) := by decide +kernel
theorem dX9_alarm_388 : decode cX9_alarm 388 = .ok (.aload_n 0, 1) := by decide +kernel
theorem dX9_alarm_389 : decode cX9_alarm 389 = .ok (.getfield 23, 3) := by decide +kernel
theorem dX9_alarm_392 : decode cX9_alarm 392 = .ok (.iload 5, 2) := by decide +kernel
theorem dX9_alarm_394 : decode cX9_alarm 394 = .ok (.iload_n 1, 1) := by decide +kernel
theorem dX9_alarm_395 : decode cX9_alarm 395 = .ok (.iastore, 1) := by decide +kernel
theorem dX9_alarm_396 : decode cX9_alarm 396 = .ok (.aload_n 0, 1) := by decide +kernel
theorem dX9_alarm_397 : decode cX9_alarm 397 = .ok (.getfield 26, 3) := by decide +kernel
theorem dX9_alarm_400 : decode cX9_alarm 400 = .ok (.iload 5, 2) := by decide +kernel
theorem dX9_alarm_402 : decode cX9_alarm 402 = .ok (.iload_n 2, 1) := by decide +kernel
theorem dX9_alarm_403 : decode cX9_alarm 403 = .ok (.iastore, 1) := by decide +kernel
theorem dX9_alarm_404 : decode cX9_alarm 404 = .ok (.aload_n 0, 1) := by decide +kernel
theorem dX9_alarm_405 : decode cX9_alarm 405 = .ok (.getfield 29, 3) := by decide +kernel
theorem dX9_alarm_408 : decode cX9_alarm 408 = .ok (.iload 5, 2) := by decide +kernel
theorem dX9_alarm_410 : decode cX9_alarm 410 = .ok (.iload_n 3, 1) := by decide +kernel
theorem dX9_alarm_411 : decode cX9_alarm 411 = .ok (.iastore, 1) := by decide +kernel
theorem dX9_alarm_412 : decode cX9_alarm 412 = .ok (.aload_n 0, 1) := by decide +kernel
theorem dX9_alarm_413 : decode cX9_alarm 413 = .ok (.getfield 32, 3) := by decide +kernel
theorem dX9_alarm_416 : decode cX9_alarm 416 = .ok (.iload 5, 2) := by decide +kernel
theorem dX9_alarm_418 : decode cX9_alarm 418 = .ok (.iload 4, 2) := by decide +kernel
theorem dX9_alarm_420 : decode cX9_alarm 420 = .ok (.iastore, 1) := by decide +kernel
theorem dX9_alarm_421 : decode cX9_alarm 421 = .ok (.iload 5, 2) := by decide +kernel
theorem dX9_alarm_423 : decode cX9_alarm 423 = .ok (.ireturn, 1) := by decide +kernel
theorem dX9_silence_0 : decode cX9_silence 0 = .ok (.iload_n 1, 1) := by decide +kernel
theorem dX9_silence_1 : decode cX9_silence 1 = .ok (.iconst 0, 1) := by decide +kernel
theorem dX9_silence_2 : decode cX9_silence 2 = .ok (.bipush 9, 2) := by decide +kernel
theorem dX9_silence_4 : decode cX9_silence 4 = .ok (.invokestatic 96, 3) := by decide +kernel
theorem dX9_silence_7 : decode cX9_silence 7 = .ok (.ifCond .eq 28, 3) := by decide +kernel
theorem dX9_silence_10 : decode cX9_silence 10 = .ok (.iload_n 2, 1) := by decide +kernel
theorem dX9_silence_11 : decode cX9_silence 11 = .ok (.ifCond .lt 24, 3) := by decide +kernel
theorem dX9_silence_14 : decode cX9_silence 14 = .ok (.iload_n 2, 1) := by decide +kernel
theorem dX9_silence_15 : decode cX9_silence 15 = .ok (.iload_n 3, 1) := by decide +kernel
theorem dX9_silence_16 : decode cX9_silence 16 = .ok (.if_icmp .gt 19, 3) := by decide +kernel
theorem dX9_silence_19 : decode cX9_silence 19 = .ok (.iload_n 3, 1) := by decide +kernel
theorem dX9_silence_20 : decode cX9_silence 20 = .ok (.sipush 10000, 3) := by decide +kernel
theorem dX9_silence_23 : decode cX9_silence 23 = .ok (.if_icmp .gt 12, 3) := by decide +kernel
theorem dX9_silence_26 : decode cX9_silence 26 = .ok (.aload_n 0, 1) := by decide +kernel
theorem dX9_silence_27 : decode cX9_silence 27 = .ok (.getfield 111, 3) := by decide +kernel
theorem dX9_silence_30 : decode cX9_silence 30 = .ok (.bipush 30, 2) := by decide +kernel
theorem dX9_silence_32 : decode cX9_silence 32 = .ok (.if_icmp .ne 5, 3) := by decide +kernel
theorem dX9_silence_35 : decode cX9_silence 35 = .ok (.iconst (-1), 1) := by decide +kernel
theorem dX9_silence_36 : decode cX9_silence 36 = .ok (.ireturn, 1) := by decide +kernel
theorem dX9_silence_37 : decode cX9_silence 37 = .ok (.aload_n 0, 1) := by decide +kernel
theorem dX9_silence_38 : decode cX9_silence 38 = .ok (.getfield 54, 3) := by decide +kernel
theorem dX9_silence_41 : decode cX9_silence 41 = .ok (.aload_n 0, 1) := by decide +kernel
theorem dX9_silence_42 : decode cX9_silence 42 = .ok (.getfield 111, 3) := by decide +kernel
theorem dX9_silence_45 : decode cX9_silence 45 = .ok (.iload_n 1, 1) := by decide +kernel
theorem dX9_silence_46 : decode cX9_silence 46 = .ok (.iastore, 1) := by decide +kernel
theorem dX9_silence_47 : decode cX9_silence 47 = .ok (.aload_n 0, 1) := by decide +kernel
theorem dX9_silence_48 : decode cX9_silence 48 = .ok (.getfield 57, 3) := by decide +kernel
theorem dX9_silence_51 : decode cX9_silence 51 = .ok (.aload_n 0, 1) := by decide +kernel
theorem dX9_silence_52 : decode cX9_silence 52 = .ok (.getfield 111, 3) := by decide +kernel
theorem dX9_silence_55 : decode cX9_silence 55 = .ok (.iload_n 2, 1) := by decide +kernel
theorem dX9_silence_56 : decode cX9_silence 56 = .ok (.iastore, 1) := by decide +kernel
theorem dX9_silence_57 : decode cX9_silence 57 = .ok (.aload_n 0, 1) := by decide +kernel
theorem dX9_silence_58 : decode cX9_silence 58 = .ok (.getfield 60, 3) := by decide +kernel
theorem dX9_silence_61 : decode cX9_silence 61 = .ok (.aload_n 0, 1) := by decide +kernel
theorem dX9_silence_62 : decode cX9_silence 62 = .ok (.getfield 111, 3) := by decide +kernel
theorem dX9_silence_65 : decode cX9_silence 65 = .ok (.iload_n 3, 1) := by decide +kernel
theorem dX9_silence_66 : decode cX9_silence 66 = .ok (.iastore, 1) := by decide +kernel
theorem dX9_silence_67 : decode cX9_silence 67 = .ok (.aload_n 0, 1) := by decide +kernel
theorem dX9_silence_68 : decode cX9_silence 68 = .ok (.dup, 1) := by decide +kernel
theorem dX9_silence_69 : decode cX9_silence 69 = .ok (.getfield 111, 3) := by decide +kernel
theorem dX9_silence_72 : decode cX9_silence 72 = .ok (.iconst 1, 1) := by decide +kernel
theorem dX9_silence_73 : decode cX9_silence 73 = .ok (.iadd, 1) := by decide +kernel
theorem dX9_silence_74 : decode cX9_silence 74 = .ok (.putfield 111, 3) := by decide +kernel
theorem dX9_silence_77 : decode cX9_silence 77 = .ok (.aload_n 0, 1) := by decide +kernel
theorem dX9_silence_78 : decode cX9_silence 78 = .ok (.getfield 111, 3) := by decide +kernel
theorem dX9_silence_81 : decode cX9_silence 81 = .ok (.ireturn, 1) := by decide +kernel
theorem dX9_set_0 : decode cX9_set 0 = .ok (.iload_n 1, 1) := by decide +kernel
theorem dX9_set_1 : decode cX9_set 1 = .ok (.iconst 0, 1) := by decide +kernel
theorem dX9_set_2 : decode cX9_set 2 = .ok (.iconst 2, 1) := by decide +kernel
theorem dX9_set_3 : decode cX9_set 3 = .ok (.invokestatic 96, 3) := by decide +kernel
theorem dX9_set_6 : decode cX9_set 6 = .ok (.ifCond .eq 40, 3) := by decide +kernel
theorem dX9_set_9 : decode cX9_set 9 = .ok (.iload_n 2, 1) := by decide +kernel
theorem dX9_set_10 : decode cX9_set 10 = .ok (.iload_n 1, 1) := by decide +kernel
theorem dX9_set_11 : decode cX9_set 11 = .ok (.iconst 2, 1) := by decide +kernel
theorem dX9_set_12 : decode cX9_set 12 = .ok (.if_icmp .ne 7, 3) := by decide +kernel
theorem dX9_set_15 : decode cX9_set 15 = .ok (.iconst 0, 1) := by decide +kernel
theorem dX9_set_16 : decode cX9_set 16 = .ok (.goto 4, 3) := by decide +kernel
theorem dX9_set_19 : decode cX9_set 19 = .ok (.iconst 1, 1) := by decide +kernel
theorem dX9_set_20 : decode cX9_set 20 = .ok (.iload_n 1, 1) := by decide +kernel
theorem dX9_set_21 : decode cX9_set 21 = .ok (.ifCond .ne 8, 3) := by decide +kernel
theorem dX9_set_24 : decode cX9_set 24 = .ok (.bipush 50, 2) := by decide +kernel
theorem dX9_set_26 : decode cX9_set 26 = .ok (.goto 14, 3) := by decide +kernel
theorem dX9_set_29 : decode cX9_set 29 = .ok (.iload_n 1, 1) := by decide +kernel
theorem dX9_set_30 : decode cX9_set 30 = .ok (.iconst 1, 1) := by decide +kernel
theorem dX9_set_31 : decode cX9_set 31 = .ok (.if_icmp .ne 8, 3) := by decide +kernel
theorem dX9_set_34 : decode cX9_set 34 = .ok (.bipush 20, 2) := by decide +kernel
theorem dX9_set_36 : decode cX9_set 36 = .ok (.goto 4, 3) := by decide +kernel
theorem dX9_set_39 : decode cX9_set 39 = .ok (.iconst 5, 1) := by decide +kernel
theorem dX9_set_40 : decode cX9_set 40 = .ok (.invokestatic 96, 3) := by decide +kernel
theorem dX9_set_43 : decode cX9_set 43 = .ok (.ifCond .ne 5, 3) := by decide +kernel
theorem dX9_set_46 : decode cX9_set 46 = .ok (.iconst 0, 1) := by decide +kernel
theorem dX9_set_47 : decode cX9_set 47 = .ok (.ireturn, 1) := by decide +kernel
theorem dX9_set_48 : decode cX9_set 48 = .ok (.iload_n 1, 1) := by decide +kernel
theorem dX9_set_49 : decode cX9_set 49 = .ok (.ifCond .ne 11, 3) := by decide +kernel
theorem dX9_set_52 : decode cX9_set 52 = .ok (.aload_n 0, 1) := by decide +kernel
theorem dX9_set_53 : decode cX9_set 53 = .ok (.iload_n 2, 1) := by decide +kernel
theorem dX9_set_54 : decode cX9_set 54 = .ok (.putfield 7, 3) := by decide +kernel
theorem dX9_set_57 : decode cX9_set 57 = .ok (.goto 21, 3) := by decide +kernel
theorem dX9_set_60 : decode cX9_set 60 = .ok (.iload_n 1, 1) := by decide +kernel
theorem dX9_set_61 : decode cX9_set 61 = .ok (.iconst 1, 1) := by decide +kernel
theorem dX9_set_62 : decode cX9_set 62 = .ok (.if_icmp .ne 11, 3) := by decide +kernel
theorem dX9_set_65 : decode cX9_set 65 = .ok (.aload_n 0, 1) := by decide +kernel
theorem dX9_set_66 : decode cX9_set 66 = .ok (.iload_n 2, 1) := by decide +kernel
theorem dX9_set_67 : decode cX9_set 67 = .ok (.putfield 13, 3) := by decide +kernel
theorem dX9_set_70 : decode cX9_set 70 = .ok (.goto 8, 3) := by decide +kernel
theorem dX9_set_73 : decode cX9_set 73 = .ok (.aload_n 0, 1) := by decide +kernel
theorem dX9_set_74 : decode cX9_set 74 = .ok (.iload_n 2, 1) := by decide +kernel
theorem dX9_set_75 : decode cX9_set 75 = .ok (.putfield 114, 3) := by decide +kernel
theorem dX9_set_78 : decode cX9_set 78 = .ok (.iconst 1, 1) := by decide +kernel
theorem dX9_set_79 : decode cX9_set 79 = .ok (.ireturn, 1) := by decide +kernel
theorem dX9_many_0 : decode cX9_many 0 = .ok (.iconst 0, 1) := by decide +kernel
theorem dX9_many_1 : decode cX9_many 1 = .ok (.istore_n 1, 1) := by decide +kernel
theorem dX9_many_2 : decode cX9_many 2 = .ok (.iload_n 0, 1) := by decide +kernel
theorem dX9_many_3 : decode cX9_many 3 = .ok (.istore_n 2, 1) := by decide +kernel
theorem dX9_many_4 : decode cX9_many 4 = .ok (.iload_n 2, 1) := by decide +kernel
theorem dX9_many_5 : decode cX9_many 5 = .ok (.ifCond .le 16, 3) := by decide +kernel
theorem dX9_many_8 : decode cX9_many 8 = .ok (.iload_n 1, 1) := by decide +kernel
theorem dX9_many_9 : decode cX9_many 9 = .ok (.iload_n 2, 1) := by decide +kernel
theorem dX9_many_10 : decode cX9_many 10 = .ok (.iconst 1, 1) := by decide +kernel
theorem dX9_many_11 : decode cX9_many 11 = .ok (.iand, 1) := by decide +kernel
theorem dX9_many_12 : decode cX9_many 12 = .ok (.iadd, 1) := by decide +kernel
theorem dX9_many_13 : decode cX9_many 13 = .ok (.istore_n 1, 1) := by decide +kernel
theorem dX9_many_14 : decode cX9_many 14 = .ok (.iload_n 2, 1) := by decide +kernel
theorem dX9_many_15 : decode cX9_many 15 = .ok (.iconst 1, 1) := by decide +kernel
theorem dX9_many_16 : decode cX9_many 16 = .ok (.ishr, 1) := by decide +kernel
theorem dX9_many_17 : decode cX9_many 17 = .ok (.istore_n 2, 1) := by decide +kernel
theorem dX9_many_18 : decode cX9_many 18 = .ok (.goto (-14), 3) := by decide +kernel
theorem dX9_many_21 : decode cX9_many 21 = .ok (.iload_n 1, 1) := by decide +kernel
theorem dX9_many_22 : decode cX9_many 22 = .ok (.ireturn, 1) := by decide +kernel
theorem dX9_verdict_0 : decode cX9_verdict 0 = .ok (.aload_n 0, 1) := by decide +kernel
theorem dX9_verdict_1 : decode cX9_verdict 1 = .ok (.iload_n 1, 1) := by decide +kernel
theorem dX9_verdict_2 : decode cX9_verdict 2 = .ok (.invokevirtual 117, 3) := by decide +kernel
theorem dX9_verdict_5 : decode cX9_verdict 5 = .ok (.ifCond .eq 43, 3) := by decide +kernel
theorem dX9_verdict_8 : decode cX9_verdict 8 = .ok (.iload_n 2, 1) := by decide +kernel
theorem dX9_verdict_9 : decode cX9_verdict 9 = .ok (.iconst 0, 1) := by decide +kernel
theorem dX9_verdict_10 : decode cX9_verdict 10 = .ok (.bipush 9, 2) := by decide +kernel
theorem dX9_verdict_12 : decode cX9_verdict 12 = .ok (.invokestatic 96, 3) := by decide +kernel
theorem dX9_verdict_15 : decode cX9_verdict 15 = .ok (.ifCond .eq 33, 3) := by decide +kernel
theorem dX9_verdict_18 : decode cX9_verdict 18 = .ok (.aload_n 0, 1) := by decide +kernel
theorem dX9_verdict_19 : decode cX9_verdict 19 = .ok (.getfield 38, 3) := by decide +kernel
theorem dX9_verdict_22 : decode cX9_verdict 22 = .ok (.iload_n 1, 1) := by decide +kernel
theorem dX9_verdict_23 : decode cX9_verdict 23 = .ok (.iaload, 1) := by decide +kernel
theorem dX9_verdict_24 : decode cX9_verdict 24 = .ok (.ifCond .ne 24, 3) := by decide +kernel
theorem dX9_verdict_27 : decode cX9_verdict 27 = .ok (.aload_n 0, 1) := by decide +kernel
theorem dX9_verdict_28 : decode cX9_verdict 28 = .ok (.getfield 41, 3) := by decide +kernel
theorem dX9_verdict_31 : decode cX9_verdict 31 = .ok (.iload_n 1, 1) := by decide +kernel
theorem dX9_verdict_32 : decode cX9_verdict 32 = .ok (.iaload, 1) := by decide +kernel
theorem dX9_verdict_33 : decode cX9_verdict 33 = .ok (.aload_n 0, 1) := by decide +kernel
theorem dX9_verdict_34 : decode cX9_verdict 34 = .ok (.getfield 44, 3) := by decide +kernel
theorem dX9_verdict_37 : decode cX9_verdict 37 = .ok (.iload_n 1, 1) := by decide +kernel
theorem dX9_verdict_38 : decode cX9_verdict 38 = .ok (.iaload, 1) := by decide +kernel
theorem dX9_verdict_39 : decode cX9_verdict 39 = .ok (.ior, 1) := by decide +kernel
theorem dX9_verdict_40 : decode cX9_verdict 40 = .ok (.iload_n 2, 1) := by decide +kernel
theorem dX9_verdict_41 : decode cX9_verdict 41 = .ok (.ishr, 1) := by decide +kernel
theorem dX9_verdict_42 : decode cX9_verdict 42 = .ok (.iconst 1, 1) := by decide +kernel
theorem dX9_verdict_43 : decode cX9_verdict 43 = .ok (.iand, 1) := by decide +kernel
theorem dX9_verdict_44 : decode cX9_verdict 44 = .ok (.iconst 1, 1) := by decide +kernel
theorem dX9_verdict_45 : decode cX9_verdict 45 = .ok (.if_icmp .ne 5, 3) := by decide +kernel
theorem dX9_verdict_48 : decode cX9_verdict 48 = .ok (.iconst (-1), 1) := by decide +kernel
theorem dX9_verdict_49 : decode cX9_verdict 49 = .ok (.ireturn, 1) := by decide +kernel
theorem dX9_verdict_50 : decode cX9_verdict 50 = .ok (.iload_n 3, 1) := by decide +kernel
theorem dX9_verdict_51 : decode cX9_verdict 51 = .ok (.ifCond .eq 18, 3) := by decide +kernel
theorem dX9_verdict_54 : decode cX9_verdict 54 = .ok (.aload_n 0, 1) := by decide +kernel
theorem dX9_verdict_55 : decode cX9_verdict 55 = .ok (.getfield 41, 3) := by decide +kernel
theorem dX9_verdict_58 : decode cX9_verdict 58 = .ok (.iload_n 1, 1) := by decide +kernel
theorem dX9_verdict_59 : decode cX9_verdict 59 = .ok (.dup2, 1) := by decide +kernel
theorem dX9_verdict_60 : decode cX9_verdict 60 = .ok (.iaload, 1) := by decide +kernel
theorem dX9_verdict_61 : decode cX9_verdict 61 = .ok (.iconst 1, 1) := by decide +kernel
theorem dX9_verdict_62 : decode cX9_verdict 62 = .ok (.iload_n 2, 1) := by decide +kernel
theorem dX9_verdict_63 : decode cX9_verdict 63 = .ok (.ishl, 1) := by decide +kernel
theorem dX9_verdict_64 : decode cX9_verdict 64 = .ok (.ior, 1) := by decide +kernel
theorem dX9_verdict_65 : decode cX9_verdict 65 = .ok (.iastore, 1) := by decide +kernel
theorem dX9_verdict_66 : decode cX9_verdict 66 = .ok (.goto 15, 3) := by decide +kernel
theorem dX9_verdict_69 : decode cX9_verdict 69 = .ok (.aload_n 0, 1) := by decide +kernel
theorem dX9_verdict_70 : decode cX9_verdict 70 = .ok (.getfield 44, 3) := by decide +kernel
theorem dX9_verdict_73 : decode cX9_verdict 73 = .ok (.iload_n 1, 1) := by decide +kernel
theorem dX9_verdict_74 : decode cX9_verdict 74 = .ok (.dup2, 1) := by decide +kernel
theorem dX9_verdict_75 : decode cX9_verdict 75 = .ok (.iaload, 1) := by decide +kernel
theorem dX9_verdict_76 : decode cX9_verdict 76 = .ok (.iconst 1, 1) := by decide +kernel
theorem dX9_verdict_77 : decode cX9_verdict 77 = .ok (.iload_n 2, 1) := by decide +kernel
theorem dX9_verdict_78 : decode cX9_verdict 78 = .ok (.ishl, 1) := by decide +kernel
theorem dX9_verdict_79 : decode cX9_verdict 79 = .ok (.ior, 1) := by decide +kernel
theorem dX9_verdict_80 : decode cX9_verdict 80 = .ok (.iastore, 1) := by decide +kernel
theorem dX9_verdict_81 : decode cX9_verdict 81 = .ok (.iload_n 3, 1) := by decide +kernel
theorem dX9_verdict_82 : decode cX9_verdict 82 = .ok (.ifCond .eq 12, 3) := by decide +kernel
theorem dX9_verdict_85 : decode cX9_verdict 85 = .ok (.aload_n 0, 1) := by decide +kernel
theorem dX9_verdict_86 : decode cX9_verdict 86 = .ok (.getfield 41, 3) := by decide +kernel
theorem dX9_verdict_89 : decode cX9_verdict 89 = .ok (.iload_n 1, 1) := by decide +kernel
theorem dX9_verdict_90 : decode cX9_verdict 90 = .ok (.iaload, 1) := by decide +kernel
theorem dX9_verdict_91 : decode cX9_verdict 91 = .ok (.goto 9, 3) := by decide +kernel
theorem dX9_verdict_94 : decode cX9_verdict 94 = .ok (.aload_n 0, 1) := by decide +kernel
theorem dX9_verdict_95 : decode cX9_verdict 95 = .ok (.getfield 44, 3) := by decide +kernel
theorem dX9_verdict_98 : decode cX9_verdict 98 = .ok (.iload_n 1, 1) := by decide +kernel
theorem dX9_verdict_99 : decode cX9_verdict 99 = .ok (.iaload, 1) := by decide +kernel
theorem dX9_verdict_100 : decode cX9_verdict 100 = .ok (.invokestatic 120, 3) := by decide +kernel
theorem dX9_verdict_103 : decode cX9_verdict 103 = .ok (.iconst 2, 1) := by decide +kernel
theorem dX9_verdict_104 : decode cX9_verdict 104 = .ok (.if_icmp .ge 5, 3) := by decide +kernel
theorem dX9_verdict_107 : decode cX9_verdict 107 = .ok (.iconst 0, 1) := by decide +kernel
theorem dX9_verdict_108 : decode cX9_verdict 108 = .ok (.ireturn, 1) := by decide +kernel
theorem dX9_verdict_109 : decode cX9_verdict 109 = .ok (.aload_n 0, 1) := by decide +kernel
theorem dX9_verdict_110 : decode cX9_verdict 110 = .ok (.getfield 38, 3) := by decide +kernel
theorem dX9_verdict_113 : decode cX9_verdict 113 = .ok (.iload_n 1, 1) := by decide +kernel
theorem dX9_verdict_114 : decode cX9_verdict 114 = .ok (.iload_n 3, 1) := by decide +kernel
theorem dX9_verdict_115 : decode cX9_verdict 115 = .ok (.ifCond .eq 7, 3) := by decide +kernel
theorem dX9_verdict_118 : decode cX9_verdict 118 = .ok (.iconst 1, 1) := by decide +kernel
theorem dX9_verdict_119 : decode cX9_verdict 119 = .ok (.goto 4, 3) := by decide +kernel
theorem dX9_verdict_122 : decode cX9_verdict 122 = .ok (.iconst 2, 1) := by decide +kernel
theorem dX9_verdict_123 : decode cX9_verdict 123 = .ok (.iastore, 1) := by decide +kernel
theorem dX9_verdict_124 : decode cX9_verdict 124 = .ok (.iconst 1, 1) := by decide +kernel
theorem dX9_verdict_125 : decode cX9_verdict 125 = .ok (.ireturn, 1) := by decide +kernel
theorem dX9_tieOf_0 : decode cX9_tieOf 0 = .ok (.iconst 0, 1) := by decide +kernel
theorem dX9_tieOf_1 : decode cX9_tieOf 1 = .ok (.istore_n 3, 1) := by decide +kernel
theorem dX9_tieOf_2 : decode cX9_tieOf 2 = .ok (.iload_n 3, 1) := by decide +kernel
theorem dX9_tieOf_3 : decode cX9_tieOf 3 = .ok (.aload_n 0, 1) := by decide +kernel
theorem dX9_tieOf_4 : decode cX9_tieOf 4 = .ok (.getfield 124, 3) := by decide +kernel
theorem dX9_tieOf_7 : decode cX9_tieOf 7 = .ok (.if_icmp .ge 51, 3) := by decide +kernel
theorem dX9_tieOf_10 : decode cX9_tieOf 10 = .ok (.aload_n 0, 1) := by decide +kernel
theorem dX9_tieOf_11 : decode cX9_tieOf 11 = .ok (.getfield 63, 3) := by decide +kernel
theorem dX9_tieOf_14 : decode cX9_tieOf 14 = .ok (.iload_n 3, 1) := by decide +kernel
theorem dX9_tieOf_15 : decode cX9_tieOf 15 = .ok (.iaload, 1) := by decide +kernel
theorem dX9_tieOf_16 : decode cX9_tieOf 16 = .ok (.iload_n 1, 1) := by decide +kernel
theorem dX9_tieOf_17 : decode cX9_tieOf 17 = .ok (.if_icmp .ne 13, 3) := by decide +kernel
theorem dX9_tieOf_20 : decode cX9_tieOf 20 = .ok (.aload_n 0, 1) := by decide +kernel
theorem dX9_tieOf_21 : decode cX9_tieOf 21 = .ok (.getfield 66, 3) := by decide +kernel
theorem dX9_tieOf_24 : decode cX9_tieOf 24 = .ok (.iload_n 3, 1) := by decide +kernel
theorem dX9_tieOf_25 : decode cX9_tieOf 25 = .ok (.iaload, 1) := by decide +kernel
theorem dX9_tieOf_26 : decode cX9_tieOf 26 = .ok (.iload_n 2, 1) := by decide +kernel
theorem dX9_tieOf_27 : decode cX9_tieOf 27 = .ok (.if_icmp .eq 23, 3) := by decide +kernel
theorem dX9_tieOf_30 : decode cX9_tieOf 30 = .ok (.aload_n 0, 1) := by decide +kernel
theorem dX9_tieOf_31 : decode cX9_tieOf 31 = .ok (.getfield 63, 3) := by decide +kernel
theorem dX9_tieOf_34 : decode cX9_tieOf 34 = .ok (.iload_n 3, 1) := by decide +kernel
theorem dX9_tieOf_35 : decode cX9_tieOf 35 = .ok (.iaload, 1) := by decide +kernel
theorem dX9_tieOf_36 : decode cX9_tieOf 36 = .ok (.iload_n 2, 1) := by decide +kernel
theorem dX9_tieOf_37 : decode cX9_tieOf 37 = .ok (.if_icmp .ne 15, 3) := by decide +kernel
theorem dX9_tieOf_40 : decode cX9_tieOf 40 = .ok (.aload_n 0, 1) := by decide +kernel
theorem dX9_tieOf_41 : decode cX9_tieOf 41 = .ok (.getfield 66, 3) := by decide +kernel
theorem dX9_tieOf_44 : decode cX9_tieOf 44 = .ok (.iload_n 3, 1) := by decide +kernel
theorem dX9_tieOf_45 : decode cX9_tieOf 45 = .ok (.iaload, 1) := by decide +kernel
theorem dX9_tieOf_46 : decode cX9_tieOf 46 = .ok (.iload_n 1, 1) := by decide +kernel
theorem dX9_tieOf_47 : decode cX9_tieOf 47 = .ok (.if_icmp .ne 5, 3) := by decide +kernel
theorem dX9_tieOf_50 : decode cX9_tieOf 50 = .ok (.iload_n 3, 1) := by decide +kernel
theorem dX9_tieOf_51 : decode cX9_tieOf 51 = .ok (.ireturn, 1) := by decide +kernel
theorem dX9_tieOf_52 : decode cX9_tieOf 52 = .ok (.iinc 3 1, 3) := by decide +kernel
theorem dX9_tieOf_55 : decode cX9_tieOf 55 = .ok (.goto (-53), 3) := by decide +kernel
theorem dX9_tieOf_58 : decode cX9_tieOf 58 = .ok (.iconst (-1), 1) := by decide +kernel
theorem dX9_tieOf_59 : decode cX9_tieOf 59 = .ok (.ireturn, 1) := by decide +kernel
theorem dX9_tie_0 : decode cX9_tie 0 = .ok (.aload_n 0, 1) := by decide +kernel
theorem dX9_tie_1 : decode cX9_tie 1 = .ok (.iload_n 1, 1) := by decide +kernel
theorem dX9_tie_2 : decode cX9_tie 2 = .ok (.invokevirtual 117, 3) := by decide +kernel
theorem dX9_tie_5 : decode cX9_tie 5 = .ok (.ifCond .eq 16, 3) := by decide +kernel
theorem dX9_tie_8 : decode cX9_tie 8 = .ok (.aload_n 0, 1) := by decide +kernel
theorem dX9_tie_9 : decode cX9_tie 9 = .ok (.iload_n 2, 1) := by decide +kernel
theorem dX9_tie_10 : decode cX9_tie 10 = .ok (.invokevirtual 117, 3) := by decide +kernel
theorem dX9_tie_13 : decode cX9_tie 13 = .ok (.ifCond .eq 8, 3) := by decide +kernel
theorem dX9_tie_16 : decode cX9_tie 16 = .ok (.iload_n 1, 1) := by decide +kernel
theorem dX9_tie_17 : decode cX9_tie 17 = .ok (.iload_n 2, 1) := by decide +kernel
theorem dX9_tie_18 : decode cX9_tie 18 = .ok (.if_icmp .ne 5, 3) := by decide +kernel
theorem dX9_tie_21 : decode cX9_tie 21 = .ok (.iconst 0, 1) := by decide +kernel
theorem dX9_tie_22 : decode cX9_tie 22 = .ok (.ireturn, 1) := by decide +kernel
theorem dX9_tie_23 : decode cX9_tie 23 = .ok (.aload_n 0, 1) := by decide +kernel
theorem dX9_tie_24 : decode cX9_tie 24 = .ok (.iload_n 1, 1) := by decide +kernel
theorem dX9_tie_25 : decode cX9_tie 25 = .ok (.iload_n 2, 1) := by decide +kernel
theorem dX9_tie_26 : decode cX9_tie 26 = .ok (.invokevirtual 127, 3) := by decide +kernel
theorem dX9_tie_29 : decode cX9_tie 29 = .ok (.istore 4, 2) := by decide +kernel
theorem dX9_tie_31 : decode cX9_tie 31 = .ok (.iload 4, 2) := by decide +kernel
theorem dX9_tie_33 : decode cX9_tie 33 = .ok (.iconst (-1), 1) := by decide +kernel
theorem dX9_tie_34 : decode cX9_tie 34 = .ok (.if_icmp .eq 14, 3) := by decide +kernel
theorem dX9_tie_37 : decode cX9_tie 37 = .ok (.aload_n 0, 1) := by decide +kernel
theorem dX9_tie_38 : decode cX9_tie 38 = .ok (.getfield 69, 3) := by decide +kernel
theorem dX9_tie_41 : decode cX9_tie 41 = .ok (.iload 4, 2) := by decide +kernel
theorem dX9_tie_43 : decode cX9_tie 43 = .ok (.baload, 1) := by decide +kernel
theorem dX9_tie_44 : decode cX9_tie 44 = .ok (.iload_n 3, 1) := by decide +kernel
theorem dX9_tie_45 : decode cX9_tie 45 = .ok (.if_icmp .eq 18, 3) := by decide +kernel
theorem dX9_tie_48 : decode cX9_tie 48 = .ok (.iload 4, 2) := by decide +kernel
theorem dX9_tie_50 : decode cX9_tie 50 = .ok (.iconst (-1), 1) := by decide +kernel
theorem dX9_tie_51 : decode cX9_tie 51 = .ok (.if_icmp .ne 14, 3) := by decide +kernel
theorem dX9_tie_54 : decode cX9_tie 54 = .ok (.aload_n 0, 1) := by decide +kernel
theorem dX9_tie_55 : decode cX9_tie 55 = .ok (.getfield 124, 3) := by decide +kernel
theorem dX9_tie_58 : decode cX9_tie 58 = .ok (.bipush 60, 2) := by decide +kernel
theorem dX9_tie_60 : decode cX9_tie 60 = .ok (.if_icmp .ne 5, 3) := by decide +kernel
theorem dX9_tie_63 : decode cX9_tie 63 = .ok (.iconst 0, 1) := by decide +kernel
theorem dX9_tie_64 : decode cX9_tie 64 = .ok (.ireturn, 1) := by decide +kernel
theorem dX9_tie_65 : decode cX9_tie 65 = .ok (.iload 4, 2) := by decide +kernel
theorem dX9_tie_67 : decode cX9_tie 67 = .ok (.iconst (-1), 1) := by decide +kernel
theorem dX9_tie_68 : decode cX9_tie 68 = .ok (.if_icmp .ne 19, 3) := by decide +kernel
theorem dX9_tie_71 : decode cX9_tie 71 = .ok (.aload_n 0, 1) := by decide +kernel
theorem dX9_tie_72 : decode cX9_tie 72 = .ok (.getfield 124, 3) := by decide +kernel
theorem dX9_tie_75 : decode cX9_tie 75 = .ok (.istore 4, 2) := by decide +kernel
theorem dX9_tie_77 : decode cX9_tie 77 = .ok (.aload_n 0, 1) := by decide +kernel
theorem dX9_tie_78 : decode cX9_tie 78 = .ok (.dup, 1) := by decide +kernel
theorem dX9_tie_79 : decode cX9_tie 79 = .ok (.getfield 124, 3) := by decide +kernel
theorem dX9_tie_82 : decode cX9_tie 82 = .ok (.iconst 1, 1) := by decide +kernel
theorem dX9_tie_83 : decode cX9_tie 83 = .ok (.iadd, 1) := by decide +kernel
theorem dX9_tie_84 : decode cX9_tie 84 = .ok (.putfield 124, 3) := by decide +kernel
theorem dX9_tie_87 : decode cX9_tie 87 = .ok (.aload_n 0, 1) := by decide +kernel
theorem dX9_tie_88 : decode cX9_tie 88 = .ok (.getfield 63, 3) := by decide +kernel
theorem dX9_tie_91 : decode cX9_tie 91 = .ok (.iload 4, 2) := by decide +kernel
theorem dX9_tie_93 : decode cX9_tie 93 = .ok (.iload_n 1, 1) := by decide +kernel
theorem dX9_tie_94 : decode cX9_tie 94 = .ok (.iastore, 1) := by decide +kernel
theorem dX9_tie_95 : decode cX9_tie 95 = .ok (.aload_n 0, 1) := by decide +kernel
theorem dX9_tie_96 : decode cX9_tie 96 = .ok (.getfield 66, 3) := by decide +kernel
theorem dX9_tie_99 : decode cX9_tie 99 = .ok (.iload 4, 2) := by decide +kernel
theorem dX9_tie_101 : decode cX9_tie 101 = .ok (.iload_n 2, 1) := by decide +kernel
theorem dX9_tie_102 : decode cX9_tie 102 = .ok (.iastore, 1) := by decide +kernel
theorem dX9_tie_103 : decode cX9_tie 103 = .ok (.aload_n 0, 1) := by decide +kernel
theorem dX9_tie_104 : decode cX9_tie 104 = .ok (.getfield 69, 3) := by decide +kernel
theorem dX9_tie_107 : decode cX9_tie 107 = .ok (.iload 4, 2) := by decide +kernel
theorem dX9_tie_109 : decode cX9_tie 109 = .ok (.iload_n 3, 1) := by decide +kernel
theorem dX9_tie_110 : decode cX9_tie 110 = .ok (.bastore, 1) := by decide +kernel
theorem dX9_tie_111 : decode cX9_tie 111 = .ok (.iconst 1, 1) := by decide +kernel
theorem dX9_tie_112 : decode cX9_tie 112 = .ok (.ireturn, 1) := by decide +kernel
theorem dX9_counts_0 : decode cX9_counts 0 = .ok (.aload_n 0, 1) := by decide +kernel
theorem dX9_counts_1 : decode cX9_counts 1 = .ok (.iconst 0, 1) := by decide +kernel
theorem dX9_counts_2 : decode cX9_counts 2 = .ok (.putfield 131, 3) := by decide +kernel
theorem dX9_counts_5 : decode cX9_counts 5 = .ok (.aload_n 0, 1) := by decide +kernel
theorem dX9_counts_6 : decode cX9_counts 6 = .ok (.iconst 0, 1) := by decide +kernel
theorem dX9_counts_7 : decode cX9_counts 7 = .ok (.putfield 134, 3) := by decide +kernel
theorem dX9_counts_10 : decode cX9_counts 10 = .ok (.aload_n 0, 1) := by decide +kernel
theorem dX9_counts_11 : decode cX9_counts 11 = .ok (.iconst 0, 1) := by decide +kernel
theorem dX9_counts_12 : decode cX9_counts 12 = .ok (.putfield 137, 3) := by decide +kernel
theorem dX9_counts_15 : decode cX9_counts 15 = .ok (.iconst 3, 1) := by decide +kernel
theorem dX9_counts_16 : decode cX9_counts 16 = .ok (.iconst 4, 1) := by decide +kernel
theorem dX9_counts_17 : decode cX9_counts 17 = .ok (.iload_n 1, 1) := by decide +kernel
theorem dX9_counts_18 : decode cX9_counts 18 = .ok (.isub, 1) := by decide +kernel
theorem dX9_counts_19 : decode cX9_counts 19 = .ok (.imul, 1) := by decide +kernel
theorem dX9_counts_20 : decode cX9_counts 20 = .ok (.istore_n 3, 1) := by decide +kernel
theorem dX9_counts_21 : decode cX9_counts 21 = .ok (.iconst 0, 1) := by decide +kernel
theorem dX9_counts_22 : decode cX9_counts 22 = .ok (.istore 4, 2) := by decide +kernel
theorem dX9_counts_24 : decode cX9_counts 24 = .ok (.iload 4, 2) := by decide +kernel
theorem dX9_counts_26 : decode cX9_counts 26 = .ok (.aload_n 0, 1) := by decide +kernel
theorem dX9_counts_27 : decode cX9_counts 27 = .ok (.getfield 93, 3) := by decide +kernel
theorem dX9_counts_30 : decode cX9_counts 30 = .ok (.if_icmp .ge 109, 3) := by decide +kernel
theorem dX9_counts_33 : decode cX9_counts 33 = .ok (.aload_n 0, 1) := by decide +kernel
theorem dX9_counts_34 : decode cX9_counts 34 = .ok (.getfield 29, 3) := by decide +kernel
theorem dX9_counts_37 : decode cX9_counts 37 = .ok (.iload 4, 2) := by decide +kernel
theorem dX9_counts_39 : decode cX9_counts 39 = .ok (.iaload, 1) := by decide +kernel
theorem dX9_counts_40 : decode cX9_counts 40 = .ok (.iload_n 3, 1) := by decide +kernel
theorem dX9_counts_41 : decode cX9_counts 41 = .ok (.ishr, 1) := by decide +kernel
theorem dX9_counts_42 : decode cX9_counts 42 = .ok (.iload_n 2, 1) := by decide +kernel
theorem dX9_counts_43 : decode cX9_counts 43 = .ok (.iload_n 3, 1) := by decide +kernel
theorem dX9_counts_44 : decode cX9_counts 44 = .ok (.ishr, 1) := by decide +kernel
theorem dX9_counts_45 : decode cX9_counts 45 = .ok (.if_icmp .eq 6, 3) := by decide +kernel
theorem dX9_counts_48 : decode cX9_counts 48 = .ok (.goto 85, 3) := by decide +kernel
theorem dX9_counts_51 : decode cX9_counts 51 = .ok (.aload_n 0, 1) := by decide +kernel
theorem dX9_counts_52 : decode cX9_counts 52 = .ok (.dup, 1) := by decide +kernel
theorem dX9_counts_53 : decode cX9_counts 53 = .ok (.getfield 131, 3) := by decide +kernel
theorem dX9_counts_56 : decode cX9_counts 56 = .ok (.aload_n 0, 1) := by decide +kernel
theorem dX9_counts_57 : decode cX9_counts 57 = .ok (.getfield 38, 3) := by decide +kernel
theorem dX9_counts_60 : decode cX9_counts 60 = .ok (.iload 4, 2) := by decide +kernel
theorem dX9_counts_62 : decode cX9_counts 62 = .ok (.iaload, 1) := by decide +kernel
theorem dX9_counts_63 : decode cX9_counts 63 = .ok (.iconst 1, 1) := by decide +kernel
theorem dX9_counts_64 : decode cX9_counts 64 = .ok (.if_icmp .ne 7, 3) := by decide +kernel
theorem dX9_counts_67 : decode cX9_counts 67 = .ok (.iconst 1, 1) := by decide +kernel
theorem dX9_counts_68 : decode cX9_counts 68 = .ok (.goto 4, 3) := by decide +kernel
theorem dX9_counts_71 : decode cX9_counts 71 = .ok (.iconst 0, 1) := by decide +kernel
theorem dX9_counts_72 : decode cX9_counts 72 = .ok (.invokestatic 107, 3) := by decide +kernel
theorem dX9_counts_75 : decode cX9_counts 75 = .ok (.iadd, 1) := by decide +kernel
theorem dX9_counts_76 : decode cX9_counts 76 = .ok (.putfield 131, 3) := by decide +kernel
theorem dX9_counts_79 : decode cX9_counts 79 = .ok (.aload_n 0, 1) := by decide +kernel
theorem dX9_counts_80 : decode cX9_counts 80 = .ok (.dup, 1) := by decide +kernel
theorem dX9_counts_81 : decode cX9_counts 81 = .ok (.getfield 134, 3) := by decide +kernel
theorem dX9_counts_84 : decode cX9_counts 84 = .ok (.aload_n 0, 1) := by decide +kernel
theorem dX9_counts_85 : decode cX9_counts 85 = .ok (.getfield 38, 3) := by decide +kernel
theorem dX9_counts_88 : decode cX9_counts 88 = .ok (.iload 4, 2) := by decide +kernel
theorem dX9_counts_90 : decode cX9_counts 90 = .ok (.iaload, 1) := by decide +kernel
theorem dX9_counts_91 : decode cX9_counts 91 = .ok (.ifCond .eq 7, 3) := by decide +kernel
theorem dX9_counts_94 : decode cX9_counts 94 = .ok (.iconst 1, 1) := by decide +kernel
theorem dX9_counts_95 : decode cX9_counts 95 = .ok (.goto 4, 3) := by decide +kernel
theorem dX9_counts_98 : decode cX9_counts 98 = .ok (.iconst 0, 1) := by decide +kernel
theorem dX9_counts_99 : decode cX9_counts 99 = .ok (.invokestatic 107, 3) := by decide +kernel
theorem dX9_counts_102 : decode cX9_counts 102 = .ok (.iadd, 1) := by decide +kernel
theorem dX9_counts_103 : decode cX9_counts 103 = .ok (.putfield 134, 3) := by decide +kernel
theorem dX9_counts_106 : decode cX9_counts 106 = .ok (.aload_n 0, 1) := by decide +kernel
theorem dX9_counts_107 : decode cX9_counts 107 = .ok (.dup, 1) := by decide +kernel
theorem dX9_counts_108 : decode cX9_counts 108 = .ok (.getfield 137, 3) := by decide +kernel
theorem dX9_counts_111 : decode cX9_counts 111 = .ok (.aload_n 0, 1) := by decide +kernel
theorem dX9_counts_112 : decode cX9_counts 112 = .ok (.getfield 38, 3) := by decide +kernel
theorem dX9_counts_115 : decode cX9_counts 115 = .ok (.iload 4, 2) := by decide +kernel
theorem dX9_counts_117 : decode cX9_counts 117 = .ok (.iaload, 1) := by decide +kernel
theorem dX9_counts_118 : decode cX9_counts 118 = .ok (.ifCond .ne 7, 3) := by decide +kernel
theorem dX9_counts_121 : decode cX9_counts 121 = .ok (.iconst 1, 1) := by decide +kernel
theorem dX9_counts_122 : decode cX9_counts 122 = .ok (.goto 4, 3) := by decide +kernel
theorem dX9_counts_125 : decode cX9_counts 125 = .ok (.iconst 0, 1) := by decide +kernel
theorem dX9_counts_126 : decode cX9_counts 126 = .ok (.invokestatic 107, 3) := by decide +kernel
theorem dX9_counts_129 : decode cX9_counts 129 = .ok (.iadd, 1) := by decide +kernel
theorem dX9_counts_130 : decode cX9_counts 130 = .ok (.putfield 137, 3) := by decide +kernel
theorem dX9_counts_133 : decode cX9_counts 133 = .ok (.iinc 4 1, 3) := by decide +kernel
theorem dX9_counts_136 : decode cX9_counts 136 = .ok (.goto (-112), 3) := by decide +kernel
theorem dX9_counts_139 : decode cX9_counts 139 = .ok (.return_, 1) := by decide +kernel
theorem dX9_depth_0 : decode cX9_depth 0 = .ok (.iconst 4, 1) := by decide +kernel
theorem dX9_depth_1 : decode cX9_depth 1 = .ok (.istore_n 2, 1) := by decide +kernel
theorem dX9_depth_2 : decode cX9_depth 2 = .ok (.aload_n 0, 1) := by decide +kernel
theorem dX9_depth_3 : decode cX9_depth 3 = .ok (.iload_n 2, 1) := by decide +kernel
theorem dX9_depth_4 : decode cX9_depth 4 = .ok (.aload_n 0, 1) := by decide +kernel
theorem dX9_depth_5 : decode cX9_depth 5 = .ok (.getfield 29, 3) := by decide +kernel
theorem dX9_depth_8 : decode cX9_depth 8 = .ok (.iload_n 1, 1) := by decide +kernel
theorem dX9_depth_9 : decode cX9_depth 9 = .ok (.iaload, 1) := by decide +kernel
theorem dX9_depth_10 : decode cX9_depth 10 = .ok (.invokevirtual 140, 3) := by decide +kernel
theorem dX9_depth_13 : decode cX9_depth 13 = .ok (.iload_n 2, 1) := by decide +kernel
theorem dX9_depth_14 : decode cX9_depth 14 = .ok (.ifCond .le 31, 3) := by decide +kernel
theorem dX9_depth_17 : decode cX9_depth 17 = .ok (.aload_n 0, 1) := by decide +kernel
theorem dX9_depth_18 : decode cX9_depth 18 = .ok (.getfield 134, 3) := by decide +kernel
theorem dX9_depth_21 : decode cX9_depth 21 = .ok (.aload_n 0, 1) := by decide +kernel
theorem dX9_depth_22 : decode cX9_depth 22 = .ok (.getfield 13, 3) := by decide +kernel
theorem dX9_depth_25 : decode cX9_depth 25 = .ok (.if_icmp .ge 20, 3) := by decide +kernel
theorem dX9_depth_28 : decode cX9_depth 28 = .ok (.iinc 2 (-1), 3) := by decide +kernel
theorem dX9_depth_31 : decode cX9_depth 31 = .ok (.aload_n 0, 1) := by decide +kernel
theorem dX9_depth_32 : decode cX9_depth 32 = .ok (.iload_n 2, 1) := by decide +kernel
theorem dX9_depth_33 : decode cX9_depth 33 = .ok (.aload_n 0, 1) := by decide +kernel
theorem dX9_depth_34 : decode cX9_depth 34 = .ok (.getfield 29, 3) := by decide +kernel
theorem dX9_depth_37 : decode cX9_depth 37 = .ok (.iload_n 1, 1) := by decide +kernel
theorem dX9_depth_38 : decode cX9_depth 38 = .ok (.iaload, 1) := by decide +kernel
theorem dX9_depth_39 : decode cX9_depth 39 = .ok (.invokevirtual 140, 3) := by decide +kernel
theorem dX9_depth_42 : decode cX9_depth 42 = .ok (.goto (-29), 3) := by decide +kernel
theorem dX9_depth_45 : decode cX9_depth 45 = .ok (.iload_n 2, 1) := by decide +kernel
theorem dX9_depth_46 : decode cX9_depth 46 = .ok (.ireturn, 1) := by decide +kernel
theorem dX9_score_0 : decode cX9_score 0 = .ok (.aload_n 0, 1) := by decide +kernel
theorem dX9_score_1 : decode cX9_score 1 = .ok (.iload_n 1, 1) := by decide +kernel
theorem dX9_score_2 : decode cX9_score 2 = .ok (.invokevirtual 144, 3) := by decide +kernel
theorem dX9_score_5 : decode cX9_score 5 = .ok (.pop, 1) := by decide +kernel
theorem dX9_score_6 : decode cX9_score 6 = .ok (.aload_n 0, 1) := by decide +kernel
theorem dX9_score_7 : decode cX9_score 7 = .ok (.getfield 134, 3) := by decide +kernel
theorem dX9_score_10 : decode cX9_score 10 = .ok (.ifCond .ne 16, 3) := by decide +kernel
theorem dX9_score_13 : decode cX9_score 13 = .ok (.sipush 500, 3) := by decide +kernel
theorem dX9_score_16 : decode cX9_score 16 = .ok (.aload_n 0, 1) := by decide +kernel
theorem dX9_score_17 : decode cX9_score 17 = .ok (.getfield 32, 3) := by decide +kernel
theorem dX9_score_20 : decode cX9_score 20 = .ok (.iload_n 1, 1) := by decide +kernel
theorem dX9_score_21 : decode cX9_score 21 = .ok (.iaload, 1) := by decide +kernel
theorem dX9_score_22 : decode cX9_score 22 = .ok (.imul, 1) := by decide +kernel
theorem dX9_score_23 : decode cX9_score 23 = .ok (.goto 23, 3) := by decide +kernel
theorem dX9_score_26 : decode cX9_score 26 = .ok (.sipush 1000, 3) := by decide +kernel
theorem dX9_score_29 : decode cX9_score 29 = .ok (.aload_n 0, 1) := by decide +kernel
theorem dX9_score_30 : decode cX9_score 30 = .ok (.getfield 32, 3) := by decide +kernel
theorem dX9_score_33 : decode cX9_score 33 = .ok (.iload_n 1, 1) := by decide +kernel
theorem dX9_score_34 : decode cX9_score 34 = .ok (.iaload, 1) := by decide +kernel
theorem dX9_score_35 : decode cX9_score 35 = .ok (.imul, 1) := by decide +kernel
theorem dX9_score_36 : decode cX9_score 36 = .ok (.aload_n 0, 1) := by decide +kernel
theorem dX9_score_37 : decode cX9_score 37 = .ok (.getfield 131, 3) := by decide +kernel
theorem dX9_score_40 : decode cX9_score 40 = .ok (.imul, 1) := by decide +kernel
theorem dX9_score_41 : decode cX9_score 41 = .ok (.aload_n 0, 1) := by decide +kernel
theorem dX9_score_42 : decode cX9_score 42 = .ok (.getfield 134, 3) := by decide +kernel
theorem dX9_score_45 : decode cX9_score 45 = .ok (.idiv, 1) := by decide +kernel
theorem dX9_score_46 : decode cX9_score 46 = .ok (.ireturn, 1) := by decide +kernel
theorem dX9_node_0 : decode cX9_node 0 = .ok (.iload_n 1, 1) := by decide +kernel
theorem dX9_node_1 : decode cX9_node 1 = .ok (.iconst 0, 1) := by decide +kernel
theorem dX9_node_2 : decode cX9_node 2 = .ok (.iconst 4, 1) := by decide +kernel
theorem dX9_node_3 : decode cX9_node 3 = .ok (.invokestatic 96, 3) := by decide +kernel
theorem dX9_node_6 : decode cX9_node 6 = .ok (.ifCond .eq 14, 3) := by decide +kernel
theorem dX9_node_9 : decode cX9_node 9 = .ok (.iload_n 2, 1) := by decide +kernel
theorem dX9_node_10 : decode cX9_node 10 = .ok (.iconst 0, 1) := by decide +kernel
theorem dX9_node_11 : decode cX9_node 11 = .ok (.sipush 4095, 3) := by decide +kernel
theorem dX9_node_14 : decode cX9_node 14 = .ok (.invokestatic 96, 3) := by decide +kernel
theorem dX9_node_17 : decode cX9_node 17 = .ok (.ifCond .ne 5, 3) := by decide +kernel
theorem dX9_node_20 : decode cX9_node 20 = .ok (.iconst (-1), 1) := by decide +kernel
theorem dX9_node_21 : decode cX9_node 21 = .ok (.ireturn, 1) := by decide +kernel
theorem dX9_node_22 : decode cX9_node 22 = .ok (.aload_n 0, 1) := by decide +kernel
theorem dX9_node_23 : decode cX9_node 23 = .ok (.iload_n 1, 1) := by decide +kernel
theorem dX9_node_24 : decode cX9_node 24 = .ok (.iload_n 2, 1) := by decide +kernel
theorem dX9_node_25 : decode cX9_node 25 = .ok (.invokevirtual 140, 3) := by decide +kernel
theorem dX9_node_28 : decode cX9_node 28 = .ok (.iload_n 3, 1) := by decide +kernel
theorem dX9_node_29 : decode cX9_node 29 = .ok (.ifCond .ne 10, 3) := by decide +kernel
theorem dX9_node_32 : decode cX9_node 32 = .ok (.aload_n 0, 1) := by decide +kernel
theorem dX9_node_33 : decode cX9_node 33 = .ok (.getfield 131, 3) := by decide +kernel
theorem dX9_node_36 : decode cX9_node 36 = .ok (.goto 28, 3) := by decide +kernel
theorem dX9_node_39 : decode cX9_node 39 = .ok (.iload_n 3, 1) := by decide +kernel
theorem dX9_node_40 : decode cX9_node 40 = .ok (.iconst 1, 1) := by decide +kernel
theorem dX9_node_41 : decode cX9_node 41 = .ok (.if_icmp .ne 10, 3) := by decide +kernel
theorem dX9_node_44 : decode cX9_node 44 = .ok (.aload_n 0, 1) := by decide +kernel
theorem dX9_node_45 : decode cX9_node 45 = .ok (.getfield 134, 3) := by decide +kernel
theorem dX9_node_48 : decode cX9_node 48 = .ok (.goto 16, 3) := by decide +kernel
theorem dX9_node_51 : decode cX9_node 51 = .ok (.iload_n 3, 1) := by decide +kernel
theorem dX9_node_52 : decode cX9_node 52 = .ok (.iconst 2, 1) := by decide +kernel
theorem dX9_node_53 : decode cX9_node 53 = .ok (.if_icmp .ne 10, 3) := by decide +kernel
theorem dX9_node_56 : decode cX9_node 56 = .ok (.aload_n 0, 1) := by decide +kernel
theorem dX9_node_57 : decode cX9_node 57 = .ok (.getfield 137, 3) := by decide +kernel
theorem dX9_node_60 : decode cX9_node 60 = .ok (.goto 4, 3) := by decide +kernel
theorem dX9_node_63 : decode cX9_node 63 = .ok (.iconst (-1), 1) := by decide +kernel
theorem dX9_node_64 : decode cX9_node 64 = .ok (.ireturn, 1) := by decide +kernel
theorem dX9_odds_0 : decode cX9_odds 0 = .ok (.aload_n 0, 1) := by decide +kernel
theorem dX9_odds_1 : decode cX9_odds 1 = .ok (.iload_n 1, 1) := by decide +kernel
theorem dX9_odds_2 : decode cX9_odds 2 = .ok (.invokevirtual 117, 3) := by decide +kernel
theorem dX9_odds_5 : decode cX9_odds 5 = .ok (.ifCond .eq 12, 3) := by decide +kernel
theorem dX9_odds_8 : decode cX9_odds 8 = .ok (.iload_n 2, 1) := by decide +kernel
theorem dX9_odds_9 : decode cX9_odds 9 = .ok (.iconst 0, 1) := by decide +kernel
theorem dX9_odds_10 : decode cX9_odds 10 = .ok (.iconst 5, 1) := by decide +kernel
theorem dX9_odds_11 : decode cX9_odds 11 = .ok (.invokestatic 96, 3) := by decide +kernel
theorem dX9_odds_14 : decode cX9_odds 14 = .ok (.ifCond .ne 5, 3) := by decide +kernel
theorem dX9_odds_17 : decode cX9_odds 17 = .ok (.iconst (-1), 1) := by decide +kernel
theorem dX9_odds_18 : decode cX9_odds 18 = .ok (.ireturn, 1) := by decide +kernel
theorem dX9_odds_19 : decode cX9_odds 19 = .ok (.aload_n 0, 1) := by decide +kernel
theorem dX9_odds_20 : decode cX9_odds 20 = .ok (.iload_n 1, 1) := by decide +kernel
theorem dX9_odds_21 : decode cX9_odds 21 = .ok (.invokevirtual 144, 3) := by decide +kernel
theorem dX9_odds_24 : decode cX9_odds 24 = .ok (.pop, 1) := by decide +kernel
theorem dX9_odds_25 : decode cX9_odds 25 = .ok (.iload_n 2, 1) := by decide +kernel
theorem dX9_odds_26 : decode cX9_odds 26 = .ok (.iconst 4, 1) := by decide +kernel
theorem dX9_odds_27 : decode cX9_odds 27 = .ok (.if_icmp .ge 10, 3) := by decide +kernel
theorem dX9_odds_30 : decode cX9_odds 30 = .ok (.aload_n 0, 1) := by decide +kernel
theorem dX9_odds_31 : decode cX9_odds 31 = .ok (.getfield 131, 3) := by decide +kernel
theorem dX9_odds_34 : decode cX9_odds 34 = .ok (.goto 12, 3) := by decide +kernel
theorem dX9_odds_37 : decode cX9_odds 37 = .ok (.aload_n 0, 1) := by decide +kernel
theorem dX9_odds_38 : decode cX9_odds 38 = .ok (.getfield 131, 3) := by decide +kernel
theorem dX9_odds_41 : decode cX9_odds 41 = .ok (.aload_n 0, 1) := by decide +kernel
theorem dX9_odds_42 : decode cX9_odds 42 = .ok (.getfield 137, 3) := by decide +kernel
theorem dX9_odds_45 : decode cX9_odds 45 = .ok (.iadd, 1) := by decide +kernel
theorem dX9_odds_46 : decode cX9_odds 46 = .ok (.istore_n 3, 1) := by decide +kernel
theorem dX9_odds_47 : decode cX9_odds 47 = .ok (.iload_n 2, 1) := by decide +kernel
theorem dX9_odds_48 : decode cX9_odds 48 = .ok (.iconst 2, 1) := by decide +kernel
theorem dX9_odds_49 : decode cX9_odds 49 = .ok (.if_icmp .ge 10, 3) := by decide +kernel
theorem dX9_odds_52 : decode cX9_odds 52 = .ok (.aload_n 0, 1) := by decide +kernel
theorem dX9_odds_53 : decode cX9_odds 53 = .ok (.getfield 134, 3) := by decide +kernel
theorem dX9_odds_56 : decode cX9_odds 56 = .ok (.goto 12, 3) := by decide +kernel
theorem dX9_odds_59 : decode cX9_odds 59 = .ok (.aload_n 0, 1) := by decide +kernel
theorem dX9_odds_60 : decode cX9_odds 60 = .ok (.getfield 134, 3) := by decide +kernel
theorem dX9_odds_63 : decode cX9_odds 63 = .ok (.aload_n 0, 1) := by decide +kernel
theorem dX9_odds_64 : decode cX9_odds 64 = .ok (.getfield 137, 3) := by decide +kernel
theorem dX9_odds_67 : decode cX9_odds 67 = .ok (.iadd, 1) := by decide +kernel
theorem dX9_odds_68 : decode cX9_odds 68 = .ok (.istore 4, 2) := by decide +kernel
theorem dX9_odds_70 : decode cX9_odds 70 = .ok (.iload_n 2, 1) := by decide +kernel
theorem dX9_odds_71 : decode cX9_odds 71 = .ok (.iconst 2, 1) := by decide +kernel
theorem dX9_odds_72 : decode cX9_odds 72 = .ok (.if_icmp .ge 15, 3) := by decide +kernel
theorem dX9_odds_75 : decode cX9_odds 75 = .ok (.aload_n 0, 1) := by decide +kernel
theorem dX9_odds_76 : decode cX9_odds 76 = .ok (.getfield 134, 3) := by decide +kernel
theorem dX9_odds_79 : decode cX9_odds 79 = .ok (.ifCond .ne 8, 3) := by decide +kernel
theorem dX9_odds_82 : decode cX9_odds 82 = .ok (.iconst 1, 1) := by decide +kernel
theorem dX9_odds_83 : decode cX9_odds 83 = .ok (.istore_n 3, 1) := by decide +kernel
theorem dX9_odds_84 : decode cX9_odds 84 = .ok (.iconst 2, 1) := by decide +kernel
theorem dX9_odds_85 : decode cX9_odds 85 = .ok (.istore 4, 2) := by decide +kernel
theorem dX9_odds_87 : decode cX9_odds 87 = .ok (.iload_n 3, 1) := by decide +kernel
theorem dX9_odds_88 : decode cX9_odds 88 = .ok (.istore 5, 2) := by decide +kernel
theorem dX9_odds_90 : decode cX9_odds 90 = .ok (.iload 4, 2) := by decide +kernel
theorem dX9_odds_92 : decode cX9_odds 92 = .ok (.istore 6, 2) := by decide +kernel
theorem dX9_odds_94 : decode cX9_odds 94 = .ok (.iload 6, 2) := by decide +kernel
theorem dX9_odds_96 : decode cX9_odds 96 = .ok (.ifCond .le 21, 3) := by decide +kernel
theorem dX9_odds_99 : decode cX9_odds 99 = .ok (.iload 5, 2) := by decide +kernel
theorem dX9_odds_101 : decode cX9_odds 101 = .ok (.iload 6, 2) := by decide +kernel
theorem dX9_odds_103 : decode cX9_odds 103 = .ok (.irem, 1) := by decide +kernel
theorem dX9_odds_104 : decode cX9_odds 104 = .ok (.istore 7, 2) := by decide +kernel
theorem dX9_odds_106 : decode cX9_odds 106 = .ok (.iload 6, 2) := by decide +kernel
theorem dX9_odds_108 : decode cX9_odds 108 = .ok (.istore 5, 2) := by decide +kernel
theorem dX9_odds_110 : decode cX9_odds 110 = .ok (.iload 7, 2) := by decide +kernel
theorem dX9_odds_112 : decode cX9_odds 112 = .ok (.istore 6, 2) := by decide +kernel
theorem dX9_odds_114 : decode cX9_odds 114 = .ok (.goto (-20), 3) := by decide +kernel
theorem dX9_odds_117 : decode cX9_odds 117 = .ok (.iload_n 2, 1) := by decide +kernel
theorem dX9_odds_118 : decode cX9_odds 118 = .ok (.iconst 2, 1) := by decide +kernel
theorem dX9_odds_119 : decode cX9_odds 119 = .ok (.irem, 1) := by decide +kernel
theorem dX9_odds_120 : decode cX9_odds 120 = .ok (.ifCond .ne 10, 3) := by decide +kernel
theorem dX9_odds_123 : decode cX9_odds 123 = .ok (.iload_n 3, 1) := by decide +kernel
theorem dX9_odds_124 : decode cX9_odds 124 = .ok (.iload 5, 2) := by decide +kernel
theorem dX9_odds_126 : decode cX9_odds 126 = .ok (.idiv, 1) := by decide +kernel
theorem dX9_odds_127 : decode cX9_odds 127 = .ok (.goto 8, 3) := by decide +kernel
theorem dX9_odds_130 : decode cX9_odds 130 = .ok (.iload 4, 2) := by decide +kernel
theorem dX9_odds_132 : decode cX9_odds 132 = .ok (.iload 5, 2) := by decide +kernel
theorem dX9_odds_134 : decode cX9_odds 134 = .ok (.idiv, 1) := by decide +kernel
theorem dX9_odds_135 : decode cX9_odds 135 = .ok (.ireturn, 1) := by decide +kernel
theorem dX9_hangs_0 : decode cX9_hangs 0 = .ok (.aload_n 0, 1) := by decide +kernel
theorem dX9_hangs_1 : decode cX9_hangs 1 = .ok (.iload_n 1, 1) := by decide +kernel
theorem dX9_hangs_2 : decode cX9_hangs 2 = .ok (.iload_n 2, 1) := by decide +kernel
theorem dX9_hangs_3 : decode cX9_hangs 3 = .ok (.invokevirtual 127, 3) := by decide +kernel
theorem dX9_hangs_6 : decode cX9_hangs 6 = .ok (.istore_n 3, 1) := by decide +kernel
theorem dX9_hangs_7 : decode cX9_hangs 7 = .ok (.iload_n 3, 1) := by decide +kernel
theorem dX9_hangs_8 : decode cX9_hangs 8 = .ok (.iconst (-1), 1) := by decide +kernel
theorem dX9_hangs_9 : decode cX9_hangs 9 = .ok (.if_icmp .eq 10, 3) := by decide +kernel
theorem dX9_hangs_12 : decode cX9_hangs 12 = .ok (.aload_n 0, 1) := by decide +kernel
theorem dX9_hangs_13 : decode cX9_hangs 13 = .ok (.getfield 69, 3) := by decide +kernel
theorem dX9_hangs_16 : decode cX9_hangs 16 = .ok (.iload_n 3, 1) := by decide +kernel
theorem dX9_hangs_17 : decode cX9_hangs 17 = .ok (.baload, 1) := by decide +kernel
theorem dX9_hangs_18 : decode cX9_hangs 18 = .ok (.ireturn, 1) := by decide +kernel
theorem dX9_hangs_19 : decode cX9_hangs 19 = .ok (.aload_n 0, 1) := by decide +kernel
theorem dX9_hangs_20 : decode cX9_hangs 20 = .ok (.getfield 26, 3) := by decide +kernel
theorem dX9_hangs_23 : decode cX9_hangs 23 = .ok (.iload_n 1, 1) := by decide +kernel
theorem dX9_hangs_24 : decode cX9_hangs 24 = .ok (.iaload, 1) := by decide +kernel
theorem dX9_hangs_25 : decode cX9_hangs 25 = .ok (.aload_n 0, 1) := by decide +kernel
theorem dX9_hangs_26 : decode cX9_hangs 26 = .ok (.getfield 26, 3) := by decide +kernel
theorem dX9_hangs_29 : decode cX9_hangs 29 = .ok (.iload_n 2, 1) := by decide +kernel
theorem dX9_hangs_30 : decode cX9_hangs 30 = .ok (.iaload, 1) := by decide +kernel
theorem dX9_hangs_31 : decode cX9_hangs 31 = .ok (.if_icmp .ne 28, 3) := by decide +kernel
theorem dX9_hangs_34 : decode cX9_hangs 34 = .ok (.aload_n 0, 1) := by decide +kernel
theorem dX9_hangs_35 : decode cX9_hangs 35 = .ok (.getfield 16, 3) := by decide +kernel
theorem dX9_hangs_38 : decode cX9_hangs 38 = .ok (.iload_n 1, 1) := by decide +kernel
theorem dX9_hangs_39 : decode cX9_hangs 39 = .ok (.iaload, 1) := by decide +kernel
theorem dX9_hangs_40 : decode cX9_hangs 40 = .ok (.aload_n 0, 1) := by decide +kernel
theorem dX9_hangs_41 : decode cX9_hangs 41 = .ok (.getfield 16, 3) := by decide +kernel
theorem dX9_hangs_44 : decode cX9_hangs 44 = .ok (.iload_n 2, 1) := by decide +kernel
theorem dX9_hangs_45 : decode cX9_hangs 45 = .ok (.iaload, 1) := by decide +kernel
theorem dX9_hangs_46 : decode cX9_hangs 46 = .ok (.isub, 1) := by decide +kernel
theorem dX9_hangs_47 : decode cX9_hangs 47 = .ok (.invokestatic 147, 3) := by decide +kernel
theorem dX9_hangs_50 : decode cX9_hangs 50 = .ok (.bipush 20, 2) := by decide +kernel
theorem dX9_hangs_52 : decode cX9_hangs 52 = .ok (.if_icmp .gt 7, 3) := by decide +kernel
theorem dX9_hangs_55 : decode cX9_hangs 55 = .ok (.iconst 1, 1) := by decide +kernel
theorem dX9_hangs_56 : decode cX9_hangs 56 = .ok (.goto 4, 3) := by decide +kernel
theorem dX9_hangs_59 : decode cX9_hangs 59 = .ok (.iconst 0, 1) := by decide +kernel
theorem dX9_hangs_60 : decode cX9_hangs 60 = .ok (.ireturn, 1) := by decide +kernel
theorem dX9_joins_0 : decode cX9_joins 0 = .ok (.iconst 0, 1) := by decide +kernel
theorem dX9_joins_1 : decode cX9_joins 1 = .ok (.istore_n 1, 1) := by decide +kernel
theorem dX9_joins_2 : decode cX9_joins 2 = .ok (.iload_n 1, 1) := by decide +kernel
theorem dX9_joins_3 : decode cX9_joins 3 = .ok (.aload_n 0, 1) := by decide +kernel
theorem dX9_joins_4 : decode cX9_joins 4 = .ok (.getfield 93, 3) := by decide +kernel
theorem dX9_joins_7 : decode cX9_joins 7 = .ok (.if_icmp .ge 51, 3) := by decide +kernel
theorem dX9_joins_10 : decode cX9_joins 10 = .ok (.aload_n 0, 1) := by decide +kernel
theorem dX9_joins_11 : decode cX9_joins 11 = .ok (.getfield 72, 3) := by decide +kernel
theorem dX9_joins_14 : decode cX9_joins 14 = .ok (.iload_n 1, 1) := by decide +kernel
theorem dX9_joins_15 : decode cX9_joins 15 = .ok (.aload_n 0, 1) := by decide +kernel
theorem dX9_joins_16 : decode cX9_joins 16 = .ok (.iload_n 1, 1) := by decide +kernel
theorem dX9_joins_17 : decode cX9_joins 17 = .ok (.invokevirtual 103, 3) := by decide +kernel
theorem dX9_joins_20 : decode cX9_joins 20 = .ok (.ifCond .eq 7, 3) := by decide +kernel
theorem dX9_joins_23 : decode cX9_joins 23 = .ok (.iload_n 1, 1) := by decide +kernel
theorem dX9_joins_24 : decode cX9_joins 24 = .ok (.goto 4, 3) := by decide +kernel
theorem dX9_joins_27 : decode cX9_joins 27 = .ok (.iconst (-1), 1) := by decide +kernel
theorem dX9_joins_28 : decode cX9_joins 28 = .ok (.iastore, 1) := by decide +kernel
theorem dX9_joins_29 : decode cX9_joins 29 = .ok (.aload_n 0, 1) := by decide +kernel
theorem dX9_joins_30 : decode cX9_joins 30 = .ok (.getfield 75, 3) := by decide +kernel
theorem dX9_joins_33 : decode cX9_joins 33 = .ok (.iload_n 1, 1) := by decide +kernel
theorem dX9_joins_34 : decode cX9_joins 34 = .ok (.aload_n 0, 1) := by decide +kernel
theorem dX9_joins_35 : decode cX9_joins 35 = .ok (.iload_n 1, 1) := by decide +kernel
theorem dX9_joins_36 : decode cX9_joins 36 = .ok (.invokevirtual 103, 3) := by decide +kernel
theorem dX9_joins_39 : decode cX9_joins 39 = .ok (.ifCond .eq 11, 3) := by decide +kernel
theorem dX9_joins_42 : decode cX9_joins 42 = .ok (.aload_n 0, 1) := by decide +kernel
theorem dX9_joins_43 : decode cX9_joins 43 = .ok (.iload_n 1, 1) := by decide +kernel
theorem dX9_joins_44 : decode cX9_joins 44 = .ok (.invokevirtual 152, 3) := by decide +kernel
theorem dX9_joins_47 : decode cX9_joins 47 = .ok (.goto 4, 3) := by decide +kernel
theorem dX9_joins_50 : decode cX9_joins 50 = .ok (.iconst 0, 1) := by decide +kernel
theorem dX9_joins_51 : decode cX9_joins 51 = .ok (.iastore, 1) := by decide +kernel
theorem dX9_joins_52 : decode cX9_joins 52 = .ok (.iinc 1 1, 3) := by decide +kernel
theorem dX9_joins_55 : decode cX9_joins 55 = .ok (.goto (-53), 3) := by decide +kernel
theorem dX9_joins_58 : decode cX9_joins 58 = .ok (.iconst 0, 1) := by decide +kernel
theorem dX9_joins_59 : decode cX9_joins 59 = .ok (.istore_n 1, 1) := by decide +kernel
theorem dX9_joins_60 : decode cX9_joins 60 = .ok (.iload_n 1, 1) := by decide +kernel
theorem dX9_joins_61 : decode cX9_joins 61 = .ok (.aload_n 0, 1) := by decide +kernel
theorem dX9_joins_62 : decode cX9_joins 62 = .ok (.getfield 93, 3) := by decide +kernel
theorem dX9_joins_65 : decode cX9_joins 65 = .ok (.if_icmp .ge 145, 3) := by decide +kernel
theorem dX9_joins_68 : decode cX9_joins 68 = .ok (.iload_n 1, 1) := by decide +kernel
theorem dX9_joins_69 : decode cX9_joins 69 = .ok (.iconst 1, 1) := by decide +kernel
theorem dX9_joins_70 : decode cX9_joins 70 = .ok (.iadd, 1) := by decide +kernel
theorem dX9_joins_71 : decode cX9_joins 71 = .ok (.istore_n 2, 1) := by decide +kernel
theorem dX9_joins_72 : decode cX9_joins 72 = .ok (.iload_n 2, 1) := by decide +kernel
theorem dX9_joins_73 : decode cX9_joins 73 = .ok (.aload_n 0, 1) := by decide +kernel
theorem dX9_joins_74 : decode cX9_joins 74 = .ok (.getfield 93, 3) := by decide +kernel
theorem dX9_joins_77 : decode cX9_joins 77 = .ok (.if_icmp .ge 127, 3) := by decide +kernel
theorem dX9_joins_80 : decode cX9_joins 80 = .ok (.aload_n 0, 1) := by decide +kernel
theorem dX9_joins_81 : decode cX9_joins 81 = .ok (.getfield 72, 3) := by decide +kernel
theorem dX9_joins_84 : decode cX9_joins 84 = .ok (.iload_n 1, 1) := by decide +kernel
theorem dX9_joins_85 : decode cX9_joins 85 = .ok (.iaload, 1) := by decide +kernel
theorem dX9_joins_86 : decode cX9_joins 86 = .ok (.iconst (-1), 1) := by decide +kernel
theorem dX9_joins_87 : decode cX9_joins 87 = .ok (.if_icmp .eq 111, 3) := by decide +kernel
theorem dX9_joins_90 : decode cX9_joins 90 = .ok (.aload_n 0, 1) := by decide +kernel
theorem dX9_joins_91 : decode cX9_joins 91 = .ok (.getfield 72, 3) := by decide +kernel
theorem dX9_joins_94 : decode cX9_joins 94 = .ok (.iload_n 2, 1) := by decide +kernel
theorem dX9_joins_95 : decode cX9_joins 95 = .ok (.iaload, 1) := by decide +kernel
theorem dX9_joins_96 : decode cX9_joins 96 = .ok (.iconst (-1), 1) := by decide +kernel
theorem dX9_joins_97 : decode cX9_joins 97 = .ok (.if_icmp .eq 101, 3) := by decide +kernel
theorem dX9_joins_100 : decode cX9_joins 100 = .ok (.aload_n 0, 1) := by decide +kernel
theorem dX9_joins_101 : decode cX9_joins 101 = .ok (.getfield 72, 3) := by decide +kernel
theorem dX9_joins_104 : decode cX9_joins 104 = .ok (.iload_n 1, 1) := by decide +kernel
theorem dX9_joins_105 : decode cX9_joins 105 = .ok (.iaload, 1) := by decide +kernel
theorem dX9_joins_106 : decode cX9_joins 106 = .ok (.aload_n 0, 1) := by decide +kernel
theorem dX9_joins_107 : decode cX9_joins 107 = .ok (.getfield 72, 3) := by decide +kernel
theorem dX9_joins_110 : decode cX9_joins 110 = .ok (.iload_n 2, 1) := by decide +kernel
theorem dX9_joins_111 : decode cX9_joins 111 = .ok (.iaload, 1) := by decide +kernel
theorem dX9_joins_112 : decode cX9_joins 112 = .ok (.if_icmp .eq 86, 3) := by decide +kernel
theorem dX9_joins_115 : decode cX9_joins 115 = .ok (.aload_n 0, 1) := by decide +kernel
theorem dX9_joins_116 : decode cX9_joins 116 = .ok (.iload_n 1, 1) := by decide +kernel
theorem dX9_joins_117 : decode cX9_joins 117 = .ok (.iload_n 2, 1) := by decide +kernel
theorem dX9_joins_118 : decode cX9_joins 118 = .ok (.invokevirtual 155, 3) := by decide +kernel
theorem dX9_joins_121 : decode cX9_joins 121 = .ok (.ifCond .ne 6, 3) := by decide +kernel
theorem dX9_joins_124 : decode cX9_joins 124 = .ok (.goto 74, 3) := by decide +kernel
theorem dX9_joins_127 : decode cX9_joins 127 = .ok (.aload_n 0, 1) := by decide +kernel
theorem dX9_joins_128 : decode cX9_joins 128 = .ok (.getfield 72, 3) := by decide +kernel
theorem dX9_joins_131 : decode cX9_joins 131 = .ok (.iload_n 1, 1) := by decide +kernel
theorem dX9_joins_132 : decode cX9_joins 132 = .ok (.iaload, 1) := by decide +kernel
theorem dX9_joins_133 : decode cX9_joins 133 = .ok (.aload_n 0, 1) := by decide +kernel
theorem dX9_joins_134 : decode cX9_joins 134 = .ok (.getfield 72, 3) := by decide +kernel
theorem dX9_joins_137 : decode cX9_joins 137 = .ok (.iload_n 2, 1) := by decide +kernel
theorem dX9_joins_138 : decode cX9_joins 138 = .ok (.iaload, 1) := by decide +kernel
theorem dX9_joins_139 : decode cX9_joins 139 = .ok (.invokestatic 159, 3) := by decide +kernel
theorem dX9_joins_142 : decode cX9_joins 142 = .ok (.istore_n 3, 1) := by decide +kernel
theorem dX9_joins_143 : decode cX9_joins 143 = .ok (.aload_n 0, 1) := by decide +kernel
theorem dX9_joins_144 : decode cX9_joins 144 = .ok (.getfield 72, 3) := by decide +kernel
theorem dX9_joins_147 : decode cX9_joins 147 = .ok (.iload_n 1, 1) := by decide +kernel
theorem dX9_joins_148 : decode cX9_joins 148 = .ok (.iaload, 1) := by decide +kernel
theorem dX9_joins_149 : decode cX9_joins 149 = .ok (.aload_n 0, 1) := by decide +kernel
theorem dX9_joins_150 : decode cX9_joins 150 = .ok (.getfield 72, 3) := by decide +kernel
theorem dX9_joins_153 : decode cX9_joins 153 = .ok (.iload_n 2, 1) := by decide +kernel
theorem dX9_joins_154 : decode cX9_joins 154 = .ok (.iaload, 1) := by decide +kernel
theorem dX9_joins_155 : decode cX9_joins 155 = .ok (.invokestatic 162, 3) := by decide +kernel
theorem dX9_joins_158 : decode cX9_joins 158 = .ok (.istore 4, 2) := by decide +kernel
theorem dX9_joins_160 : decode cX9_joins 160 = .ok (.iconst 0, 1) := by decide +kernel
theorem dX9_joins_161 : decode cX9_joins 161 = .ok (.istore 5, 2) := by decide +kernel
theorem dX9_joins_163 : decode cX9_joins 163 = .ok (.iload 5, 2) := by decide +kernel
theorem dX9_joins_165 : decode cX9_joins 165 = .ok (.aload_n 0, 1) := by decide +kernel
theorem dX9_joins_166 : decode cX9_joins 166 = .ok (.getfield 93, 3) := by decide +kernel
theorem dX9_joins_169 : decode cX9_joins 169 = .ok (.if_icmp .ge 29, 3) := by decide +kernel
theorem dX9_joins_172 : decode cX9_joins 172 = .ok (.aload_n 0, 1) := by decide +kernel
theorem dX9_joins_173 : decode cX9_joins 173 = .ok (.getfield 72, 3) := by decide +kernel
theorem dX9_joins_176 : decode cX9_joins 176 = .ok (.iload 5, 2) := by decide +kernel
theorem dX9_joins_178 : decode cX9_joins 178 = .ok (.iaload, 1) := by decide +kernel
theorem dX9_joins_179 : decode cX9_joins 179 = .ok (.iload 4, 2) := by decide +kernel
theorem dX9_joins_181 : decode cX9_joins 181 = .ok (.if_icmp .ne 11, 3) := by decide +kernel
theorem dX9_joins_184 : decode cX9_joins 184 = .ok (.aload_n 0, 1) := by decide +kernel
theorem dX9_joins_185 : decode cX9_joins 185 = .ok (.getfield 72, 3) := by decide +kernel
theorem dX9_joins_188 : decode cX9_joins 188 = .ok (.iload 5, 2) := by decide +kernel
theorem dX9_joins_190 : decode cX9_joins 190 = .ok (.iload_n 3, 1) := by decide +kernel
theorem dX9_joins_191 : decode cX9_joins 191 = .ok (.iastore, 1) := by decide +kernel
theorem dX9_joins_192 : decode cX9_joins 192 = .ok (.iinc 5 1, 3) := by decide +kernel
theorem dX9_joins_195 : decode cX9_joins 195 = .ok (.goto (-32), 3) := by decide +kernel
theorem dX9_joins_198 : decode cX9_joins 198 = .ok (.iinc 2 1, 3) := by decide +kernel
theorem dX9_joins_201 : decode cX9_joins 201 = .ok (.goto (-129), 3) := by decide +kernel
theorem dX9_joins_204 : decode cX9_joins 204 = .ok (.iinc 1 1, 3) := by decide +kernel
theorem dX9_joins_207 : decode cX9_joins 207 = .ok (.goto (-147), 3) := by decide +kernel
theorem dX9_joins_210 : decode cX9_joins 210 = .ok (.aload_n 0, 1) := by decide +kernel
theorem dX9_joins_211 : decode cX9_joins 211 = .ok (.iconst 0, 1) := by decide +kernel
theorem dX9_joins_212 : decode cX9_joins 212 = .ok (.putfield 165, 3) := by decide +kernel
theorem dX9_joins_215 : decode cX9_joins 215 = .ok (.iconst 0, 1) := by decide +kernel
theorem dX9_joins_216 : decode cX9_joins 216 = .ok (.istore_n 1, 1) := by decide +kernel
theorem dX9_joins_217 : decode cX9_joins 217 = .ok (.iload_n 1, 1) := by decide +kernel
theorem dX9_joins_218 : decode cX9_joins 218 = .ok (.aload_n 0, 1) := by decide +kernel
theorem dX9_joins_219 : decode cX9_joins 219 = .ok (.getfield 93, 3) := by decide +kernel
theorem dX9_joins_222 : decode cX9_joins 222 = .ok (.if_icmp .ge 90, 3) := by decide +kernel
theorem dX9_joins_225 : decode cX9_joins 225 = .ok (.aload_n 0, 1) := by decide +kernel
theorem dX9_joins_226 : decode cX9_joins 226 = .ok (.getfield 72, 3) := by decide +kernel
theorem dX9_joins_229 : decode cX9_joins 229 = .ok (.iload_n 1, 1) := by decide +kernel
theorem dX9_joins_230 : decode cX9_joins 230 = .ok (.iaload, 1) := by decide +kernel
theorem dX9_joins_231 : decode cX9_joins 231 = .ok (.iload_n 1, 1) := by decide +kernel
theorem dX9_joins_232 : decode cX9_joins 232 = .ok (.if_icmp .eq 6, 3) := by decide +kernel
theorem dX9_joins_235 : decode cX9_joins 235 = .ok (.goto 71, 3) := by decide +kernel
theorem dX9_joins_238 : decode cX9_joins 238 = .ok (.aload_n 0, 1) := by decide +kernel
theorem dX9_joins_239 : decode cX9_joins 239 = .ok (.iload_n 1, 1) := by decide +kernel
theorem dX9_joins_240 : decode cX9_joins 240 = .ok (.invokevirtual 168, 3) := by decide +kernel
theorem dX9_joins_243 : decode cX9_joins 243 = .ok (.istore_n 2, 1) := by decide +kernel
theorem dX9_joins_244 : decode cX9_joins 244 = .ok (.aload_n 0, 1) := by decide +kernel
theorem dX9_joins_245 : decode cX9_joins 245 = .ok (.getfield 165, 3) := by decide +kernel
theorem dX9_joins_248 : decode cX9_joins 248 = .ok (.istore_n 3, 1) := by decide +kernel
theorem dX9_joins_249 : decode cX9_joins 249 = .ok (.iload_n 3, 1) := by decide +kernel
theorem dX9_joins_250 : decode cX9_joins 250 = .ok (.ifCond .le 39, 3) := by decide +kernel
theorem dX9_joins_253 : decode cX9_joins 253 = .ok (.aload_n 0, 1) := by decide +kernel
theorem dX9_joins_254 : decode cX9_joins 254 = .ok (.aload_n 0, 1) := by decide +kernel
theorem dX9_joins_255 : decode cX9_joins 255 = .ok (.getfield 78, 3) := by decide +kernel
theorem dX9_joins_258 : decode cX9_joins 258 = .ok (.iload_n 3, 1) := by decide +kernel
theorem dX9_joins_259 : decode cX9_joins 259 = .ok (.iconst 1, 1) := by decide +kernel
theorem dX9_joins_260 : decode cX9_joins 260 = .ok (.isub, 1) := by decide +kernel
theorem dX9_joins_261 : decode cX9_joins 261 = .ok (.iaload, 1) := by decide +kernel
theorem dX9_joins_262 : decode cX9_joins 262 = .ok (.invokevirtual 168, 3) := by decide +kernel
theorem dX9_joins_265 : decode cX9_joins 265 = .ok (.iload_n 2, 1) := by decide +kernel
theorem dX9_joins_266 : decode cX9_joins 266 = .ok (.if_icmp .ge 23, 3) := by decide +kernel
theorem dX9_joins_269 : decode cX9_joins 269 = .ok (.aload_n 0, 1) := by decide +kernel
theorem dX9_joins_270 : decode cX9_joins 270 = .ok (.getfield 78, 3) := by decide +kernel
theorem dX9_joins_273 : decode cX9_joins 273 = .ok (.iload_n 3, 1) := by decide +kernel
theorem dX9_joins_274 : decode cX9_joins 274 = .ok (.aload_n 0, 1) := by decide +kernel
theorem dX9_joins_275 : decode cX9_joins 275 = .ok (.getfield 78, 3) := by decide +kernel
theorem dX9_joins_278 : decode cX9_joins 278 = .ok (.iload_n 3, 1) := by decide +kernel
theorem dX9_joins_279 : decode cX9_joins 279 = .ok (.iconst 1, 1) := by decide +kernel
theorem dX9_joins_280 : decode cX9_joins 280 = .ok (.isub, 1) := by decide +kernel
theorem dX9_joins_281 : decode cX9_joins 281 = .ok (.iaload, 1) := by decide +kernel
theorem dX9_joins_282 : decode cX9_joins 282 = .ok (.iastore, 1) := by decide +kernel
theorem dX9_joins_283 : decode cX9_joins 283 = .ok (.iinc 3 (-1), 3) := by decide +kernel
theorem dX9_joins_286 : decode cX9_joins 286 = .ok (.goto (-37), 3) := by decide +kernel
theorem dX9_joins_289 : decode cX9_joins 289 = .ok (.aload_n 0, 1) := by decide +kernel
theorem dX9_joins_290 : decode cX9_joins 290 = .ok (.getfield 78, 3) := by decide +kernel
theorem dX9_joins_293 : decode cX9_joins 293 = .ok (.iload_n 3, 1) := by decide +kernel
theorem dX9_joins_294 : decode cX9_joins 294 = .ok (.iload_n 1, 1) := by decide +kernel
theorem dX9_joins_295 : decode cX9_joins 295 = .ok (.iastore, 1) := by decide +kernel
theorem dX9_joins_296 : decode cX9_joins 296 = .ok (.aload_n 0, 1) := by decide +kernel
theorem dX9_joins_297 : decode cX9_joins 297 = .ok (.dup, 1) := by decide +kernel
theorem dX9_joins_298 : decode cX9_joins 298 = .ok (.getfield 165, 3) := by decide +kernel
theorem dX9_joins_301 : decode cX9_joins 301 = .ok (.iconst 1, 1) := by decide +kernel
theorem dX9_joins_302 : decode cX9_joins 302 = .ok (.iadd, 1) := by decide +kernel
theorem dX9_joins_303 : decode cX9_joins 303 = .ok (.putfield 165, 3) := by decide +kernel
theorem dX9_joins_306 : decode cX9_joins 306 = .ok (.iinc 1 1, 3) := by decide +kernel
theorem dX9_joins_309 : decode cX9_joins 309 = .ok (.goto (-92), 3) := by decide +kernel
theorem dX9_joins_312 : decode cX9_joins 312 = .ok (.return_, 1) := by decide +kernel
theorem dX9_scoreOf_0 : decode cX9_scoreOf 0 = .ok (.iconst 0, 1) := by decide +kernel
theorem dX9_scoreOf_1 : decode cX9_scoreOf 1 = .ok (.istore_n 2, 1) := by decide +kernel
theorem dX9_scoreOf_2 : decode cX9_scoreOf 2 = .ok (.iload_n 1, 1) := by decide +kernel
theorem dX9_scoreOf_3 : decode cX9_scoreOf 3 = .ok (.istore_n 3, 1) := by decide +kernel
theorem dX9_scoreOf_4 : decode cX9_scoreOf 4 = .ok (.iload_n 3, 1) := by decide +kernel
theorem dX9_scoreOf_5 : decode cX9_scoreOf 5 = .ok (.aload_n 0, 1) := by decide +kernel
theorem dX9_scoreOf_6 : decode cX9_scoreOf 6 = .ok (.getfield 93, 3) := by decide +kernel
theorem dX9_scoreOf_9 : decode cX9_scoreOf 9 = .ok (.if_icmp .ge 30, 3) := by decide +kernel
theorem dX9_scoreOf_12 : decode cX9_scoreOf 12 = .ok (.aload_n 0, 1) := by decide +kernel
theorem dX9_scoreOf_13 : decode cX9_scoreOf 13 = .ok (.getfield 72, 3) := by decide +kernel
theorem dX9_scoreOf_16 : decode cX9_scoreOf 16 = .ok (.iload_n 3, 1) := by decide +kernel
theorem dX9_scoreOf_17 : decode cX9_scoreOf 17 = .ok (.iaload, 1) := by decide +kernel
theorem dX9_scoreOf_18 : decode cX9_scoreOf 18 = .ok (.iload_n 1, 1) := by decide +kernel
theorem dX9_scoreOf_19 : decode cX9_scoreOf 19 = .ok (.if_icmp .ne 14, 3) := by decide +kernel
theorem dX9_scoreOf_22 : decode cX9_scoreOf 22 = .ok (.iload_n 2, 1) := by decide +kernel
theorem dX9_scoreOf_23 : decode cX9_scoreOf 23 = .ok (.aload_n 0, 1) := by decide +kernel
theorem dX9_scoreOf_24 : decode cX9_scoreOf 24 = .ok (.getfield 75, 3) := by decide +kernel
theorem dX9_scoreOf_27 : decode cX9_scoreOf 27 = .ok (.iload_n 3, 1) := by decide +kernel
theorem dX9_scoreOf_28 : decode cX9_scoreOf 28 = .ok (.iaload, 1) := by decide +kernel
theorem dX9_scoreOf_29 : decode cX9_scoreOf 29 = .ok (.invokestatic 162, 3) := by decide +kernel
theorem dX9_scoreOf_32 : decode cX9_scoreOf 32 = .ok (.istore_n 2, 1) := by decide +kernel
theorem dX9_scoreOf_33 : decode cX9_scoreOf 33 = .ok (.iinc 3 1, 3) := by decide +kernel
theorem dX9_scoreOf_36 : decode cX9_scoreOf 36 = .ok (.goto (-32), 3) := by decide +kernel
theorem dX9_scoreOf_39 : decode cX9_scoreOf 39 = .ok (.iload_n 2, 1) := by decide +kernel
theorem dX9_scoreOf_40 : decode cX9_scoreOf 40 = .ok (.ireturn, 1) := by decide +kernel
theorem dX9_sizeOf_0 : decode cX9_sizeOf 0 = .ok (.iconst 0, 1) := by decide +kernel
theorem dX9_sizeOf_1 : decode cX9_sizeOf 1 = .ok (.istore_n 2, 1) := by decide +kernel
theorem dX9_sizeOf_2 : decode cX9_sizeOf 2 = .ok (.iload_n 1, 1) := by decide +kernel
theorem dX9_sizeOf_3 : decode cX9_sizeOf 3 = .ok (.istore_n 3, 1) := by decide +kernel
theorem dX9_sizeOf_4 : decode cX9_sizeOf 4 = .ok (.iload_n 3, 1) := by decide +kernel
theorem dX9_sizeOf_5 : decode cX9_sizeOf 5 = .ok (.aload_n 0, 1) := by decide +kernel
theorem dX9_sizeOf_6 : decode cX9_sizeOf 6 = .ok (.getfield 93, 3) := by decide +kernel
theorem dX9_sizeOf_9 : decode cX9_sizeOf 9 = .ok (.if_icmp .ge 30, 3) := by decide +kernel
theorem dX9_sizeOf_12 : decode cX9_sizeOf 12 = .ok (.iload_n 2, 1) := by decide +kernel
theorem dX9_sizeOf_13 : decode cX9_sizeOf 13 = .ok (.aload_n 0, 1) := by decide +kernel
theorem dX9_sizeOf_14 : decode cX9_sizeOf 14 = .ok (.getfield 72, 3) := by decide +kernel
theorem dX9_sizeOf_17 : decode cX9_sizeOf 17 = .ok (.iload_n 3, 1) := by decide +kernel
theorem dX9_sizeOf_18 : decode cX9_sizeOf 18 = .ok (.iaload, 1) := by decide +kernel
theorem dX9_sizeOf_19 : decode cX9_sizeOf 19 = .ok (.iload_n 1, 1) := by decide +kernel
theorem dX9_sizeOf_20 : decode cX9_sizeOf 20 = .ok (.if_icmp .ne 7, 3) := by decide +kernel
theorem dX9_sizeOf_23 : decode cX9_sizeOf 23 = .ok (.iconst 1, 1) := by decide +kernel
theorem dX9_sizeOf_24 : decode cX9_sizeOf 24 = .ok (.goto 4, 3) := by decide +kernel
theorem dX9_sizeOf_27 : decode cX9_sizeOf 27 = .ok (.iconst 0, 1) := by decide +kernel
theorem dX9_sizeOf_28 : decode cX9_sizeOf 28 = .ok (.invokestatic 107, 3) := by decide +kernel
theorem dX9_sizeOf_31 : decode cX9_sizeOf 31 = .ok (.iadd, 1) := by decide +kernel
theorem dX9_sizeOf_32 : decode cX9_sizeOf 32 = .ok (.istore_n 2, 1) := by decide +kernel
theorem dX9_sizeOf_33 : decode cX9_sizeOf 33 = .ok (.iinc 3 1, 3) := by decide +kernel
theorem dX9_sizeOf_36 : decode cX9_sizeOf 36 = .ok (.goto (-32), 3) := by decide +kernel
theorem dX9_sizeOf_39 : decode cX9_sizeOf 39 = .ok (.iload_n 2, 1) := by decide +kernel
theorem dX9_sizeOf_40 : decode cX9_sizeOf 40 = .ok (.ireturn, 1) := by decide +kernel
theorem dX9_minutesOf_0 : decode cX9_minutesOf 0 = .ok (.iconst 5, 1) := by decide +kernel
theorem dX9_minutesOf_1 : decode cX9_minutesOf 1 = .ok (.iconst 2, 1) := by decide +kernel
theorem dX9_minutesOf_2 : decode cX9_minutesOf 2 = .ok (.aload_n 0, 1) := by decide +kernel
theorem dX9_minutesOf_3 : decode cX9_minutesOf 3 = .ok (.iload_n 1, 1) := by decide +kernel
theorem dX9_minutesOf_4 : decode cX9_minutesOf 4 = .ok (.invokevirtual 171, 3) := by decide +kernel
theorem dX9_minutesOf_7 : decode cX9_minutesOf 7 = .ok (.imul, 1) := by decide +kernel
theorem dX9_minutesOf_8 : decode cX9_minutesOf 8 = .ok (.iadd, 1) := by decide +kernel
theorem dX9_minutesOf_9 : decode cX9_minutesOf 9 = .ok (.ireturn, 1) := by decide +kernel
theorem dX9_isLittleKnown_0 : decode cX9_isLittleKnown 0 = .ok (.iload_n 1, 1) := by decide +kernel
theorem dX9_isLittleKnown_1 : decode cX9_isLittleKnown 1 = .ok (.istore_n 2, 1) := by decide +kernel
theorem dX9_isLittleKnown_2 : decode cX9_isLittleKnown 2 = .ok (.iload_n 2, 1) := by decide +kernel
theorem dX9_isLittleKnown_3 : decode cX9_isLittleKnown 3 = .ok (.aload_n 0, 1) := by decide +kernel
theorem dX9_isLittleKnown_4 : decode cX9_isLittleKnown 4 = .ok (.getfield 93, 3) := by decide +kernel
theorem dX9_isLittleKnown_7 : decode cX9_isLittleKnown 7 = .ok (.if_icmp .ge 29, 3) := by decide +kernel
theorem dX9_isLittleKnown_10 : decode cX9_isLittleKnown 10 = .ok (.aload_n 0, 1) := by decide +kernel
theorem dX9_isLittleKnown_11 : decode cX9_isLittleKnown 11 = .ok (.getfield 72, 3) := by decide +kernel
theorem dX9_isLittleKnown_14 : decode cX9_isLittleKnown 14 = .ok (.iload_n 2, 1) := by decide +kernel
theorem dX9_isLittleKnown_15 : decode cX9_isLittleKnown 15 = .ok (.iaload, 1) := by decide +kernel
theorem dX9_isLittleKnown_16 : decode cX9_isLittleKnown 16 = .ok (.iload_n 1, 1) := by decide +kernel
theorem dX9_isLittleKnown_17 : decode cX9_isLittleKnown 17 = .ok (.if_icmp .ne 13, 3) := by decide +kernel
theorem dX9_isLittleKnown_20 : decode cX9_isLittleKnown 20 = .ok (.aload_n 0, 1) := by decide +kernel
theorem dX9_isLittleKnown_21 : decode cX9_isLittleKnown 21 = .ok (.iload_n 2, 1) := by decide +kernel
theorem dX9_isLittleKnown_22 : decode cX9_isLittleKnown 22 = .ok (.invokevirtual 144, 3) := by decide +kernel
theorem dX9_isLittleKnown_25 : decode cX9_isLittleKnown 25 = .ok (.ifCond .ne 5, 3) := by decide +kernel
theorem dX9_isLittleKnown_28 : decode cX9_isLittleKnown 28 = .ok (.iconst 1, 1) := by decide +kernel
theorem dX9_isLittleKnown_29 : decode cX9_isLittleKnown 29 = .ok (.ireturn, 1) := by decide +kernel
theorem dX9_isLittleKnown_30 : decode cX9_isLittleKnown 30 = .ok (.iinc 2 1, 3) := by decide +kernel
theorem dX9_isLittleKnown_33 : decode cX9_isLittleKnown 33 = .ok (.goto (-31), 3) := by decide +kernel
theorem dX9_isLittleKnown_36 : decode cX9_isLittleKnown 36 = .ok (.iconst 0, 1) := by decide +kernel
theorem dX9_isLittleKnown_37 : decode cX9_isLittleKnown 37 = .ok (.ireturn, 1) := by decide +kernel
theorem dX9_told_0 : decode cX9_told 0 = .ok (.aload_n 0, 1) := by decide +kernel
theorem dX9_told_1 : decode cX9_told 1 = .ok (.iload_n 1, 1) := by decide +kernel
theorem dX9_told_2 : decode cX9_told 2 = .ok (.invokevirtual 117, 3) := by decide +kernel
theorem dX9_told_5 : decode cX9_told 5 = .ok (.ifCond .ne 5, 3) := by decide +kernel
theorem dX9_told_8 : decode cX9_told 8 = .ok (.iconst (-1), 1) := by decide +kernel
theorem dX9_told_9 : decode cX9_told 9 = .ok (.ireturn, 1) := by decide +kernel
theorem dX9_told_10 : decode cX9_told 10 = .ok (.iload_n 2, 1) := by decide +kernel
theorem dX9_told_11 : decode cX9_told 11 = .ok (.tableswitch 174 0 12 #[65, 72, 79, 86, 93, 100, 107, 114, 124, 134, 140, 146, 163], 65) := by decide +kernel
theorem dX9_told_76 : decode cX9_told 76 = .ok (.aload_n 0, 1) := by decide +kernel
theorem dX9_told_77 : decode cX9_told 77 = .ok (.getfield 16, 3) := by decide +kernel
theorem dX9_told_80 : decode cX9_told 80 = .ok (.iload_n 1, 1) := by decide +kernel
theorem dX9_told_81 : decode cX9_told 81 = .ok (.iaload, 1) := by decide +kernel
theorem dX9_told_82 : decode cX9_told 82 = .ok (.ireturn, 1) := by decide +kernel
theorem dX9_told_83 : decode cX9_told 83 = .ok (.aload_n 0, 1) := by decide +kernel
theorem dX9_told_84 : decode cX9_told 84 = .ok (.getfield 23, 3) := by decide +kernel
theorem dX9_told_87 : decode cX9_told 87 = .ok (.iload_n 1, 1) := by decide +kernel
theorem dX9_told_88 : decode cX9_told 88 = .ok (.iaload, 1) := by decide +kernel
theorem dX9_told_89 : decode cX9_told 89 = .ok (.ireturn, 1) := by decide +kernel
theorem dX9_told_90 : decode cX9_told 90 = .ok (.aload_n 0, 1) := by decide +kernel
theorem dX9_told_91 : decode cX9_told 91 = .ok (.getfield 26, 3) := by decide +kernel
theorem dX9_told_94 : decode cX9_told 94 = .ok (.iload_n 1, 1) := by decide +kernel
theorem dX9_told_95 : decode cX9_told 95 = .ok (.iaload, 1) := by decide +kernel
theorem dX9_told_96 : decode cX9_told 96 = .ok (.ireturn, 1) := by decide +kernel
theorem dX9_told_97 : decode cX9_told 97 = .ok (.aload_n 0, 1) := by decide +kernel
theorem dX9_told_98 : decode cX9_told 98 = .ok (.getfield 29, 3) := by decide +kernel
theorem dX9_told_101 : decode cX9_told 101 = .ok (.iload_n 1, 1) := by decide +kernel
theorem dX9_told_102 : decode cX9_told 102 = .ok (.iaload, 1) := by decide +kernel
theorem dX9_told_103 : decode cX9_told 103 = .ok (.ireturn, 1) := by decide +kernel
theorem dX9_told_104 : decode cX9_told 104 = .ok (.aload_n 0, 1) := by decide +kernel
theorem dX9_told_105 : decode cX9_told 105 = .ok (.getfield 32, 3) := by decide +kernel
theorem dX9_told_108 : decode cX9_told 108 = .ok (.iload_n 1, 1) := by decide +kernel
theorem dX9_told_109 : decode cX9_told 109 = .ok (.iaload, 1) := by decide +kernel
theorem dX9_told_110 : decode cX9_told 110 = .ok (.ireturn, 1) := by decide +kernel
theorem dX9_told_111 : decode cX9_told 111 = .ok (.aload_n 0, 1) := by decide +kernel
theorem dX9_told_112 : decode cX9_told 112 = .ok (.getfield 35, 3) := by decide +kernel
theorem dX9_told_115 : decode cX9_told 115 = .ok (.iload_n 1, 1) := by decide +kernel
theorem dX9_told_116 : decode cX9_told 116 = .ok (.iaload, 1) := by decide +kernel
theorem dX9_told_117 : decode cX9_told 117 = .ok (.ireturn, 1) := by decide +kernel
theorem dX9_told_118 : decode cX9_told 118 = .ok (.aload_n 0, 1) := by decide +kernel
theorem dX9_told_119 : decode cX9_told 119 = .ok (.getfield 38, 3) := by decide +kernel
theorem dX9_told_122 : decode cX9_told 122 = .ok (.iload_n 1, 1) := by decide +kernel
theorem dX9_told_123 : decode cX9_told 123 = .ok (.iaload, 1) := by decide +kernel
theorem dX9_told_124 : decode cX9_told 124 = .ok (.ireturn, 1) := by decide +kernel
theorem dX9_told_125 : decode cX9_told 125 = .ok (.aload_n 0, 1) := by decide +kernel
theorem dX9_told_126 : decode cX9_told 126 = .ok (.getfield 47, 3) := by decide +kernel
theorem dX9_told_129 : decode cX9_told 129 = .ok (.iload_n 1, 1) := by decide +kernel
theorem dX9_told_130 : decode cX9_told 130 = .ok (.baload, 1) := by decide +kernel
theorem dX9_told_131 : decode cX9_told 131 = .ok (.invokestatic 107, 3) := by decide +kernel
theorem dX9_told_134 : decode cX9_told 134 = .ok (.ireturn, 1) := by decide +kernel
theorem dX9_told_135 : decode cX9_told 135 = .ok (.aload_n 0, 1) := by decide +kernel
theorem dX9_told_136 : decode cX9_told 136 = .ok (.getfield 51, 3) := by decide +kernel
theorem dX9_told_139 : decode cX9_told 139 = .ok (.iload_n 1, 1) := by decide +kernel
theorem dX9_told_140 : decode cX9_told 140 = .ok (.baload, 1) := by decide +kernel
theorem dX9_told_141 : decode cX9_told 141 = .ok (.invokestatic 107, 3) := by decide +kernel
theorem dX9_told_144 : decode cX9_told 144 = .ok (.ireturn, 1) := by decide +kernel
theorem dX9_told_145 : decode cX9_told 145 = .ok (.aload_n 0, 1) := by decide +kernel
theorem dX9_told_146 : decode cX9_told 146 = .ok (.iload_n 1, 1) := by decide +kernel
theorem dX9_told_147 : decode cX9_told 147 = .ok (.invokevirtual 152, 3) := by decide +kernel
theorem dX9_told_150 : decode cX9_told 150 = .ok (.ireturn, 1) := by decide +kernel
theorem dX9_told_151 : decode cX9_told 151 = .ok (.aload_n 0, 1) := by decide +kernel
theorem dX9_told_152 : decode cX9_told 152 = .ok (.iload_n 1, 1) := by decide +kernel
theorem dX9_told_153 : decode cX9_told 153 = .ok (.invokevirtual 144, 3) := by decide +kernel
theorem dX9_told_156 : decode cX9_told 156 = .ok (.ireturn, 1) := by decide +kernel
theorem dX9_told_157 : decode cX9_told 157 = .ok (.aload_n 0, 1) := by decide +kernel
theorem dX9_told_158 : decode cX9_told 158 = .ok (.getfield 41, 3) := by decide +kernel
theorem dX9_told_161 : decode cX9_told 161 = .ok (.iload_n 1, 1) := by decide +kernel
theorem dX9_told_162 : decode cX9_told 162 = .ok (.iaload, 1) := by decide +kernel
theorem dX9_told_163 : decode cX9_told 163 = .ok (.aload_n 0, 1) := by decide +kernel
theorem dX9_told_164 : decode cX9_told 164 = .ok (.getfield 44, 3) := by decide +kernel
theorem dX9_told_167 : decode cX9_told 167 = .ok (.iload_n 1, 1) := by decide +kernel
theorem dX9_told_168 : decode cX9_told 168 = .ok (.iaload, 1) := by decide +kernel
theorem dX9_told_169 : decode cX9_told 169 = .ok (.ior, 1) := by decide +kernel
theorem dX9_told_170 : decode cX9_told 170 = .ok (.invokestatic 120, 3) := by decide +kernel
theorem dX9_told_173 : decode cX9_told 173 = .ok (.ireturn, 1) := by decide +kernel
theorem dX9_told_174 : decode cX9_told 174 = .ok (.aload_n 0, 1) := by decide +kernel
theorem dX9_told_175 : decode cX9_told 175 = .ok (.invokevirtual 174, 3) := by decide +kernel
theorem dX9_told_178 : decode cX9_told 178 = .ok (.aload_n 0, 1) := by decide +kernel
theorem dX9_told_179 : decode cX9_told 179 = .ok (.getfield 72, 3) := by decide +kernel
theorem dX9_told_182 : decode cX9_told 182 = .ok (.iload_n 1, 1) := by decide +kernel
theorem dX9_told_183 : decode cX9_told 183 = .ok (.iaload, 1) := by decide +kernel
theorem dX9_told_184 : decode cX9_told 184 = .ok (.ireturn, 1) := by decide +kernel
theorem dX9_told_185 : decode cX9_told 185 = .ok (.iconst (-1), 1) := by decide +kernel
theorem dX9_told_186 : decode cX9_told 186 = .ok (.ireturn, 1) := by decide +kernel
theorem dX9_order_0 : decode cX9_order 0 = .ok (.aload_n 0, 1) := by decide +kernel
theorem dX9_order_1 : decode cX9_order 1 = .ok (.invokevirtual 174, 3) := by decide +kernel
theorem dX9_order_4 : decode cX9_order 4 = .ok (.iload_n 1, 1) := by decide +kernel
theorem dX9_order_5 : decode cX9_order 5 = .ok (.iconst 0, 1) := by decide +kernel
theorem dX9_order_6 : decode cX9_order 6 = .ok (.aload_n 0, 1) := by decide +kernel
theorem dX9_order_7 : decode cX9_order 7 = .ok (.getfield 165, 3) := by decide +kernel
theorem dX9_order_10 : decode cX9_order 10 = .ok (.iconst 1, 1) := by decide +kernel
theorem dX9_order_11 : decode cX9_order 11 = .ok (.isub, 1) := by decide +kernel
theorem dX9_order_12 : decode cX9_order 12 = .ok (.invokestatic 96, 3) := by decide +kernel
theorem dX9_order_15 : decode cX9_order 15 = .ok (.ifCond .eq 12, 3) := by decide +kernel
theorem dX9_order_18 : decode cX9_order 18 = .ok (.aload_n 0, 1) := by decide +kernel
theorem dX9_order_19 : decode cX9_order 19 = .ok (.getfield 78, 3) := by decide +kernel
theorem dX9_order_22 : decode cX9_order 22 = .ok (.iload_n 1, 1) := by decide +kernel
theorem dX9_order_23 : decode cX9_order 23 = .ok (.iaload, 1) := by decide +kernel
theorem dX9_order_24 : decode cX9_order 24 = .ok (.goto 4, 3) := by decide +kernel
theorem dX9_order_27 : decode cX9_order 27 = .ok (.iconst (-1), 1) := by decide +kernel
theorem dX9_order_28 : decode cX9_order 28 = .ok (.ireturn, 1) := by decide +kernel
theorem dX9_caseOf_0 : decode cX9_caseOf 0 = .ok (.aload_n 0, 1) := by decide +kernel
theorem dX9_caseOf_1 : decode cX9_caseOf 1 = .ok (.iload_n 1, 1) := by decide +kernel
theorem dX9_caseOf_2 : decode cX9_caseOf 2 = .ok (.invokevirtual 117, 3) := by decide +kernel
theorem dX9_caseOf_5 : decode cX9_caseOf 5 = .ok (.ifCond .ne 5, 3) := by decide +kernel
theorem dX9_caseOf_8 : decode cX9_caseOf 8 = .ok (.iconst (-1), 1) := by decide +kernel
theorem dX9_caseOf_9 : decode cX9_caseOf 9 = .ok (.ireturn, 1) := by decide +kernel
theorem dX9_caseOf_10 : decode cX9_caseOf 10 = .ok (.aload_n 0, 1) := by decide +kernel
theorem dX9_caseOf_11 : decode cX9_caseOf 11 = .ok (.invokevirtual 174, 3) := by decide +kernel
theorem dX9_caseOf_14 : decode cX9_caseOf 14 = .ok (.aload_n 0, 1) := by decide +kernel
theorem dX9_caseOf_15 : decode cX9_caseOf 15 = .ok (.getfield 72, 3) := by decide +kernel
theorem dX9_caseOf_18 : decode cX9_caseOf 18 = .ok (.iload_n 1, 1) := by decide +kernel
theorem dX9_caseOf_19 : decode cX9_caseOf 19 = .ok (.iaload, 1) := by decide +kernel
theorem dX9_caseOf_20 : decode cX9_caseOf 20 = .ok (.iload_n 1, 1) := by decide +kernel
theorem dX9_caseOf_21 : decode cX9_caseOf 21 = .ok (.if_icmp .eq 5, 3) := by decide +kernel
theorem dX9_caseOf_24 : decode cX9_caseOf 24 = .ok (.iconst (-1), 1) := by decide +kernel
theorem dX9_caseOf_25 : decode cX9_caseOf 25 = .ok (.ireturn, 1) := by decide +kernel
theorem dX9_caseOf_26 : decode cX9_caseOf 26 = .ok (.iload_n 2, 1) := by decide +kernel
theorem dX9_caseOf_27 : decode cX9_caseOf 27 = .ok (.ifCond .ne 9, 3) := by decide +kernel
theorem dX9_caseOf_30 : decode cX9_caseOf 30 = .ok (.aload_n 0, 1) := by decide +kernel
theorem dX9_caseOf_31 : decode cX9_caseOf 31 = .ok (.iload_n 1, 1) := by decide +kernel
theorem dX9_caseOf_32 : decode cX9_caseOf 32 = .ok (.invokevirtual 171, 3) := by decide +kernel
theorem dX9_caseOf_35 : decode cX9_caseOf 35 = .ok (.ireturn, 1) := by decide +kernel
theorem dX9_caseOf_36 : decode cX9_caseOf 36 = .ok (.iload_n 2, 1) := by decide +kernel
theorem dX9_caseOf_37 : decode cX9_caseOf 37 = .ok (.iconst 1, 1) := by decide +kernel
theorem dX9_caseOf_38 : decode cX9_caseOf 38 = .ok (.if_icmp .ne 9, 3) := by decide +kernel
theorem dX9_caseOf_41 : decode cX9_caseOf 41 = .ok (.aload_n 0, 1) := by decide +kernel
theorem dX9_caseOf_42 : decode cX9_caseOf 42 = .ok (.iload_n 1, 1) := by decide +kernel
theorem dX9_caseOf_43 : decode cX9_caseOf 43 = .ok (.invokevirtual 168, 3) := by decide +kernel
theorem dX9_caseOf_46 : decode cX9_caseOf 46 = .ok (.ireturn, 1) := by decide +kernel
theorem dX9_caseOf_47 : decode cX9_caseOf 47 = .ok (.iload_n 2, 1) := by decide +kernel
theorem dX9_caseOf_48 : decode cX9_caseOf 48 = .ok (.iconst 2, 1) := by decide +kernel
theorem dX9_caseOf_49 : decode cX9_caseOf 49 = .ok (.if_icmp .ne 9, 3) := by decide +kernel
theorem dX9_caseOf_52 : decode cX9_caseOf 52 = .ok (.aload_n 0, 1) := by decide +kernel
theorem dX9_caseOf_53 : decode cX9_caseOf 53 = .ok (.iload_n 1, 1) := by decide +kernel
theorem dX9_caseOf_54 : decode cX9_caseOf 54 = .ok (.invokevirtual 177, 3) := by decide +kernel
theorem dX9_caseOf_57 : decode cX9_caseOf 57 = .ok (.ireturn, 1) := by decide +kernel
theorem dX9_caseOf_58 : decode cX9_caseOf 58 = .ok (.iload_n 2, 1) := by decide +kernel
theorem dX9_caseOf_59 : decode cX9_caseOf 59 = .ok (.iconst 3, 1) := by decide +kernel
theorem dX9_caseOf_60 : decode cX9_caseOf 60 = .ok (.if_icmp .ne 12, 3) := by decide +kernel
theorem dX9_caseOf_63 : decode cX9_caseOf 63 = .ok (.aload_n 0, 1) := by decide +kernel
theorem dX9_caseOf_64 : decode cX9_caseOf 64 = .ok (.iload_n 1, 1) := by decide +kernel
theorem dX9_caseOf_65 : decode cX9_caseOf 65 = .ok (.invokevirtual 180, 3) := by decide +kernel
theorem dX9_caseOf_68 : decode cX9_caseOf 68 = .ok (.invokestatic 107, 3) := by decide +kernel
theorem dX9_caseOf_71 : decode cX9_caseOf 71 = .ok (.ireturn, 1) := by decide +kernel
theorem dX9_caseOf_72 : decode cX9_caseOf 72 = .ok (.bipush 10, 2) := by decide +kernel
theorem dX9_caseOf_74 : decode cX9_caseOf 74 = .ok (.istore_n 3, 1) := by decide +kernel
theorem dX9_caseOf_75 : decode cX9_caseOf 75 = .ok (.iload_n 1, 1) := by decide +kernel
theorem dX9_caseOf_76 : decode cX9_caseOf 76 = .ok (.istore 4, 2) := by decide +kernel
theorem dX9_caseOf_78 : decode cX9_caseOf 78 = .ok (.iload 4, 2) := by decide +kernel
theorem dX9_caseOf_80 : decode cX9_caseOf 80 = .ok (.aload_n 0, 1) := by decide +kernel
theorem dX9_caseOf_81 : decode cX9_caseOf 81 = .ok (.getfield 93, 3) := by decide +kernel
theorem dX9_caseOf_84 : decode cX9_caseOf 84 = .ok (.if_icmp .ge 34, 3) := by decide +kernel
theorem dX9_caseOf_87 : decode cX9_caseOf 87 = .ok (.aload_n 0, 1) := by decide +kernel
theorem dX9_caseOf_88 : decode cX9_caseOf 88 = .ok (.getfield 72, 3) := by decide +kernel
theorem dX9_caseOf_91 : decode cX9_caseOf 91 = .ok (.iload 4, 2) := by decide +kernel
theorem dX9_caseOf_93 : decode cX9_caseOf 93 = .ok (.iaload, 1) := by decide +kernel
theorem dX9_caseOf_94 : decode cX9_caseOf 94 = .ok (.iload_n 1, 1) := by decide +kernel
theorem dX9_caseOf_95 : decode cX9_caseOf 95 = .ok (.if_icmp .eq 6, 3) := by decide +kernel
theorem dX9_caseOf_98 : decode cX9_caseOf 98 = .ok (.goto 14, 3) := by decide +kernel
theorem dX9_caseOf_101 : decode cX9_caseOf 101 = .ok (.iload_n 3, 1) := by decide +kernel
theorem dX9_caseOf_102 : decode cX9_caseOf 102 = .ok (.iload_n 2, 1) := by decide +kernel
theorem dX9_caseOf_103 : decode cX9_caseOf 103 = .ok (.if_icmp .ne 6, 3) := by decide +kernel
theorem dX9_caseOf_106 : decode cX9_caseOf 106 = .ok (.iload 4, 2) := by decide +kernel
theorem dX9_caseOf_108 : decode cX9_caseOf 108 = .ok (.ireturn, 1) := by decide +kernel
theorem dX9_caseOf_109 : decode cX9_caseOf 109 = .ok (.iinc 3 1, 3) := by decide +kernel
theorem dX9_caseOf_112 : decode cX9_caseOf 112 = .ok (.iinc 4 1, 3) := by decide +kernel
theorem dX9_caseOf_115 : decode cX9_caseOf 115 = .ok (.goto (-37), 3) := by decide +kernel
theorem dX9_caseOf_118 : decode cX9_caseOf 118 = .ok (.iconst (-1), 1) := by decide +kernel
theorem dX9_caseOf_119 : decode cX9_caseOf 119 = .ok (.ireturn, 1) := by decide +kernel
theorem dX9_slow_0 : decode cX9_slow 0 = .ok (.iload_n 1, 1) := by decide +kernel
theorem dX9_slow_1 : decode cX9_slow 1 = .ok (.iconst 0, 1) := by decide +kernel
theorem dX9_slow_2 : decode cX9_slow 2 = .ok (.bipush 39, 2) := by decide +kernel
theorem dX9_slow_4 : decode cX9_slow 4 = .ok (.invokestatic 96, 3) := by decide +kernel
theorem dX9_slow_7 : decode cX9_slow 7 = .ok (.ifCond .ne 5, 3) := by decide +kernel
theorem dX9_slow_10 : decode cX9_slow 10 = .ok (.iconst (-1), 1) := by decide +kernel
theorem dX9_slow_11 : decode cX9_slow 11 = .ok (.ireturn, 1) := by decide +kernel
theorem dX9_slow_12 : decode cX9_slow 12 = .ok (.iconst 0, 1) := by decide +kernel
theorem dX9_slow_13 : decode cX9_slow 13 = .ok (.istore_n 2, 1) := by decide +kernel
theorem dX9_slow_14 : decode cX9_slow 14 = .ok (.iconst 0, 1) := by decide +kernel
theorem dX9_slow_15 : decode cX9_slow 15 = .ok (.istore_n 3, 1) := by decide +kernel
theorem dX9_slow_16 : decode cX9_slow 16 = .ok (.iload_n 3, 1) := by decide +kernel
theorem dX9_slow_17 : decode cX9_slow 17 = .ok (.aload_n 0, 1) := by decide +kernel
theorem dX9_slow_18 : decode cX9_slow 18 = .ok (.getfield 93, 3) := by decide +kernel
theorem dX9_slow_21 : decode cX9_slow 21 = .ok (.if_icmp .ge 69, 3) := by decide +kernel
theorem dX9_slow_24 : decode cX9_slow 24 = .ok (.aload_n 0, 1) := by decide +kernel
theorem dX9_slow_25 : decode cX9_slow 25 = .ok (.iload_n 3, 1) := by decide +kernel
theorem dX9_slow_26 : decode cX9_slow 26 = .ok (.invokevirtual 103, 3) := by decide +kernel
theorem dX9_slow_29 : decode cX9_slow 29 = .ok (.ifCond .eq 55, 3) := by decide +kernel
theorem dX9_slow_32 : decode cX9_slow 32 = .ok (.aload_n 0, 1) := by decide +kernel
theorem dX9_slow_33 : decode cX9_slow 33 = .ok (.getfield 26, 3) := by decide +kernel
theorem dX9_slow_36 : decode cX9_slow 36 = .ok (.iload_n 3, 1) := by decide +kernel
theorem dX9_slow_37 : decode cX9_slow 37 = .ok (.iaload, 1) := by decide +kernel
theorem dX9_slow_38 : decode cX9_slow 38 = .ok (.iload_n 1, 1) := by decide +kernel
theorem dX9_slow_39 : decode cX9_slow 39 = .ok (.if_icmp .ne 45, 3) := by decide +kernel
theorem dX9_slow_42 : decode cX9_slow 42 = .ok (.aload_n 0, 1) := by decide +kernel
theorem dX9_slow_43 : decode cX9_slow 43 = .ok (.getfield 100, 3) := by decide +kernel
theorem dX9_slow_46 : decode cX9_slow 46 = .ok (.aload_n 0, 1) := by decide +kernel
theorem dX9_slow_47 : decode cX9_slow 47 = .ok (.getfield 16, 3) := by decide +kernel
theorem dX9_slow_50 : decode cX9_slow 50 = .ok (.iload_n 3, 1) := by decide +kernel
theorem dX9_slow_51 : decode cX9_slow 51 = .ok (.iaload, 1) := by decide +kernel
theorem dX9_slow_52 : decode cX9_slow 52 = .ok (.isub, 1) := by decide +kernel
theorem dX9_slow_53 : decode cX9_slow 53 = .ok (.sipush 200, 3) := by decide +kernel
theorem dX9_slow_56 : decode cX9_slow 56 = .ok (.if_icmp .lt 6, 3) := by decide +kernel
theorem dX9_slow_59 : decode cX9_slow 59 = .ok (.goto 25, 3) := by decide +kernel
theorem dX9_slow_62 : decode cX9_slow 62 = .ok (.aload_n 0, 1) := by decide +kernel
theorem dX9_slow_63 : decode cX9_slow 63 = .ok (.iload_n 3, 1) := by decide +kernel
theorem dX9_slow_64 : decode cX9_slow 64 = .ok (.invokevirtual 152, 3) := by decide +kernel
theorem dX9_slow_67 : decode cX9_slow 67 = .ok (.istore 4, 2) := by decide +kernel
theorem dX9_slow_69 : decode cX9_slow 69 = .ok (.iload 4, 2) := by decide +kernel
theorem dX9_slow_71 : decode cX9_slow 71 = .ok (.sipush 10000, 3) := by decide +kernel
theorem dX9_slow_74 : decode cX9_slow 74 = .ok (.if_icmp .lt 5, 3) := by decide +kernel
theorem dX9_slow_77 : decode cX9_slow 77 = .ok (.iconst (-1), 1) := by decide +kernel
theorem dX9_slow_78 : decode cX9_slow 78 = .ok (.ireturn, 1) := by decide +kernel
theorem dX9_slow_79 : decode cX9_slow 79 = .ok (.iload_n 2, 1) := by decide +kernel
theorem dX9_slow_80 : decode cX9_slow 80 = .ok (.iload 4, 2) := by decide +kernel
theorem dX9_slow_82 : decode cX9_slow 82 = .ok (.iadd, 1) := by decide +kernel
theorem dX9_slow_83 : decode cX9_slow 83 = .ok (.istore_n 2, 1) := by decide +kernel
theorem dX9_slow_84 : decode cX9_slow 84 = .ok (.iinc 3 1, 3) := by decide +kernel
theorem dX9_slow_87 : decode cX9_slow 87 = .ok (.goto (-71), 3) := by decide +kernel
end
section
theorem dX9_slow_90 : decode cX9_slow 90 = .ok (.iload_n 2, 1) := by decide +kernel
theorem dX9_slow_91 : decode cX9_slow 91 = .ok (.sipush 30000, 3) := by decide +kernel
theorem dX9_slow_94 : decode cX9_slow 94 = .ok (.if_icmp .le 7, 3) := by decide +kernel
theorem dX9_slow_97 : decode cX9_slow 97 = .ok (.iload_n 2, 1) := by decide +kernel
theorem dX9_slow_98 : decode cX9_slow 98 = .ok (.goto 4, 3) := by decide +kernel
theorem dX9_slow_101 : decode cX9_slow 101 = .ok (.iconst (-1), 1) := by decide +kernel
theorem dX9_slow_102 : decode cX9_slow 102 = .ok (.ireturn, 1) := by decide +kernel
theorem dX9_isTaken_0 : decode cX9_isTaken 0 = .ok (.iconst 0, 1) := by decide +kernel
theorem dX9_isTaken_1 : decode cX9_isTaken 1 = .ok (.istore_n 2, 1) := by decide +kernel
theorem dX9_isTaken_2 : decode cX9_isTaken 2 = .ok (.iload_n 2, 1) := by decide +kernel
theorem dX9_isTaken_3 : decode cX9_isTaken 3 = .ok (.aload_n 0, 1) := by decide +kernel
theorem dX9_isTaken_4 : decode cX9_isTaken 4 = .ok (.getfield 183, 3) := by decide +kernel
theorem dX9_isTaken_7 : decode cX9_isTaken 7 = .ok (.if_icmp .ge 21, 3) := by decide +kernel
theorem dX9_isTaken_10 : decode cX9_isTaken 10 = .ok (.aload_n 0, 1) := by decide +kernel
theorem dX9_isTaken_11 : decode cX9_isTaken 11 = .ok (.getfield 81, 3) := by decide +kernel
theorem dX9_isTaken_14 : decode cX9_isTaken 14 = .ok (.iload_n 2, 1) := by decide +kernel
theorem dX9_isTaken_15 : decode cX9_isTaken 15 = .ok (.iaload, 1) := by decide +kernel
theorem dX9_isTaken_16 : decode cX9_isTaken 16 = .ok (.iload_n 1, 1) := by decide +kernel
theorem dX9_isTaken_17 : decode cX9_isTaken 17 = .ok (.if_icmp .ne 5, 3) := by decide +kernel
theorem dX9_isTaken_20 : decode cX9_isTaken 20 = .ok (.iconst 1, 1) := by decide +kernel
theorem dX9_isTaken_21 : decode cX9_isTaken 21 = .ok (.ireturn, 1) := by decide +kernel
theorem dX9_isTaken_22 : decode cX9_isTaken 22 = .ok (.iinc 2 1, 3) := by decide +kernel
theorem dX9_isTaken_25 : decode cX9_isTaken 25 = .ok (.goto (-23), 3) := by decide +kernel
theorem dX9_isTaken_28 : decode cX9_isTaken 28 = .ok (.iconst 0, 1) := by decide +kernel
theorem dX9_isTaken_29 : decode cX9_isTaken 29 = .ok (.ireturn, 1) := by decide +kernel
theorem dX9_plans_0 : decode cX9_plans 0 = .ok (.aload_n 0, 1) := by decide +kernel
theorem dX9_plans_1 : decode cX9_plans 1 = .ok (.invokevirtual 174, 3) := by decide +kernel
theorem dX9_plans_4 : decode cX9_plans 4 = .ok (.aload_n 0, 1) := by decide +kernel
theorem dX9_plans_5 : decode cX9_plans 5 = .ok (.iconst 0, 1) := by decide +kernel
theorem dX9_plans_6 : decode cX9_plans 6 = .ok (.putfield 183, 3) := by decide +kernel
theorem dX9_plans_9 : decode cX9_plans 9 = .ok (.iload_n 1, 1) := by decide +kernel
theorem dX9_plans_10 : decode cX9_plans 10 = .ok (.istore_n 2, 1) := by decide +kernel
theorem dX9_plans_11 : decode cX9_plans 11 = .ok (.iconst 0, 1) := by decide +kernel
theorem dX9_plans_12 : decode cX9_plans 12 = .ok (.istore_n 3, 1) := by decide +kernel
theorem dX9_plans_13 : decode cX9_plans 13 = .ok (.iload_n 3, 1) := by decide +kernel
theorem dX9_plans_14 : decode cX9_plans 14 = .ok (.aload_n 0, 1) := by decide +kernel
theorem dX9_plans_15 : decode cX9_plans 15 = .ok (.getfield 165, 3) := by decide +kernel
theorem dX9_plans_18 : decode cX9_plans 18 = .ok (.if_icmp .ge 88, 3) := by decide +kernel
theorem dX9_plans_21 : decode cX9_plans 21 = .ok (.aload_n 0, 1) := by decide +kernel
theorem dX9_plans_22 : decode cX9_plans 22 = .ok (.getfield 183, 3) := by decide +kernel
theorem dX9_plans_25 : decode cX9_plans 25 = .ok (.aload_n 0, 1) := by decide +kernel
theorem dX9_plans_26 : decode cX9_plans 26 = .ok (.getfield 114, 3) := by decide +kernel
theorem dX9_plans_29 : decode cX9_plans 29 = .ok (.if_icmp .ge 77, 3) := by decide +kernel
theorem dX9_plans_32 : decode cX9_plans 32 = .ok (.aload_n 0, 1) := by decide +kernel
theorem dX9_plans_33 : decode cX9_plans 33 = .ok (.aload_n 0, 1) := by decide +kernel
theorem dX9_plans_34 : decode cX9_plans 34 = .ok (.getfield 78, 3) := by decide +kernel
theorem dX9_plans_37 : decode cX9_plans 37 = .ok (.iload_n 3, 1) := by decide +kernel
theorem dX9_plans_38 : decode cX9_plans 38 = .ok (.iaload, 1) := by decide +kernel
theorem dX9_plans_39 : decode cX9_plans 39 = .ok (.invokevirtual 180, 3) := by decide +kernel
theorem dX9_plans_42 : decode cX9_plans 42 = .ok (.ifCond .eq 58, 3) := by decide +kernel
theorem dX9_plans_45 : decode cX9_plans 45 = .ok (.aload_n 0, 1) := by decide +kernel
theorem dX9_plans_46 : decode cX9_plans 46 = .ok (.aload_n 0, 1) := by decide +kernel
theorem dX9_plans_47 : decode cX9_plans 47 = .ok (.getfield 78, 3) := by decide +kernel
theorem dX9_plans_50 : decode cX9_plans 50 = .ok (.iload_n 3, 1) := by decide +kernel
theorem dX9_plans_51 : decode cX9_plans 51 = .ok (.iaload, 1) := by decide +kernel
theorem dX9_plans_52 : decode cX9_plans 52 = .ok (.invokevirtual 177, 3) := by decide +kernel
theorem dX9_plans_55 : decode cX9_plans 55 = .ok (.iload_n 2, 1) := by decide +kernel
theorem dX9_plans_56 : decode cX9_plans 56 = .ok (.if_icmp .le 6, 3) := by decide +kernel
theorem dX9_plans_59 : decode cX9_plans 59 = .ok (.goto 41, 3) := by decide +kernel
theorem dX9_plans_62 : decode cX9_plans 62 = .ok (.aload_n 0, 1) := by decide +kernel
theorem dX9_plans_63 : decode cX9_plans 63 = .ok (.getfield 81, 3) := by decide +kernel
theorem dX9_plans_66 : decode cX9_plans 66 = .ok (.aload_n 0, 1) := by decide +kernel
theorem dX9_plans_67 : decode cX9_plans 67 = .ok (.getfield 183, 3) := by decide +kernel
theorem dX9_plans_70 : decode cX9_plans 70 = .ok (.aload_n 0, 1) := by decide +kernel
theorem dX9_plans_71 : decode cX9_plans 71 = .ok (.getfield 78, 3) := by decide +kernel
theorem dX9_plans_74 : decode cX9_plans 74 = .ok (.iload_n 3, 1) := by decide +kernel
theorem dX9_plans_75 : decode cX9_plans 75 = .ok (.iaload, 1) := by decide +kernel
theorem dX9_plans_76 : decode cX9_plans 76 = .ok (.iastore, 1) := by decide +kernel
theorem dX9_plans_77 : decode cX9_plans 77 = .ok (.aload_n 0, 1) := by decide +kernel
theorem dX9_plans_78 : decode cX9_plans 78 = .ok (.dup, 1) := by decide +kernel
theorem dX9_plans_79 : decode cX9_plans 79 = .ok (.getfield 183, 3) := by decide +kernel
theorem dX9_plans_82 : decode cX9_plans 82 = .ok (.iconst 1, 1) := by decide +kernel
theorem dX9_plans_83 : decode cX9_plans 83 = .ok (.iadd, 1) := by decide +kernel
theorem dX9_plans_84 : decode cX9_plans 84 = .ok (.putfield 183, 3) := by decide +kernel
theorem dX9_plans_87 : decode cX9_plans 87 = .ok (.iload_n 2, 1) := by decide +kernel
theorem dX9_plans_88 : decode cX9_plans 88 = .ok (.aload_n 0, 1) := by decide +kernel
theorem dX9_plans_89 : decode cX9_plans 89 = .ok (.aload_n 0, 1) := by decide +kernel
theorem dX9_plans_90 : decode cX9_plans 90 = .ok (.getfield 78, 3) := by decide +kernel
theorem dX9_plans_93 : decode cX9_plans 93 = .ok (.iload_n 3, 1) := by decide +kernel
theorem dX9_plans_94 : decode cX9_plans 94 = .ok (.iaload, 1) := by decide +kernel
theorem dX9_plans_95 : decode cX9_plans 95 = .ok (.invokevirtual 177, 3) := by decide +kernel
theorem dX9_plans_98 : decode cX9_plans 98 = .ok (.isub, 1) := by decide +kernel
theorem dX9_plans_99 : decode cX9_plans 99 = .ok (.istore_n 2, 1) := by decide +kernel
theorem dX9_plans_100 : decode cX9_plans 100 = .ok (.iinc 3 1, 3) := by decide +kernel
theorem dX9_plans_103 : decode cX9_plans 103 = .ok (.goto (-90), 3) := by decide +kernel
theorem dX9_plans_106 : decode cX9_plans 106 = .ok (.iconst 0, 1) := by decide +kernel
theorem dX9_plans_107 : decode cX9_plans 107 = .ok (.istore_n 3, 1) := by decide +kernel
theorem dX9_plans_108 : decode cX9_plans 108 = .ok (.iconst 0, 1) := by decide +kernel
theorem dX9_plans_109 : decode cX9_plans 109 = .ok (.istore 4, 2) := by decide +kernel
theorem dX9_plans_111 : decode cX9_plans 111 = .ok (.iload 4, 2) := by decide +kernel
theorem dX9_plans_113 : decode cX9_plans 113 = .ok (.aload_n 0, 1) := by decide +kernel
theorem dX9_plans_114 : decode cX9_plans 114 = .ok (.getfield 165, 3) := by decide +kernel
theorem dX9_plans_117 : decode cX9_plans 117 = .ok (.if_icmp .ge 82, 3) := by decide +kernel
theorem dX9_plans_120 : decode cX9_plans 120 = .ok (.iload_n 3, 1) := by decide +kernel
theorem dX9_plans_121 : decode cX9_plans 121 = .ok (.bipush 12, 2) := by decide +kernel
theorem dX9_plans_123 : decode cX9_plans 123 = .ok (.if_icmp .ge 76, 3) := by decide +kernel
theorem dX9_plans_126 : decode cX9_plans 126 = .ok (.aload_n 0, 1) := by decide +kernel
theorem dX9_plans_127 : decode cX9_plans 127 = .ok (.aload_n 0, 1) := by decide +kernel
theorem dX9_plans_128 : decode cX9_plans 128 = .ok (.getfield 78, 3) := by decide +kernel
theorem dX9_plans_131 : decode cX9_plans 131 = .ok (.iload 4, 2) := by decide +kernel
theorem dX9_plans_133 : decode cX9_plans 133 = .ok (.iaload, 1) := by decide +kernel
theorem dX9_plans_134 : decode cX9_plans 134 = .ok (.invokevirtual 186, 3) := by decide +kernel
theorem dX9_plans_137 : decode cX9_plans 137 = .ok (.ifCond .eq 6, 3) := by decide +kernel
theorem dX9_plans_140 : decode cX9_plans 140 = .ok (.goto 53, 3) := by decide +kernel
theorem dX9_plans_143 : decode cX9_plans 143 = .ok (.aload_n 0, 1) := by decide +kernel
theorem dX9_plans_144 : decode cX9_plans 144 = .ok (.getfield 84, 3) := by decide +kernel
theorem dX9_plans_147 : decode cX9_plans 147 = .ok (.iload_n 3, 1) := by decide +kernel
theorem dX9_plans_148 : decode cX9_plans 148 = .ok (.aload_n 0, 1) := by decide +kernel
theorem dX9_plans_149 : decode cX9_plans 149 = .ok (.getfield 78, 3) := by decide +kernel
theorem dX9_plans_152 : decode cX9_plans 152 = .ok (.iload 4, 2) := by decide +kernel
theorem dX9_plans_154 : decode cX9_plans 154 = .ok (.iaload, 1) := by decide +kernel
theorem dX9_plans_155 : decode cX9_plans 155 = .ok (.iastore, 1) := by decide +kernel
theorem dX9_plans_156 : decode cX9_plans 156 = .ok (.aload_n 0, 1) := by decide +kernel
theorem dX9_plans_157 : decode cX9_plans 157 = .ok (.getfield 87, 3) := by decide +kernel
theorem dX9_plans_160 : decode cX9_plans 160 = .ok (.iload_n 3, 1) := by decide +kernel
theorem dX9_plans_161 : decode cX9_plans 161 = .ok (.aload_n 0, 1) := by decide +kernel
theorem dX9_plans_162 : decode cX9_plans 162 = .ok (.aload_n 0, 1) := by decide +kernel
theorem dX9_plans_163 : decode cX9_plans 163 = .ok (.getfield 78, 3) := by decide +kernel
theorem dX9_plans_166 : decode cX9_plans 166 = .ok (.iload 4, 2) := by decide +kernel
theorem dX9_plans_168 : decode cX9_plans 168 = .ok (.iaload, 1) := by decide +kernel
theorem dX9_plans_169 : decode cX9_plans 169 = .ok (.invokevirtual 177, 3) := by decide +kernel
theorem dX9_plans_172 : decode cX9_plans 172 = .ok (.iastore, 1) := by decide +kernel
theorem dX9_plans_173 : decode cX9_plans 173 = .ok (.aload_n 0, 1) := by decide +kernel
theorem dX9_plans_174 : decode cX9_plans 174 = .ok (.getfield 90, 3) := by decide +kernel
theorem dX9_plans_177 : decode cX9_plans 177 = .ok (.iload_n 3, 1) := by decide +kernel
theorem dX9_plans_178 : decode cX9_plans 178 = .ok (.aload_n 0, 1) := by decide +kernel
theorem dX9_plans_179 : decode cX9_plans 179 = .ok (.aload_n 0, 1) := by decide +kernel
theorem dX9_plans_180 : decode cX9_plans 180 = .ok (.getfield 78, 3) := by decide +kernel
theorem dX9_plans_183 : decode cX9_plans 183 = .ok (.iload 4, 2) := by decide +kernel
theorem dX9_plans_185 : decode cX9_plans 185 = .ok (.iaload, 1) := by decide +kernel
theorem dX9_plans_186 : decode cX9_plans 186 = .ok (.invokevirtual 168, 3) := by decide +kernel
theorem dX9_plans_189 : decode cX9_plans 189 = .ok (.iastore, 1) := by decide +kernel
theorem dX9_plans_190 : decode cX9_plans 190 = .ok (.iinc 3 1, 3) := by decide +kernel
theorem dX9_plans_193 : decode cX9_plans 193 = .ok (.iinc 4 1, 3) := by decide +kernel
theorem dX9_plans_196 : decode cX9_plans 196 = .ok (.goto (-85), 3) := by decide +kernel
theorem dX9_plans_199 : decode cX9_plans 199 = .ok (.iconst 0, 1) := by decide +kernel
theorem dX9_plans_200 : decode cX9_plans 200 = .ok (.istore 4, 2) := by decide +kernel
theorem dX9_plans_202 : decode cX9_plans 202 = .ok (.iconst 0, 1) := by decide +kernel
theorem dX9_plans_203 : decode cX9_plans 203 = .ok (.istore 5, 2) := by decide +kernel
theorem dX9_plans_205 : decode cX9_plans 205 = .ok (.iconst 1, 1) := by decide +kernel
theorem dX9_plans_206 : decode cX9_plans 206 = .ok (.istore 6, 2) := by decide +kernel
theorem dX9_plans_208 : decode cX9_plans 208 = .ok (.iload 6, 2) := by decide +kernel
theorem dX9_plans_210 : decode cX9_plans 210 = .ok (.iconst 1, 1) := by decide +kernel
theorem dX9_plans_211 : decode cX9_plans 211 = .ok (.iload_n 3, 1) := by decide +kernel
theorem dX9_plans_212 : decode cX9_plans 212 = .ok (.ishl, 1) := by decide +kernel
theorem dX9_plans_213 : decode cX9_plans 213 = .ok (.if_icmp .ge 91, 3) := by decide +kernel
theorem dX9_plans_216 : decode cX9_plans 216 = .ok (.iconst 0, 1) := by decide +kernel
theorem dX9_plans_217 : decode cX9_plans 217 = .ok (.istore 7, 2) := by decide +kernel
theorem dX9_plans_219 : decode cX9_plans 219 = .ok (.iconst 0, 1) := by decide +kernel
theorem dX9_plans_220 : decode cX9_plans 220 = .ok (.istore 8, 2) := by decide +kernel
theorem dX9_plans_222 : decode cX9_plans 222 = .ok (.iconst 0, 1) := by decide +kernel
theorem dX9_plans_223 : decode cX9_plans 223 = .ok (.istore 9, 2) := by decide +kernel
theorem dX9_plans_225 : decode cX9_plans 225 = .ok (.iload 9, 2) := by decide +kernel
theorem dX9_plans_227 : decode cX9_plans 227 = .ok (.iload_n 3, 1) := by decide +kernel
theorem dX9_plans_228 : decode cX9_plans 228 = .ok (.if_icmp .ge 46, 3) := by decide +kernel
theorem dX9_plans_231 : decode cX9_plans 231 = .ok (.iload 6, 2) := by decide +kernel
theorem dX9_plans_233 : decode cX9_plans 233 = .ok (.iload 9, 2) := by decide +kernel
theorem dX9_plans_235 : decode cX9_plans 235 = .ok (.ishr, 1) := by decide +kernel
theorem dX9_plans_236 : decode cX9_plans 236 = .ok (.iconst 1, 1) := by decide +kernel
theorem dX9_plans_237 : decode cX9_plans 237 = .ok (.iand, 1) := by decide +kernel
theorem dX9_plans_238 : decode cX9_plans 238 = .ok (.ifCond .ne 6, 3) := by decide +kernel
theorem dX9_plans_241 : decode cX9_plans 241 = .ok (.goto 27, 3) := by decide +kernel
theorem dX9_plans_244 : decode cX9_plans 244 = .ok (.iload 7, 2) := by decide +kernel
theorem dX9_plans_246 : decode cX9_plans 246 = .ok (.aload_n 0, 1) := by decide +kernel
theorem dX9_plans_247 : decode cX9_plans 247 = .ok (.getfield 87, 3) := by decide +kernel
theorem dX9_plans_250 : decode cX9_plans 250 = .ok (.iload 9, 2) := by decide +kernel
theorem dX9_plans_252 : decode cX9_plans 252 = .ok (.iaload, 1) := by decide +kernel
theorem dX9_plans_253 : decode cX9_plans 253 = .ok (.iadd, 1) := by decide +kernel
theorem dX9_plans_254 : decode cX9_plans 254 = .ok (.istore 7, 2) := by decide +kernel
theorem dX9_plans_256 : decode cX9_plans 256 = .ok (.iload 8, 2) := by decide +kernel
theorem dX9_plans_258 : decode cX9_plans 258 = .ok (.aload_n 0, 1) := by decide +kernel
theorem dX9_plans_259 : decode cX9_plans 259 = .ok (.getfield 90, 3) := by decide +kernel
theorem dX9_plans_262 : decode cX9_plans 262 = .ok (.iload 9, 2) := by decide +kernel
theorem dX9_plans_264 : decode cX9_plans 264 = .ok (.iaload, 1) := by decide +kernel
theorem dX9_plans_265 : decode cX9_plans 265 = .ok (.iadd, 1) := by decide +kernel
theorem dX9_plans_266 : decode cX9_plans 266 = .ok (.istore 8, 2) := by decide +kernel
theorem dX9_plans_268 : decode cX9_plans 268 = .ok (.iinc 9 1, 3) := by decide +kernel
theorem dX9_plans_271 : decode cX9_plans 271 = .ok (.goto (-46), 3) := by decide +kernel
theorem dX9_plans_274 : decode cX9_plans 274 = .ok (.iload 7, 2) := by decide +kernel
theorem dX9_plans_276 : decode cX9_plans 276 = .ok (.iload_n 2, 1) := by decide +kernel
theorem dX9_plans_277 : decode cX9_plans 277 = .ok (.if_icmp .gt 21, 3) := by decide +kernel
theorem dX9_plans_280 : decode cX9_plans 280 = .ok (.iload 8, 2) := by decide +kernel
theorem dX9_plans_282 : decode cX9_plans 282 = .ok (.iload 5, 2) := by decide +kernel
theorem dX9_plans_284 : decode cX9_plans 284 = .ok (.if_icmp .gt 6, 3) := by decide +kernel
theorem dX9_plans_287 : decode cX9_plans 287 = .ok (.goto 11, 3) := by decide +kernel
theorem dX9_plans_290 : decode cX9_plans 290 = .ok (.iload 6, 2) := by decide +kernel
theorem dX9_plans_292 : decode cX9_plans 292 = .ok (.istore 4, 2) := by decide +kernel
theorem dX9_plans_294 : decode cX9_plans 294 = .ok (.iload 8, 2) := by decide +kernel
theorem dX9_plans_296 : decode cX9_plans 296 = .ok (.istore 5, 2) := by decide +kernel
theorem dX9_plans_298 : decode cX9_plans 298 = .ok (.iinc 6 1, 3) := by decide +kernel
theorem dX9_plans_301 : decode cX9_plans 301 = .ok (.goto (-93), 3) := by decide +kernel
theorem dX9_plans_304 : decode cX9_plans 304 = .ok (.iconst 0, 1) := by decide +kernel
theorem dX9_plans_305 : decode cX9_plans 305 = .ok (.istore 6, 2) := by decide +kernel
theorem dX9_plans_307 : decode cX9_plans 307 = .ok (.iload 6, 2) := by decide +kernel
theorem dX9_plans_309 : decode cX9_plans 309 = .ok (.iload_n 3, 1) := by decide +kernel
theorem dX9_plans_310 : decode cX9_plans 310 = .ok (.if_icmp .ge 48, 3) := by decide +kernel
theorem dX9_plans_313 : decode cX9_plans 313 = .ok (.iload 4, 2) := by decide +kernel
theorem dX9_plans_315 : decode cX9_plans 315 = .ok (.iload 6, 2) := by decide +kernel
theorem dX9_plans_317 : decode cX9_plans 317 = .ok (.ishr, 1) := by decide +kernel
theorem dX9_plans_318 : decode cX9_plans 318 = .ok (.iconst 1, 1) := by decide +kernel
theorem dX9_plans_319 : decode cX9_plans 319 = .ok (.iand, 1) := by decide +kernel
theorem dX9_plans_320 : decode cX9_plans 320 = .ok (.ifCond .ne 6, 3) := by decide +kernel
theorem dX9_plans_323 : decode cX9_plans 323 = .ok (.goto 29, 3) := by decide +kernel
theorem dX9_plans_326 : decode cX9_plans 326 = .ok (.aload_n 0, 1) := by decide +kernel
theorem dX9_plans_327 : decode cX9_plans 327 = .ok (.getfield 81, 3) := by decide +kernel
theorem dX9_plans_330 : decode cX9_plans 330 = .ok (.aload_n 0, 1) := by decide +kernel
theorem dX9_plans_331 : decode cX9_plans 331 = .ok (.getfield 183, 3) := by decide +kernel
theorem dX9_plans_334 : decode cX9_plans 334 = .ok (.aload_n 0, 1) := by decide +kernel
theorem dX9_plans_335 : decode cX9_plans 335 = .ok (.getfield 84, 3) := by decide +kernel
theorem dX9_plans_338 : decode cX9_plans 338 = .ok (.iload 6, 2) := by decide +kernel
theorem dX9_plans_340 : decode cX9_plans 340 = .ok (.iaload, 1) := by decide +kernel
theorem dX9_plans_341 : decode cX9_plans 341 = .ok (.iastore, 1) := by decide +kernel
theorem dX9_plans_342 : decode cX9_plans 342 = .ok (.aload_n 0, 1) := by decide +kernel
theorem dX9_plans_343 : decode cX9_plans 343 = .ok (.dup, 1) := by decide +kernel
theorem dX9_plans_344 : decode cX9_plans 344 = .ok (.getfield 183, 3) := by decide +kernel
theorem dX9_plans_347 : decode cX9_plans 347 = .ok (.iconst 1, 1) := by decide +kernel
theorem dX9_plans_348 : decode cX9_plans 348 = .ok (.iadd, 1) := by decide +kernel
theorem dX9_plans_349 : decode cX9_plans 349 = .ok (.putfield 183, 3) := by decide +kernel
theorem dX9_plans_352 : decode cX9_plans 352 = .ok (.iinc 6 1, 3) := by decide +kernel
theorem dX9_plans_355 : decode cX9_plans 355 = .ok (.goto (-48), 3) := by decide +kernel
theorem dX9_plans_358 : decode cX9_plans 358 = .ok (.return_, 1) := by decide +kernel
theorem dX9_isPlan_0 : decode cX9_isPlan 0 = .ok (.iload_n 0, 1) := by decide +kernel
theorem dX9_isPlan_1 : decode cX9_isPlan 1 = .ok (.iconst 0, 1) := by decide +kernel
theorem dX9_isPlan_2 : decode cX9_isPlan 2 = .ok (.sipush 300, 3) := by decide +kernel
theorem dX9_isPlan_5 : decode cX9_isPlan 5 = .ok (.invokestatic 96, 3) := by decide +kernel
theorem dX9_isPlan_8 : decode cX9_isPlan 8 = .ok (.ireturn, 1) := by decide +kernel
theorem dX9_plan_0 : decode cX9_plan 0 = .ok (.iload_n 1, 1) := by decide +kernel
theorem dX9_plan_1 : decode cX9_plan 1 = .ok (.invokestatic 189, 3) := by decide +kernel
theorem dX9_plan_4 : decode cX9_plan 4 = .ok (.ifCond .ne 5, 3) := by decide +kernel
theorem dX9_plan_7 : decode cX9_plan 7 = .ok (.iconst (-1), 1) := by decide +kernel
theorem dX9_plan_8 : decode cX9_plan 8 = .ok (.ireturn, 1) := by decide +kernel
theorem dX9_plan_9 : decode cX9_plan 9 = .ok (.aload_n 0, 1) := by decide +kernel
theorem dX9_plan_10 : decode cX9_plan 10 = .ok (.iload_n 1, 1) := by decide +kernel
theorem dX9_plan_11 : decode cX9_plan 11 = .ok (.invokevirtual 192, 3) := by decide +kernel
theorem dX9_plan_14 : decode cX9_plan 14 = .ok (.iload_n 2, 1) := by decide +kernel
theorem dX9_plan_15 : decode cX9_plan 15 = .ok (.iconst (-1), 1) := by decide +kernel
theorem dX9_plan_16 : decode cX9_plan 16 = .ok (.if_icmp .ne 10, 3) := by decide +kernel
theorem dX9_plan_19 : decode cX9_plan 19 = .ok (.aload_n 0, 1) := by decide +kernel
theorem dX9_plan_20 : decode cX9_plan 20 = .ok (.getfield 183, 3) := by decide +kernel
theorem dX9_plan_23 : decode cX9_plan 23 = .ok (.goto 27, 3) := by decide +kernel
theorem dX9_plan_26 : decode cX9_plan 26 = .ok (.iload_n 2, 1) := by decide +kernel
theorem dX9_plan_27 : decode cX9_plan 27 = .ok (.iconst 0, 1) := by decide +kernel
theorem dX9_plan_28 : decode cX9_plan 28 = .ok (.aload_n 0, 1) := by decide +kernel
theorem dX9_plan_29 : decode cX9_plan 29 = .ok (.getfield 183, 3) := by decide +kernel
theorem dX9_plan_32 : decode cX9_plan 32 = .ok (.iconst 1, 1) := by decide +kernel
theorem dX9_plan_33 : decode cX9_plan 33 = .ok (.isub, 1) := by decide +kernel
theorem dX9_plan_34 : decode cX9_plan 34 = .ok (.invokestatic 96, 3) := by decide +kernel
theorem dX9_plan_37 : decode cX9_plan 37 = .ok (.ifCond .eq 12, 3) := by decide +kernel
theorem dX9_plan_40 : decode cX9_plan 40 = .ok (.aload_n 0, 1) := by decide +kernel
theorem dX9_plan_41 : decode cX9_plan 41 = .ok (.getfield 81, 3) := by decide +kernel
theorem dX9_plan_44 : decode cX9_plan 44 = .ok (.iload_n 2, 1) := by decide +kernel
theorem dX9_plan_45 : decode cX9_plan 45 = .ok (.iaload, 1) := by decide +kernel
theorem dX9_plan_46 : decode cX9_plan 46 = .ok (.goto 4, 3) := by decide +kernel
theorem dX9_plan_49 : decode cX9_plan 49 = .ok (.iconst (-1), 1) := by decide +kernel
theorem dX9_plan_50 : decode cX9_plan 50 = .ok (.ireturn, 1) := by decide +kernel
theorem dX9_worth_0 : decode cX9_worth 0 = .ok (.iload_n 1, 1) := by decide +kernel
theorem dX9_worth_1 : decode cX9_worth 1 = .ok (.invokestatic 189, 3) := by decide +kernel
theorem dX9_worth_4 : decode cX9_worth 4 = .ok (.ifCond .eq 12, 3) := by decide +kernel
theorem dX9_worth_7 : decode cX9_worth 7 = .ok (.iload_n 2, 1) := by decide +kernel
theorem dX9_worth_8 : decode cX9_worth 8 = .ok (.iconst 0, 1) := by decide +kernel
theorem dX9_worth_9 : decode cX9_worth 9 = .ok (.iconst 2, 1) := by decide +kernel
theorem dX9_worth_10 : decode cX9_worth 10 = .ok (.invokestatic 96, 3) := by decide +kernel
theorem dX9_worth_13 : decode cX9_worth 13 = .ok (.ifCond .ne 5, 3) := by decide +kernel
theorem dX9_worth_16 : decode cX9_worth 16 = .ok (.iconst (-1), 1) := by decide +kernel
theorem dX9_worth_17 : decode cX9_worth 17 = .ok (.ireturn, 1) := by decide +kernel
theorem dX9_worth_18 : decode cX9_worth 18 = .ok (.aload_n 0, 1) := by decide +kernel
theorem dX9_worth_19 : decode cX9_worth 19 = .ok (.iload_n 1, 1) := by decide +kernel
theorem dX9_worth_20 : decode cX9_worth 20 = .ok (.invokevirtual 192, 3) := by decide +kernel
theorem dX9_worth_23 : decode cX9_worth 23 = .ok (.iconst 0, 1) := by decide +kernel
theorem dX9_worth_24 : decode cX9_worth 24 = .ok (.istore_n 3, 1) := by decide +kernel
theorem dX9_worth_25 : decode cX9_worth 25 = .ok (.iconst 0, 1) := by decide +kernel
theorem dX9_worth_26 : decode cX9_worth 26 = .ok (.istore 4, 2) := by decide +kernel
theorem dX9_worth_28 : decode cX9_worth 28 = .ok (.iload 4, 2) := by decide +kernel
theorem dX9_worth_30 : decode cX9_worth 30 = .ok (.aload_n 0, 1) := by decide +kernel
theorem dX9_worth_31 : decode cX9_worth 31 = .ok (.getfield 165, 3) := by decide +kernel
theorem dX9_worth_34 : decode cX9_worth 34 = .ok (.if_icmp .ge 82, 3) := by decide +kernel
theorem dX9_worth_37 : decode cX9_worth 37 = .ok (.aload_n 0, 1) := by decide +kernel
theorem dX9_worth_38 : decode cX9_worth 38 = .ok (.aload_n 0, 1) := by decide +kernel
theorem dX9_worth_39 : decode cX9_worth 39 = .ok (.getfield 78, 3) := by decide +kernel
theorem dX9_worth_42 : decode cX9_worth 42 = .ok (.iload 4, 2) := by decide +kernel
theorem dX9_worth_44 : decode cX9_worth 44 = .ok (.iaload, 1) := by decide +kernel
theorem dX9_worth_45 : decode cX9_worth 45 = .ok (.invokevirtual 186, 3) := by decide +kernel
theorem dX9_worth_48 : decode cX9_worth 48 = .ok (.istore 5, 2) := by decide +kernel
theorem dX9_worth_50 : decode cX9_worth 50 = .ok (.iload_n 3, 1) := by decide +kernel
theorem dX9_worth_51 : decode cX9_worth 51 = .ok (.iload_n 2, 1) := by decide +kernel
theorem dX9_worth_52 : decode cX9_worth 52 = .ok (.iconst 2, 1) := by decide +kernel
theorem dX9_worth_53 : decode cX9_worth 53 = .ok (.if_icmp .ne 26, 3) := by decide +kernel
theorem dX9_worth_56 : decode cX9_worth 56 = .ok (.iload 5, 2) := by decide +kernel
theorem dX9_worth_58 : decode cX9_worth 58 = .ok (.ifCond .eq 17, 3) := by decide +kernel
theorem dX9_worth_61 : decode cX9_worth 61 = .ok (.aload_n 0, 1) := by decide +kernel
theorem dX9_worth_62 : decode cX9_worth 62 = .ok (.aload_n 0, 1) := by decide +kernel
theorem dX9_worth_63 : decode cX9_worth 63 = .ok (.getfield 78, 3) := by decide +kernel
theorem dX9_worth_66 : decode cX9_worth 66 = .ok (.iload 4, 2) := by decide +kernel
theorem dX9_worth_68 : decode cX9_worth 68 = .ok (.iaload, 1) := by decide +kernel
theorem dX9_worth_69 : decode cX9_worth 69 = .ok (.invokevirtual 177, 3) := by decide +kernel
theorem dX9_worth_72 : decode cX9_worth 72 = .ok (.goto 36, 3) := by decide +kernel
theorem dX9_worth_75 : decode cX9_worth 75 = .ok (.iconst 0, 1) := by decide +kernel
theorem dX9_worth_76 : decode cX9_worth 76 = .ok (.goto 32, 3) := by decide +kernel
theorem dX9_worth_79 : decode cX9_worth 79 = .ok (.iload 5, 2) := by decide +kernel
theorem dX9_worth_81 : decode cX9_worth 81 = .ok (.iload_n 2, 1) := by decide +kernel
theorem dX9_worth_82 : decode cX9_worth 82 = .ok (.ifCond .ne 7, 3) := by decide +kernel
theorem dX9_worth_85 : decode cX9_worth 85 = .ok (.iconst 1, 1) := by decide +kernel
theorem dX9_worth_86 : decode cX9_worth 86 = .ok (.goto 4, 3) := by decide +kernel
theorem dX9_worth_89 : decode cX9_worth 89 = .ok (.iconst 0, 1) := by decide +kernel
theorem dX9_worth_90 : decode cX9_worth 90 = .ok (.if_icmp .ne 17, 3) := by decide +kernel
theorem dX9_worth_93 : decode cX9_worth 93 = .ok (.aload_n 0, 1) := by decide +kernel
theorem dX9_worth_94 : decode cX9_worth 94 = .ok (.aload_n 0, 1) := by decide +kernel
theorem dX9_worth_95 : decode cX9_worth 95 = .ok (.getfield 78, 3) := by decide +kernel
theorem dX9_worth_98 : decode cX9_worth 98 = .ok (.iload 4, 2) := by decide +kernel
theorem dX9_worth_100 : decode cX9_worth 100 = .ok (.iaload, 1) := by decide +kernel
theorem dX9_worth_101 : decode cX9_worth 101 = .ok (.invokevirtual 168, 3) := by decide +kernel
theorem dX9_worth_104 : decode cX9_worth 104 = .ok (.goto 4, 3) := by decide +kernel
theorem dX9_worth_107 : decode cX9_worth 107 = .ok (.iconst 0, 1) := by decide +kernel
theorem dX9_worth_108 : decode cX9_worth 108 = .ok (.iadd, 1) := by decide +kernel
theorem dX9_worth_109 : decode cX9_worth 109 = .ok (.istore_n 3, 1) := by decide +kernel
theorem dX9_worth_110 : decode cX9_worth 110 = .ok (.iinc 4 1, 3) := by decide +kernel
theorem dX9_worth_113 : decode cX9_worth 113 = .ok (.goto (-85), 3) := by decide +kernel
theorem dX9_worth_116 : decode cX9_worth 116 = .ok (.iload_n 3, 1) := by decide +kernel
theorem dX9_worth_117 : decode cX9_worth 117 = .ok (.ireturn, 1) := by decide +kernel
theorem dX9_source_0 : decode cX9_source 0 = .ok (.iload_n 1, 1) := by decide +kernel
theorem dX9_source_1 : decode cX9_source 1 = .ok (.iconst 0, 1) := by decide +kernel
theorem dX9_source_2 : decode cX9_source 2 = .ok (.bipush 9, 2) := by decide +kernel
theorem dX9_source_4 : decode cX9_source 4 = .ok (.invokestatic 96, 3) := by decide +kernel
theorem dX9_source_7 : decode cX9_source 7 = .ok (.ifCond .eq 13, 3) := by decide +kernel
theorem dX9_source_10 : decode cX9_source 10 = .ok (.iload_n 2, 1) := by decide +kernel
theorem dX9_source_11 : decode cX9_source 11 = .ok (.iconst 0, 1) := by decide +kernel
theorem dX9_source_12 : decode cX9_source 12 = .ok (.bipush 6, 2) := by decide +kernel
theorem dX9_source_14 : decode cX9_source 14 = .ok (.invokestatic 96, 3) := by decide +kernel
theorem dX9_source_17 : decode cX9_source 17 = .ok (.ifCond .ne 5, 3) := by decide +kernel
theorem dX9_source_20 : decode cX9_source 20 = .ok (.iconst (-1), 1) := by decide +kernel
theorem dX9_source_21 : decode cX9_source 21 = .ok (.ireturn, 1) := by decide +kernel
theorem dX9_source_22 : decode cX9_source 22 = .ok (.iconst 0, 1) := by decide +kernel
theorem dX9_source_23 : decode cX9_source 23 = .ok (.istore_n 3, 1) := by decide +kernel
theorem dX9_source_24 : decode cX9_source 24 = .ok (.iconst 0, 1) := by decide +kernel
theorem dX9_source_25 : decode cX9_source 25 = .ok (.istore 4, 2) := by decide +kernel
theorem dX9_source_27 : decode cX9_source 27 = .ok (.iload 4, 2) := by decide +kernel
theorem dX9_source_29 : decode cX9_source 29 = .ok (.aload_n 0, 1) := by decide +kernel
theorem dX9_source_30 : decode cX9_source 30 = .ok (.getfield 93, 3) := by decide +kernel
theorem dX9_source_33 : decode cX9_source 33 = .ok (.if_icmp .ge 164, 3) := by decide +kernel
theorem dX9_source_36 : decode cX9_source 36 = .ok (.aload_n 0, 1) := by decide +kernel
theorem dX9_source_37 : decode cX9_source 37 = .ok (.getfield 23, 3) := by decide +kernel
theorem dX9_source_40 : decode cX9_source 40 = .ok (.iload 4, 2) := by decide +kernel
theorem dX9_source_42 : decode cX9_source 42 = .ok (.iaload, 1) := by decide +kernel
theorem dX9_source_43 : decode cX9_source 43 = .ok (.iload_n 1, 1) := by decide +kernel
theorem dX9_source_44 : decode cX9_source 44 = .ok (.if_icmp .eq 6, 3) := by decide +kernel
theorem dX9_source_47 : decode cX9_source 47 = .ok (.goto 144, 3) := by decide +kernel
theorem dX9_source_50 : decode cX9_source 50 = .ok (.aload_n 0, 1) := by decide +kernel
theorem dX9_source_51 : decode cX9_source 51 = .ok (.getfield 47, 3) := by decide +kernel
theorem dX9_source_54 : decode cX9_source 54 = .ok (.iload 4, 2) := by decide +kernel
theorem dX9_source_56 : decode cX9_source 56 = .ok (.baload, 1) := by decide +kernel
theorem dX9_source_57 : decode cX9_source 57 = .ok (.ifCond .ne 17, 3) := by decide +kernel
theorem dX9_source_60 : decode cX9_source 60 = .ok (.aload_n 0, 1) := by decide +kernel
theorem dX9_source_61 : decode cX9_source 61 = .ok (.getfield 51, 3) := by decide +kernel
theorem dX9_source_64 : decode cX9_source 64 = .ok (.iload 4, 2) := by decide +kernel
theorem dX9_source_66 : decode cX9_source 66 = .ok (.baload, 1) := by decide +kernel
theorem dX9_source_67 : decode cX9_source 67 = .ok (.ifCond .ne 7, 3) := by decide +kernel
theorem dX9_source_70 : decode cX9_source 70 = .ok (.iconst 1, 1) := by decide +kernel
theorem dX9_source_71 : decode cX9_source 71 = .ok (.goto 4, 3) := by decide +kernel
theorem dX9_source_74 : decode cX9_source 74 = .ok (.iconst 0, 1) := by decide +kernel
theorem dX9_source_75 : decode cX9_source 75 = .ok (.istore 5, 2) := by decide +kernel
theorem dX9_source_77 : decode cX9_source 77 = .ok (.iload_n 3, 1) := by decide +kernel
theorem dX9_source_78 : decode cX9_source 78 = .ok (.iload_n 2, 1) := by decide +kernel
theorem dX9_source_79 : decode cX9_source 79 = .ok (.iconst 1, 1) := by decide +kernel
theorem dX9_source_80 : decode cX9_source 80 = .ok (.if_icmp .ne 13, 3) := by decide +kernel
theorem dX9_source_83 : decode cX9_source 83 = .ok (.aload_n 0, 1) := by decide +kernel
theorem dX9_source_84 : decode cX9_source 84 = .ok (.getfield 35, 3) := by decide +kernel
theorem dX9_source_87 : decode cX9_source 87 = .ok (.iload 4, 2) := by decide +kernel
theorem dX9_source_89 : decode cX9_source 89 = .ok (.iaload, 1) := by decide +kernel
theorem dX9_source_90 : decode cX9_source 90 = .ok (.goto 99, 3) := by decide +kernel
theorem dX9_source_93 : decode cX9_source 93 = .ok (.iload_n 2, 1) := by decide +kernel
theorem dX9_source_94 : decode cX9_source 94 = .ok (.ifCond .eq 87, 3) := by decide +kernel
theorem dX9_source_97 : decode cX9_source 97 = .ok (.iload_n 2, 1) := by decide +kernel
theorem dX9_source_98 : decode cX9_source 98 = .ok (.iconst 2, 1) := by decide +kernel
theorem dX9_source_99 : decode cX9_source 99 = .ok (.if_icmp .ne 13, 3) := by decide +kernel
theorem dX9_source_102 : decode cX9_source 102 = .ok (.aload_n 0, 1) := by decide +kernel
theorem dX9_source_103 : decode cX9_source 103 = .ok (.getfield 47, 3) := by decide +kernel
theorem dX9_source_106 : decode cX9_source 106 = .ok (.iload 4, 2) := by decide +kernel
theorem dX9_source_108 : decode cX9_source 108 = .ok (.baload, 1) := by decide +kernel
theorem dX9_source_109 : decode cX9_source 109 = .ok (.ifCond .ne 72, 3) := by decide +kernel
theorem dX9_source_112 : decode cX9_source 112 = .ok (.iload_n 2, 1) := by decide +kernel
theorem dX9_source_113 : decode cX9_source 113 = .ok (.iconst 3, 1) := by decide +kernel
theorem dX9_source_114 : decode cX9_source 114 = .ok (.if_icmp .ne 13, 3) := by decide +kernel
theorem dX9_source_117 : decode cX9_source 117 = .ok (.aload_n 0, 1) := by decide +kernel
theorem dX9_source_118 : decode cX9_source 118 = .ok (.getfield 51, 3) := by decide +kernel
theorem dX9_source_121 : decode cX9_source 121 = .ok (.iload 4, 2) := by decide +kernel
theorem dX9_source_123 : decode cX9_source 123 = .ok (.baload, 1) := by decide +kernel
theorem dX9_source_124 : decode cX9_source 124 = .ok (.ifCond .ne 57, 3) := by decide +kernel
theorem dX9_source_127 : decode cX9_source 127 = .ok (.iload_n 2, 1) := by decide +kernel
theorem dX9_source_128 : decode cX9_source 128 = .ok (.iconst 4, 1) := by decide +kernel
theorem dX9_source_129 : decode cX9_source 129 = .ok (.if_icmp .ne 14, 3) := by decide +kernel
theorem dX9_source_132 : decode cX9_source 132 = .ok (.aload_n 0, 1) := by decide +kernel
theorem dX9_source_133 : decode cX9_source 133 = .ok (.getfield 38, 3) := by decide +kernel
theorem dX9_source_136 : decode cX9_source 136 = .ok (.iload 4, 2) := by decide +kernel
theorem dX9_source_138 : decode cX9_source 138 = .ok (.iaload, 1) := by decide +kernel
theorem dX9_source_139 : decode cX9_source 139 = .ok (.iconst 1, 1) := by decide +kernel
theorem dX9_source_140 : decode cX9_source 140 = .ok (.if_icmp .eq 41, 3) := by decide +kernel
theorem dX9_source_143 : decode cX9_source 143 = .ok (.iload_n 2, 1) := by decide +kernel
theorem dX9_source_144 : decode cX9_source 144 = .ok (.iconst 5, 1) := by decide +kernel
theorem dX9_source_145 : decode cX9_source 145 = .ok (.if_icmp .ne 14, 3) := by decide +kernel
theorem dX9_source_148 : decode cX9_source 148 = .ok (.aload_n 0, 1) := by decide +kernel
theorem dX9_source_149 : decode cX9_source 149 = .ok (.getfield 38, 3) := by decide +kernel
theorem dX9_source_152 : decode cX9_source 152 = .ok (.iload 4, 2) := by decide +kernel
theorem dX9_source_154 : decode cX9_source 154 = .ok (.iaload, 1) := by decide +kernel
theorem dX9_source_155 : decode cX9_source 155 = .ok (.iconst 2, 1) := by decide +kernel
theorem dX9_source_156 : decode cX9_source 156 = .ok (.if_icmp .eq 25, 3) := by decide +kernel
theorem dX9_source_159 : decode cX9_source 159 = .ok (.iload_n 2, 1) := by decide +kernel
theorem dX9_source_160 : decode cX9_source 160 = .ok (.bipush 6, 2) := by decide +kernel
theorem dX9_source_162 : decode cX9_source 162 = .ok (.if_icmp .ne 23, 3) := by decide +kernel
theorem dX9_source_165 : decode cX9_source 165 = .ok (.aload_n 0, 1) := by decide +kernel
theorem dX9_source_166 : decode cX9_source 166 = .ok (.getfield 38, 3) := by decide +kernel
theorem dX9_source_169 : decode cX9_source 169 = .ok (.iload 4, 2) := by decide +kernel
theorem dX9_source_171 : decode cX9_source 171 = .ok (.iaload, 1) := by decide +kernel
theorem dX9_source_172 : decode cX9_source 172 = .ok (.iconst 1, 1) := by decide +kernel
theorem dX9_source_173 : decode cX9_source 173 = .ok (.if_icmp .ne 12, 3) := by decide +kernel
theorem dX9_source_176 : decode cX9_source 176 = .ok (.iload 5, 2) := by decide +kernel
theorem dX9_source_178 : decode cX9_source 178 = .ok (.ifCond .ne 7, 3) := by decide +kernel
theorem dX9_source_181 : decode cX9_source 181 = .ok (.iconst 1, 1) := by decide +kernel
theorem dX9_source_182 : decode cX9_source 182 = .ok (.goto 4, 3) := by decide +kernel
theorem dX9_source_185 : decode cX9_source 185 = .ok (.iconst 0, 1) := by decide +kernel
theorem dX9_source_186 : decode cX9_source 186 = .ok (.invokestatic 107, 3) := by decide +kernel
theorem dX9_source_189 : decode cX9_source 189 = .ok (.iadd, 1) := by decide +kernel
theorem dX9_source_190 : decode cX9_source 190 = .ok (.istore_n 3, 1) := by decide +kernel
theorem dX9_source_191 : decode cX9_source 191 = .ok (.iinc 4 1, 3) := by decide +kernel
theorem dX9_source_194 : decode cX9_source 194 = .ok (.goto (-167), 3) := by decide +kernel
theorem dX9_source_197 : decode cX9_source 197 = .ok (.iload_n 3, 1) := by decide +kernel
theorem dX9_source_198 : decode cX9_source 198 = .ok (.ireturn, 1) := by decide +kernel
theorem dX9_count_0 : decode cX9_count 0 = .ok (.iload_n 1, 1) := by decide +kernel
theorem dX9_count_1 : decode cX9_count 1 = .ok (.tableswitch 108 0 5 #[39, 44, 49, 89, 98, 103], 39) := by decide +kernel
theorem dX9_count_40 : decode cX9_count 40 = .ok (.aload_n 0, 1) := by decide +kernel
theorem dX9_count_41 : decode cX9_count 41 = .ok (.getfield 100, 3) := by decide +kernel
theorem dX9_count_44 : decode cX9_count 44 = .ok (.ireturn, 1) := by decide +kernel
theorem dX9_count_45 : decode cX9_count 45 = .ok (.aload_n 0, 1) := by decide +kernel
theorem dX9_count_46 : decode cX9_count 46 = .ok (.getfield 93, 3) := by decide +kernel
theorem dX9_count_49 : decode cX9_count 49 = .ok (.ireturn, 1) := by decide +kernel
theorem dX9_count_50 : decode cX9_count 50 = .ok (.iconst 0, 1) := by decide +kernel
theorem dX9_count_51 : decode cX9_count 51 = .ok (.istore_n 2, 1) := by decide +kernel
theorem dX9_count_52 : decode cX9_count 52 = .ok (.iconst 0, 1) := by decide +kernel
theorem dX9_count_53 : decode cX9_count 53 = .ok (.istore_n 3, 1) := by decide +kernel
theorem dX9_count_54 : decode cX9_count 54 = .ok (.iload_n 3, 1) := by decide +kernel
theorem dX9_count_55 : decode cX9_count 55 = .ok (.aload_n 0, 1) := by decide +kernel
theorem dX9_count_56 : decode cX9_count 56 = .ok (.getfield 93, 3) := by decide +kernel
theorem dX9_count_59 : decode cX9_count 59 = .ok (.if_icmp .ge 29, 3) := by decide +kernel
theorem dX9_count_62 : decode cX9_count 62 = .ok (.iload_n 2, 1) := by decide +kernel
theorem dX9_count_63 : decode cX9_count 63 = .ok (.aload_n 0, 1) := by decide +kernel
theorem dX9_count_64 : decode cX9_count 64 = .ok (.getfield 38, 3) := by decide +kernel
theorem dX9_count_67 : decode cX9_count 67 = .ok (.iload_n 3, 1) := by decide +kernel
theorem dX9_count_68 : decode cX9_count 68 = .ok (.iaload, 1) := by decide +kernel
theorem dX9_count_69 : decode cX9_count 69 = .ok (.ifCond .ne 7, 3) := by decide +kernel
theorem dX9_count_72 : decode cX9_count 72 = .ok (.iconst 1, 1) := by decide +kernel
theorem dX9_count_73 : decode cX9_count 73 = .ok (.goto 4, 3) := by decide +kernel
theorem dX9_count_76 : decode cX9_count 76 = .ok (.iconst 0, 1) := by decide +kernel
theorem dX9_count_77 : decode cX9_count 77 = .ok (.invokestatic 107, 3) := by decide +kernel
theorem dX9_count_80 : decode cX9_count 80 = .ok (.iadd, 1) := by decide +kernel
theorem dX9_count_81 : decode cX9_count 81 = .ok (.istore_n 2, 1) := by decide +kernel
theorem dX9_count_82 : decode cX9_count 82 = .ok (.iinc 3 1, 3) := by decide +kernel
theorem dX9_count_85 : decode cX9_count 85 = .ok (.goto (-31), 3) := by decide +kernel
theorem dX9_count_88 : decode cX9_count 88 = .ok (.iload_n 2, 1) := by decide +kernel
theorem dX9_count_89 : decode cX9_count 89 = .ok (.ireturn, 1) := by decide +kernel
theorem dX9_count_90 : decode cX9_count 90 = .ok (.aload_n 0, 1) := by decide +kernel
theorem dX9_count_91 : decode cX9_count 91 = .ok (.invokevirtual 174, 3) := by decide +kernel
theorem dX9_count_94 : decode cX9_count 94 = .ok (.aload_n 0, 1) := by decide +kernel
theorem dX9_count_95 : decode cX9_count 95 = .ok (.getfield 165, 3) := by decide +kernel
theorem dX9_count_98 : decode cX9_count 98 = .ok (.ireturn, 1) := by decide +kernel
theorem dX9_count_99 : decode cX9_count 99 = .ok (.aload_n 0, 1) := by decide +kernel
theorem dX9_count_100 : decode cX9_count 100 = .ok (.getfield 111, 3) := by decide +kernel
theorem dX9_count_103 : decode cX9_count 103 = .ok (.ireturn, 1) := by decide +kernel
theorem dX9_count_104 : decode cX9_count 104 = .ok (.aload_n 0, 1) := by decide +kernel
theorem dX9_count_105 : decode cX9_count 105 = .ok (.getfield 124, 3) := by decide +kernel
theorem dX9_count_108 : decode cX9_count 108 = .ok (.ireturn, 1) := by decide +kernel
theorem dX9_count_109 : decode cX9_count 109 = .ok (.iconst (-1), 1) := by decide +kernel
theorem dX9_count_110 : decode cX9_count 110 = .ok (.ireturn, 1) := by decide +kernel
theorem dJ6_bitCount_0f7a4_0 : decode cJ6_bitCount_0f7a4 0 = .ok (.iload_n 0, 1) := by decide +kernel
theorem dJ6_bitCount_0f7a4_1 : decode cJ6_bitCount_0f7a4 1 = .ok (.iload_n 0, 1) := by decide +kernel
theorem dJ6_bitCount_0f7a4_2 : decode cJ6_bitCount_0f7a4 2 = .ok (.iconst 1, 1) := by decide +kernel
theorem dJ6_bitCount_0f7a4_3 : decode cJ6_bitCount_0f7a4 3 = .ok (.iushr, 1) := by decide +kernel
theorem dJ6_bitCount_0f7a4_4 : decode cJ6_bitCount_0f7a4 4 = .ok (.ldc_w 265, 3) := by decide +kernel
theorem dJ6_bitCount_0f7a4_7 : decode cJ6_bitCount_0f7a4 7 = .ok (.iand, 1) := by decide +kernel
theorem dJ6_bitCount_0f7a4_8 : decode cJ6_bitCount_0f7a4 8 = .ok (.isub, 1) := by decide +kernel
theorem dJ6_bitCount_0f7a4_9 : decode cJ6_bitCount_0f7a4 9 = .ok (.istore_n 0, 1) := by decide +kernel
theorem dJ6_bitCount_0f7a4_10 : decode cJ6_bitCount_0f7a4 10 = .ok (.iload_n 0, 1) := by decide +kernel
theorem dJ6_bitCount_0f7a4_11 : decode cJ6_bitCount_0f7a4 11 = .ok (.ldc_w 266, 3) := by decide +kernel
theorem dJ6_bitCount_0f7a4_14 : decode cJ6_bitCount_0f7a4 14 = .ok (.iand, 1) := by decide +kernel
theorem dJ6_bitCount_0f7a4_15 : decode cJ6_bitCount_0f7a4 15 = .ok (.iload_n 0, 1) := by decide +kernel
theorem dJ6_bitCount_0f7a4_16 : decode cJ6_bitCount_0f7a4 16 = .ok (.iconst 2, 1) := by decide +kernel
theorem dJ6_bitCount_0f7a4_17 : decode cJ6_bitCount_0f7a4 17 = .ok (.iushr, 1) := by decide +kernel
theorem dJ6_bitCount_0f7a4_18 : decode cJ6_bitCount_0f7a4 18 = .ok (.ldc_w 266, 3) := by decide +kernel
theorem dJ6_bitCount_0f7a4_21 : decode cJ6_bitCount_0f7a4 21 = .ok (.iand, 1) := by decide +kernel
theorem dJ6_bitCount_0f7a4_22 : decode cJ6_bitCount_0f7a4 22 = .ok (.iadd, 1) := by decide +kernel
theorem dJ6_bitCount_0f7a4_23 : decode cJ6_bitCount_0f7a4 23 = .ok (.istore_n 0, 1) := by decide +kernel
theorem dJ6_bitCount_0f7a4_24 : decode cJ6_bitCount_0f7a4 24 = .ok (.iload_n 0, 1) := by decide +kernel
theorem dJ6_bitCount_0f7a4_25 : decode cJ6_bitCount_0f7a4 25 = .ok (.iload_n 0, 1) := by decide +kernel
theorem dJ6_bitCount_0f7a4_26 : decode cJ6_bitCount_0f7a4 26 = .ok (.iconst 4, 1) := by decide +kernel
theorem dJ6_bitCount_0f7a4_27 : decode cJ6_bitCount_0f7a4 27 = .ok (.iushr, 1) := by decide +kernel
theorem dJ6_bitCount_0f7a4_28 : decode cJ6_bitCount_0f7a4 28 = .ok (.iadd, 1) := by decide +kernel
theorem dJ6_bitCount_0f7a4_29 : decode cJ6_bitCount_0f7a4 29 = .ok (.ldc_w 267, 3) := by decide +kernel
theorem dJ6_bitCount_0f7a4_32 : decode cJ6_bitCount_0f7a4 32 = .ok (.iand, 1) := by decide +kernel
theorem dJ6_bitCount_0f7a4_33 : decode cJ6_bitCount_0f7a4 33 = .ok (.istore_n 0, 1) := by decide +kernel
theorem dJ6_bitCount_0f7a4_34 : decode cJ6_bitCount_0f7a4 34 = .ok (.iload_n 0, 1) := by decide +kernel
theorem dJ6_bitCount_0f7a4_35 : decode cJ6_bitCount_0f7a4 35 = .ok (.iload_n 0, 1) := by decide +kernel
theorem dJ6_bitCount_0f7a4_36 : decode cJ6_bitCount_0f7a4 36 = .ok (.bipush 8, 2) := by decide +kernel
theorem dJ6_bitCount_0f7a4_38 : decode cJ6_bitCount_0f7a4 38 = .ok (.iushr, 1) := by decide +kernel
theorem dJ6_bitCount_0f7a4_39 : decode cJ6_bitCount_0f7a4 39 = .ok (.iadd, 1) := by decide +kernel
theorem dJ6_bitCount_0f7a4_40 : decode cJ6_bitCount_0f7a4 40 = .ok (.istore_n 0, 1) := by decide +kernel
theorem dJ6_bitCount_0f7a4_41 : decode cJ6_bitCount_0f7a4 41 = .ok (.iload_n 0, 1) := by decide +kernel
theorem dJ6_bitCount_0f7a4_42 : decode cJ6_bitCount_0f7a4 42 = .ok (.iload_n 0, 1) := by decide +kernel
theorem dJ6_bitCount_0f7a4_43 : decode cJ6_bitCount_0f7a4 43 = .ok (.bipush 16, 2) := by decide +kernel
theorem dJ6_bitCount_0f7a4_45 : decode cJ6_bitCount_0f7a4 45 = .ok (.iushr, 1) := by decide +kernel
theorem dJ6_bitCount_0f7a4_46 : decode cJ6_bitCount_0f7a4 46 = .ok (.iadd, 1) := by decide +kernel
theorem dJ6_bitCount_0f7a4_47 : decode cJ6_bitCount_0f7a4 47 = .ok (.istore_n 0, 1) := by decide +kernel
theorem dJ6_bitCount_0f7a4_48 : decode cJ6_bitCount_0f7a4 48 = .ok (.iload_n 0, 1) := by decide +kernel
theorem dJ6_bitCount_0f7a4_49 : decode cJ6_bitCount_0f7a4 49 = .ok (.bipush 63, 2) := by decide +kernel
theorem dJ6_bitCount_0f7a4_51 : decode cJ6_bitCount_0f7a4 51 = .ok (.iand, 1) := by decide +kernel
theorem dJ6_bitCount_0f7a4_52 : decode cJ6_bitCount_0f7a4 52 = .ok (.ireturn, 1) := by decide +kernel
theorem dJ9_abs_0f7a4_0 : decode cJ9_abs_0f7a4 0 = .ok (.iload_n 0, 1) := by decide +kernel
theorem dJ9_abs_0f7a4_1 : decode cJ9_abs_0f7a4 1 = .ok (.ifCond .ge 8, 3) := by decide +kernel
theorem dJ9_abs_0f7a4_4 : decode cJ9_abs_0f7a4 4 = .ok (.iload_n 0, 1) := by decide +kernel
theorem dJ9_abs_0f7a4_5 : decode cJ9_abs_0f7a4 5 = .ok (.ineg, 1) := by decide +kernel
theorem dJ9_abs_0f7a4_6 : decode cJ9_abs_0f7a4 6 = .ok (.goto 4, 3) := by decide +kernel
theorem dJ9_abs_0f7a4_9 : decode cJ9_abs_0f7a4 9 = .ok (.iload_n 0, 1) := by decide +kernel
theorem dJ9_abs_0f7a4_10 : decode cJ9_abs_0f7a4 10 = .ok (.ireturn, 1) := by decide +kernel
theorem dJ9_max_7cf53_0 : decode cJ9_max_7cf53 0 = .ok (.iload_n 0, 1) := by decide +kernel
theorem dJ9_max_7cf53_1 : decode cJ9_max_7cf53 1 = .ok (.iload_n 1, 1) := by decide +kernel
theorem dJ9_max_7cf53_2 : decode cJ9_max_7cf53 2 = .ok (.if_icmp .lt 7, 3) := by decide +kernel
theorem dJ9_max_7cf53_5 : decode cJ9_max_7cf53 5 = .ok (.iload_n 0, 1) := by decide +kernel
theorem dJ9_max_7cf53_6 : decode cJ9_max_7cf53 6 = .ok (.goto 4, 3) := by decide +kernel
theorem dJ9_max_7cf53_9 : decode cJ9_max_7cf53 9 = .ok (.iload_n 1, 1) := by decide +kernel
theorem dJ9_max_7cf53_10 : decode cJ9_max_7cf53 10 = .ok (.ireturn, 1) := by decide +kernel
theorem dJ9_min_7cf53_0 : decode cJ9_min_7cf53 0 = .ok (.iload_n 0, 1) := by decide +kernel
theorem dJ9_min_7cf53_1 : decode cJ9_min_7cf53 1 = .ok (.iload_n 1, 1) := by decide +kernel
theorem dJ9_min_7cf53_2 : decode cJ9_min_7cf53 2 = .ok (.if_icmp .gt 7, 3) := by decide +kernel
theorem dJ9_min_7cf53_5 : decode cJ9_min_7cf53 5 = .ok (.iload_n 0, 1) := by decide +kernel
theorem dJ9_min_7cf53_6 : decode cJ9_min_7cf53 6 = .ok (.goto 4, 3) := by decide +kernel
theorem dJ9_min_7cf53_9 : decode cJ9_min_7cf53 9 = .ok (.iload_n 1, 1) := by decide +kernel
theorem dJ9_min_7cf53_10 : decode cJ9_min_7cf53 10 = .ok (.ireturn, 1) := by decide +kernel
theorem dL_law_0 : decode cL_law 0 = .ok (.new 7, 3) := by decide +kernel
theorem dL_law_3 : decode cL_law 3 = .ok (.dup, 1) := by decide +kernel
theorem dL_law_4 : decode cL_law 4 = .ok (.invokespecial 9, 3) := by decide +kernel
theorem dL_law_7 : decode cL_law 7 = .ok (.astore_n 1, 1) := by decide +kernel
theorem dL_law_8 : decode cL_law 8 = .ok (.new 10, 3) := by decide +kernel
theorem dL_law_11 : decode cL_law 11 = .ok (.dup, 1) := by decide +kernel
theorem dL_law_12 : decode cL_law 12 = .ok (.invokespecial 12, 3) := by decide +kernel
theorem dL_law_15 : decode cL_law 15 = .ok (.astore_n 2, 1) := by decide +kernel
theorem dL_law_16 : decode cL_law 16 = .ok (.iconst 0, 1) := by decide +kernel
theorem dL_law_17 : decode cL_law 17 = .ok (.istore_n 3, 1) := by decide +kernel
theorem dL_law_18 : decode cL_law 18 = .ok (.iload_n 3, 1) := by decide +kernel
theorem dL_law_19 : decode cL_law 19 = .ok (.aload_n 0, 1) := by decide +kernel
theorem dL_law_20 : decode cL_law 20 = .ok (.arraylength, 1) := by decide +kernel
theorem dL_law_21 : decode cL_law 21 = .ok (.iconst 5, 1) := by decide +kernel
theorem dL_law_22 : decode cL_law 22 = .ok (.isub, 1) := by decide +kernel
theorem dL_law_23 : decode cL_law 23 = .ok (.if_icmp .gt 675, 3) := by decide +kernel
theorem dL_law_26 : decode cL_law 26 = .ok (.aload_n 0, 1) := by decide +kernel
theorem dL_law_27 : decode cL_law 27 = .ok (.iload_n 3, 1) := by decide +kernel
theorem dL_law_28 : decode cL_law 28 = .ok (.iaload, 1) := by decide +kernel
theorem dL_law_29 : decode cL_law 29 = .ok (.bipush 15, 2) := by decide +kernel
theorem dL_law_31 : decode cL_law 31 = .ok (.iand, 1) := by decide +kernel
theorem dL_law_32 : decode cL_law 32 = .ok (.tableswitch 660 0 15 #[80, 103, 156, 199, 232, 291, 350, 383, 426, 459, 482, 515, 538, 571, 604, 637], 80) := by decide +kernel
theorem dL_law_112 : decode cL_law 112 = .ok (.aload_n 1, 1) := by decide +kernel
theorem dL_law_113 : decode cL_law 113 = .ok (.aload_n 0, 1) := by decide +kernel
theorem dL_law_114 : decode cL_law 114 = .ok (.iload_n 3, 1) := by decide +kernel
theorem dL_law_115 : decode cL_law 115 = .ok (.iconst 1, 1) := by decide +kernel
theorem dL_law_116 : decode cL_law 116 = .ok (.iadd, 1) := by decide +kernel
theorem dL_law_117 : decode cL_law 117 = .ok (.iaload, 1) := by decide +kernel
theorem dL_law_118 : decode cL_law 118 = .ok (.invokevirtual 13, 3) := by decide +kernel
theorem dL_law_121 : decode cL_law 121 = .ok (.aload_n 2, 1) := by decide +kernel
theorem dL_law_122 : decode cL_law 122 = .ok (.aload_n 0, 1) := by decide +kernel
theorem dL_law_123 : decode cL_law 123 = .ok (.iload_n 3, 1) := by decide +kernel
theorem dL_law_124 : decode cL_law 124 = .ok (.iconst 1, 1) := by decide +kernel
theorem dL_law_125 : decode cL_law 125 = .ok (.iadd, 1) := by decide +kernel
theorem dL_law_126 : decode cL_law 126 = .ok (.iaload, 1) := by decide +kernel
theorem dL_law_127 : decode cL_law 127 = .ok (.invokevirtual 17, 3) := by decide +kernel
theorem dL_law_130 : decode cL_law 130 = .ok (.if_icmp .eq 562, 3) := by decide +kernel
theorem dL_law_133 : decode cL_law 133 = .ok (.iconst 0, 1) := by decide +kernel
theorem dL_law_134 : decode cL_law 134 = .ok (.ireturn, 1) := by decide +kernel
theorem dL_law_135 : decode cL_law 135 = .ok (.aload_n 1, 1) := by decide +kernel
theorem dL_law_136 : decode cL_law 136 = .ok (.aload_n 0, 1) := by decide +kernel
theorem dL_law_137 : decode cL_law 137 = .ok (.iload_n 3, 1) := by decide +kernel
theorem dL_law_138 : decode cL_law 138 = .ok (.iconst 1, 1) := by decide +kernel
theorem dL_law_139 : decode cL_law 139 = .ok (.iadd, 1) := by decide +kernel
theorem dL_law_140 : decode cL_law 140 = .ok (.iaload, 1) := by decide +kernel
theorem dL_law_141 : decode cL_law 141 = .ok (.aload_n 0, 1) := by decide +kernel
theorem dL_law_142 : decode cL_law 142 = .ok (.iload_n 3, 1) := by decide +kernel
theorem dL_law_143 : decode cL_law 143 = .ok (.iconst 2, 1) := by decide +kernel
theorem dL_law_144 : decode cL_law 144 = .ok (.iadd, 1) := by decide +kernel
theorem dL_law_145 : decode cL_law 145 = .ok (.iaload, 1) := by decide +kernel
theorem dL_law_146 : decode cL_law 146 = .ok (.aload_n 0, 1) := by decide +kernel
theorem dL_law_147 : decode cL_law 147 = .ok (.iload_n 3, 1) := by decide +kernel
theorem dL_law_148 : decode cL_law 148 = .ok (.iconst 3, 1) := by decide +kernel
theorem dL_law_149 : decode cL_law 149 = .ok (.iadd, 1) := by decide +kernel
theorem dL_law_150 : decode cL_law 150 = .ok (.iaload, 1) := by decide +kernel
theorem dL_law_151 : decode cL_law 151 = .ok (.aload_n 0, 1) := by decide +kernel
theorem dL_law_152 : decode cL_law 152 = .ok (.iload_n 3, 1) := by decide +kernel
theorem dL_law_153 : decode cL_law 153 = .ok (.iconst 4, 1) := by decide +kernel
theorem dL_law_154 : decode cL_law 154 = .ok (.iadd, 1) := by decide +kernel
theorem dL_law_155 : decode cL_law 155 = .ok (.iaload, 1) := by decide +kernel
theorem dL_law_156 : decode cL_law 156 = .ok (.invokevirtual 18, 3) := by decide +kernel
theorem dL_law_159 : decode cL_law 159 = .ok (.aload_n 2, 1) := by decide +kernel
theorem dL_law_160 : decode cL_law 160 = .ok (.aload_n 0, 1) := by decide +kernel
theorem dL_law_161 : decode cL_law 161 = .ok (.iload_n 3, 1) := by decide +kernel
theorem dL_law_162 : decode cL_law 162 = .ok (.iconst 1, 1) := by decide +kernel
theorem dL_law_163 : decode cL_law 163 = .ok (.iadd, 1) := by decide +kernel
theorem dL_law_164 : decode cL_law 164 = .ok (.iaload, 1) := by decide +kernel
theorem dL_law_165 : decode cL_law 165 = .ok (.aload_n 0, 1) := by decide +kernel
theorem dL_law_166 : decode cL_law 166 = .ok (.iload_n 3, 1) := by decide +kernel
theorem dL_law_167 : decode cL_law 167 = .ok (.iconst 2, 1) := by decide +kernel
theorem dL_law_168 : decode cL_law 168 = .ok (.iadd, 1) := by decide +kernel
theorem dL_law_169 : decode cL_law 169 = .ok (.iaload, 1) := by decide +kernel
theorem dL_law_170 : decode cL_law 170 = .ok (.aload_n 0, 1) := by decide +kernel
theorem dL_law_171 : decode cL_law 171 = .ok (.iload_n 3, 1) := by decide +kernel
theorem dL_law_172 : decode cL_law 172 = .ok (.iconst 3, 1) := by decide +kernel
theorem dL_law_173 : decode cL_law 173 = .ok (.iadd, 1) := by decide +kernel
theorem dL_law_174 : decode cL_law 174 = .ok (.iaload, 1) := by decide +kernel
theorem dL_law_175 : decode cL_law 175 = .ok (.aload_n 0, 1) := by decide +kernel
theorem dL_law_176 : decode cL_law 176 = .ok (.iload_n 3, 1) := by decide +kernel
theorem dL_law_177 : decode cL_law 177 = .ok (.iconst 4, 1) := by decide +kernel
theorem dL_law_178 : decode cL_law 178 = .ok (.iadd, 1) := by decide +kernel
theorem dL_law_179 : decode cL_law 179 = .ok (.iaload, 1) := by decide +kernel
theorem dL_law_180 : decode cL_law 180 = .ok (.invokevirtual 22, 3) := by decide +kernel
theorem dL_law_183 : decode cL_law 183 = .ok (.if_icmp .eq 509, 3) := by decide +kernel
theorem dL_law_186 : decode cL_law 186 = .ok (.iconst 0, 1) := by decide +kernel
theorem dL_law_187 : decode cL_law 187 = .ok (.ireturn, 1) := by decide +kernel
theorem dL_law_188 : decode cL_law 188 = .ok (.aload_n 1, 1) := by decide +kernel
theorem dL_law_189 : decode cL_law 189 = .ok (.aload_n 0, 1) := by decide +kernel
theorem dL_law_190 : decode cL_law 190 = .ok (.iload_n 3, 1) := by decide +kernel
theorem dL_law_191 : decode cL_law 191 = .ok (.iconst 1, 1) := by decide +kernel
theorem dL_law_192 : decode cL_law 192 = .ok (.iadd, 1) := by decide +kernel
theorem dL_law_193 : decode cL_law 193 = .ok (.iaload, 1) := by decide +kernel
theorem dL_law_194 : decode cL_law 194 = .ok (.aload_n 0, 1) := by decide +kernel
theorem dL_law_195 : decode cL_law 195 = .ok (.iload_n 3, 1) := by decide +kernel
theorem dL_law_196 : decode cL_law 196 = .ok (.iconst 2, 1) := by decide +kernel
theorem dL_law_197 : decode cL_law 197 = .ok (.iadd, 1) := by decide +kernel
theorem dL_law_198 : decode cL_law 198 = .ok (.iaload, 1) := by decide +kernel
theorem dL_law_199 : decode cL_law 199 = .ok (.aload_n 0, 1) := by decide +kernel
theorem dL_law_200 : decode cL_law 200 = .ok (.iload_n 3, 1) := by decide +kernel
theorem dL_law_201 : decode cL_law 201 = .ok (.iconst 3, 1) := by decide +kernel
theorem dL_law_202 : decode cL_law 202 = .ok (.iadd, 1) := by decide +kernel
theorem dL_law_203 : decode cL_law 203 = .ok (.iaload, 1) := by decide +kernel
theorem dL_law_204 : decode cL_law 204 = .ok (.invokevirtual 23, 3) := by decide +kernel
theorem dL_law_207 : decode cL_law 207 = .ok (.aload_n 2, 1) := by decide +kernel
theorem dL_law_208 : decode cL_law 208 = .ok (.aload_n 0, 1) := by decide +kernel
theorem dL_law_209 : decode cL_law 209 = .ok (.iload_n 3, 1) := by decide +kernel
theorem dL_law_210 : decode cL_law 210 = .ok (.iconst 1, 1) := by decide +kernel
theorem dL_law_211 : decode cL_law 211 = .ok (.iadd, 1) := by decide +kernel
theorem dL_law_212 : decode cL_law 212 = .ok (.iaload, 1) := by decide +kernel
theorem dL_law_213 : decode cL_law 213 = .ok (.aload_n 0, 1) := by decide +kernel
theorem dL_law_214 : decode cL_law 214 = .ok (.iload_n 3, 1) := by decide +kernel
theorem dL_law_215 : decode cL_law 215 = .ok (.iconst 2, 1) := by decide +kernel
theorem dL_law_216 : decode cL_law 216 = .ok (.iadd, 1) := by decide +kernel
theorem dL_law_217 : decode cL_law 217 = .ok (.iaload, 1) := by decide +kernel
theorem dL_law_218 : decode cL_law 218 = .ok (.aload_n 0, 1) := by decide +kernel
theorem dL_law_219 : decode cL_law 219 = .ok (.iload_n 3, 1) := by decide +kernel
theorem dL_law_220 : decode cL_law 220 = .ok (.iconst 3, 1) := by decide +kernel
theorem dL_law_221 : decode cL_law 221 = .ok (.iadd, 1) := by decide +kernel
theorem dL_law_222 : decode cL_law 222 = .ok (.iaload, 1) := by decide +kernel
theorem dL_law_223 : decode cL_law 223 = .ok (.invokevirtual 27, 3) := by decide +kernel
theorem dL_law_226 : decode cL_law 226 = .ok (.if_icmp .eq 466, 3) := by decide +kernel
theorem dL_law_229 : decode cL_law 229 = .ok (.iconst 0, 1) := by decide +kernel
theorem dL_law_230 : decode cL_law 230 = .ok (.ireturn, 1) := by decide +kernel
theorem dL_law_231 : decode cL_law 231 = .ok (.aload_n 1, 1) := by decide +kernel
theorem dL_law_232 : decode cL_law 232 = .ok (.aload_n 0, 1) := by decide +kernel
theorem dL_law_233 : decode cL_law 233 = .ok (.iload_n 3, 1) := by decide +kernel
theorem dL_law_234 : decode cL_law 234 = .ok (.iconst 1, 1) := by decide +kernel
theorem dL_law_235 : decode cL_law 235 = .ok (.iadd, 1) := by decide +kernel
theorem dL_law_236 : decode cL_law 236 = .ok (.iaload, 1) := by decide +kernel
theorem dL_law_237 : decode cL_law 237 = .ok (.aload_n 0, 1) := by decide +kernel
theorem dL_law_238 : decode cL_law 238 = .ok (.iload_n 3, 1) := by decide +kernel
theorem dL_law_239 : decode cL_law 239 = .ok (.iconst 2, 1) := by decide +kernel
theorem dL_law_240 : decode cL_law 240 = .ok (.iadd, 1) := by decide +kernel
theorem dL_law_241 : decode cL_law 241 = .ok (.iaload, 1) := by decide +kernel
theorem dL_law_242 : decode cL_law 242 = .ok (.invokevirtual 28, 3) := by decide +kernel
theorem dL_law_245 : decode cL_law 245 = .ok (.aload_n 2, 1) := by decide +kernel
theorem dL_law_246 : decode cL_law 246 = .ok (.aload_n 0, 1) := by decide +kernel
theorem dL_law_247 : decode cL_law 247 = .ok (.iload_n 3, 1) := by decide +kernel
theorem dL_law_248 : decode cL_law 248 = .ok (.iconst 1, 1) := by decide +kernel
theorem dL_law_249 : decode cL_law 249 = .ok (.iadd, 1) := by decide +kernel
theorem dL_law_250 : decode cL_law 250 = .ok (.iaload, 1) := by decide +kernel
theorem dL_law_251 : decode cL_law 251 = .ok (.aload_n 0, 1) := by decide +kernel
theorem dL_law_252 : decode cL_law 252 = .ok (.iload_n 3, 1) := by decide +kernel
theorem dL_law_253 : decode cL_law 253 = .ok (.iconst 2, 1) := by decide +kernel
theorem dL_law_254 : decode cL_law 254 = .ok (.iadd, 1) := by decide +kernel
theorem dL_law_255 : decode cL_law 255 = .ok (.iaload, 1) := by decide +kernel
theorem dL_law_256 : decode cL_law 256 = .ok (.invokevirtual 32, 3) := by decide +kernel
theorem dL_law_259 : decode cL_law 259 = .ok (.if_icmp .eq 433, 3) := by decide +kernel
theorem dL_law_262 : decode cL_law 262 = .ok (.iconst 0, 1) := by decide +kernel
theorem dL_law_263 : decode cL_law 263 = .ok (.ireturn, 1) := by decide +kernel
theorem dL_law_264 : decode cL_law 264 = .ok (.aload_n 1, 1) := by decide +kernel
theorem dL_law_265 : decode cL_law 265 = .ok (.aload_n 0, 1) := by decide +kernel
theorem dL_law_266 : decode cL_law 266 = .ok (.iload_n 3, 1) := by decide +kernel
theorem dL_law_267 : decode cL_law 267 = .ok (.iconst 1, 1) := by decide +kernel
theorem dL_law_268 : decode cL_law 268 = .ok (.iadd, 1) := by decide +kernel
theorem dL_law_269 : decode cL_law 269 = .ok (.iaload, 1) := by decide +kernel
theorem dL_law_270 : decode cL_law 270 = .ok (.aload_n 0, 1) := by decide +kernel
theorem dL_law_271 : decode cL_law 271 = .ok (.iload_n 3, 1) := by decide +kernel
theorem dL_law_272 : decode cL_law 272 = .ok (.iconst 2, 1) := by decide +kernel
theorem dL_law_273 : decode cL_law 273 = .ok (.iadd, 1) := by decide +kernel
theorem dL_law_274 : decode cL_law 274 = .ok (.iaload, 1) := by decide +kernel
theorem dL_law_275 : decode cL_law 275 = .ok (.aload_n 0, 1) := by decide +kernel
theorem dL_law_276 : decode cL_law 276 = .ok (.iload_n 3, 1) := by decide +kernel
theorem dL_law_277 : decode cL_law 277 = .ok (.iconst 3, 1) := by decide +kernel
theorem dL_law_278 : decode cL_law 278 = .ok (.iadd, 1) := by decide +kernel
theorem dL_law_279 : decode cL_law 279 = .ok (.iaload, 1) := by decide +kernel
theorem dL_law_280 : decode cL_law 280 = .ok (.ifCond .eq 7, 3) := by decide +kernel
theorem dL_law_283 : decode cL_law 283 = .ok (.iconst 1, 1) := by decide +kernel
theorem dL_law_284 : decode cL_law 284 = .ok (.goto 4, 3) := by decide +kernel
theorem dL_law_287 : decode cL_law 287 = .ok (.iconst 0, 1) := by decide +kernel
theorem dL_law_288 : decode cL_law 288 = .ok (.invokevirtual 33, 3) := by decide +kernel
theorem dL_law_291 : decode cL_law 291 = .ok (.aload_n 2, 1) := by decide +kernel
theorem dL_law_292 : decode cL_law 292 = .ok (.aload_n 0, 1) := by decide +kernel
theorem dL_law_293 : decode cL_law 293 = .ok (.iload_n 3, 1) := by decide +kernel
theorem dL_law_294 : decode cL_law 294 = .ok (.iconst 1, 1) := by decide +kernel
theorem dL_law_295 : decode cL_law 295 = .ok (.iadd, 1) := by decide +kernel
theorem dL_law_296 : decode cL_law 296 = .ok (.iaload, 1) := by decide +kernel
theorem dL_law_297 : decode cL_law 297 = .ok (.aload_n 0, 1) := by decide +kernel
theorem dL_law_298 : decode cL_law 298 = .ok (.iload_n 3, 1) := by decide +kernel
theorem dL_law_299 : decode cL_law 299 = .ok (.iconst 2, 1) := by decide +kernel
theorem dL_law_300 : decode cL_law 300 = .ok (.iadd, 1) := by decide +kernel
theorem dL_law_301 : decode cL_law 301 = .ok (.iaload, 1) := by decide +kernel
theorem dL_law_302 : decode cL_law 302 = .ok (.aload_n 0, 1) := by decide +kernel
theorem dL_law_303 : decode cL_law 303 = .ok (.iload_n 3, 1) := by decide +kernel
theorem dL_law_304 : decode cL_law 304 = .ok (.iconst 3, 1) := by decide +kernel
theorem dL_law_305 : decode cL_law 305 = .ok (.iadd, 1) := by decide +kernel
theorem dL_law_306 : decode cL_law 306 = .ok (.iaload, 1) := by decide +kernel
theorem dL_law_307 : decode cL_law 307 = .ok (.ifCond .eq 7, 3) := by decide +kernel
theorem dL_law_310 : decode cL_law 310 = .ok (.iconst 1, 1) := by decide +kernel
theorem dL_law_311 : decode cL_law 311 = .ok (.goto 4, 3) := by decide +kernel
theorem dL_law_314 : decode cL_law 314 = .ok (.iconst 0, 1) := by decide +kernel
theorem dL_law_315 : decode cL_law 315 = .ok (.invokevirtual 37, 3) := by decide +kernel
theorem dL_law_318 : decode cL_law 318 = .ok (.if_icmp .eq 374, 3) := by decide +kernel
theorem dL_law_321 : decode cL_law 321 = .ok (.iconst 0, 1) := by decide +kernel
theorem dL_law_322 : decode cL_law 322 = .ok (.ireturn, 1) := by decide +kernel
theorem dL_law_323 : decode cL_law 323 = .ok (.aload_n 1, 1) := by decide +kernel
theorem dL_law_324 : decode cL_law 324 = .ok (.aload_n 0, 1) := by decide +kernel
theorem dL_law_325 : decode cL_law 325 = .ok (.iload_n 3, 1) := by decide +kernel
theorem dL_law_326 : decode cL_law 326 = .ok (.iconst 1, 1) := by decide +kernel
theorem dL_law_327 : decode cL_law 327 = .ok (.iadd, 1) := by decide +kernel
theorem dL_law_328 : decode cL_law 328 = .ok (.iaload, 1) := by decide +kernel
theorem dL_law_329 : decode cL_law 329 = .ok (.aload_n 0, 1) := by decide +kernel
theorem dL_law_330 : decode cL_law 330 = .ok (.iload_n 3, 1) := by decide +kernel
theorem dL_law_331 : decode cL_law 331 = .ok (.iconst 2, 1) := by decide +kernel
theorem dL_law_332 : decode cL_law 332 = .ok (.iadd, 1) := by decide +kernel
theorem dL_law_333 : decode cL_law 333 = .ok (.iaload, 1) := by decide +kernel
theorem dL_law_334 : decode cL_law 334 = .ok (.aload_n 0, 1) := by decide +kernel
theorem dL_law_335 : decode cL_law 335 = .ok (.iload_n 3, 1) := by decide +kernel
theorem dL_law_336 : decode cL_law 336 = .ok (.iconst 3, 1) := by decide +kernel
theorem dL_law_337 : decode cL_law 337 = .ok (.iadd, 1) := by decide +kernel
theorem dL_law_338 : decode cL_law 338 = .ok (.iaload, 1) := by decide +kernel
theorem dL_law_339 : decode cL_law 339 = .ok (.ifCond .eq 7, 3) := by decide +kernel
theorem dL_law_342 : decode cL_law 342 = .ok (.iconst 1, 1) := by decide +kernel
theorem dL_law_343 : decode cL_law 343 = .ok (.goto 4, 3) := by decide +kernel
theorem dL_law_346 : decode cL_law 346 = .ok (.iconst 0, 1) := by decide +kernel
theorem dL_law_347 : decode cL_law 347 = .ok (.invokevirtual 38, 3) := by decide +kernel
theorem dL_law_350 : decode cL_law 350 = .ok (.aload_n 2, 1) := by decide +kernel
theorem dL_law_351 : decode cL_law 351 = .ok (.aload_n 0, 1) := by decide +kernel
theorem dL_law_352 : decode cL_law 352 = .ok (.iload_n 3, 1) := by decide +kernel
theorem dL_law_353 : decode cL_law 353 = .ok (.iconst 1, 1) := by decide +kernel
theorem dL_law_354 : decode cL_law 354 = .ok (.iadd, 1) := by decide +kernel
theorem dL_law_355 : decode cL_law 355 = .ok (.iaload, 1) := by decide +kernel
theorem dL_law_356 : decode cL_law 356 = .ok (.aload_n 0, 1) := by decide +kernel
theorem dL_law_357 : decode cL_law 357 = .ok (.iload_n 3, 1) := by decide +kernel
theorem dL_law_358 : decode cL_law 358 = .ok (.iconst 2, 1) := by decide +kernel
theorem dL_law_359 : decode cL_law 359 = .ok (.iadd, 1) := by decide +kernel
theorem dL_law_360 : decode cL_law 360 = .ok (.iaload, 1) := by decide +kernel
theorem dL_law_361 : decode cL_law 361 = .ok (.aload_n 0, 1) := by decide +kernel
theorem dL_law_362 : decode cL_law 362 = .ok (.iload_n 3, 1) := by decide +kernel
theorem dL_law_363 : decode cL_law 363 = .ok (.iconst 3, 1) := by decide +kernel
theorem dL_law_364 : decode cL_law 364 = .ok (.iadd, 1) := by decide +kernel
theorem dL_law_365 : decode cL_law 365 = .ok (.iaload, 1) := by decide +kernel
theorem dL_law_366 : decode cL_law 366 = .ok (.ifCond .eq 7, 3) := by decide +kernel
theorem dL_law_369 : decode cL_law 369 = .ok (.iconst 1, 1) := by decide +kernel
theorem dL_law_370 : decode cL_law 370 = .ok (.goto 4, 3) := by decide +kernel
theorem dL_law_373 : decode cL_law 373 = .ok (.iconst 0, 1) := by decide +kernel
theorem dL_law_374 : decode cL_law 374 = .ok (.invokevirtual 42, 3) := by decide +kernel
theorem dL_law_377 : decode cL_law 377 = .ok (.if_icmp .eq 315, 3) := by decide +kernel
theorem dL_law_380 : decode cL_law 380 = .ok (.iconst 0, 1) := by decide +kernel
theorem dL_law_381 : decode cL_law 381 = .ok (.ireturn, 1) := by decide +kernel
theorem dL_law_382 : decode cL_law 382 = .ok (.aload_n 1, 1) := by decide +kernel
theorem dL_law_383 : decode cL_law 383 = .ok (.aload_n 0, 1) := by decide +kernel
theorem dL_law_384 : decode cL_law 384 = .ok (.iload_n 3, 1) := by decide +kernel
theorem dL_law_385 : decode cL_law 385 = .ok (.iconst 1, 1) := by decide +kernel
theorem dL_law_386 : decode cL_law 386 = .ok (.iadd, 1) := by decide +kernel
theorem dL_law_387 : decode cL_law 387 = .ok (.iaload, 1) := by decide +kernel
theorem dL_law_388 : decode cL_law 388 = .ok (.aload_n 0, 1) := by decide +kernel
theorem dL_law_389 : decode cL_law 389 = .ok (.iload_n 3, 1) := by decide +kernel
theorem dL_law_390 : decode cL_law 390 = .ok (.iconst 2, 1) := by decide +kernel
theorem dL_law_391 : decode cL_law 391 = .ok (.iadd, 1) := by decide +kernel
theorem dL_law_392 : decode cL_law 392 = .ok (.iaload, 1) := by decide +kernel
theorem dL_law_393 : decode cL_law 393 = .ok (.invokevirtual 43, 3) := by decide +kernel
theorem dL_law_396 : decode cL_law 396 = .ok (.aload_n 2, 1) := by decide +kernel
theorem dL_law_397 : decode cL_law 397 = .ok (.aload_n 0, 1) := by decide +kernel
theorem dL_law_398 : decode cL_law 398 = .ok (.iload_n 3, 1) := by decide +kernel
theorem dL_law_399 : decode cL_law 399 = .ok (.iconst 1, 1) := by decide +kernel
theorem dL_law_400 : decode cL_law 400 = .ok (.iadd, 1) := by decide +kernel
theorem dL_law_401 : decode cL_law 401 = .ok (.iaload, 1) := by decide +kernel
theorem dL_law_402 : decode cL_law 402 = .ok (.aload_n 0, 1) := by decide +kernel
theorem dL_law_403 : decode cL_law 403 = .ok (.iload_n 3, 1) := by decide +kernel
theorem dL_law_404 : decode cL_law 404 = .ok (.iconst 2, 1) := by decide +kernel
theorem dL_law_405 : decode cL_law 405 = .ok (.iadd, 1) := by decide +kernel
theorem dL_law_406 : decode cL_law 406 = .ok (.iaload, 1) := by decide +kernel
theorem dL_law_407 : decode cL_law 407 = .ok (.invokevirtual 47, 3) := by decide +kernel
theorem dL_law_410 : decode cL_law 410 = .ok (.if_icmp .eq 282, 3) := by decide +kernel
theorem dL_law_413 : decode cL_law 413 = .ok (.iconst 0, 1) := by decide +kernel
theorem dL_law_414 : decode cL_law 414 = .ok (.ireturn, 1) := by decide +kernel
theorem dL_law_415 : decode cL_law 415 = .ok (.aload_n 1, 1) := by decide +kernel
theorem dL_law_416 : decode cL_law 416 = .ok (.aload_n 0, 1) := by decide +kernel
theorem dL_law_417 : decode cL_law 417 = .ok (.iload_n 3, 1) := by decide +kernel
theorem dL_law_418 : decode cL_law 418 = .ok (.iconst 1, 1) := by decide +kernel
theorem dL_law_419 : decode cL_law 419 = .ok (.iadd, 1) := by decide +kernel
theorem dL_law_420 : decode cL_law 420 = .ok (.iaload, 1) := by decide +kernel
theorem dL_law_421 : decode cL_law 421 = .ok (.aload_n 0, 1) := by decide +kernel
theorem dL_law_422 : decode cL_law 422 = .ok (.iload_n 3, 1) := by decide +kernel
theorem dL_law_423 : decode cL_law 423 = .ok (.iconst 2, 1) := by decide +kernel
theorem dL_law_424 : decode cL_law 424 = .ok (.iadd, 1) := by decide +kernel
theorem dL_law_425 : decode cL_law 425 = .ok (.iaload, 1) := by decide +kernel
theorem dL_law_426 : decode cL_law 426 = .ok (.aload_n 0, 1) := by decide +kernel
theorem dL_law_427 : decode cL_law 427 = .ok (.iload_n 3, 1) := by decide +kernel
theorem dL_law_428 : decode cL_law 428 = .ok (.iconst 3, 1) := by decide +kernel
theorem dL_law_429 : decode cL_law 429 = .ok (.iadd, 1) := by decide +kernel
theorem dL_law_430 : decode cL_law 430 = .ok (.iaload, 1) := by decide +kernel
theorem dL_law_431 : decode cL_law 431 = .ok (.invokevirtual 48, 3) := by decide +kernel
theorem dL_law_434 : decode cL_law 434 = .ok (.aload_n 2, 1) := by decide +kernel
theorem dL_law_435 : decode cL_law 435 = .ok (.aload_n 0, 1) := by decide +kernel
theorem dL_law_436 : decode cL_law 436 = .ok (.iload_n 3, 1) := by decide +kernel
theorem dL_law_437 : decode cL_law 437 = .ok (.iconst 1, 1) := by decide +kernel
theorem dL_law_438 : decode cL_law 438 = .ok (.iadd, 1) := by decide +kernel
theorem dL_law_439 : decode cL_law 439 = .ok (.iaload, 1) := by decide +kernel
theorem dL_law_440 : decode cL_law 440 = .ok (.aload_n 0, 1) := by decide +kernel
theorem dL_law_441 : decode cL_law 441 = .ok (.iload_n 3, 1) := by decide +kernel
theorem dL_law_442 : decode cL_law 442 = .ok (.iconst 2, 1) := by decide +kernel
theorem dL_law_443 : decode cL_law 443 = .ok (.iadd, 1) := by decide +kernel
theorem dL_law_444 : decode cL_law 444 = .ok (.iaload, 1) := by decide +kernel
theorem dL_law_445 : decode cL_law 445 = .ok (.aload_n 0, 1) := by decide +kernel
theorem dL_law_446 : decode cL_law 446 = .ok (.iload_n 3, 1) := by decide +kernel
theorem dL_law_447 : decode cL_law 447 = .ok (.iconst 3, 1) := by decide +kernel
theorem dL_law_448 : decode cL_law 448 = .ok (.iadd, 1) := by decide +kernel
theorem dL_law_449 : decode cL_law 449 = .ok (.iaload, 1) := by decide +kernel
theorem dL_law_450 : decode cL_law 450 = .ok (.invokevirtual 51, 3) := by decide +kernel
theorem dL_law_453 : decode cL_law 453 = .ok (.if_icmp .eq 239, 3) := by decide +kernel
theorem dL_law_456 : decode cL_law 456 = .ok (.iconst 0, 1) := by decide +kernel
theorem dL_law_457 : decode cL_law 457 = .ok (.ireturn, 1) := by decide +kernel
theorem dL_law_458 : decode cL_law 458 = .ok (.aload_n 1, 1) := by decide +kernel
theorem dL_law_459 : decode cL_law 459 = .ok (.aload_n 0, 1) := by decide +kernel
theorem dL_law_460 : decode cL_law 460 = .ok (.iload_n 3, 1) := by decide +kernel
theorem dL_law_461 : decode cL_law 461 = .ok (.iconst 1, 1) := by decide +kernel
theorem dL_law_462 : decode cL_law 462 = .ok (.iadd, 1) := by decide +kernel
theorem dL_law_463 : decode cL_law 463 = .ok (.iaload, 1) := by decide +kernel
theorem dL_law_464 : decode cL_law 464 = .ok (.aload_n 0, 1) := by decide +kernel
theorem dL_law_465 : decode cL_law 465 = .ok (.iload_n 3, 1) := by decide +kernel
theorem dL_law_466 : decode cL_law 466 = .ok (.iconst 2, 1) := by decide +kernel
theorem dL_law_467 : decode cL_law 467 = .ok (.iadd, 1) := by decide +kernel
theorem dL_law_468 : decode cL_law 468 = .ok (.iaload, 1) := by decide +kernel
theorem dL_law_469 : decode cL_law 469 = .ok (.invokevirtual 52, 3) := by decide +kernel
theorem dL_law_472 : decode cL_law 472 = .ok (.aload_n 2, 1) := by decide +kernel
theorem dL_law_473 : decode cL_law 473 = .ok (.aload_n 0, 1) := by decide +kernel
theorem dL_law_474 : decode cL_law 474 = .ok (.iload_n 3, 1) := by decide +kernel
theorem dL_law_475 : decode cL_law 475 = .ok (.iconst 1, 1) := by decide +kernel
theorem dL_law_476 : decode cL_law 476 = .ok (.iadd, 1) := by decide +kernel
theorem dL_law_477 : decode cL_law 477 = .ok (.iaload, 1) := by decide +kernel
theorem dL_law_478 : decode cL_law 478 = .ok (.aload_n 0, 1) := by decide +kernel
theorem dL_law_479 : decode cL_law 479 = .ok (.iload_n 3, 1) := by decide +kernel
theorem dL_law_480 : decode cL_law 480 = .ok (.iconst 2, 1) := by decide +kernel
theorem dL_law_481 : decode cL_law 481 = .ok (.iadd, 1) := by decide +kernel
theorem dL_law_482 : decode cL_law 482 = .ok (.iaload, 1) := by decide +kernel
theorem dL_law_483 : decode cL_law 483 = .ok (.invokevirtual 55, 3) := by decide +kernel
theorem dL_law_486 : decode cL_law 486 = .ok (.if_icmp .eq 206, 3) := by decide +kernel
theorem dL_law_489 : decode cL_law 489 = .ok (.iconst 0, 1) := by decide +kernel
theorem dL_law_490 : decode cL_law 490 = .ok (.ireturn, 1) := by decide +kernel
theorem dL_law_491 : decode cL_law 491 = .ok (.aload_n 1, 1) := by decide +kernel
theorem dL_law_492 : decode cL_law 492 = .ok (.aload_n 0, 1) := by decide +kernel
theorem dL_law_493 : decode cL_law 493 = .ok (.iload_n 3, 1) := by decide +kernel
theorem dL_law_494 : decode cL_law 494 = .ok (.iconst 1, 1) := by decide +kernel
theorem dL_law_495 : decode cL_law 495 = .ok (.iadd, 1) := by decide +kernel
theorem dL_law_496 : decode cL_law 496 = .ok (.iaload, 1) := by decide +kernel
theorem dL_law_497 : decode cL_law 497 = .ok (.invokevirtual 56, 3) := by decide +kernel
theorem dL_law_500 : decode cL_law 500 = .ok (.aload_n 2, 1) := by decide +kernel
theorem dL_law_501 : decode cL_law 501 = .ok (.aload_n 0, 1) := by decide +kernel
theorem dL_law_502 : decode cL_law 502 = .ok (.iload_n 3, 1) := by decide +kernel
theorem dL_law_503 : decode cL_law 503 = .ok (.iconst 1, 1) := by decide +kernel
theorem dL_law_504 : decode cL_law 504 = .ok (.iadd, 1) := by decide +kernel
theorem dL_law_505 : decode cL_law 505 = .ok (.iaload, 1) := by decide +kernel
theorem dL_law_506 : decode cL_law 506 = .ok (.invokevirtual 59, 3) := by decide +kernel
theorem dL_law_509 : decode cL_law 509 = .ok (.if_icmp .eq 183, 3) := by decide +kernel
theorem dL_law_512 : decode cL_law 512 = .ok (.iconst 0, 1) := by decide +kernel
theorem dL_law_513 : decode cL_law 513 = .ok (.ireturn, 1) := by decide +kernel
theorem dL_law_514 : decode cL_law 514 = .ok (.aload_n 1, 1) := by decide +kernel
theorem dL_law_515 : decode cL_law 515 = .ok (.aload_n 0, 1) := by decide +kernel
theorem dL_law_516 : decode cL_law 516 = .ok (.iload_n 3, 1) := by decide +kernel
theorem dL_law_517 : decode cL_law 517 = .ok (.iconst 1, 1) := by decide +kernel
theorem dL_law_518 : decode cL_law 518 = .ok (.iadd, 1) := by decide +kernel
theorem dL_law_519 : decode cL_law 519 = .ok (.iaload, 1) := by decide +kernel
theorem dL_law_520 : decode cL_law 520 = .ok (.aload_n 0, 1) := by decide +kernel
theorem dL_law_521 : decode cL_law 521 = .ok (.iload_n 3, 1) := by decide +kernel
theorem dL_law_522 : decode cL_law 522 = .ok (.iconst 2, 1) := by decide +kernel
theorem dL_law_523 : decode cL_law 523 = .ok (.iadd, 1) := by decide +kernel
theorem dL_law_524 : decode cL_law 524 = .ok (.iaload, 1) := by decide +kernel
theorem dL_law_525 : decode cL_law 525 = .ok (.invokevirtual 60, 3) := by decide +kernel
theorem dL_law_528 : decode cL_law 528 = .ok (.aload_n 2, 1) := by decide +kernel
theorem dL_law_529 : decode cL_law 529 = .ok (.aload_n 0, 1) := by decide +kernel
theorem dL_law_530 : decode cL_law 530 = .ok (.iload_n 3, 1) := by decide +kernel
theorem dL_law_531 : decode cL_law 531 = .ok (.iconst 1, 1) := by decide +kernel
theorem dL_law_532 : decode cL_law 532 = .ok (.iadd, 1) := by decide +kernel
theorem dL_law_533 : decode cL_law 533 = .ok (.iaload, 1) := by decide +kernel
theorem dL_law_534 : decode cL_law 534 = .ok (.aload_n 0, 1) := by decide +kernel
theorem dL_law_535 : decode cL_law 535 = .ok (.iload_n 3, 1) := by decide +kernel
theorem dL_law_536 : decode cL_law 536 = .ok (.iconst 2, 1) := by decide +kernel
theorem dL_law_537 : decode cL_law 537 = .ok (.iadd, 1) := by decide +kernel
theorem dL_law_538 : decode cL_law 538 = .ok (.iaload, 1) := by decide +kernel
theorem dL_law_539 : decode cL_law 539 = .ok (.invokevirtual 63, 3) := by decide +kernel
theorem dL_law_542 : decode cL_law 542 = .ok (.if_icmp .eq 150, 3) := by decide +kernel
theorem dL_law_545 : decode cL_law 545 = .ok (.iconst 0, 1) := by decide +kernel
theorem dL_law_546 : decode cL_law 546 = .ok (.ireturn, 1) := by decide +kernel
theorem dL_law_547 : decode cL_law 547 = .ok (.aload_n 1, 1) := by decide +kernel
theorem dL_law_548 : decode cL_law 548 = .ok (.aload_n 0, 1) := by decide +kernel
theorem dL_law_549 : decode cL_law 549 = .ok (.iload_n 3, 1) := by decide +kernel
theorem dL_law_550 : decode cL_law 550 = .ok (.iconst 1, 1) := by decide +kernel
theorem dL_law_551 : decode cL_law 551 = .ok (.iadd, 1) := by decide +kernel
theorem dL_law_552 : decode cL_law 552 = .ok (.iaload, 1) := by decide +kernel
theorem dL_law_553 : decode cL_law 553 = .ok (.invokevirtual 64, 3) := by decide +kernel
theorem dL_law_556 : decode cL_law 556 = .ok (.aload_n 2, 1) := by decide +kernel
theorem dL_law_557 : decode cL_law 557 = .ok (.aload_n 0, 1) := by decide +kernel
theorem dL_law_558 : decode cL_law 558 = .ok (.iload_n 3, 1) := by decide +kernel
theorem dL_law_559 : decode cL_law 559 = .ok (.iconst 1, 1) := by decide +kernel
theorem dL_law_560 : decode cL_law 560 = .ok (.iadd, 1) := by decide +kernel
theorem dL_law_561 : decode cL_law 561 = .ok (.iaload, 1) := by decide +kernel
theorem dL_law_562 : decode cL_law 562 = .ok (.invokevirtual 67, 3) := by decide +kernel
theorem dL_law_565 : decode cL_law 565 = .ok (.if_icmp .eq 127, 3) := by decide +kernel
theorem dL_law_568 : decode cL_law 568 = .ok (.iconst 0, 1) := by decide +kernel
theorem dL_law_569 : decode cL_law 569 = .ok (.ireturn, 1) := by decide +kernel
theorem dL_law_570 : decode cL_law 570 = .ok (.aload_n 1, 1) := by decide +kernel
theorem dL_law_571 : decode cL_law 571 = .ok (.aload_n 0, 1) := by decide +kernel
theorem dL_law_572 : decode cL_law 572 = .ok (.iload_n 3, 1) := by decide +kernel
theorem dL_law_573 : decode cL_law 573 = .ok (.iconst 1, 1) := by decide +kernel
theorem dL_law_574 : decode cL_law 574 = .ok (.iadd, 1) := by decide +kernel
theorem dL_law_575 : decode cL_law 575 = .ok (.iaload, 1) := by decide +kernel
theorem dL_law_576 : decode cL_law 576 = .ok (.aload_n 0, 1) := by decide +kernel
theorem dL_law_577 : decode cL_law 577 = .ok (.iload_n 3, 1) := by decide +kernel
theorem dL_law_578 : decode cL_law 578 = .ok (.iconst 2, 1) := by decide +kernel
theorem dL_law_579 : decode cL_law 579 = .ok (.iadd, 1) := by decide +kernel
theorem dL_law_580 : decode cL_law 580 = .ok (.iaload, 1) := by decide +kernel
theorem dL_law_581 : decode cL_law 581 = .ok (.invokevirtual 68, 3) := by decide +kernel
theorem dL_law_584 : decode cL_law 584 = .ok (.aload_n 2, 1) := by decide +kernel
theorem dL_law_585 : decode cL_law 585 = .ok (.aload_n 0, 1) := by decide +kernel
theorem dL_law_586 : decode cL_law 586 = .ok (.iload_n 3, 1) := by decide +kernel
theorem dL_law_587 : decode cL_law 587 = .ok (.iconst 1, 1) := by decide +kernel
theorem dL_law_588 : decode cL_law 588 = .ok (.iadd, 1) := by decide +kernel
theorem dL_law_589 : decode cL_law 589 = .ok (.iaload, 1) := by decide +kernel
theorem dL_law_590 : decode cL_law 590 = .ok (.aload_n 0, 1) := by decide +kernel
theorem dL_law_591 : decode cL_law 591 = .ok (.iload_n 3, 1) := by decide +kernel
theorem dL_law_592 : decode cL_law 592 = .ok (.iconst 2, 1) := by decide +kernel
theorem dL_law_593 : decode cL_law 593 = .ok (.iadd, 1) := by decide +kernel
theorem dL_law_594 : decode cL_law 594 = .ok (.iaload, 1) := by decide +kernel
theorem dL_law_595 : decode cL_law 595 = .ok (.invokevirtual 71, 3) := by decide +kernel
theorem dL_law_598 : decode cL_law 598 = .ok (.if_icmp .eq 94, 3) := by decide +kernel
theorem dL_law_601 : decode cL_law 601 = .ok (.iconst 0, 1) := by decide +kernel
theorem dL_law_602 : decode cL_law 602 = .ok (.ireturn, 1) := by decide +kernel
theorem dL_law_603 : decode cL_law 603 = .ok (.aload_n 1, 1) := by decide +kernel
theorem dL_law_604 : decode cL_law 604 = .ok (.aload_n 0, 1) := by decide +kernel
theorem dL_law_605 : decode cL_law 605 = .ok (.iload_n 3, 1) := by decide +kernel
theorem dL_law_606 : decode cL_law 606 = .ok (.iconst 1, 1) := by decide +kernel
theorem dL_law_607 : decode cL_law 607 = .ok (.iadd, 1) := by decide +kernel
theorem dL_law_608 : decode cL_law 608 = .ok (.iaload, 1) := by decide +kernel
theorem dL_law_609 : decode cL_law 609 = .ok (.aload_n 0, 1) := by decide +kernel
theorem dL_law_610 : decode cL_law 610 = .ok (.iload_n 3, 1) := by decide +kernel
theorem dL_law_611 : decode cL_law 611 = .ok (.iconst 2, 1) := by decide +kernel
theorem dL_law_612 : decode cL_law 612 = .ok (.iadd, 1) := by decide +kernel
theorem dL_law_613 : decode cL_law 613 = .ok (.iaload, 1) := by decide +kernel
theorem dL_law_614 : decode cL_law 614 = .ok (.invokevirtual 72, 3) := by decide +kernel
theorem dL_law_617 : decode cL_law 617 = .ok (.aload_n 2, 1) := by decide +kernel
theorem dL_law_618 : decode cL_law 618 = .ok (.aload_n 0, 1) := by decide +kernel
theorem dL_law_619 : decode cL_law 619 = .ok (.iload_n 3, 1) := by decide +kernel
theorem dL_law_620 : decode cL_law 620 = .ok (.iconst 1, 1) := by decide +kernel
theorem dL_law_621 : decode cL_law 621 = .ok (.iadd, 1) := by decide +kernel
theorem dL_law_622 : decode cL_law 622 = .ok (.iaload, 1) := by decide +kernel
theorem dL_law_623 : decode cL_law 623 = .ok (.aload_n 0, 1) := by decide +kernel
theorem dL_law_624 : decode cL_law 624 = .ok (.iload_n 3, 1) := by decide +kernel
theorem dL_law_625 : decode cL_law 625 = .ok (.iconst 2, 1) := by decide +kernel
theorem dL_law_626 : decode cL_law 626 = .ok (.iadd, 1) := by decide +kernel
theorem dL_law_627 : decode cL_law 627 = .ok (.iaload, 1) := by decide +kernel
theorem dL_law_628 : decode cL_law 628 = .ok (.invokevirtual 75, 3) := by decide +kernel
theorem dL_law_631 : decode cL_law 631 = .ok (.if_icmp .eq 61, 3) := by decide +kernel
theorem dL_law_634 : decode cL_law 634 = .ok (.iconst 0, 1) := by decide +kernel
theorem dL_law_635 : decode cL_law 635 = .ok (.ireturn, 1) := by decide +kernel
theorem dL_law_636 : decode cL_law 636 = .ok (.aload_n 1, 1) := by decide +kernel
theorem dL_law_637 : decode cL_law 637 = .ok (.aload_n 0, 1) := by decide +kernel
theorem dL_law_638 : decode cL_law 638 = .ok (.iload_n 3, 1) := by decide +kernel
theorem dL_law_639 : decode cL_law 639 = .ok (.iconst 1, 1) := by decide +kernel
theorem dL_law_640 : decode cL_law 640 = .ok (.iadd, 1) := by decide +kernel
theorem dL_law_641 : decode cL_law 641 = .ok (.iaload, 1) := by decide +kernel
theorem dL_law_642 : decode cL_law 642 = .ok (.aload_n 0, 1) := by decide +kernel
theorem dL_law_643 : decode cL_law 643 = .ok (.iload_n 3, 1) := by decide +kernel
theorem dL_law_644 : decode cL_law 644 = .ok (.iconst 2, 1) := by decide +kernel
theorem dL_law_645 : decode cL_law 645 = .ok (.iadd, 1) := by decide +kernel
theorem dL_law_646 : decode cL_law 646 = .ok (.iaload, 1) := by decide +kernel
theorem dL_law_647 : decode cL_law 647 = .ok (.invokevirtual 76, 3) := by decide +kernel
theorem dL_law_650 : decode cL_law 650 = .ok (.aload_n 2, 1) := by decide +kernel
theorem dL_law_651 : decode cL_law 651 = .ok (.aload_n 0, 1) := by decide +kernel
theorem dL_law_652 : decode cL_law 652 = .ok (.iload_n 3, 1) := by decide +kernel
theorem dL_law_653 : decode cL_law 653 = .ok (.iconst 1, 1) := by decide +kernel
theorem dL_law_654 : decode cL_law 654 = .ok (.iadd, 1) := by decide +kernel
theorem dL_law_655 : decode cL_law 655 = .ok (.iaload, 1) := by decide +kernel
theorem dL_law_656 : decode cL_law 656 = .ok (.aload_n 0, 1) := by decide +kernel
theorem dL_law_657 : decode cL_law 657 = .ok (.iload_n 3, 1) := by decide +kernel
theorem dL_law_658 : decode cL_law 658 = .ok (.iconst 2, 1) := by decide +kernel
theorem dL_law_659 : decode cL_law 659 = .ok (.iadd, 1) := by decide +kernel
theorem dL_law_660 : decode cL_law 660 = .ok (.iaload, 1) := by decide +kernel
theorem dL_law_661 : decode cL_law 661 = .ok (.invokevirtual 79, 3) := by decide +kernel
theorem dL_law_664 : decode cL_law 664 = .ok (.if_icmp .eq 28, 3) := by decide +kernel
theorem dL_law_667 : decode cL_law 667 = .ok (.iconst 0, 1) := by decide +kernel
theorem dL_law_668 : decode cL_law 668 = .ok (.ireturn, 1) := by decide +kernel
theorem dL_law_669 : decode cL_law 669 = .ok (.aload_n 1, 1) := by decide +kernel
theorem dL_law_670 : decode cL_law 670 = .ok (.aload_n 0, 1) := by decide +kernel
theorem dL_law_671 : decode cL_law 671 = .ok (.iload_n 3, 1) := by decide +kernel
theorem dL_law_672 : decode cL_law 672 = .ok (.iconst 1, 1) := by decide +kernel
theorem dL_law_673 : decode cL_law 673 = .ok (.iadd, 1) := by decide +kernel
theorem dL_law_674 : decode cL_law 674 = .ok (.iaload, 1) := by decide +kernel
theorem dL_law_675 : decode cL_law 675 = .ok (.invokevirtual 80, 3) := by decide +kernel
theorem dL_law_678 : decode cL_law 678 = .ok (.aload_n 2, 1) := by decide +kernel
theorem dL_law_679 : decode cL_law 679 = .ok (.aload_n 0, 1) := by decide +kernel
theorem dL_law_680 : decode cL_law 680 = .ok (.iload_n 3, 1) := by decide +kernel
theorem dL_law_681 : decode cL_law 681 = .ok (.iconst 1, 1) := by decide +kernel
theorem dL_law_682 : decode cL_law 682 = .ok (.iadd, 1) := by decide +kernel
theorem dL_law_683 : decode cL_law 683 = .ok (.iaload, 1) := by decide +kernel
theorem dL_law_684 : decode cL_law 684 = .ok (.invokevirtual 83, 3) := by decide +kernel
theorem dL_law_687 : decode cL_law 687 = .ok (.if_icmp .eq 5, 3) := by decide +kernel
theorem dL_law_690 : decode cL_law 690 = .ok (.iconst 0, 1) := by decide +kernel
theorem dL_law_691 : decode cL_law 691 = .ok (.ireturn, 1) := by decide +kernel
theorem dL_law_692 : decode cL_law 692 = .ok (.iinc 3 5, 3) := by decide +kernel
theorem dL_law_695 : decode cL_law 695 = .ok (.goto (-677), 3) := by decide +kernel
theorem dL_law_698 : decode cL_law 698 = .ok (.iconst 1, 1) := by decide +kernel
theorem dL_law_699 : decode cL_law 699 = .ok (.ireturn, 1) := by decide +kernel
end
