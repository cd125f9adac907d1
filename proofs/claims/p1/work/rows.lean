section
-- ===== PART A: goes FIRST, ahead of the names: the tables' words, and 'selects' of the private methods out of them =====
/-- a private method of a class that the tables say can be made, by its rows of tables_1 -/
def lw_okq (q : MethodName × Nat) : Prop := (q.1.cls ≠ "java/lang/invoke/MethodHandle" ∧ q.1.cls ≠ "java/lang/invoke/VarHandle") ∧ Cond.instantiable q.1.cls q.2 ∈ tables_1 ∧ Cond.privateMethod q.1 ∈ tables_1 ∧ Cond.instanceMethod q.1 ∈ tables_1
theorem lw_p0 : lw_okq (⟨"CryOrder", "alarmToRepeat", "(III)LCryOrder$Alarm;"⟩, 14) := ⟨⟨by decide +kernel, by decide +kernel⟩, List.mem_of_getElem? (i := 14) (by decide +kernel), List.mem_of_getElem? (i := 190) (by decide +kernel), List.mem_of_getElem? (i := 191) (by decide +kernel)⟩
theorem lw_p1 : lw_okq (⟨"CryOrder$Node", "child", "(I)LCryOrder$Node;"⟩, 8) := ⟨⟨by decide +kernel, by decide +kernel⟩, List.mem_of_getElem? (i := 26) (by decide +kernel), List.mem_of_getElem? (i := 218) (by decide +kernel), List.mem_of_getElem? (i := 219) (by decide +kernel)⟩
theorem lw_p2 : lw_okq (⟨"CryOrder", "isSilencedNow", "(I)Z"⟩, 14) := ⟨⟨by decide +kernel, by decide +kernel⟩, List.mem_of_getElem? (i := 14) (by decide +kernel), List.mem_of_getElem? (i := 326) (by decide +kernel), List.mem_of_getElem? (i := 327) (by decide +kernel)⟩
theorem lw_p3 : lw_okq (⟨"CryOrder", "isCapFullNow", "(I)Z"⟩, 14) := ⟨⟨by decide +kernel, by decide +kernel⟩, List.mem_of_getElem? (i := 14) (by decide +kernel), List.mem_of_getElem? (i := 334) (by decide +kernel), List.mem_of_getElem? (i := 335) (by decide +kernel)⟩
theorem lw_p4 : lw_okq (⟨"CryOrder", "alarmAt", "(I)LCryOrder$Alarm;"⟩, 14) := ⟨⟨by decide +kernel, by decide +kernel⟩, List.mem_of_getElem? (i := 14) (by decide +kernel), List.mem_of_getElem? (i := 370) (by decide +kernel), List.mem_of_getElem? (i := 371) (by decide +kernel)⟩
theorem lw_p5 : lw_okq (⟨"CryOrder$Ties", "find", "(II)LCryOrder$Pair;"⟩, 2) := ⟨⟨by decide +kernel, by decide +kernel⟩, List.mem_of_getElem? (i := 64) (by decide +kernel), List.mem_of_getElem? (i := 404) (by decide +kernel), List.mem_of_getElem? (i := 405) (by decide +kernel)⟩
theorem lw_p6 : lw_okq (⟨"CryOrder", "caseNumberOf", "(LCryOrder$Alarm;)I"⟩, 14) := ⟨⟨by decide +kernel, by decide +kernel⟩, List.mem_of_getElem? (i := 14) (by decide +kernel), List.mem_of_getElem? (i := 461) (by decide +kernel), List.mem_of_getElem? (i := 462) (by decide +kernel)⟩
theorem lw_p7 : lw_okq (⟨"CryOrder", "casesNow", "()LCryOrder$Cases;"⟩, 14) := ⟨⟨by decide +kernel, by decide +kernel⟩, List.mem_of_getElem? (i := 14) (by decide +kernel), List.mem_of_getElem? (i := 465) (by decide +kernel), List.mem_of_getElem? (i := 466) (by decide +kernel)⟩
theorem lw_p8 : lw_okq (⟨"CryOrder$Cases", "putInOrder", "([LCryOrder$Alarm;I)V"⟩, 2) := ⟨⟨by decide +kernel, by decide +kernel⟩, List.mem_of_getElem? (i := 82) (by decide +kernel), List.mem_of_getElem? (i := 508) (by decide +kernel), List.mem_of_getElem? (i := 509) (by decide +kernel)⟩
theorem lw_p9 : lw_okq (⟨"CryOrder$Cases", "putInPlace", "(LCryOrder$Case;)V"⟩, 2) := ⟨⟨by decide +kernel, by decide +kernel⟩, List.mem_of_getElem? (i := 82) (by decide +kernel), List.mem_of_getElem? (i := 512) (by decide +kernel), List.mem_of_getElem? (i := 513) (by decide +kernel)⟩
theorem lw_p10 : lw_okq (⟨"CryOrder", "memberOf", "(LCryOrder$Alarm;I)I"⟩, 14) := ⟨⟨by decide +kernel, by decide +kernel⟩, List.mem_of_getElem? (i := 14) (by decide +kernel), List.mem_of_getElem? (i := 554) (by decide +kernel), List.mem_of_getElem? (i := 555) (by decide +kernel)⟩
theorem lw_p11 : lw_okq (⟨"CryOrder$Plan", "takeTries", "(LCryOrder$Cases;I)V"⟩, 8) := ⟨⟨by decide +kernel, by decide +kernel⟩, List.mem_of_getElem? (i := 100) (by decide +kernel), List.mem_of_getElem? (i := 572) (by decide +kernel), List.mem_of_getElem? (i := 573) (by decide +kernel)⟩
theorem lw_p12 : lw_okq (⟨"CryOrder$Plan", "take", "(LCryOrder$Case;)V"⟩, 8) := ⟨⟨by decide +kernel, by decide +kernel⟩, List.mem_of_getElem? (i := 100) (by decide +kernel), List.mem_of_getElem? (i := 577) (by decide +kernel), List.mem_of_getElem? (i := 578) (by decide +kernel)⟩
theorem lw_p13 : lw_okq (⟨"CryOrder$Plan", "fillPool", "(LCryOrder$Cases;)V"⟩, 8) := ⟨⟨by decide +kernel, by decide +kernel⟩, List.mem_of_getElem? (i := 100) (by decide +kernel), List.mem_of_getElem? (i := 581) (by decide +kernel), List.mem_of_getElem? (i := 582) (by decide +kernel)⟩
theorem lw_p14 : lw_okq (⟨"CryOrder$Plan", "isTaken", "(LCryOrder$Case;)Z"⟩, 8) := ⟨⟨by decide +kernel, by decide +kernel⟩, List.mem_of_getElem? (i := 100) (by decide +kernel), List.mem_of_getElem? (i := 585) (by decide +kernel), List.mem_of_getElem? (i := 586) (by decide +kernel)⟩
theorem lw_p15 : lw_okq (⟨"CryOrder$Plan", "weighPool", "()V"⟩, 8) := ⟨⟨by decide +kernel, by decide +kernel⟩, List.mem_of_getElem? (i := 100) (by decide +kernel), List.mem_of_getElem? (i := 589) (by decide +kernel), List.mem_of_getElem? (i := 590) (by decide +kernel)⟩
def lw_privs_1 : List (MethodName × Nat) := [(⟨"CryOrder", "alarmToRepeat", "(III)LCryOrder$Alarm;"⟩, 14), (⟨"CryOrder$Node", "child", "(I)LCryOrder$Node;"⟩, 8), (⟨"CryOrder", "isSilencedNow", "(I)Z"⟩, 14), (⟨"CryOrder", "isCapFullNow", "(I)Z"⟩, 14), (⟨"CryOrder", "alarmAt", "(I)LCryOrder$Alarm;"⟩, 14), (⟨"CryOrder$Ties", "find", "(II)LCryOrder$Pair;"⟩, 2), (⟨"CryOrder", "caseNumberOf", "(LCryOrder$Alarm;)I"⟩, 14), (⟨"CryOrder", "casesNow", "()LCryOrder$Cases;"⟩, 14), (⟨"CryOrder$Cases", "putInOrder", "([LCryOrder$Alarm;I)V"⟩, 2), (⟨"CryOrder$Cases", "putInPlace", "(LCryOrder$Case;)V"⟩, 2), (⟨"CryOrder", "memberOf", "(LCryOrder$Alarm;I)I"⟩, 14), (⟨"CryOrder$Plan", "takeTries", "(LCryOrder$Cases;I)V"⟩, 8), (⟨"CryOrder$Plan", "take", "(LCryOrder$Case;)V"⟩, 8), (⟨"CryOrder$Plan", "fillPool", "(LCryOrder$Cases;)V"⟩, 8), (⟨"CryOrder$Plan", "isTaken", "(LCryOrder$Case;)Z"⟩, 8), (⟨"CryOrder$Plan", "weighPool", "()V"⟩, 8)]
theorem lw_r1 : ∀ q ∈ lw_privs_1, lw_okq q := List.forall_mem_cons.mpr ⟨lw_p0, List.forall_mem_cons.mpr ⟨lw_p1, List.forall_mem_cons.mpr ⟨lw_p2, List.forall_mem_cons.mpr ⟨lw_p3, List.forall_mem_cons.mpr ⟨lw_p4, List.forall_mem_cons.mpr ⟨lw_p5, List.forall_mem_cons.mpr ⟨lw_p6, List.forall_mem_cons.mpr ⟨lw_p7, List.forall_mem_cons.mpr ⟨lw_p8, List.forall_mem_cons.mpr ⟨lw_p9, List.forall_mem_cons.mpr ⟨lw_p10, List.forall_mem_cons.mpr ⟨lw_p11, List.forall_mem_cons.mpr ⟨lw_p12, List.forall_mem_cons.mpr ⟨lw_p13, List.forall_mem_cons.mpr ⟨lw_p14, List.forall_mem_cons.mpr ⟨lw_p15, fun _ h => absurd h List.not_mem_nil⟩⟩⟩⟩⟩⟩⟩⟩⟩⟩⟩⟩⟩⟩⟩⟩
theorem lw_p16 : lw_okq (⟨"CryOrder$Plan", "takeBestOfPool", "()V"⟩, 8) := ⟨⟨by decide +kernel, by decide +kernel⟩, List.mem_of_getElem? (i := 100) (by decide +kernel), List.mem_of_getElem? (i := 593) (by decide +kernel), List.mem_of_getElem? (i := 594) (by decide +kernel)⟩
theorem lw_p17 : lw_okq (⟨"CryOrderModel", "isLive", "(I)Z"⟩, 37) := ⟨⟨by decide +kernel, by decide +kernel⟩, List.mem_of_getElem? (i := 621) (by decide +kernel), List.mem_of_getElem? (i := 751) (by decide +kernel), List.mem_of_getElem? (i := 752) (by decide +kernel)⟩
theorem lw_p18 : lw_okq (⟨"CryOrderModel", "isAlarm", "(I)Z"⟩, 37) := ⟨⟨by decide +kernel, by decide +kernel⟩, List.mem_of_getElem? (i := 621) (by decide +kernel), List.mem_of_getElem? (i := 770) (by decide +kernel), List.mem_of_getElem? (i := 771) (by decide +kernel)⟩
theorem lw_p19 : lw_okq (⟨"CryOrderModel", "tieOf", "(II)I"⟩, 37) := ⟨⟨by decide +kernel, by decide +kernel⟩, List.mem_of_getElem? (i := 621) (by decide +kernel), List.mem_of_getElem? (i := 781) (by decide +kernel), List.mem_of_getElem? (i := 782) (by decide +kernel)⟩
theorem lw_p20 : lw_okq (⟨"CryOrderModel", "counts", "(II)V"⟩, 37) := ⟨⟨by decide +kernel, by decide +kernel⟩, List.mem_of_getElem? (i := 621) (by decide +kernel), List.mem_of_getElem? (i := 789) (by decide +kernel), List.mem_of_getElem? (i := 790) (by decide +kernel)⟩
theorem lw_p21 : lw_okq (⟨"CryOrderModel", "depth", "(I)I"⟩, 37) := ⟨⟨by decide +kernel, by decide +kernel⟩, List.mem_of_getElem? (i := 621) (by decide +kernel), List.mem_of_getElem? (i := 797) (by decide +kernel), List.mem_of_getElem? (i := 798) (by decide +kernel)⟩
theorem lw_p22 : lw_okq (⟨"CryOrderModel", "score", "(I)I"⟩, 37) := ⟨⟨by decide +kernel, by decide +kernel⟩, List.mem_of_getElem? (i := 621) (by decide +kernel), List.mem_of_getElem? (i := 805) (by decide +kernel), List.mem_of_getElem? (i := 806) (by decide +kernel)⟩
theorem lw_p23 : lw_okq (⟨"CryOrderModel", "joins", "()V"⟩, 37) := ⟨⟨by decide +kernel, by decide +kernel⟩, List.mem_of_getElem? (i := 621) (by decide +kernel), List.mem_of_getElem? (i := 809) (by decide +kernel), List.mem_of_getElem? (i := 810) (by decide +kernel)⟩
theorem lw_p24 : lw_okq (⟨"CryOrderModel", "hangs", "(II)Z"⟩, 37) := ⟨⟨by decide +kernel, by decide +kernel⟩, List.mem_of_getElem? (i := 621) (by decide +kernel), List.mem_of_getElem? (i := 813) (by decide +kernel), List.mem_of_getElem? (i := 814) (by decide +kernel)⟩
theorem lw_p25 : lw_okq (⟨"CryOrderModel", "scoreOf", "(I)I"⟩, 37) := ⟨⟨by decide +kernel, by decide +kernel⟩, List.mem_of_getElem? (i := 621) (by decide +kernel), List.mem_of_getElem? (i := 822) (by decide +kernel), List.mem_of_getElem? (i := 823) (by decide +kernel)⟩
theorem lw_p26 : lw_okq (⟨"CryOrderModel", "sizeOf", "(I)I"⟩, 37) := ⟨⟨by decide +kernel, by decide +kernel⟩, List.mem_of_getElem? (i := 621) (by decide +kernel), List.mem_of_getElem? (i := 834) (by decide +kernel), List.mem_of_getElem? (i := 835) (by decide +kernel)⟩
theorem lw_p27 : lw_okq (⟨"CryOrderModel", "minutesOf", "(I)I"⟩, 37) := ⟨⟨by decide +kernel, by decide +kernel⟩, List.mem_of_getElem? (i := 621) (by decide +kernel), List.mem_of_getElem? (i := 838) (by decide +kernel), List.mem_of_getElem? (i := 839) (by decide +kernel)⟩
theorem lw_p28 : lw_okq (⟨"CryOrderModel", "isLittleKnown", "(I)Z"⟩, 37) := ⟨⟨by decide +kernel, by decide +kernel⟩, List.mem_of_getElem? (i := 621) (by decide +kernel), List.mem_of_getElem? (i := 842) (by decide +kernel), List.mem_of_getElem? (i := 843) (by decide +kernel)⟩
theorem lw_p29 : lw_okq (⟨"CryOrderModel", "plans", "(I)V"⟩, 37) := ⟨⟨by decide +kernel, by decide +kernel⟩, List.mem_of_getElem? (i := 621) (by decide +kernel), List.mem_of_getElem? (i := 857) (by decide +kernel), List.mem_of_getElem? (i := 858) (by decide +kernel)⟩
theorem lw_p30 : lw_okq (⟨"CryOrderModel", "isTaken", "(I)Z"⟩, 37) := ⟨⟨by decide +kernel, by decide +kernel⟩, List.mem_of_getElem? (i := 621) (by decide +kernel), List.mem_of_getElem? (i := 861) (by decide +kernel), List.mem_of_getElem? (i := 862) (by decide +kernel)⟩
def lw_privs_2 : List (MethodName × Nat) := [(⟨"CryOrder$Plan", "takeBestOfPool", "()V"⟩, 8), (⟨"CryOrderModel", "isLive", "(I)Z"⟩, 37), (⟨"CryOrderModel", "isAlarm", "(I)Z"⟩, 37), (⟨"CryOrderModel", "tieOf", "(II)I"⟩, 37), (⟨"CryOrderModel", "counts", "(II)V"⟩, 37), (⟨"CryOrderModel", "depth", "(I)I"⟩, 37), (⟨"CryOrderModel", "score", "(I)I"⟩, 37), (⟨"CryOrderModel", "joins", "()V"⟩, 37), (⟨"CryOrderModel", "hangs", "(II)Z"⟩, 37), (⟨"CryOrderModel", "scoreOf", "(I)I"⟩, 37), (⟨"CryOrderModel", "sizeOf", "(I)I"⟩, 37), (⟨"CryOrderModel", "minutesOf", "(I)I"⟩, 37), (⟨"CryOrderModel", "isLittleKnown", "(I)Z"⟩, 37), (⟨"CryOrderModel", "plans", "(I)V"⟩, 37), (⟨"CryOrderModel", "isTaken", "(I)Z"⟩, 37)]
theorem lw_r2 : ∀ q ∈ lw_privs_2, lw_okq q := List.forall_mem_cons.mpr ⟨lw_p16, List.forall_mem_cons.mpr ⟨lw_p17, List.forall_mem_cons.mpr ⟨lw_p18, List.forall_mem_cons.mpr ⟨lw_p19, List.forall_mem_cons.mpr ⟨lw_p20, List.forall_mem_cons.mpr ⟨lw_p21, List.forall_mem_cons.mpr ⟨lw_p22, List.forall_mem_cons.mpr ⟨lw_p23, List.forall_mem_cons.mpr ⟨lw_p24, List.forall_mem_cons.mpr ⟨lw_p25, List.forall_mem_cons.mpr ⟨lw_p26, List.forall_mem_cons.mpr ⟨lw_p27, List.forall_mem_cons.mpr ⟨lw_p28, List.forall_mem_cons.mpr ⟨lw_p29, List.forall_mem_cons.mpr ⟨lw_p30, fun _ h => absurd h List.not_mem_nil⟩⟩⟩⟩⟩⟩⟩⟩⟩⟩⟩⟩⟩⟩⟩
def lw_privs : List (MethodName × Nat) := lw_privs_1 ++ (lw_privs_2)
def lw_tbl : List Cond := k2_sels lw_privs ++ tables_1
theorem lw_privs_ok : ∀ q ∈ lw_privs, lw_okq q := by
  show ∀ q ∈ lw_privs_1 ++ (lw_privs_2), lw_okq q
  exact List.forall_mem_append.mpr ⟨lw_r1, lw_r2⟩
end
section
/-! ===== BEGIN words of one list among another's, by their places ===== -/
theorem goodIn_r {big : List Cond} (ws : List Cond) (ps : List Nat) (hp : ws = ps.filterMap (fun i => big[i]?)) (h : ws.all goodWord = true) : GoodIn big ws := by
  intro w hw
  have h1 := List.all_eq_true.mp h w hw
  rw [hp] at hw
  obtain ⟨i, -, hi⟩ := List.mem_filterMap.mp hw
  have hm : w ∈ big := by first | exact List.mem_of_getElem? hi | exact List.getElem?_mem hi
  exact ⟨hm, good_of_word h1⟩
theorem goodIn_app {big a b : List Cond} (ha : GoodIn big a) (hb : GoodIn big b) : GoodIn big (a ++ b) := fun w h => (List.mem_append.mp h).elim (ha w) (hb w)
theorem goodIn_ca {big a b : List Cond} {c : Cond} (ha : GoodIn big (c :: a)) (hb : GoodIn big b) : GoodIn big (c :: (a ++ b)) := fun w h => (List.mem_cons.mp h).elim (fun e => ha w (List.mem_cons.mpr (Or.inl e))) (fun h => (List.mem_append.mp h).elim (fun h => ha w (List.mem_cons.mpr (Or.inr h))) (hb w))
theorem goodIn_sub {big ws : List Cond} (hm : ∀ w ∈ ws, w ∈ big) (h : ws.all goodWord = true) : GoodIn big ws := fun w hw => ⟨hm w hw, good_of_word (List.all_eq_true.mp h w hw)⟩
/-! ===== END ===== -/

/-! ===== BEGIN printed: names, fields, word lists, decode rows ===== -/
def RX0 : String := "CryOrder$Alarm"
def TX0 : u_T := fun k => match k with
  | 0 => ("CryOrder$Alarm", "number", "I", true)
  | 1 => ("CryOrder$Alarm", "came", "I", true)
  | 2 => ("CryOrder$Alarm", "source", "I", true)
  | 3 => ("CryOrder$Alarm", "thing", "I", true)
  | 4 => ("CryOrder$Alarm", "marks", "I", true)
  | 5 => ("CryOrder$Alarm", "worth", "I", true)
  | 6 => ("CryOrder$Alarm", "leaf", "LCryOrder$Node;", true)
  | 7 => ("CryOrder$Alarm", "led", "LCryOrder$Case;", true)
  | 8 => ("CryOrder$Alarm", "silenced", "Z", false)
  | 9 => ("CryOrder$Alarm", "capped", "Z", false)
  | 10 => ("CryOrder$Alarm", "heardLast", "I", false)
  | 11 => ("CryOrder$Alarm", "repeats", "I", false)
  | 12 => ("CryOrder$Alarm", "state", "I", false)
  | 13 => ("CryOrder$Alarm", "lookersForTrue", "I", false)
  | 14 => ("CryOrder$Alarm", "lookersForFalse", "I", false)
  | 15 => ("CryOrder$Alarm", "soonerOfThing", "LCryOrder$Alarm;", false)
  | _ => ("CryOrder$Alarm", "above", "LCryOrder$Alarm;", false)
def tyX0 : Nat → FieldType := fun k => match k with
  | 0 => .int
  | 1 => .int
  | 2 => .int
  | 3 => .int
  | 4 => .int
  | 5 => .int
  | 6 => .object "CryOrder$Node"
  | 7 => .object "CryOrder$Case"
  | 8 => .boolean
  | 9 => .boolean
  | 10 => .int
  | 11 => .int
  | 12 => .int
  | 13 => .int
  | 14 => .int
  | 15 => .object "CryOrder$Alarm"
  | _ => .object "CryOrder$Alarm"
abbrev wsX00 : List Cond := u_ws RX0 TX0 17
theorem nmX0 : ∀ a, a < 17 → ∀ b, b < 17 → a ≠ b → (TX0 a).2.1 ≠ (TX0 b).2.1 := by decide +kernel
theorem tyX0_ok : ∀ k, k < 17 → parseFieldDescriptor (TX0 k).2.2.1 = some (tyX0 k) := by decide +kernel
abbrev cX0_init : ByteArray := prog_2_method_1_code
def yX0_init : MethodName := ⟨RX0, "<init>", "(IIIIIILCryOrder$Node;)V"⟩
abbrev cX0_isOpen : ByteArray := prog_2_method_2_code
def yX0_isOpen : MethodName := ⟨RX0, "isOpen", "()Z"⟩
abbrev cX0_isHushed : ByteArray := prog_2_method_3_code
def yX0_isHushed : MethodName := ⟨RX0, "isHushed", "()Z"⟩
abbrev cX0_isLive : ByteArray := prog_2_method_4_code
def yX0_isLive : MethodName := ⟨RX0, "isLive", "()Z"⟩
abbrev cX0_repeat : ByteArray := prog_2_method_5_code
def yX0_repeat : MethodName := ⟨RX0, "repeat", "(I)V"⟩
abbrev cX0_hasHeard : ByteArray := prog_2_method_6_code
def yX0_hasHeard : MethodName := ⟨RX0, "hasHeard", "(I)Z"⟩
abbrev cX0_hear : ByteArray := prog_2_method_7_code
def yX0_hear : MethodName := ⟨RX0, "hear", "(IZ)V"⟩
abbrev cX0_verdicts : ByteArray := prog_2_method_8_code
def yX0_verdicts : MethodName := ⟨RX0, "verdicts", "()I"⟩
abbrev cX0_nodeFor : ByteArray := prog_2_method_9_code
def yX0_nodeFor : MethodName := ⟨RX0, "nodeFor", "(I)LCryOrder$Node;"⟩
abbrev cX0_score : ByteArray := prog_2_method_10_code
def yX0_score : MethodName := ⟨RX0, "score", "(I)I"⟩
abbrev cX0_head : ByteArray := prog_2_method_11_code
def yX0_head : MethodName := ⟨RX0, "head", "()LCryOrder$Alarm;"⟩
abbrev cX0_joinCaseOf : ByteArray := prog_2_method_12_code
def yX0_joinCaseOf : MethodName := ⟨RX0, "joinCaseOf", "(LCryOrder$Alarm;)V"⟩
def RX1 : String := "CryOrder$Case"
def TX1 : u_T := fun k => match k with
  | 0 => ("CryOrder$Case", "number", "I", true)
  | 1 => ("CryOrder$Case", "size", "I", false)
  | 2 => ("CryOrder$Case", "score", "I", false)
  | _ => ("CryOrder$Case", "littleKnown", "Z", false)
def tyX1 : Nat → FieldType := fun k => match k with
  | 0 => .int
  | 1 => .int
  | 2 => .int
  | _ => .boolean
abbrev wsX10 : List Cond := u_ws RX1 TX1 4
theorem nmX1 : ∀ a, a < 4 → ∀ b, b < 4 → a ≠ b → (TX1 a).2.1 ≠ (TX1 b).2.1 := by decide +kernel
theorem tyX1_ok : ∀ k, k < 4 → parseFieldDescriptor (TX1 k).2.2.1 = some (tyX1 k) := by decide +kernel
abbrev cX1_init : ByteArray := prog_3_method_1_code
def yX1_init : MethodName := ⟨RX1, "<init>", "(I)V"⟩
abbrev cX1_clear : ByteArray := prog_3_method_2_code
def yX1_clear : MethodName := ⟨RX1, "clear", "()V"⟩
abbrev cX1_add : ByteArray := prog_3_method_3_code
def yX1_add : MethodName := ⟨RX1, "add", "(II)V"⟩
abbrev cX1_minutes : ByteArray := prog_3_method_4_code
def yX1_minutes : MethodName := ⟨RX1, "minutes", "()I"⟩
abbrev cX1_isAheadOf : ByteArray := prog_3_method_5_code
def yX1_isAheadOf : MethodName := ⟨RX1, "isAheadOf", "(LCryOrder$Case;)Z"⟩
def RX2 : String := "CryOrder$Cases"
def TX2 : u_T := fun k => match k with
  | 0 => ("CryOrder$Cases", "ordered", "[LCryOrder$Case;", true)
  | _ => ("CryOrder$Cases", "size", "I", false)
def tyX2 : Nat → FieldType := fun k => match k with
  | 0 => .array (.object "CryOrder$Case")
  | _ => .int
abbrev wsX20 : List Cond := u_ws RX2 TX2 2
theorem nmX2 : ∀ a, a < 2 → ∀ b, b < 2 → a ≠ b → (TX2 a).2.1 ≠ (TX2 b).2.1 := by decide +kernel
theorem tyX2_ok : ∀ k, k < 2 → parseFieldDescriptor (TX2 k).2.2.1 = some (tyX2 k) := by decide +kernel
abbrev cX2_init : ByteArray := prog_4_method_1_code
def yX2_init : MethodName := ⟨RX2, "<init>", "()V"⟩
abbrev cX2_gather : ByteArray := prog_4_method_2_code
def yX2_gather : MethodName := ⟨RX2, "gather", "([LCryOrder$Alarm;ILCryOrder$Ties;I)V"⟩
abbrev cX2_at : ByteArray := prog_4_method_3_code
def yX2_at : MethodName := ⟨RX2, "at", "(I)LCryOrder$Case;"⟩
abbrev cX2_scoreOfAll : ByteArray := prog_4_method_4_code
def yX2_scoreOfAll : MethodName := ⟨RX2, "scoreOfAll", "()I"⟩
abbrev cX2_joinWithSoonerOnes : ByteArray := prog_4_method_5_code
def yX2_joinWithSoonerOnes : MethodName := ⟨RX2, "joinWithSoonerOnes", "(LCryOrder$Alarm;LCryOrder$Ties;)V"⟩
abbrev cX2_joinToldOnes : ByteArray := prog_4_method_6_code
def yX2_joinToldOnes : MethodName := ⟨RX2, "joinToldOnes", "([LCryOrder$Alarm;ILCryOrder$Ties;)V"⟩
abbrev cX2_fillCases : ByteArray := prog_4_method_7_code
def yX2_fillCases : MethodName := ⟨RX2, "fillCases", "([LCryOrder$Alarm;II)V"⟩
abbrev cX2_putInOrder : ByteArray := prog_4_method_8_code
def yX2_putInOrder : MethodName := ⟨RX2, "putInOrder", "([LCryOrder$Alarm;I)V"⟩
abbrev cX2_putInPlace : ByteArray := prog_4_method_9_code
def yX2_putInPlace : MethodName := ⟨RX2, "putInPlace", "(LCryOrder$Case;)V"⟩
def RX3 : String := "CryOrder$Node"
def TX3 : u_T := fun k => match k with
  | 0 => ("CryOrder$Node", "parent", "LCryOrder$Node;", true)
  | 1 => ("CryOrder$Node", "depth", "I", true)
  | 2 => ("CryOrder$Node", "mark", "I", true)
  | 3 => ("CryOrder$Node", "sibling", "LCryOrder$Node;", true)
  | 4 => ("CryOrder$Node", "firstChild", "LCryOrder$Node;", false)
  | 5 => ("CryOrder$Node", "settledTrue", "I", false)
  | 6 => ("CryOrder$Node", "settled", "I", false)
  | _ => ("CryOrder$Node", "open", "I", false)
def tyX3 : Nat → FieldType := fun k => match k with
  | 0 => .object "CryOrder$Node"
  | 1 => .int
  | 2 => .int
  | 3 => .object "CryOrder$Node"
  | 4 => .object "CryOrder$Node"
  | 5 => .int
  | 6 => .int
  | _ => .int
abbrev wsX30 : List Cond := u_ws RX3 TX3 8
theorem nmX3 : ∀ a, a < 8 → ∀ b, b < 8 → a ≠ b → (TX3 a).2.1 ≠ (TX3 b).2.1 := by decide +kernel
theorem tyX3_ok : ∀ k, k < 8 → parseFieldDescriptor (TX3 k).2.2.1 = some (tyX3 k) := by decide +kernel
abbrev cX3_init : ByteArray := prog_5_method_1_code
def yX3_init : MethodName := ⟨RX3, "<init>", "(LCryOrder$Node;ILCryOrder$Node;)V"⟩
abbrev cX3_markAt : ByteArray := prog_5_method_2_code
def yX3_markAt : MethodName := ⟨RX3, "markAt", "(II)I"⟩
abbrev cX3_child : ByteArray := prog_5_method_3_code
def yX3_child : MethodName := ⟨RX3, "child", "(I)LCryOrder$Node;"⟩
abbrev cX3_find : ByteArray := prog_5_method_4_code
def yX3_find : MethodName := ⟨RX3, "find", "(II)LCryOrder$Node;"⟩
abbrev cX3_grow : ByteArray := prog_5_method_5_code
def yX3_grow : MethodName := ⟨RX3, "grow", "(I)LCryOrder$Node;"⟩
abbrev cX3_addOpen : ByteArray := prog_5_method_6_code
def yX3_addOpen : MethodName := ⟨RX3, "addOpen", "()V"⟩
abbrev cX3_settle : ByteArray := prog_5_method_7_code
def yX3_settle : MethodName := ⟨RX3, "settle", "(Z)V"⟩
abbrev cX3_oddsUpper : ByteArray := prog_5_method_8_code
def yX3_oddsUpper : MethodName := ⟨RX3, "oddsUpper", "()I"⟩
abbrev cX3_oddsLower : ByteArray := prog_5_method_9_code
def yX3_oddsLower : MethodName := ⟨RX3, "oddsLower", "()I"⟩
def RX4 : String := "CryOrder$Pair"
def TX4 : u_T := fun k => match k with
  | 0 => ("CryOrder$Pair", "lesser", "I", true)
  | 1 => ("CryOrder$Pair", "greater", "I", true)
  | _ => ("CryOrder$Pair", "joined", "Z", false)
def tyX4 : Nat → FieldType := fun k => match k with
  | 0 => .int
  | 1 => .int
  | _ => .boolean
abbrev wsX40 : List Cond := u_ws RX4 TX4 3
theorem nmX4 : ∀ a, a < 3 → ∀ b, b < 3 → a ≠ b → (TX4 a).2.1 ≠ (TX4 b).2.1 := by decide +kernel
theorem tyX4_ok : ∀ k, k < 3 → parseFieldDescriptor (TX4 k).2.2.1 = some (tyX4 k) := by decide +kernel
abbrev cX4_init : ByteArray := prog_6_method_1_code
def yX4_init : MethodName := ⟨RX4, "<init>", "(IIZ)V"⟩
def RX5 : String := "CryOrder$Plan"
def TX5 : u_T := fun k => match k with
  | 0 => ("CryOrder$Plan", "taken", "[LCryOrder$Case;", true)
  | 1 => ("CryOrder$Plan", "pool", "[LCryOrder$Case;", true)
  | 2 => ("CryOrder$Plan", "best", "[I", true)
  | 3 => ("CryOrder$Plan", "needed", "[I", true)
  | 4 => ("CryOrder$Plan", "takenCount", "I", false)
  | 5 => ("CryOrder$Plan", "poolCount", "I", false)
  | 6 => ("CryOrder$Plan", "scoreTaken", "I", false)
  | _ => ("CryOrder$Plan", "minutesLeft", "I", false)
def tyX5 : Nat → FieldType := fun k => match k with
  | 0 => .array (.object "CryOrder$Case")
  | 1 => .array (.object "CryOrder$Case")
  | 2 => .array .int
  | 3 => .array .int
  | 4 => .int
  | 5 => .int
  | 6 => .int
  | _ => .int
abbrev wsX50 : List Cond := u_ws RX5 TX5 8
theorem nmX5 : ∀ a, a < 8 → ∀ b, b < 8 → a ≠ b → (TX5 a).2.1 ≠ (TX5 b).2.1 := by decide +kernel
theorem tyX5_ok : ∀ k, k < 8 → parseFieldDescriptor (TX5 k).2.2.1 = some (tyX5 k) := by decide +kernel
abbrev cX5_init : ByteArray := prog_7_method_1_code
def yX5_init : MethodName := ⟨RX5, "<init>", "()V"⟩
abbrev cX5_make : ByteArray := prog_7_method_2_code
def yX5_make : MethodName := ⟨RX5, "make", "(LCryOrder$Cases;II)V"⟩
abbrev cX5_at : ByteArray := prog_7_method_3_code
def yX5_at : MethodName := ⟨RX5, "at", "(I)LCryOrder$Case;"⟩
abbrev cX5_take : ByteArray := prog_7_method_4_code
def yX5_take : MethodName := ⟨RX5, "take", "(LCryOrder$Case;)V"⟩
abbrev cX5_isTaken : ByteArray := prog_7_method_5_code
def yX5_isTaken : MethodName := ⟨RX5, "isTaken", "(LCryOrder$Case;)Z"⟩
abbrev cX5_takeTries : ByteArray := prog_7_method_6_code
def yX5_takeTries : MethodName := ⟨RX5, "takeTries", "(LCryOrder$Cases;I)V"⟩
abbrev cX5_fillPool : ByteArray := prog_7_method_7_code
def yX5_fillPool : MethodName := ⟨RX5, "fillPool", "(LCryOrder$Cases;)V"⟩
abbrev cX5_weighPool : ByteArray := prog_7_method_8_code
def yX5_weighPool : MethodName := ⟨RX5, "weighPool", "()V"⟩
abbrev cX5_takeBestOfPool : ByteArray := prog_7_method_9_code
def yX5_takeBestOfPool : MethodName := ⟨RX5, "takeBestOfPool", "()V"⟩
def RX6 : String := "CryOrder$Silence"
def TX6 : u_T := fun k => match k with
  | 0 => ("CryOrder$Silence", "source", "I", true)
  | 1 => ("CryOrder$Silence", "from", "I", true)
  | _ => ("CryOrder$Silence", "to", "I", true)
def tyX6 : Nat → FieldType := fun k => match k with
  | 0 => .int
  | 1 => .int
  | _ => .int
abbrev wsX60 : List Cond := u_ws RX6 TX6 3
theorem nmX6 : ∀ a, a < 3 → ∀ b, b < 3 → a ≠ b → (TX6 a).2.1 ≠ (TX6 b).2.1 := by decide +kernel
theorem tyX6_ok : ∀ k, k < 3 → parseFieldDescriptor (TX6 k).2.2.1 = some (tyX6 k) := by decide +kernel
abbrev cX6_init : ByteArray := prog_8_method_1_code
def yX6_init : MethodName := ⟨RX6, "<init>", "(III)V"⟩
abbrev cX6_covers : ByteArray := prog_8_method_2_code
def yX6_covers : MethodName := ⟨RX6, "covers", "(II)Z"⟩
def RX7 : String := "CryOrder$Ties"
def TX7 : u_T := fun k => match k with
  | 0 => ("CryOrder$Ties", "pairs", "[LCryOrder$Pair;", true)
  | _ => ("CryOrder$Ties", "size", "I", false)
def tyX7 : Nat → FieldType := fun k => match k with
  | 0 => .array (.object "CryOrder$Pair")
  | _ => .int
abbrev wsX70 : List Cond := u_ws RX7 TX7 2
theorem nmX7 : ∀ a, a < 2 → ∀ b, b < 2 → a ≠ b → (TX7 a).2.1 ≠ (TX7 b).2.1 := by decide +kernel
theorem tyX7_ok : ∀ k, k < 2 → parseFieldDescriptor (TX7 k).2.2.1 = some (tyX7 k) := by decide +kernel
abbrev cX7_init : ByteArray := prog_9_method_1_code
def yX7_init : MethodName := ⟨RX7, "<init>", "()V"⟩
abbrev cX7_find : ByteArray := prog_9_method_2_code
def yX7_find : MethodName := ⟨RX7, "find", "(II)LCryOrder$Pair;"⟩
abbrev cX7_tell : ByteArray := prog_9_method_3_code
def yX7_tell : MethodName := ⟨RX7, "tell", "(IIZ)Z"⟩
abbrev cX7_isParted : ByteArray := prog_9_method_4_code
def yX7_isParted : MethodName := ⟨RX7, "isParted", "(II)Z"⟩
def RX8 : String := "CryOrder"
def TX8 : u_T := fun k => match k with
  | 0 => ("CryOrder", "alarms", "[LCryOrder$Alarm;", true)
  | 1 => ("CryOrder", "latestOfThing", "[LCryOrder$Alarm;", true)
  | 2 => ("CryOrder", "silences", "[LCryOrder$Silence;", true)
  | 3 => ("CryOrder", "root", "LCryOrder$Node;", true)
  | 4 => ("CryOrder", "ties", "LCryOrder$Ties;", true)
  | 5 => ("CryOrder", "cases", "LCryOrder$Cases;", true)
  | 6 => ("CryOrder", "planner", "LCryOrder$Plan;", true)
  | 7 => ("CryOrder", "alarmCount", "I", false)
  | 8 => ("CryOrder", "silenceCount", "I", false)
  | 9 => ("CryOrder", "now", "I", false)
  | 10 => ("CryOrder", "cap", "I", false)
  | 11 => ("CryOrder", "leastSettled", "I", false)
  | 12 => ("CryOrder", "tries", "I", false)
  | _ => ("CryOrder", "casesAreStale", "Z", false)
def tyX8 : Nat → FieldType := fun k => match k with
  | 0 => .array (.object "CryOrder$Alarm")
  | 1 => .array (.object "CryOrder$Alarm")
  | 2 => .array (.object "CryOrder$Silence")
  | 3 => .object "CryOrder$Node"
  | 4 => .object "CryOrder$Ties"
  | 5 => .object "CryOrder$Cases"
  | 6 => .object "CryOrder$Plan"
  | 7 => .int
  | 8 => .int
  | 9 => .int
  | 10 => .int
  | 11 => .int
  | 12 => .int
  | _ => .boolean
abbrev wsX80 : List Cond := u_ws RX8 TX8 14
theorem nmX8 : ∀ a, a < 14 → ∀ b, b < 14 → a ≠ b → (TX8 a).2.1 ≠ (TX8 b).2.1 := by decide +kernel
theorem tyX8_ok : ∀ k, k < 14 → parseFieldDescriptor (TX8 k).2.2.1 = some (tyX8 k) := by decide +kernel
abbrev cX8_init : ByteArray := prog_1_method_1_code
def yX8_init : MethodName := ⟨RX8, "<init>", "()V"⟩
abbrev cX8_pass : ByteArray := prog_1_method_2_code
def yX8_pass : MethodName := ⟨RX8, "pass", "(I)I"⟩
abbrev cX8_alarm : ByteArray := prog_1_method_3_code
def yX8_alarm : MethodName := ⟨RX8, "alarm", "(IIII)I"⟩
abbrev cX8_silence : ByteArray := prog_1_method_4_code
def yX8_silence : MethodName := ⟨RX8, "silence", "(III)I"⟩
abbrev cX8_set : ByteArray := prog_1_method_5_code
def yX8_set : MethodName := ⟨RX8, "set", "(II)Z"⟩
abbrev cX8_verdict : ByteArray := prog_1_method_6_code
def yX8_verdict : MethodName := ⟨RX8, "verdict", "(IIZ)I"⟩
abbrev cX8_tie : ByteArray := prog_1_method_7_code
def yX8_tie : MethodName := ⟨RX8, "tie", "(IIZ)Z"⟩
abbrev cX8_told : ByteArray := prog_1_method_8_code
def yX8_told : MethodName := ⟨RX8, "told", "(II)I"⟩
abbrev cX8_node : ByteArray := prog_1_method_9_code
def yX8_node : MethodName := ⟨RX8, "node", "(III)I"⟩
abbrev cX8_odds : ByteArray := prog_1_method_10_code
def yX8_odds : MethodName := ⟨RX8, "odds", "(II)I"⟩
abbrev cX8_order : ByteArray := prog_1_method_11_code
def yX8_order : MethodName := ⟨RX8, "order", "(I)I"⟩
abbrev cX8_caseOf : ByteArray := prog_1_method_12_code
def yX8_caseOf : MethodName := ⟨RX8, "caseOf", "(II)I"⟩
abbrev cX8_slow : ByteArray := prog_1_method_13_code
def yX8_slow : MethodName := ⟨RX8, "slow", "(I)I"⟩
abbrev cX8_plan : ByteArray := prog_1_method_14_code
def yX8_plan : MethodName := ⟨RX8, "plan", "(II)I"⟩
abbrev cX8_worth : ByteArray := prog_1_method_15_code
def yX8_worth : MethodName := ⟨RX8, "worth", "(II)I"⟩
abbrev cX8_source : ByteArray := prog_1_method_16_code
def yX8_source : MethodName := ⟨RX8, "source", "(II)I"⟩
abbrev cX8_count : ByteArray := prog_1_method_17_code
def yX8_count : MethodName := ⟨RX8, "count", "(I)I"⟩
abbrev cX8_isBelow : ByteArray := prog_1_method_18_code
def yX8_isBelow : MethodName := ⟨RX8, "isBelow", "(II)Z"⟩
abbrev cX8_oneIf : ByteArray := prog_1_method_19_code
def yX8_oneIf : MethodName := ⟨RX8, "oneIf", "(Z)I"⟩
abbrev cX8_inLowestTerms : ByteArray := prog_1_method_20_code
def yX8_inLowestTerms : MethodName := ⟨RX8, "inLowestTerms", "(IIZ)I"⟩
abbrev cX8_isOfKind : ByteArray := prog_1_method_21_code
def yX8_isOfKind : MethodName := ⟨RX8, "isOfKind", "(LCryOrder$Alarm;I)Z"⟩
abbrev cX8_alarmAt : ByteArray := prog_1_method_22_code
def yX8_alarmAt : MethodName := ⟨RX8, "alarmAt", "(I)LCryOrder$Alarm;"⟩
abbrev cX8_alarmToRepeat : ByteArray := prog_1_method_23_code
def yX8_alarmToRepeat : MethodName := ⟨RX8, "alarmToRepeat", "(III)LCryOrder$Alarm;"⟩
abbrev cX8_isSilencedNow : ByteArray := prog_1_method_24_code
def yX8_isSilencedNow : MethodName := ⟨RX8, "isSilencedNow", "(I)Z"⟩
abbrev cX8_isCapFullNow : ByteArray := prog_1_method_25_code
def yX8_isCapFullNow : MethodName := ⟨RX8, "isCapFullNow", "(I)Z"⟩
abbrev cX8_casesNow : ByteArray := prog_1_method_26_code
def yX8_casesNow : MethodName := ⟨RX8, "casesNow", "()LCryOrder$Cases;"⟩
abbrev cX8_caseNumberOf : ByteArray := prog_1_method_27_code
def yX8_caseNumberOf : MethodName := ⟨RX8, "caseNumberOf", "(LCryOrder$Alarm;)I"⟩
abbrev cX8_memberOf : ByteArray := prog_1_method_28_code
def yX8_memberOf : MethodName := ⟨RX8, "memberOf", "(LCryOrder$Alarm;I)I"⟩
def RX9 : String := "CryOrderModel"
def TX9 : u_T := fun k => match k with
  | 0 => ("CryOrderModel", "now", "I", false)
  | 1 => ("CryOrderModel", "alarms", "I", false)
  | 2 => ("CryOrderModel", "silences", "I", false)
  | 3 => ("CryOrderModel", "ties", "I", false)
  | 4 => ("CryOrderModel", "cap", "I", false)
  | 5 => ("CryOrderModel", "needs", "I", false)
  | 6 => ("CryOrderModel", "tries", "I", false)
  | 7 => ("CryOrderModel", "came", "[I", true)
  | 8 => ("CryOrderModel", "last", "[I", true)
  | 9 => ("CryOrderModel", "source", "[I", true)
  | 10 => ("CryOrderModel", "thing", "[I", true)
  | 11 => ("CryOrderModel", "marks", "[I", true)
  | 12 => ("CryOrderModel", "worth", "[I", true)
  | 13 => ("CryOrderModel", "repeats", "[I", true)
  | 14 => ("CryOrderModel", "state", "[I", true)
  | 15 => ("CryOrderModel", "saidTrue", "[I", true)
  | 16 => ("CryOrderModel", "saidFalse", "[I", true)
  | 17 => ("CryOrderModel", "isSilenced", "[Z", true)
  | 18 => ("CryOrderModel", "isCapped", "[Z", true)
  | 19 => ("CryOrderModel", "silenced", "[I", true)
  | 20 => ("CryOrderModel", "from", "[I", true)
  | 21 => ("CryOrderModel", "to", "[I", true)
  | 22 => ("CryOrderModel", "tieA", "[I", true)
  | 23 => ("CryOrderModel", "tieB", "[I", true)
  | 24 => ("CryOrderModel", "isJoined", "[Z", true)
  | 25 => ("CryOrderModel", "trues", "I", false)
  | 26 => ("CryOrderModel", "settled", "I", false)
  | 27 => ("CryOrderModel", "opens", "I", false)
  | 28 => ("CryOrderModel", "caseNumber", "[I", true)
  | 29 => ("CryOrderModel", "scores", "[I", true)
  | 30 => ("CryOrderModel", "order", "[I", true)
  | 31 => ("CryOrderModel", "cases", "I", false)
  | 32 => ("CryOrderModel", "taken", "[I", true)
  | 33 => ("CryOrderModel", "rest", "[I", true)
  | 34 => ("CryOrderModel", "takenMany", "I", false)
  | 35 => ("CryOrderModel", "restMinutes", "[I", true)
  | _ => ("CryOrderModel", "restScores", "[I", true)
def tyX9 : Nat → FieldType := fun k => match k with
  | 0 => .int
  | 1 => .int
  | 2 => .int
  | 3 => .int
  | 4 => .int
  | 5 => .int
  | 6 => .int
  | 7 => .array .int
  | 8 => .array .int
  | 9 => .array .int
  | 10 => .array .int
  | 11 => .array .int
  | 12 => .array .int
  | 13 => .array .int
  | 14 => .array .int
  | 15 => .array .int
  | 16 => .array .int
  | 17 => .array .boolean
  | 18 => .array .boolean
  | 19 => .array .int
  | 20 => .array .int
  | 21 => .array .int
  | 22 => .array .int
  | 23 => .array .int
  | 24 => .array .boolean
  | 25 => .int
  | 26 => .int
  | 27 => .int
  | 28 => .array .int
  | 29 => .array .int
  | 30 => .array .int
  | 31 => .int
  | 32 => .array .int
  | 33 => .array .int
  | 34 => .int
  | 35 => .array .int
  | _ => .array .int
abbrev wsX90 : List Cond := u_ws RX9 TX9 37
theorem nmX9 : ∀ a, a < 37 → ∀ b, b < 37 → a ≠ b → (TX9 a).2.1 ≠ (TX9 b).2.1 := by decide +kernel
theorem tyX9_ok : ∀ k, k < 37 → parseFieldDescriptor (TX9 k).2.2.1 = some (tyX9 k) := by decide +kernel
abbrev cX9_init : ByteArray := prog_11_method_1_code
def yX9_init : MethodName := ⟨RX9, "<init>", "()V"⟩
abbrev cX9_isIn : ByteArray := prog_11_method_2_code
def yX9_isIn : MethodName := ⟨RX9, "isIn", "(III)Z"⟩
abbrev cX9_one : ByteArray := prog_11_method_3_code
def yX9_one : MethodName := ⟨RX9, "one", "(Z)I"⟩
abbrev cX9_isAlarm : ByteArray := prog_11_method_4_code
def yX9_isAlarm : MethodName := ⟨RX9, "isAlarm", "(I)Z"⟩
abbrev cX9_pass : ByteArray := prog_11_method_5_code
def yX9_pass : MethodName := ⟨RX9, "pass", "(I)I"⟩
abbrev cX9_isLive : ByteArray := prog_11_method_6_code
def yX9_isLive : MethodName := ⟨RX9, "isLive", "(I)Z"⟩
abbrev cX9_alarm : ByteArray := prog_11_method_7_code
def yX9_alarm : MethodName := ⟨RX9, "alarm", "(IIII)I"⟩
abbrev cX9_silence : ByteArray := prog_11_method_8_code
def yX9_silence : MethodName := ⟨RX9, "silence", "(III)I"⟩
abbrev cX9_set : ByteArray := prog_11_method_9_code
def yX9_set : MethodName := ⟨RX9, "set", "(II)Z"⟩
abbrev cX9_many : ByteArray := prog_11_method_10_code
def yX9_many : MethodName := ⟨RX9, "many", "(I)I"⟩
abbrev cX9_verdict : ByteArray := prog_11_method_11_code
def yX9_verdict : MethodName := ⟨RX9, "verdict", "(IIZ)I"⟩
abbrev cX9_tieOf : ByteArray := prog_11_method_12_code
def yX9_tieOf : MethodName := ⟨RX9, "tieOf", "(II)I"⟩
abbrev cX9_tie : ByteArray := prog_11_method_13_code
def yX9_tie : MethodName := ⟨RX9, "tie", "(IIZ)Z"⟩
abbrev cX9_counts : ByteArray := prog_11_method_14_code
def yX9_counts : MethodName := ⟨RX9, "counts", "(II)V"⟩
abbrev cX9_depth : ByteArray := prog_11_method_15_code
def yX9_depth : MethodName := ⟨RX9, "depth", "(I)I"⟩
abbrev cX9_score : ByteArray := prog_11_method_16_code
def yX9_score : MethodName := ⟨RX9, "score", "(I)I"⟩
abbrev cX9_node : ByteArray := prog_11_method_17_code
def yX9_node : MethodName := ⟨RX9, "node", "(III)I"⟩
abbrev cX9_odds : ByteArray := prog_11_method_18_code
def yX9_odds : MethodName := ⟨RX9, "odds", "(II)I"⟩
abbrev cX9_hangs : ByteArray := prog_11_method_19_code
def yX9_hangs : MethodName := ⟨RX9, "hangs", "(II)Z"⟩
abbrev cX9_joins : ByteArray := prog_11_method_20_code
def yX9_joins : MethodName := ⟨RX9, "joins", "()V"⟩
abbrev cX9_scoreOf : ByteArray := prog_11_method_21_code
def yX9_scoreOf : MethodName := ⟨RX9, "scoreOf", "(I)I"⟩
abbrev cX9_sizeOf : ByteArray := prog_11_method_22_code
def yX9_sizeOf : MethodName := ⟨RX9, "sizeOf", "(I)I"⟩
abbrev cX9_minutesOf : ByteArray := prog_11_method_23_code
def yX9_minutesOf : MethodName := ⟨RX9, "minutesOf", "(I)I"⟩
abbrev cX9_isLittleKnown : ByteArray := prog_11_method_24_code
def yX9_isLittleKnown : MethodName := ⟨RX9, "isLittleKnown", "(I)Z"⟩
abbrev cX9_told : ByteArray := prog_11_method_25_code
def yX9_told : MethodName := ⟨RX9, "told", "(II)I"⟩
abbrev cX9_order : ByteArray := prog_11_method_26_code
def yX9_order : MethodName := ⟨RX9, "order", "(I)I"⟩
abbrev cX9_caseOf : ByteArray := prog_11_method_27_code
def yX9_caseOf : MethodName := ⟨RX9, "caseOf", "(II)I"⟩
abbrev cX9_slow : ByteArray := prog_11_method_28_code
def yX9_slow : MethodName := ⟨RX9, "slow", "(I)I"⟩
abbrev cX9_isTaken : ByteArray := prog_11_method_29_code
def yX9_isTaken : MethodName := ⟨RX9, "isTaken", "(I)Z"⟩
abbrev cX9_plans : ByteArray := prog_11_method_30_code
def yX9_plans : MethodName := ⟨RX9, "plans", "(I)V"⟩
abbrev cX9_isPlan : ByteArray := prog_11_method_31_code
def yX9_isPlan : MethodName := ⟨RX9, "isPlan", "(I)Z"⟩
abbrev cX9_plan : ByteArray := prog_11_method_32_code
def yX9_plan : MethodName := ⟨RX9, "plan", "(II)I"⟩
abbrev cX9_worth : ByteArray := prog_11_method_33_code
def yX9_worth : MethodName := ⟨RX9, "worth", "(II)I"⟩
abbrev cX9_source : ByteArray := prog_11_method_34_code
def yX9_source : MethodName := ⟨RX9, "source", "(II)I"⟩
abbrev cX9_count : ByteArray := prog_11_method_35_code
def yX9_count : MethodName := ⟨RX9, "count", "(I)I"⟩
def RJ6 : String := "java/lang/Integer"
def TJ6 : u_T := fun k => match k with
  | _ => ("", "", "", false)
def tyJ6 : Nat → FieldType := fun k => match k with
  | _ => .int
abbrev wsJ60 : List Cond := u_ws RJ6 TJ6 0
theorem nmJ6 : ∀ a, a < 0 → ∀ b, b < 0 → a ≠ b → (TJ6 a).2.1 ≠ (TJ6 b).2.1 := by decide +kernel
theorem tyJ6_ok : ∀ k, k < 0 → parseFieldDescriptor (TJ6 k).2.2.1 = some (tyJ6 k) := by decide +kernel
abbrev cJ6_bitCount_0f7a4 : ByteArray := prog_12_method_49_code
def yJ6_bitCount_0f7a4 : MethodName := ⟨RJ6, "bitCount", "(I)I"⟩
def RJ9 : String := "java/lang/Math"
def TJ9 : u_T := fun k => match k with
  | _ => ("", "", "", false)
def tyJ9 : Nat → FieldType := fun k => match k with
  | _ => .int
abbrev wsJ90 : List Cond := u_ws RJ9 TJ9 0
theorem nmJ9 : ∀ a, a < 0 → ∀ b, b < 0 → a ≠ b → (TJ9 a).2.1 ≠ (TJ9 b).2.1 := by decide +kernel
theorem tyJ9_ok : ∀ k, k < 0 → parseFieldDescriptor (TJ9 k).2.2.1 = some (tyJ9 k) := by decide +kernel
abbrev cJ9_abs_0f7a4 : ByteArray := prog_13_method_59_code
def yJ9_abs_0f7a4 : MethodName := ⟨RJ9, "abs", "(I)I"⟩
abbrev cJ9_max_7cf53 : ByteArray := prog_13_method_65_code
def yJ9_max_7cf53 : MethodName := ⟨RJ9, "max", "(II)I"⟩
abbrev cJ9_min_7cf53 : ByteArray := prog_13_method_69_code
def yJ9_min_7cf53 : MethodName := ⟨RJ9, "min", "(II)I"⟩
def RL : String := "CryOrderLaw"
abbrev cL_law : ByteArray := code
def yL_law : MethodName := ⟨RL, "law", "([I)Z"⟩
def wsX1_init : List Cond := .code yX1_init cX1_init 2 none :: ([.methodLink RX1 1 objectInit, .instanceMethod objectInit, .code objectInit ⟨#[0xb1]⟩ 1 none, .fieldLink RX1 7 "CryOrder$Case" "number" "I"] ++ wsX10)
def wsX0_init : List Cond := .code yX0_init cX0_init 8 none :: ([.methodLink RX0 3 objectInit, .instanceMethod objectInit, .code objectInit ⟨#[0xb1]⟩ 1 none, .fieldLink RX0 9 "CryOrder$Alarm" "state" "I", .fieldLink RX0 15 "CryOrder$Alarm" "number" "I", .fieldLink RX0 18 "CryOrder$Alarm" "came" "I", .fieldLink RX0 21 "CryOrder$Alarm" "source" "I", .fieldLink RX0 24 "CryOrder$Alarm" "thing" "I", .fieldLink RX0 27 "CryOrder$Alarm" "marks" "I", .fieldLink RX0 30 "CryOrder$Alarm" "worth" "I", .fieldLink RX0 33 "CryOrder$Alarm" "leaf" "LCryOrder$Node;", .classLink RX0 37 RX1, .instantiable RX1 4, .initialized RX1, .fieldLink RX0 42 "CryOrder$Alarm" "led" "LCryOrder$Case;", .fieldLink RX0 46 "CryOrder$Alarm" "heardLast" "I", .methodLink RX0 39 yX1_init, .instanceMethod yX1_init, .code yX1_init cX1_init 2 none, .methodLink RX1 1 objectInit, .fieldLink RX1 7 "CryOrder$Case" "number" "I"] ++ wsX00 ++ wsX10)
def wsX0_isOpen : List Cond := .code yX0_isOpen cX0_isOpen 1 (some .boolean) :: ([.fieldLink RX0 9 "CryOrder$Alarm" "state" "I"] ++ wsX00)
def wsX0_isHushed : List Cond := .code yX0_isHushed cX0_isHushed 1 (some .boolean) :: ([.fieldLink RX0 49 "CryOrder$Alarm" "silenced" "Z", .fieldLink RX0 53 "CryOrder$Alarm" "capped" "Z"] ++ wsX00)
def wsX0_isLive : List Cond := .code yX0_isLive cX0_isLive 1 (some .boolean) :: ([.methodLink RX0 56 yX0_isOpen, .instanceMethod yX0_isOpen, .selects RX0 yX0_isOpen yX0_isOpen, .initialized RX0, .code yX0_isOpen cX0_isOpen 1 (some .boolean), .fieldLink RX0 9 "CryOrder$Alarm" "state" "I", .methodLink RX0 60 yX0_isHushed, .instanceMethod yX0_isHushed, .selects RX0 yX0_isHushed yX0_isHushed, .code yX0_isHushed cX0_isHushed 1 (some .boolean), .fieldLink RX0 49 "CryOrder$Alarm" "silenced" "Z", .fieldLink RX0 53 "CryOrder$Alarm" "capped" "Z"] ++ wsX00)
def wsX0_repeat : List Cond := .code yX0_repeat cX0_repeat 2 none :: ([.fieldLink RX0 63 "CryOrder$Alarm" "repeats" "I", .fieldLink RX0 46 "CryOrder$Alarm" "heardLast" "I"] ++ wsX00)
def wsX0_hasHeard : List Cond := .code yX0_hasHeard cX0_hasHeard 2 (some .boolean) :: ([.fieldLink RX0 66 "CryOrder$Alarm" "lookersForTrue" "I", .fieldLink RX0 69 "CryOrder$Alarm" "lookersForFalse" "I"] ++ wsX00)
def wsJ6_bitCount_0f7a4 : List Cond := .code yJ6_bitCount_0f7a4 cJ6_bitCount_0f7a4 1 (some .int) :: ([.constant RJ6 265 (1431655765), .constant RJ6 266 (858993459), .constant RJ6 267 (252645135)])
def wsX0_hear : List Cond := .code yX0_hear cX0_hear 3 none :: ([.fieldLink RX0 66 "CryOrder$Alarm" "lookersForTrue" "I", .fieldLink RX0 69 "CryOrder$Alarm" "lookersForFalse" "I", .fieldLink RX0 9 "CryOrder$Alarm" "state" "I", .methodLink RX0 72 yJ6_bitCount_0f7a4, .static yJ6_bitCount_0f7a4, .initialized RJ6, .code yJ6_bitCount_0f7a4 cJ6_bitCount_0f7a4 1 (some .int), .constant RJ6 265 (1431655765), .constant RJ6 266 (858993459), .constant RJ6 267 (252645135)] ++ wsX00)
def wsX0_verdicts : List Cond := .code yX0_verdicts cX0_verdicts 1 (some .int) :: ([.fieldLink RX0 66 "CryOrder$Alarm" "lookersForTrue" "I", .fieldLink RX0 69 "CryOrder$Alarm" "lookersForFalse" "I", .methodLink RX0 72 yJ6_bitCount_0f7a4, .static yJ6_bitCount_0f7a4, .initialized RJ6, .code yJ6_bitCount_0f7a4 cJ6_bitCount_0f7a4 1 (some .int), .constant RJ6 265 (1431655765), .constant RJ6 266 (858993459), .constant RJ6 267 (252645135)] ++ wsX00)
def wsX0_nodeFor : List Cond := .code yX0_nodeFor cX0_nodeFor 3 (some (.object "CryOrder$Node")) :: ([.fieldLink RX0 33 "CryOrder$Alarm" "leaf" "LCryOrder$Node;", .fieldLink RX0 78 "CryOrder$Node" "settled" "I", .fieldLink RX0 83 "CryOrder$Node" "parent" "LCryOrder$Node;"] ++ wsX00 ++ wsX30)
def wsX3_oddsLower : List Cond := .code yX3_oddsLower cX3_oddsLower 1 (some .int) :: ([.fieldLink RX3 42 "CryOrder$Node" "settled" "I"] ++ wsX30)
def wsX3_oddsUpper : List Cond := .code yX3_oddsUpper cX3_oddsUpper 1 (some .int) :: ([.fieldLink RX3 42 "CryOrder$Node" "settled" "I", .fieldLink RX3 45 "CryOrder$Node" "settledTrue" "I"] ++ wsX30)
def wsX0_score : List Cond := .code yX0_score cX0_score 4 (some .int) :: ([.fieldLink RX0 30 "CryOrder$Alarm" "worth" "I", .methodLink RX0 86 yX0_nodeFor, .instanceMethod yX0_nodeFor, .selects RX0 yX0_nodeFor yX0_nodeFor, .initialized RX0, .code yX0_nodeFor cX0_nodeFor 3 (some (.object "CryOrder$Node")), .fieldLink RX0 33 "CryOrder$Alarm" "leaf" "LCryOrder$Node;", .fieldLink RX0 78 "CryOrder$Node" "settled" "I", .fieldLink RX0 83 "CryOrder$Node" "parent" "LCryOrder$Node;", .methodLink RX0 90 yX3_oddsLower, .instanceMethod yX3_oddsLower, .selects RX3 yX3_oddsLower yX3_oddsLower, .initialized RX3, .code yX3_oddsLower cX3_oddsLower 1 (some .int), .fieldLink RX3 42 "CryOrder$Node" "settled" "I", .methodLink RX0 94 yX3_oddsUpper, .instanceMethod yX3_oddsUpper, .selects RX3 yX3_oddsUpper yX3_oddsUpper, .code yX3_oddsUpper cX3_oddsUpper 1 (some .int), .fieldLink RX3 45 "CryOrder$Node" "settledTrue" "I"] ++ wsX00 ++ wsX30)
def wsX0_head : List Cond := .code yX0_head cX0_head 2 (some (.object "CryOrder$Alarm")) :: ([.fieldLink RX0 97 "CryOrder$Alarm" "above" "LCryOrder$Alarm;"] ++ wsX00)
def wsX0_joinCaseOf : List Cond := .code yX0_joinCaseOf cX0_joinCaseOf 4 none :: ([.fieldLink RX0 15 "CryOrder$Alarm" "number" "I", .fieldLink RX0 97 "CryOrder$Alarm" "above" "LCryOrder$Alarm;", .methodLink RX0 101 yX0_head, .instanceMethod yX0_head, .selects RX0 yX0_head yX0_head, .initialized RX0, .code yX0_head cX0_head 2 (some (.object "CryOrder$Alarm"))] ++ wsX00)
def wsX1_clear : List Cond := .code yX1_clear cX1_clear 1 none :: ([.fieldLink RX1 13 "CryOrder$Case" "size" "I", .fieldLink RX1 16 "CryOrder$Case" "score" "I", .fieldLink RX1 19 "CryOrder$Case" "littleKnown" "Z"] ++ wsX10)
def wsX1_add : List Cond := .code yX1_add cX1_add 3 none :: ([.fieldLink RX1 13 "CryOrder$Case" "size" "I", .fieldLink RX1 16 "CryOrder$Case" "score" "I", .methodLink RX1 23 Lib.Math.max.name, .static Lib.Math.max.name, .initialized "java/lang/Math", .code Lib.Math.max.name Lib.Math.max.code 2 (some .int), .fieldLink RX1 19 "CryOrder$Case" "littleKnown" "Z"] ++ wsX10)
def wsX1_minutes : List Cond := .code yX1_minutes cX1_minutes 1 (some .int) :: ([.fieldLink RX1 13 "CryOrder$Case" "size" "I"] ++ wsX10)
def wsX1_isAheadOf : List Cond := .code yX1_isAheadOf cX1_isAheadOf 2 (some .boolean) :: ([.fieldLink RX1 16 "CryOrder$Case" "score" "I", .fieldLink RX1 7 "CryOrder$Case" "number" "I"] ++ wsX10)
def wsX2_init : List Cond := .code yX2_init cX2_init 1 none :: ([.methodLink RX2 3 objectInit, .instanceMethod objectInit, .code objectInit ⟨#[0xb1]⟩ 1 none, .classLink RX2 9 RX1, .fieldLink RX2 11 "CryOrder$Cases" "ordered" "[LCryOrder$Case;"] ++ wsX20)
def wsX7_find : List Cond := .code yX7_find cX7_find 6 (some (.object "CryOrder$Pair")) :: ([.methodLink RX7 17 Lib.Math.min.name, .static Lib.Math.min.name, .initialized "java/lang/Math", .code Lib.Math.min.name Lib.Math.min.code 2 (some .int), .methodLink RX7 23 Lib.Math.max.name, .static Lib.Math.max.name, .code Lib.Math.max.name Lib.Math.max.code 2 (some .int), .fieldLink RX7 26 "CryOrder$Ties" "size" "I", .fieldLink RX7 11 "CryOrder$Ties" "pairs" "[LCryOrder$Pair;", .fieldLink RX7 30 "CryOrder$Pair" "lesser" "I", .fieldLink RX7 33 "CryOrder$Pair" "greater" "I"] ++ wsX70 ++ wsX40)
def wsX7_isParted : List Cond := .code yX7_isParted cX7_isParted 4 (some .boolean) :: ([.fieldLink RX7 40 "CryOrder$Pair" "joined" "Z", .methodLink RX7 36 yX7_find, .instanceMethod yX7_find, .selects RX7 yX7_find yX7_find, .initialized RX7, .code yX7_find cX7_find 6 (some (.object "CryOrder$Pair")), .methodLink RX7 17 Lib.Math.min.name, .static Lib.Math.min.name, .initialized "java/lang/Math", .code Lib.Math.min.name Lib.Math.min.code 2 (some .int), .methodLink RX7 23 Lib.Math.max.name, .static Lib.Math.max.name, .code Lib.Math.max.name Lib.Math.max.code 2 (some .int), .fieldLink RX7 26 "CryOrder$Ties" "size" "I", .fieldLink RX7 11 "CryOrder$Ties" "pairs" "[LCryOrder$Pair;", .fieldLink RX7 30 "CryOrder$Pair" "lesser" "I", .fieldLink RX7 33 "CryOrder$Pair" "greater" "I"] ++ wsX40 ++ wsX70)
def wsX2_joinWithSoonerOnes_r1 : List Cond := [Cond.fieldLink RX2 61 "CryOrder$Alarm" "soonerOfThing" "LCryOrder$Alarm;", Cond.fieldLink RX2 64 "CryOrder$Alarm" "came" "I", Cond.fieldLink RX2 71 "CryOrder$Alarm" "number" "I", Cond.methodLink RX2 30 yX0_isLive, Cond.instanceMethod yX0_isLive, Cond.selects RX0 yX0_isLive yX0_isLive, Cond.initialized RX0, Cond.code yX0_isLive cX0_isLive 1 (some .boolean), Cond.methodLink RX0 56 yX0_isOpen, Cond.instanceMethod yX0_isOpen, Cond.selects RX0 yX0_isOpen yX0_isOpen, Cond.code yX0_isOpen cX0_isOpen 1 (some .boolean), Cond.fieldLink RX0 9 "CryOrder$Alarm" "state" "I", Cond.methodLink RX0 60 yX0_isHushed, Cond.instanceMethod yX0_isHushed, Cond.selects RX0 yX0_isHushed yX0_isHushed, Cond.code yX0_isHushed cX0_isHushed 1 (some .boolean), Cond.fieldLink RX0 49 "CryOrder$Alarm" "silenced" "Z", Cond.fieldLink RX0 53 "CryOrder$Alarm" "capped" "Z", Cond.methodLink RX2 67 yX0_head, Cond.instanceMethod yX0_head, Cond.selects RX0 yX0_head yX0_head, Cond.code yX0_head cX0_head 2 (some (.object "CryOrder$Alarm")), Cond.fieldLink RX0 97 "CryOrder$Alarm" "above" "LCryOrder$Alarm;"]
def wsX2_joinWithSoonerOnes_r2 : List Cond := [Cond.methodLink RX2 74 yX7_isParted, Cond.instanceMethod yX7_isParted, Cond.selects RX7 yX7_isParted yX7_isParted, Cond.initialized RX7, Cond.code yX7_isParted cX7_isParted 4 (some .boolean), Cond.fieldLink RX7 40 "CryOrder$Pair" "joined" "Z", Cond.methodLink RX7 36 yX7_find, Cond.instanceMethod yX7_find, Cond.selects RX7 yX7_find yX7_find, Cond.code yX7_find cX7_find 6 (some (.object "CryOrder$Pair")), Cond.methodLink RX7 17 Lib.Math.min.name, Cond.static Lib.Math.min.name, Cond.initialized "java/lang/Math", Cond.code Lib.Math.min.name Lib.Math.min.code 2 (some .int), Cond.methodLink RX7 23 Lib.Math.max.name, Cond.static Lib.Math.max.name, Cond.code Lib.Math.max.name Lib.Math.max.code 2 (some .int), Cond.fieldLink RX7 26 "CryOrder$Ties" "size" "I", Cond.fieldLink RX7 11 "CryOrder$Ties" "pairs" "[LCryOrder$Pair;", Cond.fieldLink RX7 30 "CryOrder$Pair" "lesser" "I", Cond.fieldLink RX7 33 "CryOrder$Pair" "greater" "I", Cond.methodLink RX2 79 yX0_joinCaseOf, Cond.instanceMethod yX0_joinCaseOf, Cond.selects RX0 yX0_joinCaseOf yX0_joinCaseOf]
def wsX2_joinWithSoonerOnes_r3 : List Cond := [Cond.code yX0_joinCaseOf cX0_joinCaseOf 4 none, Cond.fieldLink RX0 15 "CryOrder$Alarm" "number" "I", Cond.methodLink RX0 101 yX0_head]
def wsX2_joinWithSoonerOnes : List Cond := .code yX2_joinWithSoonerOnes cX2_joinWithSoonerOnes 3 none :: ((wsX2_joinWithSoonerOnes_r1 ++ (wsX2_joinWithSoonerOnes_r2 ++ wsX2_joinWithSoonerOnes_r3)) ++ wsX00 ++ wsX40 ++ wsX70)
def wsX8_isBelow : List Cond := .code yX8_isBelow cX8_isBelow 2 (some .boolean) :: ([])
def wsX2_joinToldOnes_r1 : List Cond := [Cond.fieldLink RX2 83 "CryOrder$Ties" "size" "I", Cond.fieldLink RX2 84 "CryOrder$Ties" "pairs" "[LCryOrder$Pair;", Cond.fieldLink RX2 88 "CryOrder$Pair" "joined" "Z", Cond.fieldLink RX2 94 "CryOrder$Pair" "lesser" "I", Cond.fieldLink RX2 97 "CryOrder$Pair" "greater" "I", Cond.static yX8_isBelow, Cond.initialized RX8, Cond.code yX8_isBelow cX8_isBelow 2 (some .boolean), Cond.methodLink RX2 30 yX0_isLive, Cond.instanceMethod yX0_isLive, Cond.selects RX0 yX0_isLive yX0_isLive, Cond.initialized RX0, Cond.code yX0_isLive cX0_isLive 1 (some .boolean), Cond.methodLink RX0 56 yX0_isOpen, Cond.instanceMethod yX0_isOpen, Cond.selects RX0 yX0_isOpen yX0_isOpen, Cond.code yX0_isOpen cX0_isOpen 1 (some .boolean), Cond.fieldLink RX0 9 "CryOrder$Alarm" "state" "I", Cond.methodLink RX0 60 yX0_isHushed, Cond.instanceMethod yX0_isHushed, Cond.selects RX0 yX0_isHushed yX0_isHushed, Cond.code yX0_isHushed cX0_isHushed 1 (some .boolean), Cond.fieldLink RX0 49 "CryOrder$Alarm" "silenced" "Z", Cond.fieldLink RX0 53 "CryOrder$Alarm" "capped" "Z"]
def wsX2_joinToldOnes_r2 : List Cond := [Cond.methodLink RX2 79 yX0_joinCaseOf, Cond.instanceMethod yX0_joinCaseOf, Cond.selects RX0 yX0_joinCaseOf yX0_joinCaseOf, Cond.code yX0_joinCaseOf cX0_joinCaseOf 4 none, Cond.fieldLink RX0 15 "CryOrder$Alarm" "number" "I", Cond.fieldLink RX0 97 "CryOrder$Alarm" "above" "LCryOrder$Alarm;", Cond.methodLink RX0 101 yX0_head, Cond.instanceMethod yX0_head, Cond.selects RX0 yX0_head yX0_head, Cond.code yX0_head cX0_head 2 (some (.object "CryOrder$Alarm"))]
def wsX2_joinToldOnes : List Cond := .code yX2_joinToldOnes cX2_joinToldOnes 5 none :: ((wsX2_joinToldOnes_r1 ++ wsX2_joinToldOnes_r2) ++ wsX70 ++ wsX40 ++ wsX00)
def wsX2_fillCases_r1 : List Cond := [Cond.fieldLink RX2 23 "CryOrder$Alarm" "led" "LCryOrder$Case;", Cond.fieldLink RX2 107 "CryOrder$Node" "depth" "I", Cond.methodLink RX2 30 yX0_isLive, Cond.instanceMethod yX0_isLive, Cond.selects RX0 yX0_isLive yX0_isLive, Cond.initialized RX0, Cond.code yX0_isLive cX0_isLive 1 (some .boolean), Cond.methodLink RX0 56 yX0_isOpen, Cond.instanceMethod yX0_isOpen, Cond.selects RX0 yX0_isOpen yX0_isOpen, Cond.code yX0_isOpen cX0_isOpen 1 (some .boolean), Cond.fieldLink RX0 9 "CryOrder$Alarm" "state" "I", Cond.methodLink RX0 60 yX0_isHushed, Cond.instanceMethod yX0_isHushed, Cond.selects RX0 yX0_isHushed yX0_isHushed, Cond.code yX0_isHushed cX0_isHushed 1 (some .boolean), Cond.fieldLink RX0 49 "CryOrder$Alarm" "silenced" "Z", Cond.fieldLink RX0 53 "CryOrder$Alarm" "capped" "Z", Cond.methodLink RX2 67 yX0_head, Cond.instanceMethod yX0_head, Cond.selects RX0 yX0_head yX0_head, Cond.code yX0_head cX0_head 2 (some (.object "CryOrder$Alarm")), Cond.fieldLink RX0 97 "CryOrder$Alarm" "above" "LCryOrder$Alarm;", Cond.methodLink RX2 100 yX0_score]
def wsX2_fillCases_r2 : List Cond := [Cond.instanceMethod yX0_score, Cond.selects RX0 yX0_score yX0_score, Cond.code yX0_score cX0_score 4 (some .int), Cond.fieldLink RX0 30 "CryOrder$Alarm" "worth" "I", Cond.methodLink RX0 86 yX0_nodeFor, Cond.instanceMethod yX0_nodeFor, Cond.selects RX0 yX0_nodeFor yX0_nodeFor, Cond.code yX0_nodeFor cX0_nodeFor 3 (some (.object "CryOrder$Node")), Cond.fieldLink RX0 33 "CryOrder$Alarm" "leaf" "LCryOrder$Node;", Cond.fieldLink RX0 78 "CryOrder$Node" "settled" "I", Cond.fieldLink RX0 83 "CryOrder$Node" "parent" "LCryOrder$Node;", Cond.methodLink RX0 90 yX3_oddsLower, Cond.instanceMethod yX3_oddsLower, Cond.selects RX3 yX3_oddsLower yX3_oddsLower, Cond.initialized RX3, Cond.code yX3_oddsLower cX3_oddsLower 1 (some .int), Cond.fieldLink RX3 42 "CryOrder$Node" "settled" "I", Cond.methodLink RX0 94 yX3_oddsUpper, Cond.instanceMethod yX3_oddsUpper, Cond.selects RX3 yX3_oddsUpper yX3_oddsUpper, Cond.code yX3_oddsUpper cX3_oddsUpper 1 (some .int), Cond.fieldLink RX3 45 "CryOrder$Node" "settledTrue" "I", Cond.methodLink RX2 103 yX0_nodeFor, Cond.methodLink RX2 112 yX1_add]
def wsX2_fillCases_r3 : List Cond := [Cond.instanceMethod yX1_add, Cond.selects RX1 yX1_add yX1_add, Cond.initialized RX1, Cond.code yX1_add cX1_add 3 none, Cond.fieldLink RX1 13 "CryOrder$Case" "size" "I", Cond.fieldLink RX1 16 "CryOrder$Case" "score" "I", Cond.methodLink RX1 23 Lib.Math.max.name, Cond.static Lib.Math.max.name, Cond.initialized "java/lang/Math", Cond.code Lib.Math.max.name Lib.Math.max.code 2 (some .int), Cond.fieldLink RX1 19 "CryOrder$Case" "littleKnown" "Z"]
def wsX2_fillCases : List Cond := .code yX2_fillCases cX2_fillCases 5 none :: ((wsX2_fillCases_r1 ++ (wsX2_fillCases_r2 ++ wsX2_fillCases_r3)) ++ wsX00 ++ wsX30 ++ wsX10)
def wsX2_putInPlace : List Cond := .code yX2_putInPlace cX2_putInPlace 3 none :: ([.fieldLink RX2 50 "CryOrder$Cases" "size" "I", .fieldLink RX2 11 "CryOrder$Cases" "ordered" "[LCryOrder$Case;", .methodLink RX2 121 yX1_isAheadOf, .instanceMethod yX1_isAheadOf, .selects RX1 yX1_isAheadOf yX1_isAheadOf, .initialized RX1, .code yX1_isAheadOf cX1_isAheadOf 2 (some .boolean), .fieldLink RX1 16 "CryOrder$Case" "score" "I", .fieldLink RX1 7 "CryOrder$Case" "number" "I"] ++ wsX20 ++ wsX10)
def wsX2_putInOrder : List Cond := .code yX2_putInOrder cX2_putInOrder 4 none :: ([.fieldLink RX2 50 "CryOrder$Cases" "size" "I", .fieldLink RX2 23 "CryOrder$Alarm" "led" "LCryOrder$Case;", .fieldLink RX2 116 "CryOrder$Case" "size" "I", .methodLink RX2 117 yX2_putInPlace, .instanceMethod yX2_putInPlace, .selects RX2 yX2_putInPlace yX2_putInPlace, .initialized RX2, .code yX2_putInPlace cX2_putInPlace 3 none, .fieldLink RX2 11 "CryOrder$Cases" "ordered" "[LCryOrder$Case;", .methodLink RX2 121 yX1_isAheadOf, .instanceMethod yX1_isAheadOf, .selects RX1 yX1_isAheadOf yX1_isAheadOf, .initialized RX1, .code yX1_isAheadOf cX1_isAheadOf 2 (some .boolean), .fieldLink RX1 16 "CryOrder$Case" "score" "I", .fieldLink RX1 7 "CryOrder$Case" "number" "I"] ++ wsX20 ++ wsX00 ++ wsX10)
def wsX2_gather_r1 : List Cond := [Cond.fieldLink RX2 17 "CryOrder$Alarm" "above" "LCryOrder$Alarm;", Cond.fieldLink RX2 23 "CryOrder$Alarm" "led" "LCryOrder$Case;", Cond.methodLink RX2 27 yX1_clear, Cond.instanceMethod yX1_clear, Cond.selects RX1 yX1_clear yX1_clear, Cond.initialized RX1, Cond.code yX1_clear cX1_clear 1 none, Cond.fieldLink RX1 13 "CryOrder$Case" "size" "I", Cond.fieldLink RX1 16 "CryOrder$Case" "score" "I", Cond.fieldLink RX1 19 "CryOrder$Case" "littleKnown" "Z", Cond.methodLink RX2 30 yX0_isLive, Cond.instanceMethod yX0_isLive, Cond.selects RX0 yX0_isLive yX0_isLive, Cond.initialized RX0, Cond.code yX0_isLive cX0_isLive 1 (some .boolean), Cond.methodLink RX0 56 yX0_isOpen, Cond.instanceMethod yX0_isOpen, Cond.selects RX0 yX0_isOpen yX0_isOpen, Cond.code yX0_isOpen cX0_isOpen 1 (some .boolean), Cond.fieldLink RX0 9 "CryOrder$Alarm" "state" "I", Cond.methodLink RX0 60 yX0_isHushed, Cond.instanceMethod yX0_isHushed, Cond.selects RX0 yX0_isHushed yX0_isHushed, Cond.code yX0_isHushed cX0_isHushed 1 (some .boolean)]
def wsX2_gather_r2 : List Cond := [Cond.fieldLink RX0 49 "CryOrder$Alarm" "silenced" "Z", Cond.fieldLink RX0 53 "CryOrder$Alarm" "capped" "Z", Cond.methodLink RX2 34 yX2_joinWithSoonerOnes, Cond.static yX2_joinWithSoonerOnes, Cond.initialized RX2, Cond.code yX2_joinWithSoonerOnes cX2_joinWithSoonerOnes 3 none, Cond.fieldLink RX2 61 "CryOrder$Alarm" "soonerOfThing" "LCryOrder$Alarm;", Cond.fieldLink RX2 64 "CryOrder$Alarm" "came" "I", Cond.fieldLink RX2 71 "CryOrder$Alarm" "number" "I", Cond.methodLink RX2 67 yX0_head, Cond.instanceMethod yX0_head, Cond.selects RX0 yX0_head yX0_head, Cond.code yX0_head cX0_head 2 (some (.object "CryOrder$Alarm")), Cond.fieldLink RX0 97 "CryOrder$Alarm" "above" "LCryOrder$Alarm;", Cond.methodLink RX2 74 yX7_isParted, Cond.instanceMethod yX7_isParted, Cond.selects RX7 yX7_isParted yX7_isParted, Cond.initialized RX7, Cond.code yX7_isParted cX7_isParted 4 (some .boolean), Cond.fieldLink RX7 40 "CryOrder$Pair" "joined" "Z", Cond.methodLink RX7 36 yX7_find, Cond.instanceMethod yX7_find, Cond.selects RX7 yX7_find yX7_find, Cond.code yX7_find cX7_find 6 (some (.object "CryOrder$Pair"))]
def wsX2_gather_r3 : List Cond := [Cond.methodLink RX7 17 Lib.Math.min.name, Cond.static Lib.Math.min.name, Cond.initialized "java/lang/Math", Cond.code Lib.Math.min.name Lib.Math.min.code 2 (some .int), Cond.methodLink RX7 23 Lib.Math.max.name, Cond.static Lib.Math.max.name, Cond.code Lib.Math.max.name Lib.Math.max.code 2 (some .int), Cond.fieldLink RX7 26 "CryOrder$Ties" "size" "I", Cond.fieldLink RX7 11 "CryOrder$Ties" "pairs" "[LCryOrder$Pair;", Cond.fieldLink RX7 30 "CryOrder$Pair" "lesser" "I", Cond.fieldLink RX7 33 "CryOrder$Pair" "greater" "I", Cond.methodLink RX2 79 yX0_joinCaseOf, Cond.instanceMethod yX0_joinCaseOf, Cond.selects RX0 yX0_joinCaseOf yX0_joinCaseOf, Cond.code yX0_joinCaseOf cX0_joinCaseOf 4 none, Cond.fieldLink RX0 15 "CryOrder$Alarm" "number" "I", Cond.methodLink RX0 101 yX0_head, Cond.methodLink RX2 38 yX2_joinToldOnes, Cond.static yX2_joinToldOnes, Cond.code yX2_joinToldOnes cX2_joinToldOnes 5 none, Cond.fieldLink RX2 83 "CryOrder$Ties" "size" "I", Cond.fieldLink RX2 84 "CryOrder$Ties" "pairs" "[LCryOrder$Pair;", Cond.fieldLink RX2 88 "CryOrder$Pair" "joined" "Z", Cond.fieldLink RX2 94 "CryOrder$Pair" "lesser" "I"]
def wsX2_gather_r4 : List Cond := [Cond.fieldLink RX2 97 "CryOrder$Pair" "greater" "I", Cond.static yX8_isBelow, Cond.initialized RX8, Cond.code yX8_isBelow cX8_isBelow 2 (some .boolean), Cond.methodLink RX2 42 yX2_fillCases, Cond.static yX2_fillCases, Cond.code yX2_fillCases cX2_fillCases 5 none, Cond.fieldLink RX2 107 "CryOrder$Node" "depth" "I", Cond.methodLink RX2 100 yX0_score, Cond.instanceMethod yX0_score, Cond.selects RX0 yX0_score yX0_score, Cond.code yX0_score cX0_score 4 (some .int), Cond.fieldLink RX0 30 "CryOrder$Alarm" "worth" "I", Cond.methodLink RX0 86 yX0_nodeFor, Cond.instanceMethod yX0_nodeFor, Cond.selects RX0 yX0_nodeFor yX0_nodeFor, Cond.code yX0_nodeFor cX0_nodeFor 3 (some (.object "CryOrder$Node")), Cond.fieldLink RX0 33 "CryOrder$Alarm" "leaf" "LCryOrder$Node;", Cond.fieldLink RX0 78 "CryOrder$Node" "settled" "I", Cond.fieldLink RX0 83 "CryOrder$Node" "parent" "LCryOrder$Node;", Cond.methodLink RX0 90 yX3_oddsLower, Cond.instanceMethod yX3_oddsLower, Cond.selects RX3 yX3_oddsLower yX3_oddsLower, Cond.initialized RX3]
def wsX2_gather_r5 : List Cond := [Cond.code yX3_oddsLower cX3_oddsLower 1 (some .int), Cond.fieldLink RX3 42 "CryOrder$Node" "settled" "I", Cond.methodLink RX0 94 yX3_oddsUpper, Cond.instanceMethod yX3_oddsUpper, Cond.selects RX3 yX3_oddsUpper yX3_oddsUpper, Cond.code yX3_oddsUpper cX3_oddsUpper 1 (some .int), Cond.fieldLink RX3 45 "CryOrder$Node" "settledTrue" "I", Cond.methodLink RX2 103 yX0_nodeFor, Cond.methodLink RX2 112 yX1_add, Cond.instanceMethod yX1_add, Cond.selects RX1 yX1_add yX1_add, Cond.code yX1_add cX1_add 3 none, Cond.methodLink RX1 23 Lib.Math.max.name, Cond.methodLink RX2 46 yX2_putInOrder, Cond.instanceMethod yX2_putInOrder, Cond.selects RX2 yX2_putInOrder yX2_putInOrder, Cond.code yX2_putInOrder cX2_putInOrder 4 none, Cond.fieldLink RX2 50 "CryOrder$Cases" "size" "I", Cond.fieldLink RX2 116 "CryOrder$Case" "size" "I", Cond.methodLink RX2 117 yX2_putInPlace, Cond.instanceMethod yX2_putInPlace, Cond.selects RX2 yX2_putInPlace yX2_putInPlace, Cond.code yX2_putInPlace cX2_putInPlace 3 none, Cond.fieldLink RX2 11 "CryOrder$Cases" "ordered" "[LCryOrder$Case;"]
def wsX2_gather_r6 : List Cond := [Cond.methodLink RX2 121 yX1_isAheadOf, Cond.instanceMethod yX1_isAheadOf, Cond.selects RX1 yX1_isAheadOf yX1_isAheadOf, Cond.code yX1_isAheadOf cX1_isAheadOf 2 (some .boolean), Cond.fieldLink RX1 7 "CryOrder$Case" "number" "I"]
def wsX2_gather : List Cond := .code yX2_gather cX2_gather 6 none :: ((wsX2_gather_r1 ++ (wsX2_gather_r2 ++ (wsX2_gather_r3 ++ (wsX2_gather_r4 ++ (wsX2_gather_r5 ++ wsX2_gather_r6))))) ++ wsX00 ++ wsX10 ++ wsX40 ++ wsX70 ++ wsX30 ++ wsX20)
def wsX2_at : List Cond := .code yX2_at cX2_at 2 (some (.object "CryOrder$Case")) :: ([.fieldLink RX2 50 "CryOrder$Cases" "size" "I", .fieldLink RX2 11 "CryOrder$Cases" "ordered" "[LCryOrder$Case;", .static yX8_isBelow, .initialized RX8, .code yX8_isBelow cX8_isBelow 2 (some .boolean)] ++ wsX20)
def wsX2_scoreOfAll : List Cond := .code yX2_scoreOfAll cX2_scoreOfAll 3 (some .int) :: ([.fieldLink RX2 50 "CryOrder$Cases" "size" "I", .fieldLink RX2 11 "CryOrder$Cases" "ordered" "[LCryOrder$Case;", .fieldLink RX2 58 "CryOrder$Case" "score" "I"] ++ wsX20 ++ wsX10)
def wsX3_init : List Cond := .code yX3_init cX3_init 4 none :: ([.methodLink RX3 3 objectInit, .instanceMethod objectInit, .code objectInit ⟨#[0xb1]⟩ 1 none, .fieldLink RX3 9 "CryOrder$Node" "parent" "LCryOrder$Node;", .fieldLink RX3 15 "CryOrder$Node" "depth" "I", .fieldLink RX3 19 "CryOrder$Node" "mark" "I", .fieldLink RX3 22 "CryOrder$Node" "sibling" "LCryOrder$Node;"] ++ wsX30)
def wsX3_markAt : List Cond := .code yX3_markAt cX3_markAt 2 (some .int) :: ([])
def wsX3_child : List Cond := .code yX3_child cX3_child 3 (some (.object "CryOrder$Node")) :: ([.fieldLink RX3 25 "CryOrder$Node" "firstChild" "LCryOrder$Node;", .fieldLink RX3 19 "CryOrder$Node" "mark" "I", .fieldLink RX3 22 "CryOrder$Node" "sibling" "LCryOrder$Node;"] ++ wsX30)
def wsX3_find : List Cond := .code yX3_find cX3_find 5 (some (.object "CryOrder$Node")) :: ([.methodLink RX3 28 yX3_markAt, .static yX3_markAt, .initialized RX3, .code yX3_markAt cX3_markAt 2 (some .int), .methodLink RX3 32 yX3_child, .instanceMethod yX3_child, .selects RX3 yX3_child yX3_child, .code yX3_child cX3_child 3 (some (.object "CryOrder$Node")), .fieldLink RX3 25 "CryOrder$Node" "firstChild" "LCryOrder$Node;", .fieldLink RX3 19 "CryOrder$Node" "mark" "I", .fieldLink RX3 22 "CryOrder$Node" "sibling" "LCryOrder$Node;"] ++ wsX30)
def wsX3_grow : List Cond := .code yX3_grow cX3_grow 6 (some (.object "CryOrder$Node")) :: ([.classLink RX3 10 RX3, .instantiable RX3 8, .initialized RX3, .fieldLink RX3 25 "CryOrder$Node" "firstChild" "LCryOrder$Node;", .methodLink RX3 28 yX3_markAt, .static yX3_markAt, .code yX3_markAt cX3_markAt 2 (some .int), .methodLink RX3 32 yX3_child, .instanceMethod yX3_child, .selects RX3 yX3_child yX3_child, .code yX3_child cX3_child 3 (some (.object "CryOrder$Node")), .fieldLink RX3 19 "CryOrder$Node" "mark" "I", .fieldLink RX3 22 "CryOrder$Node" "sibling" "LCryOrder$Node;", .methodLink RX3 36 yX3_init, .instanceMethod yX3_init, .code yX3_init cX3_init 4 none, .methodLink RX3 3 objectInit, .instanceMethod objectInit, .code objectInit ⟨#[0xb1]⟩ 1 none, .fieldLink RX3 9 "CryOrder$Node" "parent" "LCryOrder$Node;", .fieldLink RX3 15 "CryOrder$Node" "depth" "I"] ++ wsX30)
def wsX3_addOpen : List Cond := .code yX3_addOpen cX3_addOpen 2 none :: ([.fieldLink RX3 39 "CryOrder$Node" "open" "I", .fieldLink RX3 9 "CryOrder$Node" "parent" "LCryOrder$Node;"] ++ wsX30)
def wsX8_oneIf : List Cond := .code yX8_oneIf cX8_oneIf 1 (some .int) :: ([])
def wsX3_settle : List Cond := .code yX3_settle cX3_settle 3 none :: ([.fieldLink RX3 39 "CryOrder$Node" "open" "I", .fieldLink RX3 42 "CryOrder$Node" "settled" "I", .fieldLink RX3 45 "CryOrder$Node" "settledTrue" "I", .fieldLink RX3 9 "CryOrder$Node" "parent" "LCryOrder$Node;", .static yX8_oneIf, .initialized RX8, .code yX8_oneIf cX8_oneIf 1 (some .int)] ++ wsX30)
def wsX4_init : List Cond := .code yX4_init cX4_init 4 none :: ([.methodLink RX4 1 objectInit, .instanceMethod objectInit, .code objectInit ⟨#[0xb1]⟩ 1 none, .fieldLink RX4 7 "CryOrder$Pair" "lesser" "I", .fieldLink RX4 13 "CryOrder$Pair" "greater" "I", .fieldLink RX4 16 "CryOrder$Pair" "joined" "Z"] ++ wsX40)
def wsX5_init : List Cond := .code yX5_init cX5_init 1 none :: ([.methodLink RX5 3 objectInit, .instanceMethod objectInit, .code objectInit ⟨#[0xb1]⟩ 1 none, .classLink RX5 9 RX1, .fieldLink RX5 11 "CryOrder$Plan" "taken" "[LCryOrder$Case;", .fieldLink RX5 17 "CryOrder$Plan" "pool" "[LCryOrder$Case;", .arrayClass .int, .fieldLink RX5 20 "CryOrder$Plan" "best" "[I", .fieldLink RX5 24 "CryOrder$Plan" "needed" "[I"] ++ wsX50)
def wsX5_take : List Cond := .code yX5_take cX5_take 2 none :: ([.fieldLink RX5 27 "CryOrder$Plan" "takenCount" "I", .fieldLink RX5 11 "CryOrder$Plan" "taken" "[LCryOrder$Case;", .fieldLink RX5 34 "CryOrder$Plan" "scoreTaken" "I", .fieldLink RX5 67 "CryOrder$Case" "score" "I", .fieldLink RX5 46 "CryOrder$Plan" "minutesLeft" "I", .methodLink RX5 70 yX1_minutes, .instanceMethod yX1_minutes, .selects RX1 yX1_minutes yX1_minutes, .initialized RX1, .code yX1_minutes cX1_minutes 1 (some .int), .fieldLink RX1 13 "CryOrder$Case" "size" "I"] ++ wsX50 ++ wsX10)
def wsX5_takeTries : List Cond := .code yX5_takeTries cX5_takeTries 5 none :: ([.fieldLink RX5 74 "CryOrder$Cases" "size" "I", .fieldLink RX5 27 "CryOrder$Plan" "takenCount" "I", .fieldLink RX5 79 "CryOrder$Cases" "ordered" "[LCryOrder$Case;", .fieldLink RX5 82 "CryOrder$Case" "littleKnown" "Z", .fieldLink RX5 46 "CryOrder$Plan" "minutesLeft" "I", .methodLink RX5 70 yX1_minutes, .instanceMethod yX1_minutes, .selects RX1 yX1_minutes yX1_minutes, .initialized RX1, .code yX1_minutes cX1_minutes 1 (some .int), .fieldLink RX1 13 "CryOrder$Case" "size" "I", .methodLink RX5 86 yX5_take, .instanceMethod yX5_take, .selects RX5 yX5_take yX5_take, .initialized RX5, .code yX5_take cX5_take 2 none, .fieldLink RX5 11 "CryOrder$Plan" "taken" "[LCryOrder$Case;", .fieldLink RX5 34 "CryOrder$Plan" "scoreTaken" "I", .fieldLink RX5 67 "CryOrder$Case" "score" "I"] ++ wsX20 ++ wsX50 ++ wsX10)
def wsX5_isTaken : List Cond := .code yX5_isTaken cX5_isTaken 3 (some .boolean) :: ([.fieldLink RX5 27 "CryOrder$Plan" "takenCount" "I", .fieldLink RX5 11 "CryOrder$Plan" "taken" "[LCryOrder$Case;"] ++ wsX50)
def wsX5_fillPool : List Cond := .code yX5_fillPool cX5_fillPool 3 none :: ([.fieldLink RX5 74 "CryOrder$Cases" "size" "I", .fieldLink RX5 31 "CryOrder$Plan" "poolCount" "I", .fieldLink RX5 79 "CryOrder$Cases" "ordered" "[LCryOrder$Case;", .fieldLink RX5 17 "CryOrder$Plan" "pool" "[LCryOrder$Case;", .methodLink RX5 90 yX5_isTaken, .instanceMethod yX5_isTaken, .selects RX5 yX5_isTaken yX5_isTaken, .initialized RX5, .code yX5_isTaken cX5_isTaken 3 (some .boolean), .fieldLink RX5 27 "CryOrder$Plan" "takenCount" "I", .fieldLink RX5 11 "CryOrder$Plan" "taken" "[LCryOrder$Case;"] ++ wsX20 ++ wsX50)
def wsX5_weighPool : List Cond := .code yX5_weighPool cX5_weighPool 5 none :: ([.fieldLink RX5 46 "CryOrder$Plan" "minutesLeft" "I", .fieldLink RX5 20 "CryOrder$Plan" "best" "[I", .fieldLink RX5 24 "CryOrder$Plan" "needed" "[I", .fieldLink RX5 31 "CryOrder$Plan" "poolCount" "I", .fieldLink RX5 17 "CryOrder$Plan" "pool" "[LCryOrder$Case;", .fieldLink RX5 67 "CryOrder$Case" "score" "I", .methodLink RX5 70 yX1_minutes, .instanceMethod yX1_minutes, .selects RX1 yX1_minutes yX1_minutes, .initialized RX1, .code yX1_minutes cX1_minutes 1 (some .int), .fieldLink RX1 13 "CryOrder$Case" "size" "I"] ++ wsX50 ++ wsX10)
def wsX5_takeBestOfPool : List Cond := .code yX5_takeBestOfPool cX5_takeBestOfPool 4 none :: ([.fieldLink RX5 46 "CryOrder$Plan" "minutesLeft" "I", .fieldLink RX5 31 "CryOrder$Plan" "poolCount" "I", .fieldLink RX5 24 "CryOrder$Plan" "needed" "[I", .fieldLink RX5 17 "CryOrder$Plan" "pool" "[LCryOrder$Case;", .methodLink RX5 70 yX1_minutes, .instanceMethod yX1_minutes, .selects RX1 yX1_minutes yX1_minutes, .initialized RX1, .code yX1_minutes cX1_minutes 1 (some .int), .fieldLink RX1 13 "CryOrder$Case" "size" "I", .methodLink RX5 86 yX5_take, .instanceMethod yX5_take, .selects RX5 yX5_take yX5_take, .initialized RX5, .code yX5_take cX5_take 2 none, .fieldLink RX5 27 "CryOrder$Plan" "takenCount" "I", .fieldLink RX5 11 "CryOrder$Plan" "taken" "[LCryOrder$Case;", .fieldLink RX5 34 "CryOrder$Plan" "scoreTaken" "I", .fieldLink RX5 67 "CryOrder$Case" "score" "I"] ++ wsX50 ++ wsX10)
def wsX5_make_r1 : List Cond := [Cond.fieldLink RX5 27 "CryOrder$Plan" "takenCount" "I", Cond.fieldLink RX5 31 "CryOrder$Plan" "poolCount" "I", Cond.fieldLink RX5 34 "CryOrder$Plan" "scoreTaken" "I", Cond.methodLink RX5 37 Lib.Math.min.name, Cond.static Lib.Math.min.name, Cond.initialized "java/lang/Math", Cond.code Lib.Math.min.name Lib.Math.min.code 2 (some .int), Cond.methodLink RX5 43 Lib.Math.max.name, Cond.static Lib.Math.max.name, Cond.code Lib.Math.max.name Lib.Math.max.code 2 (some .int), Cond.fieldLink RX5 46 "CryOrder$Plan" "minutesLeft" "I", Cond.methodLink RX5 49 yX5_takeTries, Cond.instanceMethod yX5_takeTries, Cond.selects RX5 yX5_takeTries yX5_takeTries, Cond.initialized RX5, Cond.code yX5_takeTries cX5_takeTries 5 none, Cond.fieldLink RX5 74 "CryOrder$Cases" "size" "I", Cond.fieldLink RX5 79 "CryOrder$Cases" "ordered" "[LCryOrder$Case;", Cond.fieldLink RX5 82 "CryOrder$Case" "littleKnown" "Z", Cond.methodLink RX5 70 yX1_minutes, Cond.instanceMethod yX1_minutes, Cond.selects RX1 yX1_minutes yX1_minutes, Cond.initialized RX1, Cond.code yX1_minutes cX1_minutes 1 (some .int)]
def wsX5_make_r2 : List Cond := [Cond.fieldLink RX1 13 "CryOrder$Case" "size" "I", Cond.methodLink RX5 86 yX5_take, Cond.instanceMethod yX5_take, Cond.selects RX5 yX5_take yX5_take, Cond.code yX5_take cX5_take 2 none, Cond.fieldLink RX5 11 "CryOrder$Plan" "taken" "[LCryOrder$Case;", Cond.fieldLink RX5 67 "CryOrder$Case" "score" "I", Cond.methodLink RX5 53 yX5_fillPool, Cond.instanceMethod yX5_fillPool, Cond.selects RX5 yX5_fillPool yX5_fillPool, Cond.code yX5_fillPool cX5_fillPool 3 none, Cond.fieldLink RX5 17 "CryOrder$Plan" "pool" "[LCryOrder$Case;", Cond.methodLink RX5 90 yX5_isTaken, Cond.instanceMethod yX5_isTaken, Cond.selects RX5 yX5_isTaken yX5_isTaken, Cond.code yX5_isTaken cX5_isTaken 3 (some .boolean), Cond.methodLink RX5 57 yX5_weighPool, Cond.instanceMethod yX5_weighPool, Cond.selects RX5 yX5_weighPool yX5_weighPool, Cond.code yX5_weighPool cX5_weighPool 5 none, Cond.fieldLink RX5 20 "CryOrder$Plan" "best" "[I", Cond.fieldLink RX5 24 "CryOrder$Plan" "needed" "[I", Cond.methodLink RX5 60 yX5_takeBestOfPool, Cond.instanceMethod yX5_takeBestOfPool]
def wsX5_make_r3 : List Cond := [Cond.selects RX5 yX5_takeBestOfPool yX5_takeBestOfPool, Cond.code yX5_takeBestOfPool cX5_takeBestOfPool 4 none]
def wsX5_make : List Cond := .code yX5_make cX5_make 4 none :: ((wsX5_make_r1 ++ (wsX5_make_r2 ++ wsX5_make_r3)) ++ wsX50 ++ wsX20 ++ wsX10)
def wsX5_at : List Cond := .code yX5_at cX5_at 2 (some (.object "CryOrder$Case")) :: ([.fieldLink RX5 27 "CryOrder$Plan" "takenCount" "I", .fieldLink RX5 11 "CryOrder$Plan" "taken" "[LCryOrder$Case;", .static yX8_isBelow, .initialized RX8, .code yX8_isBelow cX8_isBelow 2 (some .boolean)] ++ wsX50)
def wsX6_init : List Cond := .code yX6_init cX6_init 4 none :: ([.methodLink RX6 1 objectInit, .instanceMethod objectInit, .code objectInit ⟨#[0xb1]⟩ 1 none, .fieldLink RX6 7 "CryOrder$Silence" "source" "I", .fieldLink RX6 13 "CryOrder$Silence" "from" "I", .fieldLink RX6 16 "CryOrder$Silence" "to" "I"] ++ wsX60)
def wsX6_covers : List Cond := .code yX6_covers cX6_covers 3 (some .boolean) :: ([.fieldLink RX6 7 "CryOrder$Silence" "source" "I", .fieldLink RX6 13 "CryOrder$Silence" "from" "I", .fieldLink RX6 16 "CryOrder$Silence" "to" "I"] ++ wsX60)
def wsX7_init : List Cond := .code yX7_init cX7_init 1 none :: ([.methodLink RX7 3 objectInit, .instanceMethod objectInit, .code objectInit ⟨#[0xb1]⟩ 1 none, .classLink RX7 9 RX4, .fieldLink RX7 11 "CryOrder$Ties" "pairs" "[LCryOrder$Pair;"] ++ wsX70)
def wsX7_tell_r1 : List Cond := [Cond.fieldLink RX7 40 "CryOrder$Pair" "joined" "Z", Cond.fieldLink RX7 26 "CryOrder$Ties" "size" "I", Cond.fieldLink RX7 11 "CryOrder$Ties" "pairs" "[LCryOrder$Pair;", Cond.classLink RX7 9 RX4, Cond.instantiable RX4 3, Cond.initialized RX4, Cond.methodLink RX7 17 Lib.Math.min.name, Cond.static Lib.Math.min.name, Cond.initialized "java/lang/Math", Cond.code Lib.Math.min.name Lib.Math.min.code 2 (some .int), Cond.methodLink RX7 23 Lib.Math.max.name, Cond.static Lib.Math.max.name, Cond.code Lib.Math.max.name Lib.Math.max.code 2 (some .int), Cond.methodLink RX7 36 yX7_find, Cond.instanceMethod yX7_find, Cond.selects RX7 yX7_find yX7_find, Cond.initialized RX7, Cond.code yX7_find cX7_find 6 (some (.object "CryOrder$Pair")), Cond.fieldLink RX7 30 "CryOrder$Pair" "lesser" "I", Cond.fieldLink RX7 33 "CryOrder$Pair" "greater" "I", Cond.methodLink RX7 44 yX4_init, Cond.instanceMethod yX4_init, Cond.code yX4_init cX4_init 4 none, Cond.methodLink RX4 1 objectInit]
def wsX7_tell_r2 : List Cond := [Cond.instanceMethod objectInit, Cond.code objectInit ⟨#[0xb1]⟩ 1 none, Cond.fieldLink RX4 7 "CryOrder$Pair" "lesser" "I", Cond.fieldLink RX4 13 "CryOrder$Pair" "greater" "I", Cond.fieldLink RX4 16 "CryOrder$Pair" "joined" "Z"]
def wsX7_tell : List Cond := .code yX7_tell cX7_tell 6 (some .boolean) :: ((wsX7_tell_r1 ++ wsX7_tell_r2) ++ wsX40 ++ wsX70)
def wsX8_init_r1 : List Cond := [Cond.methodLink RX8 1 objectInit, Cond.instanceMethod objectInit, Cond.code objectInit ⟨#[0xb1]⟩ 1 none, Cond.classLink RX8 9 RX0, Cond.fieldLink RX8 11 "CryOrder" "alarms" "[LCryOrder$Alarm;", Cond.fieldLink RX8 15 "CryOrder" "latestOfThing" "[LCryOrder$Alarm;", Cond.classLink RX8 18 RX6, Cond.fieldLink RX8 20 "CryOrder" "silences" "[LCryOrder$Silence;", Cond.classLink RX8 24 RX3, Cond.instantiable RX3 8, Cond.initialized RX3, Cond.fieldLink RX8 29 "CryOrder" "root" "LCryOrder$Node;", Cond.classLink RX8 33 RX7, Cond.instantiable RX7 2, Cond.initialized RX7, Cond.fieldLink RX8 36 "CryOrder" "ties" "LCryOrder$Ties;", Cond.classLink RX8 40 RX2, Cond.instantiable RX2 2, Cond.initialized RX2, Cond.fieldLink RX8 43 "CryOrder" "cases" "LCryOrder$Cases;", Cond.classLink RX8 47 RX5, Cond.instantiable RX5 8, Cond.initialized RX5, Cond.fieldLink RX8 50 "CryOrder" "planner" "LCryOrder$Plan;"]
def wsX8_init_r2 : List Cond := [Cond.fieldLink RX8 54 "CryOrder" "cap" "I", Cond.fieldLink RX8 58 "CryOrder" "leastSettled" "I", Cond.methodLink RX8 26 yX3_init, Cond.instanceMethod yX3_init, Cond.code yX3_init cX3_init 4 none, Cond.methodLink RX3 3 objectInit, Cond.fieldLink RX3 9 "CryOrder$Node" "parent" "LCryOrder$Node;", Cond.fieldLink RX3 15 "CryOrder$Node" "depth" "I", Cond.fieldLink RX3 19 "CryOrder$Node" "mark" "I", Cond.fieldLink RX3 22 "CryOrder$Node" "sibling" "LCryOrder$Node;", Cond.instanceMethod yX7_init, Cond.code yX7_init cX7_init 1 none, Cond.methodLink RX7 3 objectInit, Cond.classLink RX7 9 RX4, Cond.fieldLink RX7 11 "CryOrder$Ties" "pairs" "[LCryOrder$Pair;", Cond.instanceMethod yX2_init, Cond.code yX2_init cX2_init 1 none, Cond.methodLink RX2 3 objectInit, Cond.classLink RX2 9 RX1, Cond.fieldLink RX2 11 "CryOrder$Cases" "ordered" "[LCryOrder$Case;", Cond.instanceMethod yX5_init, Cond.code yX5_init cX5_init 1 none, Cond.methodLink RX5 3 objectInit, Cond.classLink RX5 9 RX1]
def wsX8_init_r3 : List Cond := [Cond.fieldLink RX5 11 "CryOrder$Plan" "taken" "[LCryOrder$Case;", Cond.fieldLink RX5 17 "CryOrder$Plan" "pool" "[LCryOrder$Case;", Cond.arrayClass .int, Cond.fieldLink RX5 20 "CryOrder$Plan" "best" "[I", Cond.fieldLink RX5 24 "CryOrder$Plan" "needed" "[I"]
def wsX8_init : List Cond := .code yX8_init cX8_init 1 none :: ((wsX8_init_r1 ++ (wsX8_init_r2 ++ wsX8_init_r3)) ++ wsX80 ++ wsX30 ++ wsX70 ++ wsX20 ++ wsX50)
def wsX8_pass : List Cond := .code yX8_pass cX8_pass 2 (some .int) :: ([.fieldLink RX8 61 "CryOrder" "now" "I"] ++ wsX80)
def wsX8_alarmToRepeat : List Cond := .code yX8_alarmToRepeat cX8_alarmToRepeat 6 (some (.object "CryOrder$Alarm")) :: ([.fieldLink RX8 79 "CryOrder" "alarmCount" "I", .fieldLink RX8 11 "CryOrder" "alarms" "[LCryOrder$Alarm;", .fieldLink RX8 151 "CryOrder$Alarm" "source" "I", .fieldLink RX8 154 "CryOrder$Alarm" "thing" "I", .fieldLink RX8 157 "CryOrder$Alarm" "marks" "I", .fieldLink RX8 61 "CryOrder" "now" "I", .fieldLink RX8 276 "CryOrder$Alarm" "heardLast" "I", .methodLink RX8 225 yX0_isLive, .instanceMethod yX0_isLive, .selects RX0 yX0_isLive yX0_isLive, .initialized RX0, .code yX0_isLive cX0_isLive 1 (some .boolean), .methodLink RX0 56 yX0_isOpen, .instanceMethod yX0_isOpen, .selects RX0 yX0_isOpen yX0_isOpen, .code yX0_isOpen cX0_isOpen 1 (some .boolean), .fieldLink RX0 9 "CryOrder$Alarm" "state" "I", .methodLink RX0 60 yX0_isHushed, .instanceMethod yX0_isHushed, .selects RX0 yX0_isHushed yX0_isHushed, .code yX0_isHushed cX0_isHushed 1 (some .boolean), .fieldLink RX0 49 "CryOrder$Alarm" "silenced" "Z", .fieldLink RX0 53 "CryOrder$Alarm" "capped" "Z"] ++ wsX80 ++ wsX00)
def wsX8_isSilencedNow : List Cond := .code yX8_isSilencedNow cX8_isSilencedNow 3 (some .boolean) :: ([.fieldLink RX8 116 "CryOrder" "silenceCount" "I", .fieldLink RX8 20 "CryOrder" "silences" "[LCryOrder$Silence;", .fieldLink RX8 61 "CryOrder" "now" "I", .methodLink RX8 279 yX6_covers, .instanceMethod yX6_covers, .selects RX6 yX6_covers yX6_covers, .initialized RX6, .code yX6_covers cX6_covers 3 (some .boolean), .fieldLink RX6 7 "CryOrder$Silence" "source" "I", .fieldLink RX6 13 "CryOrder$Silence" "from" "I", .fieldLink RX6 16 "CryOrder$Silence" "to" "I"] ++ wsX80 ++ wsX60)
def wsX8_isCapFullNow : List Cond := .code yX8_isCapFullNow cX8_isCapFullNow 4 (some .boolean) :: ([.fieldLink RX8 79 "CryOrder" "alarmCount" "I", .fieldLink RX8 61 "CryOrder" "now" "I", .fieldLink RX8 11 "CryOrder" "alarms" "[LCryOrder$Alarm;", .fieldLink RX8 148 "CryOrder$Alarm" "came" "I", .fieldLink RX8 151 "CryOrder$Alarm" "source" "I", .fieldLink RX8 54 "CryOrder" "cap" "I", .methodLink RX8 273 yX0_isHushed, .instanceMethod yX0_isHushed, .selects RX0 yX0_isHushed yX0_isHushed, .initialized RX0, .code yX0_isHushed cX0_isHushed 1 (some .boolean), .fieldLink RX0 49 "CryOrder$Alarm" "silenced" "Z", .fieldLink RX0 53 "CryOrder$Alarm" "capped" "Z"] ++ wsX80 ++ wsX00)
def wsX8_alarm_r1 : List Cond := [Cond.fieldLink RX8 61 "CryOrder" "now" "I", Cond.fieldLink RX8 76 "CryOrder$Alarm" "number" "I", Cond.fieldLink RX8 79 "CryOrder" "alarmCount" "I", Cond.classLink RX8 9 RX0, Cond.instantiable RX0 17, Cond.initialized RX0, Cond.fieldLink RX8 29 "CryOrder" "root" "LCryOrder$Node;", Cond.fieldLink RX8 93 "CryOrder$Alarm" "silenced" "Z", Cond.fieldLink RX8 100 "CryOrder$Alarm" "capped" "Z", Cond.fieldLink RX8 103 "CryOrder$Alarm" "leaf" "LCryOrder$Node;", Cond.fieldLink RX8 15 "CryOrder" "latestOfThing" "[LCryOrder$Alarm;", Cond.fieldLink RX8 109 "CryOrder$Alarm" "soonerOfThing" "LCryOrder$Alarm;", Cond.fieldLink RX8 11 "CryOrder" "alarms" "[LCryOrder$Alarm;", Cond.fieldLink RX8 113 "CryOrder" "casesAreStale" "Z", Cond.methodLink RX8 64 yX8_isBelow, Cond.static yX8_isBelow, Cond.initialized RX8, Cond.code yX8_isBelow cX8_isBelow 2 (some .boolean), Cond.methodLink RX8 68 yX8_alarmToRepeat, Cond.instanceMethod yX8_alarmToRepeat, Cond.selects RX8 yX8_alarmToRepeat yX8_alarmToRepeat, Cond.code yX8_alarmToRepeat cX8_alarmToRepeat 6 (some (.object "CryOrder$Alarm")), Cond.fieldLink RX8 151 "CryOrder$Alarm" "source" "I", Cond.fieldLink RX8 154 "CryOrder$Alarm" "thing" "I"]
def wsX8_alarm_r2 : List Cond := [Cond.fieldLink RX8 157 "CryOrder$Alarm" "marks" "I", Cond.fieldLink RX8 276 "CryOrder$Alarm" "heardLast" "I", Cond.methodLink RX8 225 yX0_isLive, Cond.instanceMethod yX0_isLive, Cond.selects RX0 yX0_isLive yX0_isLive, Cond.code yX0_isLive cX0_isLive 1 (some .boolean), Cond.methodLink RX0 56 yX0_isOpen, Cond.instanceMethod yX0_isOpen, Cond.selects RX0 yX0_isOpen yX0_isOpen, Cond.code yX0_isOpen cX0_isOpen 1 (some .boolean), Cond.fieldLink RX0 9 "CryOrder$Alarm" "state" "I", Cond.methodLink RX0 60 yX0_isHushed, Cond.instanceMethod yX0_isHushed, Cond.selects RX0 yX0_isHushed yX0_isHushed, Cond.code yX0_isHushed cX0_isHushed 1 (some .boolean), Cond.fieldLink RX0 49 "CryOrder$Alarm" "silenced" "Z", Cond.fieldLink RX0 53 "CryOrder$Alarm" "capped" "Z", Cond.methodLink RX8 72 yX0_repeat, Cond.instanceMethod yX0_repeat, Cond.selects RX0 yX0_repeat yX0_repeat, Cond.code yX0_repeat cX0_repeat 2 none, Cond.fieldLink RX0 63 "CryOrder$Alarm" "repeats" "I", Cond.fieldLink RX0 46 "CryOrder$Alarm" "heardLast" "I", Cond.methodLink RX8 82 yX3_grow]
def wsX8_alarm_r3 : List Cond := [Cond.instanceMethod yX3_grow, Cond.selects RX3 yX3_grow yX3_grow, Cond.initialized RX3, Cond.code yX3_grow cX3_grow 6 (some (.object "CryOrder$Node")), Cond.classLink RX3 10 RX3, Cond.instantiable RX3 8, Cond.fieldLink RX3 25 "CryOrder$Node" "firstChild" "LCryOrder$Node;", Cond.methodLink RX3 28 yX3_markAt, Cond.static yX3_markAt, Cond.code yX3_markAt cX3_markAt 2 (some .int), Cond.methodLink RX3 32 yX3_child, Cond.instanceMethod yX3_child, Cond.selects RX3 yX3_child yX3_child, Cond.code yX3_child cX3_child 3 (some (.object "CryOrder$Node")), Cond.fieldLink RX3 19 "CryOrder$Node" "mark" "I", Cond.fieldLink RX3 22 "CryOrder$Node" "sibling" "LCryOrder$Node;", Cond.methodLink RX3 36 yX3_init, Cond.instanceMethod yX3_init, Cond.code yX3_init cX3_init 4 none, Cond.methodLink RX3 3 objectInit, Cond.instanceMethod objectInit, Cond.code objectInit ⟨#[0xb1]⟩ 1 none, Cond.fieldLink RX3 9 "CryOrder$Node" "parent" "LCryOrder$Node;", Cond.fieldLink RX3 15 "CryOrder$Node" "depth" "I"]
def wsX8_alarm_r4 : List Cond := [Cond.methodLink RX8 86 yX0_init, Cond.instanceMethod yX0_init, Cond.code yX0_init cX0_init 8 none, Cond.methodLink RX0 3 objectInit, Cond.fieldLink RX0 15 "CryOrder$Alarm" "number" "I", Cond.fieldLink RX0 18 "CryOrder$Alarm" "came" "I", Cond.fieldLink RX0 21 "CryOrder$Alarm" "source" "I", Cond.fieldLink RX0 24 "CryOrder$Alarm" "thing" "I", Cond.fieldLink RX0 27 "CryOrder$Alarm" "marks" "I", Cond.fieldLink RX0 30 "CryOrder$Alarm" "worth" "I", Cond.fieldLink RX0 33 "CryOrder$Alarm" "leaf" "LCryOrder$Node;", Cond.classLink RX0 37 RX1, Cond.instantiable RX1 4, Cond.initialized RX1, Cond.fieldLink RX0 42 "CryOrder$Alarm" "led" "LCryOrder$Case;", Cond.methodLink RX0 39 yX1_init, Cond.instanceMethod yX1_init, Cond.code yX1_init cX1_init 2 none, Cond.methodLink RX1 1 objectInit, Cond.fieldLink RX1 7 "CryOrder$Case" "number" "I", Cond.methodLink RX8 89 yX8_isSilencedNow, Cond.instanceMethod yX8_isSilencedNow, Cond.selects RX8 yX8_isSilencedNow yX8_isSilencedNow, Cond.code yX8_isSilencedNow cX8_isSilencedNow 3 (some .boolean)]
def wsX8_alarm_r5 : List Cond := [Cond.fieldLink RX8 116 "CryOrder" "silenceCount" "I", Cond.fieldLink RX8 20 "CryOrder" "silences" "[LCryOrder$Silence;", Cond.methodLink RX8 279 yX6_covers, Cond.instanceMethod yX6_covers, Cond.selects RX6 yX6_covers yX6_covers, Cond.initialized RX6, Cond.code yX6_covers cX6_covers 3 (some .boolean), Cond.fieldLink RX6 7 "CryOrder$Silence" "source" "I", Cond.fieldLink RX6 13 "CryOrder$Silence" "from" "I", Cond.fieldLink RX6 16 "CryOrder$Silence" "to" "I", Cond.methodLink RX8 97 yX8_isCapFullNow, Cond.instanceMethod yX8_isCapFullNow, Cond.selects RX8 yX8_isCapFullNow yX8_isCapFullNow, Cond.code yX8_isCapFullNow cX8_isCapFullNow 4 (some .boolean), Cond.fieldLink RX8 148 "CryOrder$Alarm" "came" "I", Cond.fieldLink RX8 54 "CryOrder" "cap" "I", Cond.methodLink RX8 273 yX0_isHushed, Cond.methodLink RX8 106 yX3_addOpen, Cond.instanceMethod yX3_addOpen, Cond.selects RX3 yX3_addOpen yX3_addOpen, Cond.code yX3_addOpen cX3_addOpen 2 none, Cond.fieldLink RX3 39 "CryOrder$Node" "open" "I"]
def wsX8_alarm : List Cond := .code yX8_alarm cX8_alarm 7 (some .int) :: ((wsX8_alarm_r1 ++ (wsX8_alarm_r2 ++ (wsX8_alarm_r3 ++ (wsX8_alarm_r4 ++ wsX8_alarm_r5)))) ++ wsX80 ++ wsX00 ++ wsX30 ++ wsX10 ++ wsX60)
def wsX8_silence : List Cond := .code yX8_silence cX8_silence 4 (some .int) :: ([.fieldLink RX8 116 "CryOrder" "silenceCount" "I", .fieldLink RX8 20 "CryOrder" "silences" "[LCryOrder$Silence;", .classLink RX8 18 RX6, .instantiable RX6 3, .initialized RX6, .methodLink RX8 64 yX8_isBelow, .static yX8_isBelow, .initialized RX8, .code yX8_isBelow cX8_isBelow 2 (some .boolean), .methodLink RX8 119 yX6_init, .instanceMethod yX6_init, .code yX6_init cX6_init 4 none, .methodLink RX6 1 objectInit, .instanceMethod objectInit, .code objectInit ⟨#[0xb1]⟩ 1 none, .fieldLink RX6 7 "CryOrder$Silence" "source" "I", .fieldLink RX6 13 "CryOrder$Silence" "from" "I", .fieldLink RX6 16 "CryOrder$Silence" "to" "I"] ++ wsX80 ++ wsX60)
def wsX8_set : List Cond := .code yX8_set cX8_set 3 (some .boolean) :: ([.fieldLink RX8 54 "CryOrder" "cap" "I", .fieldLink RX8 58 "CryOrder" "leastSettled" "I", .fieldLink RX8 113 "CryOrder" "casesAreStale" "Z", .fieldLink RX8 122 "CryOrder" "tries" "I"] ++ wsX80)
def wsX8_alarmAt : List Cond := .code yX8_alarmAt cX8_alarmAt 2 (some (.object "CryOrder$Alarm")) :: ([.fieldLink RX8 79 "CryOrder" "alarmCount" "I", .fieldLink RX8 11 "CryOrder" "alarms" "[LCryOrder$Alarm;", .methodLink RX8 64 yX8_isBelow, .static yX8_isBelow, .initialized RX8, .code yX8_isBelow cX8_isBelow 2 (some .boolean)] ++ wsX80)
def wsX8_verdict_r1 : List Cond := [Cond.fieldLink RX8 103 "CryOrder$Alarm" "leaf" "LCryOrder$Node;", Cond.fieldLink RX8 113 "CryOrder" "casesAreStale" "Z", Cond.methodLink RX8 125 yX8_alarmAt, Cond.instanceMethod yX8_alarmAt, Cond.selects RX8 yX8_alarmAt yX8_alarmAt, Cond.initialized RX8, Cond.code yX8_alarmAt cX8_alarmAt 2 (some (.object "CryOrder$Alarm")), Cond.fieldLink RX8 79 "CryOrder" "alarmCount" "I", Cond.fieldLink RX8 11 "CryOrder" "alarms" "[LCryOrder$Alarm;", Cond.methodLink RX8 64 yX8_isBelow, Cond.static yX8_isBelow, Cond.code yX8_isBelow cX8_isBelow 2 (some .boolean), Cond.methodLink RX8 129 yX0_isOpen, Cond.instanceMethod yX0_isOpen, Cond.selects RX0 yX0_isOpen yX0_isOpen, Cond.initialized RX0, Cond.code yX0_isOpen cX0_isOpen 1 (some .boolean), Cond.fieldLink RX0 9 "CryOrder$Alarm" "state" "I", Cond.methodLink RX8 133 yX0_hasHeard, Cond.instanceMethod yX0_hasHeard, Cond.selects RX0 yX0_hasHeard yX0_hasHeard, Cond.code yX0_hasHeard cX0_hasHeard 2 (some .boolean), Cond.fieldLink RX0 66 "CryOrder$Alarm" "lookersForTrue" "I", Cond.fieldLink RX0 69 "CryOrder$Alarm" "lookersForFalse" "I"]
def wsX8_verdict_r2 : List Cond := [Cond.methodLink RX8 136 yX0_hear, Cond.instanceMethod yX0_hear, Cond.selects RX0 yX0_hear yX0_hear, Cond.code yX0_hear cX0_hear 3 none, Cond.methodLink RX0 72 yJ6_bitCount_0f7a4, Cond.static yJ6_bitCount_0f7a4, Cond.initialized RJ6, Cond.code yJ6_bitCount_0f7a4 cJ6_bitCount_0f7a4 1 (some .int), Cond.constant RJ6 265 (1431655765), Cond.constant RJ6 266 (858993459), Cond.constant RJ6 267 (252645135), Cond.methodLink RX8 140 yX3_settle, Cond.instanceMethod yX3_settle, Cond.selects RX3 yX3_settle yX3_settle, Cond.initialized RX3, Cond.code yX3_settle cX3_settle 3 none, Cond.fieldLink RX3 39 "CryOrder$Node" "open" "I", Cond.fieldLink RX3 42 "CryOrder$Node" "settled" "I", Cond.fieldLink RX3 45 "CryOrder$Node" "settledTrue" "I", Cond.fieldLink RX3 9 "CryOrder$Node" "parent" "LCryOrder$Node;", Cond.static yX8_oneIf, Cond.code yX8_oneIf cX8_oneIf 1 (some .int)]
def wsX8_verdict : List Cond := .code yX8_verdict cX8_verdict 5 (some .int) :: ((wsX8_verdict_r1 ++ wsX8_verdict_r2) ++ wsX00 ++ wsX80 ++ wsX30)
def wsX8_tie_r1 : List Cond := [Cond.fieldLink RX8 79 "CryOrder" "alarmCount" "I", Cond.fieldLink RX8 36 "CryOrder" "ties" "LCryOrder$Ties;", Cond.fieldLink RX8 113 "CryOrder" "casesAreStale" "Z", Cond.methodLink RX8 64 yX8_isBelow, Cond.static yX8_isBelow, Cond.initialized RX8, Cond.code yX8_isBelow cX8_isBelow 2 (some .boolean), Cond.methodLink RX8 144 yX7_tell, Cond.instanceMethod yX7_tell, Cond.selects RX7 yX7_tell yX7_tell, Cond.initialized RX7, Cond.code yX7_tell cX7_tell 6 (some .boolean), Cond.fieldLink RX7 40 "CryOrder$Pair" "joined" "Z", Cond.fieldLink RX7 26 "CryOrder$Ties" "size" "I", Cond.fieldLink RX7 11 "CryOrder$Ties" "pairs" "[LCryOrder$Pair;", Cond.classLink RX7 9 RX4, Cond.instantiable RX4 3, Cond.initialized RX4, Cond.methodLink RX7 17 Lib.Math.min.name, Cond.static Lib.Math.min.name, Cond.initialized "java/lang/Math", Cond.code Lib.Math.min.name Lib.Math.min.code 2 (some .int), Cond.methodLink RX7 23 Lib.Math.max.name, Cond.static Lib.Math.max.name]
def wsX8_tie_r2 : List Cond := [Cond.code Lib.Math.max.name Lib.Math.max.code 2 (some .int), Cond.methodLink RX7 36 yX7_find, Cond.instanceMethod yX7_find, Cond.selects RX7 yX7_find yX7_find, Cond.code yX7_find cX7_find 6 (some (.object "CryOrder$Pair")), Cond.fieldLink RX7 30 "CryOrder$Pair" "lesser" "I", Cond.fieldLink RX7 33 "CryOrder$Pair" "greater" "I", Cond.methodLink RX7 44 yX4_init, Cond.instanceMethod yX4_init, Cond.code yX4_init cX4_init 4 none, Cond.methodLink RX4 1 objectInit, Cond.instanceMethod objectInit, Cond.code objectInit ⟨#[0xb1]⟩ 1 none, Cond.fieldLink RX4 7 "CryOrder$Pair" "lesser" "I", Cond.fieldLink RX4 13 "CryOrder$Pair" "greater" "I", Cond.fieldLink RX4 16 "CryOrder$Pair" "joined" "Z"]
def wsX8_tie : List Cond := .code yX8_tie cX8_tie 4 (some .boolean) :: ((wsX8_tie_r1 ++ wsX8_tie_r2) ++ wsX80 ++ wsX40 ++ wsX70)
def wsX8_casesNow_r1 : List Cond := [Cond.fieldLink RX8 113 "CryOrder" "casesAreStale" "Z", Cond.fieldLink RX8 43 "CryOrder" "cases" "LCryOrder$Cases;", Cond.fieldLink RX8 11 "CryOrder" "alarms" "[LCryOrder$Alarm;", Cond.fieldLink RX8 79 "CryOrder" "alarmCount" "I", Cond.fieldLink RX8 36 "CryOrder" "ties" "LCryOrder$Ties;", Cond.fieldLink RX8 58 "CryOrder" "leastSettled" "I", Cond.methodLink RX8 282 yX2_gather, Cond.instanceMethod yX2_gather, Cond.selects RX2 yX2_gather yX2_gather, Cond.initialized RX2, Cond.code yX2_gather cX2_gather 6 none, Cond.fieldLink RX2 17 "CryOrder$Alarm" "above" "LCryOrder$Alarm;", Cond.fieldLink RX2 23 "CryOrder$Alarm" "led" "LCryOrder$Case;", Cond.methodLink RX2 27 yX1_clear, Cond.instanceMethod yX1_clear, Cond.selects RX1 yX1_clear yX1_clear, Cond.initialized RX1, Cond.code yX1_clear cX1_clear 1 none, Cond.fieldLink RX1 13 "CryOrder$Case" "size" "I", Cond.fieldLink RX1 16 "CryOrder$Case" "score" "I", Cond.fieldLink RX1 19 "CryOrder$Case" "littleKnown" "Z", Cond.methodLink RX2 30 yX0_isLive, Cond.instanceMethod yX0_isLive, Cond.selects RX0 yX0_isLive yX0_isLive]
def wsX8_casesNow_r2 : List Cond := [Cond.initialized RX0, Cond.code yX0_isLive cX0_isLive 1 (some .boolean), Cond.methodLink RX0 56 yX0_isOpen, Cond.instanceMethod yX0_isOpen, Cond.selects RX0 yX0_isOpen yX0_isOpen, Cond.code yX0_isOpen cX0_isOpen 1 (some .boolean), Cond.fieldLink RX0 9 "CryOrder$Alarm" "state" "I", Cond.methodLink RX0 60 yX0_isHushed, Cond.instanceMethod yX0_isHushed, Cond.selects RX0 yX0_isHushed yX0_isHushed, Cond.code yX0_isHushed cX0_isHushed 1 (some .boolean), Cond.fieldLink RX0 49 "CryOrder$Alarm" "silenced" "Z", Cond.fieldLink RX0 53 "CryOrder$Alarm" "capped" "Z", Cond.methodLink RX2 34 yX2_joinWithSoonerOnes, Cond.static yX2_joinWithSoonerOnes, Cond.code yX2_joinWithSoonerOnes cX2_joinWithSoonerOnes 3 none, Cond.fieldLink RX2 61 "CryOrder$Alarm" "soonerOfThing" "LCryOrder$Alarm;", Cond.fieldLink RX2 64 "CryOrder$Alarm" "came" "I", Cond.fieldLink RX2 71 "CryOrder$Alarm" "number" "I", Cond.methodLink RX2 67 yX0_head, Cond.instanceMethod yX0_head, Cond.selects RX0 yX0_head yX0_head, Cond.code yX0_head cX0_head 2 (some (.object "CryOrder$Alarm")), Cond.fieldLink RX0 97 "CryOrder$Alarm" "above" "LCryOrder$Alarm;"]
def wsX8_casesNow_r3 : List Cond := [Cond.methodLink RX2 74 yX7_isParted, Cond.instanceMethod yX7_isParted, Cond.selects RX7 yX7_isParted yX7_isParted, Cond.initialized RX7, Cond.code yX7_isParted cX7_isParted 4 (some .boolean), Cond.fieldLink RX7 40 "CryOrder$Pair" "joined" "Z", Cond.methodLink RX7 36 yX7_find, Cond.instanceMethod yX7_find, Cond.selects RX7 yX7_find yX7_find, Cond.code yX7_find cX7_find 6 (some (.object "CryOrder$Pair")), Cond.methodLink RX7 17 Lib.Math.min.name, Cond.static Lib.Math.min.name, Cond.initialized "java/lang/Math", Cond.code Lib.Math.min.name Lib.Math.min.code 2 (some .int), Cond.methodLink RX7 23 Lib.Math.max.name, Cond.static Lib.Math.max.name, Cond.code Lib.Math.max.name Lib.Math.max.code 2 (some .int), Cond.fieldLink RX7 26 "CryOrder$Ties" "size" "I", Cond.fieldLink RX7 11 "CryOrder$Ties" "pairs" "[LCryOrder$Pair;", Cond.fieldLink RX7 30 "CryOrder$Pair" "lesser" "I", Cond.fieldLink RX7 33 "CryOrder$Pair" "greater" "I", Cond.methodLink RX2 79 yX0_joinCaseOf, Cond.instanceMethod yX0_joinCaseOf, Cond.selects RX0 yX0_joinCaseOf yX0_joinCaseOf]
def wsX8_casesNow_r4 : List Cond := [Cond.code yX0_joinCaseOf cX0_joinCaseOf 4 none, Cond.fieldLink RX0 15 "CryOrder$Alarm" "number" "I", Cond.methodLink RX0 101 yX0_head, Cond.methodLink RX2 38 yX2_joinToldOnes, Cond.static yX2_joinToldOnes, Cond.code yX2_joinToldOnes cX2_joinToldOnes 5 none, Cond.fieldLink RX2 83 "CryOrder$Ties" "size" "I", Cond.fieldLink RX2 84 "CryOrder$Ties" "pairs" "[LCryOrder$Pair;", Cond.fieldLink RX2 88 "CryOrder$Pair" "joined" "Z", Cond.fieldLink RX2 94 "CryOrder$Pair" "lesser" "I", Cond.fieldLink RX2 97 "CryOrder$Pair" "greater" "I", Cond.static yX8_isBelow, Cond.initialized RX8, Cond.code yX8_isBelow cX8_isBelow 2 (some .boolean), Cond.methodLink RX2 42 yX2_fillCases, Cond.static yX2_fillCases, Cond.code yX2_fillCases cX2_fillCases 5 none, Cond.fieldLink RX2 107 "CryOrder$Node" "depth" "I", Cond.methodLink RX2 100 yX0_score, Cond.instanceMethod yX0_score, Cond.selects RX0 yX0_score yX0_score, Cond.code yX0_score cX0_score 4 (some .int), Cond.fieldLink RX0 30 "CryOrder$Alarm" "worth" "I", Cond.methodLink RX0 86 yX0_nodeFor]
def wsX8_casesNow_r5 : List Cond := [Cond.instanceMethod yX0_nodeFor, Cond.selects RX0 yX0_nodeFor yX0_nodeFor, Cond.code yX0_nodeFor cX0_nodeFor 3 (some (.object "CryOrder$Node")), Cond.fieldLink RX0 33 "CryOrder$Alarm" "leaf" "LCryOrder$Node;", Cond.fieldLink RX0 78 "CryOrder$Node" "settled" "I", Cond.fieldLink RX0 83 "CryOrder$Node" "parent" "LCryOrder$Node;", Cond.methodLink RX0 90 yX3_oddsLower, Cond.instanceMethod yX3_oddsLower, Cond.selects RX3 yX3_oddsLower yX3_oddsLower, Cond.initialized RX3, Cond.code yX3_oddsLower cX3_oddsLower 1 (some .int), Cond.fieldLink RX3 42 "CryOrder$Node" "settled" "I", Cond.methodLink RX0 94 yX3_oddsUpper, Cond.instanceMethod yX3_oddsUpper, Cond.selects RX3 yX3_oddsUpper yX3_oddsUpper, Cond.code yX3_oddsUpper cX3_oddsUpper 1 (some .int), Cond.fieldLink RX3 45 "CryOrder$Node" "settledTrue" "I", Cond.methodLink RX2 103 yX0_nodeFor, Cond.methodLink RX2 112 yX1_add, Cond.instanceMethod yX1_add, Cond.selects RX1 yX1_add yX1_add, Cond.code yX1_add cX1_add 3 none, Cond.methodLink RX1 23 Lib.Math.max.name, Cond.methodLink RX2 46 yX2_putInOrder]
def wsX8_casesNow_r6 : List Cond := [Cond.instanceMethod yX2_putInOrder, Cond.selects RX2 yX2_putInOrder yX2_putInOrder, Cond.code yX2_putInOrder cX2_putInOrder 4 none, Cond.fieldLink RX2 50 "CryOrder$Cases" "size" "I", Cond.fieldLink RX2 116 "CryOrder$Case" "size" "I", Cond.methodLink RX2 117 yX2_putInPlace, Cond.instanceMethod yX2_putInPlace, Cond.selects RX2 yX2_putInPlace yX2_putInPlace, Cond.code yX2_putInPlace cX2_putInPlace 3 none, Cond.fieldLink RX2 11 "CryOrder$Cases" "ordered" "[LCryOrder$Case;", Cond.methodLink RX2 121 yX1_isAheadOf, Cond.instanceMethod yX1_isAheadOf, Cond.selects RX1 yX1_isAheadOf yX1_isAheadOf, Cond.code yX1_isAheadOf cX1_isAheadOf 2 (some .boolean), Cond.fieldLink RX1 7 "CryOrder$Case" "number" "I"]
def wsX8_casesNow : List Cond := .code yX8_casesNow cX8_casesNow 1 (some (.object "CryOrder$Cases")) :: ((wsX8_casesNow_r1 ++ (wsX8_casesNow_r2 ++ (wsX8_casesNow_r3 ++ (wsX8_casesNow_r4 ++ (wsX8_casesNow_r5 ++ wsX8_casesNow_r6))))) ++ wsX80 ++ wsX00 ++ wsX10 ++ wsX40 ++ wsX70 ++ wsX30 ++ wsX20)
def wsX8_caseNumberOf_r1 : List Cond := [Cond.fieldLink RX8 76 "CryOrder$Alarm" "number" "I", Cond.methodLink RX8 214 yX8_casesNow, Cond.instanceMethod yX8_casesNow, Cond.selects RX8 yX8_casesNow yX8_casesNow, Cond.initialized RX8, Cond.code yX8_casesNow cX8_casesNow 1 (some (.object "CryOrder$Cases")), Cond.fieldLink RX8 113 "CryOrder" "casesAreStale" "Z", Cond.fieldLink RX8 43 "CryOrder" "cases" "LCryOrder$Cases;", Cond.fieldLink RX8 11 "CryOrder" "alarms" "[LCryOrder$Alarm;", Cond.fieldLink RX8 79 "CryOrder" "alarmCount" "I", Cond.fieldLink RX8 36 "CryOrder" "ties" "LCryOrder$Ties;", Cond.fieldLink RX8 58 "CryOrder" "leastSettled" "I", Cond.methodLink RX8 282 yX2_gather, Cond.instanceMethod yX2_gather, Cond.selects RX2 yX2_gather yX2_gather, Cond.initialized RX2, Cond.code yX2_gather cX2_gather 6 none, Cond.fieldLink RX2 17 "CryOrder$Alarm" "above" "LCryOrder$Alarm;", Cond.fieldLink RX2 23 "CryOrder$Alarm" "led" "LCryOrder$Case;", Cond.methodLink RX2 27 yX1_clear, Cond.instanceMethod yX1_clear, Cond.selects RX1 yX1_clear yX1_clear, Cond.initialized RX1, Cond.code yX1_clear cX1_clear 1 none]
def wsX8_caseNumberOf_r2 : List Cond := [Cond.fieldLink RX1 13 "CryOrder$Case" "size" "I", Cond.fieldLink RX1 16 "CryOrder$Case" "score" "I", Cond.fieldLink RX1 19 "CryOrder$Case" "littleKnown" "Z", Cond.methodLink RX2 30 yX0_isLive, Cond.instanceMethod yX0_isLive, Cond.selects RX0 yX0_isLive yX0_isLive, Cond.initialized RX0, Cond.code yX0_isLive cX0_isLive 1 (some .boolean), Cond.methodLink RX0 56 yX0_isOpen, Cond.instanceMethod yX0_isOpen, Cond.selects RX0 yX0_isOpen yX0_isOpen, Cond.code yX0_isOpen cX0_isOpen 1 (some .boolean), Cond.fieldLink RX0 9 "CryOrder$Alarm" "state" "I", Cond.methodLink RX0 60 yX0_isHushed, Cond.instanceMethod yX0_isHushed, Cond.selects RX0 yX0_isHushed yX0_isHushed, Cond.code yX0_isHushed cX0_isHushed 1 (some .boolean), Cond.fieldLink RX0 49 "CryOrder$Alarm" "silenced" "Z", Cond.fieldLink RX0 53 "CryOrder$Alarm" "capped" "Z", Cond.methodLink RX2 34 yX2_joinWithSoonerOnes, Cond.static yX2_joinWithSoonerOnes, Cond.code yX2_joinWithSoonerOnes cX2_joinWithSoonerOnes 3 none, Cond.fieldLink RX2 61 "CryOrder$Alarm" "soonerOfThing" "LCryOrder$Alarm;", Cond.fieldLink RX2 64 "CryOrder$Alarm" "came" "I"]
def wsX8_caseNumberOf_r3 : List Cond := [Cond.fieldLink RX2 71 "CryOrder$Alarm" "number" "I", Cond.methodLink RX2 67 yX0_head, Cond.instanceMethod yX0_head, Cond.selects RX0 yX0_head yX0_head, Cond.code yX0_head cX0_head 2 (some (.object "CryOrder$Alarm")), Cond.fieldLink RX0 97 "CryOrder$Alarm" "above" "LCryOrder$Alarm;", Cond.methodLink RX2 74 yX7_isParted, Cond.instanceMethod yX7_isParted, Cond.selects RX7 yX7_isParted yX7_isParted, Cond.initialized RX7, Cond.code yX7_isParted cX7_isParted 4 (some .boolean), Cond.fieldLink RX7 40 "CryOrder$Pair" "joined" "Z", Cond.methodLink RX7 36 yX7_find, Cond.instanceMethod yX7_find, Cond.selects RX7 yX7_find yX7_find, Cond.code yX7_find cX7_find 6 (some (.object "CryOrder$Pair")), Cond.methodLink RX7 17 Lib.Math.min.name, Cond.static Lib.Math.min.name, Cond.initialized "java/lang/Math", Cond.code Lib.Math.min.name Lib.Math.min.code 2 (some .int), Cond.methodLink RX7 23 Lib.Math.max.name, Cond.static Lib.Math.max.name, Cond.code Lib.Math.max.name Lib.Math.max.code 2 (some .int), Cond.fieldLink RX7 26 "CryOrder$Ties" "size" "I"]
def wsX8_caseNumberOf_r4 : List Cond := [Cond.fieldLink RX7 11 "CryOrder$Ties" "pairs" "[LCryOrder$Pair;", Cond.fieldLink RX7 30 "CryOrder$Pair" "lesser" "I", Cond.fieldLink RX7 33 "CryOrder$Pair" "greater" "I", Cond.methodLink RX2 79 yX0_joinCaseOf, Cond.instanceMethod yX0_joinCaseOf, Cond.selects RX0 yX0_joinCaseOf yX0_joinCaseOf, Cond.code yX0_joinCaseOf cX0_joinCaseOf 4 none, Cond.fieldLink RX0 15 "CryOrder$Alarm" "number" "I", Cond.methodLink RX0 101 yX0_head, Cond.methodLink RX2 38 yX2_joinToldOnes, Cond.static yX2_joinToldOnes, Cond.code yX2_joinToldOnes cX2_joinToldOnes 5 none, Cond.fieldLink RX2 83 "CryOrder$Ties" "size" "I", Cond.fieldLink RX2 84 "CryOrder$Ties" "pairs" "[LCryOrder$Pair;", Cond.fieldLink RX2 88 "CryOrder$Pair" "joined" "Z", Cond.fieldLink RX2 94 "CryOrder$Pair" "lesser" "I", Cond.fieldLink RX2 97 "CryOrder$Pair" "greater" "I", Cond.static yX8_isBelow, Cond.code yX8_isBelow cX8_isBelow 2 (some .boolean), Cond.methodLink RX2 42 yX2_fillCases, Cond.static yX2_fillCases, Cond.code yX2_fillCases cX2_fillCases 5 none, Cond.fieldLink RX2 107 "CryOrder$Node" "depth" "I", Cond.methodLink RX2 100 yX0_score]
def wsX8_caseNumberOf_r5 : List Cond := [Cond.instanceMethod yX0_score, Cond.selects RX0 yX0_score yX0_score, Cond.code yX0_score cX0_score 4 (some .int), Cond.fieldLink RX0 30 "CryOrder$Alarm" "worth" "I", Cond.methodLink RX0 86 yX0_nodeFor, Cond.instanceMethod yX0_nodeFor, Cond.selects RX0 yX0_nodeFor yX0_nodeFor, Cond.code yX0_nodeFor cX0_nodeFor 3 (some (.object "CryOrder$Node")), Cond.fieldLink RX0 33 "CryOrder$Alarm" "leaf" "LCryOrder$Node;", Cond.fieldLink RX0 78 "CryOrder$Node" "settled" "I", Cond.fieldLink RX0 83 "CryOrder$Node" "parent" "LCryOrder$Node;", Cond.methodLink RX0 90 yX3_oddsLower, Cond.instanceMethod yX3_oddsLower, Cond.selects RX3 yX3_oddsLower yX3_oddsLower, Cond.initialized RX3, Cond.code yX3_oddsLower cX3_oddsLower 1 (some .int), Cond.fieldLink RX3 42 "CryOrder$Node" "settled" "I", Cond.methodLink RX0 94 yX3_oddsUpper, Cond.instanceMethod yX3_oddsUpper, Cond.selects RX3 yX3_oddsUpper yX3_oddsUpper, Cond.code yX3_oddsUpper cX3_oddsUpper 1 (some .int), Cond.fieldLink RX3 45 "CryOrder$Node" "settledTrue" "I", Cond.methodLink RX2 103 yX0_nodeFor, Cond.methodLink RX2 112 yX1_add]
def wsX8_caseNumberOf_r6 : List Cond := [Cond.instanceMethod yX1_add, Cond.selects RX1 yX1_add yX1_add, Cond.code yX1_add cX1_add 3 none, Cond.methodLink RX1 23 Lib.Math.max.name, Cond.methodLink RX2 46 yX2_putInOrder, Cond.instanceMethod yX2_putInOrder, Cond.selects RX2 yX2_putInOrder yX2_putInOrder, Cond.code yX2_putInOrder cX2_putInOrder 4 none, Cond.fieldLink RX2 50 "CryOrder$Cases" "size" "I", Cond.fieldLink RX2 116 "CryOrder$Case" "size" "I", Cond.methodLink RX2 117 yX2_putInPlace, Cond.instanceMethod yX2_putInPlace, Cond.selects RX2 yX2_putInPlace yX2_putInPlace, Cond.code yX2_putInPlace cX2_putInPlace 3 none, Cond.fieldLink RX2 11 "CryOrder$Cases" "ordered" "[LCryOrder$Case;", Cond.methodLink RX2 121 yX1_isAheadOf, Cond.instanceMethod yX1_isAheadOf, Cond.selects RX1 yX1_isAheadOf yX1_isAheadOf, Cond.code yX1_isAheadOf cX1_isAheadOf 2 (some .boolean), Cond.fieldLink RX1 7 "CryOrder$Case" "number" "I", Cond.methodLink RX8 225 yX0_isLive, Cond.methodLink RX8 286 yX0_head]
def wsX8_caseNumberOf : List Cond := .code yX8_caseNumberOf cX8_caseNumberOf 2 (some .int) :: ((wsX8_caseNumberOf_r1 ++ (wsX8_caseNumberOf_r2 ++ (wsX8_caseNumberOf_r3 ++ (wsX8_caseNumberOf_r4 ++ (wsX8_caseNumberOf_r5 ++ wsX8_caseNumberOf_r6))))) ++ wsX00 ++ wsX80 ++ wsX10 ++ wsX40 ++ wsX70 ++ wsX30 ++ wsX20)
def wsX8_told_r1 : List Cond := [Cond.fieldLink RX8 148 "CryOrder$Alarm" "came" "I", Cond.fieldLink RX8 151 "CryOrder$Alarm" "source" "I", Cond.fieldLink RX8 154 "CryOrder$Alarm" "thing" "I", Cond.fieldLink RX8 157 "CryOrder$Alarm" "marks" "I", Cond.fieldLink RX8 160 "CryOrder$Alarm" "worth" "I", Cond.fieldLink RX8 163 "CryOrder$Alarm" "repeats" "I", Cond.fieldLink RX8 166 "CryOrder$Alarm" "state" "I", Cond.fieldLink RX8 93 "CryOrder$Alarm" "silenced" "Z", Cond.fieldLink RX8 100 "CryOrder$Alarm" "capped" "Z", Cond.fieldLink RX8 58 "CryOrder" "leastSettled" "I", Cond.fieldLink RX8 180 "CryOrder$Node" "depth" "I", Cond.methodLink RX8 125 yX8_alarmAt, Cond.instanceMethod yX8_alarmAt, Cond.selects RX8 yX8_alarmAt yX8_alarmAt, Cond.initialized RX8, Cond.code yX8_alarmAt cX8_alarmAt 2 (some (.object "CryOrder$Alarm")), Cond.fieldLink RX8 79 "CryOrder" "alarmCount" "I", Cond.fieldLink RX8 11 "CryOrder" "alarms" "[LCryOrder$Alarm;", Cond.methodLink RX8 64 yX8_isBelow, Cond.static yX8_isBelow, Cond.code yX8_isBelow cX8_isBelow 2 (some .boolean), Cond.methodLink RX8 169 yX8_oneIf, Cond.static yX8_oneIf, Cond.code yX8_oneIf cX8_oneIf 1 (some .int)]
def wsX8_told_r2 : List Cond := [Cond.methodLink RX8 173 yX0_score, Cond.instanceMethod yX0_score, Cond.selects RX0 yX0_score yX0_score, Cond.initialized RX0, Cond.code yX0_score cX0_score 4 (some .int), Cond.fieldLink RX0 30 "CryOrder$Alarm" "worth" "I", Cond.methodLink RX0 86 yX0_nodeFor, Cond.instanceMethod yX0_nodeFor, Cond.selects RX0 yX0_nodeFor yX0_nodeFor, Cond.code yX0_nodeFor cX0_nodeFor 3 (some (.object "CryOrder$Node")), Cond.fieldLink RX0 33 "CryOrder$Alarm" "leaf" "LCryOrder$Node;", Cond.fieldLink RX0 78 "CryOrder$Node" "settled" "I", Cond.fieldLink RX0 83 "CryOrder$Node" "parent" "LCryOrder$Node;", Cond.methodLink RX0 90 yX3_oddsLower, Cond.instanceMethod yX3_oddsLower, Cond.selects RX3 yX3_oddsLower yX3_oddsLower, Cond.initialized RX3, Cond.code yX3_oddsLower cX3_oddsLower 1 (some .int), Cond.fieldLink RX3 42 "CryOrder$Node" "settled" "I", Cond.methodLink RX0 94 yX3_oddsUpper, Cond.instanceMethod yX3_oddsUpper, Cond.selects RX3 yX3_oddsUpper yX3_oddsUpper, Cond.code yX3_oddsUpper cX3_oddsUpper 1 (some .int), Cond.fieldLink RX3 45 "CryOrder$Node" "settledTrue" "I"]
def wsX8_told_r3 : List Cond := [Cond.methodLink RX8 177 yX0_nodeFor, Cond.methodLink RX8 183 yX0_verdicts, Cond.instanceMethod yX0_verdicts, Cond.selects RX0 yX0_verdicts yX0_verdicts, Cond.code yX0_verdicts cX0_verdicts 1 (some .int), Cond.fieldLink RX0 66 "CryOrder$Alarm" "lookersForTrue" "I", Cond.fieldLink RX0 69 "CryOrder$Alarm" "lookersForFalse" "I", Cond.methodLink RX0 72 yJ6_bitCount_0f7a4, Cond.static yJ6_bitCount_0f7a4, Cond.initialized RJ6, Cond.code yJ6_bitCount_0f7a4 cJ6_bitCount_0f7a4 1 (some .int), Cond.constant RJ6 265 (1431655765), Cond.constant RJ6 266 (858993459), Cond.constant RJ6 267 (252645135), Cond.methodLink RX8 187 yX8_caseNumberOf, Cond.instanceMethod yX8_caseNumberOf, Cond.selects RX8 yX8_caseNumberOf yX8_caseNumberOf, Cond.code yX8_caseNumberOf cX8_caseNumberOf 2 (some .int), Cond.fieldLink RX8 76 "CryOrder$Alarm" "number" "I", Cond.methodLink RX8 214 yX8_casesNow, Cond.instanceMethod yX8_casesNow, Cond.selects RX8 yX8_casesNow yX8_casesNow, Cond.code yX8_casesNow cX8_casesNow 1 (some (.object "CryOrder$Cases")), Cond.fieldLink RX8 113 "CryOrder" "casesAreStale" "Z"]
def wsX8_told_r4 : List Cond := [Cond.fieldLink RX8 43 "CryOrder" "cases" "LCryOrder$Cases;", Cond.fieldLink RX8 36 "CryOrder" "ties" "LCryOrder$Ties;", Cond.methodLink RX8 282 yX2_gather, Cond.instanceMethod yX2_gather, Cond.selects RX2 yX2_gather yX2_gather, Cond.initialized RX2, Cond.code yX2_gather cX2_gather 6 none, Cond.fieldLink RX2 17 "CryOrder$Alarm" "above" "LCryOrder$Alarm;", Cond.fieldLink RX2 23 "CryOrder$Alarm" "led" "LCryOrder$Case;", Cond.methodLink RX2 27 yX1_clear, Cond.instanceMethod yX1_clear, Cond.selects RX1 yX1_clear yX1_clear, Cond.initialized RX1, Cond.code yX1_clear cX1_clear 1 none, Cond.fieldLink RX1 13 "CryOrder$Case" "size" "I", Cond.fieldLink RX1 16 "CryOrder$Case" "score" "I", Cond.fieldLink RX1 19 "CryOrder$Case" "littleKnown" "Z", Cond.methodLink RX2 30 yX0_isLive, Cond.instanceMethod yX0_isLive, Cond.selects RX0 yX0_isLive yX0_isLive, Cond.code yX0_isLive cX0_isLive 1 (some .boolean), Cond.methodLink RX0 56 yX0_isOpen, Cond.instanceMethod yX0_isOpen, Cond.selects RX0 yX0_isOpen yX0_isOpen]
def wsX8_told_r5 : List Cond := [Cond.code yX0_isOpen cX0_isOpen 1 (some .boolean), Cond.fieldLink RX0 9 "CryOrder$Alarm" "state" "I", Cond.methodLink RX0 60 yX0_isHushed, Cond.instanceMethod yX0_isHushed, Cond.selects RX0 yX0_isHushed yX0_isHushed, Cond.code yX0_isHushed cX0_isHushed 1 (some .boolean), Cond.fieldLink RX0 49 "CryOrder$Alarm" "silenced" "Z", Cond.fieldLink RX0 53 "CryOrder$Alarm" "capped" "Z", Cond.methodLink RX2 34 yX2_joinWithSoonerOnes, Cond.static yX2_joinWithSoonerOnes, Cond.code yX2_joinWithSoonerOnes cX2_joinWithSoonerOnes 3 none, Cond.fieldLink RX2 61 "CryOrder$Alarm" "soonerOfThing" "LCryOrder$Alarm;", Cond.fieldLink RX2 64 "CryOrder$Alarm" "came" "I", Cond.fieldLink RX2 71 "CryOrder$Alarm" "number" "I", Cond.methodLink RX2 67 yX0_head, Cond.instanceMethod yX0_head, Cond.selects RX0 yX0_head yX0_head, Cond.code yX0_head cX0_head 2 (some (.object "CryOrder$Alarm")), Cond.fieldLink RX0 97 "CryOrder$Alarm" "above" "LCryOrder$Alarm;", Cond.methodLink RX2 74 yX7_isParted, Cond.instanceMethod yX7_isParted, Cond.selects RX7 yX7_isParted yX7_isParted, Cond.initialized RX7, Cond.code yX7_isParted cX7_isParted 4 (some .boolean)]
def wsX8_told_r6 : List Cond := [Cond.fieldLink RX7 40 "CryOrder$Pair" "joined" "Z", Cond.methodLink RX7 36 yX7_find, Cond.instanceMethod yX7_find, Cond.selects RX7 yX7_find yX7_find, Cond.code yX7_find cX7_find 6 (some (.object "CryOrder$Pair")), Cond.methodLink RX7 17 Lib.Math.min.name, Cond.static Lib.Math.min.name, Cond.initialized "java/lang/Math", Cond.code Lib.Math.min.name Lib.Math.min.code 2 (some .int), Cond.methodLink RX7 23 Lib.Math.max.name, Cond.static Lib.Math.max.name, Cond.code Lib.Math.max.name Lib.Math.max.code 2 (some .int), Cond.fieldLink RX7 26 "CryOrder$Ties" "size" "I", Cond.fieldLink RX7 11 "CryOrder$Ties" "pairs" "[LCryOrder$Pair;", Cond.fieldLink RX7 30 "CryOrder$Pair" "lesser" "I", Cond.fieldLink RX7 33 "CryOrder$Pair" "greater" "I", Cond.methodLink RX2 79 yX0_joinCaseOf, Cond.instanceMethod yX0_joinCaseOf, Cond.selects RX0 yX0_joinCaseOf yX0_joinCaseOf, Cond.code yX0_joinCaseOf cX0_joinCaseOf 4 none, Cond.fieldLink RX0 15 "CryOrder$Alarm" "number" "I", Cond.methodLink RX0 101 yX0_head, Cond.methodLink RX2 38 yX2_joinToldOnes, Cond.static yX2_joinToldOnes]
def wsX8_told_r7 : List Cond := [Cond.code yX2_joinToldOnes cX2_joinToldOnes 5 none, Cond.fieldLink RX2 83 "CryOrder$Ties" "size" "I", Cond.fieldLink RX2 84 "CryOrder$Ties" "pairs" "[LCryOrder$Pair;", Cond.fieldLink RX2 88 "CryOrder$Pair" "joined" "Z", Cond.fieldLink RX2 94 "CryOrder$Pair" "lesser" "I", Cond.fieldLink RX2 97 "CryOrder$Pair" "greater" "I", Cond.methodLink RX2 42 yX2_fillCases, Cond.static yX2_fillCases, Cond.code yX2_fillCases cX2_fillCases 5 none, Cond.fieldLink RX2 107 "CryOrder$Node" "depth" "I", Cond.methodLink RX2 100 yX0_score, Cond.methodLink RX2 103 yX0_nodeFor, Cond.methodLink RX2 112 yX1_add, Cond.instanceMethod yX1_add, Cond.selects RX1 yX1_add yX1_add, Cond.code yX1_add cX1_add 3 none, Cond.methodLink RX1 23 Lib.Math.max.name, Cond.methodLink RX2 46 yX2_putInOrder, Cond.instanceMethod yX2_putInOrder, Cond.selects RX2 yX2_putInOrder yX2_putInOrder, Cond.code yX2_putInOrder cX2_putInOrder 4 none, Cond.fieldLink RX2 50 "CryOrder$Cases" "size" "I", Cond.fieldLink RX2 116 "CryOrder$Case" "size" "I", Cond.methodLink RX2 117 yX2_putInPlace]
def wsX8_told_r8 : List Cond := [Cond.instanceMethod yX2_putInPlace, Cond.selects RX2 yX2_putInPlace yX2_putInPlace, Cond.code yX2_putInPlace cX2_putInPlace 3 none, Cond.fieldLink RX2 11 "CryOrder$Cases" "ordered" "[LCryOrder$Case;", Cond.methodLink RX2 121 yX1_isAheadOf, Cond.instanceMethod yX1_isAheadOf, Cond.selects RX1 yX1_isAheadOf yX1_isAheadOf, Cond.code yX1_isAheadOf cX1_isAheadOf 2 (some .boolean), Cond.fieldLink RX1 7 "CryOrder$Case" "number" "I", Cond.methodLink RX8 225 yX0_isLive, Cond.methodLink RX8 286 yX0_head]
def wsX8_told : List Cond := .code yX8_told cX8_told 4 (some .int) :: ((wsX8_told_r1 ++ (wsX8_told_r2 ++ (wsX8_told_r3 ++ (wsX8_told_r4 ++ (wsX8_told_r5 ++ (wsX8_told_r6 ++ (wsX8_told_r7 ++ wsX8_told_r8))))))) ++ wsX00 ++ wsX80 ++ wsX30 ++ wsX10 ++ wsX40 ++ wsX70 ++ wsX20)
def wsX8_node : List Cond := .code yX8_node cX8_node 5 (some .int) :: ([.fieldLink RX8 29 "CryOrder" "root" "LCryOrder$Node;", .fieldLink RX8 195 "CryOrder$Node" "settledTrue" "I", .fieldLink RX8 198 "CryOrder$Node" "settled" "I", .fieldLink RX8 201 "CryOrder$Node" "open" "I", .methodLink RX8 64 yX8_isBelow, .static yX8_isBelow, .initialized RX8, .code yX8_isBelow cX8_isBelow 2 (some .boolean), .methodLink RX8 191 yX3_find, .instanceMethod yX3_find, .selects RX3 yX3_find yX3_find, .initialized RX3, .code yX3_find cX3_find 5 (some (.object "CryOrder$Node")), .methodLink RX3 28 yX3_markAt, .static yX3_markAt, .code yX3_markAt cX3_markAt 2 (some .int), .methodLink RX3 32 yX3_child, .instanceMethod yX3_child, .selects RX3 yX3_child yX3_child, .code yX3_child cX3_child 3 (some (.object "CryOrder$Node")), .fieldLink RX3 25 "CryOrder$Node" "firstChild" "LCryOrder$Node;", .fieldLink RX3 19 "CryOrder$Node" "mark" "I", .fieldLink RX3 22 "CryOrder$Node" "sibling" "LCryOrder$Node;"] ++ wsX80 ++ wsX30)
def wsX8_inLowestTerms : List Cond := .code yX8_inLowestTerms cX8_inLowestTerms 7 (some .int) :: ([])
def wsX8_odds_r1 : List Cond := [Cond.fieldLink RX8 58 "CryOrder" "leastSettled" "I", Cond.fieldLink RX8 195 "CryOrder$Node" "settledTrue" "I", Cond.fieldLink RX8 201 "CryOrder$Node" "open" "I", Cond.fieldLink RX8 198 "CryOrder$Node" "settled" "I", Cond.methodLink RX8 125 yX8_alarmAt, Cond.instanceMethod yX8_alarmAt, Cond.selects RX8 yX8_alarmAt yX8_alarmAt, Cond.initialized RX8, Cond.code yX8_alarmAt cX8_alarmAt 2 (some (.object "CryOrder$Alarm")), Cond.fieldLink RX8 79 "CryOrder" "alarmCount" "I", Cond.fieldLink RX8 11 "CryOrder" "alarms" "[LCryOrder$Alarm;", Cond.methodLink RX8 64 yX8_isBelow, Cond.static yX8_isBelow, Cond.code yX8_isBelow cX8_isBelow 2 (some .boolean), Cond.methodLink RX8 177 yX0_nodeFor, Cond.instanceMethod yX0_nodeFor, Cond.selects RX0 yX0_nodeFor yX0_nodeFor, Cond.initialized RX0, Cond.code yX0_nodeFor cX0_nodeFor 3 (some (.object "CryOrder$Node")), Cond.fieldLink RX0 33 "CryOrder$Alarm" "leaf" "LCryOrder$Node;", Cond.fieldLink RX0 78 "CryOrder$Node" "settled" "I", Cond.fieldLink RX0 83 "CryOrder$Node" "parent" "LCryOrder$Node;", Cond.methodLink RX8 204 yX3_oddsUpper, Cond.instanceMethod yX3_oddsUpper]
def wsX8_odds_r2 : List Cond := [Cond.selects RX3 yX3_oddsUpper yX3_oddsUpper, Cond.initialized RX3, Cond.code yX3_oddsUpper cX3_oddsUpper 1 (some .int), Cond.fieldLink RX3 42 "CryOrder$Node" "settled" "I", Cond.fieldLink RX3 45 "CryOrder$Node" "settledTrue" "I", Cond.methodLink RX8 207 yX3_oddsLower, Cond.instanceMethod yX3_oddsLower, Cond.selects RX3 yX3_oddsLower yX3_oddsLower, Cond.code yX3_oddsLower cX3_oddsLower 1 (some .int), Cond.methodLink RX8 210 yX8_inLowestTerms, Cond.static yX8_inLowestTerms, Cond.code yX8_inLowestTerms cX8_inLowestTerms 7 (some .int)]
def wsX8_odds : List Cond := .code yX8_odds cX8_odds 7 (some .int) :: ((wsX8_odds_r1 ++ wsX8_odds_r2) ++ wsX80 ++ wsX30 ++ wsX00)
def wsX8_order_r1 : List Cond := [Cond.fieldLink RX8 222 "CryOrder$Case" "number" "I", Cond.methodLink RX8 214 yX8_casesNow, Cond.instanceMethod yX8_casesNow, Cond.selects RX8 yX8_casesNow yX8_casesNow, Cond.initialized RX8, Cond.code yX8_casesNow cX8_casesNow 1 (some (.object "CryOrder$Cases")), Cond.fieldLink RX8 113 "CryOrder" "casesAreStale" "Z", Cond.fieldLink RX8 43 "CryOrder" "cases" "LCryOrder$Cases;", Cond.fieldLink RX8 11 "CryOrder" "alarms" "[LCryOrder$Alarm;", Cond.fieldLink RX8 79 "CryOrder" "alarmCount" "I", Cond.fieldLink RX8 36 "CryOrder" "ties" "LCryOrder$Ties;", Cond.fieldLink RX8 58 "CryOrder" "leastSettled" "I", Cond.methodLink RX8 282 yX2_gather, Cond.instanceMethod yX2_gather, Cond.selects RX2 yX2_gather yX2_gather, Cond.initialized RX2, Cond.code yX2_gather cX2_gather 6 none, Cond.fieldLink RX2 17 "CryOrder$Alarm" "above" "LCryOrder$Alarm;", Cond.fieldLink RX2 23 "CryOrder$Alarm" "led" "LCryOrder$Case;", Cond.methodLink RX2 27 yX1_clear, Cond.instanceMethod yX1_clear, Cond.selects RX1 yX1_clear yX1_clear, Cond.initialized RX1, Cond.code yX1_clear cX1_clear 1 none]
def wsX8_order_r2 : List Cond := [Cond.fieldLink RX1 13 "CryOrder$Case" "size" "I", Cond.fieldLink RX1 16 "CryOrder$Case" "score" "I", Cond.fieldLink RX1 19 "CryOrder$Case" "littleKnown" "Z", Cond.methodLink RX2 30 yX0_isLive, Cond.instanceMethod yX0_isLive, Cond.selects RX0 yX0_isLive yX0_isLive, Cond.initialized RX0, Cond.code yX0_isLive cX0_isLive 1 (some .boolean), Cond.methodLink RX0 56 yX0_isOpen, Cond.instanceMethod yX0_isOpen, Cond.selects RX0 yX0_isOpen yX0_isOpen, Cond.code yX0_isOpen cX0_isOpen 1 (some .boolean), Cond.fieldLink RX0 9 "CryOrder$Alarm" "state" "I", Cond.methodLink RX0 60 yX0_isHushed, Cond.instanceMethod yX0_isHushed, Cond.selects RX0 yX0_isHushed yX0_isHushed, Cond.code yX0_isHushed cX0_isHushed 1 (some .boolean), Cond.fieldLink RX0 49 "CryOrder$Alarm" "silenced" "Z", Cond.fieldLink RX0 53 "CryOrder$Alarm" "capped" "Z", Cond.methodLink RX2 34 yX2_joinWithSoonerOnes, Cond.static yX2_joinWithSoonerOnes, Cond.code yX2_joinWithSoonerOnes cX2_joinWithSoonerOnes 3 none, Cond.fieldLink RX2 61 "CryOrder$Alarm" "soonerOfThing" "LCryOrder$Alarm;", Cond.fieldLink RX2 64 "CryOrder$Alarm" "came" "I"]
def wsX8_order_r3 : List Cond := [Cond.fieldLink RX2 71 "CryOrder$Alarm" "number" "I", Cond.methodLink RX2 67 yX0_head, Cond.instanceMethod yX0_head, Cond.selects RX0 yX0_head yX0_head, Cond.code yX0_head cX0_head 2 (some (.object "CryOrder$Alarm")), Cond.fieldLink RX0 97 "CryOrder$Alarm" "above" "LCryOrder$Alarm;", Cond.methodLink RX2 74 yX7_isParted, Cond.instanceMethod yX7_isParted, Cond.selects RX7 yX7_isParted yX7_isParted, Cond.initialized RX7, Cond.code yX7_isParted cX7_isParted 4 (some .boolean), Cond.fieldLink RX7 40 "CryOrder$Pair" "joined" "Z", Cond.methodLink RX7 36 yX7_find, Cond.instanceMethod yX7_find, Cond.selects RX7 yX7_find yX7_find, Cond.code yX7_find cX7_find 6 (some (.object "CryOrder$Pair")), Cond.methodLink RX7 17 Lib.Math.min.name, Cond.static Lib.Math.min.name, Cond.initialized "java/lang/Math", Cond.code Lib.Math.min.name Lib.Math.min.code 2 (some .int), Cond.methodLink RX7 23 Lib.Math.max.name, Cond.static Lib.Math.max.name, Cond.code Lib.Math.max.name Lib.Math.max.code 2 (some .int), Cond.fieldLink RX7 26 "CryOrder$Ties" "size" "I"]
def wsX8_order_r4 : List Cond := [Cond.fieldLink RX7 11 "CryOrder$Ties" "pairs" "[LCryOrder$Pair;", Cond.fieldLink RX7 30 "CryOrder$Pair" "lesser" "I", Cond.fieldLink RX7 33 "CryOrder$Pair" "greater" "I", Cond.methodLink RX2 79 yX0_joinCaseOf, Cond.instanceMethod yX0_joinCaseOf, Cond.selects RX0 yX0_joinCaseOf yX0_joinCaseOf, Cond.code yX0_joinCaseOf cX0_joinCaseOf 4 none, Cond.fieldLink RX0 15 "CryOrder$Alarm" "number" "I", Cond.methodLink RX0 101 yX0_head, Cond.methodLink RX2 38 yX2_joinToldOnes, Cond.static yX2_joinToldOnes, Cond.code yX2_joinToldOnes cX2_joinToldOnes 5 none, Cond.fieldLink RX2 83 "CryOrder$Ties" "size" "I", Cond.fieldLink RX2 84 "CryOrder$Ties" "pairs" "[LCryOrder$Pair;", Cond.fieldLink RX2 88 "CryOrder$Pair" "joined" "Z", Cond.fieldLink RX2 94 "CryOrder$Pair" "lesser" "I", Cond.fieldLink RX2 97 "CryOrder$Pair" "greater" "I", Cond.static yX8_isBelow, Cond.code yX8_isBelow cX8_isBelow 2 (some .boolean), Cond.methodLink RX2 42 yX2_fillCases, Cond.static yX2_fillCases, Cond.code yX2_fillCases cX2_fillCases 5 none, Cond.fieldLink RX2 107 "CryOrder$Node" "depth" "I", Cond.methodLink RX2 100 yX0_score]
def wsX8_order_r5 : List Cond := [Cond.instanceMethod yX0_score, Cond.selects RX0 yX0_score yX0_score, Cond.code yX0_score cX0_score 4 (some .int), Cond.fieldLink RX0 30 "CryOrder$Alarm" "worth" "I", Cond.methodLink RX0 86 yX0_nodeFor, Cond.instanceMethod yX0_nodeFor, Cond.selects RX0 yX0_nodeFor yX0_nodeFor, Cond.code yX0_nodeFor cX0_nodeFor 3 (some (.object "CryOrder$Node")), Cond.fieldLink RX0 33 "CryOrder$Alarm" "leaf" "LCryOrder$Node;", Cond.fieldLink RX0 78 "CryOrder$Node" "settled" "I", Cond.fieldLink RX0 83 "CryOrder$Node" "parent" "LCryOrder$Node;", Cond.methodLink RX0 90 yX3_oddsLower, Cond.instanceMethod yX3_oddsLower, Cond.selects RX3 yX3_oddsLower yX3_oddsLower, Cond.initialized RX3, Cond.code yX3_oddsLower cX3_oddsLower 1 (some .int), Cond.fieldLink RX3 42 "CryOrder$Node" "settled" "I", Cond.methodLink RX0 94 yX3_oddsUpper, Cond.instanceMethod yX3_oddsUpper, Cond.selects RX3 yX3_oddsUpper yX3_oddsUpper, Cond.code yX3_oddsUpper cX3_oddsUpper 1 (some .int), Cond.fieldLink RX3 45 "CryOrder$Node" "settledTrue" "I", Cond.methodLink RX2 103 yX0_nodeFor, Cond.methodLink RX2 112 yX1_add]
def wsX8_order_r6 : List Cond := [Cond.instanceMethod yX1_add, Cond.selects RX1 yX1_add yX1_add, Cond.code yX1_add cX1_add 3 none, Cond.methodLink RX1 23 Lib.Math.max.name, Cond.methodLink RX2 46 yX2_putInOrder, Cond.instanceMethod yX2_putInOrder, Cond.selects RX2 yX2_putInOrder yX2_putInOrder, Cond.code yX2_putInOrder cX2_putInOrder 4 none, Cond.fieldLink RX2 50 "CryOrder$Cases" "size" "I", Cond.fieldLink RX2 116 "CryOrder$Case" "size" "I", Cond.methodLink RX2 117 yX2_putInPlace, Cond.instanceMethod yX2_putInPlace, Cond.selects RX2 yX2_putInPlace yX2_putInPlace, Cond.code yX2_putInPlace cX2_putInPlace 3 none, Cond.fieldLink RX2 11 "CryOrder$Cases" "ordered" "[LCryOrder$Case;", Cond.methodLink RX2 121 yX1_isAheadOf, Cond.instanceMethod yX1_isAheadOf, Cond.selects RX1 yX1_isAheadOf yX1_isAheadOf, Cond.code yX1_isAheadOf cX1_isAheadOf 2 (some .boolean), Cond.fieldLink RX1 7 "CryOrder$Case" "number" "I", Cond.methodLink RX8 218 yX2_at, Cond.instanceMethod yX2_at, Cond.selects RX2 yX2_at yX2_at, Cond.code yX2_at cX2_at 2 (some (.object "CryOrder$Case"))]
def wsX8_order : List Cond := .code yX8_order cX8_order 3 (some .int) :: ((wsX8_order_r1 ++ (wsX8_order_r2 ++ (wsX8_order_r3 ++ (wsX8_order_r4 ++ (wsX8_order_r5 ++ wsX8_order_r6))))) ++ wsX10 ++ wsX80 ++ wsX00 ++ wsX40 ++ wsX70 ++ wsX30 ++ wsX20)
def wsX8_memberOf : List Cond := .code yX8_memberOf cX8_memberOf 6 (some .int) :: ([.fieldLink RX8 76 "CryOrder$Alarm" "number" "I", .fieldLink RX8 79 "CryOrder" "alarmCount" "I", .fieldLink RX8 11 "CryOrder" "alarms" "[LCryOrder$Alarm;", .methodLink RX8 225 yX0_isLive, .instanceMethod yX0_isLive, .selects RX0 yX0_isLive yX0_isLive, .initialized RX0, .code yX0_isLive cX0_isLive 1 (some .boolean), .methodLink RX0 56 yX0_isOpen, .instanceMethod yX0_isOpen, .selects RX0 yX0_isOpen yX0_isOpen, .code yX0_isOpen cX0_isOpen 1 (some .boolean), .fieldLink RX0 9 "CryOrder$Alarm" "state" "I", .methodLink RX0 60 yX0_isHushed, .instanceMethod yX0_isHushed, .selects RX0 yX0_isHushed yX0_isHushed, .code yX0_isHushed cX0_isHushed 1 (some .boolean), .fieldLink RX0 49 "CryOrder$Alarm" "silenced" "Z", .fieldLink RX0 53 "CryOrder$Alarm" "capped" "Z", .methodLink RX8 286 yX0_head, .instanceMethod yX0_head, .selects RX0 yX0_head yX0_head, .code yX0_head cX0_head 2 (some (.object "CryOrder$Alarm")), .fieldLink RX0 97 "CryOrder$Alarm" "above" "LCryOrder$Alarm;"] ++ wsX00 ++ wsX80)
def wsX8_caseOf_r1 : List Cond := [Cond.fieldLink RX8 228 "CryOrder$Alarm" "above" "LCryOrder$Alarm;", Cond.fieldLink RX8 231 "CryOrder$Alarm" "led" "LCryOrder$Case;", Cond.fieldLink RX8 235 "CryOrder$Case" "size" "I", Cond.fieldLink RX8 238 "CryOrder$Case" "score" "I", Cond.fieldLink RX8 243 "CryOrder$Case" "littleKnown" "Z", Cond.methodLink RX8 214 yX8_casesNow, Cond.instanceMethod yX8_casesNow, Cond.selects RX8 yX8_casesNow yX8_casesNow, Cond.initialized RX8, Cond.code yX8_casesNow cX8_casesNow 1 (some (.object "CryOrder$Cases")), Cond.fieldLink RX8 113 "CryOrder" "casesAreStale" "Z", Cond.fieldLink RX8 43 "CryOrder" "cases" "LCryOrder$Cases;", Cond.fieldLink RX8 11 "CryOrder" "alarms" "[LCryOrder$Alarm;", Cond.fieldLink RX8 79 "CryOrder" "alarmCount" "I", Cond.fieldLink RX8 36 "CryOrder" "ties" "LCryOrder$Ties;", Cond.fieldLink RX8 58 "CryOrder" "leastSettled" "I", Cond.methodLink RX8 282 yX2_gather, Cond.instanceMethod yX2_gather, Cond.selects RX2 yX2_gather yX2_gather, Cond.initialized RX2, Cond.code yX2_gather cX2_gather 6 none, Cond.fieldLink RX2 17 "CryOrder$Alarm" "above" "LCryOrder$Alarm;", Cond.fieldLink RX2 23 "CryOrder$Alarm" "led" "LCryOrder$Case;", Cond.methodLink RX2 27 yX1_clear]
def wsX8_caseOf_r2 : List Cond := [Cond.instanceMethod yX1_clear, Cond.selects RX1 yX1_clear yX1_clear, Cond.initialized RX1, Cond.code yX1_clear cX1_clear 1 none, Cond.fieldLink RX1 13 "CryOrder$Case" "size" "I", Cond.fieldLink RX1 16 "CryOrder$Case" "score" "I", Cond.fieldLink RX1 19 "CryOrder$Case" "littleKnown" "Z", Cond.methodLink RX2 30 yX0_isLive, Cond.instanceMethod yX0_isLive, Cond.selects RX0 yX0_isLive yX0_isLive, Cond.initialized RX0, Cond.code yX0_isLive cX0_isLive 1 (some .boolean), Cond.methodLink RX0 56 yX0_isOpen, Cond.instanceMethod yX0_isOpen, Cond.selects RX0 yX0_isOpen yX0_isOpen, Cond.code yX0_isOpen cX0_isOpen 1 (some .boolean), Cond.fieldLink RX0 9 "CryOrder$Alarm" "state" "I", Cond.methodLink RX0 60 yX0_isHushed, Cond.instanceMethod yX0_isHushed, Cond.selects RX0 yX0_isHushed yX0_isHushed, Cond.code yX0_isHushed cX0_isHushed 1 (some .boolean), Cond.fieldLink RX0 49 "CryOrder$Alarm" "silenced" "Z", Cond.fieldLink RX0 53 "CryOrder$Alarm" "capped" "Z", Cond.methodLink RX2 34 yX2_joinWithSoonerOnes]
def wsX8_caseOf_r3 : List Cond := [Cond.static yX2_joinWithSoonerOnes, Cond.code yX2_joinWithSoonerOnes cX2_joinWithSoonerOnes 3 none, Cond.fieldLink RX2 61 "CryOrder$Alarm" "soonerOfThing" "LCryOrder$Alarm;", Cond.fieldLink RX2 64 "CryOrder$Alarm" "came" "I", Cond.fieldLink RX2 71 "CryOrder$Alarm" "number" "I", Cond.methodLink RX2 67 yX0_head, Cond.instanceMethod yX0_head, Cond.selects RX0 yX0_head yX0_head, Cond.code yX0_head cX0_head 2 (some (.object "CryOrder$Alarm")), Cond.fieldLink RX0 97 "CryOrder$Alarm" "above" "LCryOrder$Alarm;", Cond.methodLink RX2 74 yX7_isParted, Cond.instanceMethod yX7_isParted, Cond.selects RX7 yX7_isParted yX7_isParted, Cond.initialized RX7, Cond.code yX7_isParted cX7_isParted 4 (some .boolean), Cond.fieldLink RX7 40 "CryOrder$Pair" "joined" "Z", Cond.methodLink RX7 36 yX7_find, Cond.instanceMethod yX7_find, Cond.selects RX7 yX7_find yX7_find, Cond.code yX7_find cX7_find 6 (some (.object "CryOrder$Pair")), Cond.methodLink RX7 17 Lib.Math.min.name, Cond.static Lib.Math.min.name, Cond.initialized "java/lang/Math", Cond.code Lib.Math.min.name Lib.Math.min.code 2 (some .int)]
def wsX8_caseOf_r4 : List Cond := [Cond.methodLink RX7 23 Lib.Math.max.name, Cond.static Lib.Math.max.name, Cond.code Lib.Math.max.name Lib.Math.max.code 2 (some .int), Cond.fieldLink RX7 26 "CryOrder$Ties" "size" "I", Cond.fieldLink RX7 11 "CryOrder$Ties" "pairs" "[LCryOrder$Pair;", Cond.fieldLink RX7 30 "CryOrder$Pair" "lesser" "I", Cond.fieldLink RX7 33 "CryOrder$Pair" "greater" "I", Cond.methodLink RX2 79 yX0_joinCaseOf, Cond.instanceMethod yX0_joinCaseOf, Cond.selects RX0 yX0_joinCaseOf yX0_joinCaseOf, Cond.code yX0_joinCaseOf cX0_joinCaseOf 4 none, Cond.fieldLink RX0 15 "CryOrder$Alarm" "number" "I", Cond.methodLink RX0 101 yX0_head, Cond.methodLink RX2 38 yX2_joinToldOnes, Cond.static yX2_joinToldOnes, Cond.code yX2_joinToldOnes cX2_joinToldOnes 5 none, Cond.fieldLink RX2 83 "CryOrder$Ties" "size" "I", Cond.fieldLink RX2 84 "CryOrder$Ties" "pairs" "[LCryOrder$Pair;", Cond.fieldLink RX2 88 "CryOrder$Pair" "joined" "Z", Cond.fieldLink RX2 94 "CryOrder$Pair" "lesser" "I", Cond.fieldLink RX2 97 "CryOrder$Pair" "greater" "I", Cond.static yX8_isBelow, Cond.code yX8_isBelow cX8_isBelow 2 (some .boolean), Cond.methodLink RX2 42 yX2_fillCases]
def wsX8_caseOf_r5 : List Cond := [Cond.static yX2_fillCases, Cond.code yX2_fillCases cX2_fillCases 5 none, Cond.fieldLink RX2 107 "CryOrder$Node" "depth" "I", Cond.methodLink RX2 100 yX0_score, Cond.instanceMethod yX0_score, Cond.selects RX0 yX0_score yX0_score, Cond.code yX0_score cX0_score 4 (some .int), Cond.fieldLink RX0 30 "CryOrder$Alarm" "worth" "I", Cond.methodLink RX0 86 yX0_nodeFor, Cond.instanceMethod yX0_nodeFor, Cond.selects RX0 yX0_nodeFor yX0_nodeFor, Cond.code yX0_nodeFor cX0_nodeFor 3 (some (.object "CryOrder$Node")), Cond.fieldLink RX0 33 "CryOrder$Alarm" "leaf" "LCryOrder$Node;", Cond.fieldLink RX0 78 "CryOrder$Node" "settled" "I", Cond.fieldLink RX0 83 "CryOrder$Node" "parent" "LCryOrder$Node;", Cond.methodLink RX0 90 yX3_oddsLower, Cond.instanceMethod yX3_oddsLower, Cond.selects RX3 yX3_oddsLower yX3_oddsLower, Cond.initialized RX3, Cond.code yX3_oddsLower cX3_oddsLower 1 (some .int), Cond.fieldLink RX3 42 "CryOrder$Node" "settled" "I", Cond.methodLink RX0 94 yX3_oddsUpper, Cond.instanceMethod yX3_oddsUpper, Cond.selects RX3 yX3_oddsUpper yX3_oddsUpper]
def wsX8_caseOf_r6 : List Cond := [Cond.code yX3_oddsUpper cX3_oddsUpper 1 (some .int), Cond.fieldLink RX3 45 "CryOrder$Node" "settledTrue" "I", Cond.methodLink RX2 103 yX0_nodeFor, Cond.methodLink RX2 112 yX1_add, Cond.instanceMethod yX1_add, Cond.selects RX1 yX1_add yX1_add, Cond.code yX1_add cX1_add 3 none, Cond.methodLink RX1 23 Lib.Math.max.name, Cond.methodLink RX2 46 yX2_putInOrder, Cond.instanceMethod yX2_putInOrder, Cond.selects RX2 yX2_putInOrder yX2_putInOrder, Cond.code yX2_putInOrder cX2_putInOrder 4 none, Cond.fieldLink RX2 50 "CryOrder$Cases" "size" "I", Cond.fieldLink RX2 116 "CryOrder$Case" "size" "I", Cond.methodLink RX2 117 yX2_putInPlace, Cond.instanceMethod yX2_putInPlace, Cond.selects RX2 yX2_putInPlace yX2_putInPlace, Cond.code yX2_putInPlace cX2_putInPlace 3 none, Cond.fieldLink RX2 11 "CryOrder$Cases" "ordered" "[LCryOrder$Case;", Cond.methodLink RX2 121 yX1_isAheadOf, Cond.instanceMethod yX1_isAheadOf, Cond.selects RX1 yX1_isAheadOf yX1_isAheadOf, Cond.code yX1_isAheadOf cX1_isAheadOf 2 (some .boolean), Cond.fieldLink RX1 7 "CryOrder$Case" "number" "I"]
def wsX8_caseOf_r7 : List Cond := [Cond.methodLink RX8 125 yX8_alarmAt, Cond.instanceMethod yX8_alarmAt, Cond.selects RX8 yX8_alarmAt yX8_alarmAt, Cond.code yX8_alarmAt cX8_alarmAt 2 (some (.object "CryOrder$Alarm")), Cond.methodLink RX8 64 yX8_isBelow, Cond.methodLink RX8 225 yX0_isLive, Cond.methodLink RX8 240 yX1_minutes, Cond.instanceMethod yX1_minutes, Cond.selects RX1 yX1_minutes yX1_minutes, Cond.code yX1_minutes cX1_minutes 1 (some .int), Cond.methodLink RX8 169 yX8_oneIf, Cond.static yX8_oneIf, Cond.code yX8_oneIf cX8_oneIf 1 (some .int), Cond.methodLink RX8 246 yX8_memberOf, Cond.instanceMethod yX8_memberOf, Cond.selects RX8 yX8_memberOf yX8_memberOf, Cond.code yX8_memberOf cX8_memberOf 6 (some .int), Cond.fieldLink RX8 76 "CryOrder$Alarm" "number" "I", Cond.methodLink RX8 286 yX0_head]
def wsX8_caseOf : List Cond := .code yX8_caseOf cX8_caseOf 4 (some .int) :: ((wsX8_caseOf_r1 ++ (wsX8_caseOf_r2 ++ (wsX8_caseOf_r3 ++ (wsX8_caseOf_r4 ++ (wsX8_caseOf_r5 ++ (wsX8_caseOf_r6 ++ wsX8_caseOf_r7)))))) ++ wsX00 ++ wsX10 ++ wsX80 ++ wsX40 ++ wsX70 ++ wsX30 ++ wsX20)
def wsX8_slow_r1 : List Cond := [Cond.fieldLink RX8 15 "CryOrder" "latestOfThing" "[LCryOrder$Alarm;", Cond.fieldLink RX8 61 "CryOrder" "now" "I", Cond.fieldLink RX8 148 "CryOrder$Alarm" "came" "I", Cond.fieldLink RX8 58 "CryOrder" "leastSettled" "I", Cond.fieldLink RX8 109 "CryOrder$Alarm" "soonerOfThing" "LCryOrder$Alarm;", Cond.methodLink RX8 64 yX8_isBelow, Cond.static yX8_isBelow, Cond.initialized RX8, Cond.code yX8_isBelow cX8_isBelow 2 (some .boolean), Cond.methodLink RX8 225 yX0_isLive, Cond.instanceMethod yX0_isLive, Cond.selects RX0 yX0_isLive yX0_isLive, Cond.initialized RX0, Cond.code yX0_isLive cX0_isLive 1 (some .boolean), Cond.methodLink RX0 56 yX0_isOpen, Cond.instanceMethod yX0_isOpen, Cond.selects RX0 yX0_isOpen yX0_isOpen, Cond.code yX0_isOpen cX0_isOpen 1 (some .boolean), Cond.fieldLink RX0 9 "CryOrder$Alarm" "state" "I", Cond.methodLink RX0 60 yX0_isHushed, Cond.instanceMethod yX0_isHushed, Cond.selects RX0 yX0_isHushed yX0_isHushed, Cond.code yX0_isHushed cX0_isHushed 1 (some .boolean), Cond.fieldLink RX0 49 "CryOrder$Alarm" "silenced" "Z"]
def wsX8_slow_r2 : List Cond := [Cond.fieldLink RX0 53 "CryOrder$Alarm" "capped" "Z", Cond.methodLink RX8 173 yX0_score, Cond.instanceMethod yX0_score, Cond.selects RX0 yX0_score yX0_score, Cond.code yX0_score cX0_score 4 (some .int), Cond.fieldLink RX0 30 "CryOrder$Alarm" "worth" "I", Cond.methodLink RX0 86 yX0_nodeFor, Cond.instanceMethod yX0_nodeFor, Cond.selects RX0 yX0_nodeFor yX0_nodeFor, Cond.code yX0_nodeFor cX0_nodeFor 3 (some (.object "CryOrder$Node")), Cond.fieldLink RX0 33 "CryOrder$Alarm" "leaf" "LCryOrder$Node;", Cond.fieldLink RX0 78 "CryOrder$Node" "settled" "I", Cond.fieldLink RX0 83 "CryOrder$Node" "parent" "LCryOrder$Node;", Cond.methodLink RX0 90 yX3_oddsLower, Cond.instanceMethod yX3_oddsLower, Cond.selects RX3 yX3_oddsLower yX3_oddsLower, Cond.initialized RX3, Cond.code yX3_oddsLower cX3_oddsLower 1 (some .int), Cond.fieldLink RX3 42 "CryOrder$Node" "settled" "I", Cond.methodLink RX0 94 yX3_oddsUpper, Cond.instanceMethod yX3_oddsUpper, Cond.selects RX3 yX3_oddsUpper yX3_oddsUpper, Cond.code yX3_oddsUpper cX3_oddsUpper 1 (some .int), Cond.fieldLink RX3 45 "CryOrder$Node" "settledTrue" "I"]
def wsX8_slow : List Cond := .code yX8_slow cX8_slow 5 (some .int) :: ((wsX8_slow_r1 ++ wsX8_slow_r2) ++ wsX80 ++ wsX00 ++ wsX30)
def wsX8_plan_r1 : List Cond := [Cond.fieldLink RX8 50 "CryOrder" "planner" "LCryOrder$Plan;", Cond.fieldLink RX8 122 "CryOrder" "tries" "I", Cond.fieldLink RX8 254 "CryOrder$Plan" "takenCount" "I", Cond.fieldLink RX8 222 "CryOrder$Case" "number" "I", Cond.methodLink RX8 214 yX8_casesNow, Cond.instanceMethod yX8_casesNow, Cond.selects RX8 yX8_casesNow yX8_casesNow, Cond.initialized RX8, Cond.code yX8_casesNow cX8_casesNow 1 (some (.object "CryOrder$Cases")), Cond.fieldLink RX8 113 "CryOrder" "casesAreStale" "Z", Cond.fieldLink RX8 43 "CryOrder" "cases" "LCryOrder$Cases;", Cond.fieldLink RX8 11 "CryOrder" "alarms" "[LCryOrder$Alarm;", Cond.fieldLink RX8 79 "CryOrder" "alarmCount" "I", Cond.fieldLink RX8 36 "CryOrder" "ties" "LCryOrder$Ties;", Cond.fieldLink RX8 58 "CryOrder" "leastSettled" "I", Cond.methodLink RX8 282 yX2_gather, Cond.instanceMethod yX2_gather, Cond.selects RX2 yX2_gather yX2_gather, Cond.initialized RX2, Cond.code yX2_gather cX2_gather 6 none, Cond.fieldLink RX2 17 "CryOrder$Alarm" "above" "LCryOrder$Alarm;", Cond.fieldLink RX2 23 "CryOrder$Alarm" "led" "LCryOrder$Case;", Cond.methodLink RX2 27 yX1_clear, Cond.instanceMethod yX1_clear]
def wsX8_plan_r2 : List Cond := [Cond.selects RX1 yX1_clear yX1_clear, Cond.initialized RX1, Cond.code yX1_clear cX1_clear 1 none, Cond.fieldLink RX1 13 "CryOrder$Case" "size" "I", Cond.fieldLink RX1 16 "CryOrder$Case" "score" "I", Cond.fieldLink RX1 19 "CryOrder$Case" "littleKnown" "Z", Cond.methodLink RX2 30 yX0_isLive, Cond.instanceMethod yX0_isLive, Cond.selects RX0 yX0_isLive yX0_isLive, Cond.initialized RX0, Cond.code yX0_isLive cX0_isLive 1 (some .boolean), Cond.methodLink RX0 56 yX0_isOpen, Cond.instanceMethod yX0_isOpen, Cond.selects RX0 yX0_isOpen yX0_isOpen, Cond.code yX0_isOpen cX0_isOpen 1 (some .boolean), Cond.fieldLink RX0 9 "CryOrder$Alarm" "state" "I", Cond.methodLink RX0 60 yX0_isHushed, Cond.instanceMethod yX0_isHushed, Cond.selects RX0 yX0_isHushed yX0_isHushed, Cond.code yX0_isHushed cX0_isHushed 1 (some .boolean), Cond.fieldLink RX0 49 "CryOrder$Alarm" "silenced" "Z", Cond.fieldLink RX0 53 "CryOrder$Alarm" "capped" "Z", Cond.methodLink RX2 34 yX2_joinWithSoonerOnes, Cond.static yX2_joinWithSoonerOnes]
def wsX8_plan_r3 : List Cond := [Cond.code yX2_joinWithSoonerOnes cX2_joinWithSoonerOnes 3 none, Cond.fieldLink RX2 61 "CryOrder$Alarm" "soonerOfThing" "LCryOrder$Alarm;", Cond.fieldLink RX2 64 "CryOrder$Alarm" "came" "I", Cond.fieldLink RX2 71 "CryOrder$Alarm" "number" "I", Cond.methodLink RX2 67 yX0_head, Cond.instanceMethod yX0_head, Cond.selects RX0 yX0_head yX0_head, Cond.code yX0_head cX0_head 2 (some (.object "CryOrder$Alarm")), Cond.fieldLink RX0 97 "CryOrder$Alarm" "above" "LCryOrder$Alarm;", Cond.methodLink RX2 74 yX7_isParted, Cond.instanceMethod yX7_isParted, Cond.selects RX7 yX7_isParted yX7_isParted, Cond.initialized RX7, Cond.code yX7_isParted cX7_isParted 4 (some .boolean), Cond.fieldLink RX7 40 "CryOrder$Pair" "joined" "Z", Cond.methodLink RX7 36 yX7_find, Cond.instanceMethod yX7_find, Cond.selects RX7 yX7_find yX7_find, Cond.code yX7_find cX7_find 6 (some (.object "CryOrder$Pair")), Cond.methodLink RX7 17 Lib.Math.min.name, Cond.static Lib.Math.min.name, Cond.initialized "java/lang/Math", Cond.code Lib.Math.min.name Lib.Math.min.code 2 (some .int), Cond.methodLink RX7 23 Lib.Math.max.name]
def wsX8_plan_r4 : List Cond := [Cond.static Lib.Math.max.name, Cond.code Lib.Math.max.name Lib.Math.max.code 2 (some .int), Cond.fieldLink RX7 26 "CryOrder$Ties" "size" "I", Cond.fieldLink RX7 11 "CryOrder$Ties" "pairs" "[LCryOrder$Pair;", Cond.fieldLink RX7 30 "CryOrder$Pair" "lesser" "I", Cond.fieldLink RX7 33 "CryOrder$Pair" "greater" "I", Cond.methodLink RX2 79 yX0_joinCaseOf, Cond.instanceMethod yX0_joinCaseOf, Cond.selects RX0 yX0_joinCaseOf yX0_joinCaseOf, Cond.code yX0_joinCaseOf cX0_joinCaseOf 4 none, Cond.fieldLink RX0 15 "CryOrder$Alarm" "number" "I", Cond.methodLink RX0 101 yX0_head, Cond.methodLink RX2 38 yX2_joinToldOnes, Cond.static yX2_joinToldOnes, Cond.code yX2_joinToldOnes cX2_joinToldOnes 5 none, Cond.fieldLink RX2 83 "CryOrder$Ties" "size" "I", Cond.fieldLink RX2 84 "CryOrder$Ties" "pairs" "[LCryOrder$Pair;", Cond.fieldLink RX2 88 "CryOrder$Pair" "joined" "Z", Cond.fieldLink RX2 94 "CryOrder$Pair" "lesser" "I", Cond.fieldLink RX2 97 "CryOrder$Pair" "greater" "I", Cond.static yX8_isBelow, Cond.code yX8_isBelow cX8_isBelow 2 (some .boolean), Cond.methodLink RX2 42 yX2_fillCases, Cond.static yX2_fillCases]
def wsX8_plan_r5 : List Cond := [Cond.code yX2_fillCases cX2_fillCases 5 none, Cond.fieldLink RX2 107 "CryOrder$Node" "depth" "I", Cond.methodLink RX2 100 yX0_score, Cond.instanceMethod yX0_score, Cond.selects RX0 yX0_score yX0_score, Cond.code yX0_score cX0_score 4 (some .int), Cond.fieldLink RX0 30 "CryOrder$Alarm" "worth" "I", Cond.methodLink RX0 86 yX0_nodeFor, Cond.instanceMethod yX0_nodeFor, Cond.selects RX0 yX0_nodeFor yX0_nodeFor, Cond.code yX0_nodeFor cX0_nodeFor 3 (some (.object "CryOrder$Node")), Cond.fieldLink RX0 33 "CryOrder$Alarm" "leaf" "LCryOrder$Node;", Cond.fieldLink RX0 78 "CryOrder$Node" "settled" "I", Cond.fieldLink RX0 83 "CryOrder$Node" "parent" "LCryOrder$Node;", Cond.methodLink RX0 90 yX3_oddsLower, Cond.instanceMethod yX3_oddsLower, Cond.selects RX3 yX3_oddsLower yX3_oddsLower, Cond.initialized RX3, Cond.code yX3_oddsLower cX3_oddsLower 1 (some .int), Cond.fieldLink RX3 42 "CryOrder$Node" "settled" "I", Cond.methodLink RX0 94 yX3_oddsUpper, Cond.instanceMethod yX3_oddsUpper, Cond.selects RX3 yX3_oddsUpper yX3_oddsUpper, Cond.code yX3_oddsUpper cX3_oddsUpper 1 (some .int)]
def wsX8_plan_r6 : List Cond := [Cond.fieldLink RX3 45 "CryOrder$Node" "settledTrue" "I", Cond.methodLink RX2 103 yX0_nodeFor, Cond.methodLink RX2 112 yX1_add, Cond.instanceMethod yX1_add, Cond.selects RX1 yX1_add yX1_add, Cond.code yX1_add cX1_add 3 none, Cond.methodLink RX1 23 Lib.Math.max.name, Cond.methodLink RX2 46 yX2_putInOrder, Cond.instanceMethod yX2_putInOrder, Cond.selects RX2 yX2_putInOrder yX2_putInOrder, Cond.code yX2_putInOrder cX2_putInOrder 4 none, Cond.fieldLink RX2 50 "CryOrder$Cases" "size" "I", Cond.fieldLink RX2 116 "CryOrder$Case" "size" "I", Cond.methodLink RX2 117 yX2_putInPlace, Cond.instanceMethod yX2_putInPlace, Cond.selects RX2 yX2_putInPlace yX2_putInPlace, Cond.code yX2_putInPlace cX2_putInPlace 3 none, Cond.fieldLink RX2 11 "CryOrder$Cases" "ordered" "[LCryOrder$Case;", Cond.methodLink RX2 121 yX1_isAheadOf, Cond.instanceMethod yX1_isAheadOf, Cond.selects RX1 yX1_isAheadOf yX1_isAheadOf, Cond.code yX1_isAheadOf cX1_isAheadOf 2 (some .boolean), Cond.fieldLink RX1 7 "CryOrder$Case" "number" "I", Cond.methodLink RX8 250 yX5_make]
def wsX8_plan_r7 : List Cond := [Cond.instanceMethod yX5_make, Cond.selects RX5 yX5_make yX5_make, Cond.initialized RX5, Cond.code yX5_make cX5_make 4 none, Cond.fieldLink RX5 27 "CryOrder$Plan" "takenCount" "I", Cond.fieldLink RX5 31 "CryOrder$Plan" "poolCount" "I", Cond.fieldLink RX5 34 "CryOrder$Plan" "scoreTaken" "I", Cond.methodLink RX5 37 Lib.Math.min.name, Cond.methodLink RX5 43 Lib.Math.max.name, Cond.fieldLink RX5 46 "CryOrder$Plan" "minutesLeft" "I", Cond.methodLink RX5 49 yX5_takeTries, Cond.instanceMethod yX5_takeTries, Cond.selects RX5 yX5_takeTries yX5_takeTries, Cond.code yX5_takeTries cX5_takeTries 5 none, Cond.fieldLink RX5 74 "CryOrder$Cases" "size" "I", Cond.fieldLink RX5 79 "CryOrder$Cases" "ordered" "[LCryOrder$Case;", Cond.fieldLink RX5 82 "CryOrder$Case" "littleKnown" "Z", Cond.methodLink RX5 70 yX1_minutes, Cond.instanceMethod yX1_minutes, Cond.selects RX1 yX1_minutes yX1_minutes, Cond.code yX1_minutes cX1_minutes 1 (some .int), Cond.methodLink RX5 86 yX5_take, Cond.instanceMethod yX5_take, Cond.selects RX5 yX5_take yX5_take]
def wsX8_plan_r8 : List Cond := [Cond.code yX5_take cX5_take 2 none, Cond.fieldLink RX5 11 "CryOrder$Plan" "taken" "[LCryOrder$Case;", Cond.fieldLink RX5 67 "CryOrder$Case" "score" "I", Cond.methodLink RX5 53 yX5_fillPool, Cond.instanceMethod yX5_fillPool, Cond.selects RX5 yX5_fillPool yX5_fillPool, Cond.code yX5_fillPool cX5_fillPool 3 none, Cond.fieldLink RX5 17 "CryOrder$Plan" "pool" "[LCryOrder$Case;", Cond.methodLink RX5 90 yX5_isTaken, Cond.instanceMethod yX5_isTaken, Cond.selects RX5 yX5_isTaken yX5_isTaken, Cond.code yX5_isTaken cX5_isTaken 3 (some .boolean), Cond.methodLink RX5 57 yX5_weighPool, Cond.instanceMethod yX5_weighPool, Cond.selects RX5 yX5_weighPool yX5_weighPool, Cond.code yX5_weighPool cX5_weighPool 5 none, Cond.fieldLink RX5 20 "CryOrder$Plan" "best" "[I", Cond.fieldLink RX5 24 "CryOrder$Plan" "needed" "[I", Cond.methodLink RX5 60 yX5_takeBestOfPool, Cond.instanceMethod yX5_takeBestOfPool, Cond.selects RX5 yX5_takeBestOfPool yX5_takeBestOfPool, Cond.code yX5_takeBestOfPool cX5_takeBestOfPool 4 none, Cond.methodLink RX8 257 yX5_at, Cond.instanceMethod yX5_at]
def wsX8_plan_r9 : List Cond := [Cond.selects RX5 yX5_at yX5_at, Cond.code yX5_at cX5_at 2 (some (.object "CryOrder$Case"))]
def wsX8_plan : List Cond := .code yX8_plan cX8_plan 4 (some .int) :: ((wsX8_plan_r1 ++ (wsX8_plan_r2 ++ (wsX8_plan_r3 ++ (wsX8_plan_r4 ++ (wsX8_plan_r5 ++ (wsX8_plan_r6 ++ (wsX8_plan_r7 ++ (wsX8_plan_r8 ++ wsX8_plan_r9)))))))) ++ wsX80 ++ wsX50 ++ wsX10 ++ wsX00 ++ wsX40 ++ wsX70 ++ wsX30 ++ wsX20)
def wsX8_worth_r1 : List Cond := [Cond.fieldLink RX8 50 "CryOrder" "planner" "LCryOrder$Plan;", Cond.fieldLink RX8 122 "CryOrder" "tries" "I", Cond.fieldLink RX8 258 "CryOrder$Plan" "scoreTaken" "I", Cond.fieldLink RX8 43 "CryOrder" "cases" "LCryOrder$Cases;", Cond.fieldLink RX8 264 "CryOrder$Plan" "minutesLeft" "I", Cond.methodLink RX8 214 yX8_casesNow, Cond.instanceMethod yX8_casesNow, Cond.selects RX8 yX8_casesNow yX8_casesNow, Cond.initialized RX8, Cond.code yX8_casesNow cX8_casesNow 1 (some (.object "CryOrder$Cases")), Cond.fieldLink RX8 113 "CryOrder" "casesAreStale" "Z", Cond.fieldLink RX8 11 "CryOrder" "alarms" "[LCryOrder$Alarm;", Cond.fieldLink RX8 79 "CryOrder" "alarmCount" "I", Cond.fieldLink RX8 36 "CryOrder" "ties" "LCryOrder$Ties;", Cond.fieldLink RX8 58 "CryOrder" "leastSettled" "I", Cond.methodLink RX8 282 yX2_gather, Cond.instanceMethod yX2_gather, Cond.selects RX2 yX2_gather yX2_gather, Cond.initialized RX2, Cond.code yX2_gather cX2_gather 6 none, Cond.fieldLink RX2 17 "CryOrder$Alarm" "above" "LCryOrder$Alarm;", Cond.fieldLink RX2 23 "CryOrder$Alarm" "led" "LCryOrder$Case;", Cond.methodLink RX2 27 yX1_clear, Cond.instanceMethod yX1_clear]
def wsX8_worth_r2 : List Cond := [Cond.selects RX1 yX1_clear yX1_clear, Cond.initialized RX1, Cond.code yX1_clear cX1_clear 1 none, Cond.fieldLink RX1 13 "CryOrder$Case" "size" "I", Cond.fieldLink RX1 16 "CryOrder$Case" "score" "I", Cond.fieldLink RX1 19 "CryOrder$Case" "littleKnown" "Z", Cond.methodLink RX2 30 yX0_isLive, Cond.instanceMethod yX0_isLive, Cond.selects RX0 yX0_isLive yX0_isLive, Cond.initialized RX0, Cond.code yX0_isLive cX0_isLive 1 (some .boolean), Cond.methodLink RX0 56 yX0_isOpen, Cond.instanceMethod yX0_isOpen, Cond.selects RX0 yX0_isOpen yX0_isOpen, Cond.code yX0_isOpen cX0_isOpen 1 (some .boolean), Cond.fieldLink RX0 9 "CryOrder$Alarm" "state" "I", Cond.methodLink RX0 60 yX0_isHushed, Cond.instanceMethod yX0_isHushed, Cond.selects RX0 yX0_isHushed yX0_isHushed, Cond.code yX0_isHushed cX0_isHushed 1 (some .boolean), Cond.fieldLink RX0 49 "CryOrder$Alarm" "silenced" "Z", Cond.fieldLink RX0 53 "CryOrder$Alarm" "capped" "Z", Cond.methodLink RX2 34 yX2_joinWithSoonerOnes, Cond.static yX2_joinWithSoonerOnes]
def wsX8_worth_r3 : List Cond := [Cond.code yX2_joinWithSoonerOnes cX2_joinWithSoonerOnes 3 none, Cond.fieldLink RX2 61 "CryOrder$Alarm" "soonerOfThing" "LCryOrder$Alarm;", Cond.fieldLink RX2 64 "CryOrder$Alarm" "came" "I", Cond.fieldLink RX2 71 "CryOrder$Alarm" "number" "I", Cond.methodLink RX2 67 yX0_head, Cond.instanceMethod yX0_head, Cond.selects RX0 yX0_head yX0_head, Cond.code yX0_head cX0_head 2 (some (.object "CryOrder$Alarm")), Cond.fieldLink RX0 97 "CryOrder$Alarm" "above" "LCryOrder$Alarm;", Cond.methodLink RX2 74 yX7_isParted, Cond.instanceMethod yX7_isParted, Cond.selects RX7 yX7_isParted yX7_isParted, Cond.initialized RX7, Cond.code yX7_isParted cX7_isParted 4 (some .boolean), Cond.fieldLink RX7 40 "CryOrder$Pair" "joined" "Z", Cond.methodLink RX7 36 yX7_find, Cond.instanceMethod yX7_find, Cond.selects RX7 yX7_find yX7_find, Cond.code yX7_find cX7_find 6 (some (.object "CryOrder$Pair")), Cond.methodLink RX7 17 Lib.Math.min.name, Cond.static Lib.Math.min.name, Cond.initialized "java/lang/Math", Cond.code Lib.Math.min.name Lib.Math.min.code 2 (some .int), Cond.methodLink RX7 23 Lib.Math.max.name]
def wsX8_worth_r4 : List Cond := [Cond.static Lib.Math.max.name, Cond.code Lib.Math.max.name Lib.Math.max.code 2 (some .int), Cond.fieldLink RX7 26 "CryOrder$Ties" "size" "I", Cond.fieldLink RX7 11 "CryOrder$Ties" "pairs" "[LCryOrder$Pair;", Cond.fieldLink RX7 30 "CryOrder$Pair" "lesser" "I", Cond.fieldLink RX7 33 "CryOrder$Pair" "greater" "I", Cond.methodLink RX2 79 yX0_joinCaseOf, Cond.instanceMethod yX0_joinCaseOf, Cond.selects RX0 yX0_joinCaseOf yX0_joinCaseOf, Cond.code yX0_joinCaseOf cX0_joinCaseOf 4 none, Cond.fieldLink RX0 15 "CryOrder$Alarm" "number" "I", Cond.methodLink RX0 101 yX0_head, Cond.methodLink RX2 38 yX2_joinToldOnes, Cond.static yX2_joinToldOnes, Cond.code yX2_joinToldOnes cX2_joinToldOnes 5 none, Cond.fieldLink RX2 83 "CryOrder$Ties" "size" "I", Cond.fieldLink RX2 84 "CryOrder$Ties" "pairs" "[LCryOrder$Pair;", Cond.fieldLink RX2 88 "CryOrder$Pair" "joined" "Z", Cond.fieldLink RX2 94 "CryOrder$Pair" "lesser" "I", Cond.fieldLink RX2 97 "CryOrder$Pair" "greater" "I", Cond.static yX8_isBelow, Cond.code yX8_isBelow cX8_isBelow 2 (some .boolean), Cond.methodLink RX2 42 yX2_fillCases, Cond.static yX2_fillCases]
def wsX8_worth_r5 : List Cond := [Cond.code yX2_fillCases cX2_fillCases 5 none, Cond.fieldLink RX2 107 "CryOrder$Node" "depth" "I", Cond.methodLink RX2 100 yX0_score, Cond.instanceMethod yX0_score, Cond.selects RX0 yX0_score yX0_score, Cond.code yX0_score cX0_score 4 (some .int), Cond.fieldLink RX0 30 "CryOrder$Alarm" "worth" "I", Cond.methodLink RX0 86 yX0_nodeFor, Cond.instanceMethod yX0_nodeFor, Cond.selects RX0 yX0_nodeFor yX0_nodeFor, Cond.code yX0_nodeFor cX0_nodeFor 3 (some (.object "CryOrder$Node")), Cond.fieldLink RX0 33 "CryOrder$Alarm" "leaf" "LCryOrder$Node;", Cond.fieldLink RX0 78 "CryOrder$Node" "settled" "I", Cond.fieldLink RX0 83 "CryOrder$Node" "parent" "LCryOrder$Node;", Cond.methodLink RX0 90 yX3_oddsLower, Cond.instanceMethod yX3_oddsLower, Cond.selects RX3 yX3_oddsLower yX3_oddsLower, Cond.initialized RX3, Cond.code yX3_oddsLower cX3_oddsLower 1 (some .int), Cond.fieldLink RX3 42 "CryOrder$Node" "settled" "I", Cond.methodLink RX0 94 yX3_oddsUpper, Cond.instanceMethod yX3_oddsUpper, Cond.selects RX3 yX3_oddsUpper yX3_oddsUpper, Cond.code yX3_oddsUpper cX3_oddsUpper 1 (some .int)]
def wsX8_worth_r6 : List Cond := [Cond.fieldLink RX3 45 "CryOrder$Node" "settledTrue" "I", Cond.methodLink RX2 103 yX0_nodeFor, Cond.methodLink RX2 112 yX1_add, Cond.instanceMethod yX1_add, Cond.selects RX1 yX1_add yX1_add, Cond.code yX1_add cX1_add 3 none, Cond.methodLink RX1 23 Lib.Math.max.name, Cond.methodLink RX2 46 yX2_putInOrder, Cond.instanceMethod yX2_putInOrder, Cond.selects RX2 yX2_putInOrder yX2_putInOrder, Cond.code yX2_putInOrder cX2_putInOrder 4 none, Cond.fieldLink RX2 50 "CryOrder$Cases" "size" "I", Cond.fieldLink RX2 116 "CryOrder$Case" "size" "I", Cond.methodLink RX2 117 yX2_putInPlace, Cond.instanceMethod yX2_putInPlace, Cond.selects RX2 yX2_putInPlace yX2_putInPlace, Cond.code yX2_putInPlace cX2_putInPlace 3 none, Cond.fieldLink RX2 11 "CryOrder$Cases" "ordered" "[LCryOrder$Case;", Cond.methodLink RX2 121 yX1_isAheadOf, Cond.instanceMethod yX1_isAheadOf, Cond.selects RX1 yX1_isAheadOf yX1_isAheadOf, Cond.code yX1_isAheadOf cX1_isAheadOf 2 (some .boolean), Cond.fieldLink RX1 7 "CryOrder$Case" "number" "I", Cond.methodLink RX8 250 yX5_make]
def wsX8_worth_r7 : List Cond := [Cond.instanceMethod yX5_make, Cond.selects RX5 yX5_make yX5_make, Cond.initialized RX5, Cond.code yX5_make cX5_make 4 none, Cond.fieldLink RX5 27 "CryOrder$Plan" "takenCount" "I", Cond.fieldLink RX5 31 "CryOrder$Plan" "poolCount" "I", Cond.fieldLink RX5 34 "CryOrder$Plan" "scoreTaken" "I", Cond.methodLink RX5 37 Lib.Math.min.name, Cond.methodLink RX5 43 Lib.Math.max.name, Cond.fieldLink RX5 46 "CryOrder$Plan" "minutesLeft" "I", Cond.methodLink RX5 49 yX5_takeTries, Cond.instanceMethod yX5_takeTries, Cond.selects RX5 yX5_takeTries yX5_takeTries, Cond.code yX5_takeTries cX5_takeTries 5 none, Cond.fieldLink RX5 74 "CryOrder$Cases" "size" "I", Cond.fieldLink RX5 79 "CryOrder$Cases" "ordered" "[LCryOrder$Case;", Cond.fieldLink RX5 82 "CryOrder$Case" "littleKnown" "Z", Cond.methodLink RX5 70 yX1_minutes, Cond.instanceMethod yX1_minutes, Cond.selects RX1 yX1_minutes yX1_minutes, Cond.code yX1_minutes cX1_minutes 1 (some .int), Cond.methodLink RX5 86 yX5_take, Cond.instanceMethod yX5_take, Cond.selects RX5 yX5_take yX5_take]
def wsX8_worth_r8 : List Cond := [Cond.code yX5_take cX5_take 2 none, Cond.fieldLink RX5 11 "CryOrder$Plan" "taken" "[LCryOrder$Case;", Cond.fieldLink RX5 67 "CryOrder$Case" "score" "I", Cond.methodLink RX5 53 yX5_fillPool, Cond.instanceMethod yX5_fillPool, Cond.selects RX5 yX5_fillPool yX5_fillPool, Cond.code yX5_fillPool cX5_fillPool 3 none, Cond.fieldLink RX5 17 "CryOrder$Plan" "pool" "[LCryOrder$Case;", Cond.methodLink RX5 90 yX5_isTaken, Cond.instanceMethod yX5_isTaken, Cond.selects RX5 yX5_isTaken yX5_isTaken, Cond.code yX5_isTaken cX5_isTaken 3 (some .boolean), Cond.methodLink RX5 57 yX5_weighPool, Cond.instanceMethod yX5_weighPool, Cond.selects RX5 yX5_weighPool yX5_weighPool, Cond.code yX5_weighPool cX5_weighPool 5 none, Cond.fieldLink RX5 20 "CryOrder$Plan" "best" "[I", Cond.fieldLink RX5 24 "CryOrder$Plan" "needed" "[I", Cond.methodLink RX5 60 yX5_takeBestOfPool, Cond.instanceMethod yX5_takeBestOfPool, Cond.selects RX5 yX5_takeBestOfPool yX5_takeBestOfPool, Cond.code yX5_takeBestOfPool cX5_takeBestOfPool 4 none, Cond.methodLink RX8 261 yX2_scoreOfAll, Cond.instanceMethod yX2_scoreOfAll]
def wsX8_worth_r9 : List Cond := [Cond.selects RX2 yX2_scoreOfAll yX2_scoreOfAll, Cond.code yX2_scoreOfAll cX2_scoreOfAll 3 (some .int), Cond.fieldLink RX2 58 "CryOrder$Case" "score" "I"]
def wsX8_worth : List Cond := .code yX8_worth cX8_worth 3 (some .int) :: ((wsX8_worth_r1 ++ (wsX8_worth_r2 ++ (wsX8_worth_r3 ++ (wsX8_worth_r4 ++ (wsX8_worth_r5 ++ (wsX8_worth_r6 ++ (wsX8_worth_r7 ++ (wsX8_worth_r8 ++ wsX8_worth_r9)))))))) ++ wsX80 ++ wsX50 ++ wsX00 ++ wsX10 ++ wsX40 ++ wsX70 ++ wsX30 ++ wsX20)
def wsX8_isOfKind : List Cond := .code yX8_isOfKind cX8_isOfKind 2 (some .boolean) :: ([.fieldLink RX8 163 "CryOrder$Alarm" "repeats" "I", .fieldLink RX8 93 "CryOrder$Alarm" "silenced" "Z", .fieldLink RX8 100 "CryOrder$Alarm" "capped" "Z", .fieldLink RX8 166 "CryOrder$Alarm" "state" "I", .methodLink RX8 273 yX0_isHushed, .instanceMethod yX0_isHushed, .selects RX0 yX0_isHushed yX0_isHushed, .initialized RX0, .code yX0_isHushed cX0_isHushed 1 (some .boolean), .fieldLink RX0 49 "CryOrder$Alarm" "silenced" "Z", .fieldLink RX0 53 "CryOrder$Alarm" "capped" "Z"] ++ wsX00)
def wsX8_source : List Cond := .code yX8_source cX8_source 5 (some .int) :: ([.fieldLink RX8 79 "CryOrder" "alarmCount" "I", .fieldLink RX8 11 "CryOrder" "alarms" "[LCryOrder$Alarm;", .fieldLink RX8 151 "CryOrder$Alarm" "source" "I", .methodLink RX8 64 yX8_isBelow, .static yX8_isBelow, .initialized RX8, .code yX8_isBelow cX8_isBelow 2 (some .boolean), .methodLink RX8 267 yX8_isOfKind, .static yX8_isOfKind, .code yX8_isOfKind cX8_isOfKind 2 (some .boolean), .fieldLink RX8 163 "CryOrder$Alarm" "repeats" "I", .fieldLink RX8 93 "CryOrder$Alarm" "silenced" "Z", .fieldLink RX8 100 "CryOrder$Alarm" "capped" "Z", .fieldLink RX8 166 "CryOrder$Alarm" "state" "I", .methodLink RX8 273 yX0_isHushed, .instanceMethod yX0_isHushed, .selects RX0 yX0_isHushed yX0_isHushed, .initialized RX0, .code yX0_isHushed cX0_isHushed 1 (some .boolean), .fieldLink RX0 49 "CryOrder$Alarm" "silenced" "Z", .fieldLink RX0 53 "CryOrder$Alarm" "capped" "Z"] ++ wsX80 ++ wsX00)
def wsX8_count_r1 : List Cond := [Cond.fieldLink RX8 61 "CryOrder" "now" "I", Cond.fieldLink RX8 79 "CryOrder" "alarmCount" "I", Cond.fieldLink RX8 29 "CryOrder" "root" "LCryOrder$Node;", Cond.fieldLink RX8 201 "CryOrder$Node" "open" "I", Cond.fieldLink RX8 271 "CryOrder$Cases" "size" "I", Cond.fieldLink RX8 116 "CryOrder" "silenceCount" "I", Cond.fieldLink RX8 36 "CryOrder" "ties" "LCryOrder$Ties;", Cond.fieldLink RX8 272 "CryOrder$Ties" "size" "I", Cond.methodLink RX8 214 yX8_casesNow, Cond.instanceMethod yX8_casesNow, Cond.selects RX8 yX8_casesNow yX8_casesNow, Cond.initialized RX8, Cond.code yX8_casesNow cX8_casesNow 1 (some (.object "CryOrder$Cases")), Cond.fieldLink RX8 113 "CryOrder" "casesAreStale" "Z", Cond.fieldLink RX8 43 "CryOrder" "cases" "LCryOrder$Cases;", Cond.fieldLink RX8 11 "CryOrder" "alarms" "[LCryOrder$Alarm;", Cond.fieldLink RX8 58 "CryOrder" "leastSettled" "I", Cond.methodLink RX8 282 yX2_gather, Cond.instanceMethod yX2_gather, Cond.selects RX2 yX2_gather yX2_gather, Cond.initialized RX2, Cond.code yX2_gather cX2_gather 6 none, Cond.fieldLink RX2 17 "CryOrder$Alarm" "above" "LCryOrder$Alarm;", Cond.fieldLink RX2 23 "CryOrder$Alarm" "led" "LCryOrder$Case;"]
def wsX8_count_r2 : List Cond := [Cond.methodLink RX2 27 yX1_clear, Cond.instanceMethod yX1_clear, Cond.selects RX1 yX1_clear yX1_clear, Cond.initialized RX1, Cond.code yX1_clear cX1_clear 1 none, Cond.fieldLink RX1 13 "CryOrder$Case" "size" "I", Cond.fieldLink RX1 16 "CryOrder$Case" "score" "I", Cond.fieldLink RX1 19 "CryOrder$Case" "littleKnown" "Z", Cond.methodLink RX2 30 yX0_isLive, Cond.instanceMethod yX0_isLive, Cond.selects RX0 yX0_isLive yX0_isLive, Cond.initialized RX0, Cond.code yX0_isLive cX0_isLive 1 (some .boolean), Cond.methodLink RX0 56 yX0_isOpen, Cond.instanceMethod yX0_isOpen, Cond.selects RX0 yX0_isOpen yX0_isOpen, Cond.code yX0_isOpen cX0_isOpen 1 (some .boolean), Cond.fieldLink RX0 9 "CryOrder$Alarm" "state" "I", Cond.methodLink RX0 60 yX0_isHushed, Cond.instanceMethod yX0_isHushed, Cond.selects RX0 yX0_isHushed yX0_isHushed, Cond.code yX0_isHushed cX0_isHushed 1 (some .boolean), Cond.fieldLink RX0 49 "CryOrder$Alarm" "silenced" "Z", Cond.fieldLink RX0 53 "CryOrder$Alarm" "capped" "Z"]
def wsX8_count_r3 : List Cond := [Cond.methodLink RX2 34 yX2_joinWithSoonerOnes, Cond.static yX2_joinWithSoonerOnes, Cond.code yX2_joinWithSoonerOnes cX2_joinWithSoonerOnes 3 none, Cond.fieldLink RX2 61 "CryOrder$Alarm" "soonerOfThing" "LCryOrder$Alarm;", Cond.fieldLink RX2 64 "CryOrder$Alarm" "came" "I", Cond.fieldLink RX2 71 "CryOrder$Alarm" "number" "I", Cond.methodLink RX2 67 yX0_head, Cond.instanceMethod yX0_head, Cond.selects RX0 yX0_head yX0_head, Cond.code yX0_head cX0_head 2 (some (.object "CryOrder$Alarm")), Cond.fieldLink RX0 97 "CryOrder$Alarm" "above" "LCryOrder$Alarm;", Cond.methodLink RX2 74 yX7_isParted, Cond.instanceMethod yX7_isParted, Cond.selects RX7 yX7_isParted yX7_isParted, Cond.initialized RX7, Cond.code yX7_isParted cX7_isParted 4 (some .boolean), Cond.fieldLink RX7 40 "CryOrder$Pair" "joined" "Z", Cond.methodLink RX7 36 yX7_find, Cond.instanceMethod yX7_find, Cond.selects RX7 yX7_find yX7_find, Cond.code yX7_find cX7_find 6 (some (.object "CryOrder$Pair")), Cond.methodLink RX7 17 Lib.Math.min.name, Cond.static Lib.Math.min.name, Cond.initialized "java/lang/Math"]
def wsX8_count_r4 : List Cond := [Cond.code Lib.Math.min.name Lib.Math.min.code 2 (some .int), Cond.methodLink RX7 23 Lib.Math.max.name, Cond.static Lib.Math.max.name, Cond.code Lib.Math.max.name Lib.Math.max.code 2 (some .int), Cond.fieldLink RX7 26 "CryOrder$Ties" "size" "I", Cond.fieldLink RX7 11 "CryOrder$Ties" "pairs" "[LCryOrder$Pair;", Cond.fieldLink RX7 30 "CryOrder$Pair" "lesser" "I", Cond.fieldLink RX7 33 "CryOrder$Pair" "greater" "I", Cond.methodLink RX2 79 yX0_joinCaseOf, Cond.instanceMethod yX0_joinCaseOf, Cond.selects RX0 yX0_joinCaseOf yX0_joinCaseOf, Cond.code yX0_joinCaseOf cX0_joinCaseOf 4 none, Cond.fieldLink RX0 15 "CryOrder$Alarm" "number" "I", Cond.methodLink RX0 101 yX0_head, Cond.methodLink RX2 38 yX2_joinToldOnes, Cond.static yX2_joinToldOnes, Cond.code yX2_joinToldOnes cX2_joinToldOnes 5 none, Cond.fieldLink RX2 83 "CryOrder$Ties" "size" "I", Cond.fieldLink RX2 84 "CryOrder$Ties" "pairs" "[LCryOrder$Pair;", Cond.fieldLink RX2 88 "CryOrder$Pair" "joined" "Z", Cond.fieldLink RX2 94 "CryOrder$Pair" "lesser" "I", Cond.fieldLink RX2 97 "CryOrder$Pair" "greater" "I", Cond.static yX8_isBelow, Cond.code yX8_isBelow cX8_isBelow 2 (some .boolean)]
def wsX8_count_r5 : List Cond := [Cond.methodLink RX2 42 yX2_fillCases, Cond.static yX2_fillCases, Cond.code yX2_fillCases cX2_fillCases 5 none, Cond.fieldLink RX2 107 "CryOrder$Node" "depth" "I", Cond.methodLink RX2 100 yX0_score, Cond.instanceMethod yX0_score, Cond.selects RX0 yX0_score yX0_score, Cond.code yX0_score cX0_score 4 (some .int), Cond.fieldLink RX0 30 "CryOrder$Alarm" "worth" "I", Cond.methodLink RX0 86 yX0_nodeFor, Cond.instanceMethod yX0_nodeFor, Cond.selects RX0 yX0_nodeFor yX0_nodeFor, Cond.code yX0_nodeFor cX0_nodeFor 3 (some (.object "CryOrder$Node")), Cond.fieldLink RX0 33 "CryOrder$Alarm" "leaf" "LCryOrder$Node;", Cond.fieldLink RX0 78 "CryOrder$Node" "settled" "I", Cond.fieldLink RX0 83 "CryOrder$Node" "parent" "LCryOrder$Node;", Cond.methodLink RX0 90 yX3_oddsLower, Cond.instanceMethod yX3_oddsLower, Cond.selects RX3 yX3_oddsLower yX3_oddsLower, Cond.initialized RX3, Cond.code yX3_oddsLower cX3_oddsLower 1 (some .int), Cond.fieldLink RX3 42 "CryOrder$Node" "settled" "I", Cond.methodLink RX0 94 yX3_oddsUpper, Cond.instanceMethod yX3_oddsUpper]
def wsX8_count_r6 : List Cond := [Cond.selects RX3 yX3_oddsUpper yX3_oddsUpper, Cond.code yX3_oddsUpper cX3_oddsUpper 1 (some .int), Cond.fieldLink RX3 45 "CryOrder$Node" "settledTrue" "I", Cond.methodLink RX2 103 yX0_nodeFor, Cond.methodLink RX2 112 yX1_add, Cond.instanceMethod yX1_add, Cond.selects RX1 yX1_add yX1_add, Cond.code yX1_add cX1_add 3 none, Cond.methodLink RX1 23 Lib.Math.max.name, Cond.methodLink RX2 46 yX2_putInOrder, Cond.instanceMethod yX2_putInOrder, Cond.selects RX2 yX2_putInOrder yX2_putInOrder, Cond.code yX2_putInOrder cX2_putInOrder 4 none, Cond.fieldLink RX2 50 "CryOrder$Cases" "size" "I", Cond.fieldLink RX2 116 "CryOrder$Case" "size" "I", Cond.methodLink RX2 117 yX2_putInPlace, Cond.instanceMethod yX2_putInPlace, Cond.selects RX2 yX2_putInPlace yX2_putInPlace, Cond.code yX2_putInPlace cX2_putInPlace 3 none, Cond.fieldLink RX2 11 "CryOrder$Cases" "ordered" "[LCryOrder$Case;", Cond.methodLink RX2 121 yX1_isAheadOf, Cond.instanceMethod yX1_isAheadOf, Cond.selects RX1 yX1_isAheadOf yX1_isAheadOf, Cond.code yX1_isAheadOf cX1_isAheadOf 2 (some .boolean)]
def wsX8_count_r7 : List Cond := [Cond.fieldLink RX1 7 "CryOrder$Case" "number" "I"]
def wsX8_count : List Cond := .code yX8_count cX8_count 2 (some .int) :: ((wsX8_count_r1 ++ (wsX8_count_r2 ++ (wsX8_count_r3 ++ (wsX8_count_r4 ++ (wsX8_count_r5 ++ (wsX8_count_r6 ++ wsX8_count_r7)))))) ++ wsX80 ++ wsX30 ++ wsX20 ++ wsX70 ++ wsX00 ++ wsX10 ++ wsX40)
def wsX9_init_r1 : List Cond := [Cond.methodLink RX9 1 objectInit, Cond.instanceMethod objectInit, Cond.code objectInit ⟨#[0xb1]⟩ 1 none, Cond.fieldLink RX9 7 "CryOrderModel" "cap" "I", Cond.fieldLink RX9 13 "CryOrderModel" "needs" "I", Cond.arrayClass .int, Cond.fieldLink RX9 16 "CryOrderModel" "came" "[I", Cond.fieldLink RX9 20 "CryOrderModel" "last" "[I", Cond.fieldLink RX9 23 "CryOrderModel" "source" "[I", Cond.fieldLink RX9 26 "CryOrderModel" "thing" "[I", Cond.fieldLink RX9 29 "CryOrderModel" "marks" "[I", Cond.fieldLink RX9 32 "CryOrderModel" "worth" "[I", Cond.fieldLink RX9 35 "CryOrderModel" "repeats" "[I", Cond.fieldLink RX9 38 "CryOrderModel" "state" "[I", Cond.fieldLink RX9 41 "CryOrderModel" "saidTrue" "[I", Cond.fieldLink RX9 44 "CryOrderModel" "saidFalse" "[I", Cond.arrayClass .boolean, Cond.fieldLink RX9 47 "CryOrderModel" "isSilenced" "[Z", Cond.fieldLink RX9 51 "CryOrderModel" "isCapped" "[Z", Cond.fieldLink RX9 54 "CryOrderModel" "silenced" "[I", Cond.fieldLink RX9 57 "CryOrderModel" "from" "[I", Cond.fieldLink RX9 60 "CryOrderModel" "to" "[I", Cond.fieldLink RX9 63 "CryOrderModel" "tieA" "[I", Cond.fieldLink RX9 66 "CryOrderModel" "tieB" "[I"]
def wsX9_init_r2 : List Cond := [Cond.fieldLink RX9 69 "CryOrderModel" "isJoined" "[Z", Cond.fieldLink RX9 72 "CryOrderModel" "caseNumber" "[I", Cond.fieldLink RX9 75 "CryOrderModel" "scores" "[I", Cond.fieldLink RX9 78 "CryOrderModel" "order" "[I", Cond.fieldLink RX9 81 "CryOrderModel" "taken" "[I", Cond.fieldLink RX9 84 "CryOrderModel" "rest" "[I", Cond.fieldLink RX9 87 "CryOrderModel" "restMinutes" "[I", Cond.fieldLink RX9 90 "CryOrderModel" "restScores" "[I"]
def wsX9_init : List Cond := .code yX9_init cX9_init 1 none :: ((wsX9_init_r1 ++ wsX9_init_r2) ++ wsX90)
def wsX9_isIn : List Cond := .code yX9_isIn cX9_isIn 3 (some .boolean) :: ([])
def wsX9_one : List Cond := .code yX9_one cX9_one 1 (some .int) :: ([])
def wsX9_isAlarm : List Cond := .code yX9_isAlarm cX9_isAlarm 2 (some .boolean) :: ([.fieldLink RX9 93 "CryOrderModel" "alarms" "I", .methodLink RX9 96 yX9_isIn, .static yX9_isIn, .initialized RX9, .code yX9_isIn cX9_isIn 3 (some .boolean)] ++ wsX90)
def wsX9_pass : List Cond := .code yX9_pass cX9_pass 2 (some .int) :: ([.fieldLink RX9 100 "CryOrderModel" "now" "I", .methodLink RX9 96 yX9_isIn, .static yX9_isIn, .initialized RX9, .code yX9_isIn cX9_isIn 3 (some .boolean)] ++ wsX90)
def wsX9_isLive : List Cond := .code yX9_isLive cX9_isLive 2 (some .boolean) :: ([.fieldLink RX9 38 "CryOrderModel" "state" "[I", .fieldLink RX9 47 "CryOrderModel" "isSilenced" "[Z", .fieldLink RX9 51 "CryOrderModel" "isCapped" "[Z"] ++ wsX90)
def wsX9_alarm_r1 : List Cond := [Cond.fieldLink RX9 93 "CryOrderModel" "alarms" "I", Cond.fieldLink RX9 23 "CryOrderModel" "source" "[I", Cond.fieldLink RX9 26 "CryOrderModel" "thing" "[I", Cond.fieldLink RX9 29 "CryOrderModel" "marks" "[I", Cond.fieldLink RX9 100 "CryOrderModel" "now" "I", Cond.fieldLink RX9 20 "CryOrderModel" "last" "[I", Cond.fieldLink RX9 35 "CryOrderModel" "repeats" "[I", Cond.fieldLink RX9 47 "CryOrderModel" "isSilenced" "[Z", Cond.fieldLink RX9 51 "CryOrderModel" "isCapped" "[Z", Cond.fieldLink RX9 16 "CryOrderModel" "came" "[I", Cond.fieldLink RX9 111 "CryOrderModel" "silences" "I", Cond.fieldLink RX9 54 "CryOrderModel" "silenced" "[I", Cond.fieldLink RX9 57 "CryOrderModel" "from" "[I", Cond.fieldLink RX9 60 "CryOrderModel" "to" "[I", Cond.fieldLink RX9 7 "CryOrderModel" "cap" "I", Cond.fieldLink RX9 32 "CryOrderModel" "worth" "[I", Cond.methodLink RX9 96 yX9_isIn, Cond.static yX9_isIn, Cond.initialized RX9, Cond.code yX9_isIn cX9_isIn 3 (some .boolean), Cond.methodLink RX9 103 yX9_isLive, Cond.instanceMethod yX9_isLive, Cond.selects RX9 yX9_isLive yX9_isLive, Cond.code yX9_isLive cX9_isLive 2 (some .boolean)]
def wsX9_alarm_r2 : List Cond := [Cond.fieldLink RX9 38 "CryOrderModel" "state" "[I", Cond.methodLink RX9 107 yX9_one, Cond.static yX9_one, Cond.code yX9_one cX9_one 1 (some .int)]
def wsX9_alarm : List Cond := .code yX9_alarm cX9_alarm 8 (some .int) :: ((wsX9_alarm_r1 ++ wsX9_alarm_r2) ++ wsX90)
def wsX9_silence : List Cond := .code yX9_silence cX9_silence 4 (some .int) :: ([.fieldLink RX9 111 "CryOrderModel" "silences" "I", .fieldLink RX9 54 "CryOrderModel" "silenced" "[I", .fieldLink RX9 57 "CryOrderModel" "from" "[I", .fieldLink RX9 60 "CryOrderModel" "to" "[I", .methodLink RX9 96 yX9_isIn, .static yX9_isIn, .initialized RX9, .code yX9_isIn cX9_isIn 3 (some .boolean)] ++ wsX90)
def wsX9_set : List Cond := .code yX9_set cX9_set 3 (some .boolean) :: ([.fieldLink RX9 7 "CryOrderModel" "cap" "I", .fieldLink RX9 13 "CryOrderModel" "needs" "I", .fieldLink RX9 114 "CryOrderModel" "tries" "I", .methodLink RX9 96 yX9_isIn, .static yX9_isIn, .initialized RX9, .code yX9_isIn cX9_isIn 3 (some .boolean)] ++ wsX90)
def wsX9_many : List Cond := .code yX9_many cX9_many 3 (some .int) :: ([])
def wsX9_verdict : List Cond := .code yX9_verdict cX9_verdict 4 (some .int) :: ([.fieldLink RX9 38 "CryOrderModel" "state" "[I", .fieldLink RX9 41 "CryOrderModel" "saidTrue" "[I", .fieldLink RX9 44 "CryOrderModel" "saidFalse" "[I", .methodLink RX9 117 yX9_isAlarm, .instanceMethod yX9_isAlarm, .selects RX9 yX9_isAlarm yX9_isAlarm, .initialized RX9, .code yX9_isAlarm cX9_isAlarm 2 (some .boolean), .fieldLink RX9 93 "CryOrderModel" "alarms" "I", .methodLink RX9 96 yX9_isIn, .static yX9_isIn, .code yX9_isIn cX9_isIn 3 (some .boolean), .methodLink RX9 120 yX9_many, .static yX9_many, .code yX9_many cX9_many 3 (some .int)] ++ wsX90)
def wsX9_tieOf : List Cond := .code yX9_tieOf cX9_tieOf 4 (some .int) :: ([.fieldLink RX9 124 "CryOrderModel" "ties" "I", .fieldLink RX9 63 "CryOrderModel" "tieA" "[I", .fieldLink RX9 66 "CryOrderModel" "tieB" "[I"] ++ wsX90)
def wsX9_tie : List Cond := .code yX9_tie cX9_tie 5 (some .boolean) :: ([.fieldLink RX9 69 "CryOrderModel" "isJoined" "[Z", .fieldLink RX9 124 "CryOrderModel" "ties" "I", .fieldLink RX9 63 "CryOrderModel" "tieA" "[I", .fieldLink RX9 66 "CryOrderModel" "tieB" "[I", .methodLink RX9 117 yX9_isAlarm, .instanceMethod yX9_isAlarm, .selects RX9 yX9_isAlarm yX9_isAlarm, .initialized RX9, .code yX9_isAlarm cX9_isAlarm 2 (some .boolean), .fieldLink RX9 93 "CryOrderModel" "alarms" "I", .methodLink RX9 96 yX9_isIn, .static yX9_isIn, .code yX9_isIn cX9_isIn 3 (some .boolean), .methodLink RX9 127 yX9_tieOf, .instanceMethod yX9_tieOf, .selects RX9 yX9_tieOf yX9_tieOf, .code yX9_tieOf cX9_tieOf 4 (some .int)] ++ wsX90)
def wsX9_counts : List Cond := .code yX9_counts cX9_counts 5 none :: ([.fieldLink RX9 131 "CryOrderModel" "trues" "I", .fieldLink RX9 134 "CryOrderModel" "settled" "I", .fieldLink RX9 137 "CryOrderModel" "opens" "I", .fieldLink RX9 93 "CryOrderModel" "alarms" "I", .fieldLink RX9 29 "CryOrderModel" "marks" "[I", .fieldLink RX9 38 "CryOrderModel" "state" "[I", .methodLink RX9 107 yX9_one, .static yX9_one, .initialized RX9, .code yX9_one cX9_one 1 (some .int)] ++ wsX90)
def wsX9_depth : List Cond := .code yX9_depth cX9_depth 3 (some .int) :: ([.fieldLink RX9 29 "CryOrderModel" "marks" "[I", .fieldLink RX9 134 "CryOrderModel" "settled" "I", .fieldLink RX9 13 "CryOrderModel" "needs" "I", .methodLink RX9 140 yX9_counts, .instanceMethod yX9_counts, .selects RX9 yX9_counts yX9_counts, .initialized RX9, .code yX9_counts cX9_counts 5 none, .fieldLink RX9 131 "CryOrderModel" "trues" "I", .fieldLink RX9 137 "CryOrderModel" "opens" "I", .fieldLink RX9 93 "CryOrderModel" "alarms" "I", .fieldLink RX9 38 "CryOrderModel" "state" "[I", .methodLink RX9 107 yX9_one, .static yX9_one, .code yX9_one cX9_one 1 (some .int)] ++ wsX90)
def wsX9_score : List Cond := .code yX9_score cX9_score 2 (some .int) :: ([.fieldLink RX9 134 "CryOrderModel" "settled" "I", .fieldLink RX9 32 "CryOrderModel" "worth" "[I", .fieldLink RX9 131 "CryOrderModel" "trues" "I", .methodLink RX9 144 yX9_depth, .instanceMethod yX9_depth, .selects RX9 yX9_depth yX9_depth, .initialized RX9, .code yX9_depth cX9_depth 3 (some .int), .fieldLink RX9 29 "CryOrderModel" "marks" "[I", .fieldLink RX9 13 "CryOrderModel" "needs" "I", .methodLink RX9 140 yX9_counts, .instanceMethod yX9_counts, .selects RX9 yX9_counts yX9_counts, .code yX9_counts cX9_counts 5 none, .fieldLink RX9 137 "CryOrderModel" "opens" "I", .fieldLink RX9 93 "CryOrderModel" "alarms" "I", .fieldLink RX9 38 "CryOrderModel" "state" "[I", .methodLink RX9 107 yX9_one, .static yX9_one, .code yX9_one cX9_one 1 (some .int)] ++ wsX90)
def wsX9_node : List Cond := .code yX9_node cX9_node 4 (some .int) :: ([.fieldLink RX9 131 "CryOrderModel" "trues" "I", .fieldLink RX9 134 "CryOrderModel" "settled" "I", .fieldLink RX9 137 "CryOrderModel" "opens" "I", .methodLink RX9 96 yX9_isIn, .static yX9_isIn, .initialized RX9, .code yX9_isIn cX9_isIn 3 (some .boolean), .methodLink RX9 140 yX9_counts, .instanceMethod yX9_counts, .selects RX9 yX9_counts yX9_counts, .code yX9_counts cX9_counts 5 none, .fieldLink RX9 93 "CryOrderModel" "alarms" "I", .fieldLink RX9 29 "CryOrderModel" "marks" "[I", .fieldLink RX9 38 "CryOrderModel" "state" "[I", .methodLink RX9 107 yX9_one, .static yX9_one, .code yX9_one cX9_one 1 (some .int)] ++ wsX90)
def wsX9_odds_r1 : List Cond := [Cond.fieldLink RX9 131 "CryOrderModel" "trues" "I", Cond.fieldLink RX9 137 "CryOrderModel" "opens" "I", Cond.fieldLink RX9 134 "CryOrderModel" "settled" "I", Cond.methodLink RX9 117 yX9_isAlarm, Cond.instanceMethod yX9_isAlarm, Cond.selects RX9 yX9_isAlarm yX9_isAlarm, Cond.initialized RX9, Cond.code yX9_isAlarm cX9_isAlarm 2 (some .boolean), Cond.fieldLink RX9 93 "CryOrderModel" "alarms" "I", Cond.methodLink RX9 96 yX9_isIn, Cond.static yX9_isIn, Cond.code yX9_isIn cX9_isIn 3 (some .boolean), Cond.methodLink RX9 144 yX9_depth, Cond.instanceMethod yX9_depth, Cond.selects RX9 yX9_depth yX9_depth, Cond.code yX9_depth cX9_depth 3 (some .int), Cond.fieldLink RX9 29 "CryOrderModel" "marks" "[I", Cond.fieldLink RX9 13 "CryOrderModel" "needs" "I", Cond.methodLink RX9 140 yX9_counts, Cond.instanceMethod yX9_counts, Cond.selects RX9 yX9_counts yX9_counts, Cond.code yX9_counts cX9_counts 5 none, Cond.fieldLink RX9 38 "CryOrderModel" "state" "[I", Cond.methodLink RX9 107 yX9_one]
def wsX9_odds_r2 : List Cond := [Cond.static yX9_one, Cond.code yX9_one cX9_one 1 (some .int)]
def wsX9_odds : List Cond := .code yX9_odds cX9_odds 8 (some .int) :: ((wsX9_odds_r1 ++ wsX9_odds_r2) ++ wsX90)
def wsX9_hangs : List Cond := .code yX9_hangs cX9_hangs 4 (some .boolean) :: ([.fieldLink RX9 69 "CryOrderModel" "isJoined" "[Z", .fieldLink RX9 26 "CryOrderModel" "thing" "[I", .fieldLink RX9 16 "CryOrderModel" "came" "[I", .methodLink RX9 147 Lib.Math.abs.name, .static Lib.Math.abs.name, .initialized "java/lang/Math", .code Lib.Math.abs.name Lib.Math.abs.code 1 (some .int), .methodLink RX9 127 yX9_tieOf, .instanceMethod yX9_tieOf, .selects RX9 yX9_tieOf yX9_tieOf, .initialized RX9, .code yX9_tieOf cX9_tieOf 4 (some .int), .fieldLink RX9 124 "CryOrderModel" "ties" "I", .fieldLink RX9 63 "CryOrderModel" "tieA" "[I", .fieldLink RX9 66 "CryOrderModel" "tieB" "[I"] ++ wsX90)
def wsX9_scoreOf : List Cond := .code yX9_scoreOf cX9_scoreOf 4 (some .int) :: ([.fieldLink RX9 93 "CryOrderModel" "alarms" "I", .fieldLink RX9 72 "CryOrderModel" "caseNumber" "[I", .fieldLink RX9 75 "CryOrderModel" "scores" "[I", .methodLink RX9 162 Lib.Math.max.name, .static Lib.Math.max.name, .initialized "java/lang/Math", .code Lib.Math.max.name Lib.Math.max.code 2 (some .int)] ++ wsX90)
def wsX9_joins_r1 : List Cond := [Cond.fieldLink RX9 93 "CryOrderModel" "alarms" "I", Cond.fieldLink RX9 72 "CryOrderModel" "caseNumber" "[I", Cond.fieldLink RX9 75 "CryOrderModel" "scores" "[I", Cond.methodLink RX9 159 Lib.Math.min.name, Cond.static Lib.Math.min.name, Cond.initialized "java/lang/Math", Cond.code Lib.Math.min.name Lib.Math.min.code 2 (some .int), Cond.methodLink RX9 162 Lib.Math.max.name, Cond.static Lib.Math.max.name, Cond.code Lib.Math.max.name Lib.Math.max.code 2 (some .int), Cond.fieldLink RX9 165 "CryOrderModel" "cases" "I", Cond.fieldLink RX9 78 "CryOrderModel" "order" "[I", Cond.methodLink RX9 103 yX9_isLive, Cond.instanceMethod yX9_isLive, Cond.selects RX9 yX9_isLive yX9_isLive, Cond.initialized RX9, Cond.code yX9_isLive cX9_isLive 2 (some .boolean), Cond.fieldLink RX9 38 "CryOrderModel" "state" "[I", Cond.fieldLink RX9 47 "CryOrderModel" "isSilenced" "[Z", Cond.fieldLink RX9 51 "CryOrderModel" "isCapped" "[Z", Cond.methodLink RX9 152 yX9_score, Cond.instanceMethod yX9_score, Cond.selects RX9 yX9_score yX9_score, Cond.code yX9_score cX9_score 2 (some .int)]
def wsX9_joins_r2 : List Cond := [Cond.fieldLink RX9 134 "CryOrderModel" "settled" "I", Cond.fieldLink RX9 32 "CryOrderModel" "worth" "[I", Cond.fieldLink RX9 131 "CryOrderModel" "trues" "I", Cond.methodLink RX9 144 yX9_depth, Cond.instanceMethod yX9_depth, Cond.selects RX9 yX9_depth yX9_depth, Cond.code yX9_depth cX9_depth 3 (some .int), Cond.fieldLink RX9 29 "CryOrderModel" "marks" "[I", Cond.fieldLink RX9 13 "CryOrderModel" "needs" "I", Cond.methodLink RX9 140 yX9_counts, Cond.instanceMethod yX9_counts, Cond.selects RX9 yX9_counts yX9_counts, Cond.code yX9_counts cX9_counts 5 none, Cond.fieldLink RX9 137 "CryOrderModel" "opens" "I", Cond.methodLink RX9 107 yX9_one, Cond.static yX9_one, Cond.code yX9_one cX9_one 1 (some .int), Cond.methodLink RX9 155 yX9_hangs, Cond.instanceMethod yX9_hangs, Cond.selects RX9 yX9_hangs yX9_hangs, Cond.code yX9_hangs cX9_hangs 4 (some .boolean), Cond.fieldLink RX9 69 "CryOrderModel" "isJoined" "[Z", Cond.fieldLink RX9 26 "CryOrderModel" "thing" "[I", Cond.fieldLink RX9 16 "CryOrderModel" "came" "[I"]
def wsX9_joins_r3 : List Cond := [Cond.methodLink RX9 147 Lib.Math.abs.name, Cond.static Lib.Math.abs.name, Cond.code Lib.Math.abs.name Lib.Math.abs.code 1 (some .int), Cond.methodLink RX9 127 yX9_tieOf, Cond.instanceMethod yX9_tieOf, Cond.selects RX9 yX9_tieOf yX9_tieOf, Cond.code yX9_tieOf cX9_tieOf 4 (some .int), Cond.fieldLink RX9 124 "CryOrderModel" "ties" "I", Cond.fieldLink RX9 63 "CryOrderModel" "tieA" "[I", Cond.fieldLink RX9 66 "CryOrderModel" "tieB" "[I", Cond.methodLink RX9 168 yX9_scoreOf, Cond.instanceMethod yX9_scoreOf, Cond.selects RX9 yX9_scoreOf yX9_scoreOf, Cond.code yX9_scoreOf cX9_scoreOf 4 (some .int)]
def wsX9_joins : List Cond := .code yX9_joins cX9_joins 6 none :: ((wsX9_joins_r1 ++ (wsX9_joins_r2 ++ wsX9_joins_r3)) ++ wsX90)
def wsX9_sizeOf : List Cond := .code yX9_sizeOf cX9_sizeOf 4 (some .int) :: ([.fieldLink RX9 93 "CryOrderModel" "alarms" "I", .fieldLink RX9 72 "CryOrderModel" "caseNumber" "[I", .methodLink RX9 107 yX9_one, .static yX9_one, .initialized RX9, .code yX9_one cX9_one 1 (some .int)] ++ wsX90)
def wsX9_minutesOf : List Cond := .code yX9_minutesOf cX9_minutesOf 2 (some .int) :: ([.methodLink RX9 171 yX9_sizeOf, .instanceMethod yX9_sizeOf, .selects RX9 yX9_sizeOf yX9_sizeOf, .initialized RX9, .code yX9_sizeOf cX9_sizeOf 4 (some .int), .fieldLink RX9 93 "CryOrderModel" "alarms" "I", .fieldLink RX9 72 "CryOrderModel" "caseNumber" "[I", .methodLink RX9 107 yX9_one, .static yX9_one, .code yX9_one cX9_one 1 (some .int)] ++ wsX90)
def wsX9_isLittleKnown : List Cond := .code yX9_isLittleKnown cX9_isLittleKnown 3 (some .boolean) :: ([.fieldLink RX9 93 "CryOrderModel" "alarms" "I", .fieldLink RX9 72 "CryOrderModel" "caseNumber" "[I", .methodLink RX9 144 yX9_depth, .instanceMethod yX9_depth, .selects RX9 yX9_depth yX9_depth, .initialized RX9, .code yX9_depth cX9_depth 3 (some .int), .fieldLink RX9 29 "CryOrderModel" "marks" "[I", .fieldLink RX9 134 "CryOrderModel" "settled" "I", .fieldLink RX9 13 "CryOrderModel" "needs" "I", .methodLink RX9 140 yX9_counts, .instanceMethod yX9_counts, .selects RX9 yX9_counts yX9_counts, .code yX9_counts cX9_counts 5 none, .fieldLink RX9 131 "CryOrderModel" "trues" "I", .fieldLink RX9 137 "CryOrderModel" "opens" "I", .fieldLink RX9 38 "CryOrderModel" "state" "[I", .methodLink RX9 107 yX9_one, .static yX9_one, .code yX9_one cX9_one 1 (some .int)] ++ wsX90)
def wsX9_told_r1 : List Cond := [Cond.fieldLink RX9 16 "CryOrderModel" "came" "[I", Cond.fieldLink RX9 23 "CryOrderModel" "source" "[I", Cond.fieldLink RX9 26 "CryOrderModel" "thing" "[I", Cond.fieldLink RX9 29 "CryOrderModel" "marks" "[I", Cond.fieldLink RX9 32 "CryOrderModel" "worth" "[I", Cond.fieldLink RX9 35 "CryOrderModel" "repeats" "[I", Cond.fieldLink RX9 38 "CryOrderModel" "state" "[I", Cond.fieldLink RX9 47 "CryOrderModel" "isSilenced" "[Z", Cond.fieldLink RX9 51 "CryOrderModel" "isCapped" "[Z", Cond.fieldLink RX9 41 "CryOrderModel" "saidTrue" "[I", Cond.fieldLink RX9 44 "CryOrderModel" "saidFalse" "[I", Cond.fieldLink RX9 72 "CryOrderModel" "caseNumber" "[I", Cond.methodLink RX9 117 yX9_isAlarm, Cond.instanceMethod yX9_isAlarm, Cond.selects RX9 yX9_isAlarm yX9_isAlarm, Cond.initialized RX9, Cond.code yX9_isAlarm cX9_isAlarm 2 (some .boolean), Cond.fieldLink RX9 93 "CryOrderModel" "alarms" "I", Cond.methodLink RX9 96 yX9_isIn, Cond.static yX9_isIn, Cond.code yX9_isIn cX9_isIn 3 (some .boolean), Cond.methodLink RX9 107 yX9_one, Cond.static yX9_one, Cond.code yX9_one cX9_one 1 (some .int)]
def wsX9_told_r2 : List Cond := [Cond.methodLink RX9 152 yX9_score, Cond.instanceMethod yX9_score, Cond.selects RX9 yX9_score yX9_score, Cond.code yX9_score cX9_score 2 (some .int), Cond.fieldLink RX9 134 "CryOrderModel" "settled" "I", Cond.fieldLink RX9 131 "CryOrderModel" "trues" "I", Cond.methodLink RX9 144 yX9_depth, Cond.instanceMethod yX9_depth, Cond.selects RX9 yX9_depth yX9_depth, Cond.code yX9_depth cX9_depth 3 (some .int), Cond.fieldLink RX9 13 "CryOrderModel" "needs" "I", Cond.methodLink RX9 140 yX9_counts, Cond.instanceMethod yX9_counts, Cond.selects RX9 yX9_counts yX9_counts, Cond.code yX9_counts cX9_counts 5 none, Cond.fieldLink RX9 137 "CryOrderModel" "opens" "I", Cond.methodLink RX9 120 yX9_many, Cond.static yX9_many, Cond.code yX9_many cX9_many 3 (some .int), Cond.methodLink RX9 174 yX9_joins, Cond.instanceMethod yX9_joins, Cond.selects RX9 yX9_joins yX9_joins, Cond.code yX9_joins cX9_joins 6 none, Cond.fieldLink RX9 75 "CryOrderModel" "scores" "[I"]
def wsX9_told_r3 : List Cond := [Cond.methodLink RX9 159 Lib.Math.min.name, Cond.static Lib.Math.min.name, Cond.initialized "java/lang/Math", Cond.code Lib.Math.min.name Lib.Math.min.code 2 (some .int), Cond.methodLink RX9 162 Lib.Math.max.name, Cond.static Lib.Math.max.name, Cond.code Lib.Math.max.name Lib.Math.max.code 2 (some .int), Cond.fieldLink RX9 165 "CryOrderModel" "cases" "I", Cond.fieldLink RX9 78 "CryOrderModel" "order" "[I", Cond.methodLink RX9 103 yX9_isLive, Cond.instanceMethod yX9_isLive, Cond.selects RX9 yX9_isLive yX9_isLive, Cond.code yX9_isLive cX9_isLive 2 (some .boolean), Cond.methodLink RX9 155 yX9_hangs, Cond.instanceMethod yX9_hangs, Cond.selects RX9 yX9_hangs yX9_hangs, Cond.code yX9_hangs cX9_hangs 4 (some .boolean), Cond.fieldLink RX9 69 "CryOrderModel" "isJoined" "[Z", Cond.methodLink RX9 147 Lib.Math.abs.name, Cond.static Lib.Math.abs.name, Cond.code Lib.Math.abs.name Lib.Math.abs.code 1 (some .int), Cond.methodLink RX9 127 yX9_tieOf, Cond.instanceMethod yX9_tieOf, Cond.selects RX9 yX9_tieOf yX9_tieOf]
def wsX9_told_r4 : List Cond := [Cond.code yX9_tieOf cX9_tieOf 4 (some .int), Cond.fieldLink RX9 124 "CryOrderModel" "ties" "I", Cond.fieldLink RX9 63 "CryOrderModel" "tieA" "[I", Cond.fieldLink RX9 66 "CryOrderModel" "tieB" "[I", Cond.methodLink RX9 168 yX9_scoreOf, Cond.instanceMethod yX9_scoreOf, Cond.selects RX9 yX9_scoreOf yX9_scoreOf, Cond.code yX9_scoreOf cX9_scoreOf 4 (some .int)]
def wsX9_told : List Cond := .code yX9_told cX9_told 3 (some .int) :: ((wsX9_told_r1 ++ (wsX9_told_r2 ++ (wsX9_told_r3 ++ wsX9_told_r4))) ++ wsX90)
def wsX9_order_r1 : List Cond := [Cond.fieldLink RX9 165 "CryOrderModel" "cases" "I", Cond.fieldLink RX9 78 "CryOrderModel" "order" "[I", Cond.methodLink RX9 174 yX9_joins, Cond.instanceMethod yX9_joins, Cond.selects RX9 yX9_joins yX9_joins, Cond.initialized RX9, Cond.code yX9_joins cX9_joins 6 none, Cond.fieldLink RX9 93 "CryOrderModel" "alarms" "I", Cond.fieldLink RX9 72 "CryOrderModel" "caseNumber" "[I", Cond.fieldLink RX9 75 "CryOrderModel" "scores" "[I", Cond.methodLink RX9 159 Lib.Math.min.name, Cond.static Lib.Math.min.name, Cond.initialized "java/lang/Math", Cond.code Lib.Math.min.name Lib.Math.min.code 2 (some .int), Cond.methodLink RX9 162 Lib.Math.max.name, Cond.static Lib.Math.max.name, Cond.code Lib.Math.max.name Lib.Math.max.code 2 (some .int), Cond.methodLink RX9 103 yX9_isLive, Cond.instanceMethod yX9_isLive, Cond.selects RX9 yX9_isLive yX9_isLive, Cond.code yX9_isLive cX9_isLive 2 (some .boolean), Cond.fieldLink RX9 38 "CryOrderModel" "state" "[I", Cond.fieldLink RX9 47 "CryOrderModel" "isSilenced" "[Z", Cond.fieldLink RX9 51 "CryOrderModel" "isCapped" "[Z"]
def wsX9_order_r2 : List Cond := [Cond.methodLink RX9 152 yX9_score, Cond.instanceMethod yX9_score, Cond.selects RX9 yX9_score yX9_score, Cond.code yX9_score cX9_score 2 (some .int), Cond.fieldLink RX9 134 "CryOrderModel" "settled" "I", Cond.fieldLink RX9 32 "CryOrderModel" "worth" "[I", Cond.fieldLink RX9 131 "CryOrderModel" "trues" "I", Cond.methodLink RX9 144 yX9_depth, Cond.instanceMethod yX9_depth, Cond.selects RX9 yX9_depth yX9_depth, Cond.code yX9_depth cX9_depth 3 (some .int), Cond.fieldLink RX9 29 "CryOrderModel" "marks" "[I", Cond.fieldLink RX9 13 "CryOrderModel" "needs" "I", Cond.methodLink RX9 140 yX9_counts, Cond.instanceMethod yX9_counts, Cond.selects RX9 yX9_counts yX9_counts, Cond.code yX9_counts cX9_counts 5 none, Cond.fieldLink RX9 137 "CryOrderModel" "opens" "I", Cond.methodLink RX9 107 yX9_one, Cond.static yX9_one, Cond.code yX9_one cX9_one 1 (some .int), Cond.methodLink RX9 155 yX9_hangs, Cond.instanceMethod yX9_hangs, Cond.selects RX9 yX9_hangs yX9_hangs]
def wsX9_order_r3 : List Cond := [Cond.code yX9_hangs cX9_hangs 4 (some .boolean), Cond.fieldLink RX9 69 "CryOrderModel" "isJoined" "[Z", Cond.fieldLink RX9 26 "CryOrderModel" "thing" "[I", Cond.fieldLink RX9 16 "CryOrderModel" "came" "[I", Cond.methodLink RX9 147 Lib.Math.abs.name, Cond.static Lib.Math.abs.name, Cond.code Lib.Math.abs.name Lib.Math.abs.code 1 (some .int), Cond.methodLink RX9 127 yX9_tieOf, Cond.instanceMethod yX9_tieOf, Cond.selects RX9 yX9_tieOf yX9_tieOf, Cond.code yX9_tieOf cX9_tieOf 4 (some .int), Cond.fieldLink RX9 124 "CryOrderModel" "ties" "I", Cond.fieldLink RX9 63 "CryOrderModel" "tieA" "[I", Cond.fieldLink RX9 66 "CryOrderModel" "tieB" "[I", Cond.methodLink RX9 168 yX9_scoreOf, Cond.instanceMethod yX9_scoreOf, Cond.selects RX9 yX9_scoreOf yX9_scoreOf, Cond.code yX9_scoreOf cX9_scoreOf 4 (some .int), Cond.methodLink RX9 96 yX9_isIn, Cond.static yX9_isIn, Cond.code yX9_isIn cX9_isIn 3 (some .boolean)]
def wsX9_order : List Cond := .code yX9_order cX9_order 2 (some .int) :: ((wsX9_order_r1 ++ (wsX9_order_r2 ++ wsX9_order_r3)) ++ wsX90)
def wsX9_caseOf_r1 : List Cond := [Cond.fieldLink RX9 72 "CryOrderModel" "caseNumber" "[I", Cond.fieldLink RX9 93 "CryOrderModel" "alarms" "I", Cond.methodLink RX9 117 yX9_isAlarm, Cond.instanceMethod yX9_isAlarm, Cond.selects RX9 yX9_isAlarm yX9_isAlarm, Cond.initialized RX9, Cond.code yX9_isAlarm cX9_isAlarm 2 (some .boolean), Cond.methodLink RX9 96 yX9_isIn, Cond.static yX9_isIn, Cond.code yX9_isIn cX9_isIn 3 (some .boolean), Cond.methodLink RX9 174 yX9_joins, Cond.instanceMethod yX9_joins, Cond.selects RX9 yX9_joins yX9_joins, Cond.code yX9_joins cX9_joins 6 none, Cond.fieldLink RX9 75 "CryOrderModel" "scores" "[I", Cond.methodLink RX9 159 Lib.Math.min.name, Cond.static Lib.Math.min.name, Cond.initialized "java/lang/Math", Cond.code Lib.Math.min.name Lib.Math.min.code 2 (some .int), Cond.methodLink RX9 162 Lib.Math.max.name, Cond.static Lib.Math.max.name, Cond.code Lib.Math.max.name Lib.Math.max.code 2 (some .int), Cond.fieldLink RX9 165 "CryOrderModel" "cases" "I", Cond.fieldLink RX9 78 "CryOrderModel" "order" "[I"]
def wsX9_caseOf_r2 : List Cond := [Cond.methodLink RX9 103 yX9_isLive, Cond.instanceMethod yX9_isLive, Cond.selects RX9 yX9_isLive yX9_isLive, Cond.code yX9_isLive cX9_isLive 2 (some .boolean), Cond.fieldLink RX9 38 "CryOrderModel" "state" "[I", Cond.fieldLink RX9 47 "CryOrderModel" "isSilenced" "[Z", Cond.fieldLink RX9 51 "CryOrderModel" "isCapped" "[Z", Cond.methodLink RX9 152 yX9_score, Cond.instanceMethod yX9_score, Cond.selects RX9 yX9_score yX9_score, Cond.code yX9_score cX9_score 2 (some .int), Cond.fieldLink RX9 134 "CryOrderModel" "settled" "I", Cond.fieldLink RX9 32 "CryOrderModel" "worth" "[I", Cond.fieldLink RX9 131 "CryOrderModel" "trues" "I", Cond.methodLink RX9 144 yX9_depth, Cond.instanceMethod yX9_depth, Cond.selects RX9 yX9_depth yX9_depth, Cond.code yX9_depth cX9_depth 3 (some .int), Cond.fieldLink RX9 29 "CryOrderModel" "marks" "[I", Cond.fieldLink RX9 13 "CryOrderModel" "needs" "I", Cond.methodLink RX9 140 yX9_counts, Cond.instanceMethod yX9_counts, Cond.selects RX9 yX9_counts yX9_counts, Cond.code yX9_counts cX9_counts 5 none]
def wsX9_caseOf_r3 : List Cond := [Cond.fieldLink RX9 137 "CryOrderModel" "opens" "I", Cond.methodLink RX9 107 yX9_one, Cond.static yX9_one, Cond.code yX9_one cX9_one 1 (some .int), Cond.methodLink RX9 155 yX9_hangs, Cond.instanceMethod yX9_hangs, Cond.selects RX9 yX9_hangs yX9_hangs, Cond.code yX9_hangs cX9_hangs 4 (some .boolean), Cond.fieldLink RX9 69 "CryOrderModel" "isJoined" "[Z", Cond.fieldLink RX9 26 "CryOrderModel" "thing" "[I", Cond.fieldLink RX9 16 "CryOrderModel" "came" "[I", Cond.methodLink RX9 147 Lib.Math.abs.name, Cond.static Lib.Math.abs.name, Cond.code Lib.Math.abs.name Lib.Math.abs.code 1 (some .int), Cond.methodLink RX9 127 yX9_tieOf, Cond.instanceMethod yX9_tieOf, Cond.selects RX9 yX9_tieOf yX9_tieOf, Cond.code yX9_tieOf cX9_tieOf 4 (some .int), Cond.fieldLink RX9 124 "CryOrderModel" "ties" "I", Cond.fieldLink RX9 63 "CryOrderModel" "tieA" "[I", Cond.fieldLink RX9 66 "CryOrderModel" "tieB" "[I", Cond.methodLink RX9 168 yX9_scoreOf, Cond.instanceMethod yX9_scoreOf, Cond.selects RX9 yX9_scoreOf yX9_scoreOf]
def wsX9_caseOf_r4 : List Cond := [Cond.code yX9_scoreOf cX9_scoreOf 4 (some .int), Cond.methodLink RX9 171 yX9_sizeOf, Cond.instanceMethod yX9_sizeOf, Cond.selects RX9 yX9_sizeOf yX9_sizeOf, Cond.code yX9_sizeOf cX9_sizeOf 4 (some .int), Cond.methodLink RX9 177 yX9_minutesOf, Cond.instanceMethod yX9_minutesOf, Cond.selects RX9 yX9_minutesOf yX9_minutesOf, Cond.code yX9_minutesOf cX9_minutesOf 2 (some .int), Cond.methodLink RX9 180 yX9_isLittleKnown, Cond.instanceMethod yX9_isLittleKnown, Cond.selects RX9 yX9_isLittleKnown yX9_isLittleKnown, Cond.code yX9_isLittleKnown cX9_isLittleKnown 3 (some .boolean)]
def wsX9_caseOf : List Cond := .code yX9_caseOf cX9_caseOf 5 (some .int) :: ((wsX9_caseOf_r1 ++ (wsX9_caseOf_r2 ++ (wsX9_caseOf_r3 ++ wsX9_caseOf_r4))) ++ wsX90)
def wsX9_slow_r1 : List Cond := [Cond.fieldLink RX9 93 "CryOrderModel" "alarms" "I", Cond.fieldLink RX9 26 "CryOrderModel" "thing" "[I", Cond.fieldLink RX9 100 "CryOrderModel" "now" "I", Cond.fieldLink RX9 16 "CryOrderModel" "came" "[I", Cond.methodLink RX9 96 yX9_isIn, Cond.static yX9_isIn, Cond.initialized RX9, Cond.code yX9_isIn cX9_isIn 3 (some .boolean), Cond.methodLink RX9 103 yX9_isLive, Cond.instanceMethod yX9_isLive, Cond.selects RX9 yX9_isLive yX9_isLive, Cond.code yX9_isLive cX9_isLive 2 (some .boolean), Cond.fieldLink RX9 38 "CryOrderModel" "state" "[I", Cond.fieldLink RX9 47 "CryOrderModel" "isSilenced" "[Z", Cond.fieldLink RX9 51 "CryOrderModel" "isCapped" "[Z", Cond.methodLink RX9 152 yX9_score, Cond.instanceMethod yX9_score, Cond.selects RX9 yX9_score yX9_score, Cond.code yX9_score cX9_score 2 (some .int), Cond.fieldLink RX9 134 "CryOrderModel" "settled" "I", Cond.fieldLink RX9 32 "CryOrderModel" "worth" "[I", Cond.fieldLink RX9 131 "CryOrderModel" "trues" "I", Cond.methodLink RX9 144 yX9_depth, Cond.instanceMethod yX9_depth]
def wsX9_slow_r2 : List Cond := [Cond.selects RX9 yX9_depth yX9_depth, Cond.code yX9_depth cX9_depth 3 (some .int), Cond.fieldLink RX9 29 "CryOrderModel" "marks" "[I", Cond.fieldLink RX9 13 "CryOrderModel" "needs" "I", Cond.methodLink RX9 140 yX9_counts, Cond.instanceMethod yX9_counts, Cond.selects RX9 yX9_counts yX9_counts, Cond.code yX9_counts cX9_counts 5 none, Cond.fieldLink RX9 137 "CryOrderModel" "opens" "I", Cond.methodLink RX9 107 yX9_one, Cond.static yX9_one, Cond.code yX9_one cX9_one 1 (some .int)]
def wsX9_slow : List Cond := .code yX9_slow cX9_slow 5 (some .int) :: ((wsX9_slow_r1 ++ wsX9_slow_r2) ++ wsX90)
def wsX9_isTaken : List Cond := .code yX9_isTaken cX9_isTaken 3 (some .boolean) :: ([.fieldLink RX9 183 "CryOrderModel" "takenMany" "I", .fieldLink RX9 81 "CryOrderModel" "taken" "[I"] ++ wsX90)
def wsX9_plans_r1 : List Cond := [Cond.fieldLink RX9 183 "CryOrderModel" "takenMany" "I", Cond.fieldLink RX9 165 "CryOrderModel" "cases" "I", Cond.fieldLink RX9 114 "CryOrderModel" "tries" "I", Cond.fieldLink RX9 78 "CryOrderModel" "order" "[I", Cond.fieldLink RX9 81 "CryOrderModel" "taken" "[I", Cond.fieldLink RX9 84 "CryOrderModel" "rest" "[I", Cond.fieldLink RX9 87 "CryOrderModel" "restMinutes" "[I", Cond.fieldLink RX9 90 "CryOrderModel" "restScores" "[I", Cond.methodLink RX9 174 yX9_joins, Cond.instanceMethod yX9_joins, Cond.selects RX9 yX9_joins yX9_joins, Cond.initialized RX9, Cond.code yX9_joins cX9_joins 6 none, Cond.fieldLink RX9 93 "CryOrderModel" "alarms" "I", Cond.fieldLink RX9 72 "CryOrderModel" "caseNumber" "[I", Cond.fieldLink RX9 75 "CryOrderModel" "scores" "[I", Cond.methodLink RX9 159 Lib.Math.min.name, Cond.static Lib.Math.min.name, Cond.initialized "java/lang/Math", Cond.code Lib.Math.min.name Lib.Math.min.code 2 (some .int), Cond.methodLink RX9 162 Lib.Math.max.name, Cond.static Lib.Math.max.name, Cond.code Lib.Math.max.name Lib.Math.max.code 2 (some .int), Cond.methodLink RX9 103 yX9_isLive]
def wsX9_plans_r2 : List Cond := [Cond.instanceMethod yX9_isLive, Cond.selects RX9 yX9_isLive yX9_isLive, Cond.code yX9_isLive cX9_isLive 2 (some .boolean), Cond.fieldLink RX9 38 "CryOrderModel" "state" "[I", Cond.fieldLink RX9 47 "CryOrderModel" "isSilenced" "[Z", Cond.fieldLink RX9 51 "CryOrderModel" "isCapped" "[Z", Cond.methodLink RX9 152 yX9_score, Cond.instanceMethod yX9_score, Cond.selects RX9 yX9_score yX9_score, Cond.code yX9_score cX9_score 2 (some .int), Cond.fieldLink RX9 134 "CryOrderModel" "settled" "I", Cond.fieldLink RX9 32 "CryOrderModel" "worth" "[I", Cond.fieldLink RX9 131 "CryOrderModel" "trues" "I", Cond.methodLink RX9 144 yX9_depth, Cond.instanceMethod yX9_depth, Cond.selects RX9 yX9_depth yX9_depth, Cond.code yX9_depth cX9_depth 3 (some .int), Cond.fieldLink RX9 29 "CryOrderModel" "marks" "[I", Cond.fieldLink RX9 13 "CryOrderModel" "needs" "I", Cond.methodLink RX9 140 yX9_counts, Cond.instanceMethod yX9_counts, Cond.selects RX9 yX9_counts yX9_counts, Cond.code yX9_counts cX9_counts 5 none, Cond.fieldLink RX9 137 "CryOrderModel" "opens" "I"]
def wsX9_plans_r3 : List Cond := [Cond.methodLink RX9 107 yX9_one, Cond.static yX9_one, Cond.code yX9_one cX9_one 1 (some .int), Cond.methodLink RX9 155 yX9_hangs, Cond.instanceMethod yX9_hangs, Cond.selects RX9 yX9_hangs yX9_hangs, Cond.code yX9_hangs cX9_hangs 4 (some .boolean), Cond.fieldLink RX9 69 "CryOrderModel" "isJoined" "[Z", Cond.fieldLink RX9 26 "CryOrderModel" "thing" "[I", Cond.fieldLink RX9 16 "CryOrderModel" "came" "[I", Cond.methodLink RX9 147 Lib.Math.abs.name, Cond.static Lib.Math.abs.name, Cond.code Lib.Math.abs.name Lib.Math.abs.code 1 (some .int), Cond.methodLink RX9 127 yX9_tieOf, Cond.instanceMethod yX9_tieOf, Cond.selects RX9 yX9_tieOf yX9_tieOf, Cond.code yX9_tieOf cX9_tieOf 4 (some .int), Cond.fieldLink RX9 124 "CryOrderModel" "ties" "I", Cond.fieldLink RX9 63 "CryOrderModel" "tieA" "[I", Cond.fieldLink RX9 66 "CryOrderModel" "tieB" "[I", Cond.methodLink RX9 168 yX9_scoreOf, Cond.instanceMethod yX9_scoreOf, Cond.selects RX9 yX9_scoreOf yX9_scoreOf, Cond.code yX9_scoreOf cX9_scoreOf 4 (some .int)]
def wsX9_plans_r4 : List Cond := [Cond.methodLink RX9 180 yX9_isLittleKnown, Cond.instanceMethod yX9_isLittleKnown, Cond.selects RX9 yX9_isLittleKnown yX9_isLittleKnown, Cond.code yX9_isLittleKnown cX9_isLittleKnown 3 (some .boolean), Cond.methodLink RX9 177 yX9_minutesOf, Cond.instanceMethod yX9_minutesOf, Cond.selects RX9 yX9_minutesOf yX9_minutesOf, Cond.code yX9_minutesOf cX9_minutesOf 2 (some .int), Cond.methodLink RX9 171 yX9_sizeOf, Cond.instanceMethod yX9_sizeOf, Cond.selects RX9 yX9_sizeOf yX9_sizeOf, Cond.code yX9_sizeOf cX9_sizeOf 4 (some .int), Cond.methodLink RX9 186 yX9_isTaken, Cond.instanceMethod yX9_isTaken, Cond.selects RX9 yX9_isTaken yX9_isTaken, Cond.code yX9_isTaken cX9_isTaken 3 (some .boolean)]
def wsX9_plans : List Cond := .code yX9_plans cX9_plans 10 none :: ((wsX9_plans_r1 ++ (wsX9_plans_r2 ++ (wsX9_plans_r3 ++ wsX9_plans_r4))) ++ wsX90)
def wsX9_isPlan : List Cond := .code yX9_isPlan cX9_isPlan 1 (some .boolean) :: ([.methodLink RX9 96 yX9_isIn, .static yX9_isIn, .initialized RX9, .code yX9_isIn cX9_isIn 3 (some .boolean)])
def wsX9_plan_r1 : List Cond := [Cond.fieldLink RX9 183 "CryOrderModel" "takenMany" "I", Cond.fieldLink RX9 81 "CryOrderModel" "taken" "[I", Cond.methodLink RX9 189 yX9_isPlan, Cond.static yX9_isPlan, Cond.initialized RX9, Cond.code yX9_isPlan cX9_isPlan 1 (some .boolean), Cond.methodLink RX9 96 yX9_isIn, Cond.static yX9_isIn, Cond.code yX9_isIn cX9_isIn 3 (some .boolean), Cond.methodLink RX9 192 yX9_plans, Cond.instanceMethod yX9_plans, Cond.selects RX9 yX9_plans yX9_plans, Cond.code yX9_plans cX9_plans 10 none, Cond.fieldLink RX9 165 "CryOrderModel" "cases" "I", Cond.fieldLink RX9 114 "CryOrderModel" "tries" "I", Cond.fieldLink RX9 78 "CryOrderModel" "order" "[I", Cond.fieldLink RX9 84 "CryOrderModel" "rest" "[I", Cond.fieldLink RX9 87 "CryOrderModel" "restMinutes" "[I", Cond.fieldLink RX9 90 "CryOrderModel" "restScores" "[I", Cond.methodLink RX9 174 yX9_joins, Cond.instanceMethod yX9_joins, Cond.selects RX9 yX9_joins yX9_joins, Cond.code yX9_joins cX9_joins 6 none, Cond.fieldLink RX9 93 "CryOrderModel" "alarms" "I"]
def wsX9_plan_r2 : List Cond := [Cond.fieldLink RX9 72 "CryOrderModel" "caseNumber" "[I", Cond.fieldLink RX9 75 "CryOrderModel" "scores" "[I", Cond.methodLink RX9 159 Lib.Math.min.name, Cond.static Lib.Math.min.name, Cond.initialized "java/lang/Math", Cond.code Lib.Math.min.name Lib.Math.min.code 2 (some .int), Cond.methodLink RX9 162 Lib.Math.max.name, Cond.static Lib.Math.max.name, Cond.code Lib.Math.max.name Lib.Math.max.code 2 (some .int), Cond.methodLink RX9 103 yX9_isLive, Cond.instanceMethod yX9_isLive, Cond.selects RX9 yX9_isLive yX9_isLive, Cond.code yX9_isLive cX9_isLive 2 (some .boolean), Cond.fieldLink RX9 38 "CryOrderModel" "state" "[I", Cond.fieldLink RX9 47 "CryOrderModel" "isSilenced" "[Z", Cond.fieldLink RX9 51 "CryOrderModel" "isCapped" "[Z", Cond.methodLink RX9 152 yX9_score, Cond.instanceMethod yX9_score, Cond.selects RX9 yX9_score yX9_score, Cond.code yX9_score cX9_score 2 (some .int), Cond.fieldLink RX9 134 "CryOrderModel" "settled" "I", Cond.fieldLink RX9 32 "CryOrderModel" "worth" "[I", Cond.fieldLink RX9 131 "CryOrderModel" "trues" "I", Cond.methodLink RX9 144 yX9_depth]
def wsX9_plan_r3 : List Cond := [Cond.instanceMethod yX9_depth, Cond.selects RX9 yX9_depth yX9_depth, Cond.code yX9_depth cX9_depth 3 (some .int), Cond.fieldLink RX9 29 "CryOrderModel" "marks" "[I", Cond.fieldLink RX9 13 "CryOrderModel" "needs" "I", Cond.methodLink RX9 140 yX9_counts, Cond.instanceMethod yX9_counts, Cond.selects RX9 yX9_counts yX9_counts, Cond.code yX9_counts cX9_counts 5 none, Cond.fieldLink RX9 137 "CryOrderModel" "opens" "I", Cond.methodLink RX9 107 yX9_one, Cond.static yX9_one, Cond.code yX9_one cX9_one 1 (some .int), Cond.methodLink RX9 155 yX9_hangs, Cond.instanceMethod yX9_hangs, Cond.selects RX9 yX9_hangs yX9_hangs, Cond.code yX9_hangs cX9_hangs 4 (some .boolean), Cond.fieldLink RX9 69 "CryOrderModel" "isJoined" "[Z", Cond.fieldLink RX9 26 "CryOrderModel" "thing" "[I", Cond.fieldLink RX9 16 "CryOrderModel" "came" "[I", Cond.methodLink RX9 147 Lib.Math.abs.name, Cond.static Lib.Math.abs.name, Cond.code Lib.Math.abs.name Lib.Math.abs.code 1 (some .int), Cond.methodLink RX9 127 yX9_tieOf]
def wsX9_plan_r4 : List Cond := [Cond.instanceMethod yX9_tieOf, Cond.selects RX9 yX9_tieOf yX9_tieOf, Cond.code yX9_tieOf cX9_tieOf 4 (some .int), Cond.fieldLink RX9 124 "CryOrderModel" "ties" "I", Cond.fieldLink RX9 63 "CryOrderModel" "tieA" "[I", Cond.fieldLink RX9 66 "CryOrderModel" "tieB" "[I", Cond.methodLink RX9 168 yX9_scoreOf, Cond.instanceMethod yX9_scoreOf, Cond.selects RX9 yX9_scoreOf yX9_scoreOf, Cond.code yX9_scoreOf cX9_scoreOf 4 (some .int), Cond.methodLink RX9 180 yX9_isLittleKnown, Cond.instanceMethod yX9_isLittleKnown, Cond.selects RX9 yX9_isLittleKnown yX9_isLittleKnown, Cond.code yX9_isLittleKnown cX9_isLittleKnown 3 (some .boolean), Cond.methodLink RX9 177 yX9_minutesOf, Cond.instanceMethod yX9_minutesOf, Cond.selects RX9 yX9_minutesOf yX9_minutesOf, Cond.code yX9_minutesOf cX9_minutesOf 2 (some .int), Cond.methodLink RX9 171 yX9_sizeOf, Cond.instanceMethod yX9_sizeOf, Cond.selects RX9 yX9_sizeOf yX9_sizeOf, Cond.code yX9_sizeOf cX9_sizeOf 4 (some .int), Cond.methodLink RX9 186 yX9_isTaken, Cond.instanceMethod yX9_isTaken]
def wsX9_plan_r5 : List Cond := [Cond.selects RX9 yX9_isTaken yX9_isTaken, Cond.code yX9_isTaken cX9_isTaken 3 (some .boolean)]
def wsX9_plan : List Cond := .code yX9_plan cX9_plan 3 (some .int) :: ((wsX9_plan_r1 ++ (wsX9_plan_r2 ++ (wsX9_plan_r3 ++ (wsX9_plan_r4 ++ wsX9_plan_r5)))) ++ wsX90)
def wsX9_worth_r1 : List Cond := [Cond.fieldLink RX9 165 "CryOrderModel" "cases" "I", Cond.fieldLink RX9 78 "CryOrderModel" "order" "[I", Cond.methodLink RX9 189 yX9_isPlan, Cond.static yX9_isPlan, Cond.initialized RX9, Cond.code yX9_isPlan cX9_isPlan 1 (some .boolean), Cond.methodLink RX9 96 yX9_isIn, Cond.static yX9_isIn, Cond.code yX9_isIn cX9_isIn 3 (some .boolean), Cond.methodLink RX9 192 yX9_plans, Cond.instanceMethod yX9_plans, Cond.selects RX9 yX9_plans yX9_plans, Cond.code yX9_plans cX9_plans 10 none, Cond.fieldLink RX9 183 "CryOrderModel" "takenMany" "I", Cond.fieldLink RX9 114 "CryOrderModel" "tries" "I", Cond.fieldLink RX9 81 "CryOrderModel" "taken" "[I", Cond.fieldLink RX9 84 "CryOrderModel" "rest" "[I", Cond.fieldLink RX9 87 "CryOrderModel" "restMinutes" "[I", Cond.fieldLink RX9 90 "CryOrderModel" "restScores" "[I", Cond.methodLink RX9 174 yX9_joins, Cond.instanceMethod yX9_joins, Cond.selects RX9 yX9_joins yX9_joins, Cond.code yX9_joins cX9_joins 6 none, Cond.fieldLink RX9 93 "CryOrderModel" "alarms" "I"]
def wsX9_worth_r2 : List Cond := [Cond.fieldLink RX9 72 "CryOrderModel" "caseNumber" "[I", Cond.fieldLink RX9 75 "CryOrderModel" "scores" "[I", Cond.methodLink RX9 159 Lib.Math.min.name, Cond.static Lib.Math.min.name, Cond.initialized "java/lang/Math", Cond.code Lib.Math.min.name Lib.Math.min.code 2 (some .int), Cond.methodLink RX9 162 Lib.Math.max.name, Cond.static Lib.Math.max.name, Cond.code Lib.Math.max.name Lib.Math.max.code 2 (some .int), Cond.methodLink RX9 103 yX9_isLive, Cond.instanceMethod yX9_isLive, Cond.selects RX9 yX9_isLive yX9_isLive, Cond.code yX9_isLive cX9_isLive 2 (some .boolean), Cond.fieldLink RX9 38 "CryOrderModel" "state" "[I", Cond.fieldLink RX9 47 "CryOrderModel" "isSilenced" "[Z", Cond.fieldLink RX9 51 "CryOrderModel" "isCapped" "[Z", Cond.methodLink RX9 152 yX9_score, Cond.instanceMethod yX9_score, Cond.selects RX9 yX9_score yX9_score, Cond.code yX9_score cX9_score 2 (some .int), Cond.fieldLink RX9 134 "CryOrderModel" "settled" "I", Cond.fieldLink RX9 32 "CryOrderModel" "worth" "[I", Cond.fieldLink RX9 131 "CryOrderModel" "trues" "I", Cond.methodLink RX9 144 yX9_depth]
def wsX9_worth_r3 : List Cond := [Cond.instanceMethod yX9_depth, Cond.selects RX9 yX9_depth yX9_depth, Cond.code yX9_depth cX9_depth 3 (some .int), Cond.fieldLink RX9 29 "CryOrderModel" "marks" "[I", Cond.fieldLink RX9 13 "CryOrderModel" "needs" "I", Cond.methodLink RX9 140 yX9_counts, Cond.instanceMethod yX9_counts, Cond.selects RX9 yX9_counts yX9_counts, Cond.code yX9_counts cX9_counts 5 none, Cond.fieldLink RX9 137 "CryOrderModel" "opens" "I", Cond.methodLink RX9 107 yX9_one, Cond.static yX9_one, Cond.code yX9_one cX9_one 1 (some .int), Cond.methodLink RX9 155 yX9_hangs, Cond.instanceMethod yX9_hangs, Cond.selects RX9 yX9_hangs yX9_hangs, Cond.code yX9_hangs cX9_hangs 4 (some .boolean), Cond.fieldLink RX9 69 "CryOrderModel" "isJoined" "[Z", Cond.fieldLink RX9 26 "CryOrderModel" "thing" "[I", Cond.fieldLink RX9 16 "CryOrderModel" "came" "[I", Cond.methodLink RX9 147 Lib.Math.abs.name, Cond.static Lib.Math.abs.name, Cond.code Lib.Math.abs.name Lib.Math.abs.code 1 (some .int), Cond.methodLink RX9 127 yX9_tieOf]
def wsX9_worth_r4 : List Cond := [Cond.instanceMethod yX9_tieOf, Cond.selects RX9 yX9_tieOf yX9_tieOf, Cond.code yX9_tieOf cX9_tieOf 4 (some .int), Cond.fieldLink RX9 124 "CryOrderModel" "ties" "I", Cond.fieldLink RX9 63 "CryOrderModel" "tieA" "[I", Cond.fieldLink RX9 66 "CryOrderModel" "tieB" "[I", Cond.methodLink RX9 168 yX9_scoreOf, Cond.instanceMethod yX9_scoreOf, Cond.selects RX9 yX9_scoreOf yX9_scoreOf, Cond.code yX9_scoreOf cX9_scoreOf 4 (some .int), Cond.methodLink RX9 180 yX9_isLittleKnown, Cond.instanceMethod yX9_isLittleKnown, Cond.selects RX9 yX9_isLittleKnown yX9_isLittleKnown, Cond.code yX9_isLittleKnown cX9_isLittleKnown 3 (some .boolean), Cond.methodLink RX9 177 yX9_minutesOf, Cond.instanceMethod yX9_minutesOf, Cond.selects RX9 yX9_minutesOf yX9_minutesOf, Cond.code yX9_minutesOf cX9_minutesOf 2 (some .int), Cond.methodLink RX9 171 yX9_sizeOf, Cond.instanceMethod yX9_sizeOf, Cond.selects RX9 yX9_sizeOf yX9_sizeOf, Cond.code yX9_sizeOf cX9_sizeOf 4 (some .int), Cond.methodLink RX9 186 yX9_isTaken, Cond.instanceMethod yX9_isTaken]
def wsX9_worth_r5 : List Cond := [Cond.selects RX9 yX9_isTaken yX9_isTaken, Cond.code yX9_isTaken cX9_isTaken 3 (some .boolean)]
def wsX9_worth : List Cond := .code yX9_worth cX9_worth 6 (some .int) :: ((wsX9_worth_r1 ++ (wsX9_worth_r2 ++ (wsX9_worth_r3 ++ (wsX9_worth_r4 ++ wsX9_worth_r5)))) ++ wsX90)
def wsX9_source : List Cond := .code yX9_source cX9_source 6 (some .int) :: ([.fieldLink RX9 93 "CryOrderModel" "alarms" "I", .fieldLink RX9 23 "CryOrderModel" "source" "[I", .fieldLink RX9 47 "CryOrderModel" "isSilenced" "[Z", .fieldLink RX9 51 "CryOrderModel" "isCapped" "[Z", .fieldLink RX9 35 "CryOrderModel" "repeats" "[I", .fieldLink RX9 38 "CryOrderModel" "state" "[I", .methodLink RX9 96 yX9_isIn, .static yX9_isIn, .initialized RX9, .code yX9_isIn cX9_isIn 3 (some .boolean), .methodLink RX9 107 yX9_one, .static yX9_one, .code yX9_one cX9_one 1 (some .int)] ++ wsX90)
def wsX9_count_r1 : List Cond := [Cond.fieldLink RX9 100 "CryOrderModel" "now" "I", Cond.fieldLink RX9 93 "CryOrderModel" "alarms" "I", Cond.fieldLink RX9 38 "CryOrderModel" "state" "[I", Cond.fieldLink RX9 165 "CryOrderModel" "cases" "I", Cond.fieldLink RX9 111 "CryOrderModel" "silences" "I", Cond.fieldLink RX9 124 "CryOrderModel" "ties" "I", Cond.methodLink RX9 107 yX9_one, Cond.static yX9_one, Cond.initialized RX9, Cond.code yX9_one cX9_one 1 (some .int), Cond.methodLink RX9 174 yX9_joins, Cond.instanceMethod yX9_joins, Cond.selects RX9 yX9_joins yX9_joins, Cond.code yX9_joins cX9_joins 6 none, Cond.fieldLink RX9 72 "CryOrderModel" "caseNumber" "[I", Cond.fieldLink RX9 75 "CryOrderModel" "scores" "[I", Cond.methodLink RX9 159 Lib.Math.min.name, Cond.static Lib.Math.min.name, Cond.initialized "java/lang/Math", Cond.code Lib.Math.min.name Lib.Math.min.code 2 (some .int), Cond.methodLink RX9 162 Lib.Math.max.name, Cond.static Lib.Math.max.name, Cond.code Lib.Math.max.name Lib.Math.max.code 2 (some .int), Cond.fieldLink RX9 78 "CryOrderModel" "order" "[I"]
def wsX9_count_r2 : List Cond := [Cond.methodLink RX9 103 yX9_isLive, Cond.instanceMethod yX9_isLive, Cond.selects RX9 yX9_isLive yX9_isLive, Cond.code yX9_isLive cX9_isLive 2 (some .boolean), Cond.fieldLink RX9 47 "CryOrderModel" "isSilenced" "[Z", Cond.fieldLink RX9 51 "CryOrderModel" "isCapped" "[Z", Cond.methodLink RX9 152 yX9_score, Cond.instanceMethod yX9_score, Cond.selects RX9 yX9_score yX9_score, Cond.code yX9_score cX9_score 2 (some .int), Cond.fieldLink RX9 134 "CryOrderModel" "settled" "I", Cond.fieldLink RX9 32 "CryOrderModel" "worth" "[I", Cond.fieldLink RX9 131 "CryOrderModel" "trues" "I", Cond.methodLink RX9 144 yX9_depth, Cond.instanceMethod yX9_depth, Cond.selects RX9 yX9_depth yX9_depth, Cond.code yX9_depth cX9_depth 3 (some .int), Cond.fieldLink RX9 29 "CryOrderModel" "marks" "[I", Cond.fieldLink RX9 13 "CryOrderModel" "needs" "I", Cond.methodLink RX9 140 yX9_counts, Cond.instanceMethod yX9_counts, Cond.selects RX9 yX9_counts yX9_counts, Cond.code yX9_counts cX9_counts 5 none, Cond.fieldLink RX9 137 "CryOrderModel" "opens" "I"]
def wsX9_count_r3 : List Cond := [Cond.methodLink RX9 155 yX9_hangs, Cond.instanceMethod yX9_hangs, Cond.selects RX9 yX9_hangs yX9_hangs, Cond.code yX9_hangs cX9_hangs 4 (some .boolean), Cond.fieldLink RX9 69 "CryOrderModel" "isJoined" "[Z", Cond.fieldLink RX9 26 "CryOrderModel" "thing" "[I", Cond.fieldLink RX9 16 "CryOrderModel" "came" "[I", Cond.methodLink RX9 147 Lib.Math.abs.name, Cond.static Lib.Math.abs.name, Cond.code Lib.Math.abs.name Lib.Math.abs.code 1 (some .int), Cond.methodLink RX9 127 yX9_tieOf, Cond.instanceMethod yX9_tieOf, Cond.selects RX9 yX9_tieOf yX9_tieOf, Cond.code yX9_tieOf cX9_tieOf 4 (some .int), Cond.fieldLink RX9 63 "CryOrderModel" "tieA" "[I", Cond.fieldLink RX9 66 "CryOrderModel" "tieB" "[I", Cond.methodLink RX9 168 yX9_scoreOf, Cond.instanceMethod yX9_scoreOf, Cond.selects RX9 yX9_scoreOf yX9_scoreOf, Cond.code yX9_scoreOf cX9_scoreOf 4 (some .int)]
def wsX9_count : List Cond := .code yX9_count cX9_count 4 (some .int) :: ((wsX9_count_r1 ++ (wsX9_count_r2 ++ wsX9_count_r3)) ++ wsX90)
def wsJ9_abs_0f7a4 : List Cond := .code yJ9_abs_0f7a4 cJ9_abs_0f7a4 1 (some .int) :: ([])
def wsJ9_max_7cf53 : List Cond := .code yJ9_max_7cf53 cJ9_max_7cf53 2 (some .int) :: ([])
def wsJ9_min_7cf53 : List Cond := .code yJ9_min_7cf53 cJ9_min_7cf53 2 (some .int) :: ([])
def wsL_law_r1 : List Cond := [Cond.classLink RL 7 RX8, Cond.instantiable RX8 14, Cond.initialized RX8, Cond.classLink RL 10 RX9, Cond.instantiable RX9 37, Cond.initialized RX9, Cond.methodLink RL 9 yX8_init, Cond.instanceMethod yX8_init, Cond.code yX8_init cX8_init 1 none, Cond.methodLink RX8 1 objectInit, Cond.instanceMethod objectInit, Cond.code objectInit ⟨#[0xb1]⟩ 1 none, Cond.classLink RX8 9 RX0, Cond.fieldLink RX8 11 "CryOrder" "alarms" "[LCryOrder$Alarm;", Cond.fieldLink RX8 15 "CryOrder" "latestOfThing" "[LCryOrder$Alarm;", Cond.classLink RX8 18 RX6, Cond.fieldLink RX8 20 "CryOrder" "silences" "[LCryOrder$Silence;", Cond.classLink RX8 24 RX3, Cond.instantiable RX3 8, Cond.initialized RX3, Cond.fieldLink RX8 29 "CryOrder" "root" "LCryOrder$Node;", Cond.classLink RX8 33 RX7, Cond.instantiable RX7 2, Cond.initialized RX7]
def wsL_law_r2 : List Cond := [Cond.fieldLink RX8 36 "CryOrder" "ties" "LCryOrder$Ties;", Cond.classLink RX8 40 RX2, Cond.instantiable RX2 2, Cond.initialized RX2, Cond.fieldLink RX8 43 "CryOrder" "cases" "LCryOrder$Cases;", Cond.classLink RX8 47 RX5, Cond.instantiable RX5 8, Cond.initialized RX5, Cond.fieldLink RX8 50 "CryOrder" "planner" "LCryOrder$Plan;", Cond.fieldLink RX8 54 "CryOrder" "cap" "I", Cond.fieldLink RX8 58 "CryOrder" "leastSettled" "I", Cond.methodLink RX8 26 yX3_init, Cond.instanceMethod yX3_init, Cond.code yX3_init cX3_init 4 none, Cond.methodLink RX3 3 objectInit, Cond.fieldLink RX3 9 "CryOrder$Node" "parent" "LCryOrder$Node;", Cond.fieldLink RX3 15 "CryOrder$Node" "depth" "I", Cond.fieldLink RX3 19 "CryOrder$Node" "mark" "I", Cond.fieldLink RX3 22 "CryOrder$Node" "sibling" "LCryOrder$Node;", Cond.instanceMethod yX7_init, Cond.code yX7_init cX7_init 1 none, Cond.methodLink RX7 3 objectInit, Cond.classLink RX7 9 RX4, Cond.fieldLink RX7 11 "CryOrder$Ties" "pairs" "[LCryOrder$Pair;"]
def wsL_law_r3 : List Cond := [Cond.instanceMethod yX2_init, Cond.code yX2_init cX2_init 1 none, Cond.methodLink RX2 3 objectInit, Cond.classLink RX2 9 RX1, Cond.fieldLink RX2 11 "CryOrder$Cases" "ordered" "[LCryOrder$Case;", Cond.instanceMethod yX5_init, Cond.code yX5_init cX5_init 1 none, Cond.methodLink RX5 3 objectInit, Cond.classLink RX5 9 RX1, Cond.fieldLink RX5 11 "CryOrder$Plan" "taken" "[LCryOrder$Case;", Cond.fieldLink RX5 17 "CryOrder$Plan" "pool" "[LCryOrder$Case;", Cond.arrayClass .int, Cond.fieldLink RX5 20 "CryOrder$Plan" "best" "[I", Cond.fieldLink RX5 24 "CryOrder$Plan" "needed" "[I", Cond.methodLink RL 12 yX9_init, Cond.instanceMethod yX9_init, Cond.code yX9_init cX9_init 1 none, Cond.methodLink RX9 1 objectInit, Cond.fieldLink RX9 7 "CryOrderModel" "cap" "I", Cond.fieldLink RX9 13 "CryOrderModel" "needs" "I", Cond.fieldLink RX9 16 "CryOrderModel" "came" "[I", Cond.fieldLink RX9 20 "CryOrderModel" "last" "[I", Cond.fieldLink RX9 23 "CryOrderModel" "source" "[I", Cond.fieldLink RX9 26 "CryOrderModel" "thing" "[I"]
def wsL_law_r4 : List Cond := [Cond.fieldLink RX9 29 "CryOrderModel" "marks" "[I", Cond.fieldLink RX9 32 "CryOrderModel" "worth" "[I", Cond.fieldLink RX9 35 "CryOrderModel" "repeats" "[I", Cond.fieldLink RX9 38 "CryOrderModel" "state" "[I", Cond.fieldLink RX9 41 "CryOrderModel" "saidTrue" "[I", Cond.fieldLink RX9 44 "CryOrderModel" "saidFalse" "[I", Cond.arrayClass .boolean, Cond.fieldLink RX9 47 "CryOrderModel" "isSilenced" "[Z", Cond.fieldLink RX9 51 "CryOrderModel" "isCapped" "[Z", Cond.fieldLink RX9 54 "CryOrderModel" "silenced" "[I", Cond.fieldLink RX9 57 "CryOrderModel" "from" "[I", Cond.fieldLink RX9 60 "CryOrderModel" "to" "[I", Cond.fieldLink RX9 63 "CryOrderModel" "tieA" "[I", Cond.fieldLink RX9 66 "CryOrderModel" "tieB" "[I", Cond.fieldLink RX9 69 "CryOrderModel" "isJoined" "[Z", Cond.fieldLink RX9 72 "CryOrderModel" "caseNumber" "[I", Cond.fieldLink RX9 75 "CryOrderModel" "scores" "[I", Cond.fieldLink RX9 78 "CryOrderModel" "order" "[I", Cond.fieldLink RX9 81 "CryOrderModel" "taken" "[I", Cond.fieldLink RX9 84 "CryOrderModel" "rest" "[I", Cond.fieldLink RX9 87 "CryOrderModel" "restMinutes" "[I", Cond.fieldLink RX9 90 "CryOrderModel" "restScores" "[I", Cond.methodLink RL 13 yX8_pass, Cond.instanceMethod yX8_pass]
def wsL_law_r5 : List Cond := [Cond.selects RX8 yX8_pass yX8_pass, Cond.code yX8_pass cX8_pass 2 (some .int), Cond.fieldLink RX8 61 "CryOrder" "now" "I", Cond.methodLink RL 17 yX9_pass, Cond.instanceMethod yX9_pass, Cond.selects RX9 yX9_pass yX9_pass, Cond.code yX9_pass cX9_pass 2 (some .int), Cond.fieldLink RX9 100 "CryOrderModel" "now" "I", Cond.methodLink RX9 96 yX9_isIn, Cond.static yX9_isIn, Cond.code yX9_isIn cX9_isIn 3 (some .boolean), Cond.methodLink RL 18 yX8_alarm, Cond.instanceMethod yX8_alarm, Cond.selects RX8 yX8_alarm yX8_alarm, Cond.code yX8_alarm cX8_alarm 7 (some .int), Cond.fieldLink RX8 76 "CryOrder$Alarm" "number" "I", Cond.fieldLink RX8 79 "CryOrder" "alarmCount" "I", Cond.instantiable RX0 17, Cond.initialized RX0, Cond.fieldLink RX8 93 "CryOrder$Alarm" "silenced" "Z", Cond.fieldLink RX8 100 "CryOrder$Alarm" "capped" "Z", Cond.fieldLink RX8 103 "CryOrder$Alarm" "leaf" "LCryOrder$Node;", Cond.fieldLink RX8 109 "CryOrder$Alarm" "soonerOfThing" "LCryOrder$Alarm;", Cond.fieldLink RX8 113 "CryOrder" "casesAreStale" "Z"]
def wsL_law_r6 : List Cond := [Cond.methodLink RX8 64 yX8_isBelow, Cond.static yX8_isBelow, Cond.code yX8_isBelow cX8_isBelow 2 (some .boolean), Cond.methodLink RX8 68 yX8_alarmToRepeat, Cond.instanceMethod yX8_alarmToRepeat, Cond.selects RX8 yX8_alarmToRepeat yX8_alarmToRepeat, Cond.code yX8_alarmToRepeat cX8_alarmToRepeat 6 (some (.object "CryOrder$Alarm")), Cond.fieldLink RX8 151 "CryOrder$Alarm" "source" "I", Cond.fieldLink RX8 154 "CryOrder$Alarm" "thing" "I", Cond.fieldLink RX8 157 "CryOrder$Alarm" "marks" "I", Cond.fieldLink RX8 276 "CryOrder$Alarm" "heardLast" "I", Cond.methodLink RX8 225 yX0_isLive, Cond.instanceMethod yX0_isLive, Cond.selects RX0 yX0_isLive yX0_isLive, Cond.code yX0_isLive cX0_isLive 1 (some .boolean), Cond.methodLink RX0 56 yX0_isOpen, Cond.instanceMethod yX0_isOpen, Cond.selects RX0 yX0_isOpen yX0_isOpen, Cond.code yX0_isOpen cX0_isOpen 1 (some .boolean), Cond.fieldLink RX0 9 "CryOrder$Alarm" "state" "I", Cond.methodLink RX0 60 yX0_isHushed, Cond.instanceMethod yX0_isHushed, Cond.selects RX0 yX0_isHushed yX0_isHushed, Cond.code yX0_isHushed cX0_isHushed 1 (some .boolean)]
def wsL_law_r7 : List Cond := [Cond.fieldLink RX0 49 "CryOrder$Alarm" "silenced" "Z", Cond.fieldLink RX0 53 "CryOrder$Alarm" "capped" "Z", Cond.methodLink RX8 72 yX0_repeat, Cond.instanceMethod yX0_repeat, Cond.selects RX0 yX0_repeat yX0_repeat, Cond.code yX0_repeat cX0_repeat 2 none, Cond.fieldLink RX0 63 "CryOrder$Alarm" "repeats" "I", Cond.fieldLink RX0 46 "CryOrder$Alarm" "heardLast" "I", Cond.methodLink RX8 82 yX3_grow, Cond.instanceMethod yX3_grow, Cond.selects RX3 yX3_grow yX3_grow, Cond.code yX3_grow cX3_grow 6 (some (.object "CryOrder$Node")), Cond.classLink RX3 10 RX3, Cond.fieldLink RX3 25 "CryOrder$Node" "firstChild" "LCryOrder$Node;", Cond.methodLink RX3 28 yX3_markAt, Cond.static yX3_markAt, Cond.code yX3_markAt cX3_markAt 2 (some .int), Cond.methodLink RX3 32 yX3_child, Cond.instanceMethod yX3_child, Cond.selects RX3 yX3_child yX3_child, Cond.code yX3_child cX3_child 3 (some (.object "CryOrder$Node")), Cond.methodLink RX3 36 yX3_init, Cond.methodLink RX8 86 yX0_init, Cond.instanceMethod yX0_init]
def wsL_law_r8 : List Cond := [Cond.code yX0_init cX0_init 8 none, Cond.methodLink RX0 3 objectInit, Cond.fieldLink RX0 15 "CryOrder$Alarm" "number" "I", Cond.fieldLink RX0 18 "CryOrder$Alarm" "came" "I", Cond.fieldLink RX0 21 "CryOrder$Alarm" "source" "I", Cond.fieldLink RX0 24 "CryOrder$Alarm" "thing" "I", Cond.fieldLink RX0 27 "CryOrder$Alarm" "marks" "I", Cond.fieldLink RX0 30 "CryOrder$Alarm" "worth" "I", Cond.fieldLink RX0 33 "CryOrder$Alarm" "leaf" "LCryOrder$Node;", Cond.classLink RX0 37 RX1, Cond.instantiable RX1 4, Cond.initialized RX1, Cond.fieldLink RX0 42 "CryOrder$Alarm" "led" "LCryOrder$Case;", Cond.methodLink RX0 39 yX1_init, Cond.instanceMethod yX1_init, Cond.code yX1_init cX1_init 2 none, Cond.methodLink RX1 1 objectInit, Cond.fieldLink RX1 7 "CryOrder$Case" "number" "I", Cond.methodLink RX8 89 yX8_isSilencedNow, Cond.instanceMethod yX8_isSilencedNow, Cond.selects RX8 yX8_isSilencedNow yX8_isSilencedNow, Cond.code yX8_isSilencedNow cX8_isSilencedNow 3 (some .boolean), Cond.fieldLink RX8 116 "CryOrder" "silenceCount" "I", Cond.methodLink RX8 279 yX6_covers]
def wsL_law_r9 : List Cond := [Cond.instanceMethod yX6_covers, Cond.selects RX6 yX6_covers yX6_covers, Cond.initialized RX6, Cond.code yX6_covers cX6_covers 3 (some .boolean), Cond.fieldLink RX6 7 "CryOrder$Silence" "source" "I", Cond.fieldLink RX6 13 "CryOrder$Silence" "from" "I", Cond.fieldLink RX6 16 "CryOrder$Silence" "to" "I", Cond.methodLink RX8 97 yX8_isCapFullNow, Cond.instanceMethod yX8_isCapFullNow, Cond.selects RX8 yX8_isCapFullNow yX8_isCapFullNow, Cond.code yX8_isCapFullNow cX8_isCapFullNow 4 (some .boolean), Cond.fieldLink RX8 148 "CryOrder$Alarm" "came" "I", Cond.methodLink RX8 273 yX0_isHushed, Cond.methodLink RX8 106 yX3_addOpen, Cond.instanceMethod yX3_addOpen, Cond.selects RX3 yX3_addOpen yX3_addOpen, Cond.code yX3_addOpen cX3_addOpen 2 none, Cond.fieldLink RX3 39 "CryOrder$Node" "open" "I", Cond.methodLink RL 22 yX9_alarm, Cond.instanceMethod yX9_alarm, Cond.selects RX9 yX9_alarm yX9_alarm, Cond.code yX9_alarm cX9_alarm 8 (some .int), Cond.fieldLink RX9 93 "CryOrderModel" "alarms" "I", Cond.fieldLink RX9 111 "CryOrderModel" "silences" "I"]
def wsL_law_r10 : List Cond := [Cond.methodLink RX9 103 yX9_isLive, Cond.instanceMethod yX9_isLive, Cond.selects RX9 yX9_isLive yX9_isLive, Cond.code yX9_isLive cX9_isLive 2 (some .boolean), Cond.methodLink RX9 107 yX9_one, Cond.static yX9_one, Cond.code yX9_one cX9_one 1 (some .int), Cond.methodLink RL 23 yX8_silence, Cond.instanceMethod yX8_silence, Cond.selects RX8 yX8_silence yX8_silence, Cond.code yX8_silence cX8_silence 4 (some .int), Cond.instantiable RX6 3, Cond.methodLink RX8 119 yX6_init, Cond.instanceMethod yX6_init, Cond.code yX6_init cX6_init 4 none, Cond.methodLink RX6 1 objectInit, Cond.methodLink RL 27 yX9_silence, Cond.instanceMethod yX9_silence, Cond.selects RX9 yX9_silence yX9_silence, Cond.code yX9_silence cX9_silence 4 (some .int), Cond.methodLink RL 28 yX8_set, Cond.instanceMethod yX8_set, Cond.selects RX8 yX8_set yX8_set, Cond.code yX8_set cX8_set 3 (some .boolean)]
def wsL_law_r11 : List Cond := [Cond.fieldLink RX8 122 "CryOrder" "tries" "I", Cond.methodLink RL 32 yX9_set, Cond.instanceMethod yX9_set, Cond.selects RX9 yX9_set yX9_set, Cond.code yX9_set cX9_set 3 (some .boolean), Cond.fieldLink RX9 114 "CryOrderModel" "tries" "I", Cond.methodLink RL 33 yX8_verdict, Cond.instanceMethod yX8_verdict, Cond.selects RX8 yX8_verdict yX8_verdict, Cond.code yX8_verdict cX8_verdict 5 (some .int), Cond.methodLink RX8 125 yX8_alarmAt, Cond.instanceMethod yX8_alarmAt, Cond.selects RX8 yX8_alarmAt yX8_alarmAt, Cond.code yX8_alarmAt cX8_alarmAt 2 (some (.object "CryOrder$Alarm")), Cond.methodLink RX8 129 yX0_isOpen, Cond.methodLink RX8 133 yX0_hasHeard, Cond.instanceMethod yX0_hasHeard, Cond.selects RX0 yX0_hasHeard yX0_hasHeard, Cond.code yX0_hasHeard cX0_hasHeard 2 (some .boolean), Cond.fieldLink RX0 66 "CryOrder$Alarm" "lookersForTrue" "I", Cond.fieldLink RX0 69 "CryOrder$Alarm" "lookersForFalse" "I", Cond.methodLink RX8 136 yX0_hear, Cond.instanceMethod yX0_hear, Cond.selects RX0 yX0_hear yX0_hear]
def wsL_law_r12 : List Cond := [Cond.code yX0_hear cX0_hear 3 none, Cond.methodLink RX0 72 yJ6_bitCount_0f7a4, Cond.static yJ6_bitCount_0f7a4, Cond.initialized RJ6, Cond.code yJ6_bitCount_0f7a4 cJ6_bitCount_0f7a4 1 (some .int), Cond.constant RJ6 265 (1431655765), Cond.constant RJ6 266 (858993459), Cond.constant RJ6 267 (252645135), Cond.methodLink RX8 140 yX3_settle, Cond.instanceMethod yX3_settle, Cond.selects RX3 yX3_settle yX3_settle, Cond.code yX3_settle cX3_settle 3 none, Cond.fieldLink RX3 42 "CryOrder$Node" "settled" "I", Cond.fieldLink RX3 45 "CryOrder$Node" "settledTrue" "I", Cond.static yX8_oneIf, Cond.code yX8_oneIf cX8_oneIf 1 (some .int), Cond.methodLink RL 37 yX9_verdict, Cond.instanceMethod yX9_verdict, Cond.selects RX9 yX9_verdict yX9_verdict, Cond.code yX9_verdict cX9_verdict 4 (some .int), Cond.methodLink RX9 117 yX9_isAlarm, Cond.instanceMethod yX9_isAlarm, Cond.selects RX9 yX9_isAlarm yX9_isAlarm, Cond.code yX9_isAlarm cX9_isAlarm 2 (some .boolean)]
def wsL_law_r13 : List Cond := [Cond.methodLink RX9 120 yX9_many, Cond.static yX9_many, Cond.code yX9_many cX9_many 3 (some .int), Cond.methodLink RL 38 yX8_tie, Cond.instanceMethod yX8_tie, Cond.selects RX8 yX8_tie yX8_tie, Cond.code yX8_tie cX8_tie 4 (some .boolean), Cond.methodLink RX8 144 yX7_tell, Cond.instanceMethod yX7_tell, Cond.selects RX7 yX7_tell yX7_tell, Cond.code yX7_tell cX7_tell 6 (some .boolean), Cond.fieldLink RX7 40 "CryOrder$Pair" "joined" "Z", Cond.fieldLink RX7 26 "CryOrder$Ties" "size" "I", Cond.instantiable RX4 3, Cond.initialized RX4, Cond.methodLink RX7 17 Lib.Math.min.name, Cond.static Lib.Math.min.name, Cond.initialized "java/lang/Math", Cond.code Lib.Math.min.name Lib.Math.min.code 2 (some .int), Cond.methodLink RX7 23 Lib.Math.max.name, Cond.static Lib.Math.max.name, Cond.code Lib.Math.max.name Lib.Math.max.code 2 (some .int), Cond.methodLink RX7 36 yX7_find, Cond.instanceMethod yX7_find]
def wsL_law_r14 : List Cond := [Cond.selects RX7 yX7_find yX7_find, Cond.code yX7_find cX7_find 6 (some (.object "CryOrder$Pair")), Cond.fieldLink RX7 30 "CryOrder$Pair" "lesser" "I", Cond.fieldLink RX7 33 "CryOrder$Pair" "greater" "I", Cond.methodLink RX7 44 yX4_init, Cond.instanceMethod yX4_init, Cond.code yX4_init cX4_init 4 none, Cond.methodLink RX4 1 objectInit, Cond.fieldLink RX4 7 "CryOrder$Pair" "lesser" "I", Cond.fieldLink RX4 13 "CryOrder$Pair" "greater" "I", Cond.fieldLink RX4 16 "CryOrder$Pair" "joined" "Z", Cond.methodLink RL 42 yX9_tie, Cond.instanceMethod yX9_tie, Cond.selects RX9 yX9_tie yX9_tie, Cond.code yX9_tie cX9_tie 5 (some .boolean), Cond.fieldLink RX9 124 "CryOrderModel" "ties" "I", Cond.methodLink RX9 127 yX9_tieOf, Cond.instanceMethod yX9_tieOf, Cond.selects RX9 yX9_tieOf yX9_tieOf, Cond.code yX9_tieOf cX9_tieOf 4 (some .int), Cond.methodLink RL 43 yX8_told, Cond.instanceMethod yX8_told, Cond.selects RX8 yX8_told yX8_told, Cond.code yX8_told cX8_told 4 (some .int)]
def wsL_law_r15 : List Cond := [Cond.fieldLink RX8 160 "CryOrder$Alarm" "worth" "I", Cond.fieldLink RX8 163 "CryOrder$Alarm" "repeats" "I", Cond.fieldLink RX8 166 "CryOrder$Alarm" "state" "I", Cond.fieldLink RX8 180 "CryOrder$Node" "depth" "I", Cond.methodLink RX8 169 yX8_oneIf, Cond.methodLink RX8 173 yX0_score, Cond.instanceMethod yX0_score, Cond.selects RX0 yX0_score yX0_score, Cond.code yX0_score cX0_score 4 (some .int), Cond.methodLink RX0 86 yX0_nodeFor, Cond.instanceMethod yX0_nodeFor, Cond.selects RX0 yX0_nodeFor yX0_nodeFor, Cond.code yX0_nodeFor cX0_nodeFor 3 (some (.object "CryOrder$Node")), Cond.fieldLink RX0 78 "CryOrder$Node" "settled" "I", Cond.fieldLink RX0 83 "CryOrder$Node" "parent" "LCryOrder$Node;", Cond.methodLink RX0 90 yX3_oddsLower, Cond.instanceMethod yX3_oddsLower, Cond.selects RX3 yX3_oddsLower yX3_oddsLower, Cond.code yX3_oddsLower cX3_oddsLower 1 (some .int), Cond.methodLink RX0 94 yX3_oddsUpper, Cond.instanceMethod yX3_oddsUpper, Cond.selects RX3 yX3_oddsUpper yX3_oddsUpper, Cond.code yX3_oddsUpper cX3_oddsUpper 1 (some .int), Cond.methodLink RX8 177 yX0_nodeFor]
def wsL_law_r16 : List Cond := [Cond.methodLink RX8 183 yX0_verdicts, Cond.instanceMethod yX0_verdicts, Cond.selects RX0 yX0_verdicts yX0_verdicts, Cond.code yX0_verdicts cX0_verdicts 1 (some .int), Cond.methodLink RX8 187 yX8_caseNumberOf, Cond.instanceMethod yX8_caseNumberOf, Cond.selects RX8 yX8_caseNumberOf yX8_caseNumberOf, Cond.code yX8_caseNumberOf cX8_caseNumberOf 2 (some .int), Cond.methodLink RX8 214 yX8_casesNow, Cond.instanceMethod yX8_casesNow, Cond.selects RX8 yX8_casesNow yX8_casesNow, Cond.code yX8_casesNow cX8_casesNow 1 (some (.object "CryOrder$Cases")), Cond.methodLink RX8 282 yX2_gather, Cond.instanceMethod yX2_gather, Cond.selects RX2 yX2_gather yX2_gather, Cond.code yX2_gather cX2_gather 6 none, Cond.fieldLink RX2 17 "CryOrder$Alarm" "above" "LCryOrder$Alarm;", Cond.fieldLink RX2 23 "CryOrder$Alarm" "led" "LCryOrder$Case;", Cond.methodLink RX2 27 yX1_clear, Cond.instanceMethod yX1_clear, Cond.selects RX1 yX1_clear yX1_clear, Cond.code yX1_clear cX1_clear 1 none, Cond.fieldLink RX1 13 "CryOrder$Case" "size" "I", Cond.fieldLink RX1 16 "CryOrder$Case" "score" "I"]
def wsL_law_r17 : List Cond := [Cond.fieldLink RX1 19 "CryOrder$Case" "littleKnown" "Z", Cond.methodLink RX2 30 yX0_isLive, Cond.methodLink RX2 34 yX2_joinWithSoonerOnes, Cond.static yX2_joinWithSoonerOnes, Cond.code yX2_joinWithSoonerOnes cX2_joinWithSoonerOnes 3 none, Cond.fieldLink RX2 61 "CryOrder$Alarm" "soonerOfThing" "LCryOrder$Alarm;", Cond.fieldLink RX2 64 "CryOrder$Alarm" "came" "I", Cond.fieldLink RX2 71 "CryOrder$Alarm" "number" "I", Cond.methodLink RX2 67 yX0_head, Cond.instanceMethod yX0_head, Cond.selects RX0 yX0_head yX0_head, Cond.code yX0_head cX0_head 2 (some (.object "CryOrder$Alarm")), Cond.fieldLink RX0 97 "CryOrder$Alarm" "above" "LCryOrder$Alarm;", Cond.methodLink RX2 74 yX7_isParted, Cond.instanceMethod yX7_isParted, Cond.selects RX7 yX7_isParted yX7_isParted, Cond.code yX7_isParted cX7_isParted 4 (some .boolean), Cond.methodLink RX2 79 yX0_joinCaseOf, Cond.instanceMethod yX0_joinCaseOf, Cond.selects RX0 yX0_joinCaseOf yX0_joinCaseOf, Cond.code yX0_joinCaseOf cX0_joinCaseOf 4 none, Cond.methodLink RX0 101 yX0_head, Cond.methodLink RX2 38 yX2_joinToldOnes, Cond.static yX2_joinToldOnes]
def wsL_law_r18 : List Cond := [Cond.code yX2_joinToldOnes cX2_joinToldOnes 5 none, Cond.fieldLink RX2 83 "CryOrder$Ties" "size" "I", Cond.fieldLink RX2 84 "CryOrder$Ties" "pairs" "[LCryOrder$Pair;", Cond.fieldLink RX2 88 "CryOrder$Pair" "joined" "Z", Cond.fieldLink RX2 94 "CryOrder$Pair" "lesser" "I", Cond.fieldLink RX2 97 "CryOrder$Pair" "greater" "I", Cond.methodLink RX2 42 yX2_fillCases, Cond.static yX2_fillCases, Cond.code yX2_fillCases cX2_fillCases 5 none, Cond.fieldLink RX2 107 "CryOrder$Node" "depth" "I", Cond.methodLink RX2 100 yX0_score, Cond.methodLink RX2 103 yX0_nodeFor, Cond.methodLink RX2 112 yX1_add, Cond.instanceMethod yX1_add, Cond.selects RX1 yX1_add yX1_add, Cond.code yX1_add cX1_add 3 none, Cond.methodLink RX1 23 Lib.Math.max.name, Cond.methodLink RX2 46 yX2_putInOrder, Cond.instanceMethod yX2_putInOrder, Cond.selects RX2 yX2_putInOrder yX2_putInOrder, Cond.code yX2_putInOrder cX2_putInOrder 4 none, Cond.fieldLink RX2 50 "CryOrder$Cases" "size" "I", Cond.fieldLink RX2 116 "CryOrder$Case" "size" "I", Cond.methodLink RX2 117 yX2_putInPlace]
def wsL_law_r19 : List Cond := [Cond.instanceMethod yX2_putInPlace, Cond.selects RX2 yX2_putInPlace yX2_putInPlace, Cond.code yX2_putInPlace cX2_putInPlace 3 none, Cond.methodLink RX2 121 yX1_isAheadOf, Cond.instanceMethod yX1_isAheadOf, Cond.selects RX1 yX1_isAheadOf yX1_isAheadOf, Cond.code yX1_isAheadOf cX1_isAheadOf 2 (some .boolean), Cond.methodLink RX8 286 yX0_head, Cond.methodLink RL 47 yX9_told, Cond.instanceMethod yX9_told, Cond.selects RX9 yX9_told yX9_told, Cond.code yX9_told cX9_told 3 (some .int), Cond.methodLink RX9 152 yX9_score, Cond.instanceMethod yX9_score, Cond.selects RX9 yX9_score yX9_score, Cond.code yX9_score cX9_score 2 (some .int), Cond.fieldLink RX9 134 "CryOrderModel" "settled" "I", Cond.fieldLink RX9 131 "CryOrderModel" "trues" "I", Cond.methodLink RX9 144 yX9_depth, Cond.instanceMethod yX9_depth, Cond.selects RX9 yX9_depth yX9_depth, Cond.code yX9_depth cX9_depth 3 (some .int), Cond.methodLink RX9 140 yX9_counts, Cond.instanceMethod yX9_counts]
def wsL_law_r20 : List Cond := [Cond.selects RX9 yX9_counts yX9_counts, Cond.code yX9_counts cX9_counts 5 none, Cond.fieldLink RX9 137 "CryOrderModel" "opens" "I", Cond.methodLink RX9 174 yX9_joins, Cond.instanceMethod yX9_joins, Cond.selects RX9 yX9_joins yX9_joins, Cond.code yX9_joins cX9_joins 6 none, Cond.methodLink RX9 159 Lib.Math.min.name, Cond.methodLink RX9 162 Lib.Math.max.name, Cond.fieldLink RX9 165 "CryOrderModel" "cases" "I", Cond.methodLink RX9 155 yX9_hangs, Cond.instanceMethod yX9_hangs, Cond.selects RX9 yX9_hangs yX9_hangs, Cond.code yX9_hangs cX9_hangs 4 (some .boolean), Cond.methodLink RX9 147 Lib.Math.abs.name, Cond.static Lib.Math.abs.name, Cond.code Lib.Math.abs.name Lib.Math.abs.code 1 (some .int), Cond.methodLink RX9 168 yX9_scoreOf, Cond.instanceMethod yX9_scoreOf, Cond.selects RX9 yX9_scoreOf yX9_scoreOf, Cond.code yX9_scoreOf cX9_scoreOf 4 (some .int), Cond.methodLink RL 48 yX8_node, Cond.instanceMethod yX8_node, Cond.selects RX8 yX8_node yX8_node]
def wsL_law_r21 : List Cond := [Cond.code yX8_node cX8_node 5 (some .int), Cond.fieldLink RX8 195 "CryOrder$Node" "settledTrue" "I", Cond.fieldLink RX8 198 "CryOrder$Node" "settled" "I", Cond.fieldLink RX8 201 "CryOrder$Node" "open" "I", Cond.methodLink RX8 191 yX3_find, Cond.instanceMethod yX3_find, Cond.selects RX3 yX3_find yX3_find, Cond.code yX3_find cX3_find 5 (some (.object "CryOrder$Node")), Cond.methodLink RL 51 yX9_node, Cond.instanceMethod yX9_node, Cond.selects RX9 yX9_node yX9_node, Cond.code yX9_node cX9_node 4 (some .int), Cond.methodLink RL 52 yX8_odds, Cond.instanceMethod yX8_odds, Cond.selects RX8 yX8_odds yX8_odds, Cond.code yX8_odds cX8_odds 7 (some .int), Cond.methodLink RX8 204 yX3_oddsUpper, Cond.methodLink RX8 207 yX3_oddsLower, Cond.methodLink RX8 210 yX8_inLowestTerms, Cond.static yX8_inLowestTerms, Cond.code yX8_inLowestTerms cX8_inLowestTerms 7 (some .int), Cond.methodLink RL 55 yX9_odds, Cond.instanceMethod yX9_odds, Cond.selects RX9 yX9_odds yX9_odds]
def wsL_law_r22 : List Cond := [Cond.code yX9_odds cX9_odds 8 (some .int), Cond.methodLink RL 56 yX8_order, Cond.instanceMethod yX8_order, Cond.selects RX8 yX8_order yX8_order, Cond.code yX8_order cX8_order 3 (some .int), Cond.fieldLink RX8 222 "CryOrder$Case" "number" "I", Cond.methodLink RX8 218 yX2_at, Cond.instanceMethod yX2_at, Cond.selects RX2 yX2_at yX2_at, Cond.code yX2_at cX2_at 2 (some (.object "CryOrder$Case")), Cond.methodLink RL 59 yX9_order, Cond.instanceMethod yX9_order, Cond.selects RX9 yX9_order yX9_order, Cond.code yX9_order cX9_order 2 (some .int), Cond.methodLink RL 60 yX8_caseOf, Cond.instanceMethod yX8_caseOf, Cond.selects RX8 yX8_caseOf yX8_caseOf, Cond.code yX8_caseOf cX8_caseOf 4 (some .int), Cond.fieldLink RX8 228 "CryOrder$Alarm" "above" "LCryOrder$Alarm;", Cond.fieldLink RX8 231 "CryOrder$Alarm" "led" "LCryOrder$Case;", Cond.fieldLink RX8 235 "CryOrder$Case" "size" "I", Cond.fieldLink RX8 238 "CryOrder$Case" "score" "I", Cond.fieldLink RX8 243 "CryOrder$Case" "littleKnown" "Z", Cond.methodLink RX8 240 yX1_minutes]
def wsL_law_r23 : List Cond := [Cond.instanceMethod yX1_minutes, Cond.selects RX1 yX1_minutes yX1_minutes, Cond.code yX1_minutes cX1_minutes 1 (some .int), Cond.methodLink RX8 246 yX8_memberOf, Cond.instanceMethod yX8_memberOf, Cond.selects RX8 yX8_memberOf yX8_memberOf, Cond.code yX8_memberOf cX8_memberOf 6 (some .int), Cond.methodLink RL 63 yX9_caseOf, Cond.instanceMethod yX9_caseOf, Cond.selects RX9 yX9_caseOf yX9_caseOf, Cond.code yX9_caseOf cX9_caseOf 5 (some .int), Cond.methodLink RX9 171 yX9_sizeOf, Cond.instanceMethod yX9_sizeOf, Cond.selects RX9 yX9_sizeOf yX9_sizeOf, Cond.code yX9_sizeOf cX9_sizeOf 4 (some .int), Cond.methodLink RX9 177 yX9_minutesOf, Cond.instanceMethod yX9_minutesOf, Cond.selects RX9 yX9_minutesOf yX9_minutesOf, Cond.code yX9_minutesOf cX9_minutesOf 2 (some .int), Cond.methodLink RX9 180 yX9_isLittleKnown, Cond.instanceMethod yX9_isLittleKnown, Cond.selects RX9 yX9_isLittleKnown yX9_isLittleKnown, Cond.code yX9_isLittleKnown cX9_isLittleKnown 3 (some .boolean), Cond.methodLink RL 64 yX8_slow]
def wsL_law_r24 : List Cond := [Cond.instanceMethod yX8_slow, Cond.selects RX8 yX8_slow yX8_slow, Cond.code yX8_slow cX8_slow 5 (some .int), Cond.methodLink RL 67 yX9_slow, Cond.instanceMethod yX9_slow, Cond.selects RX9 yX9_slow yX9_slow, Cond.code yX9_slow cX9_slow 5 (some .int), Cond.methodLink RL 68 yX8_plan, Cond.instanceMethod yX8_plan, Cond.selects RX8 yX8_plan yX8_plan, Cond.code yX8_plan cX8_plan 4 (some .int), Cond.fieldLink RX8 254 "CryOrder$Plan" "takenCount" "I", Cond.methodLink RX8 250 yX5_make, Cond.instanceMethod yX5_make, Cond.selects RX5 yX5_make yX5_make, Cond.code yX5_make cX5_make 4 none, Cond.fieldLink RX5 27 "CryOrder$Plan" "takenCount" "I", Cond.fieldLink RX5 31 "CryOrder$Plan" "poolCount" "I", Cond.fieldLink RX5 34 "CryOrder$Plan" "scoreTaken" "I", Cond.methodLink RX5 37 Lib.Math.min.name, Cond.methodLink RX5 43 Lib.Math.max.name, Cond.fieldLink RX5 46 "CryOrder$Plan" "minutesLeft" "I", Cond.methodLink RX5 49 yX5_takeTries, Cond.instanceMethod yX5_takeTries]
def wsL_law_r25 : List Cond := [Cond.selects RX5 yX5_takeTries yX5_takeTries, Cond.code yX5_takeTries cX5_takeTries 5 none, Cond.fieldLink RX5 74 "CryOrder$Cases" "size" "I", Cond.fieldLink RX5 79 "CryOrder$Cases" "ordered" "[LCryOrder$Case;", Cond.fieldLink RX5 82 "CryOrder$Case" "littleKnown" "Z", Cond.methodLink RX5 70 yX1_minutes, Cond.methodLink RX5 86 yX5_take, Cond.instanceMethod yX5_take, Cond.selects RX5 yX5_take yX5_take, Cond.code yX5_take cX5_take 2 none, Cond.fieldLink RX5 67 "CryOrder$Case" "score" "I", Cond.methodLink RX5 53 yX5_fillPool, Cond.instanceMethod yX5_fillPool, Cond.selects RX5 yX5_fillPool yX5_fillPool, Cond.code yX5_fillPool cX5_fillPool 3 none, Cond.methodLink RX5 90 yX5_isTaken, Cond.instanceMethod yX5_isTaken, Cond.selects RX5 yX5_isTaken yX5_isTaken, Cond.code yX5_isTaken cX5_isTaken 3 (some .boolean), Cond.methodLink RX5 57 yX5_weighPool, Cond.instanceMethod yX5_weighPool, Cond.selects RX5 yX5_weighPool yX5_weighPool, Cond.code yX5_weighPool cX5_weighPool 5 none, Cond.methodLink RX5 60 yX5_takeBestOfPool]
def wsL_law_r26 : List Cond := [Cond.instanceMethod yX5_takeBestOfPool, Cond.selects RX5 yX5_takeBestOfPool yX5_takeBestOfPool, Cond.code yX5_takeBestOfPool cX5_takeBestOfPool 4 none, Cond.methodLink RX8 257 yX5_at, Cond.instanceMethod yX5_at, Cond.selects RX5 yX5_at yX5_at, Cond.code yX5_at cX5_at 2 (some (.object "CryOrder$Case")), Cond.methodLink RL 71 yX9_plan, Cond.instanceMethod yX9_plan, Cond.selects RX9 yX9_plan yX9_plan, Cond.code yX9_plan cX9_plan 3 (some .int), Cond.fieldLink RX9 183 "CryOrderModel" "takenMany" "I", Cond.methodLink RX9 189 yX9_isPlan, Cond.static yX9_isPlan, Cond.code yX9_isPlan cX9_isPlan 1 (some .boolean), Cond.methodLink RX9 192 yX9_plans, Cond.instanceMethod yX9_plans, Cond.selects RX9 yX9_plans yX9_plans, Cond.code yX9_plans cX9_plans 10 none, Cond.methodLink RX9 186 yX9_isTaken, Cond.instanceMethod yX9_isTaken, Cond.selects RX9 yX9_isTaken yX9_isTaken, Cond.code yX9_isTaken cX9_isTaken 3 (some .boolean), Cond.methodLink RL 72 yX8_worth]
def wsL_law_r27 : List Cond := [Cond.instanceMethod yX8_worth, Cond.selects RX8 yX8_worth yX8_worth, Cond.code yX8_worth cX8_worth 3 (some .int), Cond.fieldLink RX8 258 "CryOrder$Plan" "scoreTaken" "I", Cond.fieldLink RX8 264 "CryOrder$Plan" "minutesLeft" "I", Cond.methodLink RX8 261 yX2_scoreOfAll, Cond.instanceMethod yX2_scoreOfAll, Cond.selects RX2 yX2_scoreOfAll yX2_scoreOfAll, Cond.code yX2_scoreOfAll cX2_scoreOfAll 3 (some .int), Cond.fieldLink RX2 58 "CryOrder$Case" "score" "I", Cond.methodLink RL 75 yX9_worth, Cond.instanceMethod yX9_worth, Cond.selects RX9 yX9_worth yX9_worth, Cond.code yX9_worth cX9_worth 6 (some .int), Cond.methodLink RL 76 yX8_source, Cond.instanceMethod yX8_source, Cond.selects RX8 yX8_source yX8_source, Cond.code yX8_source cX8_source 5 (some .int), Cond.methodLink RX8 267 yX8_isOfKind, Cond.static yX8_isOfKind, Cond.code yX8_isOfKind cX8_isOfKind 2 (some .boolean), Cond.methodLink RL 79 yX9_source, Cond.instanceMethod yX9_source, Cond.selects RX9 yX9_source yX9_source]
def wsL_law_r28 : List Cond := [Cond.code yX9_source cX9_source 6 (some .int), Cond.methodLink RL 80 yX8_count, Cond.instanceMethod yX8_count, Cond.selects RX8 yX8_count yX8_count, Cond.code yX8_count cX8_count 2 (some .int), Cond.fieldLink RX8 271 "CryOrder$Cases" "size" "I", Cond.fieldLink RX8 272 "CryOrder$Ties" "size" "I", Cond.methodLink RL 83 yX9_count, Cond.instanceMethod yX9_count, Cond.selects RX9 yX9_count yX9_count, Cond.code yX9_count cX9_count 4 (some .int)]
def wsL_law : List Cond := (wsL_law_r1 ++ (wsL_law_r2 ++ (wsL_law_r3 ++ (wsL_law_r4 ++ (wsL_law_r5 ++ (wsL_law_r6 ++ (wsL_law_r7 ++ (wsL_law_r8 ++ (wsL_law_r9 ++ (wsL_law_r10 ++ (wsL_law_r11 ++ (wsL_law_r12 ++ (wsL_law_r13 ++ (wsL_law_r14 ++ (wsL_law_r15 ++ (wsL_law_r16 ++ (wsL_law_r17 ++ (wsL_law_r18 ++ (wsL_law_r19 ++ (wsL_law_r20 ++ (wsL_law_r21 ++ (wsL_law_r22 ++ (wsL_law_r23 ++ (wsL_law_r24 ++ (wsL_law_r25 ++ (wsL_law_r26 ++ (wsL_law_r27 ++ wsL_law_r28))))))))))))))))))))))))))) ++ wsX80 ++ wsX90 ++ wsX30 ++ wsX70 ++ wsX20 ++ wsX50 ++ wsX00 ++ wsX10 ++ wsX60 ++ wsX40 ++ ([] : List Cond)
end
section
theorem mem_r {big : List Cond} (ws : List Cond) (ps : List Nat) (hp : ws = ps.filterMap (fun i => big[i]?)) : ∀ w ∈ ws, w ∈ big := by
  intro w hw
  rw [hp] at hw
  obtain ⟨i, -, hi⟩ := List.mem_filterMap.mp hw
  exact List.mem_of_getElem? hi
theorem all_app {big a b : List Cond} (ha : ∀ w ∈ a, w ∈ big) (hb : ∀ w ∈ b, w ∈ big) : ∀ w ∈ a ++ b, w ∈ big := fun w h => (List.mem_append.mp h).elim (ha w) (hb w)
set_option maxRecDepth 20000 in
theorem wl_1 : ∀ w ∈ wsL_law_r1, w ∈ lw_tbl := mem_r _ [44, 45, 32, 651, 652, 37, 46, 47, 48, 49, 50, 51, 52, 166, 167, 54, 168, 56, 57, 33, 169, 94, 95, 34] (by decide +kernel)
set_option maxRecDepth 20000 in
theorem wl_2 : ∀ w ∈ wsL_law_r2, w ∈ lw_tbl := mem_r _ [170, 112, 113, 35, 171, 130, 131, 36, 172, 176, 177, 58, 59, 60, 61, 62, 64, 67, 68, 97, 98, 99, 100, 102] (by decide +kernel)
set_option maxRecDepth 20000 in
theorem wl_3 : ∀ w ∈ wsL_law_r3, w ∈ lw_tbl := mem_r _ [115, 116, 117, 118, 120, 133, 134, 135, 136, 137, 138, 165, 139, 140, 653, 654, 655, 656, 661, 662, 664, 665, 666, 667] (by decide +kernel)
set_option maxRecDepth 20000 in
theorem wl_4 : ∀ w ∈ wsL_law_r4, w ∈ lw_tbl := mem_r _ [668, 669, 670, 671, 672, 673, 769, 674, 675, 676, 677, 678, 679, 680, 681, 685, 686, 687, 689, 690, 692, 693, 209, 210] (by decide +kernel)
set_option maxRecDepth 20000 in
theorem wl_5 : ∀ w ∈ wsL_law_r5, w ∈ lw_tbl := mem_r _ [211, 212, 175, 770, 771, 772, 773, 657, 774, 775, 776, 213, 214, 215, 216, 286, 173, 240, 38, 305, 307, 300, 316, 179] (by decide +kernel)
set_option maxRecDepth 20000 in
theorem wl_6 : ∀ w ∈ wsL_law_r6, w ∈ lw_tbl := mem_r _ [217, 218, 219, 220, 222, 0, 223, 292, 294, 296, 309, 224, 225, 226, 227, 228, 229, 230, 231, 312, 232, 233, 234, 235] (by decide +kernel)
set_option maxRecDepth 20000 in
theorem wl_7 : ∀ w ∈ wsL_law_r7, w ∈ lw_tbl := mem_r _ [304, 306, 236, 237, 238, 239, 310, 308, 241, 242, 243, 244, 252, 69, 245, 246, 247, 248, 250, 1, 251, 253, 254, 255] (by decide +kernel)
set_option maxRecDepth 20000 in
theorem wl_8 : ∀ w ∈ wsL_law_r8, w ∈ lw_tbl := mem_r _ [256, 257, 285, 288, 291, 293, 295, 297, 299, 258, 259, 39, 301, 260, 261, 262, 263, 264, 356, 358, 2, 359, 174, 360] (by decide +kernel)
set_option maxRecDepth 20000 in
theorem wl_9 : ∀ w ∈ wsL_law_r9, w ∈ lw_tbl := mem_r _ [361, 362, 40, 363, 382, 383, 384, 364, 366, 3, 367, 290, 368, 369, 370, 371, 372, 75, 777, 778, 779, 780, 658, 659] (by decide +kernel)
set_option maxRecDepth 20000 in
theorem wl_10 : ∀ w ∈ wsL_law_r10, w ∈ lw_tbl := mem_r _ [781, 783, 17, 784, 785, 786, 787, 373, 374, 375, 376, 377, 378, 379, 380, 381, 788, 789, 790, 791, 392, 393, 394, 395] (by decide +kernel)
set_option maxRecDepth 20000 in
theorem wl_11 : ∀ w ∈ wsL_law_r11, w ∈ lw_tbl := mem_r _ [178, 792, 793, 794, 795, 663, 396, 397, 398, 399, 400, 402, 4, 403, 404, 405, 406, 407, 408, 314, 315, 409, 410, 411] (by decide +kernel)
set_option maxRecDepth 20000 in
theorem wl_12 : ∀ w ∈ wsL_law_r12, w ∈ lw_tbl := mem_r _ [412, 413, 414, 41, 415, 416, 417, 418, 419, 420, 421, 422, 72, 70, 424, 425, 796, 797, 798, 799, 800, 802, 18, 803] (by decide +kernel)
set_option maxRecDepth 20000 in
theorem wl_13 : ∀ w ∈ wsL_law_r13, w ∈ lw_tbl := mem_r _ [804, 805, 806, 426, 427, 428, 429, 430, 431, 432, 433, 456, 104, 444, 43, 438, 439, 42, 440, 441, 442, 443, 434, 436] (by decide +kernel)
set_option maxRecDepth 20000 in
theorem wl_14 : ∀ w ∈ wsL_law_r14, w ∈ lw_tbl := mem_r _ [5, 437, 450, 453, 445, 446, 447, 448, 449, 452, 455, 807, 808, 809, 810, 660, 811, 813, 19, 814, 465, 466, 467, 468] (by decide +kernel)
set_option maxRecDepth 20000 in
theorem wl_15 : ∀ w ∈ wsL_law_r15, w ∈ lw_tbl := mem_r _ [298, 311, 313, 66, 469, 470, 471, 472, 473, 474, 475, 476, 477, 73, 63, 478, 479, 480, 481, 482, 483, 484, 485, 486] (by decide +kernel)
set_option maxRecDepth 20000 in
theorem wl_16 : ∀ w ∈ wsL_law_r16, w ∈ lw_tbl := mem_r _ [487, 488, 489, 490, 491, 493, 6, 494, 495, 497, 7, 498, 499, 500, 501, 502, 318, 302, 503, 504, 505, 506, 266, 269] (by decide +kernel)
set_option maxRecDepth 20000 in
theorem wl_17 : ∀ w ∈ wsL_law_r17, w ∈ lw_tbl := mem_r _ [273, 507, 508, 509, 510, 317, 289, 287, 511, 512, 513, 514, 319, 515, 516, 517, 518, 519, 520, 521, 522, 523, 524, 525] (by decide +kernel)
set_option maxRecDepth 20000 in
theorem wl_18 : ∀ w ∈ wsL_law_r18, w ∈ lw_tbl := mem_r _ [526, 105, 103, 457, 451, 454, 528, 529, 530, 65, 531, 532, 533, 534, 535, 536, 537, 538, 540, 8, 541, 122, 267, 542] (by decide +kernel)
set_option maxRecDepth 20000 in
theorem wl_19 : ∀ w ∈ wsL_law_r19, w ∈ lw_tbl := mem_r _ [544, 9, 545, 546, 547, 548, 549, 550, 831, 832, 833, 834, 835, 837, 22, 838, 683, 682, 827, 829, 21, 830, 819, 821] (by decide +kernel)
set_option maxRecDepth 20000 in
theorem wl_20 : ∀ w ∈ wsL_law_r20, w ∈ lw_tbl := mem_r _ [20, 822, 684, 839, 841, 23, 842, 850, 851, 688, 843, 845, 24, 846, 847, 848, 849, 852, 854, 25, 855, 551, 552, 553] (by decide +kernel)
set_option maxRecDepth 20000 in
theorem wl_21 : ∀ w ∈ wsL_law_r21, w ∈ lw_tbl := mem_r _ [554, 71, 74, 76, 555, 556, 557, 558, 815, 816, 817, 818, 559, 560, 561, 562, 563, 564, 565, 566, 567, 823, 824, 825] (by decide +kernel)
set_option maxRecDepth 20000 in
theorem wl_22 : ∀ w ∈ wsL_law_r22, w ∈ lw_tbl := mem_r _ [826, 568, 569, 570, 571, 265, 572, 573, 574, 575, 856, 857, 858, 859, 576, 577, 578, 579, 320, 303, 268, 272, 275, 580] (by decide +kernel)
set_option maxRecDepth 20000 in
theorem wl_23 : ∀ w ∈ wsL_law_r23, w ∈ lw_tbl := mem_r _ [581, 582, 583, 584, 586, 10, 587, 860, 861, 862, 863, 864, 866, 26, 867, 868, 870, 27, 871, 872, 874, 28, 875, 588] (by decide +kernel)
set_option maxRecDepth 20000 in
theorem wl_24 : ∀ w ∈ wsL_law_r24, w ∈ lw_tbl := mem_r _ [589, 590, 591, 876, 877, 878, 879, 592, 593, 594, 595, 142, 596, 597, 598, 599, 141, 143, 144, 600, 601, 146, 602, 604] (by decide +kernel)
set_option maxRecDepth 20000 in
theorem wl_25 : ∀ w ∈ wsL_law_r25, w ∈ lw_tbl := mem_r _ [11, 605, 123, 121, 274, 606, 607, 609, 12, 610, 271, 611, 613, 13, 614, 615, 617, 14, 618, 619, 621, 15, 622, 623] (by decide +kernel)
set_option maxRecDepth 20000 in
theorem wl_26 : ∀ w ∈ wsL_law_r26, w ∈ lw_tbl := mem_r _ [625, 16, 626, 627, 628, 629, 630, 880, 881, 882, 883, 691, 884, 885, 886, 887, 889, 29, 890, 891, 893, 30, 894, 632] (by decide +kernel)
set_option maxRecDepth 20000 in
theorem wl_27 : ∀ w ∈ wsL_law_r27, w ∈ lw_tbl := mem_r _ [633, 634, 635, 145, 147, 636, 637, 638, 639, 270, 895, 896, 897, 898, 640, 641, 642, 643, 644, 645, 646, 899, 900, 901] (by decide +kernel)
set_option maxRecDepth 20000 in
theorem wl_28 : ∀ w ∈ wsL_law_r28, w ∈ lw_tbl := mem_r _ [902, 647, 648, 649, 650, 124, 106, 903, 904, 905, 906] (by decide +kernel)
set_option maxRecDepth 20000 in
theorem wl_X8 : ∀ w ∈ wsX80, w ∈ lw_tbl := by decide +kernel
set_option maxRecDepth 20000 in
theorem wl_X9 : ∀ w ∈ wsX90, w ∈ lw_tbl := by decide +kernel
set_option maxRecDepth 20000 in
theorem wl_X3 : ∀ w ∈ wsX30, w ∈ lw_tbl := by decide +kernel
set_option maxRecDepth 20000 in
theorem wl_X7 : ∀ w ∈ wsX70, w ∈ lw_tbl := by decide +kernel
set_option maxRecDepth 20000 in
theorem wl_X2 : ∀ w ∈ wsX20, w ∈ lw_tbl := by decide +kernel
set_option maxRecDepth 20000 in
theorem wl_X5 : ∀ w ∈ wsX50, w ∈ lw_tbl := by decide +kernel
set_option maxRecDepth 20000 in
theorem wl_X0 : ∀ w ∈ wsX00, w ∈ lw_tbl := by decide +kernel
set_option maxRecDepth 20000 in
theorem wl_X1 : ∀ w ∈ wsX10, w ∈ lw_tbl := by decide +kernel
set_option maxRecDepth 20000 in
theorem wl_X6 : ∀ w ∈ wsX60, w ∈ lw_tbl := by decide +kernel
set_option maxRecDepth 20000 in
theorem wl_X4 : ∀ w ∈ wsX40, w ∈ lw_tbl := by decide +kernel
theorem wsL_law_in : ∀ w ∈ wsL_law, w ∈ lw_tbl := all_app (all_app (all_app (all_app (all_app (all_app (all_app (all_app (all_app (all_app (all_app (all_app wl_1 (all_app wl_2 (all_app wl_3 (all_app wl_4 (all_app wl_5 (all_app wl_6 (all_app wl_7 (all_app wl_8 (all_app wl_9 (all_app wl_10 (all_app wl_11 (all_app wl_12 (all_app wl_13 (all_app wl_14 (all_app wl_15 (all_app wl_16 (all_app wl_17 (all_app wl_18 (all_app wl_19 (all_app wl_20 (all_app wl_21 (all_app wl_22 (all_app wl_23 (all_app wl_24 (all_app wl_25 (all_app wl_26 (all_app wl_27 (wl_28)))))))))))))))))))))))))))) wl_X8) wl_X9) wl_X3) wl_X7) wl_X2) wl_X5) wl_X0) wl_X1) wl_X6) wl_X4) (fun w h => absurd h List.not_mem_nil)
theorem inlX0 : ∀ w ∈ wsX00, w ∈ wsL_law := fun _ h => List.mem_append_left _ (List.mem_append_left _ (List.mem_append_left _ (List.mem_append_left _ (List.mem_append_right _ h))))
theorem inX0 : ∀ w ∈ wsX00, w ∈ lw_tbl := fun w h => wsL_law_in w (inlX0 w h)
theorem inlX1 : ∀ w ∈ wsX10, w ∈ wsL_law := fun _ h => List.mem_append_left _ (List.mem_append_left _ (List.mem_append_left _ (List.mem_append_right _ h)))
theorem inX1 : ∀ w ∈ wsX10, w ∈ lw_tbl := fun w h => wsL_law_in w (inlX1 w h)
theorem inlX2 : ∀ w ∈ wsX20, w ∈ wsL_law := fun _ h => List.mem_append_left _ (List.mem_append_left _ (List.mem_append_left _ (List.mem_append_left _ (List.mem_append_left _ (List.mem_append_left _ (List.mem_append_right _ h))))))
theorem inX2 : ∀ w ∈ wsX20, w ∈ lw_tbl := fun w h => wsL_law_in w (inlX2 w h)
theorem inlX3 : ∀ w ∈ wsX30, w ∈ wsL_law := fun _ h => List.mem_append_left _ (List.mem_append_left _ (List.mem_append_left _ (List.mem_append_left _ (List.mem_append_left _ (List.mem_append_left _ (List.mem_append_left _ (List.mem_append_left _ (List.mem_append_right _ h))))))))
theorem inX3 : ∀ w ∈ wsX30, w ∈ lw_tbl := fun w h => wsL_law_in w (inlX3 w h)
theorem inlX4 : ∀ w ∈ wsX40, w ∈ wsL_law := fun _ h => List.mem_append_left _ (List.mem_append_right _ h)
theorem inX4 : ∀ w ∈ wsX40, w ∈ lw_tbl := fun w h => wsL_law_in w (inlX4 w h)
theorem inlX5 : ∀ w ∈ wsX50, w ∈ wsL_law := fun _ h => List.mem_append_left _ (List.mem_append_left _ (List.mem_append_left _ (List.mem_append_left _ (List.mem_append_left _ (List.mem_append_right _ h)))))
theorem inX5 : ∀ w ∈ wsX50, w ∈ lw_tbl := fun w h => wsL_law_in w (inlX5 w h)
theorem inlX6 : ∀ w ∈ wsX60, w ∈ wsL_law := fun _ h => List.mem_append_left _ (List.mem_append_left _ (List.mem_append_right _ h))
theorem inX6 : ∀ w ∈ wsX60, w ∈ lw_tbl := fun w h => wsL_law_in w (inlX6 w h)
theorem inlX7 : ∀ w ∈ wsX70, w ∈ wsL_law := fun _ h => List.mem_append_left _ (List.mem_append_left _ (List.mem_append_left _ (List.mem_append_left _ (List.mem_append_left _ (List.mem_append_left _ (List.mem_append_left _ (List.mem_append_right _ h)))))))
theorem inX7 : ∀ w ∈ wsX70, w ∈ lw_tbl := fun w h => wsL_law_in w (inlX7 w h)
theorem inlX8 : ∀ w ∈ wsX80, w ∈ wsL_law := fun _ h => List.mem_append_left _ (List.mem_append_left _ (List.mem_append_left _ (List.mem_append_left _ (List.mem_append_left _ (List.mem_append_left _ (List.mem_append_left _ (List.mem_append_left _ (List.mem_append_left _ (List.mem_append_left _ (List.mem_append_right _ h))))))))))
theorem inX8 : ∀ w ∈ wsX80, w ∈ lw_tbl := fun w h => wsL_law_in w (inlX8 w h)
theorem inlX9 : ∀ w ∈ wsX90, w ∈ wsL_law := fun _ h => List.mem_append_left _ (List.mem_append_left _ (List.mem_append_left _ (List.mem_append_left _ (List.mem_append_left _ (List.mem_append_left _ (List.mem_append_left _ (List.mem_append_left _ (List.mem_append_left _ (List.mem_append_right _ h)))))))))
theorem inX9 : ∀ w ∈ wsX90, w ∈ lw_tbl := fun w h => wsL_law_in w (inlX9 w h)
theorem inJ6 : ∀ w ∈ wsJ60, w ∈ lw_tbl := by decide +kernel
theorem inJ9 : ∀ w ∈ wsJ90, w ∈ lw_tbl := by decide +kernel
abbrev vwCl : List vw_C := [(RX0, TX0, 17), (RX1, TX1, 4), (RX2, TX2, 2), (RX3, TX3, 8), (RX4, TX4, 3), (RX5, TX5, 8), (RX6, TX6, 3), (RX7, TX7, 2), (RX8, TX8, 14), (RX9, TX9, 37)]
end
section
/-- what the tables give beside the words: rows of objects, and the members of nest mates -/
def Nq (U : State) : Prop := (va_AO RX0 U ∧ va_AO RX1 U ∧ va_AO RX4 U ∧ va_AO RX6 U) ∧ (va_Nw (.methodLinkNest RX8 35 yX7_init RX8) U ∧ va_Nw (.methodLinkNest RX8 42 yX2_init RX8) U ∧ va_Nw (.methodLinkNest RX8 49 yX5_init RX8) U) ∧ va_Nw (.methodLinkNest RX2 54 yX8_isBelow RX8) U ∧ va_Nw (.methodLinkNest RX5 63 yX8_isBelow RX8) U ∧ va_Nw (.methodLinkNest RX3 48 yX8_oneIf RX8) U
theorem Nq.same {u U : State} (h : u.vm = U.vm) (q : Nq u) : Nq U := by
  have hv : u.vm.Alike U.vm := by rw [h]; exact Vm.Alike.refl U.vm
  obtain ⟨⟨a1, a2, a3, a4⟩, ⟨b1, b2, b3⟩, c1, c2, c3⟩ := q
  exact ⟨⟨a1.moved hv, a2.moved hv, a3.moved hv, a4.moved hv⟩, ⟨va_Nw.same rfl h b1, va_Nw.same rfl h b2, va_Nw.same rfl h b3⟩, va_Nw.same rfl h c1, va_Nw.same rfl h c2, va_Nw.same rfl h c3⟩
theorem Nq.warm {s U : State} (hW : s.WarmedH U.vm) (q : Nq s) : Nq U := by
  obtain ⟨⟨a1, a2, a3, a4⟩, ⟨b1, b2, b3⟩, c1, c2, c3⟩ := q
  exact ⟨⟨a1.moved hW.alike, a2.moved hW.alike, a3.moved hW.alike, a4.moved hW.alike⟩, ⟨va_Nw.warmM hW b1, va_Nw.warmM hW b2, va_Nw.warmM hW b3⟩, va_Nw.warmM hW c1, va_Nw.warmM hW c2, va_Nw.warmM hW c3⟩
/-- a world: the cells ws, the classes, and what the tables give -/
def wo (D : va_G) (tys : List (ClassId × FieldType)) (ws : va_W) (U : State) : Prop := va_P D vwCl ws U.heap ∧ va_K D vwCl tys U ∧ va_D (fun _ => True) ws ∧ Nq U
/-- the same, with the heap's size -/
def wz (sz : Nat) (D : va_G) (tys : List (ClassId × FieldType)) (ws : va_W) (U : State) : Prop := U.heap.size = sz ∧ wo D tys ws U
/-- a world behind a call -/
def wp (D : va_G) (tys : List (ClassId × FieldType)) (A : Nat → Prop) (ws : va_W) (t : State) : Prop := va_P D vwCl ws t.heap ∧ va_K D vwCl tys t ∧ va_D A ws
theorem wo.blind {As : List Value} {D : va_G} {tys : List (ClassId × FieldType)} {ws : va_W} : FrameBlind (va_Pc As (wo D tys ws)) := fun a U g mk q => ⟨q.1, q.2.1, va_K.moved (u := U) (U := U.calling g mk a) (Vm.Alike.refl U.vm) q.2.2.1, q.2.2.2.1, Nq.same (u := U) (U := U.calling g mk a) rfl q.2.2.2.2⟩
theorem wz.blind {As : List Value} {sz : Nat} {D : va_G} {tys : List (ClassId × FieldType)} {ws : va_W} : FrameBlind (va_Pc As (wz sz D tys ws)) := fun a U g mk q => ⟨q.1, q.2.1, q.2.2.1, va_K.moved (u := U) (U := U.calling g mk a) (Vm.Alike.refl U.vm) q.2.2.2.1, q.2.2.2.2.1, Nq.same (u := U) (U := U.calling g mk a) rfl q.2.2.2.2.2⟩
theorem wo.pre {D : va_G} {tys : List (ClassId × FieldType)} {ws : va_W} {H : Heap} {s : State} {A : Nat → Prop} (hP : va_P D vwCl ws H) (hK : va_K D vwCl tys s) (hD : va_D A ws) (hN : Nq s) {U : State} (hU : U.heap = H) (hW : s.WarmedH U.vm) : wo D tys ws U := ⟨by rw [hU]; exact hP, va_K.moved hW.alike hK, hD.weaken (fun _ _ _ _ => trivial), hN.warm hW⟩
theorem fm_of {α : Type} {is : List Nat} {f : Nat → Option α} {wc : List α} (h : is.map f = wc.map some) : is.filterMap f = wc := by
  induction is generalizing wc with
  | nil =>
    cases wc with
    | nil => rfl
    | cons a t => simp at h
  | cons i is ih =>
    cases wc with
    | nil => simp at h
    | cons a t =>
      simp only [List.map_cons, List.cons.injEq] at h
      rw [List.filterMap_cons, h.1, ih h.2]
theorem vp_in0 {n : Nat} (h : 0 < n) : vp_in 0 n := by
  have h3 : (0 : Int32).toInt = 0 := by decide
  exact vp_in_iff.mpr ⟨by omega, by omega⟩
section CR
variable {p : Program} {l : Launch} {e : Env} {R : Room} {s : State} {m : MethodId} {args : Array Value} {below : List Frame} {meth : Method} {c : Code} {H : Heap} {locs : List Loc} {cells slots : Nat} {Q : State → Prop}
variable {pc : Nat} {ls : Array Slot} {rest st0 As : List Value} {cc bytes : ByteArray} {nL maxL n index : Nat} {ret : Option FieldType} {wsY Ts : List Cond} {rm : Room} {own C host : String} {y : MethodName} {b : Nat} {D : va_G} {ws wc wr : va_W} {tys tys' : List (ClassId × FieldType)} {A : Nat → Prop} {H0 : Heap} {mc ms : Nat}
theorem lv_tope {x z : Int32} (h : x = z) (k : W p l e R s m args below meth c H locs cells slots Q (F0 m pc ls (.int z :: rest))) : W p l e R s m args below meth c H locs cells slots Q (F0 m pc ls (.int x :: rest)) := by
  rw [h]; exact k
theorem lv_topv {x z : Value} (h : x = z) (k : W p l e R s m args below meth c H locs cells slots Q (F0 m pc ls (z :: rest))) : W p l e R s m args below meth c H locs cells slots Q (F0 m pc ls (x :: rest)) := by
  rw [h]; exact k
theorem cr_of {Qa : State → Outcome → State → Prop} {free : Addr → Prop} {g : JFrame} (h : va_Run p l e R s m args below meth c H locs cells slots mc ms g rest Qa free) : CallRun p l e R s m args below meth c H locs cells slots mc ms g rest Qa free := by
  intro T hT X
  obtain ⟨v, st₀, t, T', L, a1, a2, a3, a4, a5, a6, a7⟩ := h T hT X
  exact ⟨v, st₀, t, T', L, a1, a2, a3, a4, a6, a7⟩
/-- a read, virtual: the callee's cells cut out, the call's run -/
theorem zrV {Qc : Array Value → State → Outcome → State → Prop} (S : CallFix p m c cc nL s args Ts own) (hN : Nq s) (hK : va_K D vwCl tys s) (hP : va_P D vwCl ws H) (hD : va_D A ws) (hM : Met l y wsY rm (va_Pc (.ref b :: As) (wo D tys' wc)) Qc 0 0 (fun _ => False)) (cw : CallW R s args own C index y bytes maxL ret wsY rm 0 0 n) (isT isC : List Nat) (hT : isT.filterMap (fun i => tys[i]?) = tys') (hC : isC.map (fun i => ws[i]?) = wc.map some) (hnd : va_nd isC = true) (ci q0 : Nat) {T : u_T} {N : Nat} {fs : List Value} (hcl : vwCl[ci]? = some (C, T, N)) (hq : wc[q0]? = some (b, .inr (ci, fs))) (hn : As.length = n) (hsize : ls.size = nL) (hst : st0 = As.reverse ++ .ref b :: rest) (hW : (rest.map fun v => v.category).sum ≤ 8) (hdg : decode cc pc = .ok (.invokevirtual index, 3)) (hf : cells + 0 ≤ R.cells ∧ slots + 0 ≤ R.slots) :
    CallRun p l e R s m args below meth c H locs cells slots 0 0 (F0 m pc ls st0) rest (Qc (Value.ref b :: As).toArray) (fun _ => False) := by
  have hPc : va_P D vwCl wc H := hP.sub isC (fm_of hC)
  have hDc : va_D A wc := hD.sub isC hnd hC
  have hKc : va_K D vwCl tys' s := hK.sub isT hT
  exact W.runV S hM cw ⟨wo.blind, va_recv hKc hPc hcl hq, fun U hU hW => ⟨rfl, wo.pre hPc hKc hDc hN hU hW⟩⟩ rfl hn hsize hst (lv_room hW) hdg hf
theorem zrS {Qc : Array Value → State → Outcome → State → Prop} (S : CallFix p m c cc nL s args Ts own) (hN : Nq s) (hK : va_K D vwCl tys s) (hP : va_P D vwCl ws H) (hD : va_D A ws) (hM : Met l y wsY rm (va_Pc As (wo D tys' wc)) Qc 0 0 (fun _ => False)) (cw : CallB R s args own index y bytes maxL ret wsY rm 0 0 n ∧ (Cond.static y).before args s = true) (isT isC : List Nat) (hT : isT.filterMap (fun i => tys[i]?) = tys') (hC : isC.map (fun i => ws[i]?) = wc.map some) (hnd : va_nd isC = true) (hn : As.length = n) (hsize : ls.size = nL) (hst : st0 = As.reverse ++ rest) (hW : (rest.map fun v => v.category).sum ≤ 8) (hdg : decode cc pc = .ok (.invokestatic index, 3)) (hf : cells + 0 ≤ R.cells ∧ slots + 0 ≤ R.slots) :
    CallRun p l e R s m args below meth c H locs cells slots 0 0 (F0 m pc ls st0) rest (Qc As.toArray) (fun _ => False) := by
  have hPc : va_P D vwCl wc H := hP.sub isC (fm_of hC)
  have hDc : va_D A wc := hD.sub isC hnd hC
  have hKc : va_K D vwCl tys' s := hK.sub isT hT
  exact W.runS S hM cw ⟨wo.blind, fun U hU hW => ⟨rfl, wo.pre hPc hKc hDc hN hU hW⟩⟩ rfl hn hsize hst (lv_room hW) hdg hf
theorem zrN {Qc : Array Value → State → Outcome → State → Prop} (S : CallFix p m c cc nL s args Ts own) (hN : Nq s) (hK : va_K D vwCl tys s) (hP : va_P D vwCl ws H) (hD : va_D A ws) (hM : Met l y wsY rm (va_Pc As (wo D tys' wc)) Qc 0 0 (fun _ => False)) (cw : va_CN R s args own index y host bytes maxL ret wsY rm 0 0 n ∧ (Cond.static y).before args s = true ∧ True) (isT isC : List Nat) (hT : isT.filterMap (fun i => tys[i]?) = tys') (hC : isC.map (fun i => ws[i]?) = wc.map some) (hnd : va_nd isC = true) (hn : As.length = n) (hsize : ls.size = nL) (hst : st0 = As.reverse ++ rest) (hW : (rest.map fun v => v.category).sum ≤ 8) (hdg : decode cc pc = .ok (.invokestatic index, 3)) (hf : cells + 0 ≤ R.cells ∧ slots + 0 ≤ R.slots) :
    CallRun p l e R s m args below meth c H locs cells slots 0 0 (F0 m pc ls st0) rest (Qc As.toArray) (fun _ => False) := by
  have hPc : va_P D vwCl wc H := hP.sub isC (fm_of hC)
  have hDc : va_D A wc := hD.sub isC hnd hC
  have hKc : va_K D vwCl tys' s := hK.sub isT hT
  exact cr_of (va_runSN S hM cw ⟨wo.blind, fun U hU hW => ⟨rfl, wo.pre hPc hKc hDc hN hU hW⟩⟩ rfl hn hsize hst (lv_room hW) hdg hf)
/-- a call that writes, virtual -/
theorem zwV {Qc : Array Value → State → Outcome → State → Prop} (S : CallFix p m c cc nL s args Ts own) (hN : Nq s) (hK : va_K D vwCl tys s) (hP : va_P D vwCl ws H) (hD : va_D A ws) (hM : Met l y wsY rm (va_Pc (.ref b :: As) (wz H.size D tys' wc)) Qc mc ms (va_A wc H.size)) (cw : CallW R s args own C index y bytes maxL ret wsY rm mc ms n) (isT isC : List Nat) (hT : isT.filterMap (fun i => tys[i]?) = tys') (hC : isC.map (fun i => ws[i]?) = wc.map some) (hnd : va_nd isC = true) (ci q0 : Nat) {T : u_T} {N : Nat} {fs : List Value} (hcl : vwCl[ci]? = some (C, T, N)) (hq : wc[q0]? = some (b, .inr (ci, fs))) (hn : As.length = n) (hsize : ls.size = nL) (hst : st0 = As.reverse ++ .ref b :: rest) (hW : (rest.map fun v => v.category).sum ≤ 8) (hdg : decode cc pc = .ok (.invokevirtual index, 3)) (hf : cells + mc ≤ R.cells ∧ slots + ms ≤ R.slots) :
    va_Run p l e R s m args below meth c H locs cells slots mc ms (F0 m pc ls st0) rest (Qc (Value.ref b :: As).toArray) (va_A wc H.size) := by
  have hPc : va_P D vwCl wc H := hP.sub isC (fm_of hC)
  have hDc : va_D A wc := hD.sub isC hnd hC
  have hKc : va_K D vwCl tys' s := hK.sub isT hT
  exact va_runV S hM cw ⟨wz.blind, va_recv hKc hPc hcl hq, fun U hU hW => ⟨rfl, by rw [hU], wo.pre hPc hKc hDc hN hU hW⟩⟩ rfl hn hsize hst (lv_room hW) hdg hf
theorem zwI {Qc : Array Value → State → Outcome → State → Prop} (S : CallFix p m c cc nL s args Ts own) (hN : Nq s) (hK : va_K D vwCl tys s) (hP : va_P D vwCl ws H) (hD : va_D A ws) (hM : Met l y wsY rm (va_Pc (.ref b :: As) (wz H.size D tys' wc)) Qc mc ms (va_A wc H.size)) (cw : CallB R s args own index y bytes maxL none wsY rm mc ms n ∧ y.name = "<init>" ∧ (Cond.instanceMethod y).before args s = true) (isT isC : List Nat) (hT : isT.filterMap (fun i => tys[i]?) = tys') (hC : isC.map (fun i => ws[i]?) = wc.map some) (hnd : va_nd isC = true) (hn : As.length = n) (hsize : ls.size = nL) (hst : st0 = As.reverse ++ .ref b :: rest) (hW : (rest.map fun v => v.category).sum ≤ 8) (hdg : decode cc pc = .ok (.invokespecial index, 3)) (hf : cells + mc ≤ R.cells ∧ slots + ms ≤ R.slots) :
    va_Run p l e R s m args below meth c H locs cells slots mc ms (F0 m pc ls st0) rest (Qc (Value.ref b :: As).toArray) (va_A wc H.size) := by
  have hPc : va_P D vwCl wc H := hP.sub isC (fm_of hC)
  have hDc : va_D A wc := hD.sub isC hnd hC
  have hKc : va_K D vwCl tys' s := hK.sub isT hT
  exact va_runI S hM cw ⟨wz.blind, fun U hU hW => ⟨rfl, by rw [hU], wo.pre hPc hKc hDc hN hU hW⟩⟩ rfl hn hsize hst (lv_room hW) hdg hf
theorem zwN {Qc : Array Value → State → Outcome → State → Prop} (S : CallFix p m c cc nL s args Ts own) (hN : Nq s) (hK : va_K D vwCl tys s) (hP : va_P D vwCl ws H) (hD : va_D A ws) (hM : Met l y wsY rm (va_Pc (.ref b :: As) (wz H.size D tys' wc)) Qc mc ms (va_A wc H.size)) (cw : va_CN R s args own index y host bytes maxL none wsY rm mc ms n ∧ y.name = "<init>" ∧ (Cond.instanceMethod y).before args s = true) (isT isC : List Nat) (hT : isT.filterMap (fun i => tys[i]?) = tys') (hC : isC.map (fun i => ws[i]?) = wc.map some) (hnd : va_nd isC = true) (hn : As.length = n) (hsize : ls.size = nL) (hst : st0 = As.reverse ++ .ref b :: rest) (hW : (rest.map fun v => v.category).sum ≤ 8) (hdg : decode cc pc = .ok (.invokespecial index, 3)) (hf : cells + mc ≤ R.cells ∧ slots + ms ≤ R.slots) :
    va_Run p l e R s m args below meth c H locs cells slots mc ms (F0 m pc ls st0) rest (Qc (Value.ref b :: As).toArray) (va_A wc H.size) := by
  have hPc : va_P D vwCl wc H := hP.sub isC (fm_of hC)
  have hDc : va_D A wc := hD.sub isC hnd hC
  have hKc : va_K D vwCl tys' s := hK.sub isT hT
  exact va_runIN S hM cw ⟨wz.blind, fun U hU hW => ⟨rfl, by rw [hU], wo.pre hPc hKc hDc hN hU hW⟩⟩ rfl hn hsize hst (lv_room hW) hdg hf
/-- behind a call that writes: the rest and what came back -/
theorem zj {H1 : Heap} {w1 : va_W} {tys1 : List (ClassId × FieldType)} {t : State} (hK : va_K D vwCl tys s) (hP : va_P D vwCl ws H) (hD : va_D A ws) (hS : va_S A H0 H locs) (hA : ∀ q, H0.size ≤ q → A q) (isC isR : List Nat) (hC : isC.map (fun i => ws[i]?) = wc.map some) (hR : isR.map (fun i => ws[i]?) = wr.map some) (hn : va_nd isR = true) (hdis : ∀ i ∈ isR, i ∉ isC) (hk : ∀ q : Nat, q < H.size → ¬ va_A wc H.size q → H1[q]? = H[q]?) (ht : t.heap = H1) (hvm : s.vm.Alike t.vm) (hB : wp D tys1 (va_A wc H.size) w1 t) : va_P D vwCl (wr ++ w1) H1 ∧ va_D A (wr ++ w1) ∧ va_K D vwCl (tys ++ tys1) s := by
  obtain ⟨h1, h2, h3⟩ := hB
  rw [ht] at h1
  obtain ⟨a1, a2⟩ := va_join (wc := wc) (wr := wr) (w1 := w1) hP hD isC isR hC hR hn hdis hk (va_free (wc := wc) hD hS hA isC hC) h1 h3
  exact ⟨a1, a2, hK.app (va_K.moved hvm.symm h2)⟩
end CR
theorem wp_nil {D : va_G} {A : Nat → Prop} {t : State} {cl : List vw_C} {tys : List (ClassId × FieldType)} (hK : va_K D vwCl tys t) : wp D [] A [] t := ⟨fun k q h => by simp at h, ⟨hK.1, fun k q h => by simp at h⟩, ⟨fun i j p q h => by simp at h, fun k q h => by simp at h⟩⟩
end
section
section BR
variable {p : Program} {l : Launch} {e : Env} {R : Room} {s : State} {m : MethodId} {args : Array Value} {below : List Frame} {meth : Method} {c : Code} {H : Heap} {locs : List Loc} {cells slots : Nat} {Q : State → Prop} {pc : Nat} {ls : Array Slot} {rest : List Value} {cc : ByteArray}
theorem bi_eq (hexec : p.tables.exec = Jvm.exec) (hb : c.code = cc) {x y : Int32} {zx zy : Int} {off : Int} {tgt : Nat} (hdg : decode cc pc = .ok (.if_icmp .eq off, 3)) (ht : (pc : Int) + off = (tgt : Int)) (ex : x.toInt = zx) (ey : y.toInt = zy) (kt : zx = zy → W p l e R s m args below meth c H locs cells slots Q (F0 m tgt ls rest)) (kf : ¬ (zx = zy) → W p l e R s m args below meth c H locs cells slots Q (F0 m (pc + 3) ls rest)) : W p l e R s m args below meth c H locs cells slots Q (F0 m pc ls (.int y :: .int x :: rest)) := by
  subst ex; subst ey
  have hi : (x = y) ↔ (x.toInt = y.toInt) := Int32.toInt_inj.symm
  exact lv_icmp_eq hexec hb hdg ht (fun h => kt (hi.mp h)) (fun h => kf (fun q => h (hi.mpr q)))
theorem bi_ne (hexec : p.tables.exec = Jvm.exec) (hb : c.code = cc) {x y : Int32} {zx zy : Int} {off : Int} {tgt : Nat} (hdg : decode cc pc = .ok (.if_icmp .ne off, 3)) (ht : (pc : Int) + off = (tgt : Int)) (ex : x.toInt = zx) (ey : y.toInt = zy) (kt : ¬ zx = zy → W p l e R s m args below meth c H locs cells slots Q (F0 m tgt ls rest)) (kf : zx = zy → W p l e R s m args below meth c H locs cells slots Q (F0 m (pc + 3) ls rest)) : W p l e R s m args below meth c H locs cells slots Q (F0 m pc ls (.int y :: .int x :: rest)) := by
  subst ex; subst ey
  have hi : (¬ x = y) ↔ (¬ x.toInt = y.toInt) := not_congr Int32.toInt_inj.symm
  exact lv_icmp_ne hexec hb hdg ht (fun h => kt (hi.mp h)) (fun h => kf (Int32.toInt_inj.mpr h))
theorem bi_lt (hexec : p.tables.exec = Jvm.exec) (hb : c.code = cc) {x y : Int32} {zx zy : Int} {off : Int} {tgt : Nat} (hdg : decode cc pc = .ok (.if_icmp .lt off, 3)) (ht : (pc : Int) + off = (tgt : Int)) (ex : x.toInt = zx) (ey : y.toInt = zy) (kt : zx < zy → W p l e R s m args below meth c H locs cells slots Q (F0 m tgt ls rest)) (kf : ¬ (zx < zy) → W p l e R s m args below meth c H locs cells slots Q (F0 m (pc + 3) ls rest)) : W p l e R s m args below meth c H locs cells slots Q (F0 m pc ls (.int y :: .int x :: rest)) := by
  subst ex; subst ey
  have hi : (x < y) ↔ (x.toInt < y.toInt) := Int32.lt_iff_toInt_lt
  exact lv_icmp_lt hexec hb hdg ht (fun h => kt (hi.mp h)) (fun h => kf (fun q => h (hi.mpr q)))
theorem bi_ge (hexec : p.tables.exec = Jvm.exec) (hb : c.code = cc) {x y : Int32} {zx zy : Int} {off : Int} {tgt : Nat} (hdg : decode cc pc = .ok (.if_icmp .ge off, 3)) (ht : (pc : Int) + off = (tgt : Int)) (ex : x.toInt = zx) (ey : y.toInt = zy) (kt : zy ≤ zx → W p l e R s m args below meth c H locs cells slots Q (F0 m tgt ls rest)) (kf : ¬ (zy ≤ zx) → W p l e R s m args below meth c H locs cells slots Q (F0 m (pc + 3) ls rest)) : W p l e R s m args below meth c H locs cells slots Q (F0 m pc ls (.int y :: .int x :: rest)) := by
  subst ex; subst ey
  have hi : (y ≤ x) ↔ (y.toInt ≤ x.toInt) := Int32.le_iff_toInt_le
  exact lv_icmp_ge hexec hb hdg ht (fun h => kt (hi.mp h)) (fun h => kf (fun q => h (hi.mpr q)))
theorem bi_gt (hexec : p.tables.exec = Jvm.exec) (hb : c.code = cc) {x y : Int32} {zx zy : Int} {off : Int} {tgt : Nat} (hdg : decode cc pc = .ok (.if_icmp .gt off, 3)) (ht : (pc : Int) + off = (tgt : Int)) (ex : x.toInt = zx) (ey : y.toInt = zy) (kt : zy < zx → W p l e R s m args below meth c H locs cells slots Q (F0 m tgt ls rest)) (kf : ¬ (zy < zx) → W p l e R s m args below meth c H locs cells slots Q (F0 m (pc + 3) ls rest)) : W p l e R s m args below meth c H locs cells slots Q (F0 m pc ls (.int y :: .int x :: rest)) := by
  subst ex; subst ey
  have hi : (y < x) ↔ (y.toInt < x.toInt) := Int32.lt_iff_toInt_lt
  exact lv_icmp_gt hexec hb hdg ht (fun h => kt (hi.mp h)) (fun h => kf (fun q => h (hi.mpr q)))
theorem bi_le (hexec : p.tables.exec = Jvm.exec) (hb : c.code = cc) {x y : Int32} {zx zy : Int} {off : Int} {tgt : Nat} (hdg : decode cc pc = .ok (.if_icmp .le off, 3)) (ht : (pc : Int) + off = (tgt : Int)) (ex : x.toInt = zx) (ey : y.toInt = zy) (kt : zx ≤ zy → W p l e R s m args below meth c H locs cells slots Q (F0 m tgt ls rest)) (kf : ¬ (zx ≤ zy) → W p l e R s m args below meth c H locs cells slots Q (F0 m (pc + 3) ls rest)) : W p l e R s m args below meth c H locs cells slots Q (F0 m pc ls (.int y :: .int x :: rest)) := by
  subst ex; subst ey
  have hi : (x ≤ y) ↔ (x.toInt ≤ y.toInt) := Int32.le_iff_toInt_le
  exact lv_icmp_le hexec hb hdg ht (fun h => kt (hi.mp h)) (fun h => kf (fun q => h (hi.mpr q)))
theorem bz_eq (hexec : p.tables.exec = Jvm.exec) (hb : c.code = cc) {x : Int32} {zx : Int} {off : Int} {tgt : Nat} (hdg : decode cc pc = .ok (.ifCond .eq off, 3)) (ht : (pc : Int) + off = (tgt : Int)) (ex : x.toInt = zx) (kt : zx = 0 → W p l e R s m args below meth c H locs cells slots Q (F0 m tgt ls rest)) (kf : ¬ (zx = 0) → W p l e R s m args below meth c H locs cells slots Q (F0 m (pc + 3) ls rest)) : W p l e R s m args below meth c H locs cells slots Q (F0 m pc ls (.int x :: rest)) := by
  subst ex
  have hi : (x = 0) ↔ (x.toInt = 0) := Int32.toInt_inj.symm
  exact lv_if_eq hexec hb hdg ht (fun h => kt (hi.mp h)) (fun h => kf (fun q => h (hi.mpr q)))
theorem bz_ne (hexec : p.tables.exec = Jvm.exec) (hb : c.code = cc) {x : Int32} {zx : Int} {off : Int} {tgt : Nat} (hdg : decode cc pc = .ok (.ifCond .ne off, 3)) (ht : (pc : Int) + off = (tgt : Int)) (ex : x.toInt = zx) (kt : ¬ zx = 0 → W p l e R s m args below meth c H locs cells slots Q (F0 m tgt ls rest)) (kf : zx = 0 → W p l e R s m args below meth c H locs cells slots Q (F0 m (pc + 3) ls rest)) : W p l e R s m args below meth c H locs cells slots Q (F0 m pc ls (.int x :: rest)) := by
  subst ex
  have hi : (¬ x = 0) ↔ (¬ x.toInt = 0) := not_congr Int32.toInt_inj.symm
  exact lv_if_ne hexec hb hdg ht (fun h => kt (hi.mp h)) (fun h => kf (Int32.toInt_inj.mpr h))
theorem bz_lt (hexec : p.tables.exec = Jvm.exec) (hb : c.code = cc) {x : Int32} {zx : Int} {off : Int} {tgt : Nat} (hdg : decode cc pc = .ok (.ifCond .lt off, 3)) (ht : (pc : Int) + off = (tgt : Int)) (ex : x.toInt = zx) (kt : zx < 0 → W p l e R s m args below meth c H locs cells slots Q (F0 m tgt ls rest)) (kf : ¬ (zx < 0) → W p l e R s m args below meth c H locs cells slots Q (F0 m (pc + 3) ls rest)) : W p l e R s m args below meth c H locs cells slots Q (F0 m pc ls (.int x :: rest)) := by
  subst ex
  have hi : (x < 0) ↔ (x.toInt < 0) := Int32.lt_iff_toInt_lt
  exact lv_if_lt hexec hb hdg ht (fun h => kt (hi.mp h)) (fun h => kf (fun q => h (hi.mpr q)))
theorem bz_ge (hexec : p.tables.exec = Jvm.exec) (hb : c.code = cc) {x : Int32} {zx : Int} {off : Int} {tgt : Nat} (hdg : decode cc pc = .ok (.ifCond .ge off, 3)) (ht : (pc : Int) + off = (tgt : Int)) (ex : x.toInt = zx) (kt : 0 ≤ zx → W p l e R s m args below meth c H locs cells slots Q (F0 m tgt ls rest)) (kf : ¬ (0 ≤ zx) → W p l e R s m args below meth c H locs cells slots Q (F0 m (pc + 3) ls rest)) : W p l e R s m args below meth c H locs cells slots Q (F0 m pc ls (.int x :: rest)) := by
  subst ex
  have hi : (0 ≤ x) ↔ (0 ≤ x.toInt) := Int32.le_iff_toInt_le
  exact lv_if_ge hexec hb hdg ht (fun h => kt (hi.mp h)) (fun h => kf (fun q => h (hi.mpr q)))
theorem bz_gt (hexec : p.tables.exec = Jvm.exec) (hb : c.code = cc) {x : Int32} {zx : Int} {off : Int} {tgt : Nat} (hdg : decode cc pc = .ok (.ifCond .gt off, 3)) (ht : (pc : Int) + off = (tgt : Int)) (ex : x.toInt = zx) (kt : 0 < zx → W p l e R s m args below meth c H locs cells slots Q (F0 m tgt ls rest)) (kf : ¬ (0 < zx) → W p l e R s m args below meth c H locs cells slots Q (F0 m (pc + 3) ls rest)) : W p l e R s m args below meth c H locs cells slots Q (F0 m pc ls (.int x :: rest)) := by
  subst ex
  have hi : (0 < x) ↔ (0 < x.toInt) := Int32.lt_iff_toInt_lt
  exact lv_if_gt hexec hb hdg ht (fun h => kt (hi.mp h)) (fun h => kf (fun q => h (hi.mpr q)))
theorem bz_le (hexec : p.tables.exec = Jvm.exec) (hb : c.code = cc) {x : Int32} {zx : Int} {off : Int} {tgt : Nat} (hdg : decode cc pc = .ok (.ifCond .le off, 3)) (ht : (pc : Int) + off = (tgt : Int)) (ex : x.toInt = zx) (kt : zx ≤ 0 → W p l e R s m args below meth c H locs cells slots Q (F0 m tgt ls rest)) (kf : ¬ (zx ≤ 0) → W p l e R s m args below meth c H locs cells slots Q (F0 m (pc + 3) ls rest)) : W p l e R s m args below meth c H locs cells slots Q (F0 m pc ls (.int x :: rest)) := by
  subst ex
  have hi : (x ≤ 0) ↔ (x.toInt ≤ 0) := Int32.le_iff_toInt_le
  exact lv_if_le hexec hb hdg ht (fun h => kt (hi.mp h)) (fun h => kf (fun q => h (hi.mpr q)))
end BR
theorem mx0 {y : Int32} (h : 0 ≤ y.toInt) : (if (0 : Int32) < y then y else 0) = y := by
  by_cases q : (0 : Int32) < y
  · exact if_pos q
  · rw [if_neg q]
    have h2 : ¬ (0 : Int32).toInt < y.toInt := fun a => q (Int32.lt_iff_toInt_lt.mpr a)
    have h3 : (0 : Int32).toInt = 0 := by decide
    exact Int32.toInt_inj.mp (by omega)
theorem mn_eq {x y : Int32} {z : Int} (h : x.toInt ≤ z) (hz : y.toInt = z) : (if y < x then y else x) = x := by
  refine if_neg (fun q => ?_)
  have h2 := Int32.lt_iff_toInt_lt.mp q
  omega
theorem dfX0 : ∀ j, j < 17 → defaultValue (tyX0 j) = vp_V [.int 0, .int 0, .int 0, .int 0, .int 0, .int 0, .null, .null, .int 0, .int 0, .int 0, .int 0, .int 0, .int 0, .int 0, .null, .null] j := by
  intro j hj
  match j, hj with
  | 0, _ => rfl
  | 1, _ => rfl
  | 2, _ => rfl
  | 3, _ => rfl
  | 4, _ => rfl
  | 5, _ => rfl
  | 6, _ => rfl
  | 7, _ => rfl
  | 8, _ => rfl
  | 9, _ => rfl
  | 10, _ => rfl
  | 11, _ => rfl
  | 12, _ => rfl
  | 13, _ => rfl
  | 14, _ => rfl
  | 15, _ => rfl
  | 16, _ => rfl
  | n + 17, h => exact absurd h (by omega)
theorem dfX1 : ∀ j, j < 4 → defaultValue (tyX1 j) = vp_V [.int 0, .int 0, .int 0, .int 0] j := by
  intro j hj
  match j, hj with
  | 0, _ => rfl
  | 1, _ => rfl
  | 2, _ => rfl
  | 3, _ => rfl
  | n + 4, h => exact absurd h (by omega)
theorem dfX2 : ∀ j, j < 2 → defaultValue (tyX2 j) = vp_V [.null, .int 0] j := by
  intro j hj
  match j, hj with
  | 0, _ => rfl
  | 1, _ => rfl
  | n + 2, h => exact absurd h (by omega)
theorem dfX3 : ∀ j, j < 8 → defaultValue (tyX3 j) = vp_V [.null, .int 0, .int 0, .null, .null, .int 0, .int 0, .int 0] j := by
  intro j hj
  match j, hj with
  | 0, _ => rfl
  | 1, _ => rfl
  | 2, _ => rfl
  | 3, _ => rfl
  | 4, _ => rfl
  | 5, _ => rfl
  | 6, _ => rfl
  | 7, _ => rfl
  | n + 8, h => exact absurd h (by omega)
theorem dfX4 : ∀ j, j < 3 → defaultValue (tyX4 j) = vp_V [.int 0, .int 0, .int 0] j := by
  intro j hj
  match j, hj with
  | 0, _ => rfl
  | 1, _ => rfl
  | 2, _ => rfl
  | n + 3, h => exact absurd h (by omega)
theorem dfX5 : ∀ j, j < 8 → defaultValue (tyX5 j) = vp_V [.null, .null, .null, .null, .int 0, .int 0, .int 0, .int 0] j := by
  intro j hj
  match j, hj with
  | 0, _ => rfl
  | 1, _ => rfl
  | 2, _ => rfl
  | 3, _ => rfl
  | 4, _ => rfl
  | 5, _ => rfl
  | 6, _ => rfl
  | 7, _ => rfl
  | n + 8, h => exact absurd h (by omega)
theorem dfX6 : ∀ j, j < 3 → defaultValue (tyX6 j) = vp_V [.int 0, .int 0, .int 0] j := by
  intro j hj
  match j, hj with
  | 0, _ => rfl
  | 1, _ => rfl
  | 2, _ => rfl
  | n + 3, h => exact absurd h (by omega)
theorem dfX7 : ∀ j, j < 2 → defaultValue (tyX7 j) = vp_V [.null, .int 0] j := by
  intro j hj
  match j, hj with
  | 0, _ => rfl
  | 1, _ => rfl
  | n + 2, h => exact absurd h (by omega)
theorem dfX8 : ∀ j, j < 14 → defaultValue (tyX8 j) = vp_V [.null, .null, .null, .null, .null, .null, .null, .int 0, .int 0, .int 0, .int 0, .int 0, .int 0, .int 0] j := by
  intro j hj
  match j, hj with
  | 0, _ => rfl
  | 1, _ => rfl
  | 2, _ => rfl
  | 3, _ => rfl
  | 4, _ => rfl
  | 5, _ => rfl
  | 6, _ => rfl
  | 7, _ => rfl
  | 8, _ => rfl
  | 9, _ => rfl
  | 10, _ => rfl
  | 11, _ => rfl
  | 12, _ => rfl
  | 13, _ => rfl
  | n + 14, h => exact absurd h (by omega)
theorem dfX9 : ∀ j, j < 37 → defaultValue (tyX9 j) = vp_V [.int 0, .int 0, .int 0, .int 0, .int 0, .int 0, .int 0, .null, .null, .null, .null, .null, .null, .null, .null, .null, .null, .null, .null, .null, .null, .null, .null, .null, .null, .int 0, .int 0, .int 0, .null, .null, .null, .int 0, .null, .null, .int 0, .null, .null] j := by
  intro j hj
  match j, hj with
  | 0, _ => rfl
  | 1, _ => rfl
  | 2, _ => rfl
  | 3, _ => rfl
  | 4, _ => rfl
  | 5, _ => rfl
  | 6, _ => rfl
  | 7, _ => rfl
  | 8, _ => rfl
  | 9, _ => rfl
  | 10, _ => rfl
  | 11, _ => rfl
  | 12, _ => rfl
  | 13, _ => rfl
  | 14, _ => rfl
  | 15, _ => rfl
  | 16, _ => rfl
  | 17, _ => rfl
  | 18, _ => rfl
  | 19, _ => rfl
  | 20, _ => rfl
  | 21, _ => rfl
  | 22, _ => rfl
  | 23, _ => rfl
  | 24, _ => rfl
  | 25, _ => rfl
  | 26, _ => rfl
  | 27, _ => rfl
  | 28, _ => rfl
  | 29, _ => rfl
  | 30, _ => rfl
  | 31, _ => rfl
  | 32, _ => rfl
  | 33, _ => rfl
  | 34, _ => rfl
  | 35, _ => rfl
  | 36, _ => rfl
  | n + 37, h => exact absurd h (by omega)
def F_pass (n : Int32) : Int32 := if 1 ≤ n.toInt ∧ n.toInt ≤ 1000 then n else -1
def F_alarm (a b k w : Int32) : Int32 := if (0 ≤ a.toInt ∧ a.toInt < 10) ∧ (0 ≤ b.toInt ∧ b.toInt < 40) ∧ (0 ≤ k.toInt ∧ k.toInt < 4096) ∧ 1 ≤ w.toInt ∧ w.toInt ≤ 100 then 0 else -2
def F_silence (a b d : Int32) : Int32 := if (0 ≤ a.toInt ∧ a.toInt < 10) ∧ 0 ≤ b.toInt ∧ b.toInt ≤ d.toInt ∧ d.toInt ≤ 10000 then 1 else -1
def F_set (w v : Int32) : Int32 := if (w.toInt = 0 ∧ 1 ≤ v.toInt ∧ v.toInt ≤ 50) ∨ (w.toInt = 1 ∧ 1 ≤ v.toInt ∧ v.toInt ≤ 20) ∨ (w.toInt = 2 ∧ 0 ≤ v.toInt ∧ v.toInt ≤ 5) then 1 else 0
def F_node (d k w : Int32) : Int32 := if (0 ≤ d.toInt ∧ d.toInt ≤ 4) ∧ (0 ≤ k.toInt ∧ k.toInt < 4096) ∧ 0 ≤ w.toInt ∧ w.toInt ≤ 2 then 0 else -1
def F_plan (a k : Int32) : Int32 := if (0 ≤ a.toInt ∧ a.toInt ≤ 300) ∧ k.toInt = -1 then 0 else -1
def F_worth (a w : Int32) : Int32 := if (0 ≤ a.toInt ∧ a.toInt ≤ 300) ∧ 0 ≤ w.toInt ∧ w.toInt ≤ 2 then 0 else -1
def F_source (a w : Int32) : Int32 := if (0 ≤ a.toInt ∧ a.toInt < 10) ∧ 0 ≤ w.toInt ∧ w.toInt ≤ 6 then 0 else -1
def F_count (w : Int32) : Int32 := if 0 ≤ w.toInt ∧ w.toInt ≤ 5 then 0 else -1
end
section
set_option maxRecDepth 20000 in
theorem ggX2_at_X8_isBelow : GoodIn wsX2_at wsX8_isBelow := goodIn_r _ [5] (by decide +kernel) (by decide +kernel)
set_option maxRecDepth 20000 in
theorem gX2_at_X8_isBelow_n54 : GoodIn wsX2_at (wsX8_isBelow) := ggX2_at_X8_isBelow
theorem dX2_at_0 : decode cX2_at 0 = .ok (.iload_n 1, 1) := by decide +kernel
theorem dX2_at_1 : decode cX2_at 1 = .ok (.aload_n 0, 1) := by decide +kernel
theorem dX2_at_2 : decode cX2_at 2 = .ok (.getfield 50, 3) := by decide +kernel
theorem dX2_at_5 : decode cX2_at 5 = .ok (.invokestatic 54, 3) := by decide +kernel
theorem dX2_at_8 : decode cX2_at 8 = .ok (.ifCond .eq 12, 3) := by decide +kernel
theorem dX2_at_20 : decode cX2_at 20 = .ok (.aconst_null, 1) := by decide +kernel
theorem dX2_at_21 : decode cX2_at 21 = .ok (.areturn, 1) := by decide +kernel
theorem dX2_scoreOfAll_0 : decode cX2_scoreOfAll 0 = .ok (.iconst 0, 1) := by decide +kernel
theorem dX2_scoreOfAll_1 : decode cX2_scoreOfAll 1 = .ok (.istore_n 1, 1) := by decide +kernel
theorem dX2_scoreOfAll_2 : decode cX2_scoreOfAll 2 = .ok (.iconst 0, 1) := by decide +kernel
theorem dX2_scoreOfAll_3 : decode cX2_scoreOfAll 3 = .ok (.istore_n 2, 1) := by decide +kernel
theorem dX2_scoreOfAll_4 : decode cX2_scoreOfAll 4 = .ok (.iload_n 2, 1) := by decide +kernel
theorem dX2_scoreOfAll_5 : decode cX2_scoreOfAll 5 = .ok (.aload_n 0, 1) := by decide +kernel
theorem dX2_scoreOfAll_6 : decode cX2_scoreOfAll 6 = .ok (.getfield 50, 3) := by decide +kernel
theorem dX2_scoreOfAll_9 : decode cX2_scoreOfAll 9 = .ok (.if_icmp .ge 21, 3) := by decide +kernel
theorem dX2_scoreOfAll_30 : decode cX2_scoreOfAll 30 = .ok (.iload_n 1, 1) := by decide +kernel
theorem dX2_scoreOfAll_31 : decode cX2_scoreOfAll 31 = .ok (.ireturn, 1) := by decide +kernel
theorem dX3_markAt_0 : decode cX3_markAt 0 = .ok (.iload_n 0, 1) := by decide +kernel
theorem dX3_markAt_1 : decode cX3_markAt 1 = .ok (.iconst 3, 1) := by decide +kernel
theorem dX3_markAt_2 : decode cX3_markAt 2 = .ok (.iconst 3, 1) := by decide +kernel
theorem dX3_markAt_3 : decode cX3_markAt 3 = .ok (.iload_n 1, 1) := by decide +kernel
theorem dX3_markAt_4 : decode cX3_markAt 4 = .ok (.isub, 1) := by decide +kernel
theorem dX3_markAt_5 : decode cX3_markAt 5 = .ok (.imul, 1) := by decide +kernel
theorem dX3_markAt_6 : decode cX3_markAt 6 = .ok (.ishr, 1) := by decide +kernel
theorem dX3_markAt_7 : decode cX3_markAt 7 = .ok (.bipush 7, 2) := by decide +kernel
theorem dX3_markAt_9 : decode cX3_markAt 9 = .ok (.iand, 1) := by decide +kernel
theorem dX3_markAt_10 : decode cX3_markAt 10 = .ok (.ireturn, 1) := by decide +kernel
theorem dX3_child_0 : decode cX3_child 0 = .ok (.aload_n 0, 1) := by decide +kernel
theorem dX3_child_1 : decode cX3_child 1 = .ok (.getfield 25, 3) := by decide +kernel
theorem dX3_child_4 : decode cX3_child 4 = .ok (.astore_n 2, 1) := by decide +kernel
theorem dX3_child_5 : decode cX3_child 5 = .ok (.aload_n 2, 1) := by decide +kernel
theorem dX3_child_6 : decode cX3_child 6 = .ok (.ifnull 19, 3) := by decide +kernel
theorem dX3_child_25 : decode cX3_child 25 = .ok (.aload_n 2, 1) := by decide +kernel
theorem dX3_child_26 : decode cX3_child 26 = .ok (.areturn, 1) := by decide +kernel
set_option maxRecDepth 20000 in
theorem ggX3_find_X3_markAt : GoodIn wsX3_find wsX3_markAt := goodIn_r _ [4] (by decide +kernel) (by decide +kernel)
set_option maxRecDepth 20000 in
theorem gX3_find_X3_markAt : GoodIn wsX3_find (va_wsS RX3 28 yX3_markAt wsX3_markAt) := goodIn_app (goodIn_of _ (by decide +kernel)) ggX3_find_X3_markAt
set_option maxRecDepth 20000 in
theorem ggX3_find_X3_child : GoodIn wsX3_find wsX3_child := goodIn_r _ [8, 9, 10, 11, 12, 13, 14, 15, 16, 17, 18, 19] (by decide +kernel) (by decide +kernel)
set_option maxRecDepth 20000 in
theorem gX3_find_X3_child : GoodIn wsX3_find (wsV RX3 32 RX3 yX3_child wsX3_child) := goodIn_app (goodIn_of _ (by decide +kernel)) ggX3_find_X3_child
theorem dX3_find_0 : decode cX3_find 0 = .ok (.aload_n 0, 1) := by decide +kernel
theorem dX3_find_1 : decode cX3_find 1 = .ok (.astore_n 3, 1) := by decide +kernel
theorem dX3_find_2 : decode cX3_find 2 = .ok (.iconst 0, 1) := by decide +kernel
theorem dX3_find_3 : decode cX3_find 3 = .ok (.istore 4, 2) := by decide +kernel
theorem dX3_find_5 : decode cX3_find 5 = .ok (.iload 4, 2) := by decide +kernel
theorem dX3_find_7 : decode cX3_find 7 = .ok (.iload_n 1, 1) := by decide +kernel
theorem dX3_find_8 : decode cX3_find 8 = .ok (.if_icmp .ge 24, 3) := by decide +kernel
theorem dX3_find_11 : decode cX3_find 11 = .ok (.aload_n 3, 1) := by decide +kernel
theorem dX3_find_12 : decode cX3_find 12 = .ok (.ifnull 20, 3) := by decide +kernel
theorem dX3_find_15 : decode cX3_find 15 = .ok (.aload_n 3, 1) := by decide +kernel
theorem dX3_find_16 : decode cX3_find 16 = .ok (.iload_n 2, 1) := by decide +kernel
theorem dX3_find_17 : decode cX3_find 17 = .ok (.iload 4, 2) := by decide +kernel
theorem dX3_find_19 : decode cX3_find 19 = .ok (.invokestatic 28, 3) := by decide +kernel
theorem dX3_find_22 : decode cX3_find 22 = .ok (.invokevirtual 32, 3) := by decide +kernel
theorem dX3_find_25 : decode cX3_find 25 = .ok (.astore_n 3, 1) := by decide +kernel
theorem dX3_find_26 : decode cX3_find 26 = .ok (.iinc 4 1, 3) := by decide +kernel
theorem dX3_find_29 : decode cX3_find 29 = .ok (.goto (-24), 3) := by decide +kernel
theorem dX3_find_32 : decode cX3_find 32 = .ok (.aload_n 3, 1) := by decide +kernel
theorem dX3_find_33 : decode cX3_find 33 = .ok (.areturn, 1) := by decide +kernel
set_option maxRecDepth 20000 in
theorem ggX5_at_X8_isBelow : GoodIn wsX5_at wsX8_isBelow := goodIn_r _ [5] (by decide +kernel) (by decide +kernel)
set_option maxRecDepth 20000 in
theorem gX5_at_X8_isBelow_n63 : GoodIn wsX5_at (wsX8_isBelow) := ggX5_at_X8_isBelow
theorem dX5_at_0 : decode cX5_at 0 = .ok (.iload_n 1, 1) := by decide +kernel
theorem dX5_at_1 : decode cX5_at 1 = .ok (.aload_n 0, 1) := by decide +kernel
theorem dX5_at_2 : decode cX5_at 2 = .ok (.getfield 27, 3) := by decide +kernel
theorem dX5_at_5 : decode cX5_at 5 = .ok (.invokestatic 63, 3) := by decide +kernel
theorem dX5_at_8 : decode cX5_at 8 = .ok (.ifCond .eq 12, 3) := by decide +kernel
theorem dX5_at_20 : decode cX5_at 20 = .ok (.aconst_null, 1) := by decide +kernel
theorem dX5_at_21 : decode cX5_at 21 = .ok (.areturn, 1) := by decide +kernel
theorem dX5_takeTries_0 : decode cX5_takeTries 0 = .ok (.iconst 0, 1) := by decide +kernel
theorem dX5_takeTries_1 : decode cX5_takeTries 1 = .ok (.istore_n 3, 1) := by decide +kernel
theorem dX5_takeTries_2 : decode cX5_takeTries 2 = .ok (.iload_n 3, 1) := by decide +kernel
theorem dX5_takeTries_3 : decode cX5_takeTries 3 = .ok (.aload_n 1, 1) := by decide +kernel
theorem dX5_takeTries_4 : decode cX5_takeTries 4 = .ok (.getfield 74, 3) := by decide +kernel
theorem dX5_takeTries_7 : decode cX5_takeTries 7 = .ok (.if_icmp .ge 51, 3) := by decide +kernel
theorem dX5_takeTries_58 : decode cX5_takeTries 58 = .ok (.return_, 1) := by decide +kernel
theorem dX5_fillPool_0 : decode cX5_fillPool 0 = .ok (.iconst 0, 1) := by decide +kernel
theorem dX5_fillPool_1 : decode cX5_fillPool 1 = .ok (.istore_n 2, 1) := by decide +kernel
theorem dX5_fillPool_2 : decode cX5_fillPool 2 = .ok (.iload_n 2, 1) := by decide +kernel
theorem dX5_fillPool_3 : decode cX5_fillPool 3 = .ok (.aload_n 1, 1) := by decide +kernel
theorem dX5_fillPool_4 : decode cX5_fillPool 4 = .ok (.getfield 74, 3) := by decide +kernel
theorem dX5_fillPool_7 : decode cX5_fillPool 7 = .ok (.if_icmp .ge 56, 3) := by decide +kernel
theorem dX5_fillPool_63 : decode cX5_fillPool 63 = .ok (.return_, 1) := by decide +kernel
theorem dX5_takeBestOfPool_0 : decode cX5_takeBestOfPool 0 = .ok (.iconst 0, 1) := by decide +kernel
theorem dX5_takeBestOfPool_1 : decode cX5_takeBestOfPool 1 = .ok (.istore_n 1, 1) := by decide +kernel
theorem dX5_takeBestOfPool_2 : decode cX5_takeBestOfPool 2 = .ok (.aload_n 0, 1) := by decide +kernel
theorem dX5_takeBestOfPool_3 : decode cX5_takeBestOfPool 3 = .ok (.getfield 46, 3) := by decide +kernel
theorem dX5_takeBestOfPool_6 : decode cX5_takeBestOfPool 6 = .ok (.istore_n 2, 1) := by decide +kernel
theorem dX5_takeBestOfPool_7 : decode cX5_takeBestOfPool 7 = .ok (.aload_n 0, 1) := by decide +kernel
theorem dX5_takeBestOfPool_8 : decode cX5_takeBestOfPool 8 = .ok (.getfield 31, 3) := by decide +kernel
theorem dX5_takeBestOfPool_11 : decode cX5_takeBestOfPool 11 = .ok (.iconst 1, 1) := by decide +kernel
theorem dX5_takeBestOfPool_12 : decode cX5_takeBestOfPool 12 = .ok (.isub, 1) := by decide +kernel
theorem dX5_takeBestOfPool_13 : decode cX5_takeBestOfPool 13 = .ok (.istore_n 3, 1) := by decide +kernel
theorem dX5_takeBestOfPool_14 : decode cX5_takeBestOfPool 14 = .ok (.iload_n 3, 1) := by decide +kernel
theorem dX5_takeBestOfPool_15 : decode cX5_takeBestOfPool 15 = .ok (.ifCond .lt 45, 3) := by decide +kernel
theorem dX5_takeBestOfPool_60 : decode cX5_takeBestOfPool 60 = .ok (.iconst 0, 1) := by decide +kernel
theorem dX5_takeBestOfPool_61 : decode cX5_takeBestOfPool 61 = .ok (.istore_n 3, 1) := by decide +kernel
theorem dX5_takeBestOfPool_62 : decode cX5_takeBestOfPool 62 = .ok (.iload_n 3, 1) := by decide +kernel
theorem dX5_takeBestOfPool_63 : decode cX5_takeBestOfPool 63 = .ok (.aload_n 0, 1) := by decide +kernel
theorem dX5_takeBestOfPool_64 : decode cX5_takeBestOfPool 64 = .ok (.getfield 31, 3) := by decide +kernel
theorem dX5_takeBestOfPool_67 : decode cX5_takeBestOfPool 67 = .ok (.if_icmp .ge 28, 3) := by decide +kernel
theorem dX5_takeBestOfPool_95 : decode cX5_takeBestOfPool 95 = .ok (.return_, 1) := by decide +kernel
theorem dX8_isBelow_0 : decode cX8_isBelow 0 = .ok (.iload_n 0, 1) := by decide +kernel
theorem dX8_isBelow_1 : decode cX8_isBelow 1 = .ok (.ifCond .lt 12, 3) := by decide +kernel
theorem dX8_isBelow_4 : decode cX8_isBelow 4 = .ok (.iload_n 0, 1) := by decide +kernel
theorem dX8_isBelow_5 : decode cX8_isBelow 5 = .ok (.iload_n 1, 1) := by decide +kernel
theorem dX8_isBelow_6 : decode cX8_isBelow 6 = .ok (.if_icmp .ge 7, 3) := by decide +kernel
theorem dX8_isBelow_9 : decode cX8_isBelow 9 = .ok (.iconst 1, 1) := by decide +kernel
theorem dX8_isBelow_10 : decode cX8_isBelow 10 = .ok (.goto 4, 3) := by decide +kernel
theorem dX8_isBelow_13 : decode cX8_isBelow 13 = .ok (.iconst 0, 1) := by decide +kernel
theorem dX8_isBelow_14 : decode cX8_isBelow 14 = .ok (.ireturn, 1) := by decide +kernel
set_option maxRecDepth 20000 in
theorem ggX8_alarmAt_X8_isBelow : GoodIn wsX8_alarmAt wsX8_isBelow := goodIn_r _ [6] (by decide +kernel) (by decide +kernel)
set_option maxRecDepth 20000 in
theorem gX8_alarmAt_X8_isBelow : GoodIn wsX8_alarmAt (va_wsS RX8 64 yX8_isBelow wsX8_isBelow) := goodIn_app (goodIn_of _ (by decide +kernel)) ggX8_alarmAt_X8_isBelow
theorem dX8_alarmAt_0 : decode cX8_alarmAt 0 = .ok (.iload_n 1, 1) := by decide +kernel
theorem dX8_alarmAt_1 : decode cX8_alarmAt 1 = .ok (.aload_n 0, 1) := by decide +kernel
theorem dX8_alarmAt_2 : decode cX8_alarmAt 2 = .ok (.getfield 79, 3) := by decide +kernel
theorem dX8_alarmAt_5 : decode cX8_alarmAt 5 = .ok (.invokestatic 64, 3) := by decide +kernel
theorem dX8_alarmAt_8 : decode cX8_alarmAt 8 = .ok (.ifCond .eq 12, 3) := by decide +kernel
theorem dX8_alarmAt_20 : decode cX8_alarmAt 20 = .ok (.aconst_null, 1) := by decide +kernel
theorem dX8_alarmAt_21 : decode cX8_alarmAt 21 = .ok (.areturn, 1) := by decide +kernel
theorem dX8_alarmToRepeat_0 : decode cX8_alarmToRepeat 0 = .ok (.aload_n 0, 1) := by decide +kernel
theorem dX8_alarmToRepeat_1 : decode cX8_alarmToRepeat 1 = .ok (.getfield 79, 3) := by decide +kernel
theorem dX8_alarmToRepeat_4 : decode cX8_alarmToRepeat 4 = .ok (.iconst 1, 1) := by decide +kernel
theorem dX8_alarmToRepeat_5 : decode cX8_alarmToRepeat 5 = .ok (.isub, 1) := by decide +kernel
theorem dX8_alarmToRepeat_6 : decode cX8_alarmToRepeat 6 = .ok (.istore 4, 2) := by decide +kernel
theorem dX8_alarmToRepeat_8 : decode cX8_alarmToRepeat 8 = .ok (.iload 4, 2) := by decide +kernel
theorem dX8_alarmToRepeat_10 : decode cX8_alarmToRepeat 10 = .ok (.ifCond .lt 71, 3) := by decide +kernel
theorem dX8_alarmToRepeat_81 : decode cX8_alarmToRepeat 81 = .ok (.aconst_null, 1) := by decide +kernel
theorem dX8_alarmToRepeat_82 : decode cX8_alarmToRepeat 82 = .ok (.areturn, 1) := by decide +kernel
theorem dX8_isSilencedNow_0 : decode cX8_isSilencedNow 0 = .ok (.iconst 0, 1) := by decide +kernel
theorem dX8_isSilencedNow_1 : decode cX8_isSilencedNow 1 = .ok (.istore_n 2, 1) := by decide +kernel
theorem dX8_isSilencedNow_2 : decode cX8_isSilencedNow 2 = .ok (.iload_n 2, 1) := by decide +kernel
theorem dX8_isSilencedNow_3 : decode cX8_isSilencedNow 3 = .ok (.aload_n 0, 1) := by decide +kernel
theorem dX8_isSilencedNow_4 : decode cX8_isSilencedNow 4 = .ok (.getfield 116, 3) := by decide +kernel
theorem dX8_isSilencedNow_7 : decode cX8_isSilencedNow 7 = .ok (.if_icmp .ge 28, 3) := by decide +kernel
theorem dX8_isSilencedNow_35 : decode cX8_isSilencedNow 35 = .ok (.iconst 0, 1) := by decide +kernel
theorem dX8_isSilencedNow_36 : decode cX8_isSilencedNow 36 = .ok (.ireturn, 1) := by decide +kernel
theorem dX8_isCapFullNow_0 : decode cX8_isCapFullNow 0 = .ok (.iconst 0, 1) := by decide +kernel
theorem dX8_isCapFullNow_1 : decode cX8_isCapFullNow 1 = .ok (.istore_n 2, 1) := by decide +kernel
theorem dX8_isCapFullNow_2 : decode cX8_isCapFullNow 2 = .ok (.aload_n 0, 1) := by decide +kernel
theorem dX8_isCapFullNow_3 : decode cX8_isCapFullNow 3 = .ok (.getfield 79, 3) := by decide +kernel
theorem dX8_isCapFullNow_6 : decode cX8_isCapFullNow 6 = .ok (.iconst 1, 1) := by decide +kernel
theorem dX8_isCapFullNow_7 : decode cX8_isCapFullNow 7 = .ok (.isub, 1) := by decide +kernel
theorem dX8_isCapFullNow_8 : decode cX8_isCapFullNow 8 = .ok (.istore_n 3, 1) := by decide +kernel
theorem dX8_isCapFullNow_9 : decode cX8_isCapFullNow 9 = .ok (.iload_n 3, 1) := by decide +kernel
theorem dX8_isCapFullNow_10 : decode cX8_isCapFullNow 10 = .ok (.ifCond .lt 56, 3) := by decide +kernel
theorem dX8_isCapFullNow_66 : decode cX8_isCapFullNow 66 = .ok (.iload_n 2, 1) := by decide +kernel
theorem dX8_isCapFullNow_67 : decode cX8_isCapFullNow 67 = .ok (.aload_n 0, 1) := by decide +kernel
theorem dX8_isCapFullNow_68 : decode cX8_isCapFullNow 68 = .ok (.getfield 54, 3) := by decide +kernel
theorem dX8_isCapFullNow_71 : decode cX8_isCapFullNow 71 = .ok (.if_icmp .lt 7, 3) := by decide +kernel
theorem dX8_isCapFullNow_78 : decode cX8_isCapFullNow 78 = .ok (.iconst 0, 1) := by decide +kernel
theorem dX8_isCapFullNow_79 : decode cX8_isCapFullNow 79 = .ok (.ireturn, 1) := by decide +kernel
theorem dX8_casesNow_0 : decode cX8_casesNow 0 = .ok (.aload_n 0, 1) := by decide +kernel
theorem dX8_casesNow_1 : decode cX8_casesNow 1 = .ok (.getfield 113, 3) := by decide +kernel
theorem dX8_casesNow_4 : decode cX8_casesNow 4 = .ok (.ifCond .eq 31, 3) := by decide +kernel
theorem dX8_casesNow_35 : decode cX8_casesNow 35 = .ok (.aload_n 0, 1) := by decide +kernel
theorem dX8_casesNow_36 : decode cX8_casesNow 36 = .ok (.getfield 43, 3) := by decide +kernel
theorem dX8_casesNow_39 : decode cX8_casesNow 39 = .ok (.areturn, 1) := by decide +kernel
theorem dX9_isIn_0 : decode cX9_isIn 0 = .ok (.iload_n 0, 1) := by decide +kernel
theorem dX9_isIn_1 : decode cX9_isIn 1 = .ok (.iload_n 1, 1) := by decide +kernel
theorem dX9_isIn_2 : decode cX9_isIn 2 = .ok (.if_icmp .lt 12, 3) := by decide +kernel
theorem dX9_isIn_5 : decode cX9_isIn 5 = .ok (.iload_n 0, 1) := by decide +kernel
theorem dX9_isIn_6 : decode cX9_isIn 6 = .ok (.iload_n 2, 1) := by decide +kernel
theorem dX9_isIn_7 : decode cX9_isIn 7 = .ok (.if_icmp .gt 7, 3) := by decide +kernel
theorem dX9_isIn_10 : decode cX9_isIn 10 = .ok (.iconst 1, 1) := by decide +kernel
theorem dX9_isIn_11 : decode cX9_isIn 11 = .ok (.goto 4, 3) := by decide +kernel
theorem dX9_isIn_14 : decode cX9_isIn 14 = .ok (.iconst 0, 1) := by decide +kernel
theorem dX9_isIn_15 : decode cX9_isIn 15 = .ok (.ireturn, 1) := by decide +kernel
set_option maxRecDepth 20000 in
theorem ggX9_isAlarm_X9_isIn : GoodIn wsX9_isAlarm wsX9_isIn := goodIn_r _ [5] (by decide +kernel) (by decide +kernel)
set_option maxRecDepth 20000 in
theorem gX9_isAlarm_X9_isIn : GoodIn wsX9_isAlarm (va_wsS RX9 96 yX9_isIn wsX9_isIn) := goodIn_app (goodIn_of _ (by decide +kernel)) ggX9_isAlarm_X9_isIn
theorem dX9_isAlarm_0 : decode cX9_isAlarm 0 = .ok (.iload_n 1, 1) := by decide +kernel
theorem dX9_isAlarm_1 : decode cX9_isAlarm 1 = .ok (.iconst 0, 1) := by decide +kernel
theorem dX9_isAlarm_2 : decode cX9_isAlarm 2 = .ok (.aload_n 0, 1) := by decide +kernel
theorem dX9_isAlarm_3 : decode cX9_isAlarm 3 = .ok (.getfield 93, 3) := by decide +kernel
theorem dX9_isAlarm_6 : decode cX9_isAlarm 6 = .ok (.iconst 1, 1) := by decide +kernel
theorem dX9_isAlarm_7 : decode cX9_isAlarm 7 = .ok (.isub, 1) := by decide +kernel
theorem dX9_isAlarm_8 : decode cX9_isAlarm 8 = .ok (.invokestatic 96, 3) := by decide +kernel
theorem dX9_isAlarm_11 : decode cX9_isAlarm 11 = .ok (.ireturn, 1) := by decide +kernel
set_option maxRecDepth 20000 in
theorem ggX9_isPlan_X9_isIn : GoodIn wsX9_isPlan wsX9_isIn := goodIn_r _ [4] (by decide +kernel) (by decide +kernel)
set_option maxRecDepth 20000 in
theorem gX9_isPlan_X9_isIn : GoodIn wsX9_isPlan (va_wsS RX9 96 yX9_isIn wsX9_isIn) := goodIn_app (goodIn_of _ (by decide +kernel)) ggX9_isPlan_X9_isIn
theorem dX9_isPlan_0 : decode cX9_isPlan 0 = .ok (.iload_n 0, 1) := by decide +kernel
theorem dX9_isPlan_1 : decode cX9_isPlan 1 = .ok (.iconst 0, 1) := by decide +kernel
theorem dX9_isPlan_2 : decode cX9_isPlan 2 = .ok (.sipush 300, 3) := by decide +kernel
theorem dX9_isPlan_5 : decode cX9_isPlan 5 = .ok (.invokestatic 96, 3) := by decide +kernel
theorem dX9_isPlan_8 : decode cX9_isPlan 8 = .ok (.ireturn, 1) := by decide +kernel
end
section
set_option maxHeartbeats 4000000 in
set_option maxRecDepth 100000 in
theorem k_X8_isBelow (l : Launch) (D : va_G) (v : Int32) (w : Int32) : Met l yX8_isBelow wsX8_isBelow ({ frames := 0, cells := 0, slots := 0, locals := 0 }) (va_Pc [.int v, .int w] (wo D [] [])) (vp_Si (fun r => ((0 ≤ (v).toInt ∧ (v).toInt < (w).toInt) ∧ r = 1) ∨ (((v).toInt < 0 ∨ (w).toInt ≤ (v).toInt) ∧ r = 0))) 0 0 (fun _ => False) := by
  refine Met.ofW (cc := cX8_isBelow) (maxL := 2) (ret := (some .boolean)) (by decide) rfl ?_
  intro p e s m args below meth c s₁ B hml hv
  obtain ⟨rfl, hP, hK, hD, hN⟩ := hv
  have hx := B.exec
  have hb := B.bytes
  have hr := B.returns
  have hts := atoms_spec (ws := wsX8_isBelow) B.pre
  have hown : s.vm.findClass RX8 = some m.cls := findClass_of_methodNamed B.named
  have hlocks := B.notSynchronized
  have hl := lv_entry ([.int v, .int w]) (n := 2) (Nat.le_of_ble_eq_true rfl)
  rw [lg_entry_eq]
  generalize (lg_sl ([.int v, .int w]) ++ List.replicate (2 - (lg_sl ([.int v, .int w])).length) Slot.unset).toArray = ls at hl ⊢
  have hl : lv_has ls 2 [(0, .int v), (1, .int w)] := hl
  refine lv_iload_n hx hb dX8_isBelow_0 rfl (lv_at hl 0 rfl) ?_
  refine bz_lt (zx := (v).toInt) (tgt := 13) hx hb dX8_isBelow_1 (by decide) rfl (fun c_1 => ?_) (fun c_1 => ?_)
  · refine lv_iconst (v := 0) hx hb dX8_isBelow_13 (by decide) ?_
    exact W.zret (v := 0) hx hb hr rfl (fun t ht hW => ⟨0, rfl, Or.inr ⟨by omega, rfl⟩, ht⟩) (fun q h => by cases h) dX8_isBelow_14
  · refine lv_iload_n hx hb dX8_isBelow_4 rfl (lv_at hl 0 rfl) ?_
    refine lv_iload_n hx hb dX8_isBelow_5 rfl (lv_at hl 1 rfl) ?_
    refine bi_ge (zx := (v).toInt) (zy := (w).toInt) (tgt := 13) hx hb dX8_isBelow_6 (by decide) rfl rfl (fun c_2 => ?_) (fun c_2 => ?_)
    · refine lv_iconst (v := 0) hx hb dX8_isBelow_13 (by decide) ?_
      exact W.zret (v := 0) hx hb hr rfl (fun t ht hW => ⟨0, rfl, Or.inr ⟨by omega, rfl⟩, ht⟩) (fun q h => by cases h) dX8_isBelow_14
    · refine lv_iconst (v := 1) hx hb dX8_isBelow_9 (by decide) ?_
      refine lv_goto (tgt := 14) hx hb dX8_isBelow_10 (by decide) ?_
      exact W.zret (v := 1) hx hb hr rfl (fun t ht hW => ⟨1, rfl, Or.inl ⟨by omega, rfl⟩, ht⟩) (fun q h => by cases h) dX8_isBelow_14

set_option maxHeartbeats 4000000 in
set_option maxRecDepth 100000 in
theorem k_X9_isIn (l : Launch) (D : va_G) (v : Int32) (lo : Int32) (hi : Int32) : Met l yX9_isIn wsX9_isIn ({ frames := 0, cells := 0, slots := 0, locals := 0 }) (va_Pc [.int v, .int lo, .int hi] (wo D [] [])) (vp_Si (fun r => (((lo).toInt ≤ (v).toInt ∧ (v).toInt ≤ (hi).toInt) ∧ r = 1) ∨ (((v).toInt < (lo).toInt ∨ (hi).toInt < (v).toInt) ∧ r = 0))) 0 0 (fun _ => False) := by
  refine Met.ofW (cc := cX9_isIn) (maxL := 3) (ret := (some .boolean)) (by decide) rfl ?_
  intro p e s m args below meth c s₁ B hml hv
  obtain ⟨rfl, hP, hK, hD, hN⟩ := hv
  have hx := B.exec
  have hb := B.bytes
  have hr := B.returns
  have hts := atoms_spec (ws := wsX9_isIn) B.pre
  have hown : s.vm.findClass RX9 = some m.cls := findClass_of_methodNamed B.named
  have hlocks := B.notSynchronized
  have hl := lv_entry ([.int v, .int lo, .int hi]) (n := 3) (Nat.le_of_ble_eq_true rfl)
  rw [lg_entry_eq]
  generalize (lg_sl ([.int v, .int lo, .int hi]) ++ List.replicate (3 - (lg_sl ([.int v, .int lo, .int hi])).length) Slot.unset).toArray = ls at hl ⊢
  have hl : lv_has ls 3 [(0, .int v), (1, .int lo), (2, .int hi)] := hl
  refine lv_iload_n hx hb dX9_isIn_0 rfl (lv_at hl 0 rfl) ?_
  refine lv_iload_n hx hb dX9_isIn_1 rfl (lv_at hl 1 rfl) ?_
  refine bi_lt (zx := (v).toInt) (zy := (lo).toInt) (tgt := 14) hx hb dX9_isIn_2 (by decide) rfl rfl (fun c_1 => ?_) (fun c_1 => ?_)
  · refine lv_iconst (v := 0) hx hb dX9_isIn_14 (by decide) ?_
    exact W.zret (v := 0) hx hb hr rfl (fun t ht hW => ⟨0, rfl, Or.inr ⟨by omega, rfl⟩, ht⟩) (fun q h => by cases h) dX9_isIn_15
  · refine lv_iload_n hx hb dX9_isIn_5 rfl (lv_at hl 0 rfl) ?_
    refine lv_iload_n hx hb dX9_isIn_6 rfl (lv_at hl 2 rfl) ?_
    refine bi_gt (zx := (v).toInt) (zy := (hi).toInt) (tgt := 14) hx hb dX9_isIn_7 (by decide) rfl rfl (fun c_2 => ?_) (fun c_2 => ?_)
    · refine lv_iconst (v := 0) hx hb dX9_isIn_14 (by decide) ?_
      exact W.zret (v := 0) hx hb hr rfl (fun t ht hW => ⟨0, rfl, Or.inr ⟨by omega, rfl⟩, ht⟩) (fun q h => by cases h) dX9_isIn_15
    · refine lv_iconst (v := 1) hx hb dX9_isIn_10 (by decide) ?_
      refine lv_goto (tgt := 15) hx hb dX9_isIn_11 (by decide) ?_
      exact W.zret (v := 1) hx hb hr rfl (fun t ht hW => ⟨1, rfl, Or.inl ⟨by omega, rfl⟩, ht⟩) (fun q h => by cases h) dX9_isIn_15

set_option maxHeartbeats 4000000 in
set_option maxRecDepth 100000 in
theorem k_X9_isPlan (l : Launch) (D : va_G) (v : Int32) : Met l yX9_isPlan wsX9_isPlan ({ frames := 1, cells := 0, slots := 0, locals := 22 }) (va_Pc [.int v] (wo D [] [])) (vp_Si (fun r => ((0 ≤ (v).toInt ∧ (v).toInt ≤ 300) ∧ r = 1) ∨ (((v).toInt < 0 ∨ 300 < (v).toInt) ∧ r = 0))) 0 0 (fun _ => False) := by
  refine Met.ofW (cc := cX9_isPlan) (maxL := 1) (ret := (some .boolean)) (by decide) rfl ?_
  intro p e s m args below meth c s₁ B hml hv
  obtain ⟨rfl, hP, hK, hD, hN⟩ := hv
  have hx := B.exec
  have hb := B.bytes
  have hr := B.returns
  have hts := atoms_spec (ws := wsX9_isPlan) B.pre
  have hown : s.vm.findClass RX9 = some m.cls := findClass_of_methodNamed B.named
  have hlocks := B.notSynchronized
  have hl := lv_entry ([.int v]) (n := 1) (Nat.le_of_ble_eq_true rfl)
  rw [lg_entry_eq]
  generalize (lg_sl ([.int v]) ++ List.replicate (1 - (lg_sl ([.int v])).length) Slot.unset).toArray = ls at hl ⊢
  have hl : lv_has ls 1 [(0, .int v)] := hl
  refine lv_iload_n hx hb dX9_isPlan_0 rfl (lv_at hl 0 rfl) ?_
  refine lv_iconst (v := 0) hx hb dX9_isPlan_1 (by decide) ?_
  refine lv_sipush (v := 300) hx hb dX9_isPlan_2 (by decide) ?_
  refine vp_callSi (zrS (As := [.int v, .int 0, .int 300]) (rest := []) (wc := []) ⟨hx, hb, hml, hown, hts⟩ hN hK hP hD (k_X9_isIn l D v 0 300 ) (va_cwS 3 hts gX9_isPlan_X9_isIn rfl rfl rfl (by decide +kernel) ⟨(Nat.le_of_ble_eq_true rfl), (Nat.le_of_ble_eq_true rfl)⟩) [] [] rfl rfl (by decide) rfl hl.1 rfl (Nat.le_of_ble_eq_true rfl) dX9_isPlan_5 ⟨(Nat.le_of_ble_eq_true rfl), (Nat.le_of_ble_eq_true rfl)⟩) (fun r_1 h_2 => ?_)
  rcases h_2 with ⟨h_2, rfl⟩ | ⟨h_2, rfl⟩
  · have h_2 : 0 ≤ (v).toInt ∧ (v).toInt ≤ 300 := h_2
    exact W.zret (v := 1) hx hb hr rfl (fun t ht hW => ⟨1, rfl, Or.inl ⟨by omega, rfl⟩, ht⟩) (fun q h => by cases h) dX9_isPlan_8
  · have h_2 : (v).toInt < 0 ∨ 300 < (v).toInt := h_2
    exact W.zret (v := 0) hx hb hr rfl (fun t ht hW => ⟨0, rfl, Or.inr ⟨by omega, rfl⟩, ht⟩) (fun q h => by cases h) dX9_isPlan_8

set_option maxHeartbeats 4000000 in
set_option maxRecDepth 100000 in
theorem k_X3_markAt (l : Launch) (D : va_G) (v : Int32) (w : Int32) : Met l yX3_markAt wsX3_markAt ({ frames := 0, cells := 0, slots := 0, locals := 0 }) (va_Pc [.int v, .int w] (wo D [] [])) (vp_Si (fun r => True)) 0 0 (fun _ => False) := by
  refine Met.ofW (cc := cX3_markAt) (maxL := 2) (ret := (some .int)) (by decide) rfl ?_
  intro p e s m args below meth c s₁ B hml hv
  obtain ⟨rfl, hP, hK, hD, hN⟩ := hv
  have hx := B.exec
  have hb := B.bytes
  have hr := B.returns
  have hts := atoms_spec (ws := wsX3_markAt) B.pre
  have hown : s.vm.findClass RX3 = some m.cls := findClass_of_methodNamed B.named
  have hlocks := B.notSynchronized
  have hl := lv_entry ([.int v, .int w]) (n := 2) (Nat.le_of_ble_eq_true rfl)
  rw [lg_entry_eq]
  generalize (lg_sl ([.int v, .int w]) ++ List.replicate (2 - (lg_sl ([.int v, .int w])).length) Slot.unset).toArray = ls at hl ⊢
  have hl : lv_has ls 2 [(0, .int v), (1, .int w)] := hl
  refine lv_iload_n hx hb dX3_markAt_0 rfl (lv_at hl 0 rfl) ?_
  refine lv_iconst (v := 3) hx hb dX3_markAt_1 (by decide) ?_
  refine lv_iconst (v := 3) hx hb dX3_markAt_2 (by decide) ?_
  refine lv_iload_n hx hb dX3_markAt_3 rfl (lv_at hl 1 rfl) ?_
  refine lv_isub hx hb dX3_markAt_4 ?_
  refine lv_topi (fun z_1 ez_1 => ?_)
  refine lv_imul hx hb dX3_markAt_5 ?_
  refine lv_topi (fun z_2 ez_2 => ?_)
  refine lv_ishr hx hb dX3_markAt_6 ?_
  refine lv_topi (fun z_3 ez_3 => ?_)
  refine lv_bipush (v := 7) hx hb dX3_markAt_7 (by decide) ?_
  refine lv_iand hx hb dX3_markAt_9 ?_
  refine lv_topi (fun z_4 ez_4 => ?_)
  exact W.iret (v := z_4) hx hb hr (fun t ht hW => ⟨z_4, rfl, trivial, ht⟩) (fun q h => by cases h) dX3_markAt_10

set_option maxHeartbeats 4000000 in
set_option maxRecDepth 100000 in
theorem k_X9_isAlarm (l : Launch) (D : va_G) (h0 : Nat) (b1 : Nat) (b2 : Nat) (b3 : Nat) (b4 : Nat) (b5 : Nat) (b6 : Nat) (b7 : Nat) (b8 : Nat) (b9 : Nat) (b10 : Nat) (b11 : Nat) (b12 : Nat) (b13 : Nat) (b14 : Nat) (b15 : Nat) (b16 : Nat) (b17 : Nat) (b18 : Nat) (b19 : Nat) (b20 : Nat) (b21 : Nat) (b22 : Nat) (b23 : Nat) (b24 : Nat) (b25 : Nat) (p0 : Int32) : Met l yX9_isAlarm wsX9_isAlarm ({ frames := 1, cells := 0, slots := 0, locals := 22 }) (va_Pc [.ref h0, .int p0] (wo D [] [(h0, .inr (9, [.int 0, .int 0, .int 0, .int 0, .int 50, .int 3, .int 0, .ref b1, .ref b2, .ref b3, .ref b4, .ref b5, .ref b6, .ref b7, .ref b8, .ref b9, .ref b10, .ref b11, .ref b12, .ref b13, .ref b14, .ref b15, .ref b16, .ref b17, .ref b18, .int 0, .int 0, .int 0, .ref b19, .ref b20, .ref b21, .int 0, .ref b22, .ref b23, .int 0, .ref b24, .ref b25]))])) (vp_Si (fun r => r = 0)) 0 0 (fun _ => False) := by
  refine Met.ofW (cc := cX9_isAlarm) (maxL := 2) (ret := (some .boolean)) (by decide) rfl ?_
  intro p e s m args below meth c s₁ B hml hv
  obtain ⟨rfl, hP, hK, hD, hN⟩ := hv
  have hx := B.exec
  have hb := B.bytes
  have hr := B.returns
  have hts := atoms_spec (ws := wsX9_isAlarm) B.pre
  have hown : s.vm.findClass RX9 = some m.cls := findClass_of_methodNamed B.named
  have hlocks := B.notSynchronized
  have hin_X9 : ∀ w ∈ u_ws RX9 TX9 37, w ∈ wsX9_isAlarm := by decide +kernel
  have hl := lv_entry ([.ref h0, .int p0]) (n := 2) (Nat.le_of_ble_eq_true rfl)
  rw [lg_entry_eq]
  generalize (lg_sl ([.ref h0, .int p0]) ++ List.replicate (2 - (lg_sl ([.ref h0, .int p0])).length) Slot.unset).toArray = ls at hl ⊢
  have hl : lv_has ls 2 [(0, .ref h0), (1, .int p0)] := hl
  refine lv_iload_n hx hb dX9_isAlarm_0 rfl (lv_at hl 1 rfl) ?_
  refine lv_iconst (v := 0) hx hb dX9_isAlarm_1 (by decide) ?_
  refine lv_aload_n hx hb dX9_isAlarm_2 rfl (lv_at hl 0 rfl) ?_
  refine va_get (D := D) (ci := 9) (v := .int 0) (C := RX9) (T := TX9) (N := 37) hx hb hts hin_X9 hown hK hP 0 rfl rfl 1 (by decide) (hts (.fieldLink RX9 93 "CryOrderModel" "alarms" "I") (by decide +kernel)) (fun _ h9 => h9) rfl dX9_isAlarm_3 ?_
  refine lv_iconst (v := 1) hx hb dX9_isAlarm_6 (by decide) ?_
  refine lv_isub hx hb dX9_isAlarm_7 ?_
  refine lv_tope (z := (-1)) (by decide) ?_
  refine vp_callSi (zrS (As := [.int p0, .int 0, .int (-1)]) (rest := []) (wc := []) ⟨hx, hb, hml, hown, hts⟩ hN hK hP hD (k_X9_isIn l D p0 0 ((-1)) ) (va_cwS 3 hts gX9_isAlarm_X9_isIn rfl rfl rfl (by decide +kernel) ⟨(Nat.le_of_ble_eq_true rfl), (Nat.le_of_ble_eq_true rfl)⟩) [] [] rfl rfl (by decide) rfl hl.1 rfl (Nat.le_of_ble_eq_true rfl) dX9_isAlarm_8 ⟨(Nat.le_of_ble_eq_true rfl), (Nat.le_of_ble_eq_true rfl)⟩) (fun r_1 h_2 => ?_)
  rcases h_2 with ⟨h_2, rfl⟩ | ⟨h_2, rfl⟩
  · have h_2 : 0 ≤ (p0).toInt ∧ (p0).toInt ≤ (-1) := h_2
    exfalso; omega
  · have h_2 : (p0).toInt < 0 ∨ (-1) < (p0).toInt := h_2
    exact W.zret (v := 0) hx hb hr rfl (fun t ht hW => ⟨0, rfl, rfl, ht⟩) (fun q h => by cases h) dX9_isAlarm_11

set_option maxHeartbeats 4000000 in
set_option maxRecDepth 100000 in
theorem k_X8_alarmAt (l : Launch) (D : va_G) (h0 : Nat) (a1 : Nat) (a2 : Nat) (a3 : Nat) (a4 : Nat) (a5 : Nat) (a6 : Nat) (a7 : Nat) (p0 : Int32) : Met l yX8_alarmAt wsX8_alarmAt ({ frames := 1, cells := 0, slots := 0, locals := 21 }) (va_Pc [.ref h0, .int p0] (wo D [] [(h0, .inr (8, [.ref a1, .ref a2, .ref a3, .ref a4, .ref a5, .ref a6, .ref a7, .int 0, .int 0, .int 0, .int 50, .int 3, .int 0, .int 0]))])) (va_Sq (fun r => r = none)) 0 0 (fun _ => False) := by
  refine Met.ofW (cc := cX8_alarmAt) (maxL := 2) (ret := (some (.object "CryOrder$Alarm"))) (by decide) rfl ?_
  intro p e s m args below meth c s₁ B hml hv
  obtain ⟨rfl, hP, hK, hD, hN⟩ := hv
  have hx := B.exec
  have hb := B.bytes
  have hr := B.returns
  have hts := atoms_spec (ws := wsX8_alarmAt) B.pre
  have hown : s.vm.findClass RX8 = some m.cls := findClass_of_methodNamed B.named
  have hlocks := B.notSynchronized
  have hin_X8 : ∀ w ∈ u_ws RX8 TX8 14, w ∈ wsX8_alarmAt := by decide +kernel
  have hl := lv_entry ([.ref h0, .int p0]) (n := 2) (Nat.le_of_ble_eq_true rfl)
  rw [lg_entry_eq]
  generalize (lg_sl ([.ref h0, .int p0]) ++ List.replicate (2 - (lg_sl ([.ref h0, .int p0])).length) Slot.unset).toArray = ls at hl ⊢
  have hl : lv_has ls 2 [(0, .ref h0), (1, .int p0)] := hl
  refine lv_iload_n hx hb dX8_alarmAt_0 rfl (lv_at hl 1 rfl) ?_
  refine lv_aload_n hx hb dX8_alarmAt_1 rfl (lv_at hl 0 rfl) ?_
  refine va_get (D := D) (ci := 8) (v := .int 0) (C := RX8) (T := TX8) (N := 14) hx hb hts hin_X8 hown hK hP 0 rfl rfl 7 (by decide) (hts (.fieldLink RX8 79 "CryOrder" "alarmCount" "I") (by decide +kernel)) (fun _ h9 => h9) rfl dX8_alarmAt_2 ?_
  refine vp_callSi (zrS (As := [.int p0, .int 0]) (rest := []) (wc := []) ⟨hx, hb, hml, hown, hts⟩ hN hK hP hD (k_X8_isBelow l D p0 0 ) (va_cwS 2 hts gX8_alarmAt_X8_isBelow rfl rfl rfl (by decide +kernel) ⟨(Nat.le_of_ble_eq_true rfl), (Nat.le_of_ble_eq_true rfl)⟩) [] [] rfl rfl (by decide) rfl hl.1 rfl (Nat.le_of_ble_eq_true rfl) dX8_alarmAt_5 ⟨(Nat.le_of_ble_eq_true rfl), (Nat.le_of_ble_eq_true rfl)⟩) (fun r_1 h_2 => ?_)
  rcases h_2 with ⟨h_2, rfl⟩ | ⟨h_2, rfl⟩
  · have h_2 : 0 ≤ (p0).toInt ∧ (p0).toInt < 0 := h_2
    exfalso; omega
  · have h_2 : (p0).toInt < 0 ∨ 0 ≤ (p0).toInt := h_2
    refine lv_if_eq (tgt := 20) hx hb dX8_alarmAt_8 (by decide) (fun _ => ?_) (fun c_ => absurd c_ (by decide))
    refine lv_null hx hb dX8_alarmAt_20 ?_
    exact W.aret (v := .null) hx hb hr (Or.inl ⟨_, rfl⟩) (Or.inl rfl) (fun t ht hW => ⟨none, rfl, rfl, ht⟩) (fun q h => by cases h) dX8_alarmAt_21

set_option maxHeartbeats 4000000 in
set_option maxRecDepth 100000 in
theorem k_X8_alarmToRepeat (l : Launch) (D : va_G) (h0 : Nat) (a1 : Nat) (a2 : Nat) (a3 : Nat) (a4 : Nat) (a5 : Nat) (a6 : Nat) (a7 : Nat) (p0 : Int32) (p1 : Int32) (p2 : Int32) : Met l yX8_alarmToRepeat wsX8_alarmToRepeat ({ frames := 0, cells := 0, slots := 0, locals := 0 }) (va_Pc [.ref h0, .int p0, .int p1, .int p2] (wo D [] [(h0, .inr (8, [.ref a1, .ref a2, .ref a3, .ref a4, .ref a5, .ref a6, .ref a7, .int 0, .int 0, .int 0, .int 50, .int 3, .int 0, .int 0]))])) (va_Sq (fun r => r = none)) 0 0 (fun _ => False) := by
  refine Met.ofW (cc := cX8_alarmToRepeat) (maxL := 6) (ret := (some (.object "CryOrder$Alarm"))) (by decide) rfl ?_
  intro p e s m args below meth c s₁ B hml hv
  obtain ⟨rfl, hP, hK, hD, hN⟩ := hv
  have hx := B.exec
  have hb := B.bytes
  have hr := B.returns
  have hts := atoms_spec (ws := wsX8_alarmToRepeat) B.pre
  have hown : s.vm.findClass RX8 = some m.cls := findClass_of_methodNamed B.named
  have hlocks := B.notSynchronized
  have hin_X8 : ∀ w ∈ u_ws RX8 TX8 14, w ∈ wsX8_alarmToRepeat := by decide +kernel
  have hl := lv_entry ([.ref h0, .int p0, .int p1, .int p2]) (n := 6) (Nat.le_of_ble_eq_true rfl)
  rw [lg_entry_eq]
  generalize (lg_sl ([.ref h0, .int p0, .int p1, .int p2]) ++ List.replicate (6 - (lg_sl ([.ref h0, .int p0, .int p1, .int p2])).length) Slot.unset).toArray = ls at hl ⊢
  have hl : lv_has ls 6 [(0, .ref h0), (1, .int p0), (2, .int p1), (3, .int p2)] := hl
  refine lv_aload_n hx hb dX8_alarmToRepeat_0 rfl (lv_at hl 0 rfl) ?_
  refine va_get (D := D) (ci := 8) (v := .int 0) (C := RX8) (T := TX8) (N := 14) hx hb hts hin_X8 hown hK hP 0 rfl rfl 7 (by decide) (hts (.fieldLink RX8 79 "CryOrder" "alarmCount" "I") (by decide +kernel)) (fun _ h9 => h9) rfl dX8_alarmToRepeat_1 ?_
  refine lv_iconst (v := 1) hx hb dX8_alarmToRepeat_4 (by decide) ?_
  refine lv_isub hx hb dX8_alarmToRepeat_5 ?_
  refine lv_tope (z := (-1)) (by decide) ?_
  refine lv_istore (lv' := [(4, .int (-1)), (0, .ref h0), (1, .int p0), (2, .int p1), (3, .int p2)]) hx hb dX8_alarmToRepeat_6 hl (by decide) rfl (fun ls hl => ?_)
  refine lv_iload hx hb dX8_alarmToRepeat_8 (lv_at hl 0 rfl) ?_
  refine lv_if_lt (tgt := 81) hx hb dX8_alarmToRepeat_10 (by decide) (fun _ => ?_) (fun c_ => absurd c_ (by decide))
  refine lv_null hx hb dX8_alarmToRepeat_81 ?_
  exact W.aret (v := .null) hx hb hr (Or.inl ⟨_, rfl⟩) (Or.inl rfl) (fun t ht hW => ⟨none, rfl, rfl, ht⟩) (fun q h => by cases h) dX8_alarmToRepeat_82

set_option maxHeartbeats 4000000 in
set_option maxRecDepth 100000 in
theorem k_X8_isSilencedNow (l : Launch) (D : va_G) (h0 : Nat) (a1 : Nat) (a2 : Nat) (a3 : Nat) (a4 : Nat) (a5 : Nat) (a6 : Nat) (a7 : Nat) (p0 : Int32) : Met l yX8_isSilencedNow wsX8_isSilencedNow ({ frames := 0, cells := 0, slots := 0, locals := 0 }) (va_Pc [.ref h0, .int p0] (wo D [] [(h0, .inr (8, [.ref a1, .ref a2, .ref a3, .ref a4, .ref a5, .ref a6, .ref a7, .int 0, .int 0, .int 0, .int 50, .int 3, .int 0, .int 0]))])) (vp_Si (fun r => r = 0)) 0 0 (fun _ => False) := by
  refine Met.ofW (cc := cX8_isSilencedNow) (maxL := 3) (ret := (some .boolean)) (by decide) rfl ?_
  intro p e s m args below meth c s₁ B hml hv
  obtain ⟨rfl, hP, hK, hD, hN⟩ := hv
  have hx := B.exec
  have hb := B.bytes
  have hr := B.returns
  have hts := atoms_spec (ws := wsX8_isSilencedNow) B.pre
  have hown : s.vm.findClass RX8 = some m.cls := findClass_of_methodNamed B.named
  have hlocks := B.notSynchronized
  have hin_X8 : ∀ w ∈ u_ws RX8 TX8 14, w ∈ wsX8_isSilencedNow := by decide +kernel
  have hl := lv_entry ([.ref h0, .int p0]) (n := 3) (Nat.le_of_ble_eq_true rfl)
  rw [lg_entry_eq]
  generalize (lg_sl ([.ref h0, .int p0]) ++ List.replicate (3 - (lg_sl ([.ref h0, .int p0])).length) Slot.unset).toArray = ls at hl ⊢
  have hl : lv_has ls 3 [(0, .ref h0), (1, .int p0)] := hl
  refine lv_iconst (v := 0) hx hb dX8_isSilencedNow_0 (by decide) ?_
  refine lv_istore_n (lv' := [(2, .int 0), (0, .ref h0), (1, .int p0)]) hx hb dX8_isSilencedNow_1 rfl hl (by decide) rfl (fun ls hl => ?_)
  refine lv_iload_n hx hb dX8_isSilencedNow_2 rfl (lv_at hl 0 rfl) ?_
  refine lv_aload_n hx hb dX8_isSilencedNow_3 rfl (lv_at hl 1 rfl) ?_
  refine va_get (D := D) (ci := 8) (v := .int 0) (C := RX8) (T := TX8) (N := 14) hx hb hts hin_X8 hown hK hP 0 rfl rfl 8 (by decide) (hts (.fieldLink RX8 116 "CryOrder" "silenceCount" "I") (by decide +kernel)) (fun _ h9 => h9) rfl dX8_isSilencedNow_4 ?_
  refine lv_icmp_ge (tgt := 35) hx hb dX8_isSilencedNow_7 (by decide) (fun _ => ?_) (fun c_ => absurd c_ (by decide))
  refine lv_iconst (v := 0) hx hb dX8_isSilencedNow_35 (by decide) ?_
  exact W.zret (v := 0) hx hb hr rfl (fun t ht hW => ⟨0, rfl, rfl, ht⟩) (fun q h => by cases h) dX8_isSilencedNow_36

set_option maxHeartbeats 4000000 in
set_option maxRecDepth 100000 in
theorem k_X8_isCapFullNow (l : Launch) (D : va_G) (h0 : Nat) (a1 : Nat) (a2 : Nat) (a3 : Nat) (a4 : Nat) (a5 : Nat) (a6 : Nat) (a7 : Nat) (p0 : Int32) : Met l yX8_isCapFullNow wsX8_isCapFullNow ({ frames := 0, cells := 0, slots := 0, locals := 0 }) (va_Pc [.ref h0, .int p0] (wo D [] [(h0, .inr (8, [.ref a1, .ref a2, .ref a3, .ref a4, .ref a5, .ref a6, .ref a7, .int 0, .int 0, .int 0, .int 50, .int 3, .int 0, .int 0]))])) (vp_Si (fun r => r = 0)) 0 0 (fun _ => False) := by
  refine Met.ofW (cc := cX8_isCapFullNow) (maxL := 4) (ret := (some .boolean)) (by decide) rfl ?_
  intro p e s m args below meth c s₁ B hml hv
  obtain ⟨rfl, hP, hK, hD, hN⟩ := hv
  have hx := B.exec
  have hb := B.bytes
  have hr := B.returns
  have hts := atoms_spec (ws := wsX8_isCapFullNow) B.pre
  have hown : s.vm.findClass RX8 = some m.cls := findClass_of_methodNamed B.named
  have hlocks := B.notSynchronized
  have hin_X8 : ∀ w ∈ u_ws RX8 TX8 14, w ∈ wsX8_isCapFullNow := by decide +kernel
  have hl := lv_entry ([.ref h0, .int p0]) (n := 4) (Nat.le_of_ble_eq_true rfl)
  rw [lg_entry_eq]
  generalize (lg_sl ([.ref h0, .int p0]) ++ List.replicate (4 - (lg_sl ([.ref h0, .int p0])).length) Slot.unset).toArray = ls at hl ⊢
  have hl : lv_has ls 4 [(0, .ref h0), (1, .int p0)] := hl
  refine lv_iconst (v := 0) hx hb dX8_isCapFullNow_0 (by decide) ?_
  refine lv_istore_n (lv' := [(2, .int 0), (0, .ref h0), (1, .int p0)]) hx hb dX8_isCapFullNow_1 rfl hl (by decide) rfl (fun ls hl => ?_)
  refine lv_aload_n hx hb dX8_isCapFullNow_2 rfl (lv_at hl 1 rfl) ?_
  refine va_get (D := D) (ci := 8) (v := .int 0) (C := RX8) (T := TX8) (N := 14) hx hb hts hin_X8 hown hK hP 0 rfl rfl 7 (by decide) (hts (.fieldLink RX8 79 "CryOrder" "alarmCount" "I") (by decide +kernel)) (fun _ h9 => h9) rfl dX8_isCapFullNow_3 ?_
  refine lv_iconst (v := 1) hx hb dX8_isCapFullNow_6 (by decide) ?_
  refine lv_isub hx hb dX8_isCapFullNow_7 ?_
  refine lv_tope (z := (-1)) (by decide) ?_
  refine lv_istore_n (lv' := [(3, .int (-1)), (2, .int 0), (0, .ref h0), (1, .int p0)]) hx hb dX8_isCapFullNow_8 rfl hl (by decide) rfl (fun ls hl => ?_)
  refine lv_iload_n hx hb dX8_isCapFullNow_9 rfl (lv_at hl 0 rfl) ?_
  refine lv_if_lt (tgt := 66) hx hb dX8_isCapFullNow_10 (by decide) (fun _ => ?_) (fun c_ => absurd c_ (by decide))
  refine lv_iload_n hx hb dX8_isCapFullNow_66 rfl (lv_at hl 1 rfl) ?_
  refine lv_aload_n hx hb dX8_isCapFullNow_67 rfl (lv_at hl 2 rfl) ?_
  refine va_get (D := D) (ci := 8) (v := .int 50) (C := RX8) (T := TX8) (N := 14) hx hb hts hin_X8 hown hK hP 0 rfl rfl 10 (by decide) (hts (.fieldLink RX8 54 "CryOrder" "cap" "I") (by decide +kernel)) (fun _ h9 => h9) rfl dX8_isCapFullNow_68 ?_
  refine lv_icmp_lt (tgt := 78) hx hb dX8_isCapFullNow_71 (by decide) (fun _ => ?_) (fun c_ => absurd c_ (by decide))
  refine lv_iconst (v := 0) hx hb dX8_isCapFullNow_78 (by decide) ?_
  exact W.zret (v := 0) hx hb hr rfl (fun t ht hW => ⟨0, rfl, rfl, ht⟩) (fun q h => by cases h) dX8_isCapFullNow_79

set_option maxHeartbeats 4000000 in
set_option maxRecDepth 100000 in
theorem k_X8_casesNow (l : Launch) (D : va_G) (h0 : Nat) (a1 : Nat) (a2 : Nat) (a3 : Nat) (a4 : Nat) (a5 : Nat) (a6 : Nat) (a7 : Nat) : Met l yX8_casesNow wsX8_casesNow ({ frames := 0, cells := 0, slots := 0, locals := 0 }) (va_Pc [.ref h0] (wo D [] [(h0, .inr (8, [.ref a1, .ref a2, .ref a3, .ref a4, .ref a5, .ref a6, .ref a7, .int 0, .int 0, .int 0, .int 50, .int 3, .int 0, .int 0]))])) (va_Sq (fun r => r = some a6)) 0 0 (fun _ => False) := by
  refine Met.ofW (cc := cX8_casesNow) (maxL := 1) (ret := (some (.object "CryOrder$Cases"))) (by decide) rfl ?_
  intro p e s m args below meth c s₁ B hml hv
  obtain ⟨rfl, hP, hK, hD, hN⟩ := hv
  have hx := B.exec
  have hb := B.bytes
  have hr := B.returns
  have hts := atoms_spec (ws := wsX8_casesNow) B.pre
  have hown : s.vm.findClass RX8 = some m.cls := findClass_of_methodNamed B.named
  have hlocks := B.notSynchronized
  have hin_X8 : ∀ w ∈ u_ws RX8 TX8 14, w ∈ wsX8_casesNow := by decide +kernel
  have hl := lv_entry ([.ref h0]) (n := 1) (Nat.le_of_ble_eq_true rfl)
  rw [lg_entry_eq]
  generalize (lg_sl ([.ref h0]) ++ List.replicate (1 - (lg_sl ([.ref h0])).length) Slot.unset).toArray = ls at hl ⊢
  have hl : lv_has ls 1 [(0, .ref h0)] := hl
  refine lv_aload_n hx hb dX8_casesNow_0 rfl (lv_at hl 0 rfl) ?_
  refine va_get (D := D) (ci := 8) (v := .int 0) (C := RX8) (T := TX8) (N := 14) hx hb hts hin_X8 hown hK hP 0 rfl rfl 13 (by decide) (hts (.fieldLink RX8 113 "CryOrder" "casesAreStale" "Z") (by decide +kernel)) (fun _ h9 => h9) rfl dX8_casesNow_1 ?_
  refine lv_if_eq (tgt := 35) hx hb dX8_casesNow_4 (by decide) (fun _ => ?_) (fun c_ => absurd c_ (by decide))
  refine lv_aload_n hx hb dX8_casesNow_35 rfl (lv_at hl 0 rfl) ?_
  refine va_get (D := D) (ci := 8) (v := .ref a6) (C := RX8) (T := TX8) (N := 14) hx hb hts hin_X8 hown hK hP 0 rfl rfl 5 (by decide) (hts (.fieldLink RX8 43 "CryOrder" "cases" "LCryOrder$Cases;") (by decide +kernel)) (fun _ h9 => h9) rfl dX8_casesNow_36 ?_
  exact W.aret (v := .ref a6) hx hb hr (Or.inl ⟨_, rfl⟩) (Or.inr ⟨_, rfl⟩) (fun t ht hW => ⟨some a6, rfl, rfl, ht⟩) (fun q h => by cases h) dX8_casesNow_39

set_option maxHeartbeats 4000000 in
set_option maxRecDepth 100000 in
theorem k_X3_child (l : Launch) (D : va_G) (h0 : Nat) (vpar : Value) (vsib : Value) (x1 : Int32) (x2 : Int32) (x5 : Int32) (x6 : Int32) (x7 : Int32) (p0 : Int32) : Met l yX3_child wsX3_child ({ frames := 0, cells := 0, slots := 0, locals := 0 }) (va_Pc [.ref h0, .int p0] (wo D [] [(h0, .inr (3, [vpar, .int x1, .int x2, vsib, .null, .int x5, .int x6, .int x7]))])) (va_Sq (fun r => r = none)) 0 0 (fun _ => False) := by
  refine Met.ofW (cc := cX3_child) (maxL := 3) (ret := (some (.object "CryOrder$Node"))) (by decide) rfl ?_
  intro p e s m args below meth c s₁ B hml hv
  obtain ⟨rfl, hP, hK, hD, hN⟩ := hv
  have hx := B.exec
  have hb := B.bytes
  have hr := B.returns
  have hts := atoms_spec (ws := wsX3_child) B.pre
  have hown : s.vm.findClass RX3 = some m.cls := findClass_of_methodNamed B.named
  have hlocks := B.notSynchronized
  have hin_X3 : ∀ w ∈ u_ws RX3 TX3 8, w ∈ wsX3_child := by decide +kernel
  have hl := lv_entry ([.ref h0, .int p0]) (n := 3) (Nat.le_of_ble_eq_true rfl)
  rw [lg_entry_eq]
  generalize (lg_sl ([.ref h0, .int p0]) ++ List.replicate (3 - (lg_sl ([.ref h0, .int p0])).length) Slot.unset).toArray = ls at hl ⊢
  have hl : lv_has ls 3 [(0, .ref h0), (1, .int p0)] := hl
  refine lv_aload_n hx hb dX3_child_0 rfl (lv_at hl 0 rfl) ?_
  refine va_get (D := D) (ci := 3) (v := .null) (C := RX3) (T := TX3) (N := 8) hx hb hts hin_X3 hown hK hP 0 rfl rfl 4 (by decide) (hts (.fieldLink RX3 25 "CryOrder$Node" "firstChild" "LCryOrder$Node;") (by decide +kernel)) (fun _ h9 => h9) rfl dX3_child_1 ?_
  refine lv_astore_nN (lv' := [(2, .null), (0, .ref h0), (1, .int p0)]) hx hb dX3_child_4 rfl hl (by decide) rfl (fun ls hl => ?_)
  refine lv_aload_nN hx hb dX3_child_5 rfl (lv_at hl 0 rfl) ?_
  refine lv_ifnullN (tgt := 25) hx hb dX3_child_6 (by decide) ?_
  refine lv_aload_nN hx hb dX3_child_25 rfl (lv_at hl 0 rfl) ?_
  exact W.aret (v := .null) hx hb hr (Or.inl ⟨_, rfl⟩) (Or.inl rfl) (fun t ht hW => ⟨none, rfl, rfl, ht⟩) (fun q h => by cases h) dX3_child_26

set_option maxHeartbeats 4000000 in
set_option maxRecDepth 100000 in
theorem k_X3_find (l : Launch) (D : va_G) (h0 : Nat) (vpar : Value) (vsib : Value) (x1 : Int32) (x2 : Int32) (x5 : Int32) (x6 : Int32) (x7 : Int32) (p0 : Int32) (p1 : Int32) : Met l yX3_find wsX3_find ({ frames := 1, cells := 0, slots := 0, locals := 22 }) (va_Pc [.ref h0, .int p0, .int p1] (wo D [] [(h0, .inr (3, [vpar, .int x1, .int x2, vsib, .null, .int x5, .int x6, .int x7]))])) (va_Sq (fun r => ((p0).toInt ≤ 0 ∧ r = some h0) ∨ (0 < (p0).toInt ∧ r = none))) 0 0 (fun _ => False) := by
  refine Met.ofW (cc := cX3_find) (maxL := 5) (ret := (some (.object "CryOrder$Node"))) (by decide) rfl ?_
  intro p e s m args below meth c s₁ B hml hv
  obtain ⟨rfl, hP, hK, hD, hN⟩ := hv
  have hx := B.exec
  have hb := B.bytes
  have hr := B.returns
  have hts := atoms_spec (ws := wsX3_find) B.pre
  have hown : s.vm.findClass RX3 = some m.cls := findClass_of_methodNamed B.named
  have hlocks := B.notSynchronized
  have hl := lv_entry ([.ref h0, .int p0, .int p1]) (n := 5) (Nat.le_of_ble_eq_true rfl)
  rw [lg_entry_eq]
  generalize (lg_sl ([.ref h0, .int p0, .int p1]) ++ List.replicate (5 - (lg_sl ([.ref h0, .int p0, .int p1])).length) Slot.unset).toArray = ls at hl ⊢
  have hl : lv_has ls 5 [(0, .ref h0), (1, .int p0), (2, .int p1)] := hl
  refine lv_aload_n hx hb dX3_find_0 rfl (lv_at hl 0 rfl) ?_
  refine lv_astore_n (lv' := [(3, .ref h0), (0, .ref h0), (1, .int p0), (2, .int p1)]) hx hb dX3_find_1 rfl hl (by decide) rfl (fun ls hl => ?_)
  refine lv_iconst (v := 0) hx hb dX3_find_2 (by decide) ?_
  refine lv_istore (lv' := [(4, .int 0), (3, .ref h0), (0, .ref h0), (1, .int p0), (2, .int p1)]) hx hb dX3_find_3 hl (by decide) rfl (fun ls hl => ?_)
  refine lv_iload hx hb dX3_find_5 (lv_at hl 0 rfl) ?_
  refine lv_iload_n hx hb dX3_find_7 rfl (lv_at hl 3 rfl) ?_
  refine bi_ge (zx := 0) (zy := (p0).toInt) (tgt := 32) hx hb dX3_find_8 (by decide) (by decide) rfl (fun c_1 => ?_) (fun c_1 => ?_)
  · refine lv_aload_n hx hb dX3_find_32 rfl (lv_at hl 1 rfl) ?_
    exact W.aret (v := .ref h0) hx hb hr (Or.inl ⟨_, rfl⟩) (Or.inr ⟨_, rfl⟩) (fun t ht hW => ⟨some h0, rfl, Or.inl ⟨by omega, rfl⟩, ht⟩) (fun q h => by cases h) dX3_find_33
  · refine lv_aload_n hx hb dX3_find_11 rfl (lv_at hl 1 rfl) ?_
    refine lv_ifnull hx hb dX3_find_12 ?_
    refine lv_aload_n hx hb dX3_find_15 rfl (lv_at hl 1 rfl) ?_
    refine lv_iload_n hx hb dX3_find_16 rfl (lv_at hl 4 rfl) ?_
    refine lv_iload hx hb dX3_find_17 (lv_at hl 0 rfl) ?_
    refine vp_callSi (zrS (As := [.int p1, .int 0]) (rest := [.ref h0]) (wc := []) ⟨hx, hb, hml, hown, hts⟩ hN hK hP hD (k_X3_markAt l D p1 0 ) (va_cwS 2 hts gX3_find_X3_markAt rfl rfl rfl (by decide +kernel) ⟨(Nat.le_of_ble_eq_true rfl), (Nat.le_of_ble_eq_true rfl)⟩) [] [] rfl rfl (by decide) rfl hl.1 rfl (Nat.le_of_ble_eq_true rfl) dX3_find_19 ⟨(Nat.le_of_ble_eq_true rfl), (Nat.le_of_ble_eq_true rfl)⟩) (fun r_2 h_3 => ?_)
    refine va_csq (zrV (As := [.int r_2]) (rest := []) (wc := [(h0, .inr (3, [vpar, .int x1, .int x2, vsib, .null, .int x5, .int x6, .int x7]))]) ⟨hx, hb, hml, hown, hts⟩ hN hK hP hD (k_X3_child l D h0 vpar vsib x1 x2 x5 x6 x7 r_2 ) (cwV 1 hts gX3_find_X3_child rfl rfl rfl (by decide +kernel) ⟨(Nat.le_of_ble_eq_true rfl), (Nat.le_of_ble_eq_true rfl)⟩) [] [0] rfl rfl (by decide) 3 0 rfl rfl rfl hl.1 rfl (Nat.le_of_ble_eq_true rfl) dX3_find_22 ⟨(Nat.le_of_ble_eq_true rfl), (Nat.le_of_ble_eq_true rfl)⟩) (fun r_4 h_5 => ?_)
    subst h_5
    refine lv_topv (z := .null) rfl ?_
    refine lv_astore_nN (lv' := [(3, .null), (4, .int 0), (0, .ref h0), (1, .int p0), (2, .int p1)]) hx hb dX3_find_25 rfl hl (by decide) rfl (fun ls hl => ?_)
    refine lv_iinc (v := 1) (lv' := [(4, .int 1), (3, .null), (0, .ref h0), (1, .int p0), (2, .int p1)]) hx hb dX3_find_26 hl (k := 1) rfl (by decide) (by decide) rfl (fun ls hl => ?_)
    refine lv_goto (tgt := 5) hx hb dX3_find_29 (by decide) ?_
    refine lv_iload hx hb dX3_find_5 (lv_at hl 0 rfl) ?_
    refine lv_iload_n hx hb dX3_find_7 rfl (lv_at hl 3 rfl) ?_
    refine bi_ge (zx := 1) (zy := (p0).toInt) (tgt := 32) hx hb dX3_find_8 (by decide) (by decide) rfl (fun c_6 => ?_) (fun c_6 => ?_)
    · refine lv_aload_nN hx hb dX3_find_32 rfl (lv_at hl 1 rfl) ?_
      exact W.aret (v := .null) hx hb hr (Or.inl ⟨_, rfl⟩) (Or.inl rfl) (fun t ht hW => ⟨none, rfl, Or.inr ⟨by omega, rfl⟩, ht⟩) (fun q h => by cases h) dX3_find_33
    · refine lv_aload_nN hx hb dX3_find_11 rfl (lv_at hl 1 rfl) ?_
      refine lv_ifnullN (tgt := 32) hx hb dX3_find_12 (by decide) ?_
      refine lv_aload_nN hx hb dX3_find_32 rfl (lv_at hl 1 rfl) ?_
      exact W.aret (v := .null) hx hb hr (Or.inl ⟨_, rfl⟩) (Or.inl rfl) (fun t ht hW => ⟨none, rfl, Or.inr ⟨by omega, rfl⟩, ht⟩) (fun q h => by cases h) dX3_find_33

set_option maxHeartbeats 4000000 in
set_option maxRecDepth 100000 in
theorem k_X2_at (l : Launch) (D : va_G) (h0 : Nat) (o1 : Nat) (p0 : Int32) : Met l yX2_at wsX2_at ({ frames := 1, cells := 0, slots := 0, locals := 21 }) (va_Pc [.ref h0, .int p0] (wo D [] [(h0, .inr (2, [.ref o1, .int 0]))])) (va_Sq (fun r => r = none)) 0 0 (fun _ => False) := by
  refine Met.ofW (cc := cX2_at) (maxL := 2) (ret := (some (.object "CryOrder$Case"))) (by decide) rfl ?_
  intro p e s m args below meth c s₁ B hml hv
  obtain ⟨rfl, hP, hK, hD, hN⟩ := hv
  have hx := B.exec
  have hb := B.bytes
  have hr := B.returns
  have hts := atoms_spec (ws := wsX2_at) B.pre
  have hown : s.vm.findClass RX2 = some m.cls := findClass_of_methodNamed B.named
  have hlocks := B.notSynchronized
  have hin_X2 : ∀ w ∈ u_ws RX2 TX2 2, w ∈ wsX2_at := by decide +kernel
  have hl := lv_entry ([.ref h0, .int p0]) (n := 2) (Nat.le_of_ble_eq_true rfl)
  rw [lg_entry_eq]
  generalize (lg_sl ([.ref h0, .int p0]) ++ List.replicate (2 - (lg_sl ([.ref h0, .int p0])).length) Slot.unset).toArray = ls at hl ⊢
  have hl : lv_has ls 2 [(0, .ref h0), (1, .int p0)] := hl
  refine lv_iload_n hx hb dX2_at_0 rfl (lv_at hl 1 rfl) ?_
  refine lv_aload_n hx hb dX2_at_1 rfl (lv_at hl 0 rfl) ?_
  refine va_get (D := D) (ci := 2) (v := .int 0) (C := RX2) (T := TX2) (N := 2) hx hb hts hin_X2 hown hK hP 0 rfl rfl 1 (by decide) (hts (.fieldLink RX2 50 "CryOrder$Cases" "size" "I") (by decide +kernel)) (fun _ h9 => h9) rfl dX2_at_2 ?_
  refine vp_callSi (zrN (As := [.int p0, .int 0]) (rest := []) (wc := []) ⟨hx, hb, hml, hown, hts⟩ hN hK hP hD (k_X8_isBelow l D p0 0 ) ⟨va_cnB 2 hts gX2_at_X8_isBelow_n54 rfl rfl rfl hN.2.2.1 (hts (.initialized RX8) (by decide +kernel)) (by decide +kernel) ⟨(Nat.le_of_ble_eq_true rfl), (Nat.le_of_ble_eq_true rfl)⟩, (hts (.static yX8_isBelow) (by decide +kernel)), trivial⟩ [] [] rfl rfl (by decide) rfl hl.1 rfl (Nat.le_of_ble_eq_true rfl) dX2_at_5 ⟨(Nat.le_of_ble_eq_true rfl), (Nat.le_of_ble_eq_true rfl)⟩) (fun r_1 h_2 => ?_)
  rcases h_2 with ⟨h_2, rfl⟩ | ⟨h_2, rfl⟩
  · have h_2 : 0 ≤ (p0).toInt ∧ (p0).toInt < 0 := h_2
    exfalso; omega
  · have h_2 : (p0).toInt < 0 ∨ 0 ≤ (p0).toInt := h_2
    refine lv_if_eq (tgt := 20) hx hb dX2_at_8 (by decide) (fun _ => ?_) (fun c_ => absurd c_ (by decide))
    refine lv_null hx hb dX2_at_20 ?_
    exact W.aret (v := .null) hx hb hr (Or.inl ⟨_, rfl⟩) (Or.inl rfl) (fun t ht hW => ⟨none, rfl, rfl, ht⟩) (fun q h => by cases h) dX2_at_21

set_option maxHeartbeats 4000000 in
set_option maxRecDepth 100000 in
theorem k_X2_scoreOfAll (l : Launch) (D : va_G) (h0 : Nat) (o1 : Nat) : Met l yX2_scoreOfAll wsX2_scoreOfAll ({ frames := 0, cells := 0, slots := 0, locals := 0 }) (va_Pc [.ref h0] (wo D [] [(h0, .inr (2, [.ref o1, .int 0]))])) (vp_Si (fun r => r = 0)) 0 0 (fun _ => False) := by
  refine Met.ofW (cc := cX2_scoreOfAll) (maxL := 3) (ret := (some .int)) (by decide) rfl ?_
  intro p e s m args below meth c s₁ B hml hv
  obtain ⟨rfl, hP, hK, hD, hN⟩ := hv
  have hx := B.exec
  have hb := B.bytes
  have hr := B.returns
  have hts := atoms_spec (ws := wsX2_scoreOfAll) B.pre
  have hown : s.vm.findClass RX2 = some m.cls := findClass_of_methodNamed B.named
  have hlocks := B.notSynchronized
  have hin_X2 : ∀ w ∈ u_ws RX2 TX2 2, w ∈ wsX2_scoreOfAll := by decide +kernel
  have hl := lv_entry ([.ref h0]) (n := 3) (Nat.le_of_ble_eq_true rfl)
  rw [lg_entry_eq]
  generalize (lg_sl ([.ref h0]) ++ List.replicate (3 - (lg_sl ([.ref h0])).length) Slot.unset).toArray = ls at hl ⊢
  have hl : lv_has ls 3 [(0, .ref h0)] := hl
  refine lv_iconst (v := 0) hx hb dX2_scoreOfAll_0 (by decide) ?_
  refine lv_istore_n (lv' := [(1, .int 0), (0, .ref h0)]) hx hb dX2_scoreOfAll_1 rfl hl (by decide) rfl (fun ls hl => ?_)
  refine lv_iconst (v := 0) hx hb dX2_scoreOfAll_2 (by decide) ?_
  refine lv_istore_n (lv' := [(2, .int 0), (1, .int 0), (0, .ref h0)]) hx hb dX2_scoreOfAll_3 rfl hl (by decide) rfl (fun ls hl => ?_)
  refine lv_iload_n hx hb dX2_scoreOfAll_4 rfl (lv_at hl 0 rfl) ?_
  refine lv_aload_n hx hb dX2_scoreOfAll_5 rfl (lv_at hl 2 rfl) ?_
  refine va_get (D := D) (ci := 2) (v := .int 0) (C := RX2) (T := TX2) (N := 2) hx hb hts hin_X2 hown hK hP 0 rfl rfl 1 (by decide) (hts (.fieldLink RX2 50 "CryOrder$Cases" "size" "I") (by decide +kernel)) (fun _ h9 => h9) rfl dX2_scoreOfAll_6 ?_
  refine lv_icmp_ge (tgt := 30) hx hb dX2_scoreOfAll_9 (by decide) (fun _ => ?_) (fun c_ => absurd c_ (by decide))
  refine lv_iload_n hx hb dX2_scoreOfAll_30 rfl (lv_at hl 1 rfl) ?_
  exact W.iret (v := 0) hx hb hr (fun t ht hW => ⟨0, rfl, rfl, ht⟩) (fun q h => by cases h) dX2_scoreOfAll_31

set_option maxHeartbeats 4000000 in
set_option maxRecDepth 100000 in
theorem k_X5_at (l : Launch) (D : va_G) (h0 : Nat) (t1 : Nat) (t2 : Nat) (t3 : Nat) (t4 : Nat) (ml : Int32) (p0 : Int32) : Met l yX5_at wsX5_at ({ frames := 1, cells := 0, slots := 0, locals := 21 }) (va_Pc [.ref h0, .int p0] (wo D [] [(h0, .inr (5, [.ref t1, .ref t2, .ref t3, .ref t4, .int 0, .int 0, .int 0, .int ml]))])) (va_Sq (fun r => r = none)) 0 0 (fun _ => False) := by
  refine Met.ofW (cc := cX5_at) (maxL := 2) (ret := (some (.object "CryOrder$Case"))) (by decide) rfl ?_
  intro p e s m args below meth c s₁ B hml hv
  obtain ⟨rfl, hP, hK, hD, hN⟩ := hv
  have hx := B.exec
  have hb := B.bytes
  have hr := B.returns
  have hts := atoms_spec (ws := wsX5_at) B.pre
  have hown : s.vm.findClass RX5 = some m.cls := findClass_of_methodNamed B.named
  have hlocks := B.notSynchronized
  have hin_X5 : ∀ w ∈ u_ws RX5 TX5 8, w ∈ wsX5_at := by decide +kernel
  have hl := lv_entry ([.ref h0, .int p0]) (n := 2) (Nat.le_of_ble_eq_true rfl)
  rw [lg_entry_eq]
  generalize (lg_sl ([.ref h0, .int p0]) ++ List.replicate (2 - (lg_sl ([.ref h0, .int p0])).length) Slot.unset).toArray = ls at hl ⊢
  have hl : lv_has ls 2 [(0, .ref h0), (1, .int p0)] := hl
  refine lv_iload_n hx hb dX5_at_0 rfl (lv_at hl 1 rfl) ?_
  refine lv_aload_n hx hb dX5_at_1 rfl (lv_at hl 0 rfl) ?_
  refine va_get (D := D) (ci := 5) (v := .int 0) (C := RX5) (T := TX5) (N := 8) hx hb hts hin_X5 hown hK hP 0 rfl rfl 4 (by decide) (hts (.fieldLink RX5 27 "CryOrder$Plan" "takenCount" "I") (by decide +kernel)) (fun _ h9 => h9) rfl dX5_at_2 ?_
  refine vp_callSi (zrN (As := [.int p0, .int 0]) (rest := []) (wc := []) ⟨hx, hb, hml, hown, hts⟩ hN hK hP hD (k_X8_isBelow l D p0 0 ) ⟨va_cnB 2 hts gX5_at_X8_isBelow_n63 rfl rfl rfl hN.2.2.2.1 (hts (.initialized RX8) (by decide +kernel)) (by decide +kernel) ⟨(Nat.le_of_ble_eq_true rfl), (Nat.le_of_ble_eq_true rfl)⟩, (hts (.static yX8_isBelow) (by decide +kernel)), trivial⟩ [] [] rfl rfl (by decide) rfl hl.1 rfl (Nat.le_of_ble_eq_true rfl) dX5_at_5 ⟨(Nat.le_of_ble_eq_true rfl), (Nat.le_of_ble_eq_true rfl)⟩) (fun r_1 h_2 => ?_)
  rcases h_2 with ⟨h_2, rfl⟩ | ⟨h_2, rfl⟩
  · have h_2 : 0 ≤ (p0).toInt ∧ (p0).toInt < 0 := h_2
    exfalso; omega
  · have h_2 : (p0).toInt < 0 ∨ 0 ≤ (p0).toInt := h_2
    refine lv_if_eq (tgt := 20) hx hb dX5_at_8 (by decide) (fun _ => ?_) (fun c_ => absurd c_ (by decide))
    refine lv_null hx hb dX5_at_20 ?_
    exact W.aret (v := .null) hx hb hr (Or.inl ⟨_, rfl⟩) (Or.inl rfl) (fun t ht hW => ⟨none, rfl, rfl, ht⟩) (fun q h => by cases h) dX5_at_21

set_option maxHeartbeats 4000000 in
set_option maxRecDepth 100000 in
theorem k_X5_takeTries (l : Launch) (D : va_G) (h0 : Nat) (t1 : Nat) (t2 : Nat) (t3 : Nat) (t4 : Nat) (ml : Int32) (hc : Nat) (o1 : Nat) (p0 : Int32) : Met l yX5_takeTries wsX5_takeTries ({ frames := 0, cells := 0, slots := 0, locals := 0 }) (va_Pc [.ref h0, .ref hc, .int p0] (wo D [] [(h0, .inr (5, [.ref t1, .ref t2, .ref t3, .ref t4, .int 0, .int 0, .int 0, .int ml])), (hc, .inr (2, [.ref o1, .int 0]))])) (va_Sv (fun _ => True)) 0 0 (fun _ => False) := by
  refine Met.ofW (cc := cX5_takeTries) (maxL := 5) (ret := none) (by decide) rfl ?_
  intro p e s m args below meth c s₁ B hml hv
  obtain ⟨rfl, hP, hK, hD, hN⟩ := hv
  have hx := B.exec
  have hb := B.bytes
  have hr := B.returns
  have hts := atoms_spec (ws := wsX5_takeTries) B.pre
  have hown : s.vm.findClass RX5 = some m.cls := findClass_of_methodNamed B.named
  have hlocks := B.notSynchronized
  have hin_X2 : ∀ w ∈ u_ws RX2 TX2 2, w ∈ wsX5_takeTries := by decide +kernel
  have hl := lv_entry ([.ref h0, .ref hc, .int p0]) (n := 5) (Nat.le_of_ble_eq_true rfl)
  rw [lg_entry_eq]
  generalize (lg_sl ([.ref h0, .ref hc, .int p0]) ++ List.replicate (5 - (lg_sl ([.ref h0, .ref hc, .int p0])).length) Slot.unset).toArray = ls at hl ⊢
  have hl : lv_has ls 5 [(0, .ref h0), (1, .ref hc), (2, .int p0)] := hl
  refine lv_iconst (v := 0) hx hb dX5_takeTries_0 (by decide) ?_
  refine lv_istore_n (lv' := [(3, .int 0), (0, .ref h0), (1, .ref hc), (2, .int p0)]) hx hb dX5_takeTries_1 rfl hl (by decide) rfl (fun ls hl => ?_)
  refine lv_iload_n hx hb dX5_takeTries_2 rfl (lv_at hl 0 rfl) ?_
  refine lv_aload_n hx hb dX5_takeTries_3 rfl (lv_at hl 2 rfl) ?_
  refine va_get (D := D) (ci := 2) (v := .int 0) (C := RX2) (T := TX2) (N := 2) hx hb hts hin_X2 hown hK hP 1 rfl rfl 1 (by decide) (hts (.fieldLink RX5 74 "CryOrder$Cases" "size" "I") (by decide +kernel)) (fun _ h9 => h9) rfl dX5_takeTries_4 ?_
  refine lv_icmp_ge (tgt := 58) hx hb dX5_takeTries_7 (by decide) (fun _ => ?_) (fun c_ => absurd c_ (by decide))
  exact W.vret hx hb hr (fun t ht hW => ⟨rfl, trivial, ht⟩) (fun q h => by cases h) dX5_takeTries_58

set_option maxHeartbeats 4000000 in
set_option maxRecDepth 100000 in
theorem k_X5_fillPool (l : Launch) (D : va_G) (h0 : Nat) (t1 : Nat) (t2 : Nat) (t3 : Nat) (t4 : Nat) (ml : Int32) (hc : Nat) (o1 : Nat) : Met l yX5_fillPool wsX5_fillPool ({ frames := 0, cells := 0, slots := 0, locals := 0 }) (va_Pc [.ref h0, .ref hc] (wo D [] [(h0, .inr (5, [.ref t1, .ref t2, .ref t3, .ref t4, .int 0, .int 0, .int 0, .int ml])), (hc, .inr (2, [.ref o1, .int 0]))])) (va_Sv (fun _ => True)) 0 0 (fun _ => False) := by
  refine Met.ofW (cc := cX5_fillPool) (maxL := 3) (ret := none) (by decide) rfl ?_
  intro p e s m args below meth c s₁ B hml hv
  obtain ⟨rfl, hP, hK, hD, hN⟩ := hv
  have hx := B.exec
  have hb := B.bytes
  have hr := B.returns
  have hts := atoms_spec (ws := wsX5_fillPool) B.pre
  have hown : s.vm.findClass RX5 = some m.cls := findClass_of_methodNamed B.named
  have hlocks := B.notSynchronized
  have hin_X2 : ∀ w ∈ u_ws RX2 TX2 2, w ∈ wsX5_fillPool := by decide +kernel
  have hl := lv_entry ([.ref h0, .ref hc]) (n := 3) (Nat.le_of_ble_eq_true rfl)
  rw [lg_entry_eq]
  generalize (lg_sl ([.ref h0, .ref hc]) ++ List.replicate (3 - (lg_sl ([.ref h0, .ref hc])).length) Slot.unset).toArray = ls at hl ⊢
  have hl : lv_has ls 3 [(0, .ref h0), (1, .ref hc)] := hl
  refine lv_iconst (v := 0) hx hb dX5_fillPool_0 (by decide) ?_
  refine lv_istore_n (lv' := [(2, .int 0), (0, .ref h0), (1, .ref hc)]) hx hb dX5_fillPool_1 rfl hl (by decide) rfl (fun ls hl => ?_)
  refine lv_iload_n hx hb dX5_fillPool_2 rfl (lv_at hl 0 rfl) ?_
  refine lv_aload_n hx hb dX5_fillPool_3 rfl (lv_at hl 2 rfl) ?_
  refine va_get (D := D) (ci := 2) (v := .int 0) (C := RX2) (T := TX2) (N := 2) hx hb hts hin_X2 hown hK hP 1 rfl rfl 1 (by decide) (hts (.fieldLink RX5 74 "CryOrder$Cases" "size" "I") (by decide +kernel)) (fun _ h9 => h9) rfl dX5_fillPool_4 ?_
  refine lv_icmp_ge (tgt := 63) hx hb dX5_fillPool_7 (by decide) (fun _ => ?_) (fun c_ => absurd c_ (by decide))
  exact W.vret hx hb hr (fun t ht hW => ⟨rfl, trivial, ht⟩) (fun q h => by cases h) dX5_fillPool_63

set_option maxHeartbeats 4000000 in
set_option maxRecDepth 100000 in
theorem k_X5_takeBestOfPool (l : Launch) (D : va_G) (h0 : Nat) (t1 : Nat) (t2 : Nat) (t3 : Nat) (t4 : Nat) (ml : Int32) : Met l yX5_takeBestOfPool wsX5_takeBestOfPool ({ frames := 0, cells := 0, slots := 0, locals := 0 }) (va_Pc [.ref h0] (wo D [] [(h0, .inr (5, [.ref t1, .ref t2, .ref t3, .ref t4, .int 0, .int 0, .int 0, .int ml]))])) (va_Sv (fun _ => True)) 0 0 (fun _ => False) := by
  refine Met.ofW (cc := cX5_takeBestOfPool) (maxL := 4) (ret := none) (by decide) rfl ?_
  intro p e s m args below meth c s₁ B hml hv
  obtain ⟨rfl, hP, hK, hD, hN⟩ := hv
  have hx := B.exec
  have hb := B.bytes
  have hr := B.returns
  have hts := atoms_spec (ws := wsX5_takeBestOfPool) B.pre
  have hown : s.vm.findClass RX5 = some m.cls := findClass_of_methodNamed B.named
  have hlocks := B.notSynchronized
  have hin_X5 : ∀ w ∈ u_ws RX5 TX5 8, w ∈ wsX5_takeBestOfPool := by decide +kernel
  have hl := lv_entry ([.ref h0]) (n := 4) (Nat.le_of_ble_eq_true rfl)
  rw [lg_entry_eq]
  generalize (lg_sl ([.ref h0]) ++ List.replicate (4 - (lg_sl ([.ref h0])).length) Slot.unset).toArray = ls at hl ⊢
  have hl : lv_has ls 4 [(0, .ref h0)] := hl
  refine lv_iconst (v := 0) hx hb dX5_takeBestOfPool_0 (by decide) ?_
  refine lv_istore_n (lv' := [(1, .int 0), (0, .ref h0)]) hx hb dX5_takeBestOfPool_1 rfl hl (by decide) rfl (fun ls hl => ?_)
  refine lv_aload_n hx hb dX5_takeBestOfPool_2 rfl (lv_at hl 1 rfl) ?_
  refine va_get (D := D) (ci := 5) (v := .int ml) (C := RX5) (T := TX5) (N := 8) hx hb hts hin_X5 hown hK hP 0 rfl rfl 7 (by decide) (hts (.fieldLink RX5 46 "CryOrder$Plan" "minutesLeft" "I") (by decide +kernel)) (fun _ h9 => h9) rfl dX5_takeBestOfPool_3 ?_
  refine lv_istore_n (lv' := [(2, .int ml), (1, .int 0), (0, .ref h0)]) hx hb dX5_takeBestOfPool_6 rfl hl (by decide) rfl (fun ls hl => ?_)
  refine lv_aload_n hx hb dX5_takeBestOfPool_7 rfl (lv_at hl 2 rfl) ?_
  refine va_get (D := D) (ci := 5) (v := .int 0) (C := RX5) (T := TX5) (N := 8) hx hb hts hin_X5 hown hK hP 0 rfl rfl 5 (by decide) (hts (.fieldLink RX5 31 "CryOrder$Plan" "poolCount" "I") (by decide +kernel)) (fun _ h9 => h9) rfl dX5_takeBestOfPool_8 ?_
  refine lv_iconst (v := 1) hx hb dX5_takeBestOfPool_11 (by decide) ?_
  refine lv_isub hx hb dX5_takeBestOfPool_12 ?_
  refine lv_tope (z := (-1)) (by decide) ?_
  refine lv_istore_n (lv' := [(3, .int (-1)), (2, .int ml), (1, .int 0), (0, .ref h0)]) hx hb dX5_takeBestOfPool_13 rfl hl (by decide) rfl (fun ls hl => ?_)
  refine lv_iload_n hx hb dX5_takeBestOfPool_14 rfl (lv_at hl 0 rfl) ?_
  refine lv_if_lt (tgt := 60) hx hb dX5_takeBestOfPool_15 (by decide) (fun _ => ?_) (fun c_ => absurd c_ (by decide))
  refine lv_iconst (v := 0) hx hb dX5_takeBestOfPool_60 (by decide) ?_
  refine lv_istore_n (lv' := [(3, .int 0), (2, .int ml), (1, .int 0), (0, .ref h0)]) hx hb dX5_takeBestOfPool_61 rfl hl (by decide) rfl (fun ls hl => ?_)
  refine lv_iload_n hx hb dX5_takeBestOfPool_62 rfl (lv_at hl 0 rfl) ?_
  refine lv_aload_n hx hb dX5_takeBestOfPool_63 rfl (lv_at hl 3 rfl) ?_
  refine va_get (D := D) (ci := 5) (v := .int 0) (C := RX5) (T := TX5) (N := 8) hx hb hts hin_X5 hown hK hP 0 rfl rfl 5 (by decide) (hts (.fieldLink RX5 31 "CryOrder$Plan" "poolCount" "I") (by decide +kernel)) (fun _ h9 => h9) rfl dX5_takeBestOfPool_64 ?_
  refine lv_icmp_ge (tgt := 95) hx hb dX5_takeBestOfPool_67 (by decide) (fun _ => ?_) (fun c_ => absurd c_ (by decide))
  exact W.vret hx hb hr (fun t ht hW => ⟨rfl, trivial, ht⟩) (fun q h => by cases h) dX5_takeBestOfPool_95
end
