set_option maxHeartbeats 4000000 in
set_option maxRecDepth 100000 in
theorem kl_head {p : Program} {l : Launch} {e : Env} {R : Room} {s : State} {m : MethodId} {args : Array Value} {below : List Frame} {meth : Method} {c : Code} {Q : State → Prop} {A : Nat → Prop} {cells slots : Nat} {D : va_G} {H : Heap} {locs : List Loc} {X0 : va_W} {L : List Nat} {K : Nat → Nat × Nat} {f : Nat → va_E} {S : Int} {tys : List (ClassId × FieldType)} {a : Nat} {gg : Nat → Option Nat} {nn : Nat} {cc : Nat → Nat} {ii : Nat} (hx : p.tables.exec = Jvm.exec) (hb : c.code = cX0_head) (hts : ∀ w ∈ wsX0_head, w.before args s = true) (hml : c.maxLocals = 2) (hown : s.vm.findClass RX0 = some m.cls) (hN : Nq s) (hK : va_K D vwCl tys s) (hP : va_P D vwCl (X0 ++ va_pl L f) H) (hD : va_D A (X0 ++ va_pl L f)) (hR : 0 ≤ R.frames ∧ 0 ≤ R.locals) (hcs : cells ≤ R.cells ∧ slots ≤ R.slots) (hI : cqI S L K f) (hj9 : jN L K nn gg) (hu9 : aU f gg nn cc) (done_17 : ∀ (at1 : Nat) (ls : Array Slot), (cqIs L K 0 at1) → (gg (cc ii) = some at1 ∧ cc (cc ii) = cc ii ∧ cc ii ≤ ii) → lv_has ls 2 [(1, .ref at1), (0, .ref a)] → W p l e R s m args below meth c H locs cells slots Q (F0 m 17 ls [])) : ∀ (n : Nat), ∀ (at1 : Nat) (dd : Nat) (ls : Array Slot), (cqIs L K 0 at1) → ((dd < nn ∧ dd ≤ ii) ∧ gg dd = some at1 ∧ cc dd = cc ii) → ((K at1).2 < n) → lv_has ls 2 [(1, .ref at1), (0, .ref a)] → W p l e R s m args below meth c H locs cells slots Q (F0 m 2 ls []) := by
  have hin_X0 : ∀ w ∈ u_ws RX0 TX0 17, w ∈ wsX0_head := fun w h => List.mem_cons_of_mem _ (List.mem_append_right _ (h))
  intro n
  induction n with
  | zero => intro at1 dd ls hat hdd hmu hl; exact absurd hmu (Nat.not_lt_zero _)
  | succ n ih =>
    intro at1 dd ls hat hdd hmu hl
    refine lv_aload_n hx hb dX0_head_2 rfl (lv_at hl 0 rfl) ?_
    obtain ⟨nu_1, ca_1, so_1, th_1, ma_1, wo_1, lf_1, ld_1, si_1, cp_1, he_1, re_1, sv_1, lt_1, lF_1, sn_1, ab_1, hf_1, hnu_1, hlf_1, hld_1, hsi_1, hcp_1, hsn_1, hab_1⟩ := hI.opA hat
    have F2hf_1 : cqF (f at1) 2 = (so_1).toInt := by rw [hf_1]; rfl
    have F3hf_1 : cqF (f at1) 3 = (th_1).toInt := by rw [hf_1]; rfl
    have F4hf_1 : cqF (f at1) 4 = (ma_1).toInt := by rw [hf_1]; rfl
    have F8hf_1 : cqF (f at1) 8 = (si_1).toInt := by rw [hf_1]; rfl
    have F9hf_1 : cqF (f at1) 9 = (cp_1).toInt := by rw [hf_1]; rfl
    have F10hf_1 : cqF (f at1) 10 = (he_1).toInt := by rw [hf_1]; rfl
    have F12hf_1 : cqF (f at1) 12 = (sv_1).toInt := by rw [hf_1]; rfl
    have F13hf_1 : cqF (f at1) 13 = (lt_1).toInt := by rw [hf_1]; rfl
    have F14hf_1 : cqF (f at1) 14 = (lF_1).toInt := by rw [hf_1]; rfl
    refine pl_get (D := D) (ci := 0) (v := va_rf ab_1) (C := RX0) (T := TX0) (N := 17) hx hb hts hin_X0 hown hK hP hat.1 hf_1 rfl 16 (by decide) (hts (.fieldLink RX0 97 "CryOrder$Alarm" "above" "LCryOrder$Alarm;") (List.mem_cons_of_mem _ (List.mem_append_left _ (List.mem_of_getElem? (i := 0) rfl)))) (fun _ h9 => h9) rfl dX0_head_3 ?_
    rcases ab_1 with _ | b_2
    · have hf_1 : f at1 = .inr (0, [.int nu_1, .int ca_1, .int so_1, .int th_1, .int ma_1, .int wo_1, .ref lf_1, .ref ld_1, .int si_1, .int cp_1, .int he_1, .int re_1, .int sv_1, .int lt_1, .int lF_1, va_rf sn_1, .null]) := hf_1
      refine lv_ifnullN (tgt := 17) hx hb dX0_head_6 (by decide) ?_
      exact done_17 at1 _ hat (by have ht9 := aU.top hu9 hdd.1.1 hdd.2.1 (cqRf_of (v := none) (by rw [hf_1]; rfl)); have e9 : cc ii = dd := hdd.2.2.symm.trans ht9; rw [e9]; exact ⟨hdd.2.1, ht9, hdd.1.2⟩) (lv_sub hl [0, 1] rfl)
    · have hf_1 : f at1 = .inr (0, [.int nu_1, .int ca_1, .int so_1, .int th_1, .int ma_1, .int wo_1, .ref lf_1, .ref ld_1, .int si_1, .int cp_1, .int he_1, .int re_1, .int sv_1, .int lt_1, .int lF_1, va_rf sn_1, .ref b_2]) := hf_1
      obtain ⟨is_3, lis_3⟩ := hab_1 b_2 rfl
      refine lv_ifnull hx hb dX0_head_6 ?_
      refine lv_aload_n hx hb dX0_head_9 rfl (lv_at hl 0 rfl) ?_
      refine pl_get (D := D) (ci := 0) (v := .ref b_2) (C := RX0) (T := TX0) (N := 17) hx hb hts hin_X0 hown hK hP hat.1 hf_1 rfl 16 (by decide) (hts (.fieldLink RX0 97 "CryOrder$Alarm" "above" "LCryOrder$Alarm;") (List.mem_cons_of_mem _ (List.mem_append_left _ (List.mem_of_getElem? (i := 0) rfl)))) (fun _ h9 => h9) rfl dX0_head_10 ?_
      refine lv_astore_n (lv' := [(1, .ref b_2), (0, .ref a)]) hx hb dX0_head_13 rfl hl (by decide) rfl (fun ls hl => ?_)
      refine lv_goto (tgt := 2) hx hb dX0_head_14 (by decide) ?_
      obtain ⟨jq, hq1, hq2, hq3⟩ := aU.up hu9 hdd.1.1 hdd.2.1 (cqRf_of (v := some b_2) (by rw [hf_1]; rfl))
      exact ih b_2 jq _ is_3 ⟨⟨by have h9 := hdd.1; omega, by have h9 := hdd.1; omega⟩, hq2, hq3.trans hdd.2.2⟩ (by omega) (lv_sub hl [0, 1] rfl)

set_option maxHeartbeats 4000000 in
set_option maxRecDepth 100000 in
theorem c_X0_headK (l : Launch) (D : va_G) (X0 : va_W) (L : List Nat) (K : Nat → Nat × Nat) (f : Nat → va_E) (S : Int) (tys : List (ClassId × FieldType)) (a : Nat) (gg : Nat → Option Nat) (nn : Nat) (cc : Nat → Nat) (ii : Nat) (hI : cqI S L K f) (ha : cqIs L K 0 a) (hj9 : jN L K nn gg) (hu9 : aU f gg nn cc) (hi9 : ii < nn ∧ gg ii = some a) : Met l yX0_head wsX0_head ({ frames := 0, cells := 0, slots := 0, locals := 0 }) (va_Pc [.ref a] (wo D tys (X0 ++ va_pl L f))) (va_Sq (fun r => ∃ b, r = some b ∧ cqIs L K 0 b ∧ gg (cc ii) = some b ∧ cc (cc ii) = cc ii ∧ cc ii ≤ ii)) 0 0 (fun _ => False) := by
  refine Met.ofW (cc := cX0_head) (maxL := 2) (ret := (some (.object "CryOrder$Alarm"))) (by decide) rfl ?_
  intro p e s m args below meth c s₁ B hml hv
  obtain ⟨rfl, hP, hK, hD, hN⟩ := hv
  have hx := B.exec
  have hb := B.bytes
  have hr := B.returns
  have hts := atoms_spec (ws := wsX0_head) B.pre
  have hown : s.vm.findClass RX0 = some m.cls := findClass_of_methodNamed B.named
  have hlocks := B.notSynchronized
  have hl := lv_entry ([.ref a]) (n := 2) (Nat.le_of_ble_eq_true rfl)
  rw [lg_entry_eq]
  generalize (lg_sl ([.ref a]) ++ List.replicate (2 - (lg_sl ([.ref a])).length) Slot.unset).toArray = ls at hl ⊢
  have hl : lv_has ls 2 [(0, .ref a)] := hl
  refine lv_aload_n hx hb dX0_head_0 rfl (lv_at hl 0 rfl) ?_
  refine lv_astore_n (lv' := [(1, .ref a), (0, .ref a)]) hx hb dX0_head_1 rfl hl (by decide) rfl (fun ls hl => ?_)
  refine kl_head hx hb hts hml hown hN hK hP hD ⟨(Nat.le_of_ble_eq_true rfl), (Nat.le_of_ble_eq_true rfl)⟩ ⟨(Nat.le_of_ble_eq_true rfl), (Nat.le_of_ble_eq_true rfl)⟩ hI (by first | omega | assumption | decide | (have h3 : (0 : Int32).toInt = 0 := rfl; omega) | (have h3 : (0 : Int32).toInt = 0 := rfl; have h4 : (1 : Int32).toInt = 1 := rfl; have h5 : (-1 : Int32).toInt = -1 := rfl; omega)) (by first | omega | assumption | decide | (have h3 : (0 : Int32).toInt = 0 := rfl; omega) | (have h3 : (0 : Int32).toInt = 0 := rfl; have h4 : (1 : Int32).toInt = 1 := rfl; have h5 : (-1 : Int32).toInt = -1 := rfl; omega)) (fun at_1 ls h_3 h_4 hl => ?_) _ a ii _ ha ⟨⟨hi9.1, Nat.le_refl _⟩, hi9.2, rfl⟩ (Nat.lt_succ_self _) (lv_sub hl [0, 1] rfl)
  have h_3 : cqIs L K 0 at_1 := h_3
  have h_4 : gg (cc ii) = some at_1 ∧ cc (cc ii) = cc ii ∧ cc ii ≤ ii := h_4
  refine lv_aload_n hx hb dX0_head_17 rfl (lv_at hl 0 rfl) ?_
  exact W.aret (v := .ref at_1) hx hb hr (Or.inl ⟨_, rfl⟩) (Or.inr ⟨_, rfl⟩) (fun t ht hW => ⟨(some at_1), rfl, ⟨_, rfl, h_3, h_4⟩, ht⟩) (fun q h => by cases h) dX0_head_18

set_option maxHeartbeats 4000000 in
set_option maxRecDepth 100000 in
theorem c_X0_joinCaseOfK (l : Launch) (D : va_G) (sz : Nat) (X0 : va_W) (L : List Nat) (K : Nat → Nat × Nat) (f : Nat → va_E) (S : Int) (tys : List (ClassId × FieldType)) (a : Nat) (b : Nat) (gg : Nat → Option Nat) (nn : Nat) (cc : Nat → Nat) (ii : Nat) (jj : Nat) (hI : cqI S L K f) (ha : cqIs L K 0 a) (hb2 : cqIs L K 0 b) (hj9 : jN L K nn gg) (hu9 : aU f gg nn cc) (hi9 : ii < nn ∧ gg ii = some a) (hi8 : jj < nn ∧ gg jj = some b) : Met l yX0_joinCaseOf wsX0_joinCaseOf ({ frames := 1, cells := 0, slots := 0, locals := 21 }) (va_Pc [.ref a, .ref b] (wz sz D tys (X0 ++ va_pl L f))) (va_Qv (fun (_ : Unit) => True) (fun _ t => ∃ (f9 : Nat → va_E), (wp D [] (va_A (X0 ++ va_pl L f) sz) (X0 ++ va_pl L f9) t ∧ (cqI S L K f9) ∧ (cqT [(0, 16)] L K f f9) ∧ (aU f9 gg nn (mrg cc (cc ii) (cc jj))))) (va_A (X0 ++ va_pl L f) sz)) 0 0 (va_A (X0 ++ va_pl L f) sz) := by
  refine Met.ofW (cc := cX0_joinCaseOf) (maxL := 4) (ret := none) (by decide) rfl ?_
  intro p e s m args below meth c s₁ B hml hv
  obtain ⟨rfl, hsz, hP, hK, hD0, hN⟩ := hv
  have hx := B.exec
  have hb := B.bytes
  have hr := B.returns
  have hts := atoms_spec (ws := wsX0_joinCaseOf) B.pre
  have hown : s.vm.findClass RX0 = some m.cls := findClass_of_methodNamed B.named
  have hlocks := B.notSynchronized
  subst hsz
  have hD := hD0.self (sz := s.heap.size)
  generalize hAe : va_A (X0 ++ va_pl L f) s.heap.size = A at hD ⊢
  have hA : ∀ q : Nat, s.heap.size ≤ q → A q := fun q h => by rw [← hAe]; exact Or.inr h
  have hS : va_S A s.heap s.heap [] := va_S.rf
  have hin_X0 : ∀ w ∈ u_ws RX0 TX0 17, w ∈ wsX0_joinCaseOf := fun w h => List.mem_cons_of_mem _ (List.mem_append_right _ (h))
  have hl := lv_entry ([.ref a, .ref b]) (n := 4) (Nat.le_of_ble_eq_true rfl)
  rw [lg_entry_eq]
  generalize (lg_sl ([.ref a, .ref b]) ++ List.replicate (4 - (lg_sl ([.ref a, .ref b])).length) Slot.unset).toArray = ls at hl ⊢
  have hl : lv_has ls 4 [(0, .ref a), (1, .ref b)] := hl
  have hT0 : cqT [(0, 16)] L K f f := cqT.rf
  have hG0 : cqG L K L K := cqG.rf
  refine lv_aload_n hx hb dX0_joinCaseOf_0 rfl (lv_at hl 0 rfl) ?_
  refine va_csq (wrV (As := []) (rest := []) ⟨hx, hb, hml, hown, hts⟩ hN hK hP hD (c_X0_headK l D X0 L K f S tys a gg nn cc ii hI ha hj9 hu9 hi9) (cwV 0 hts gX0_joinCaseOf_X0_head rfl rfl rfl (by decide +kernel) ⟨(Nat.le_of_ble_eq_true rfl), (Nat.le_of_ble_eq_true rfl)⟩) 0 rfl (cq_rcA (X := X0) hI ha) rfl hl.1 rfl (Nat.le_of_ble_eq_true rfl) dX0_joinCaseOf_1 ⟨(Nat.le_of_ble_eq_true rfl), (Nat.le_of_ble_eq_true rfl)⟩) (fun r_1 h_2 => ?_)
  obtain ⟨b_3, rfl, is_4, h_5, h_6, h_7⟩ := h_2
  have h_5 : gg (cc ii) = some b_3 := h_5
  have h_6 : cc (cc ii) = cc ii := h_6
  have h_7 : cc ii ≤ ii := h_7
  refine lv_topv (z := .ref b_3) rfl ?_
  have hx_8 : cc ii < nn ∧ gg (cc ii) = some b_3 := ⟨Nat.lt_of_le_of_lt h_7 hi9.1, h_5⟩
  have khx_8 := (hj9.key hx_8.1 hx_8.2).2
  refine lv_astore_n (lv' := [(2, .ref b_3), (0, .ref a), (1, .ref b)]) hx hb dX0_joinCaseOf_4 rfl hl (by decide) rfl (fun ls hl => ?_)
  refine lv_aload_n hx hb dX0_joinCaseOf_5 rfl (lv_at hl 2 rfl) ?_
  refine va_csq (wrV (As := []) (rest := []) ⟨hx, hb, hml, hown, hts⟩ hN hK hP hD (c_X0_headK l D X0 L K f S tys b gg nn cc jj hI hb2 hj9 hu9 hi8) (cwV 0 hts gX0_joinCaseOf_X0_head rfl rfl rfl (by decide +kernel) ⟨(Nat.le_of_ble_eq_true rfl), (Nat.le_of_ble_eq_true rfl)⟩) 0 rfl (cq_rcA (X := X0) hI hb2) rfl hl.1 rfl (Nat.le_of_ble_eq_true rfl) dX0_joinCaseOf_6 ⟨(Nat.le_of_ble_eq_true rfl), (Nat.le_of_ble_eq_true rfl)⟩) (fun r_9 h_10 => ?_)
  obtain ⟨b_11, rfl, is_12, h_13, h_14, h_15⟩ := h_10
  have h_13 : gg (cc jj) = some b_11 := h_13
  have h_14 : cc (cc jj) = cc jj := h_14
  have h_15 : cc jj ≤ jj := h_15
  refine lv_topv (z := .ref b_11) rfl ?_
  have hx_16 : cc jj < nn ∧ gg (cc jj) = some b_11 := ⟨Nat.lt_of_le_of_lt h_15 hi8.1, h_13⟩
  have khx_16 := (hj9.key hx_16.1 hx_16.2).2
  refine lv_astore_n (lv' := [(3, .ref b_11), (2, .ref b_3), (0, .ref a), (1, .ref b)]) hx hb dX0_joinCaseOf_9 rfl hl (by decide) rfl (fun ls hl => ?_)
  refine lv_aload_n hx hb dX0_joinCaseOf_10 rfl (lv_at hl 1 rfl) ?_
  obtain ⟨nu_17, ca_17, so_17, th_17, ma_17, wo_17, lf_17, ld_17, si_17, cp_17, he_17, re_17, sv_17, lt_17, lF_17, sn_17, ab_17, hf_17, hnu_17, hlf_17, hld_17, hsi_17, hcp_17, hsn_17, hab_17⟩ := hI.opA is_4
  have F2hf_17 : cqF (f b_3) 2 = (so_17).toInt := by rw [hf_17]; rfl
  have F3hf_17 : cqF (f b_3) 3 = (th_17).toInt := by rw [hf_17]; rfl
  have F4hf_17 : cqF (f b_3) 4 = (ma_17).toInt := by rw [hf_17]; rfl
  have F8hf_17 : cqF (f b_3) 8 = (si_17).toInt := by rw [hf_17]; rfl
  have F9hf_17 : cqF (f b_3) 9 = (cp_17).toInt := by rw [hf_17]; rfl
  have F10hf_17 : cqF (f b_3) 10 = (he_17).toInt := by rw [hf_17]; rfl
  have F12hf_17 : cqF (f b_3) 12 = (sv_17).toInt := by rw [hf_17]; rfl
  have F13hf_17 : cqF (f b_3) 13 = (lt_17).toInt := by rw [hf_17]; rfl
  have F14hf_17 : cqF (f b_3) 14 = (lF_17).toInt := by rw [hf_17]; rfl
  refine pl_get (D := D) (ci := 0) (v := .int nu_17) (C := RX0) (T := TX0) (N := 17) hx hb hts hin_X0 hown hK hP is_4.1 hf_17 rfl 0 (by decide) (hts (.fieldLink RX0 15 "CryOrder$Alarm" "number" "I") (List.mem_cons_of_mem _ (List.mem_append_left _ (List.mem_of_getElem? (i := 0) rfl)))) (fun _ h9 => h9) rfl dX0_joinCaseOf_11 ?_
  refine lv_aload_n hx hb dX0_joinCaseOf_14 rfl (lv_at hl 0 rfl) ?_
  obtain ⟨nu_18, ca_18, so_18, th_18, ma_18, wo_18, lf_18, ld_18, si_18, cp_18, he_18, re_18, sv_18, lt_18, lF_18, sn_18, ab_18, hf_18, hnu_18, hlf_18, hld_18, hsi_18, hcp_18, hsn_18, hab_18⟩ := hI.opA is_12
  have F2hf_18 : cqF (f b_11) 2 = (so_18).toInt := by rw [hf_18]; rfl
  have F3hf_18 : cqF (f b_11) 3 = (th_18).toInt := by rw [hf_18]; rfl
  have F4hf_18 : cqF (f b_11) 4 = (ma_18).toInt := by rw [hf_18]; rfl
  have F8hf_18 : cqF (f b_11) 8 = (si_18).toInt := by rw [hf_18]; rfl
  have F9hf_18 : cqF (f b_11) 9 = (cp_18).toInt := by rw [hf_18]; rfl
  have F10hf_18 : cqF (f b_11) 10 = (he_18).toInt := by rw [hf_18]; rfl
  have F12hf_18 : cqF (f b_11) 12 = (sv_18).toInt := by rw [hf_18]; rfl
  have F13hf_18 : cqF (f b_11) 13 = (lt_18).toInt := by rw [hf_18]; rfl
  have F14hf_18 : cqF (f b_11) 14 = (lF_18).toInt := by rw [hf_18]; rfl
  refine pl_get (D := D) (ci := 0) (v := .int nu_18) (C := RX0) (T := TX0) (N := 17) hx hb hts hin_X0 hown hK hP is_12.1 hf_18 rfl 0 (by decide) (hts (.fieldLink RX0 15 "CryOrder$Alarm" "number" "I") (List.mem_cons_of_mem _ (List.mem_append_left _ (List.mem_of_getElem? (i := 0) rfl)))) (fun _ h9 => h9) rfl dX0_joinCaseOf_15 ?_
  refine bi_ge (zx := (nu_17).toInt) (zy := (nu_18).toInt) (tgt := 29) hx hb dX0_joinCaseOf_18 (by decide) rfl rfl (fun c_19 => ?_) (fun c_19 => ?_)
  · refine lv_aload_n hx hb dX0_joinCaseOf_29 rfl (lv_at hl 0 rfl) ?_
    refine pl_get (D := D) (ci := 0) (v := .int nu_18) (C := RX0) (T := TX0) (N := 17) hx hb hts hin_X0 hown hK hP is_12.1 hf_18 rfl 0 (by decide) (hts (.fieldLink RX0 15 "CryOrder$Alarm" "number" "I") (List.mem_cons_of_mem _ (List.mem_append_left _ (List.mem_of_getElem? (i := 0) rfl)))) (fun _ h9 => h9) rfl dX0_joinCaseOf_30 ?_
    refine lv_aload_n hx hb dX0_joinCaseOf_33 rfl (lv_at hl 1 rfl) ?_
    refine pl_get (D := D) (ci := 0) (v := .int nu_17) (C := RX0) (T := TX0) (N := 17) hx hb hts hin_X0 hown hK hP is_4.1 hf_17 rfl 0 (by decide) (hts (.fieldLink RX0 15 "CryOrder$Alarm" "number" "I") (List.mem_cons_of_mem _ (List.mem_append_left _ (List.mem_of_getElem? (i := 0) rfl)))) (fun _ h9 => h9) rfl dX0_joinCaseOf_34 ?_
    refine bi_ge (zx := (nu_18).toInt) (zy := (nu_17).toInt) (tgt := 45) hx hb dX0_joinCaseOf_37 (by decide) rfl rfl (fun c_20 => ?_) (fun c_20 => ?_)
    · refine W.widen (k := 0) (n := 0) (Nat.le_of_ble_eq_true rfl) (Nat.le_of_ble_eq_true rfl) ?_
      exact W.vret hx hb hr (fun t ht hW => ⟨⟨(), rfl, trivial, f, ⟨by rw [ht]; exact hP, va_K.moved hW.alike (hK.sub (tys' := []) [] rfl), hD⟩, hI, hT0, (hu9.je (by omega))⟩, hS.F ht⟩) hS.2.2 dX0_joinCaseOf_45
    · refine lv_aload_n hx hb dX0_joinCaseOf_40 rfl (lv_at hl 1 rfl) ?_
      refine lv_aload_n hx hb dX0_joinCaseOf_41 rfl (lv_at hl 0 rfl) ?_
      refine pl_put (D := D) (ci := 0) (v := .ref b_11) (ty := .object "CryOrder$Alarm") (C := RX0) (T := TX0) (N := 17) hx hb hts hin_X0 tyX0 tyX0_ok nmX0 hown hK hP hD hS is_4.1 hf_17 rfl 16 (by decide) (hts (.fieldLink RX0 97 "CryOrder$Alarm" "above" "LCryOrder$Alarm;") (List.mem_cons_of_mem _ (List.mem_append_left _ (List.mem_of_getElem? (i := 1) rfl)))) (fun _ h9 => h9) rfl (by decide +kernel) rfl rfl (Nat.le_of_ble_eq_true rfl) dX0_joinCaseOf_42 (fun H_21 locs hP hD hS => ?_)
      obtain ⟨f_22, ef_22⟩ : ∃ g, g = va_up f b_3 (.inr (0, [.int nu_17, .int ca_17, .int so_17, .int th_17, .int ma_17, .int wo_17, .ref lf_17, .ref ld_17, .int si_17, .int cp_17, .int he_17, .int re_17, .int sv_17, .int lt_17, .int lF_17, va_rf sn_17, .ref b_11])) := ⟨_, rfl⟩
      have hP : va_P D vwCl (X0 ++ va_pl L f_22) H_21 := by rw [ef_22]; exact hP
      have hD : va_D A (X0 ++ va_pl L f_22) := by rw [ef_22]; exact hD
      have hI : cqI S L K f_22 := hI.ptA is_4 ef_22 ⟨_, _, _, _, _, _, _, _, _, _, _, _, _, _, _, sn_17, (some b_11), rfl, hnu_17, hlf_17, hld_17, hsi_17, hcp_17, hsn_17, (cqLo.some is_12 (by omega))⟩
      have h_23 : cqLo L K 0 (some b_11) (K b_3).2 := (cqLo.some is_12 (by omega))
      have hT_24 := hT0.put (k := 16) hG0 is_4 ef_22 (.ref b_11) hf_17 rfl (by decide)
      have hf_17 : f_22 b_3 = .inr (0, [.int nu_17, .int ca_17, .int so_17, .int th_17, .int ma_17, .int wo_17, .ref lf_17, .ref ld_17, .int si_17, .int cp_17, .int he_17, .int re_17, .int sv_17, .int lt_17, .int lF_17, va_rf sn_17, .ref b_11]) := cq_same ef_22
      refine W.widen (k := 0) (n := 0) (Nat.le_of_ble_eq_true rfl) (Nat.le_of_ble_eq_true rfl) ?_
      exact W.vret hx hb hr (fun t ht hW => ⟨⟨(), rfl, trivial, f_22, ⟨by rw [ht]; exact hP, va_K.moved hW.alike (hK.sub (tys' := []) [] rfl), hD⟩, hI, hT_24, (hu9.jr hj9 hx_8.1 hx_8.2 h_6 hx_16.2 h_14 (by omega) (cqO.rf.put ef_22) (cqRf_of (v := some b_11) (by rw [hf_17]; rfl)))⟩, hS.F ht⟩) hS.2.2 dX0_joinCaseOf_45
  · refine lv_aload_n hx hb dX0_joinCaseOf_21 rfl (lv_at hl 0 rfl) ?_
    refine lv_aload_n hx hb dX0_joinCaseOf_22 rfl (lv_at hl 1 rfl) ?_
    refine pl_put (D := D) (ci := 0) (v := .ref b_3) (ty := .object "CryOrder$Alarm") (C := RX0) (T := TX0) (N := 17) hx hb hts hin_X0 tyX0 tyX0_ok nmX0 hown hK hP hD hS is_12.1 hf_18 rfl 16 (by decide) (hts (.fieldLink RX0 97 "CryOrder$Alarm" "above" "LCryOrder$Alarm;") (List.mem_cons_of_mem _ (List.mem_append_left _ (List.mem_of_getElem? (i := 1) rfl)))) (fun _ h9 => h9) rfl (by decide +kernel) rfl rfl (Nat.le_of_ble_eq_true rfl) dX0_joinCaseOf_23 (fun H_25 locs hP hD hS => ?_)
    obtain ⟨f_26, ef_26⟩ : ∃ g, g = va_up f b_11 (.inr (0, [.int nu_18, .int ca_18, .int so_18, .int th_18, .int ma_18, .int wo_18, .ref lf_18, .ref ld_18, .int si_18, .int cp_18, .int he_18, .int re_18, .int sv_18, .int lt_18, .int lF_18, va_rf sn_18, .ref b_3])) := ⟨_, rfl⟩
    have hP : va_P D vwCl (X0 ++ va_pl L f_26) H_25 := by rw [ef_26]; exact hP
    have hD : va_D A (X0 ++ va_pl L f_26) := by rw [ef_26]; exact hD
    have hI : cqI S L K f_26 := hI.ptA is_12 ef_26 ⟨_, _, _, _, _, _, _, _, _, _, _, _, _, _, _, sn_18, (some b_3), rfl, hnu_18, hlf_18, hld_18, hsi_18, hcp_18, hsn_18, (cqLo.some is_4 (by omega))⟩
    have h_27 : cqLo L K 0 (some b_3) (K b_11).2 := (cqLo.some is_4 (by omega))
    have hT_28 := hT0.put (k := 16) hG0 is_12 ef_26 (.ref b_3) hf_18 rfl (by decide)
    have hf_18 : f_26 b_11 = .inr (0, [.int nu_18, .int ca_18, .int so_18, .int th_18, .int ma_18, .int wo_18, .ref lf_18, .ref ld_18, .int si_18, .int cp_18, .int he_18, .int re_18, .int sv_18, .int lt_18, .int lF_18, va_rf sn_18, .ref b_3]) := cq_same ef_26
    refine lv_goto (tgt := 45) hx hb dX0_joinCaseOf_26 (by decide) ?_
    refine W.widen (k := 0) (n := 0) (Nat.le_of_ble_eq_true rfl) (Nat.le_of_ble_eq_true rfl) ?_
    exact W.vret hx hb hr (fun t ht hW => ⟨⟨(), rfl, trivial, f_26, ⟨by rw [ht]; exact hP, va_K.moved hW.alike (hK.sub (tys' := []) [] rfl), hD⟩, hI, hT_28, (hu9.jl hj9 hx_16.1 hx_16.2 h_14 hx_8.2 h_6 (by omega) (cqO.rf.put ef_26) (cqRf_of (v := some b_3) (by rw [hf_18]; rfl)))⟩, hS.F ht⟩) hS.2.2 dX0_joinCaseOf_45
