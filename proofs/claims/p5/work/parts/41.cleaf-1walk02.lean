set_option maxHeartbeats 4000000 in
set_option maxRecDepth 100000 in
theorem c_X8_isOfKind (l : Launch) (D : va_G) (X0 : va_W) (L : List Nat) (K : Nat → Nat × Nat) (f : Nat → va_E) (S : Int) (tys : List (ClassId × FieldType)) (a : Nat) (v : Int32) (hI : cqI S L K f) (ha : cqIs L K 0 a) : Met l yX8_isOfKind wsX8_isOfKind ({ frames := 1, cells := 0, slots := 0, locals := 20 }) (va_Pc [.ref a, .int v] (wo D tys (X0 ++ va_pl L f))) (vp_Si (fun r => r = 0 ∨ r = 1)) 0 0 (fun _ => False) := by
  refine Met.ofW (cc := cX8_isOfKind) (maxL := 2) (ret := (some .boolean)) (by decide) rfl ?_
  intro p e s m args below meth c s₁ B hml hv
  obtain ⟨rfl, hP, hK, hD, hN⟩ := hv
  have hx := B.exec
  have hb := B.bytes
  have hr := B.returns
  have hts := atoms_spec (ws := wsX8_isOfKind) B.pre
  have hown : s.vm.findClass RX8 = some m.cls := findClass_of_methodNamed B.named
  have hlocks := B.notSynchronized
  have hin_X0 : ∀ w ∈ u_ws RX0 TX0 17, w ∈ wsX8_isOfKind := fun w h => List.mem_cons_of_mem _ (List.mem_append_right _ (h))
  have hl := lv_entry ([.ref a, .int v]) (n := 2) (Nat.le_of_ble_eq_true rfl)
  rw [lg_entry_eq]
  generalize (lg_sl ([.ref a, .int v]) ++ List.replicate (2 - (lg_sl ([.ref a, .int v])).length) Slot.unset).toArray = ls at hl ⊢
  have hl : lv_has ls 2 [(0, .ref a), (1, .int v)] := hl
  refine lv_iload_n hx hb dX8_isOfKind_0 rfl (lv_at hl 1 rfl) ?_
  rcases (show (v).toInt = 0 ∨ (v).toInt = 1 ∨ (v).toInt = 2 ∨ (v).toInt = 3 ∨ (v).toInt = 4 ∨ (v).toInt = 5 ∨ (v).toInt = 6 ∨ ((v).toInt < 0 ∨ 6 < (v).toInt) by omega) with c_1 | c_1 | c_1 | c_1 | c_1 | c_1 | c_1 | c_1
  · refine lv_tableIn (tgt := 44) hx hb dX8_isOfKind_1 (by omega) (by omega) (by rw [c_1]; rfl) (by decide) ?_
    refine lv_iconst (v := 1) hx hb dX8_isOfKind_44 (by decide) ?_
    exact W.zret (v := 1) hx hb hr rfl (fun t ht hW => ⟨1, rfl, (Or.inr rfl), ht⟩) (fun q h => by cases h) dX8_isOfKind_45
  · refine lv_tableIn (tgt := 46) hx hb dX8_isOfKind_1 (by omega) (by omega) (by rw [c_1]; rfl) (by decide) ?_
    refine lv_aload_n hx hb dX8_isOfKind_46 rfl (lv_at hl 0 rfl) ?_
    obtain ⟨nu_2, ca_2, so_2, th_2, ma_2, wo_2, lf_2, ld_2, si_2, cp_2, he_2, re_2, sv_2, lt_2, lF_2, sn_2, ab_2, hf_2, hnu_2, hlf_2, hld_2, hsi_2, hcp_2, hsn_2, hab_2⟩ := hI.opA ha
    refine pl_get (D := D) (ci := 0) (v := .int re_2) (C := RX0) (T := TX0) (N := 17) hx hb hts hin_X0 hown hK hP ha.1 hf_2 rfl 11 (by decide) (hts (.fieldLink RX8 163 "CryOrder$Alarm" "repeats" "I") (List.mem_cons_of_mem _ (List.mem_append_left _ (List.mem_of_getElem? (i := 0) rfl)))) (fun _ h9 => h9) rfl dX8_isOfKind_47 ?_
    refine bz_le (zx := (re_2).toInt) (tgt := 57) hx hb dX8_isOfKind_50 (by decide) rfl (fun c_3 => ?_) (fun c_3 => ?_)
    · refine lv_iconst (v := 0) hx hb dX8_isOfKind_57 (by decide) ?_
      exact W.zret (v := 0) hx hb hr rfl (fun t ht hW => ⟨0, rfl, (Or.inl rfl), ht⟩) (fun q h => by cases h) dX8_isOfKind_58
    · refine lv_iconst (v := 1) hx hb dX8_isOfKind_53 (by decide) ?_
      refine lv_goto (tgt := 58) hx hb dX8_isOfKind_54 (by decide) ?_
      exact W.zret (v := 1) hx hb hr rfl (fun t ht hW => ⟨1, rfl, (Or.inr rfl), ht⟩) (fun q h => by cases h) dX8_isOfKind_58
  · refine lv_tableIn (tgt := 59) hx hb dX8_isOfKind_1 (by omega) (by omega) (by rw [c_1]; rfl) (by decide) ?_
    refine lv_aload_n hx hb dX8_isOfKind_59 rfl (lv_at hl 0 rfl) ?_
    obtain ⟨nu_4, ca_4, so_4, th_4, ma_4, wo_4, lf_4, ld_4, si_4, cp_4, he_4, re_4, sv_4, lt_4, lF_4, sn_4, ab_4, hf_4, hnu_4, hlf_4, hld_4, hsi_4, hcp_4, hsn_4, hab_4⟩ := hI.opA ha
    refine pl_get (D := D) (ci := 0) (v := .int si_4) (C := RX0) (T := TX0) (N := 17) hx hb hts hin_X0 hown hK hP ha.1 hf_4 rfl 8 (by decide) (hts (.fieldLink RX8 93 "CryOrder$Alarm" "silenced" "Z") (List.mem_cons_of_mem _ (List.mem_append_left _ (List.mem_of_getElem? (i := 1) rfl)))) (fun _ h9 => h9) rfl dX8_isOfKind_60 ?_
    exact W.zret (v := si_4) hx hb hr (by rcases hsi_4 with h9 | h9 <;> (rw [h9]; rfl)) (fun t ht hW => ⟨si_4, rfl, hsi_4, ht⟩) (fun q h => by cases h) dX8_isOfKind_63
  · refine lv_tableIn (tgt := 64) hx hb dX8_isOfKind_1 (by omega) (by omega) (by rw [c_1]; rfl) (by decide) ?_
    refine lv_aload_n hx hb dX8_isOfKind_64 rfl (lv_at hl 0 rfl) ?_
    obtain ⟨nu_5, ca_5, so_5, th_5, ma_5, wo_5, lf_5, ld_5, si_5, cp_5, he_5, re_5, sv_5, lt_5, lF_5, sn_5, ab_5, hf_5, hnu_5, hlf_5, hld_5, hsi_5, hcp_5, hsn_5, hab_5⟩ := hI.opA ha
    refine pl_get (D := D) (ci := 0) (v := .int cp_5) (C := RX0) (T := TX0) (N := 17) hx hb hts hin_X0 hown hK hP ha.1 hf_5 rfl 9 (by decide) (hts (.fieldLink RX8 100 "CryOrder$Alarm" "capped" "Z") (List.mem_cons_of_mem _ (List.mem_append_left _ (List.mem_of_getElem? (i := 2) rfl)))) (fun _ h9 => h9) rfl dX8_isOfKind_65 ?_
    exact W.zret (v := cp_5) hx hb hr (by rcases hcp_5 with h9 | h9 <;> (rw [h9]; rfl)) (fun t ht hW => ⟨cp_5, rfl, hcp_5, ht⟩) (fun q h => by cases h) dX8_isOfKind_68
  · refine lv_tableIn (tgt := 69) hx hb dX8_isOfKind_1 (by omega) (by omega) (by rw [c_1]; rfl) (by decide) ?_
    refine lv_aload_n hx hb dX8_isOfKind_69 rfl (lv_at hl 0 rfl) ?_
    obtain ⟨nu_6, ca_6, so_6, th_6, ma_6, wo_6, lf_6, ld_6, si_6, cp_6, he_6, re_6, sv_6, lt_6, lF_6, sn_6, ab_6, hf_6, hnu_6, hlf_6, hld_6, hsi_6, hcp_6, hsn_6, hab_6⟩ := hI.opA ha
    refine pl_get (D := D) (ci := 0) (v := .int sv_6) (C := RX0) (T := TX0) (N := 17) hx hb hts hin_X0 hown hK hP ha.1 hf_6 rfl 12 (by decide) (hts (.fieldLink RX8 166 "CryOrder$Alarm" "state" "I") (List.mem_cons_of_mem _ (List.mem_append_left _ (List.mem_of_getElem? (i := 3) rfl)))) (fun _ h9 => h9) rfl dX8_isOfKind_70 ?_
    refine lv_iconst (v := 1) hx hb dX8_isOfKind_73 (by decide) ?_
    refine bi_ne (zx := (sv_6).toInt) (zy := 1) (tgt := 81) hx hb dX8_isOfKind_74 (by decide) rfl (by decide) (fun c_7 => ?_) (fun c_7 => ?_)
    · refine lv_iconst (v := 0) hx hb dX8_isOfKind_81 (by decide) ?_
      exact W.zret (v := 0) hx hb hr rfl (fun t ht hW => ⟨0, rfl, (Or.inl rfl), ht⟩) (fun q h => by cases h) dX8_isOfKind_82
    · refine lv_iconst (v := 1) hx hb dX8_isOfKind_77 (by decide) ?_
      refine lv_goto (tgt := 82) hx hb dX8_isOfKind_78 (by decide) ?_
      exact W.zret (v := 1) hx hb hr rfl (fun t ht hW => ⟨1, rfl, (Or.inr rfl), ht⟩) (fun q h => by cases h) dX8_isOfKind_82
  · refine lv_tableIn (tgt := 83) hx hb dX8_isOfKind_1 (by omega) (by omega) (by rw [c_1]; rfl) (by decide) ?_
    refine lv_aload_n hx hb dX8_isOfKind_83 rfl (lv_at hl 0 rfl) ?_
    obtain ⟨nu_8, ca_8, so_8, th_8, ma_8, wo_8, lf_8, ld_8, si_8, cp_8, he_8, re_8, sv_8, lt_8, lF_8, sn_8, ab_8, hf_8, hnu_8, hlf_8, hld_8, hsi_8, hcp_8, hsn_8, hab_8⟩ := hI.opA ha
    refine pl_get (D := D) (ci := 0) (v := .int sv_8) (C := RX0) (T := TX0) (N := 17) hx hb hts hin_X0 hown hK hP ha.1 hf_8 rfl 12 (by decide) (hts (.fieldLink RX8 166 "CryOrder$Alarm" "state" "I") (List.mem_cons_of_mem _ (List.mem_append_left _ (List.mem_of_getElem? (i := 3) rfl)))) (fun _ h9 => h9) rfl dX8_isOfKind_84 ?_
    refine lv_iconst (v := 2) hx hb dX8_isOfKind_87 (by decide) ?_
    refine bi_ne (zx := (sv_8).toInt) (zy := 2) (tgt := 95) hx hb dX8_isOfKind_88 (by decide) rfl (by decide) (fun c_9 => ?_) (fun c_9 => ?_)
    · refine lv_iconst (v := 0) hx hb dX8_isOfKind_95 (by decide) ?_
      exact W.zret (v := 0) hx hb hr rfl (fun t ht hW => ⟨0, rfl, (Or.inl rfl), ht⟩) (fun q h => by cases h) dX8_isOfKind_96
    · refine lv_iconst (v := 1) hx hb dX8_isOfKind_91 (by decide) ?_
      refine lv_goto (tgt := 96) hx hb dX8_isOfKind_92 (by decide) ?_
      exact W.zret (v := 1) hx hb hr rfl (fun t ht hW => ⟨1, rfl, (Or.inr rfl), ht⟩) (fun q h => by cases h) dX8_isOfKind_96
  · refine lv_tableIn (tgt := 97) hx hb dX8_isOfKind_1 (by omega) (by omega) (by rw [c_1]; rfl) (by decide) ?_
    refine lv_aload_n hx hb dX8_isOfKind_97 rfl (lv_at hl 0 rfl) ?_
    obtain ⟨nu_10, ca_10, so_10, th_10, ma_10, wo_10, lf_10, ld_10, si_10, cp_10, he_10, re_10, sv_10, lt_10, lF_10, sn_10, ab_10, hf_10, hnu_10, hlf_10, hld_10, hsi_10, hcp_10, hsn_10, hab_10⟩ := hI.opA ha
    refine pl_get (D := D) (ci := 0) (v := .int sv_10) (C := RX0) (T := TX0) (N := 17) hx hb hts hin_X0 hown hK hP ha.1 hf_10 rfl 12 (by decide) (hts (.fieldLink RX8 166 "CryOrder$Alarm" "state" "I") (List.mem_cons_of_mem _ (List.mem_append_left _ (List.mem_of_getElem? (i := 3) rfl)))) (fun _ h9 => h9) rfl dX8_isOfKind_98 ?_
    refine lv_iconst (v := 1) hx hb dX8_isOfKind_101 (by decide) ?_
    refine bi_ne (zx := (sv_10).toInt) (zy := 1) (tgt := 116) hx hb dX8_isOfKind_102 (by decide) rfl (by decide) (fun c_11 => ?_) (fun c_11 => ?_)
    · refine lv_iconst (v := 0) hx hb dX8_isOfKind_116 (by decide) ?_
      exact W.zret (v := 0) hx hb hr rfl (fun t ht hW => ⟨0, rfl, (Or.inl rfl), ht⟩) (fun q h => by cases h) dX8_isOfKind_117
    · refine lv_aload_n hx hb dX8_isOfKind_105 rfl (lv_at hl 0 rfl) ?_
      refine vp_callSi (wrV (As := []) (rest := []) ⟨hx, hb, hml, hown, hts⟩ hN hK hP hD (c_X0_isHushed l D X0 L K f S tys a hI ha) (cwV 0 hts gX8_isOfKind_X0_isHushed rfl rfl rfl (by decide +kernel) ⟨(Nat.le_of_ble_eq_true rfl), (Nat.le_of_ble_eq_true rfl)⟩) 0 rfl (cq_rcA (X := X0) hI ha) rfl hl.1 rfl (Nat.le_of_ble_eq_true rfl) dX8_isOfKind_106 ⟨(Nat.le_of_ble_eq_true rfl), (Nat.le_of_ble_eq_true rfl)⟩) (fun r_12 h_13 => ?_)
      rcases h_13 with ⟨h_13, rfl⟩ | ⟨h_13, rfl⟩
      · have h_13 : True := h_13
        refine lv_if_eq (tgt := 116) hx hb dX8_isOfKind_109 (by decide) (fun c_ => absurd c_ (by decide)) (fun _ => ?_)
        refine lv_iconst (v := 1) hx hb dX8_isOfKind_112 (by decide) ?_
        refine lv_goto (tgt := 117) hx hb dX8_isOfKind_113 (by decide) ?_
        exact W.zret (v := 1) hx hb hr rfl (fun t ht hW => ⟨1, rfl, (Or.inr rfl), ht⟩) (fun q h => by cases h) dX8_isOfKind_117
      · have h_13 : True := h_13
        refine lv_if_eq (tgt := 116) hx hb dX8_isOfKind_109 (by decide) (fun _ => ?_) (fun c_ => absurd c_ (by decide))
        refine lv_iconst (v := 0) hx hb dX8_isOfKind_116 (by decide) ?_
        exact W.zret (v := 0) hx hb hr rfl (fun t ht hW => ⟨0, rfl, (Or.inl rfl), ht⟩) (fun q h => by cases h) dX8_isOfKind_117
  · refine lv_tableOut (tgt := 118) hx hb dX8_isOfKind_1 (by omega) (by decide) ?_
    refine lv_iconst (v := 0) hx hb dX8_isOfKind_118 (by decide) ?_
    exact W.zret (v := 0) hx hb hr rfl (fun t ht hW => ⟨0, rfl, (Or.inl rfl), ht⟩) (fun q h => by cases h) dX8_isOfKind_119

set_option maxHeartbeats 4000000 in
set_option maxRecDepth 100000 in
theorem cl_nodeFor {p : Program} {l : Launch} {e : Env} {R : Room} {s : State} {m : MethodId} {args : Array Value} {below : List Frame} {meth : Method} {c : Code} {Q : State → Prop} {A : Nat → Prop} {cells slots : Nat} {D : va_G} {H : Heap} {locs : List Loc} {X0 : va_W} {L : List Nat} {K : Nat → Nat × Nat} {f : Nat → va_E} {S : Int} {tys : List (ClassId × FieldType)} {a : Nat} {v : Int32} (hx : p.tables.exec = Jvm.exec) (hb : c.code = cX0_nodeFor) (hts : ∀ w ∈ wsX0_nodeFor, w.before args s = true) (hml : c.maxLocals = 3) (hown : s.vm.findClass RX0 = some m.cls) (hN : Nq s) (hK : va_K D vwCl tys s) (hP : va_P D vwCl (X0 ++ va_pl L f) H) (hD : va_D A (X0 ++ va_pl L f)) (hR : 0 ≤ R.frames ∧ 0 ≤ R.locals) (hcs : cells ≤ R.cells ∧ slots ≤ R.slots) (hI : cqI S L K f) (done_28 : ∀ (at1 : Nat) (ls : Array Slot), (cqIs L K 3 at1) → lv_has ls 3 [(2, .ref at1), (0, .ref a), (1, .int v)] → W p l e R s m args below meth c H locs cells slots Q (F0 m 28 ls [])) : ∀ (n : Nat), ∀ (at1 : Nat) (ls : Array Slot), (cqIs L K 3 at1) → ((K at1).2 < n) → lv_has ls 3 [(2, .ref at1), (0, .ref a), (1, .int v)] → W p l e R s m args below meth c H locs cells slots Q (F0 m 5 ls []) := by
  have hin_X3 : ∀ w ∈ u_ws RX3 TX3 8, w ∈ wsX0_nodeFor := fun w h => List.mem_cons_of_mem _ (List.mem_append_right _ (h))
  intro n
  induction n with
  | zero => intro at1 ls hat hmu hl; exact absurd hmu (Nat.not_lt_zero _)
  | succ n ih =>
    intro at1 ls hat hmu hl
    refine lv_aload_n hx hb dX0_nodeFor_5 rfl (lv_at hl 0 rfl) ?_
    obtain ⟨pa_1, de_1, ma_1, sb_1, fc_1, tu_1, sd_1, op_1, hf_1, hpa_1, hsb_1, hfc_1⟩ := hI.opN hat
    refine pl_get (D := D) (ci := 3) (v := .int sd_1) (C := RX3) (T := TX3) (N := 8) hx hb hts hin_X3 hown hK hP hat.1 hf_1 rfl 6 (by decide) (hts (.fieldLink RX0 78 "CryOrder$Node" "settled" "I") (List.mem_cons_of_mem _ (List.mem_append_left _ (List.mem_append_left _ (List.mem_of_getElem? (i := 1) rfl))))) (fun _ h9 => h9) rfl dX0_nodeFor_6 ?_
    refine lv_iload_n hx hb dX0_nodeFor_9 rfl (lv_at hl 2 rfl) ?_
    refine bi_ge (zx := (sd_1).toInt) (zy := (v).toInt) (tgt := 28) hx hb dX0_nodeFor_10 (by decide) rfl rfl (fun c_2 => ?_) (fun c_2 => ?_)
    · exact done_28 at1 _ hat (lv_sub hl [0, 1, 2] rfl)
    · refine lv_aload_n hx hb dX0_nodeFor_13 rfl (lv_at hl 0 rfl) ?_
      refine pl_get (D := D) (ci := 3) (v := va_rf pa_1) (C := RX3) (T := TX3) (N := 8) hx hb hts hin_X3 hown hK hP hat.1 hf_1 rfl 0 (by decide) (hts (.fieldLink RX0 83 "CryOrder$Node" "parent" "LCryOrder$Node;") (List.mem_cons_of_mem _ (List.mem_append_left _ (List.mem_append_left _ (List.mem_of_getElem? (i := 2) rfl))))) (fun _ h9 => h9) rfl dX0_nodeFor_14 ?_
      rcases pa_1 with _ | b_3
      · have hf_1 : f at1 = .inr (3, [.null, .int de_1, .int ma_1, va_rf sb_1, va_rf fc_1, .int tu_1, .int sd_1, .int op_1]) := hf_1
        refine lv_ifnullN (tgt := 28) hx hb dX0_nodeFor_17 (by decide) ?_
        exact done_28 at1 _ hat (lv_sub hl [0, 1, 2] rfl)
      · have hf_1 : f at1 = .inr (3, [.ref b_3, .int de_1, .int ma_1, va_rf sb_1, va_rf fc_1, .int tu_1, .int sd_1, .int op_1]) := hf_1
        obtain ⟨is_4, lis_4⟩ := hpa_1 b_3 rfl
        refine lv_ifnull hx hb dX0_nodeFor_17 ?_
        refine lv_aload_n hx hb dX0_nodeFor_20 rfl (lv_at hl 0 rfl) ?_
        refine pl_get (D := D) (ci := 3) (v := .ref b_3) (C := RX3) (T := TX3) (N := 8) hx hb hts hin_X3 hown hK hP hat.1 hf_1 rfl 0 (by decide) (hts (.fieldLink RX0 83 "CryOrder$Node" "parent" "LCryOrder$Node;") (List.mem_cons_of_mem _ (List.mem_append_left _ (List.mem_append_left _ (List.mem_of_getElem? (i := 2) rfl))))) (fun _ h9 => h9) rfl dX0_nodeFor_21 ?_
        refine lv_astore_n (lv' := [(2, .ref b_3), (0, .ref a), (1, .int v)]) hx hb dX0_nodeFor_24 rfl hl (by decide) rfl (fun ls hl => ?_)
        refine lv_goto (tgt := 5) hx hb dX0_nodeFor_25 (by decide) ?_
        exact ih b_3 _ is_4 (by omega) (lv_sub hl [0, 1, 2] rfl)

set_option maxHeartbeats 4000000 in
set_option maxRecDepth 100000 in
theorem c_X0_nodeFor (l : Launch) (D : va_G) (X0 : va_W) (L : List Nat) (K : Nat → Nat × Nat) (f : Nat → va_E) (S : Int) (tys : List (ClassId × FieldType)) (a : Nat) (v : Int32) (hI : cqI S L K f) (ha : cqIs L K 0 a) : Met l yX0_nodeFor wsX0_nodeFor ({ frames := 0, cells := 0, slots := 0, locals := 0 }) (va_Pc [.ref a, .int v] (wo D tys (X0 ++ va_pl L f))) (va_Sq (fun r => ∃ b, r = some b ∧ cqIs L K 3 b)) 0 0 (fun _ => False) := by
  refine Met.ofW (cc := cX0_nodeFor) (maxL := 3) (ret := (some (.object "CryOrder$Node"))) (by decide) rfl ?_
  intro p e s m args below meth c s₁ B hml hv
  obtain ⟨rfl, hP, hK, hD, hN⟩ := hv
  have hx := B.exec
  have hb := B.bytes
  have hr := B.returns
  have hts := atoms_spec (ws := wsX0_nodeFor) B.pre
  have hown : s.vm.findClass RX0 = some m.cls := findClass_of_methodNamed B.named
  have hlocks := B.notSynchronized
  have hin_X0 : ∀ w ∈ u_ws RX0 TX0 17, w ∈ wsX0_nodeFor := fun w h => List.mem_cons_of_mem _ (List.mem_append_left _ (List.mem_append_right _ (h)))
  have hl := lv_entry ([.ref a, .int v]) (n := 3) (Nat.le_of_ble_eq_true rfl)
  rw [lg_entry_eq]
  generalize (lg_sl ([.ref a, .int v]) ++ List.replicate (3 - (lg_sl ([.ref a, .int v])).length) Slot.unset).toArray = ls at hl ⊢
  have hl : lv_has ls 3 [(0, .ref a), (1, .int v)] := hl
  refine lv_aload_n hx hb dX0_nodeFor_0 rfl (lv_at hl 0 rfl) ?_
  obtain ⟨nu_1, ca_1, so_1, th_1, ma_1, wo_1, lf_1, ld_1, si_1, cp_1, he_1, re_1, sv_1, lt_1, lF_1, sn_1, ab_1, hf_1, hnu_1, hlf_1, hld_1, hsi_1, hcp_1, hsn_1, hab_1⟩ := hI.opA ha
  refine pl_get (D := D) (ci := 0) (v := .ref lf_1) (C := RX0) (T := TX0) (N := 17) hx hb hts hin_X0 hown hK hP ha.1 hf_1 rfl 6 (by decide) (hts (.fieldLink RX0 33 "CryOrder$Alarm" "leaf" "LCryOrder$Node;") (List.mem_cons_of_mem _ (List.mem_append_left _ (List.mem_append_left _ (List.mem_of_getElem? (i := 0) rfl))))) (fun _ h9 => h9) rfl dX0_nodeFor_1 ?_
  refine lv_astore_n (lv' := [(2, .ref lf_1), (0, .ref a), (1, .int v)]) hx hb dX0_nodeFor_4 rfl hl (by decide) rfl (fun ls hl => ?_)
  refine cl_nodeFor hx hb hts hml hown hN hK hP hD ⟨(Nat.le_of_ble_eq_true rfl), (Nat.le_of_ble_eq_true rfl)⟩ ⟨(Nat.le_of_ble_eq_true rfl), (Nat.le_of_ble_eq_true rfl)⟩ hI (fun at_2 ls h_4 hl => ?_) _ lf_1 _ hlf_1 (Nat.lt_succ_self _) (lv_sub hl [0, 1, 2] rfl)
  have h_4 : cqIs L K 3 at_2 := h_4
  refine lv_aload_n hx hb dX0_nodeFor_28 rfl (lv_at hl 0 rfl) ?_
  exact W.aret (v := .ref at_2) hx hb hr (Or.inl ⟨_, rfl⟩) (Or.inr ⟨_, rfl⟩) (fun t ht hW => ⟨(some at_2), rfl, ⟨_, rfl, h_4⟩, ht⟩) (fun q h => by cases h) dX0_nodeFor_29

set_option maxHeartbeats 4000000 in
set_option maxRecDepth 100000 in
theorem c_X0_score (l : Launch) (D : va_G) (X0 : va_W) (L : List Nat) (K : Nat → Nat × Nat) (f : Nat → va_E) (S : Int) (tys : List (ClassId × FieldType)) (a : Nat) (v : Int32) (hI : cqI S L K f) (ha : cqIs L K 0 a) : Met l yX0_score wsX0_score ({ frames := 1, cells := 0, slots := 0, locals := 22 }) (va_Pc [.ref a, .int v] (wo D tys (X0 ++ va_pl L f))) (vp_Si (fun r => True)) 0 0 (fun _ => False) := by
  refine Met.ofW (cc := cX0_score) (maxL := 4) (ret := (some .int)) (by decide) rfl ?_
  intro p e s m args below meth c s₁ B hml hv
  obtain ⟨rfl, hP, hK, hD, hN⟩ := hv
  have hx := B.exec
  have hb := B.bytes
  have hr := B.returns
  have hts := atoms_spec (ws := wsX0_score) B.pre
  have hown : s.vm.findClass RX0 = some m.cls := findClass_of_methodNamed B.named
  have hlocks := B.notSynchronized
  have hin_X0 : ∀ w ∈ u_ws RX0 TX0 17, w ∈ wsX0_score := fun w h => List.mem_cons_of_mem _ (List.mem_append_left _ (List.mem_append_right _ (h)))
  have hl := lv_entry ([.ref a, .int v]) (n := 4) (Nat.le_of_ble_eq_true rfl)
  rw [lg_entry_eq]
  generalize (lg_sl ([.ref a, .int v]) ++ List.replicate (4 - (lg_sl ([.ref a, .int v])).length) Slot.unset).toArray = ls at hl ⊢
  have hl : lv_has ls 4 [(0, .ref a), (1, .int v)] := hl
  refine lv_aload_n hx hb dX0_score_0 rfl (lv_at hl 0 rfl) ?_
  refine lv_iload_n hx hb dX0_score_1 rfl (lv_at hl 1 rfl) ?_
  refine va_csq (wrV (As := [.int v]) (rest := []) ⟨hx, hb, hml, hown, hts⟩ hN hK hP hD (c_X0_nodeFor l D X0 L K f S tys a v hI ha) (cwV 1 hts gX0_score_X0_nodeFor rfl rfl rfl (by decide +kernel) ⟨(Nat.le_of_ble_eq_true rfl), (Nat.le_of_ble_eq_true rfl)⟩) 0 rfl (cq_rcA (X := X0) hI ha) rfl hl.1 rfl (Nat.le_of_ble_eq_true rfl) dX0_score_2 ⟨(Nat.le_of_ble_eq_true rfl), (Nat.le_of_ble_eq_true rfl)⟩) (fun r_1 h_2 => ?_)
  obtain ⟨b_3, rfl, is_4⟩ := h_2
  refine lv_topv (z := .ref b_3) rfl ?_
  refine lv_astore_n (lv' := [(2, .ref b_3), (0, .ref a), (1, .int v)]) hx hb dX0_score_5 rfl hl (by decide) rfl (fun ls hl => ?_)
  refine lv_aload_n hx hb dX0_score_6 rfl (lv_at hl 0 rfl) ?_
  refine vp_callSi (wrV (As := []) (rest := []) ⟨hx, hb, hml, hown, hts⟩ hN hK hP hD (c_X3_oddsLower l D X0 L K f S tys b_3 hI is_4) (cwV 0 hts gX0_score_X3_oddsLower rfl rfl rfl (by decide +kernel) ⟨(Nat.le_of_ble_eq_true rfl), (Nat.le_of_ble_eq_true rfl)⟩) 3 rfl (cq_rcN (X := X0) hI is_4) rfl hl.1 rfl (Nat.le_of_ble_eq_true rfl) dX0_score_7 ⟨(Nat.le_of_ble_eq_true rfl), (Nat.le_of_ble_eq_true rfl)⟩) (fun r_5 h_6 => ?_)
  refine lv_istore_n (lv' := [(3, .int r_5), (2, .ref b_3), (0, .ref a), (1, .int v)]) hx hb dX0_score_10 rfl hl (by decide) rfl (fun ls hl => ?_)
  refine lv_iload_n hx hb dX0_score_11 rfl (lv_at hl 0 rfl) ?_
  refine lv_iconst (v := 1) hx hb dX0_score_12 (by decide) ?_
  refine bi_ge (zx := (r_5).toInt) (zy := 1) (tgt := 20) hx hb dX0_score_13 (by decide) rfl (by decide) (fun c_7 => ?_) (fun c_7 => ?_)
  · refine lv_sipush (v := 1000) hx hb dX0_score_20 (by decide) ?_
    refine lv_aload_n hx hb dX0_score_23 rfl (lv_at hl 2 rfl) ?_
    obtain ⟨nu_8, ca_8, so_8, th_8, ma_8, wo_8, lf_8, ld_8, si_8, cp_8, he_8, re_8, sv_8, lt_8, lF_8, sn_8, ab_8, hf_8, hnu_8, hlf_8, hld_8, hsi_8, hcp_8, hsn_8, hab_8⟩ := hI.opA ha
    refine pl_get (D := D) (ci := 0) (v := .int wo_8) (C := RX0) (T := TX0) (N := 17) hx hb hts hin_X0 hown hK hP ha.1 hf_8 rfl 5 (by decide) (hts (.fieldLink RX0 30 "CryOrder$Alarm" "worth" "I") (List.mem_cons_of_mem _ (List.mem_append_left _ (List.mem_append_left _ (List.mem_of_getElem? (i := 0) rfl))))) (fun _ h9 => h9) rfl dX0_score_24 ?_
    refine lv_imul hx hb dX0_score_27 ?_
    refine lv_topi (fun z_9 ez_9 => ?_)
    have tz_9 := ml_toInt (zx := 1000) (zy := (wo_8).toInt) ez_9 (by decide) rfl
    refine lv_aload_n hx hb dX0_score_28 rfl (lv_at hl 1 rfl) ?_
    refine vp_callSi (wrV (As := []) (rest := [.int z_9]) ⟨hx, hb, hml, hown, hts⟩ hN hK hP hD (c_X3_oddsUpper l D X0 L K f S tys b_3 hI is_4) (cwV 0 hts gX0_score_X3_oddsUpper rfl rfl rfl (by decide +kernel) ⟨(Nat.le_of_ble_eq_true rfl), (Nat.le_of_ble_eq_true rfl)⟩) 3 rfl (cq_rcN (X := X0) hI is_4) rfl hl.1 rfl (Nat.le_of_ble_eq_true rfl) dX0_score_29 ⟨(Nat.le_of_ble_eq_true rfl), (Nat.le_of_ble_eq_true rfl)⟩) (fun r_10 h_11 => ?_)
    refine lv_imul hx hb dX0_score_32 ?_
    refine lv_topi (fun z_12 ez_12 => ?_)
    refine lv_iload_n hx hb dX0_score_33 rfl (lv_at hl 0 rfl) ?_
    refine lv_idiv hx hb dX0_score_34 (ne0_of (zy := (r_5).toInt) (by omega) rfl) ?_
    refine lv_topi (fun z_13 ez_13 => ?_)
    exact W.iret (v := z_13) hx hb hr (fun t ht hW => ⟨z_13, rfl, trivial, ht⟩) (fun q h => by cases h) dX0_score_35
  · refine lv_iconst (v := 0) hx hb dX0_score_16 (by decide) ?_
    refine lv_goto (tgt := 35) hx hb dX0_score_17 (by decide) ?_
    exact W.iret (v := 0) hx hb hr (fun t ht hW => ⟨0, rfl, trivial, ht⟩) (fun q h => by cases h) dX0_score_35

set_option maxHeartbeats 4000000 in
set_option maxRecDepth 100000 in
theorem cl_head {p : Program} {l : Launch} {e : Env} {R : Room} {s : State} {m : MethodId} {args : Array Value} {below : List Frame} {meth : Method} {c : Code} {Q : State → Prop} {A : Nat → Prop} {cells slots : Nat} {D : va_G} {H : Heap} {locs : List Loc} {X0 : va_W} {L : List Nat} {K : Nat → Nat × Nat} {f : Nat → va_E} {S : Int} {tys : List (ClassId × FieldType)} {a : Nat} (hx : p.tables.exec = Jvm.exec) (hb : c.code = cX0_head) (hts : ∀ w ∈ wsX0_head, w.before args s = true) (hml : c.maxLocals = 2) (hown : s.vm.findClass RX0 = some m.cls) (hN : Nq s) (hK : va_K D vwCl tys s) (hP : va_P D vwCl (X0 ++ va_pl L f) H) (hD : va_D A (X0 ++ va_pl L f)) (hR : 0 ≤ R.frames ∧ 0 ≤ R.locals) (hcs : cells ≤ R.cells ∧ slots ≤ R.slots) (hI : cqI S L K f) (done_17 : ∀ (at1 : Nat) (ls : Array Slot), (cqIs L K 0 at1) → ((K at1).2 ≤ (K a).2) → lv_has ls 2 [(1, .ref at1), (0, .ref a)] → W p l e R s m args below meth c H locs cells slots Q (F0 m 17 ls [])) : ∀ (n : Nat), ∀ (at1 : Nat) (ls : Array Slot), (cqIs L K 0 at1) → ((K at1).2 ≤ (K a).2) → ((K at1).2 < n) → lv_has ls 2 [(1, .ref at1), (0, .ref a)] → W p l e R s m args below meth c H locs cells slots Q (F0 m 2 ls []) := by
  have hin_X0 : ∀ w ∈ u_ws RX0 TX0 17, w ∈ wsX0_head := fun w h => List.mem_cons_of_mem _ (List.mem_append_right _ (h))
  intro n
  induction n with
  | zero => intro at1 ls hat hle hmu hl; exact absurd hmu (Nat.not_lt_zero _)
  | succ n ih =>
    intro at1 ls hat hle hmu hl
    refine lv_aload_n hx hb dX0_head_2 rfl (lv_at hl 0 rfl) ?_
    obtain ⟨nu_1, ca_1, so_1, th_1, ma_1, wo_1, lf_1, ld_1, si_1, cp_1, he_1, re_1, sv_1, lt_1, lF_1, sn_1, ab_1, hf_1, hnu_1, hlf_1, hld_1, hsi_1, hcp_1, hsn_1, hab_1⟩ := hI.opA hat
    refine pl_get (D := D) (ci := 0) (v := va_rf ab_1) (C := RX0) (T := TX0) (N := 17) hx hb hts hin_X0 hown hK hP hat.1 hf_1 rfl 16 (by decide) (hts (.fieldLink RX0 97 "CryOrder$Alarm" "above" "LCryOrder$Alarm;") (List.mem_cons_of_mem _ (List.mem_append_left _ (List.mem_of_getElem? (i := 0) rfl)))) (fun _ h9 => h9) rfl dX0_head_3 ?_
    rcases ab_1 with _ | b_2
    · have hf_1 : f at1 = .inr (0, [.int nu_1, .int ca_1, .int so_1, .int th_1, .int ma_1, .int wo_1, .ref lf_1, .ref ld_1, .int si_1, .int cp_1, .int he_1, .int re_1, .int sv_1, .int lt_1, .int lF_1, va_rf sn_1, .null]) := hf_1
      refine lv_ifnullN (tgt := 17) hx hb dX0_head_6 (by decide) ?_
      exact done_17 at1 _ hat (by first | omega | assumption | decide | (have h3 : (0 : Int32).toInt = 0 := rfl; omega) | (have h3 : (0 : Int32).toInt = 0 := rfl; have h4 : (1 : Int32).toInt = 1 := rfl; have h5 : (-1 : Int32).toInt = -1 := rfl; omega)) (lv_sub hl [0, 1] rfl)
    · have hf_1 : f at1 = .inr (0, [.int nu_1, .int ca_1, .int so_1, .int th_1, .int ma_1, .int wo_1, .ref lf_1, .ref ld_1, .int si_1, .int cp_1, .int he_1, .int re_1, .int sv_1, .int lt_1, .int lF_1, va_rf sn_1, .ref b_2]) := hf_1
      obtain ⟨is_3, lis_3⟩ := hab_1 b_2 rfl
      refine lv_ifnull hx hb dX0_head_6 ?_
      refine lv_aload_n hx hb dX0_head_9 rfl (lv_at hl 0 rfl) ?_
      refine pl_get (D := D) (ci := 0) (v := .ref b_2) (C := RX0) (T := TX0) (N := 17) hx hb hts hin_X0 hown hK hP hat.1 hf_1 rfl 16 (by decide) (hts (.fieldLink RX0 97 "CryOrder$Alarm" "above" "LCryOrder$Alarm;") (List.mem_cons_of_mem _ (List.mem_append_left _ (List.mem_of_getElem? (i := 0) rfl)))) (fun _ h9 => h9) rfl dX0_head_10 ?_
      refine lv_astore_n (lv' := [(1, .ref b_2), (0, .ref a)]) hx hb dX0_head_13 rfl hl (by decide) rfl (fun ls hl => ?_)
      refine lv_goto (tgt := 2) hx hb dX0_head_14 (by decide) ?_
      exact ih b_2 _ is_3 (by first | omega | assumption | decide | (have h3 : (0 : Int32).toInt = 0 := rfl; omega) | (have h3 : (0 : Int32).toInt = 0 := rfl; have h4 : (1 : Int32).toInt = 1 := rfl; have h5 : (-1 : Int32).toInt = -1 := rfl; omega)) (by omega) (lv_sub hl [0, 1] rfl)

set_option maxHeartbeats 4000000 in
set_option maxRecDepth 100000 in
theorem c_X0_head (l : Launch) (D : va_G) (X0 : va_W) (L : List Nat) (K : Nat → Nat × Nat) (f : Nat → va_E) (S : Int) (tys : List (ClassId × FieldType)) (a : Nat) (hI : cqI S L K f) (ha : cqIs L K 0 a) : Met l yX0_head wsX0_head ({ frames := 0, cells := 0, slots := 0, locals := 0 }) (va_Pc [.ref a] (wo D tys (X0 ++ va_pl L f))) (va_Sq (fun r => ∃ b, r = some b ∧ cqIs L K 0 b)) 0 0 (fun _ => False) := by
  refine Met.ofW (cc := cX0_head) (maxL := 2) (ret := (some (.object "CryOrder$Alarm"))) (by decide) rfl ?_
  intro p e s m args below meth c s₁ B hml hv
  obtain ⟨rfl, hP, hK, hD, hN⟩ := hv
  have hx := B.exec
  have hb := B.bytes
  have hr := B.returns
  have hts := atoms_spec (ws := wsX0_head) B.pre
  have hown : s.vm.findClass RX0 = some m.cls := findClass_of_methodNamed B.named
  have hlocks := B.notSynchronized
  have hl := lv_entry ([.ref a]) (n := 2) (Nat.le_of_ble_eq_true rfl)
  rw [lg_entry_eq]
  generalize (lg_sl ([.ref a]) ++ List.replicate (2 - (lg_sl ([.ref a])).length) Slot.unset).toArray = ls at hl ⊢
  have hl : lv_has ls 2 [(0, .ref a)] := hl
  refine lv_aload_n hx hb dX0_head_0 rfl (lv_at hl 0 rfl) ?_
  refine lv_astore_n (lv' := [(1, .ref a), (0, .ref a)]) hx hb dX0_head_1 rfl hl (by decide) rfl (fun ls hl => ?_)
  refine cl_head hx hb hts hml hown hN hK hP hD ⟨(Nat.le_of_ble_eq_true rfl), (Nat.le_of_ble_eq_true rfl)⟩ ⟨(Nat.le_of_ble_eq_true rfl), (Nat.le_of_ble_eq_true rfl)⟩ hI (fun at_1 ls h_3 h_4 hl => ?_) _ a _ ha (by first | omega | assumption | decide | (have h3 : (0 : Int32).toInt = 0 := rfl; omega) | (have h3 : (0 : Int32).toInt = 0 := rfl; have h4 : (1 : Int32).toInt = 1 := rfl; have h5 : (-1 : Int32).toInt = -1 := rfl; omega)) (Nat.lt_succ_self _) (lv_sub hl [0, 1] rfl)
  have h_3 : cqIs L K 0 at_1 := h_3
  have h_4 : (K at_1).2 ≤ (K a).2 := h_4
  refine lv_aload_n hx hb dX0_head_17 rfl (lv_at hl 0 rfl) ?_
  exact W.aret (v := .ref at_1) hx hb hr (Or.inl ⟨_, rfl⟩) (Or.inr ⟨_, rfl⟩) (fun t ht hW => ⟨(some at_1), rfl, ⟨_, rfl, h_3⟩, ht⟩) (fun q h => by cases h) dX0_head_18
