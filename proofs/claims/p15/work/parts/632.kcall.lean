section KCL
variable {V U Y : Nat → Nat → Int} {ns nw cap so th ma wo na le s tz tz9 a b w1 : Int} {n nt cz : Nat} {L L' : List Nat} {K K' : Nat → Nat × Nat} {f f9 : Nat → va_E} {g g5 : Nat → Option Nat} {X : List (Nat × Nat)}
theorem kf_bad (h : ¬ alOK so th ma wo) (q : s = 0 → kFit V Y n nt le f g g5 cz) : s = 0 → kFit (alX V U na ns nw cap so th ma wo).2.2 Y n nt le f g g5 cz := by
  rw [alX_bad h]; exact q
theorem kf_full (h : alOK so th ma wo) (hx : rpS V so th ma nw na.toNat g none) (hn : 200 ≤ na) (q : s = 0 → kFit V Y n nt le f g g5 cz) : s = 0 → kFit (alX V U na ns nw cap so th ma wo).2.2 Y n nt le f g g5 cz := by
  rw [alX_full h (hx.2 rfl) hn]; exact q
theorem kf_rep {d : Nat} (h : alOK so th ma wo) (hx : rpS V so th ma nw na.toNat g (some d)) (q : s = 0 → kFit V Y n nt le f g g5 cz) (h0 : tC L K f g n) (j : jN L K n g) (t : cqT [(0, 10), (0, 11)] L K f f9) : s = 0 → kFit (alX V U na ns nw cap so th ma wo).2.2 Y n nt le f9 g g5 cz := fun e => by
  obtain ⟨i, e1, e2⟩ := hx.1 d rfl
  rw [alX_rep h e1]
  refine ((q e).fr h0 j t (by decide)).cong (fun i' k hk => ?_)
  show va_up V i (reRow (V i) nw) i' k = V i' k
  by_cases z : i' = i
  · rw [z, va_up_self]
    unfold reRow
    rw [if_neg (by omega), if_neg (by omega)]
  · rw [va_up_ne _ _ z]
theorem tC.more {g9 : Nat → Option Nat} {q d n9 : Nat} {m : Int32} (h : tC L K f g n) (j : jN L K n g) (gg : cqG L K L' K') (t : cqT X L K f f9) (hX : (0, 7) ∉ X ∧ (1, 0) ∉ X) (eg : g9 = va_up g m.toNatClampNeg (some q)) (em : m.toNatClampNeg = n) (h7 : cqRf (f9 q) 7 = some d) (hd : cqIs L' K' 1 d) (h0 : cqF (f9 d) 0 = (n : Int)) (hn : n9 = n + 1) : tC L' K' f9 g9 n9 := fun i hi c hc => by
  rw [em] at eg
  rw [eg] at hc
  by_cases z : i = n
  · rw [z, va_up_self] at hc
    cases hc
    exact ⟨d, h7, hd, by rw [z]; exact h0⟩
  · rw [va_up_ne _ _ z] at hc
    exact (h.fr j gg t hX) i (by omega) c hc
theorem kf_vno {v0 : Int} {v w : Int32} (h : ¬ veOK V na v0 v) (q : s = 0 → kFit V Y n nt le f g g5 cz) : s = 0 → kFit (veX V na v0 v w).2 Y n nt le f g g5 cz := by
  rw [veX_no h]; exact q
theorem kf_v0 {v0 : Int} {v w : Int32} {S : Int} (ok : veOK V na v0 v) (eS : S = heS (heT (V v0.toNat 13) v w) (heF (V v0.toNat 14) v w) (V v0.toNat 12)) (hS0 : S = 0) (q : s = 0 → kFit V Y n nt le f g g5 cz) (h0 : tC L K f g n) (j : jN L K n g) (t : cqT [(0, 12), (0, 13), (0, 14)] L K f f9) : s = 0 → kFit (veX V na v0 v w).2 Y n nt le f9 g g5 cz := fun e => by
  rw [veX_ok ok, ← eS]
  refine ((q e).fr h0 j t (by decide)).cong (fun i' k hk => ?_)
  show va_up V v0.toNat (veRow (V v0.toNat) (heT (V v0.toNat 13) v w) (heF (V v0.toNat 14) v w) S) i' k = V i' k
  by_cases z : i' = v0.toNat
  · rw [z, va_up_self]
    unfold veRow
    rw [if_neg (by omega), if_neg (by omega)]
    by_cases z2 : k = 12
    · rw [if_pos z2, z2, hS0, ok.2.2.1]
    · rw [if_neg z2]
  · rw [va_up_ne _ _ z]
theorem kf_tno (h : ¬ tiOK na a b) (q : s = 0 → kFit V Y n nt le f g g5 cz) : s = 0 → kFit V (tiX Y na tz a b w1).2.2 n nt le f g g5 cz := by
  rw [tiX_no h]; exact q
theorem te_0 (h : (teX Y tz a b w1).1 = 0) : (teX Y tz a b w1).2.1 = tz ∧ (teX Y tz a b w1).2.2 = Y := by
  rcases e : fdF Y a b tz.toNat with _ | i
  · by_cases z : 60 ≤ tz
    · rw [teX_full e z]; exact ⟨rfl, rfl⟩
    · rw [teX_new e z] at h; exact absurd h (show ¬ (1 : Int) = 0 by decide)
  · by_cases z : Y i 2 = w1
    · rw [teX_so e z]; exact ⟨rfl, rfl⟩
    · rw [teX_ch e z] at h; exact absurd h (show ¬ (1 : Int) = 0 by decide)
theorem kf_t0 (h : tiOK na a b) (ht : (teX Y tz a b w1).1 = 0) (q : s = 0 → kFit V Y n tz.toNat le f g g5 cz) (h0 : tC L K f g n) (j : jN L K n g) (t : cqT [(4, 2)] L K f f9) (e : tz9 = (tiX Y na tz a b w1).2.1) : s = 0 → kFit V (tiX Y na tz a b w1).2.2 n tz9.toNat le f9 g g5 cz := fun es => by
  obtain ⟨e1, e2⟩ := te_0 ht
  rw [tiX_yes h, e1] at e
  rw [tiX_yes h, e2, e]
  exact (q es).fr h0 j t (by decide)
end KCL
