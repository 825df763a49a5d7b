/-! COUNTS, FOGGERS' NUMBERS in class and model -/
theorem bought_eq {F A : Nat → Nat → Int32} {fb q2 : Nat} {wv : Nat → Int32} (h : CplF F fb A q2 wv) : boughtF F fb = boM A q2 := by
  unfold boughtF boM
  rw [(h 0 (by omega)).1 2 (by omega), (h 1 (by omega)).1 2 (by omega), (h 2 (by omega)).1 2 (by omega), (h 3 (by omega)).1 2 (by omega), Int32.zero_add]
theorem sums_eq {N F A : Nat → Nat → Int32} {b fb q q2 c k : Nat} {wv : Nat → Int32} (h : Cpl N b A q c) (hF : CplF F fb A q2 wv) (h3 : 3 ≤ k) (h10 : k ≤ 10) : (if k = 6 then boughtF F fb else shS (c + 1) k c b 0 N 0) = sdM A q q2 c k := by
  unfold sdM
  by_cases e6 : k = 6
  · subst e6
    rw [if_pos rfl, if_neg (by omega), if_neg (by omega), if_pos rfl]
    exact bought_eq hF
  · rw [if_neg e6]
    by_cases e4 : k = 4
    · subst e4
      rw [if_pos rfl]
      exact sh_four (t := 12) h (by omega) (fun v => rfl) (c + 1) 0 0 0 0 0
    · rw [if_neg e4]
      by_cases e5 : k = 5
      · subst e5
        rw [if_pos rfl]
        exact sh_four (t := 16) h (by omega) (fun v => rfl) (c + 1) 0 0 0 0 0
      · rw [if_neg e5, if_neg e6]
        exact sh_one h (by omega) (fun v => by unfold share; rw [if_neg (by omega), if_neg e4, if_neg e5]) (c + 1) 0 0
theorem tot_eq0 {N F T A : Nat → Nat → Int32} {K : Nat → Int32} {c k : Nat} {wv : Nat → Int32} (h : Cpl N (12 * 0) A 0 c) (hF : CplF F (4 * 0) A 1 wv) (hT0 : T 0 0 = K 1) (hT1 : T 0 1 = K 2) (h10 : k ≤ 10) : totN N F T 0 c k = cdM K A c k := by
  unfold totN cdM
  by_cases e0 : k = 0
  · rw [if_pos e0, if_pos e0, hT0]
  · by_cases e1 : k = 1
    · rw [if_neg e0, if_pos e1, if_neg e0, if_pos e1, hT1]
    · rw [if_neg e0, if_neg e1, if_neg e0, if_neg e1]
      by_cases e2 : k = 2
      · subst e2
        rw [if_neg (by omega), if_pos rfl]
        exact sh_hot h (c + 1) 0 0
      · rw [if_neg e2]
        exact sums_eq h hF (by omega) h10
theorem tot_eq1 {N F T A : Nat → Nat → Int32} {c k : Nat} {wv : Nat → Int32} (h : Cpl N (12 * 1) A 2 c) (hF : CplF F (4 * 1) A 3 wv) (h3 : 3 ≤ k) (h10 : k ≤ 10) : totN N F T 1 c k = sdM A 2 3 c k := by
  unfold totN
  rw [if_neg (by omega), if_neg (by omega)]
  exact sums_eq h hF h3 h10
theorem fog_eq {N F A : Nat → Nat → Int32} {c i k : Nat} {wv : Nat → Int32} (h : Cpl N (12 * 0) A 0 c) (hF : CplF F (4 * 0) A 1 wv) (hi : i < 4) : fogN N F 0 c (nI i) k = ftM A c i k := by
  obtain ⟨f1, -⟩ := hF i hi
  unfold fogN ftM
  rw [nI_clamp (by omega), f1 0 (by omega), f1 1 (by omega), f1 2 (by omega), f1 3 (by omega), f1 4 (by omega), wk_eq (B := 0) rfl h]
