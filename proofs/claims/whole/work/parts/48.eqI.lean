/-! COPIES, WORKERS, NUMBERS OF FOGGERS, WEALTH in class and model -/
theorem wk_eq {N A : Nat → Nat → Int32} {b q c B : Nat} {x : Int32} (hq : q = 0) (h : Cpl N b A q c) : ∀ (n i : Nat) (sm : Int32), wkF n x c b i N sm = wkM n x c i A sm
  | 0, _, _ => rfl
  | n + 1, i, sm => by
    subst hq
    unfold wkF wkM
    by_cases hc : c ≤ i
    · rw [if_pos hc, if_pos hc]
    · rw [if_neg hc, if_neg hc, wk_eq (B := B) rfl h n]
      have e : N (b + i) 2 = A 0 (20 * i + 2) := by
        rw [h i (by omega), rowO_lo (by omega)]
      rw [e]
      by_cases h2 : A 0 (20 * i + 2) = x
      · rw [if_pos h2, if_pos h2]
      · rw [if_neg h2, if_neg h2, Int32.add_zero]
theorem hea_eq {N A : Nat → Nat → Int32} {b c : Nat} (h : Cpl N b A 0 c) : ∀ (n i : Nat) (sm : Int32), heaS n c b i N sm = suM n 0 5 c i A sm
  | 0, _, _ => rfl
  | n + 1, i, sm => by
    unfold heaS suM
    by_cases hc : c ≤ i
    · rw [if_pos hc, if_pos hc]
    · rw [if_neg hc, if_neg hc, hea_eq h n]
      rw [h i (by omega), rowO_lo (by omega)]
theorem mean_eq {N A : Nat → Nat → Int32} {c : Nat} {m : Int32} (h : Cpl N (12 * 0) A 0 c) : meanC N c m = meanM A c m := by
  unfold meanC meanM
  rw [hea_eq h]
theorem dig_eq {N A : Nat → Nat → Int32} {b c : Nat} (h : Cpl N b A 0 c) : ∀ (n i : Nat) (d : Int64), digN n c b i N d = diM n c i A d
  | 0, _, _ => rfl
  | n + 1, i, d => by
    unfold digN diM
    by_cases hc : c ≤ i
    · rw [if_pos hc, if_pos hc]
    · rw [if_neg hc, if_neg hc, h i (by omega), dig_eq h n]
theorem wealth_eq {N A : Nat → Nat → Int32} {b c i : Nat} (h : Cpl N b A 0 c) (hi : i < c) : wlth (N (b + i)) = weM A i := by
  unfold wlth weM
  rw [h i hi, rowO_lo (by omega), rowO_lo (by omega)]
