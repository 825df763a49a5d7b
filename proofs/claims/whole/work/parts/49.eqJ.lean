/-! RICHEST, SUMS in class and model -/
theorem ric_eq {N A : Nat → Nat → Int32} {b c : Nat} (h12 : c ≤ 12) (h : Cpl N b A 0 c) : ∀ (n i : Nat) (best bw : Int32), (best < 0 ∨ ∃ k, k < c ∧ best = nI k ∧ bw = weM A k) → ricL n c b i N best bw = riM n c i best A
  | 0, _, _, _, _ => rfl
  | n + 1, i, best, bw, hb => by
    unfold ricL riM
    by_cases hc : c ≤ i
    · rw [if_pos hc, if_pos hc]
    · have hi : i < c := by omega
      rw [if_neg hc, if_neg hc, wealth_eq h hi]
      by_cases h0 : best < 0
      · rw [if_pos h0, if_pos h0]
        exact ric_eq h12 h n (i + 1) _ _ (Or.inr ⟨i, hi, rfl, rfl⟩)
      · rw [if_neg h0, if_neg h0]
        obtain ⟨k, hk, e1, e2⟩ := hb.resolve_left h0
        have ek : best.toNatClampNeg = k := by rw [e1, nI_clamp (by omega)]
        rw [ek, ← e2]
        by_cases h1 : weM A i ≤ bw
        · rw [if_pos h1, if_pos h1]
          exact ric_eq h12 h n (i + 1) _ _ (Or.inr ⟨k, hk, e1, e2⟩)
        · rw [if_neg h1, if_neg h1]
          exact ric_eq h12 h n (i + 1) _ _ (Or.inr ⟨i, hi, rfl, rfl⟩)
/-- a sum of one number of each row -/
theorem sh_one {N A : Nat → Nat → Int32} {b q c k : Nat} (h : Cpl N b A q c) (hk : k < 20) (hs : ∀ v : Nat → Int32, share v k = v k) : ∀ (n i : Nat) (sm : Int32), shS n k c b i N sm = suM n q k c i A sm
  | 0, _, _ => rfl
  | n + 1, i, sm => by
    unfold shS suM
    by_cases hc : c ≤ i
    · rw [if_pos hc, if_pos hc]
    · rw [if_neg hc, if_neg hc, sh_one h hk hs n, hs, h i (by omega), rowO_lo hk]
theorem sh_hot {N A : Nat → Nat → Int32} {b c : Nat} (h : Cpl N b A 0 c) : ∀ (n i : Nat) (sm : Int32), shS n 2 c b i N sm = hoM n c i A sm
  | 0, _, _ => rfl
  | n + 1, i, sm => by
    unfold shS hoM
    by_cases hc : c ≤ i
    · rw [if_pos hc, if_pos hc]
    · rw [if_neg hc, if_neg hc, sh_hot h n]
      congr 1
      unfold share
      rw [if_pos rfl, h i (by omega), rowO_lo (by omega)]
      by_cases h4 : A 0 (20 * i + 5) < 4
      · rw [if_pos h4, if_pos h4]
      · rw [if_neg h4, if_neg h4]
theorem suM_add {b t c : Nat} {A : Nat → Nat → Int32} : ∀ (n i : Nat) (x y : Int32), suM n b t c i A (x + y) = x + suM n b t c i A y
  | 0, _, _, _ => rfl
  | n + 1, i, x, y => by
    unfold suM
    by_cases hc : c ≤ i
    · rw [if_pos hc, if_pos hc]
    · rw [if_neg hc, if_neg hc, Int32.add_assoc, suM_add n]
/-- a sum of four numbers of each row -/
theorem sh_four {N A : Nat → Nat → Int32} {b q c k t : Nat} (h : Cpl N b A q c) (ht : t + 3 < 20) (hs : ∀ v : Nat → Int32, share v k = 0 + v t + v (t + 1) + v (t + 2) + v (t + 3)) : ∀ (n i : Nat) (s0 s1 s2 s3 : Int32), shS n k c b i N (s0 + s1 + s2 + s3) = suM n q t c i A s0 + suM n q (t + 1) c i A s1 + suM n q (t + 2) c i A s2 + suM n q (t + 3) c i A s3
  | 0, _, _, _, _, _ => rfl
  | n + 1, i, s0, s1, s2, s3 => by
    unfold shS suM
    by_cases hc : c ≤ i
    · rw [if_pos hc, if_pos hc, if_pos hc, if_pos hc, if_pos hc]
    · rw [if_neg hc, if_neg hc, if_neg hc, if_neg hc, if_neg hc, ← sh_four h ht hs n]
      congr 1
      rw [hs, h i (by omega), rowO_lo (by omega), rowO_lo (by omega), rowO_lo (by omega), rowO_lo (by omega), Int32.zero_add]
      ac_rfl
