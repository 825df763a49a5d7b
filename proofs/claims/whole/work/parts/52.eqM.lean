/-! THE COPY BEHIND foresee in class and model -/
theorem cpN_at {c : Nat} (h12 : c ≤ 12) : ∀ (n i : Nat) (N : Nat → Nat → Int32), c < i + n → ∀ k, k < c → cpN n c (12 * 1) (12 * 0) i N (12 * 1 + k) = if k < i then N (12 * 1 + k) else N (12 * 0 + k)
  | 0, i, N, hn, k, hk => by
    rw [if_pos (by omega)]
    rfl
  | n + 1, i, N, hn, k, hk => by
    unfold cpN
    by_cases hc : c ≤ i
    · rw [if_pos hc, if_pos (by omega)]
    · rw [if_neg hc, cpN_at h12 n (i + 1) _ (by omega) k hk]
      by_cases e : k = i
      · subst e
        rw [if_pos (by omega), if_neg (by omega), va_up_self]
      · by_cases h1 : k < i
        · rw [if_pos (by omega), if_pos h1, va_up_ne _ _ (by omega)]
        · rw [if_neg (by omega), if_neg h1, va_up_ne _ _ (by omega)]
theorem row_look {A : Nat → Nat → Int32} {k : Nat} (hk : k < 12) : rowO (lookM A 2) (20 * k) = rowO (A 0) (20 * k) := by
  funext j
  by_cases hj : j < 20
  · rw [rowO_lo hj, rowO_lo hj, lookM_2 (by omega)]
  · rw [rowO_hi (by omega), rowO_hi (by omega)]
theorem cp_eq {N A : Nat → Nat → Int32} {c : Nat} (h12 : c ≤ 12) (h : Cpl N (12 * 0) A 0 c) : Cpl (cpN (c + 1) c (12 * 1) (12 * 0) 0 N) (12 * 1) (lookM A) 2 c := by
  intro k hk
  rw [cpN_at h12 (c + 1) 0 N (by omega) k hk, if_neg (by omega), row_look (by omega)]
  exact h k hk
theorem Rws_look {A : Nat → Nat → Int32} {c B : Nat} (h12 : c ≤ 12) (h : Rws A 0 c B) : Rws (lookM A) 2 c B := by
  intro k hk
  rw [row_look (by omega)]
  exact h k hk
theorem cpF_eq {F A : Nat → Nat → Int32} {wv : Nat → Int32} (h : CplF F (4 * 0) A 1 wv) : CplF (cp4 F (4 * 1) (4 * 0)) (4 * 1) (lookM A) 3 wv := by
  intro i hi
  have e : cp4 F (4 * 1) (4 * 0) (4 * 1 + i) = F (4 * 0 + i) := by
    unfold cp4 cp1
    rcases (show i = 0 ∨ i = 1 ∨ i = 2 ∨ i = 3 by omega) with rfl | rfl | rfl | rfl
    · rw [va_up_ne _ _ (by omega), va_up_ne _ _ (by omega), va_up_ne _ _ (by omega), va_up_self]
    · rw [va_up_ne _ _ (by omega), va_up_ne _ _ (by omega), va_up_self, va_up_ne _ _ (by omega)]
    · rw [va_up_ne _ _ (by omega), va_up_self, va_up_ne _ _ (by omega), va_up_ne _ _ (by omega)]
    · rw [va_up_self, va_up_ne _ _ (by omega), va_up_ne _ _ (by omega), va_up_ne _ _ (by omega)]
  rw [e]
  refine ⟨fun j hj => ?_, (h i hi).2⟩
  rw [lookM_3 (by omega)]
  exact (h i hi).1 j hj
