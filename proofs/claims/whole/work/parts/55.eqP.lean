/-! ADVISE, whole -/
theorem woM_off {a b : Nat} (hb : b ≠ 2) {h : Int32} : ∀ (n : Nat) (i : Int32) (A : Nat → Nat → Int32) (sm : Int32), (woM n h i a A sm).1 b = A b
  | 0, _, _, _ => rfl
  | n + 1, i, A, sm => by
    unfold woM
    split
    · rfl
    · rw [woM_off hb n]
      unfold mWA
      rw [va_up_ne _ _ hb]
theorem wofQ_0 {A : Nat → Nat → Int32} {j k : Nat} {q : Int32} : (wofQ A j k q).1 0 = A 0 := by
  unfold wofQ
  show (woM _ _ _ _ _ _).1 0 = _
  rw [woM_off (by omega)]
  unfold wofA
  rw [sA_ne (by omega)]
  rfl
theorem ad_eq {j B : Nat} {q : Int32} (hB : B < 2 ^ 29) (hj : j < 12) {v : Nat → Int32} (hr : Rw v B) : ∀ (n i best : Nat) (N A : Nat → Nat → Int32) (bw : Int32), N j = v → v = rowO (A 0) (20 * j) → best < 4 → bw = (advW q best v).2 * woT best → (advL n q j i N (nI best) bw).2 = (adM n q j i best A).2
  | 0, _, _, _, _, _, _, _, _, _ => rfl
  | n + 1, i, best, N, A, bw, hN, hv, hb, hw => by
    unfold advL adM
    by_cases hc : 4 ≤ i
    · rw [if_pos hc, if_pos hc]
    · have hr0 : Rw (rowO (A 0) (20 * j)) B := by rw [← hv]; exact hr
      have e1 : (wofQ A j i q).2 = (advW q i v).2 * woT i := by rw [wof_eq hB hj (by omega) hr0, ← hv]
      have hv2 : v = rowO ((wofQ A j i q).1 0) (20 * j) := by rw [wofQ_0]; exact hv
      have e2 : (wofQ (wofQ A j i q).1 j best q).2 = bw := by
        rw [wof_eq hB hj hb (by rw [← hv2]; exact hr), ← hv2]
        exact hw.symm
      have hv3 : v = rowO ((wofQ (wofQ A j i q).1 j best q).1 0) (20 * j) := by rw [wofQ_0]; exact hv2
      rw [if_neg hc, if_neg hc, e1, e2, hN]
      by_cases h1 : (advW q i v).2 * woT i ≤ bw
      · rw [if_pos h1, if_pos h1]
        exact ad_eq hB hj hr n (i + 1) best _ _ bw (by rw [va_up_ne _ _ (by omega)]; exact hN) hv3 hb hw
      · rw [if_neg h1, if_neg h1]
        exact ad_eq hB hj hr n (i + 1) i _ _ _ (by rw [va_up_ne _ _ (by omega)]; exact hN) hv3 (by omega) rfl
