/-! WHEN in class and model -/
theorem whl1_eq (v : Nat → Int32) : whl1 v = ((workH v).1, 0 + (workH v).2) := rate_eq
theorem when_eq {j B : Nat} (hB : B < 2 ^ 29) {qn : Nat} (hq : qn < 2 ^ 20) : ∀ (n : Nat) (h : Int32) (v : Nat → Int32) (d : Nat) (A : Nat → Nat → Int32), v = rowO (A 2) (20 * j) → Rw v B → d < qn → (whenL n (nI qn) h v (nI d)).2 = (whM n (nI (qn - d)) h (20 * j) A).2
  | 0, _, _, _, _, _, _, _ => rfl
  | n + 1, h, v, d, A, hv, hr, hd => by
    unfold whenL whM
    by_cases h4 : 480 < h
    · rw [if_pos h4, if_pos h4]
    · rw [if_neg h4, if_neg h4, whl1_eq]
      have hr2 : Rw (rowO (A 2) (20 * j)) B := by rw [← hv]; exact hr
      obtain ⟨k1, g, hg, eg⟩ := work_ok hB hr
      have em : mWr (rowO (A 2) (20 * j)) = workH v := by rw [mWr_eq hB hr2, hv]
      show (if nI d + (0 + (workH v).2) < nI qn then _ else _ : (Nat → Int32) × Int32).2 = _
      rw [em, eg, Int32.zero_add, nI_add]
      by_cases hc : d + g < qn
      · rw [if_pos ((nI_ltI (by omega) (by omega)).mpr hc), nI_sub (show g ≤ qn - d by omega), if_pos (by rw [← nI_0]; exact nI_lt (by omega) (by omega))]
        rw [show qn - d - g = qn - (d + g) from by omega]
        refine when_eq hB hq n (h + 1) _ (d + g) _ ?_ k1 hc
        rw [row_work hr2, em]
      · have hle : ¬ (0 : Int32) < nI (qn - d) - nI g := by
          rw [Int32.lt_iff_toInt_lt, Int32.toInt_sub, nI_toInt (by omega), nI_toInt (by omega), show (0 : Int32).toInt = 0 from rfl, Int.bmod_eq_of_le (by omega) (by omega)]
          omega
        rw [if_neg (fun z => hc ((nI_ltI (by omega) (by omega)).mp z)), if_neg hle]
