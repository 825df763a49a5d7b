/-! ADVISE in class and model -/
/-- hours of one nailer: class's loop and the model's over its array 2 -/
theorem wo_eq {j B : Nat} (hB : B < 2 ^ 29) {h : Int32} : ∀ (n : Nat) (i : Int32) (v : Nat → Int32) (A : Nat → Nat → Int32) (sm : Int32), v = rowO (A 2) (20 * j) → Rw v B → (wHl n h i v sm).2 = (woM n h i (20 * j) A sm).2
  | 0, _, _, _, _, _, _ => rfl
  | n + 1, i, v, A, sm, hv, hr => by
    unfold wHl woM
    by_cases hc : h ≤ i
    · rw [if_pos hc, if_pos hc]
    · have hr2 : Rw (rowO (A 2) (20 * j)) B := by rw [← hv]; exact hr
      have em : mWr (rowO (A 2) (20 * j)) = workH v := by rw [mWr_eq hB hr2, hv]
      rw [if_neg hc, if_neg hc, em]
      exact wo_eq hB n (i + 1) _ _ _ (by rw [row_work hr2, em]) (work_ok hB hr).1
/-- how much so many hours bring at most -/
theorem wo_le {B : Nat} (hB : B < 2 ^ 29) {h : Int32} : ∀ (n : Nat) (i : Int32) (v : Nat → Int32) (m : Nat), Rw v B → m + 162 * n < 2 ^ 25 → ∃ g, g ≤ m + 162 * n ∧ (wHl n h i v (nI m)).2 = nI g
  | 0, _, _, m, _, _ => ⟨m, by omega, rfl⟩
  | n + 1, i, v, m, hr, hm => by
    unfold wHl
    by_cases hc : h ≤ i
    · rw [if_pos hc]
      exact ⟨m, by omega, rfl⟩
    · rw [if_neg hc]
      obtain ⟨k1, g, hg, eg⟩ := work_ok hB hr
      rw [eg, nI_add]
      obtain ⟨g2, h2, e2⟩ := wo_le hB n (i + 1) (workH v).1 (m + g) k1 (by omega)
      exact ⟨g2, by omega, e2⟩
theorem Rw_kind {v : Nat → Int32} {B k : Nat} (hk : k < 4) (h : Rw v B) : Rw (upd v 1 (nI k)) B := by
  obtain ⟨sk, kd, fo, r, o, ht, h0, hs, h1, hk1, h2, hf, h3, hr, h4, ho, h5, hh, hl⟩ := h
  refine ⟨sk, k, fo, r, o, ht, h0, hs, upd_at, hk, h2, hf, h3, hr, h4, ho, h5, hh, fun q hq => ?_⟩
  obtain ⟨q2, hq2, e⟩ := hl q hq
  exact ⟨q2, hq2, by rw [upd_ge (by omega)]; exact e⟩
theorem row_wofA {A : Nat → Nat → Int32} {j k : Nat} (hj : j < 12) : rowO (wofA A j k 2) (20 * j) = upd (rowO (A 0) (20 * j)) 1 (nI k) := by
  have e : wofA A j k 2 = upd (lookM A 2) (20 * j + 1) (nI k) := by
    unfold wofA sA
    rw [va_up_self]
  funext t
  rw [e]
  by_cases ht : t < 20
  · rw [rowO_lo ht]
    by_cases h1 : t = 1
    · subst h1
      rw [upd_at, upd_at]
    · rw [upd_ge (by omega), upd_ge h1, rowO_lo ht, lookM_2 (by omega)]
  · rw [rowO_hi (by omega), upd_ge (by omega), rowO_hi (by omega)]
theorem wof_eq {A : Nat → Nat → Int32} {j k B : Nat} {q : Int32} (hB : B < 2 ^ 29) (hj : j < 12) (hk : k < 4) (hr : Rw (rowO (A 0) (20 * j)) B) : (wofQ A j k q).2 = (advW q k (rowO (A 0) (20 * j))).2 * woT k := by
  unfold wofQ advW
  show (woM (fuel q 0) q 0 (20 * j) (wofA A j k) 0).2 * woT k = _
  rw [wo_eq hB (fuel q 0) 0 (upd (rowO (A 0) (20 * j)) 1 (nI k)) (wofA A j k) 0 (row_wofA hj).symm (Rw_kind hk hr)]
