/-! SINGLE CALLS, more -/
theorem Inv_K {N F T A : Nat → Nat → Int32} {K K' : Nat → Int32} {c B : Nat} (h : Inv N F T K A c B) (h1 : K' 1 = K 1) (h2 : K' 2 = K 2) : Inv N F T K' A c B := by
  obtain ⟨h12, hT, hK, hn, hC, hR, hF, hfr⟩ := h
  exact ⟨h12, hT, h2.trans hK, hn.trans h1.symm, hC, hR, hF, hfr⟩
theorem Inv_coal {N F T A : Nat → Nat → Int32} {K : Nat → Int32} {c B j : Nat} {q : Int32} (h : Inv N F T K A c B) (hj : j < c) : Inv (va_up N (12 * 0 + j) (upd (upd (N (12 * 0 + j)) 7 (N (12 * 0 + j) 7 - (q + 4 - 1) / 4)) 6 (N (12 * 0 + j) 6 + q))) F T (upd K 0 0) (mCoal A j q) c B := by
  obtain ⟨v, ev⟩ : ∃ v, v = rowO (A 0) (20 * j) := ⟨_, rfl⟩
  have eN : N (12 * 0 + j) = v := by rw [ev]; exact h.2.2.2.2.1 j hj
  have hrow : Rw v B := by rw [ev]; exact h.2.2.2.2.2.1 j hj
  have eq : q + 4 - 1 = q + 3 := by
    rw [Int32.sub_eq_add_neg, Int32.add_assoc]
    rfl
  have e7 : A 0 (20 * j + 7) = v 7 := by rw [ev, rowO_lo (by omega)]
  have e6 : mCo1 A j q 0 (20 * j + 6) = v 6 := by
    unfold mCo1
    rw [sA_off (by omega), ev, rowO_lo (by omega)]
  refine Inv_row h hj (Nat.le_refl _) rfl rfl ?_ ?_ (fun k hk => ?_) ?_
  · unfold mCoal mCo1
    rw [sA_ne (by omega), sA_ne (by omega)]
  · unfold mCoal
    rw [rowO_set (by omega), e6]
    unfold mCo1
    rw [rowO_set (by omega), e7, ← ev, eN, eq]
  · unfold mCoal
    rw [rowO_setoff (by omega) hk]
    unfold mCo1
    rw [rowO_setoff (by omega) hk]
  · rw [eN]
    exact Rw_of hrow fun t ht => by rw [upd_ge (by omega), upd_ge (by omega)]
theorem Inv_make {N F T A : Nat → Nat → Int32} {K : Nat → Int32} {c B j k : Nat} (h : Inv N F T K A c B) (hj : j < c) (hk : k < 4) : Inv (va_up N (12 * 0 + j) (upd (N (12 * 0 + j)) 1 (nI k))) F T (upd K 0 0) (sA A 0 (20 * j + 1) (nI k)) c B := by
  have eN : N (12 * 0 + j) = rowO (A 0) (20 * j) := h.2.2.2.2.1 j hj
  have hrow : Rw (rowO (A 0) (20 * j)) B := h.2.2.2.2.2.1 j hj
  refine Inv_row h hj (Nat.le_refl _) rfl rfl (sA_ne (by omega)) ?_ (fun i hi => rowO_setoff (by omega) hi) ?_
  · rw [rowO_set (by omega), eN]
  · rw [eN]
    exact Rw_kind hk hrow
theorem Rw_fog {v : Nat → Int32} {B k : Nat} (hk : k < 4) (h : Rw v B) : Rw (upd v 2 (nI k)) B := by
  obtain ⟨sk, kd, fo, r, o, ht, h0, hs, h1, hk1, h2, hf, h3, hr, h4, ho, h5, hh, hl⟩ := h
  refine ⟨sk, kd, k, r, o, ht, h0, hs, h1, hk1, upd_at, hk, h3, hr, h4, ho, h5, hh, fun q hq => ?_⟩
  obtain ⟨q2, hq2, e⟩ := hl q hq
  exact ⟨q2, hq2, by rw [upd_ge (by omega)]; exact e⟩
theorem Inv_change {N F T A : Nat → Nat → Int32} {K : Nat → Int32} {c B j k : Nat} (h : Inv N F T K A c B) (hj : j < c) (hk : k < 4) : Inv (va_up N (12 * 0 + j) (upd (N (12 * 0 + j)) 2 (nI k))) F T (upd K 0 0) (sA A 0 (20 * j + 2) (nI k)) c B := by
  have eN : N (12 * 0 + j) = rowO (A 0) (20 * j) := h.2.2.2.2.1 j hj
  have hrow : Rw (rowO (A 0) (20 * j)) B := h.2.2.2.2.2.1 j hj
  refine Inv_row h hj (Nat.le_refl _) rfl rfl (sA_ne (by omega)) ?_ (fun i hi => rowO_setoff (by omega) hi) ?_
  · rw [rowO_set (by omega), eN]
  · rw [eN]
    exact Rw_fog hk hrow
