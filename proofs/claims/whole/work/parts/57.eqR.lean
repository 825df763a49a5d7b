/-! SINGLE CALLS in class and model -/
theorem rowO_set {A : Nat → Nat → Int32} {q i t : Nat} {x : Int32} (ht : t < 20) : rowO (sA A q (20 * i + t) x q) (20 * i) = upd (rowO (A q) (20 * i)) t x := by
  have e : sA A q (20 * i + t) x q = upd (A q) (20 * i + t) x := by
    unfold sA
    rw [va_up_self]
  funext j
  rw [e]
  by_cases hj : j < 20
  · rw [rowO_lo hj]
    by_cases h : j = t
    · subst h
      rw [upd_at, upd_at]
    · rw [upd_ge (by omega), upd_ge h, rowO_lo hj]
  · rw [rowO_hi (by omega), upd_ge (by omega), rowO_hi (by omega)]
theorem rowO_setoff {A : Nat → Nat → Int32} {q i k t : Nat} {x : Int32} (ht : t < 20) (h : k ≠ i) : rowO (sA A q (20 * i + t) x q) (20 * k) = rowO (A q) (20 * k) := by
  have e : sA A q (20 * i + t) x q = upd (A q) (20 * i + t) x := by
    unfold sA
    rw [va_up_self]
  funext j
  rw [e]
  by_cases hj : j < 20
  · rw [rowO_lo hj, upd_ge (by omega), rowO_lo hj]
  · rw [rowO_hi (by omega), rowO_hi (by omega)]
/-- what holds between the calls of a script -/
def Inv (N F T : Nat → Nat → Int32) (K : Nat → Int32) (A : Nat → Nat → Int32) (c B : Nat) : Prop :=
  c ≤ 12 ∧ T 0 1 = nI c ∧ K 2 = nI c ∧ T 0 0 = K 1 ∧ Cpl N (12 * 0) A 0 c ∧ Rws A 0 c B ∧ CplF F (4 * 0) A 1 (fun _ => 0) ∧ ∀ k, c ≤ k → k < 12 → N (12 * 0 + k) = frN ∧ rowO (A 0) (20 * k) = fun _ => 0
theorem Inv_KF {N F T A : Nat → Nat → Int32} {K : Nat → Int32} {c B : Nat} (h : Inv N F T K A c B) : KF N (12 * 0) c ∧ KM A 0 c := by
  obtain ⟨h12, -, -, -, hC, hR, -, -⟩ := h
  have a : KM A 0 c := fun k hk => by
    obtain ⟨sk, kd, fo, r, o, ht, -, -, h1, hk1, h2, hf, -⟩ := hR k hk
    rw [rowO_lo (by omega)] at h1 h2
    rw [h1, h2]
    exact ⟨vp_in_nI hk1 (by omega), vp_in_nI hf (by omega)⟩
  refine ⟨fun k hk => ?_, a⟩
  rw [hC k hk, rowO_lo (by omega), rowO_lo (by omega)]
  exact a k hk
/-- one nailer's row is changed in both -/
theorem Inv_row {N F T A A' : Nat → Nat → Int32} {K K' : Nat → Int32} {c B B' j : Nat} {v : Nat → Int32} (h : Inv N F T K A c B) (hj : j < c) (hB : B ≤ B') (hK1 : K' 1 = K 1) (hK2 : K' 2 = K 2) (h1 : A' 1 = A 1) (hv : rowO (A' 0) (20 * j) = v) (hoff : ∀ k, k ≠ j → rowO (A' 0) (20 * k) = rowO (A 0) (20 * k)) (hr : Rw v B') : Inv (va_up N (12 * 0 + j) v) F T K' A' c B' := by
  obtain ⟨h12, hT, hK, hn, hC, hR, hF, hfr⟩ := h
  refine ⟨h12, hT, hK2.trans hK, hn.trans hK1.symm, fun k hk => ?_, fun k hk => ?_, fun i hi => ⟨fun t ht => ?_, (hF i hi).2⟩, fun k hk hk2 => ?_⟩
  · by_cases e : k = j
    · subst e
      rw [va_up_self, hv]
    · rw [va_up_ne _ _ (by omega), hoff k e]
      exact hC k hk
  · by_cases e : k = j
    · subst e
      rw [hv]
      exact hr
    · rw [hoff k e]
      exact Rw_more hB (hR k hk)
  · rw [h1]
    exact (hF i hi).1 t ht
  · rw [va_up_ne _ _ (by omega), hoff k (by omega)]
    exact hfr k hk hk2
theorem Inv_lend {N F T A : Nat → Nat → Int32} {K : Nat → Int32} {c B j : Nat} {q : Int32} {qn : Nat} (h : Inv N F T K A c B) (hj : j < c) (hq : q = nI qn) (hq2 : qn ≤ 20) (hB : B < 2 ^ 28) : Inv (va_up N (12 * 0 + j) (upd (upd (N (12 * 0 + j)) 3 (N (12 * 0 + j) 3 + q)) 8 (N (12 * 0 + j) 8 + q * 3))) F T (upd K 0 0) (mLend A j q) c (B + 20) := by
  obtain ⟨v, ev⟩ : ∃ v, v = rowO (A 0) (20 * j) := ⟨_, rfl⟩
  have eN : N (12 * 0 + j) = v := by rw [ev]; exact h.2.2.2.2.1 j hj
  have hrow : Rw v B := by rw [ev]; exact h.2.2.2.2.2.1 j hj
  have e8 : A 0 (20 * j + 8) = v 8 := by rw [ev, rowO_lo (by omega)]
  have e3 : sA A 0 (20 * j + 8) (A 0 (20 * j + 8) + 3 * q) 0 (20 * j + 3) = v 3 := by rw [sA_off (by omega), ev, rowO_lo (by omega)]
  refine Inv_row h hj (by omega) rfl rfl ?_ ?_ (fun k hk => ?_) ?_
  · unfold mLend
    rw [sA_ne (by omega), sA_ne (by omega)]
  · unfold mLend
    rw [rowO_set (by omega), rowO_set (by omega), e3, e8, ← ev, eN, upd_comm (by omega), Int32.mul_comm q 3]
  · unfold mLend
    rw [rowO_setoff (by omega) hk, rowO_setoff (by omega) hk]
  · rw [eN]
    obtain ⟨sk, kd, fo, r, o, ht, h0, hs, h1, hk, h2, hf, h3, hr, h4, ho, h5, hh, hl⟩ := hrow
    refine ⟨sk, kd, fo, r + qn, o, ht, h0, hs, h1, hk, h2, hf, ?_, by omega, h4, ho, h5, hh, fun k hk9 => ?_⟩
    · show v 3 + q = _
      rw [h3, hq, nI_add]
    · obtain ⟨q3, hq3, e⟩ := hl k hk9
      exact ⟨q3, hq3, by rw [upd_ge (by omega), upd_ge (by omega)]; exact e⟩
