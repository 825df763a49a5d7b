/-! KEEP, NAILER, PASS; the copies on the trial and the foreseen trade do no harm -/
theorem Inv_off {N N' F F' T T' A A' : Nat → Nat → Int32} {K K' : Nat → Int32} {c B : Nat} (h : Inv N F T K A c B) (hN : ∀ j, j < 12 → N' j = N j) (hF : ∀ i, i < 4 → F' i = F i) (hT : T' 0 = T 0) (hK1 : K' 1 = K 1) (hK2 : K' 2 = K 2) (hA0 : A' 0 = A 0) (hA1 : A' 1 = A 1) : Inv N' F' T' K' A' c B := by
  obtain ⟨h12, h2, h3, h4, hC, hR, hF9, hfr⟩ := h
  refine ⟨h12, by rw [hT]; exact h2, hK2.trans h3, by rw [hT, hK1]; exact h4, fun k hk => ?_, fun k hk => ?_, fun i hi => ?_, fun k hk hk2 => ?_⟩
  · rw [hN _ (by omega), hA0]
    exact hC k hk
  · rw [hA0]
    exact hR k hk
  · rw [hF _ (by omega), hA1]
    exact hF9 i hi
  · rw [hN _ (by omega), hA0]
    exact hfr k hk hk2
theorem Inv_keep {N F T A : Nat → Nat → Int32} {K : Nat → Int32} {c B i : Nat} {q : Int32} (h : Inv N F T K A c B) (hi : i < 4) : Inv N (va_up F (4 * 0 + i) (upd (F (4 * 0 + i)) 0 q)) T (upd K 0 0) (sA A 1 (5 * i + 0) q) c B := by
  obtain ⟨h12, h2, h3, h4, hC, hR, hF, hfr⟩ := h
  have e0 : sA A 1 (5 * i + 0) q 0 = A 0 := sA_ne (by omega)
  refine ⟨h12, h2, h3, h4, fun k hk => ?_, fun k hk => ?_, fun k hk => ?_, fun k hk hk2 => ?_⟩
  · rw [e0]
    exact hC k hk
  · rw [e0]
    exact hR k hk
  · by_cases e : k = i
    · subst e
      rw [va_up_self]
      refine ⟨fun j hj => ?_, ?_⟩
      · by_cases hj0 : j = 0
        · subst hj0
          rw [upd_at, sA_at]
        · rw [upd_ge hj0, sA_off (by omega)]
          exact (hF k hk).1 j hj
      · rw [upd_ge (by omega)]
        exact (hF k hk).2
    · rw [va_up_ne _ _ (by omega)]
      refine ⟨fun j hj => ?_, (hF k hk).2⟩
      rw [sA_off (by omega)]
      exact (hF k hk).1 j hj
  · rw [e0]
    exact hfr k hk hk2
theorem Inv_nailer {N F T A : Nat → Nat → Int32} {K : Nat → Int32} {c B sk kd fo : Nat} (h : Inv N F T K A c B) (hc : c < 12) (hs : sk ≤ 9) (hk : kd < 4) (hf : fo < 4) : Inv (va_up N (12 * 0 + c) (upd (upd (upd (N (12 * 0 + c)) 0 (nI sk)) 1 (nI kd)) 2 (nI fo))) F (va_up T 0 (upd (T 0) 1 (T 0 1 + 1))) (upd (upd K 0 0) 2 (K 2 + 1)) (mNew A c (nI sk) (nI kd) (nI fo)) (c + 1) B := by
  obtain ⟨h12, h2, h3, h4, hC, hR, hF, hfr⟩ := h
  obtain ⟨f1, f2⟩ := hfr c (Nat.le_refl _) hc
  have e1 : mNew A c (nI sk) (nI kd) (nI fo) 1 = A 1 := by
    unfold mNew
    rw [sA_ne (by omega), sA_ne (by omega), sA_ne (by omega), sA_ne (by omega), sA_ne (by omega)]
  have er : rowO (mNew A c (nI sk) (nI kd) (nI fo) 0) (20 * c) = upd (upd (upd frN 0 (nI sk)) 1 (nI kd)) 2 (nI fo) := by
    unfold mNew
    rw [rowO_set (by omega), rowO_set (by omega), rowO_set (by omega), rowO_set (by omega), rowO_set (by omega), f2]
    unfold frN
    rw [upd_comm (i := 2) (j := 6) (by omega), upd_comm (i := 1) (j := 6) (by omega), upd_comm (i := 0) (j := 6) (by omega), upd_comm (i := 2) (j := 7) (by omega), upd_comm (i := 1) (j := 7) (by omega), upd_comm (i := 0) (j := 7) (by omega)]
  have eo : ∀ k, k ≠ c → rowO (mNew A c (nI sk) (nI kd) (nI fo) 0) (20 * k) = rowO (A 0) (20 * k) := fun k hk9 => by
    unfold mNew
    rw [rowO_setoff (by omega) hk9, rowO_setoff (by omega) hk9, rowO_setoff (by omega) hk9, rowO_setoff (by omega) hk9, rowO_setoff (by omega) hk9]
  refine ⟨by omega, ?_, ?_, ?_, fun k hk9 => ?_, fun k hk9 => ?_, fun i hi => ⟨fun j hj => ?_, (hF i hi).2⟩, fun k hk9 hk2 => ?_⟩
  · rw [va_up_self, upd_at, h2, nI_1]
  · rw [upd_at, h3, nI_1]
  · rw [va_up_self, upd_ge (by omega), upd_ge (by omega), upd_ge (by omega)]
    exact h4
  · by_cases e : k = c
    · subst e
      rw [va_up_self, er, f1]
    · rw [va_up_ne _ _ (by omega), eo k e]
      exact hC k (by omega)
  · by_cases e : k = c
    · subst e
      rw [er]
      refine ⟨sk, kd, fo, 0, 0, 0, rfl, hs, rfl, hk, rfl, hf, rfl, Nat.zero_le _, rfl, by omega, rfl, by omega, fun t ht => ⟨0, by omega, ?_⟩⟩
      unfold frN
      rw [upd_ge (by omega), upd_ge (by omega), upd_ge (by omega), upd_ge (by omega), upd_ge (by omega)]
      rfl
    · rw [eo k e]
      exact hR k (by omega)
  · rw [e1]
    exact (hF i hi).1 j hj
  · rw [va_up_ne _ _ (by omega), eo k (by omega)]
    exact hfr k (by omega) hk2
