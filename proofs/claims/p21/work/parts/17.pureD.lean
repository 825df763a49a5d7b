/-! THE CLASS NAILRODS: what its calls do -/
theorem ixC {p a : Int32} {c : Nat} (h1 : ¬ p < 0) (h2 : p < a) (hc : a = nI c) (h12 : c ≤ 12) : vp_in p 12 ∧ p.toNatClampNeg < c := by
  obtain ⟨j, hj, rfl⟩ := nI_of h1
  rw [hc, nI_ltI hj (by omega)] at h2
  rw [nI_clamp hj]
  exact ⟨vp_in_nI (by omega) (by omega), h2⟩
theorem ix4 {p : Int32} (h1 : ¬ p < 0) (h2 : p < 4) : vp_in p 4 := by
  obtain ⟨j, hj, rfl⟩ := nI_of h1
  rw [show (4 : Int32) = nI 4 from rfl, nI_ltI hj (by omega)] at h2
  exact vp_in_nI h2 (by omega)
theorem ixK {p : Int32} {n : Nat} (hn : n < 2 ^ 31) (h1 : ¬ p < 0) (h2 : p < nI n) : ∃ k, k < n ∧ p = nI k := by
  obtain ⟨j, hj, rfl⟩ := nI_of h1
  rw [nI_ltI hj hn] at h2
  exact ⟨j, h2, rfl⟩
