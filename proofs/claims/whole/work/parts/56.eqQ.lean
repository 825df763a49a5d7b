/-! ADVISE, from its start -/
theorem advise_eq {j B qn : Nat} (hB : B < 2 ^ 29) (hj : j < 12) (hq : qn ≤ 120) {N A : Nat → Nat → Int32} (hN : N j = rowO (A 0) (20 * j)) (hr : Rw (rowO (A 0) (20 * j)) B) : (advL 5 (nI qn) j 0 N 0 (-1)).2 = (adM 4 (nI qn) j 1 0 A).2 := by
  have hr0 : Rw (N j) B := by rw [hN]; exact hr
  obtain ⟨g, hg, eg⟩ := wo_le hB (h := nI qn) (fuel (nI qn) 0) 0 (upd (N j) 1 (nI 0)) 0 (Rw_kind (by omega) hr0) (by rw [fuel_nI (by omega)]; omega)
  rw [fuel_nI (by omega)] at hg
  have ew : (advW (nI qn) 0 (N j)).2 * woT 0 = nI (g * 8) := by
    unfold advW
    rw [show (0 : Int32) = nI 0 from nI_0.symm] at eg ⊢
    rw [eg, show woT 0 = nI 8 from rfl, nI_mul]
  have hn : ¬ (advW (nI qn) 0 (N j)).2 * woT 0 ≤ -1 := by
    rw [ew, Int32.le_iff_toInt_le, nI_toInt (by omega), show (-1 : Int32).toInt = -1 from rfl]
    omega
  rw [advL, if_neg (by omega), if_neg hn]
  exact ad_eq hB hj hr0 4 1 0 _ A _ (by rw [va_up_ne _ _ (by omega)]) hN (by omega) rfl
