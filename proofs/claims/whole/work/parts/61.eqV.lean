/-! ONE CALL IN CLASS AND MODEL: what the law sees -/
/-- the class's call by the law's wrapper, then the model's call: their answers are alike, and what holds between calls holds again -/
def Two (W : Nat → Nat → (Nat → va_E) → (Nat → va_E) → Int32 → Prop) (M : Nat → Nat → Nat → (Nat → va_E) → (Nat → va_E) → Int32 → Prop) (P : L5) (N F T : Nat → Nat → Int32) (K : Nat → Int32) (A : Nat → Nat → Int32) (w : Int64) (B : Nat) : Prop :=
  ∃ (N2 F2 T2 : Nat → Nat → Int32) (K2 : Nat → Int32) (A2 : Nat → Nat → Int32) (c2 : Nat) (w2 : Int64) (mc ms h2 mc2 ms2 : Nat) (k r : Int32), W mc ms (cw P N F T K A w) (cw P N2 F2 T2 K A w2) k ∧ M h2 mc2 ms2 (cw P N2 F2 T2 K A w2) (cw P N2 F2 T2 K2 A2 w2) r ∧ K2 0 = k ∧ (k = 0 → w2 = r.toInt64) ∧ Inv N2 F2 T2 K2 A2 c2 (B + 20) ∧ mc + mc2 ≤ 1 ∧ ms + ms2 ≤ 6 ∧ h2 ≤ 9
theorem two_no {W : Nat → Nat → (Nat → va_E) → (Nat → va_E) → Int32 → Prop} {M : Nat → Nat → Nat → (Nat → va_E) → (Nat → va_E) → Int32 → Prop} {P : L5} {N F T : Nat → Nat → Int32} {K : Nat → Int32} {A : Nat → Nat → Int32} {w : Int64} {B c : Nat} {k : Int32} (hI : Inv N F T K A c B) (hk : k ≠ 0) (hW : W 1 6 (cw P N F T K A w) (cw P N F T K A w) k) (hM : M 5 0 0 (cw P N F T K A w) (cw P N F T (upd K 0 k) A w) 0) : Two W M P N F T K A w B :=
  ⟨N, F, T, upd K 0 k, A, c, w, 1, 6, 5, 0, 0, k, 0, hW, hM, upd_at, fun e => absurd e hk, Inv_up (Inv_K hI (upd_ge (by omega)) (upd_ge (by omega))) (by omega), by omega, by omega, by omega⟩
theorem two_ok {W : Nat → Nat → (Nat → va_E) → (Nat → va_E) → Int32 → Prop} {M : Nat → Nat → Nat → (Nat → va_E) → (Nat → va_E) → Int32 → Prop} {P : L5} {N F T N2 F2 T2 : Nat → Nat → Int32} {K K2 : Nat → Int32} {A A2 : Nat → Nat → Int32} {w : Int64} {B B2 c2 h2 mc2 ms2 : Nat} {r r2 : Int32} (hI : Inv N2 F2 T2 K2 A2 c2 B2) (hB : B2 ≤ B + 20) (hK : K2 0 = 0) (hr : r = r2) (hW : W 0 0 (cw P N F T K A w) (cw P N2 F2 T2 K A r.toInt64) 0) (hM : M h2 mc2 ms2 (cw P N2 F2 T2 K A r.toInt64) (cw P N2 F2 T2 K2 A2 r.toInt64) r2) (h9 : h2 ≤ 9) (h1 : mc2 ≤ 1) (h6 : ms2 ≤ 6) : Two W M P N F T K A w B :=
  ⟨N2, F2, T2, K2, A2, c2, r.toInt64, 0, 0, h2, mc2, ms2, 0, r2, hW, hM, hK, fun _ => by rw [hr], Inv_up hI hB, by omega, by omega, h9⟩
theorem gtL {a b b' : Int32} (hb : b'.toInt = b.toInt + 1) (h : ¬ a < b') : b < a := by
  rw [Int32.lt_iff_toInt_lt] at h ⊢
  omega
theorem leL {a b b' : Int32} (hb : b'.toInt = b.toInt + 1) (h : a < b') : ¬ b < a := by
  rw [Int32.lt_iff_toInt_lt] at h ⊢
  omega
theorem geL {a b : Int32} (h : a ≤ b) : ¬ b < a := Int32.not_lt.mpr h
theorem ltL {a b : Int32} (h : ¬ a ≤ b) : b < a := Int32.not_le.mp h
theorem nI_ltN {n : Nat} {b : Int32} (hn : n < 2 ^ 31) (h : nI n < b) : (n : Int) < b.toInt := by
  rw [Int32.lt_iff_toInt_lt, nI_toInt hn] at h
  exact h
/-- a number from 1 to m -/
theorem ixL {q b : Int32} {m : Nat} (hb : b.toInt = m) (h1 : ¬ q < 1) (h2 : q ≤ b) : ∃ k, 1 ≤ k ∧ k ≤ m ∧ q = nI k := by
  rw [Int32.lt_iff_toInt_lt] at h1
  rw [Int32.le_iff_toInt_le] at h2
  have e1 : (1 : Int32).toInt = 1 := by decide
  have hm := Int32.toInt_lt b
  refine ⟨q.toInt.toNat, by omega, by omega, ?_⟩
  apply Int32.toInt_inj.mp
  rw [nI_toInt (by omega)]
  omega
/-- a number from 0 to m - 1 -/
theorem ixZ {q b : Int32} {m : Nat} (hb : b.toInt = m) (h1 : ¬ q < 0) (h2 : q < b) : ∃ k, k < m ∧ q = nI k := by
  rw [Int32.lt_iff_toInt_lt] at h1
  rw [Int32.lt_iff_toInt_lt] at h2
  have e1 : (0 : Int32).toInt = 0 := by decide
  have hm := Int32.toInt_lt b
  refine ⟨q.toInt.toNat, by omega, ?_⟩
  apply Int32.toInt_inj.mp
  rw [nI_toInt (by omega)]
  omega
section Calls
variable {l : Launch} {P : L5} {D : va_G} {N F T : Nat → Nat → Int32} {K : Nat → Int32} {A : Nat → Nat → Int32} {w : Int64} {c B : Nat}
theorem s_lend (hI : Inv N F T K A c B) (hB : B < 2 ^ 28) (hl9 : l.stackTraces = false) (p q : Int32) : Two (fun mc ms f f2 k => CtH l yL_lend cL_lend 5 [(0, 10, 13, 13), (0, 10, 17, 15), (0, 10, 21, 17)] 9 mc ms P D f f2 [.ref (rX P), .int p, .int q, .ref (rO P)] k) (fun h mc ms f f2 r => CtI l yX4_lend cX4_lend 4 .int h mc ms P D 97 97 False f f2 [.ref (rM P), .int p, .int q] r) P N F T K A w B := by
  obtain ⟨h12, hT, hK, -, hC, -⟩ := id hI
  by_cases h1 : p < 0
  · exact two_no hI (by decide) (w_lend_1 (N1 := N) (F1 := F) (T1 := T) (x_X3_lend_1 (u := 0) hl9 (Or.inl h1))) (c_X4_lend_1 hK h12 (Or.inl h1))
  by_cases h2 : p < T 0 1
  case neg => exact two_no hI (by decide) (w_lend_1 (N1 := N) (F1 := F) (T1 := T) (x_X3_lend_1 (u := 0) hl9 (Or.inr h2))) (c_X4_lend_1 hK h12 (Or.inr (by rw [hK, ← hT]; exact h2)))
  obtain ⟨j, hj, rfl⟩ := ixK (n := c) (by omega) h1 (hT ▸ h2)
  have ej : (nI j).toNatClampNeg = j := nI_clamp (by omega)
  by_cases h3 : q < 1
  · exact two_no hI (by decide) (w_lend_2 (N1 := N) (F1 := F) (T1 := T) (x_X3_lend_2 (u := 0) hl9 h1 h2 (Or.inl h3))) (c_X4_lend_2 hK h12 hj (Or.inl h3))
  by_cases h4 : q ≤ 20
  case neg => exact two_no hI (by decide) (w_lend_2 (N1 := N) (F1 := F) (T1 := T) (x_X3_lend_2 (u := 0) hl9 h1 h2 (Or.inr h4))) (c_X4_lend_2 hK h12 hj (Or.inr (ltL h4)))
  have e8 : N (12 * 0 + j) 8 + q * 3 = A 0 (20 * j + 8) + 3 * q := by rw [hC j hj, rowO_lo (by omega), Int32.mul_comm]
  by_cases h5 : N (12 * 0 + j) 8 + q * 3 ≤ 90
  case neg => exact two_no hI (by decide) (w_lend_3 (N1 := N) (F1 := F) (T1 := T) (x_X3_lend_3 hT h12 h1 h2 h3 h4 (by rw [ej]; exact h5) hl9)) (c_X4_lend_3 hK h12 hj h3 (geL h4) (by rw [← e8]; exact h5))
  obtain ⟨qn, hq1, hq2, hq⟩ := ixL (m := 20) (by decide) h3 h4
  have hW := c_X3_lend (l := l) (P := P) (D := D) (N := N) (F := F) (T := T) (K := K) (A := A) (w := w) hT h12 h1 h2 h3 h4 (by rw [ej]; exact h5)
  rw [ej] at hW
  refine two_ok (Inv_lend hI hj hq hq2 hB) (Nat.le_refl _) upd_at ?_ (w_lend hW) (c_X4_lend hK h12 hj h3 (geL h4) (by rw [← e8]; exact h5)) (by omega) (by omega) (by omega)
  unfold mLend
  rw [sA_off (by omega), sA_at, e8]
end Calls
