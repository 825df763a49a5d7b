/-! WHAT A RECKONING KEEPS -/
theorem mBag_j {j t : Nat} (h7 : j ≠ 7) (ht : j ≠ 16 + t) : ∀ (n : Nat) (pr left : Int32) (fo : Nat) (v g wv : Nat → Int32), (mBag n pr left t fo v g wv).1 j = v j
  | 0, _, _, _, _, _, _ => rfl
  | n + 1, pr, left, fo, v, g, wv => by
    unfold mBag
    split
    · rfl
    · split
      · rfl
      · rw [mBag_j h7 ht n]
        unfold mB1
        rw [upd_ge ht, upd_ge h7]
theorem mKinds_j {j : Nat} (h7 : j ≠ 7) (hj : j < 16 ∨ 20 ≤ j) : ∀ (n i fo : Nat) (v g wv : Nat → Int32), (mKinds n i fo v g wv).1 j = v j
  | 0, _, _, _, _, _ => rfl
  | n + 1, i, fo, v, g, wv => by
    unfold mKinds
    split
    · rfl
    · rw [mKinds_j h7 hj n]
      unfold mKind
      rw [mBag_j h7 (by omega)]
theorem mReck_j {j : Nat} (h7 : j ≠ 7) (h8 : j ≠ 8) (hj : j < 16 ∨ 20 ≤ j) (fo : Nat) (v g wv : Nat → Int32) : (mReck fo v g wv).1 j = v j := by
  unfold mReck mRk2
  show upd _ _ _ j = _
  rw [upd_ge h8, upd_ge h7, mKinds_j h7 hj]
theorem Rw_of {v u : Nat → Int32} {b : Nat} (h : Rw v b) (e : ∀ j, j < 6 ∨ (12 ≤ j ∧ j < 16) → u j = v j) : Rw u b := by
  obtain ⟨sk, kd, fo, r, o, ht, h0, hs, h1, hk, h2, hf, h3, hr, h4, ho, h5, hh, hl⟩ := h
  refine ⟨sk, kd, fo, r, o, ht, (e 0 (by omega)).trans h0, hs, (e 1 (by omega)).trans h1, hk, (e 2 (by omega)).trans h2, hf, (e 3 (by omega)).trans h3, hr, (e 4 (by omega)).trans h4, ho, (e 5 (by omega)).trans h5, hh, fun k hk9 => ?_⟩
  obtain ⟨q, hq, eq⟩ := hl k hk9
  exact ⟨q, hq, (e _ (by omega)).trans eq⟩
theorem Rw_reck {fo : Nat} {v g wv : Nat → Int32} {b : Nat} (h : Rw v b) : Rw (mReck fo v g wv).1 b := Rw_of h fun j hj => mReck_j (by omega) (by omega) (by omega) fo v g wv
theorem Rw_more {v : Nat → Int32} {b b2 : Nat} (hb : b ≤ b2) (h : Rw v b) : Rw v b2 := by
  obtain ⟨sk, kd, fo, r, o, ht, h0, hs, h1, hk, h2, hf, h3, hr, h4, ho, h5, hh, hl⟩ := h
  exact ⟨sk, kd, fo, r, o, ht, h0, hs, h1, hk, h2, hf, h3, by omega, h4, ho, h5, hh, hl⟩
/-- the foggers: class's rows from fb on are the model's rows of array q2, and the worths -/
def CplF (F : Nat → Nat → Int32) (fb : Nat) (A : Nat → Nat → Int32) (q2 : Nat) (wv : Nat → Int32) : Prop := ∀ i, i < 4 → (∀ j, j < 5 → F (fb + i) j = A q2 (5 * i + j)) ∧ F (fb + i) 5 = wv i
theorem Gr_of {F : Nat → Nat → Int32} {fb : Nat} {A : Nat → Nat → Int32} {q2 : Nat} {wv : Nat → Int32} (h : CplF F fb A q2 wv) {i : Nat} (hi : i < 4) : Gr (F (fb + i)) (rowO (A q2) (5 * i)) wv i := by
  refine ⟨fun j hj => ?_, (h i hi).2⟩
  rw [rowO_lo (by omega)]
  exact (h i hi).1 j hj
theorem R3_b2 {A : Nat → Nat → Int32} {b b2 a a2 : Nat} {f v f2 g wv : Nat → Int32} (h2 : b2 ≠ 4) : R3 A b f a v b2 f2 a2 g wv b2 = upR f2 a2 5 g := by
  unfold R3
  rw [va_up_ne _ _ h2, va_up_self]
theorem R3_4 {A : Nat → Nat → Int32} {b b2 a a2 : Nat} {f v f2 g wv : Nat → Int32} : R3 A b f a v b2 f2 a2 g wv 4 = wv := by
  unfold R3
  rw [va_up_self]
theorem Cpl_reck {N F : Nat → Nat → Int32} {b fb : Nat} {A : Nat → Nat → Int32} {q q2 c i B : Nat} (h4 : q ≠ 4) (h24 : q2 ≠ 4) (hqq : q ≠ q2) (hi : i < c) (h : Cpl N b A q c) (hr : Rws A q c B) (hF : CplF F fb A q2 (A 4)) :
    Cpl (rk1 N F (b + i) (fb + (N (b + i) 2).toNatClampNeg)).1 b (mRA A q q2 (20 * i)) q c ∧ Rws (mRA A q q2 (20 * i)) q c B ∧ CplF (rk1 N F (b + i) (fb + (N (b + i) 2).toNatClampNeg)).2 fb (mRA A q q2 (20 * i)) q2 (mRA A q q2 (20 * i) 4) := by
  obtain ⟨sk, kd, fo, r, o, ht, h0, hs, h1, hk, h2, hf, -⟩ := hr i hi
  have eN : N (b + i) = rowO (A q) (20 * i) := h i hi
  have efo : (N (b + i) 2).toNatClampNeg = fo := by rw [eN, h2, nI_clamp (by omega)]
  have efo2 : foA A q (20 * i) = fo := by
    unfold foA
    rw [← rowO_lo (f := A q) (a := 20 * i) (j := 2) (by omega), h2, nI_clamp (by omega)]
  obtain ⟨e1, e2, e3⟩ := reck_eq (v := rowO (A q) (20 * i)) (Gr_of hF hf)
  obtain ⟨m, em⟩ : ∃ m, m = mReck fo (rowO (A q) (20 * i)) (rowO (A q2) (5 * fo)) (A 4) := ⟨_, rfl⟩
  have emq : rkQ A q q2 (20 * i) = m := by
    unfold rkQ
    rw [efo2, em]
  rw [← em] at e1 e2 e3
  have hhi : ∀ j, 20 ≤ j → m.1 j = 0 := fun j hj => by rw [em, mReck_j (by omega) (by omega) (Or.inr hj), rowO_hi hj]
  have eA : mRA A q q2 (20 * i) q = upR (A q) (20 * i) 20 m.1 := by
    unfold mRA
    rw [R3_b h4 hqq, emq]
  have eA2 : mRA A q q2 (20 * i) q2 = upR (A q2) (5 * fo) 5 m.2.1 := by
    unfold mRA
    rw [R3_b2 h24, emq, efo2]
  have eA4 : mRA A q q2 (20 * i) 4 = m.2.2 := by
    unfold mRA
    rw [R3_4, emq]
  rw [efo]
  unfold rk1
  rw [eN]
  refine ⟨fun k hk => ?_, fun k hk => ?_, fun k hk => ?_⟩
  · rw [eA]
    by_cases e : k = i
    · subst e
      rw [rowO_upR hhi]
      show va_up N (b + k) _ (b + k) = _
      rw [va_up_self]
      exact e1
    · rw [rowO_off e]
      show va_up N (b + i) _ (b + k) = _
      rw [va_up_ne _ _ (by omega)]
      exact h k hk
  · rw [eA]
    by_cases e : k = i
    · subst e
      rw [rowO_upR hhi, em]
      exact Rw_reck (hr k hk)
    · rw [rowO_off e]
      exact hr k hk
  · rw [eA2, eA4]
    by_cases e : k = fo
    · subst e
      show (∀ j, j < 5 → va_up F (fb + k) _ (fb + k) j = _) ∧ va_up F (fb + k) _ (fb + k) 5 = _
      rw [va_up_self]
      exact ⟨fun j hj => by rw [upR_at hj]; exact e2.1 j hj, e2.2⟩
    · show (∀ j, j < 5 → va_up F (fb + fo) _ (fb + k) j = _) ∧ va_up F (fb + fo) _ (fb + k) 5 = _
      rw [va_up_ne _ _ (by omega)]
      refine ⟨fun j hj => ?_, ?_⟩
      · rw [upR_off (by omega)]
        exact (hF k hk).1 j hj
      · rw [e3 k e]
        exact (hF k hk).2
