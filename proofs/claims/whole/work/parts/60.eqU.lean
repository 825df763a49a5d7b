/-! WHAT HOURS LEAVE ALONE; PASS -/
theorem goN_off {c b x : Nat} : ∀ (n i : Nat) (N : Nat → Nat → Int32) (sm : Int32), (x < b + i ∨ b + c ≤ x) → (goN n c b i N sm).1 x = N x
  | 0, _, _, _, _ => rfl
  | n + 1, i, N, sm, h => by
    unfold goN
    split
    · rfl
    · rw [goN_off n (i + 1) _ _ (by omega), va_up_ne _ _ (by omega)]
theorem rkN_off {c b fb x : Nat} : ∀ (n i : Nat) (N F : Nat → Nat → Int32), (x < b + i ∨ b + c ≤ x) → (rkN n c b fb i N F).1 x = N x
  | 0, _, _, _, _ => rfl
  | n + 1, i, N, F, h => by
    unfold rkN
    split
    · rfl
    · rw [rkN_off n (i + 1) _ _ (by omega)]
      unfold rk1
      exact va_up_ne _ _ (by omega)
theorem rkF_off {c b fb x : Nat} : ∀ (n i : Nat) (N F : Nat → Nat → Int32), x < fb → (rkN n c b fb i N F).2 x = F x
  | 0, _, _, _, _ => rfl
  | n + 1, i, N, F, h => by
    unfold rkN
    split
    · rfl
    · rw [rkF_off n (i + 1) _ _ h]
      unfold rk1
      exact va_up_ne _ _ (by omega)
theorem dl4_off {fb x : Nat} {F : Nat → Nat → Int32} (h : x < fb) : dl4 F fb x = F x := by
  unfold dl4 dl1
  rw [va_up_ne _ _ (by omega), va_up_ne _ _ (by omega), va_up_ne _ _ (by omega), va_up_ne _ _ (by omega)]
theorem hourN_off {c b fb x : Nat} {now : Int32} {N F : Nat → Nat → Int32} (h : x < b ∨ b + c ≤ x) : (hourN c b fb now N F).1 x = N x := by
  unfold hourN
  split
  · unfold weekR
    show (rkN (c + 1) c b fb 0 _ F).1 x = _
    rw [rkN_off _ _ _ _ (by omega), goN_off _ _ _ _ (by omega)]
  · show (goN (c + 1) c b 0 N 0).1 x = _
    exact goN_off _ _ _ _ (by omega)
theorem hourF_off {c b fb x : Nat} {now : Int32} {N F : Nat → Nat → Int32} (h : x < fb) : (hourN c b fb now N F).2 x = F x := by
  unfold hourN
  split
  · unfold weekR
    show dl4 (rkN (c + 1) c b fb 0 _ F).2 fb x = _
    rw [dl4_off h, rkF_off _ _ _ _ h]
  · rfl
theorem goB_N {c t x : Nat} {h : Int32} (hx : x < 12 * t ∨ 12 * t + c ≤ x) : ∀ (n : Nat) (i : Int32) (N F T : Nat → Nat → Int32) (sm : Int32), (goB n h i c t N F T sm).1 x = N x
  | 0, _, _, _, _, _ => rfl
  | n + 1, i, N, F, T, sm => by
    unfold goB
    split
    · rfl
    · rw [goB_N hx n, hourN_off hx]
theorem goB_F {c t x : Nat} {h : Int32} (hx : x < 4 * t) : ∀ (n : Nat) (i : Int32) (N F T : Nat → Nat → Int32) (sm : Int32), (goB n h i c t N F T sm).2.1 x = F x
  | 0, _, _, _, _, _ => rfl
  | n + 1, i, N, F, T, sm => by
    unfold goB
    split
    · rfl
    · rw [goB_F hx n, hourF_off hx]
theorem goB_T {c t x : Nat} {h : Int32} (hx : x ≠ t) : ∀ (n : Nat) (i : Int32) (N F T : Nat → Nat → Int32) (sm : Int32), (goB n h i c t N F T sm).2.2.1 x = T x
  | 0, _, _, _, _, _ => rfl
  | n + 1, i, N, F, T, sm => by
    unfold goB
    split
    · rfl
    · rw [goB_T hx n]
      unfold hourT
      exact va_up_ne _ _ hx
theorem goB_T1 {c t : Nat} {h : Int32} : ∀ (n : Nat) (i : Int32) (N F T : Nat → Nat → Int32) (sm : Int32), (goB n h i c t N F T sm).2.2.1 t 1 = T t 1
  | 0, _, _, _, _, _ => rfl
  | n + 1, i, N, F, T, sm => by
    unfold goB
    split
    · rfl
    · rw [goB_T1 n]
      unfold hourT
      rw [va_up_self, upd_ge (by omega)]
theorem cpN_off {c b d x : Nat} : ∀ (n i : Nat) (N : Nat → Nat → Int32), x < b + i → cpN n c b d i N x = N x
  | 0, _, _, _ => rfl
  | n + 1, i, N, h => by
    unfold cpN
    split
    · rfl
    · rw [cpN_off n (i + 1) _ (by omega), va_up_ne _ _ (by omega)]
theorem cp4_off {F : Nat → Nat → Int32} {b d x : Nat} (h : x < b) : cp4 F b d x = F x := by
  unfold cp4 cp1
  rw [va_up_ne _ _ (by omega), va_up_ne _ _ (by omega), va_up_ne _ _ (by omega), va_up_ne _ _ (by omega)]
theorem goM_row {c q k : Nat} (hk : c ≤ k) : ∀ (n i : Nat) (A : Nat → Nat → Int32) (sm : Int32), rowO ((goM n c q i A sm).1 q) (20 * k) = rowO (A q) (20 * k)
  | 0, _, _, _ => rfl
  | n + 1, i, A, sm => by
    unfold goM
    split
    · rfl
    · rw [goM_row hk n, row_off (by omega)]
theorem mRA_row {A : Nat → Nat → Int32} {q q2 i k : Nat} (h4 : q ≠ 4) (hqq : q ≠ q2) (hk : k ≠ i) : rowO (mRA A q q2 (20 * i) q) (20 * k) = rowO (A q) (20 * k) := by
  unfold mRA R3
  rw [va_up_ne _ _ h4, va_up_ne _ _ hqq, va_up_self, rowO_off hk]
theorem rkM_row {c q q2 k : Nat} (h4 : q ≠ 4) (hqq : q ≠ q2) (hk : c ≤ k) : ∀ (n i : Nat) (A : Nat → Nat → Int32), rowO (rkM n c q q2 i A q) (20 * k) = rowO (A q) (20 * k)
  | 0, _, _ => rfl
  | n + 1, i, A => by
    unfold rkM
    split
    · rfl
    · rw [rkM_row h4 hqq hk n, mRA_row h4 hqq (by omega)]
theorem hourM_row {c q q2 k : Nat} {now : Int32} {A : Nat → Nat → Int32} (h4 : q ≠ 4) (hqq : q ≠ q2) (hk : c ≤ k) : rowO (hourM c q q2 now A q) (20 * k) = rowO (A q) (20 * k) := by
  unfold hourM
  split
  · unfold weekM dM4
    rw [dM_b hqq, dM_b hqq, dM_b hqq, dM_b hqq, rkM_row h4 hqq hk, z4M_b h4, goM_row hk]
  · exact goM_row hk _ _ _ _
theorem passM_row {c k : Nat} {h : Int32} (hk : c ≤ k) : ∀ (n : Nat) (i now : Int32) (A : Nat → Nat → Int32) (sm : Int32), rowO ((passM n h i c now A sm).1 0) (20 * k) = rowO (A 0) (20 * k)
  | 0, _, _, _, _ => rfl
  | n + 1, i, now, A, sm => by
    unfold passM
    split
    · rfl
    · rw [passM_row hk n, hourM_row (by omega) (by omega) hk]
theorem rkM_off {c q q2 x : Nat} (h4 : x ≠ 4) (h1 : x ≠ q) (h2 : x ≠ q2) : ∀ (n i : Nat) (A : Nat → Nat → Int32), rkM n c q q2 i A x = A x
  | 0, _, _ => rfl
  | n + 1, i, A => by
    unfold rkM
    split
    · rfl
    · rw [rkM_off h4 h1 h2 n]
      unfold mRA R3
      rw [va_up_ne _ _ h4, va_up_ne _ _ h2, va_up_ne _ _ h1]
theorem hourM_off {c q q2 x : Nat} {now : Int32} {A : Nat → Nat → Int32} (h4 : x ≠ 4) (h1 : x ≠ q) (h2 : x ≠ q2) : hourM c q q2 now A x = A x := by
  unfold hourM
  split
  · unfold weekM dM4
    rw [dM_b h2, dM_b h2, dM_b h2, dM_b h2, rkM_off h4 h1 h2, z4M_b h4, goM_off h1]
  · exact goM_off h1 _ _ _ _
theorem aheadM_off {c x : Nat} {h : Int32} (hx : x < 2) : ∀ (n : Nat) (i now : Int32) (A : Nat → Nat → Int32), aheadM n h i c now A x = A x
  | 0, _, _, _ => rfl
  | n + 1, i, now, A => by
    unfold aheadM
    split
    · rfl
    · rw [aheadM_off hx n, hourM_off (by omega) (by omega) (by omega)]
theorem look_off {A : Nat → Nat → Int32} {x : Nat} (hx : x < 2) : lookM A x = A x := by
  rcases (show x = 0 ∨ x = 1 by omega) with rfl | rfl
  · exact lookM_0 A
  · exact lookM_1 A
theorem whM_off {a x : Nat} (hx : x < 2) : ∀ (n : Nat) (q h : Int32) (A : Nat → Nat → Int32), (whM n q h a A).1 x = A x
  | 0, _, _, _ => rfl
  | n + 1, q, h, A => by
    unfold whM
    split
    · rfl
    · split
      · rw [whM_off hx n]
        unfold mWA
        rw [va_up_ne _ _ (by omega)]
      · show mWA A 2 a x = A x
        unfold mWA
        rw [va_up_ne _ _ (by omega)]
theorem wofQ_off {A : Nat → Nat → Int32} {j k x : Nat} {q : Int32} (hx : x < 2) : (wofQ A j k q).1 x = A x := by
  unfold wofQ
  show (woM _ _ _ _ _ _).1 x = _
  rw [woM_off (by omega)]
  unfold wofA
  rw [sA_ne (by omega), look_off hx]
theorem adM_off {j x : Nat} {q : Int32} (hx : x < 2) : ∀ (n i best : Nat) (A : Nat → Nat → Int32), (adM n q j i best A).1 x = A x
  | 0, _, _, _ => rfl
  | n + 1, i, best, A => by
    unfold adM
    split
    · rfl
    · split
      · rw [adM_off hx n, wofQ_off hx, wofQ_off hx]
      · rw [adM_off hx n, wofQ_off hx, wofQ_off hx]
theorem advL_off {j x : Nat} {q : Int32} (hx : x ≠ 24) : ∀ (n i : Nat) (N : Nat → Nat → Int32) (best bw : Int32), (advL n q j i N best bw).1 x = N x
  | 0, _, _, _, _ => rfl
  | n + 1, i, N, best, bw => by
    unfold advL
    split
    · rfl
    · split
      · rw [advL_off hx n, va_up_ne _ _ hx]
      · rw [advL_off hx n, va_up_ne _ _ hx]
theorem Inv_up {N F T A : Nat → Nat → Int32} {K : Nat → Int32} {c B B' : Nat} (h : Inv N F T K A c B) (hB : B ≤ B') : Inv N F T K A c B' := by
  obtain ⟨h12, h2, h3, h4, hC, hR, hF, hfr⟩ := h
  exact ⟨h12, h2, h3, h4, hC, fun k hk => Rw_more hB (hR k hk), hF, hfr⟩
theorem Inv_pass {N F T A : Nat → Nat → Int32} {K : Nat → Int32} {c B : Nat} {p : Int32} (h : Inv N F T K A c B) (hB : B < 2 ^ 29) : Inv (goB (fuel p 0) p 0 c 0 N F T 0).1 (goB (fuel p 0) p 0 c 0 N F T 0).2.1 (goB (fuel p 0) p 0 c 0 N F T 0).2.2.1 (upd (upd K 0 0) 1 (passM (fuel p 0) p 0 c (K 1) A 0).2.1) (passM (fuel p 0) p 0 c (K 1) A 0).1 c B ∧ (goB (fuel p 0) p 0 c 0 N F T 0).2.2.2 = (passM (fuel p 0) p 0 c (K 1) A 0).2.2 := by
  obtain ⟨h12, h2, h3, h4, hC, hR, hF, hfr⟩ := h
  obtain ⟨a1, a2, a3, a4, a5⟩ := pass_eq (t := 0) (c := c) (h := p) hB (fuel p 0) 0 (K 1) N F T A 0 hC hR hF h4
  refine ⟨⟨h12, ?_, ?_, ?_, a1, a2, a3, fun k hk hk2 => ⟨?_, ?_⟩⟩, a5⟩
  · rw [goB_T1]
    exact h2
  · rw [upd_ge (by omega), upd_ge (by omega)]
    exact h3
  · rw [a4, va_up_self, upd_at, upd_at]
  · rw [goB_N (by omega)]
    exact (hfr k hk hk2).1
  · rw [passM_row hk]
    exact (hfr k hk hk2).2
