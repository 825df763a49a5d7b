/-! A WEEK'S END, AN HOUR in class and model -/
theorem rk_eq {b fb q q2 c B : Nat} (h4 : q ≠ 4) (h24 : q2 ≠ 4) (hqq : q ≠ q2) : ∀ (n i : Nat) (N F A : Nat → Nat → Int32), Cpl N b A q c → Rws A q c B → CplF F fb A q2 (A 4) →
    Cpl (rkN n c b fb i N F).1 b (rkM n c q q2 i A) q c ∧ Rws (rkM n c q q2 i A) q c B ∧ CplF (rkN n c b fb i N F).2 fb (rkM n c q q2 i A) q2 (rkM n c q q2 i A 4)
  | 0, _, _, _, _, h, hr, hF => ⟨h, hr, hF⟩
  | n + 1, i, N, F, A, h, hr, hF => by
    unfold rkN rkM
    by_cases hc : c ≤ i
    · rw [if_pos hc, if_pos hc]
      exact ⟨h, hr, hF⟩
    · rw [if_neg hc, if_neg hc]
      obtain ⟨a1, a2, a3⟩ := Cpl_reck h4 h24 hqq (show i < c by omega) h hr hF
      exact rk_eq h4 h24 hqq n (i + 1) _ _ _ a1 a2 a3
/-- foggers on whom the load of the first p is delivered -/
def CplD (F : Nat → Nat → Int32) (fb : Nat) (A : Nat → Nat → Int32) (q2 p : Nat) : Prop := ∀ i, i < 4 → (∀ j, j < 5 → F (fb + i) j = A q2 (5 * i + j)) ∧ F (fb + i) 5 = if i < p then 0 else A 4 i
theorem sA_at {A : Nat → Nat → Int32} {b t : Nat} {x : Int32} : sA A b t x b t = x := by
  unfold sA
  rw [va_up_self, upd_at]
theorem sA_off {A : Nat → Nat → Int32} {b t u : Nat} {x : Int32} (h : u ≠ t) : sA A b t x b u = A b u := by
  unfold sA
  rw [va_up_self, upd_ge h]
theorem dM_4 {A : Nat → Nat → Int32} {q2 k : Nat} (h24 : q2 ≠ 4) : dM A q2 k 4 = A 4 := dM_b (Ne.symm h24)
theorem dM_at {A : Nat → Nat → Int32} {q2 k j : Nat} (h24 : q2 ≠ 4) (hj : j < 5) : dM A q2 k q2 (5 * k + j) = if j = 1 ∨ j = 4 then A q2 (5 * k + j) + A 4 k else A q2 (5 * k + j) := by
  have h4 : dM0 A q2 k 4 = A 4 := by
    unfold dM0
    exact sA_ne (Ne.symm h24)
  unfold dM dM1
  by_cases e4 : j = 4
  · subst e4
    rw [sA_at, h4, if_pos (Or.inr rfl)]
    unfold dM0
    rw [sA_off (by omega)]
  · rw [sA_off (by omega)]
    unfold dM0
    by_cases e1 : j = 1
    · subst e1
      rw [sA_at, if_pos (Or.inl rfl)]
    · rw [sA_off (by omega), if_neg (by omega)]
theorem dM_off {A : Nat → Nat → Int32} {q2 k i j : Nat} (hj : j < 5) (h : i ≠ k) : dM A q2 k q2 (5 * i + j) = A q2 (5 * i + j) := by
  unfold dM dM1 dM0
  rw [sA_off (by omega), sA_off (by omega)]
theorem dl_step {F : Nat → Nat → Int32} {fb : Nat} {A : Nat → Nat → Int32} {q2 p : Nat} (h24 : q2 ≠ 4) (hp : p < 4) (h : CplD F fb A q2 p) : CplD (dl1 F (fb + p)) fb (dM A q2 p) q2 (p + 1) := by
  intro i hi
  rw [dM_4 h24]
  unfold dl1
  by_cases e : i = p
  · subst e
    obtain ⟨h1, h2⟩ := h i hi
    rw [if_neg (Nat.lt_irrefl _)] at h2
    rw [va_up_self, if_pos (by omega)]
    refine ⟨lt5 ⟨?_, ?_, ?_, ?_, ?_⟩, rfl⟩
    · rw [dM_at h24 (by omega), if_neg (by omega)]
      exact h1 0 (by omega)
    · rw [dM_at h24 (by omega), if_pos (by omega), ← h1 1 (by omega), ← h2]
      rfl
    · rw [dM_at h24 (by omega), if_neg (by omega)]
      exact h1 2 (by omega)
    · rw [dM_at h24 (by omega), if_neg (by omega)]
      exact h1 3 (by omega)
    · rw [dM_at h24 (by omega), if_pos (by omega), ← h1 4 (by omega), ← h2]
      rfl
  · rw [va_up_ne _ _ (by omega)]
    obtain ⟨h1, h2⟩ := h i hi
    refine ⟨fun j hj => ?_, ?_⟩
    · rw [dM_off hj e]
      exact h1 j hj
    · rw [h2]
      by_cases hip : i < p
      · rw [if_pos hip, if_pos (by omega)]
      · rw [if_neg hip, if_neg (by omega)]
theorem dl_eq {F : Nat → Nat → Int32} {fb : Nat} {A : Nat → Nat → Int32} {q2 : Nat} (h24 : q2 ≠ 4) (h : CplF F fb A q2 (A 4)) : CplF (dl4 F fb) fb (dM4 A q2) q2 (fun _ => 0) := by
  have h0 : CplD F fb A q2 0 := fun i hi => ⟨(h i hi).1, by rw [(h i hi).2, if_neg (by omega)]⟩
  have h9 := dl_step h24 (by omega) (dl_step h24 (by omega) (dl_step h24 (by omega) (dl_step h24 (by omega) h0)))
  intro i hi
  obtain ⟨a1, a2⟩ := h9 i hi
  rw [if_pos (show i < 0 + 1 + 1 + 1 + 1 by omega)] at a2
  exact ⟨a1, a2⟩
theorem z4M_4 {A : Nat → Nat → Int32} {i : Nat} (hi : i < 4) : z4M A 4 i = 0 := by
  unfold z4M
  rcases (show i = 0 ∨ i = 1 ∨ i = 2 ∨ i = 3 by omega) with rfl | rfl | rfl | rfl
  · rw [sA_off (by omega), sA_off (by omega), sA_off (by omega), sA_at]
  · rw [sA_off (by omega), sA_off (by omega), sA_at]
  · rw [sA_off (by omega), sA_at]
  · rw [sA_at]
theorem hour_eq {N F A : Nat → Nat → Int32} {b fb q q2 c B : Nat} {now : Int32} (hB : B < 2 ^ 29) (h4 : q ≠ 4) (h24 : q2 ≠ 4) (hqq : q ≠ q2) (h : Cpl N b A q c) (hr : Rws A q c B) (hF : CplF F fb A q2 (fun _ => 0)) (hgo : ∀ A', (goM (c + 1) c q 0 A 0).1 = A' → A' q2 = A q2) :
    Cpl (hourN c b fb now N F).1 b (hourM c q q2 now A) q c ∧ Rws (hourM c q q2 now A) q c B ∧ CplF (hourN c b fb now N F).2 fb (hourM c q q2 now A) q2 (fun _ => 0) ∧ hourG c b N = hourMG c q A := by
  obtain ⟨g1, g2, g3⟩ := go_eq hB (c + 1) 0 N A 0 h hr
  have gF := hgo _ rfl
  unfold hourN hourM hourG hourMG
  by_cases hw : now - now / 48 * 48 = 47
  · rw [if_pos hw, if_pos hw]
    unfold weekR weekM
    obtain ⟨A1, e1⟩ : ∃ A1, A1 = (goM (c + 1) c q 0 A 0).1 := ⟨_, rfl⟩
    rw [← e1] at g1 g2 gF ⊢
    have z1 : Cpl (goN (c + 1) c b 0 N 0).1 b (z4M A1) q c := fun k hk => by rw [z4M_b h4]; exact g1 k hk
    have z2 : Rws (z4M A1) q c B := fun k hk => by rw [z4M_b h4]; exact g2 k hk
    have z3 : CplF F fb (z4M A1) q2 (z4M A1 4) := fun i hi => ⟨fun j hj => by rw [z4M_b h24, gF]; exact (hF i hi).1 j hj, by rw [z4M_4 hi]; exact (hF i hi).2⟩
    obtain ⟨r1, r2, r3⟩ := rk_eq h4 h24 hqq (c + 1) 0 _ F (z4M A1) z1 z2 z3
    have ed : ∀ A9 : Nat → Nat → Int32, dM4 A9 q2 q = A9 q := fun A9 => by
      unfold dM4
      rw [dM_b hqq, dM_b hqq, dM_b hqq, dM_b hqq]
    refine ⟨fun k hk => ?_, fun k hk => ?_, dl_eq h24 r3, g3⟩
    · rw [ed]
      exact r1 k hk
    · rw [ed]
      exact r2 k hk
  · rw [if_neg hw, if_neg hw]
    exact ⟨g1, g2, fun i hi => ⟨fun j hj => by rw [gF]; exact (hF i hi).1 j hj, (hF i hi).2⟩, g3⟩
theorem goM_off {c q q2 : Nat} (h : q2 ≠ q) : ∀ (n i : Nat) (A : Nat → Nat → Int32) (sm : Int32), (goM n c q i A sm).1 q2 = A q2
  | 0, _, _, _ => rfl
  | n + 1, i, A, sm => by
    unfold goM
    split
    · rfl
    · rw [goM_off h n]
      unfold mWA
      rw [va_up_ne _ _ h]
