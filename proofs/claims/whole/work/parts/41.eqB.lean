/-! A NAILER'S HOUR, whole -/
/-- what holds of a nailer's row; b: a bound of the rods -/
def Rw (v : Nat → Int32) (b : Nat) : Prop := ∃ sk kd fo r o ht : Nat, v 0 = nI sk ∧ sk ≤ 9 ∧ v 1 = nI kd ∧ kd < 4 ∧ v 2 = nI fo ∧ fo < 4 ∧ v 3 = nI r ∧ r ≤ b ∧ v 4 = nI o ∧ o ≤ 240 ∧ v 5 = nI ht ∧ ht ≤ 9 ∧ ∀ k, k < 4 → ∃ q, q < 1000 ∧ v (12 + k) = nI q
theorem heat_dn : ∀ h, h < 10 → imax (nI h - 3) 0 = nI (h - 3) := by decide +kernel
theorem heat_up : ∀ h, h < 10 → imin (nI h + 2) 9 = nI (min (h + 2) 9) := by decide +kernel
theorem tend_k {j : Nat} (h5 : j ≠ 5) (h6 : j ≠ 6) (v : Nat → Int32) : tend v j = v j := by
  unfold tend
  split
  · rw [upd_ge h5]
  · rw [upd_ge h5, upd_ge h6]
theorem tend_5 {v : Nat → Int32} {ht : Nat} (h : v 5 = nI ht) (h9 : ht ≤ 9) : ∃ h2, h2 ≤ 9 ∧ tend v 5 = nI h2 := by
  unfold tend
  split
  · refine ⟨ht - 3, by omega, ?_⟩
    rw [upd_at, h, heat_dn ht (by omega)]
  · refine ⟨min (ht + 2) 9, Nat.min_le_right _ _, ?_⟩
    rw [upd_at, h, heat_up ht (by omega)]
theorem fuel_nI {n : Nat} (h : n < 2 ^ 31) : fuel (nI n) 0 = n + 1 := by
  unfold fuel
  rw [nI_toInt h, show (0 : Int32).toInt = 0 from rfl]
  omega
theorem hlp_5 : ∀ (n : Nat) (most : Int32) (v : Nat → Int32) (hd : Int32), (hlp n most v hd).1 5 = v 5
  | 0, _, _, _ => rfl
  | n + 1, most, v, hd => by
    unfold hlp
    split
    · rfl
    · split
      · rfl
      · rw [hlp_5 n]; rfl
theorem head_5 (v : Nat → Int32) (a : Int32) : (head v a).1 5 = v 5 := by unfold head; rw [hlp_5]; rfl
theorem kx_nI {v : Nat → Int32} {kd : Nat} (h : v 1 = nI kd) (hk : kd < 4) : kx v = kd := by
  unfold kx
  rw [h, nI_clamp (by omega)]
theorem store_eq {v : Nat → Int32} {made brn : Int32} {kd : Nat} (h : v 1 = nI kd) (hk : kd < 4) : store (upd v 10 (v 10 + brn)) (made - brn) = mFin v made brn kd := by
  have e1 : sto1 (upd v 10 (v 10 + brn)) (made - brn) = mFin1 v made brn := rfl
  have k1 : kx (mFin1 v made brn) = kd := kx_nI (v := mFin1 v made brn) h hk
  have e2 : sto2 (upd v 10 (v 10 + brn)) (made - brn) = mFin2 (mFin1 v made brn) (made - brn) kd := by
    unfold sto2
    rw [e1, k1]
    rfl
  have k2 : kx (mFin2 (mFin1 v made brn) (made - brn) kd) = kd := kx_nI (by unfold mFin2; rw [upd_ge (by omega)]; exact h) hk
  have e3 : sto3 (upd v 10 (v 10 + brn)) (made - brn) = mFin3 (mFin2 (mFin1 v made brn) (made - brn) kd) kd := by
    unfold sto3
    rw [e2, k2]
    rfl
  have k3 : kx (mFin3 (mFin2 (mFin1 v made brn) (made - brn) kd) kd) = kd := kx_nI (by unfold mFin3 mFin2; rw [upd_ge (by omega), upd_ge (by omega)]; exact h) hk
  unfold store
  rw [e3, k3]
  rfl
theorem fin_0 {v : Nat → Int32} {kd : Nat} (h : ∃ q, q < 1000 ∧ v (12 + kd) = nI q) : mFin v 0 0 kd = v := by
  obtain ⟨q, hq, e⟩ := h
  have ed : v (12 + kd) / 1000 = 0 := by
    rw [e, show (1000 : Int32) = nI 1000 from rfl, nI_div (by omega) (by omega), Nat.div_eq_of_lt hq]
    exact nI_0
  have e1 : mFin1 v 0 0 = v := by
    unfold mFin1
    rw [show (0 : Int32) - 0 = 0 from rfl, Int32.add_zero, Int32.add_zero, upd_self, upd_self]
  have e2 : mFin2 v (0 - 0) kd = v := by
    unfold mFin2
    rw [show (0 : Int32) - 0 = 0 from rfl, Int32.add_zero, upd_self]
  have e3 : mFin3 v kd = v := by
    unfold mFin3
    rw [ed, Int32.add_zero, upd_self]
  have e4 : mFin4 v kd = v := by
    unfold mFin4
    rw [ed, Int32.zero_mul, Int32.sub_zero, upd_self]
  unfold mFin
  rw [e1, e2, e3, e4]
theorem work_eq {v : Nat → Int32} {b : Nat} (hb : b < 2 ^ 29) (h : Rw v b) : mWork v (kx v) = workH v := by
  obtain ⟨sk, kd, fo, r, o, ht, h0, hs, h1, hk, h2, hf, h3, hr, h4, ho, h5, hh, hl⟩ := h
  obtain ⟨h9, hh9, e5⟩ := tend_5 h5 hh
  rw [kx_nI h1 hk]
  unfold mWork
  rw [tend_eq]
  obtain ⟨t, et⟩ : ∃ t, t = tend v := ⟨_, rfl⟩
  have t0 : t 0 = nI sk := by rw [et, tend_k (by omega) (by omega)]; exact h0
  have t1 : t 1 = nI kd := by rw [et, tend_k (by omega) (by omega)]; exact h1
  have t3 : t 3 = nI r := by rw [et, tend_k (by omega) (by omega)]; exact h3
  have t4 : t 4 = nI o := by rw [et, tend_k (by omega) (by omega)]; exact h4
  have t5 : t 5 = nI h9 := by rw [et]; exact e5
  have tl : ∃ q, q < 1000 ∧ t (12 + kd) = nI q := by
    obtain ⟨q, hq, e⟩ := hl kd hk
    exact ⟨q, hq, by rw [et, tend_k (by omega) (by omega)]; exact e⟩
  unfold workH
  rw [← et]
  unfold mWork3
  by_cases hc : h9 < 4
  · have g1 : t 5 < 4 := by
      rw [t5]
      exact nI_lt (b := 4) hc (by omega)
    have g2 : ¬ (4 : Int32) ≤ t 5 := Int32.not_le.mpr g1
    have g3 : mCan t kd = 0 := by
      unfold mCan
      rw [if_pos g1]
    rw [if_neg g2, g3, show mHead (fuel 0 0) 0 kd t 0 = (t, 0) from by rw [show fuel 0 0 = 0 + 1 from rfl, mHead, if_pos (Int32.le_refl _)]]
    unfold mWork2
    have g4 : mBrn (t 5) 0 = 0 := by
      unfold mBrn
      rw [if_pos (Int32.lt_of_lt_of_le g1 (by decide))]
    show (mFin t 0 (mBrn (t 5) 0) kd, 0 - mBrn (t 5) 0) = (t, 0)
    rw [g4, fin_0 tl]
    rfl
  · have g1 : ¬ t 5 < 4 := by
      rw [t5]
      exact nI_nlt (b := 4) (by omega) (by omega)
    have g2 : (4 : Int32) ≤ t 5 := Int32.not_lt.mp g1
    obtain ⟨cn, ecn⟩ : ∃ cn, cn = sk * h9 * 2 / (kd + 1) := ⟨_, rfl⟩
    have hcn : cn ≤ 162 := by
      have a1 : sk * h9 ≤ 9 * 9 := Nat.mul_le_mul hs hh9
      have a2 : sk * h9 * 2 / (kd + 1) ≤ sk * h9 * 2 := Nat.div_le_self _ _
      omega
    have ec : t 0 * t 5 * 2 / (nI kd + 1) = nI cn := by
      have a1 : sk * h9 ≤ 9 * 9 := Nat.mul_le_mul hs hh9
      rw [t0, t5, nI_mul, show (2 : Int32) = nI 2 from rfl, nI_mul, nI_1, nI_div (by omega) (by omega), ← ecn]
    have g3 : mCan t kd = nI cn := by
      unfold mCan
      rw [if_neg g1, ec]
    have g4 : canN t = nI cn := by
      unfold canN
      rw [t1, ec]
    have g5 : mHead (fuel (nI cn) 0) (nI cn) kd t 0 = head t (nI cn) := by
      rw [fuel_nI (by omega), show (0 : Int32) = nI 0 from nI_0.symm, head_run (by omega) hk r (cn + 1) 0 o t t1 t3 (by omega) t4 ho (by omega) (by omega)]
      unfold head
      rw [show ((hfh t (nI cn)).1 3) = nI r from t3, nI_clamp (by omega), Nat.sub_zero, nI_0, Int32.zero_add]
    rw [if_pos g2, g3, g5]
    unfold workB mWork2
    rw [g4]
    obtain ⟨q, eq⟩ : ∃ q, q = head t (nI cn) := ⟨_, rfl⟩
    rw [← eq]
    have q5 : q.1 5 = t 5 := by rw [eq, head_5]
    have q1 : q.1 1 = nI kd := by rw [eq, head_1]; exact t1
    have es : spo q.1 q.2 = mBrn (t 5) q.2 := by
      unfold spo mBrn
      rw [q5]
    rw [es, store_eq q1 hk]
