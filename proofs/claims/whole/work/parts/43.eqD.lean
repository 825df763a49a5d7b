/-! THE NAILERS' HOUR in class and model -/
theorem mIron_hi {j : Nat} (hj : 20 ≤ j) (v : Nat → Int32) (kd : Nat) : (mIron v kd).1 j = v j := by
  unfold mIron
  split
  · split
    · rfl
    · exact rod_k (by omega) (by omega) (by omega) v
  · rfl
theorem mHead_hi {j : Nat} (hj : 20 ≤ j) : ∀ (n : Nat) (can : Int32) (kd : Nat) (v : Nat → Int32) (made : Int32), (mHead n can kd v made).1 j = v j
  | 0, _, _, _, _ => rfl
  | n + 1, can, kd, v, made => by
    unfold mHead
    split
    · rfl
    · split
      · exact mIron_hi hj v kd
      · rw [mHead_hi hj n, upd_ge (by omega), mIron_hi hj]
theorem mFin_hi {j : Nat} (hj : 20 ≤ j) {v : Nat → Int32} {made brn : Int32} {kd : Nat} (hk : kd < 4) : mFin v made brn kd j = v j := by
  unfold mFin mFin4
  rw [upd_ge (by omega)]
  unfold mFin3
  rw [upd_ge (by omega)]
  unfold mFin2
  rw [upd_ge (by omega)]
  unfold mFin1
  rw [upd_ge (by omega), upd_ge (by omega)]
theorem mWork_hi {j : Nat} (hj : 20 ≤ j) {v : Nat → Int32} {kd : Nat} (hk : kd < 4) : (mWork v kd).1 j = v j := by
  unfold mWork mWork3 mWork2
  show mFin _ _ _ _ j = _
  rw [mFin_hi hj hk, mHead_hi hj, tend_eq, tend_k (by omega) (by omega)]
theorem rowO_hi {f : Nat → Int32} {a j : Nat} (hj : 20 ≤ j) : rowO f a j = 0 := if_neg (by omega)
theorem rowO_lo {f : Nat → Int32} {a j : Nat} (hj : j < 20) : rowO f a j = f (a + j) := if_pos hj
/-- a row that is set, read again -/
theorem rowO_upR {f v : Nat → Int32} {a : Nat} (hv : ∀ j, 20 ≤ j → v j = 0) : rowO (upR f a 20 v) a = v := by
  funext j
  by_cases h : j < 20
  · rw [rowO_lo h, upR_at h]
  · rw [rowO_hi (by omega), hv j (by omega)]
theorem rowO_off {f v : Nat → Int32} {i k : Nat} (h : k ≠ i) : rowO (upR f (20 * i) 20 v) (20 * k) = rowO f (20 * k) := by
  funext j
  by_cases hj : j < 20
  · rw [rowO_lo hj, rowO_lo hj, upR_off (by omega)]
  · rw [rowO_hi (by omega), rowO_hi (by omega)]
/-- class's rows from b on are the model's rows of array q -/
def Cpl (N : Nat → Nat → Int32) (b : Nat) (A : Nat → Nat → Int32) (q c : Nat) : Prop := ∀ k, k < c → N (b + k) = rowO (A q) (20 * k)
def Rws (A : Nat → Nat → Int32) (q c B : Nat) : Prop := ∀ k, k < c → Rw (rowO (A q) (20 * k)) B
theorem mWr_eq {v : Nat → Int32} {B : Nat} (hB : B < 2 ^ 29) (h : Rw v B) : mWr v = workH v := work_eq hB h
theorem mWr_hi {v : Nat → Int32} {B : Nat} (h : Rw v B) {j : Nat} (hj : 20 ≤ j) : (mWr v).1 j = v j := by
  obtain ⟨sk, kd, fo, r, o, ht, -, -, h1, hk, -⟩ := h
  unfold mWr
  rw [kx_nI h1 hk]
  exact mWork_hi hj hk
theorem row_work {A : Nat → Nat → Int32} {q i B : Nat} (h : Rw (rowO (A q) (20 * i)) B) : rowO (mWA A q (20 * i) q) (20 * i) = (mWr (rowO (A q) (20 * i))).1 := by
  unfold mWA
  rw [va_up_self]
  exact rowO_upR fun j hj => (mWr_hi h hj).trans (rowO_hi hj)
theorem row_off {A : Nat → Nat → Int32} {q i k : Nat} (h : k ≠ i) : rowO (mWA A q (20 * i) q) (20 * k) = rowO (A q) (20 * k) := by
  unfold mWA
  rw [va_up_self]
  exact rowO_off h
theorem Cpl_work {N : Nat → Nat → Int32} {b : Nat} {A : Nat → Nat → Int32} {q c i B : Nat} (hB : B < 2 ^ 29) (hi : i < c) (h : Cpl N b A q c) (hr : Rws A q c B) : Cpl (va_up N (b + i) (workH (N (b + i))).1) b (mWA A q (20 * i)) q c ∧ Rws (mWA A q (20 * i)) q c B := by
  refine ⟨fun k hk => ?_, fun k hk => ?_⟩
  · by_cases e : k = i
    · subst e
      rw [va_up_self, row_work (hr k hk), h k hk, mWr_eq hB (hr k hk)]
    · rw [va_up_ne _ _ (by omega), row_off e]
      exact h k hk
  · by_cases e : k = i
    · subst e
      rw [row_work (hr k hk), mWr_eq hB (hr k hk)]
      exact (work_ok hB (hr k hk)).1
    · rw [row_off e]
      exact hr k hk
theorem go_eq {b q c B : Nat} (hB : B < 2 ^ 29) : ∀ (n i : Nat) (N A : Nat → Nat → Int32) (sm : Int32), Cpl N b A q c → Rws A q c B →
    Cpl (goN n c b i N sm).1 b (goM n c q i A sm).1 q c ∧ Rws (goM n c q i A sm).1 q c B ∧ (goN n c b i N sm).2 = (goM n c q i A sm).2
  | 0, _, _, _, _, h, hr => ⟨h, hr, rfl⟩
  | n + 1, i, N, A, sm, h, hr => by
    unfold goN goM
    by_cases hc : c ≤ i
    · rw [if_pos hc, if_pos hc]
      exact ⟨h, hr, rfl⟩
    · rw [if_neg hc, if_neg hc]
      have hi : i < c := by omega
      have e : (workH (N (b + i))).2 = (mWr (rowO (A q) (20 * i))).2 := by rw [h i hi, mWr_eq hB (hr i hi)]
      obtain ⟨h2, hr2⟩ := Cpl_work hB hi h hr
      rw [e]
      exact go_eq hB n (i + 1) _ _ _ h2 hr2
