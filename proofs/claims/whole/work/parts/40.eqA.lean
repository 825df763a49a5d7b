/-! A NAILER'S HOUR: the class's and the model's are alike -/
theorem imin_comm (a b : Int32) : imin a b = imin b a := by
  unfold imin
  by_cases h1 : b < a
  · rw [if_pos h1]
    by_cases h2 : a < b
    · exact (Int32.lt_irrefl (Int32.lt_trans h1 h2)).elim
    · rw [if_neg h2]
  · rw [if_neg h1]
    by_cases h2 : a < b
    · rw [if_pos h2]
    · rw [if_neg h2]
      exact Int32.le_antisymm (Int32.not_lt.mp h1) (Int32.not_lt.mp h2)
theorem imax_comm (a b : Int32) : imax a b = imax b a := by
  unfold imax
  by_cases h1 : a < b
  · rw [if_pos h1]
    by_cases h2 : b < a
    · exact (Int32.lt_irrefl (Int32.lt_trans h1 h2)).elim
    · rw [if_neg h2]
  · rw [if_neg h1]
    by_cases h2 : b < a
    · rw [if_pos h2]
    · rw [if_neg h2]
      exact Int32.le_antisymm (Int32.not_lt.mp h2) (Int32.not_lt.mp h1)
theorem tend_eq (v : Nat → Int32) : mTend v = tend v := by
  unfold mTend tend
  rw [imax_comm, imin_comm]
theorem imin_nI {a b : Nat} (ha : a < 2 ^ 31) (hb : b < 2 ^ 31) : imin (nI a) (nI b) = nI (min a b) := by
  unfold imin
  by_cases h : b < a
  · rw [if_pos ((nI_ltI hb ha).mpr h), Nat.min_eq_right (by omega)]
  · rw [if_neg (fun z => h ((nI_ltI hb ha).mp z)), Nat.min_eq_left (by omega)]
theorem imax0_nI {a : Nat} : imax (nI a - 3) 0 = imax (nI a - 3) 0 := rfl
/-- ounces a nail, as numbers -/
def ozN (k : Nat) : Nat := if k = 0 then 1 else if k = 1 then 2 else if k = 2 then 3 else 6
theorem ozT_nI (k : Nat) : ozT k = nI (ozN k) := by
  unfold ozT ozN
  split
  · rfl
  · split
    · rfl
    · split <;> rfl
theorem ozN_pos (k : Nat) : 0 < ozN k ∧ ozN k ≤ 6 := by
  unfold ozN
  split
  · omega
  · split
    · omega
    · split <;> omega
theorem nI_sub {a b : Nat} (h : b ≤ a) : nI a - nI b = nI (a - b) := by
  obtain ⟨d, rfl⟩ := Nat.exists_eq_add_of_le h
  rw [← nI_add, Nat.add_sub_cancel_left]
  rw [Int32.add_comm, Int32.add_sub_cancel]
theorem nI_div {a b : Nat} (ha : a < 2 ^ 31) (hb : b < 2 ^ 31) : nI a / nI b = nI (a / b) := by
  apply Int32.toInt_inj.mp
  have hq : a / b < 2 ^ 31 := Nat.lt_of_le_of_lt (Nat.div_le_self _ _) ha
  rw [nI_toInt hq, Int32.toInt_div, nI_toInt ha, nI_toInt hb]
  rw [Int.bmod_eq_of_le]
  · exact Int.ofNat_tdiv a b |>.symm ▸ rfl
  · have : (0 : Int) ≤ (a : Int).tdiv (b : Int) := Int.tdiv_nonneg (by omega) (by omega)
    omega
  · have h1 : (a : Int).tdiv (b : Int) = ((a / b : Nat) : Int) := (Int.ofNat_tdiv a b).symm
    rw [h1]
    omega
theorem nI_mul {a b : Nat} : nI a * nI b = nI (a * b) := (Int32.ofNat_mul a b).symm
theorem upd_self {v : Nat → Int32} {k : Nat} : upd v k (v k) = v := by
  funext t
  by_cases h : t = k
  · subst h
    exact if_pos rfl
  · exact upd_ge h
theorem upd_twice {v : Nat → Int32} {k : Nat} {a b : Int32} : upd (upd v k a) k b = upd v k b := updd
theorem upd_at {v : Nat → Int32} {k : Nat} {a : Int32} : upd v k a k = a := if_pos rfl
/-- nail by nail within one piece of iron -/
theorem mHead_run {kd can : Nat} (hcan : can < 2 ^ 30) : ∀ (j n m o : Nat) (v : Nat → Int32), v 4 = nI o → o ≤ 240 → j * ozN kd ≤ o → m + j ≤ can → mHead (n + j) (nI can) kd v (nI m) = mHead n (nI can) kd (upd v 4 (nI (o - j * ozN kd))) (nI (m + j))
  | 0, n, m, o, v, ho, _, _, _ => by
    rw [Nat.zero_mul, Nat.sub_zero, ← ho, upd_self]
    rfl
  | j + 1, n, m, o, v, ho, h240, hj, hm => by
    have hpos := ozN_pos kd
    have hj2 : j * ozN kd + ozN kd ≤ o := by rw [← Nat.succ_mul]; exact hj
    have h1 : ¬ nI can ≤ nI m := by
      rw [nI_leI (by omega) (by omega)]
      omega
    have h2 : ¬ v 4 < ozT kd := by
      rw [ho, ozT_nI, nI_ltI (by omega) (by omega)]
      have := Nat.zero_le (j * ozN kd)
      omega
    have hI : mIron v kd = (v, 1) := by
      unfold mIron
      rw [if_neg h2]
    have e : mHead (n + (j + 1)) (nI can) kd v (nI m) = mHead (n + j) (nI can) kd (upd v 4 (nI (o - ozN kd))) (nI (m + 1)) := by
      show mHead ((n + j) + 1) (nI can) kd v (nI m) = _
      rw [mHead, if_neg h1, hI, if_neg (show ¬ (1 : Int32) = 0 by decide)]
      show mHead (n + j) (nI can) kd (upd v 4 (v 4 - ozT kd)) (nI m + 1) = _
      rw [ho, ozT_nI, nI_sub (by omega), nI_1]
    rw [e, mHead_run hcan j n (m + 1) (o - ozN kd) _ upd_at (by omega) (by omega) (by omega), upd_twice]
    rw [show o - ozN kd - j * ozN kd = o - (j + 1) * ozN kd from by rw [Nat.succ_mul]; omega, show m + 1 + j = m + (j + 1) from by omega]
/-- the class's batch -/
theorem hfh_nI {kd o c : Nat} {v : Nat → Int32} (h1 : v 1 = nI kd) (hk : kd < 4) (ho : v 4 = nI o) (h240 : o ≤ 240) (hc : c < 2 ^ 30) : hfh v (nI c) = (upd v 4 (nI (o - min c (o / ozN kd) * ozN kd)), nI (min c (o / ozN kd))) := by
  have hpos := ozN_pos kd
  have hkx : kx v = kd := by
    unfold kx
    rw [h1, nI_clamp (by omega)]
  have hd : o / ozN kd ≤ 240 := Nat.le_trans (Nat.div_le_self _ _) h240
  have hle : min c (o / ozN kd) * ozN kd ≤ o := Nat.le_trans (Nat.mul_le_mul_right _ (Nat.min_le_right _ _)) (Nat.div_mul_le_self _ _)
  unfold hfh
  rw [hkx, ho, ozT_nI, nI_div (by omega) (by omega), imin_nI (by omega) (by omega), nI_mul, nI_sub hle]
/-- with the rods: batches and single nails come out alike -/
theorem head_run {kd can : Nat} (hcan : can < 2 ^ 29) (hk : kd < 4) : ∀ (r n m o : Nat) (v : Nat → Int32), v 1 = nI kd → v 3 = nI r → r < 2 ^ 30 → v 4 = nI o → o ≤ 240 → m ≤ can → can - m < n →
    mHead n (nI can) kd v (nI m) = hlp (r + 1) (nI can) (hfh v (nI (can - m))).1 (nI m + (hfh v (nI (can - m))).2) := by
  intro r
  induction r with
  | zero =>
    intro n m o v h1 h3 hr ho h240 hm hn
    have hpos := ozN_pos kd
    rw [hfh_nI h1 hk ho h240 (by omega)]
    obtain ⟨j, hj⟩ : ∃ j, j = min (can - m) (o / ozN kd) := ⟨_, rfl⟩
    have hjo : j * ozN kd ≤ o := by
      rw [hj]
      exact Nat.le_trans (Nat.mul_le_mul_right _ (Nat.min_le_right _ _)) (Nat.div_mul_le_self _ _)
    have hjc : m + j ≤ can := by
      have := Nat.min_le_left (can - m) (o / ozN kd)
      omega
    obtain ⟨n', rfl⟩ : ∃ n', n = n' + j := ⟨n - j, by omega⟩
    rw [← hj, mHead_run (by omega) j n' m o v ho h240 hjo hjc]
    show _ = hlp 1 (nI can) (upd v 4 (nI (o - j * ozN kd))) (nI m + nI j)
    rw [nI_add]
    obtain ⟨n2, rfl⟩ : ∃ n2, n' = n2 + 1 := ⟨n' - 1, by omega⟩
    by_cases hc : can ≤ m + j
    · rw [mHead, if_pos ((nI_leI (by omega) (by omega)).mpr hc), hlp, if_pos ((nI_leI (by omega) (by omega)).mpr hc)]
    · have hd : o / ozN kd = j := by omega
      have hlt : o - j * ozN kd < ozN kd := by
        have h9 := Nat.div_add_mod o (ozN kd)
        have h8 := Nat.mod_lt o hpos.1
        rw [hd, Nat.mul_comm] at h9
        omega
      have hI : mIron (upd v 4 (nI (o - j * ozN kd))) kd = (upd v 4 (nI (o - j * ozN kd)), 0) := by
        unfold mIron
        rw [upd_at, if_pos (by rw [ozT_nI, nI_ltI (by omega) (by omega)]; exact hlt), upd_ge (by omega), h3, if_pos nI_0]
      have h30 : upd v 4 (nI (o - j * ozN kd)) 3 = 0 := by
        rw [upd_ge (by omega), h3]
        rfl
      rw [mHead, if_neg (fun z => hc ((nI_leI (by omega) (by omega)).mp z)), hI, if_pos rfl, hlp, if_neg (fun z => hc ((nI_leI (by omega) (by omega)).mp z)), if_pos (by rw [h30]; exact Int32.le_refl _)]
  | succ r ih =>
    intro n m o v h1 h3 hr ho h240 hm hn
    have hpos := ozN_pos kd
    rw [hfh_nI h1 hk ho h240 (by omega)]
    obtain ⟨j, hj⟩ : ∃ j, j = min (can - m) (o / ozN kd) := ⟨_, rfl⟩
    have hjo : j * ozN kd ≤ o := by
      rw [hj]
      exact Nat.le_trans (Nat.mul_le_mul_right _ (Nat.min_le_right _ _)) (Nat.div_mul_le_self _ _)
    have hjc : m + j ≤ can := by
      have := Nat.min_le_left (can - m) (o / ozN kd)
      omega
    obtain ⟨n', rfl⟩ : ∃ n', n = n' + j := ⟨n - j, by omega⟩
    rw [← hj, mHead_run (by omega) j n' m o v ho h240 hjo hjc]
    show _ = hlp (r + 1 + 1) (nI can) (upd v 4 (nI (o - j * ozN kd))) (nI m + nI j)
    rw [nI_add]
    obtain ⟨n2, rfl⟩ : ∃ n2, n' = n2 + 1 := ⟨n' - 1, by omega⟩
    by_cases hc : can ≤ m + j
    · rw [mHead, if_pos ((nI_leI (by omega) (by omega)).mpr hc), hlp, if_pos ((nI_leI (by omega) (by omega)).mpr hc)]
    · have hd : o / ozN kd = j := by omega
      have hlt : o - j * ozN kd < ozN kd := by
        have h9 := Nat.div_add_mod o (ozN kd)
        have h8 := Nat.mod_lt o hpos.1
        rw [hd, Nat.mul_comm] at h9
        omega
      obtain ⟨u, hu⟩ : ∃ u, u = upd v 4 (nI (o - j * ozN kd)) := ⟨_, rfl⟩
      have u1 : u 1 = nI kd := by rw [hu, upd_ge (by omega)]; exact h1
      have u3 : u 3 = nI (r + 1) := by rw [hu, upd_ge (by omega)]; exact h3
      have u4 : u 4 = nI (o - j * ozN kd) := by rw [hu]; exact upd_at
      have hI : mIron u kd = (rod u, 1) := by
        unfold mIron
        rw [u4, if_pos (by rw [ozT_nI, nI_ltI (by omega) (by omega)]; exact hlt), u3, if_neg (nI_ne0 (by omega) (by omega))]
      have hR : mIron (rod u) kd = (rod u, 1) := by
        unfold mIron
        rw [show rod u 4 = 240 from rfl, if_neg (by rw [ozT_nI, show (240 : Int32) = nI 240 from rfl, nI_ltI (by omega) (by omega)]; omega)]
      have e1 : mHead (n2 + 1) (nI can) kd u (nI (m + j)) = mHead (n2 + 1) (nI can) kd (rod u) (nI (m + j)) := by
        have hcn : ¬ nI can ≤ nI (m + j) := fun z => hc ((nI_leI (by omega) (by omega)).mp z)
        rw [mHead, mHead, hI, hR, if_neg hcn, if_neg hcn]
      have r3 : rod u 3 = nI r := by
        show u 3 - 1 = nI r
        rw [u3, nI_pred]
      rw [← hu, e1, ih (n2 + 1) (m + j) 240 (rod u) u1 r3 (by omega) rfl (Nat.le_refl _) hjc (by omega)]
      have e2 : hlp (r + 1 + 1) (nI can) u (nI (m + j)) = hlp (r + 1) (nI can) (hfh (rod u) (nI can - nI (m + j))).1 (nI (m + j) + (hfh (rod u) (nI can - nI (m + j))).2) := by
        rw [hlp, if_neg (fun z => hc ((nI_leI (by omega) (by omega)).mp z)), u3, if_neg (nI_nle (by omega) (by omega))]
      rw [e2, nI_sub hjc]
