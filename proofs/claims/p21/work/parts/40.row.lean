/-! NUMBERS; WHAT A NAILER'S ROW KEEPS -/
theorem imin_nI {a b : Nat} (ha : a < 2 ^ 31) (hb : b < 2 ^ 31) : imin (nI a) (nI b) = nI (min a b) := by
  unfold imin
  by_cases h : b < a
  · rw [if_pos ((nI_ltI hb ha).mpr h), Nat.min_eq_right (by omega)]
  · rw [if_neg (fun z => h ((nI_ltI hb ha).mp z)), Nat.min_eq_left (by omega)]
/-- ounces a nail, as numbers -/
def ozN (k : Nat) : Nat := if k = 0 then 1 else if k = 1 then 2 else if k = 2 then 3 else 6
theorem ozT_nI (k : Nat) : ozT k = nI (ozN k) := by
  unfold ozT ozN
  split
  · rfl
  · split
    · rfl
    · split <;> rfl
theorem ozN_pos (k : Nat) : 0 < ozN k ∧ ozN k ≤ 6 := by
  unfold ozN
  split
  · omega
  · split
    · omega
    · split <;> omega
theorem nI_sub {a b : Nat} (h : b ≤ a) : nI a - nI b = nI (a - b) := by
  obtain ⟨d, rfl⟩ := Nat.exists_eq_add_of_le h
  rw [← nI_add, Nat.add_sub_cancel_left]
  rw [Int32.add_comm, Int32.add_sub_cancel]
theorem nI_div {a b : Nat} (ha : a < 2 ^ 31) (hb : b < 2 ^ 31) : nI a / nI b = nI (a / b) := by
  apply Int32.toInt_inj.mp
  have hq : a / b < 2 ^ 31 := Nat.lt_of_le_of_lt (Nat.div_le_self _ _) ha
  rw [nI_toInt hq, Int32.toInt_div, nI_toInt ha, nI_toInt hb]
  rw [Int.bmod_eq_of_le]
  · exact Int.ofNat_tdiv a b |>.symm ▸ rfl
  · have : (0 : Int) ≤ (a : Int).tdiv (b : Int) := Int.tdiv_nonneg (by omega) (by omega)
    omega
  · have h1 : (a : Int).tdiv (b : Int) = ((a / b : Nat) : Int) := (Int.ofNat_tdiv a b).symm
    rw [h1]
    omega
theorem nI_mul {a b : Nat} : nI a * nI b = nI (a * b) := (Int32.ofNat_mul a b).symm
theorem upd_self {v : Nat → Int32} {k : Nat} : upd v k (v k) = v := by
  funext t
  by_cases h : t = k
  · subst h
    exact if_pos rfl
  · exact upd_ge h
theorem upd_at {v : Nat → Int32} {k : Nat} {a : Int32} : upd v k a k = a := if_pos rfl
/-- the class's batch -/
theorem hfh_nI {kd o c : Nat} {v : Nat → Int32} (h1 : v 1 = nI kd) (hk : kd < 4) (ho : v 4 = nI o) (h240 : o ≤ 240) (hc : c < 2 ^ 30) : hfh v (nI c) = (upd v 4 (nI (o - min c (o / ozN kd) * ozN kd)), nI (min c (o / ozN kd))) := by
  have hpos := ozN_pos kd
  have hkx : kx v = kd := by
    unfold kx
    rw [h1, nI_clamp (by omega)]
  have hd : o / ozN kd ≤ 240 := Nat.le_trans (Nat.div_le_self _ _) h240
  have hle : min c (o / ozN kd) * ozN kd ≤ o := Nat.le_trans (Nat.mul_le_mul_right _ (Nat.min_le_right _ _)) (Nat.div_mul_le_self _ _)
  unfold hfh
  rw [hkx, ho, ozT_nI, nI_div (by omega) (by omega), imin_nI (by omega) (by omega), nI_mul, nI_sub hle]
theorem heat_dn : ∀ h, h < 10 → imax (nI h - 3) 0 = nI (h - 3) := by decide +kernel
theorem heat_up : ∀ h, h < 10 → imin (nI h + 2) 9 = nI (min (h + 2) 9) := by decide +kernel
theorem fuel_nI {n : Nat} (h : n < 2 ^ 31) : fuel (nI n) 0 = n + 1 := by
  unfold fuel
  rw [nI_toInt h, show (0 : Int32).toInt = 0 from rfl]
  omega
theorem kx_nI {v : Nat → Int32} {kd : Nat} (h : v 1 = nI kd) (hk : kd < 4) : kx v = kd := by
  unfold kx
  rw [h, nI_clamp (by omega)]
def nup (n : Nat → Nat) (k b : Nat) : Nat → Nat := fun j => if j = k then b else n j
theorem nup_at {n : Nat → Nat} {k b : Nat} : nup n k b k = b := if_pos rfl
theorem nup_ne {n : Nat → Nat} {k b j : Nat} (h : j ≠ k) : nup n k b j = n j := if_neg h
theorem nup_self {n : Nat → Nat} {k : Nat} : nup n k (n k) = n := by
  funext j
  by_cases h : j = k
  · subst h; exact nup_at
  · exact nup_ne h
/-- the first m numbers of a row, as naturals -/
def rep (v : Nat → Int32) (n : Nat → Nat) (m : Nat) : Prop := ∀ j, j < m → v j = nI (n j)
theorem rep_up {v : Nat → Int32} {n : Nat → Nat} {m k b : Nat} {a : Int32} (h : rep v n m) (e : a = nI b) : rep (upd v k a) (nup n k b) m := by
  intro j hj
  by_cases c : j = k
  · subst c
    rw [upd_at, nup_at, e]
  · rw [upd_ge c, nup_ne c]
    exact h j hj
theorem rep_cong {v : Nat → Int32} {n n' : Nat → Nat} {m : Nat} (h : rep v n m) (h2 : ∀ j, j < m → n j = n' j) : rep v n' m := fun j hj => by rw [h j hj, h2 j hj]
/-- a nailer's row, as naturals: L rods were lent, h hours have gone by -/
def Nn (n : Nat → Nat) (L h : Nat) : Prop := n 0 ≤ 9 ∧ n 1 < 4 ∧ n 2 < 4 ∧ n 4 ≤ 240 ∧ n 5 ≤ 9 ∧ n 6 ≤ 99 ∧ n 8 ≤ 90 ∧ (∀ k, k < 4 → n (12 + k) < 1000) ∧ n 9 + n 4 + 240 * n 3 + ozN (n 1) * (n 10 + n 11) = 240 * L ∧ n 7 + 36 * (n 16 + n 17 + n 18 + n 19) ≤ 5 + 36 * h
def Nv (v : Nat → Int32) (L h : Nat) : Prop := ∃ n, rep v n 20 ∧ Nn n L h
theorem Nn_up {n : Nat → Nat} {L h h' : Nat} (a : Nn n L h) (hh : h ≤ h') : Nn n L h' := by
  obtain ⟨h0, h1, h2, h4, h5, h6, h8, hl, he, hb⟩ := a
  exact ⟨h0, h1, h2, h4, h5, h6, h8, hl, he, by omega⟩
theorem Nv_up {v : Nat → Int32} {L h h' : Nat} (a : Nv v L h) (hh : h ≤ h') : Nv v L h' := by
  obtain ⟨n, hr, hn⟩ := a
  exact ⟨n, hr, Nn_up hn hh⟩
theorem tend_rep {v : Nat → Int32} {n : Nat → Nat} (h : rep v n 20) (h5 : n 5 ≤ 9) (h6 : n 6 ≤ 99) : ∃ a b, a ≤ 9 ∧ b ≤ 99 ∧ rep (tend v) (nup (nup n 6 b) 5 a) 20 := by
  unfold tend
  have e6 : v 6 = nI (n 6) := h 6 (by omega)
  have e5 : v 5 = nI (n 5) := h 5 (by omega)
  by_cases c : v 6 ≤ 0
  · rw [if_pos c]
    refine ⟨n 5 - 3, n 6, by omega, h6, rep_up (by rw [nup_self]; exact h) ?_⟩
    rw [e5, heat_dn _ (by omega)]
  · rw [if_neg c]
    obtain ⟨m, hm⟩ : ∃ m, n 6 = m + 1 := by
      cases hz : n 6 with
      | zero => exact absurd (by rw [e6, hz, nI_0]; exact Int32.le_refl _) c
      | succ m => exact ⟨m, rfl⟩
    refine ⟨min (n 5 + 2) 9, m, Nat.min_le_right _ _, by omega, rep_up (rep_up h ?_) ?_⟩
    · rw [e6, hm, nI_pred]
    · rw [e5, heat_up _ (by omega)]
theorem hfh_rep {v : Nat → Int32} {n : Nat → Nat} {c : Nat} (h : rep v n 20) (h1 : n 1 < 4) (h4 : n 4 ≤ 240) (hc : c < 2 ^ 30) : ∃ o m, o ≤ 240 ∧ m ≤ c ∧ o + ozN (n 1) * m = n 4 ∧ rep (hfh v (nI c)).1 (nup n 4 o) 20 ∧ (hfh v (nI c)).2 = nI m := by
  rw [hfh_nI (h 1 (by omega)) h1 (h 4 (by omega)) h4 hc]
  have hle : min c (n 4 / ozN (n 1)) * ozN (n 1) ≤ n 4 := Nat.le_trans (Nat.mul_le_mul_right _ (Nat.min_le_right _ _)) (Nat.div_mul_le_self _ _)
  refine ⟨n 4 - min c (n 4 / ozN (n 1)) * ozN (n 1), min c (n 4 / ozN (n 1)), by omega, Nat.min_le_left _ _, ?_, rep_up h rfl, rfl⟩
  rw [Nat.mul_comm (ozN (n 1))]
  omega
theorem n349 {n : Nat → Nat} {r s o : Nat} {n2 : Nat → Nat} (h : ∀ j, j < 20 → j ≠ 3 → j ≠ 4 → j ≠ 9 → n2 j = n j) : ∀ j, j < 20 → nup (nup (nup n2 3 r) 9 s) 4 o j = nup (nup (nup n 3 r) 9 s) 4 o j := by
  intro j hj
  unfold nup
  by_cases a : j = 4
  · rw [if_pos a, if_pos a]
  · rw [if_neg a, if_neg a]
    by_cases b : j = 9
    · rw [if_pos b, if_pos b]
    · rw [if_neg b, if_neg b]
      by_cases c : j = 3
      · rw [if_pos c, if_pos c]
      · rw [if_neg c, if_neg c]
        exact h j hj c a b
theorem n349_self {n : Nat → Nat} : nup (nup (nup n 3 (n 3)) 9 (n 9)) 4 (n 4) = n := by
  rw [nup_self, nup_self, nup_self]
theorem hlp_rep {can : Nat} (hcan : can < 2 ^ 29) : ∀ (f m : Nat) (v : Nat → Int32) (n : Nat → Nat), rep v n 20 → n 1 < 4 → n 4 ≤ 240 → n 3 < 2 ^ 30 → m ≤ can →
    ∃ r o s d, o ≤ 240 ∧ m + d ≤ can ∧ s + o + 240 * r + ozN (n 1) * d = n 9 + n 4 + 240 * n 3 ∧ rep (hlp f (nI can) v (nI m)).1 (nup (nup (nup n 3 r) 9 s) 4 o) 20 ∧ (hlp f (nI can) v (nI m)).2 = nI (m + d) := by
  intro f
  induction f with
  | zero =>
    intro m v n h h1 h4 h3 hm
    exact ⟨n 3, n 4, n 9, 0, h4, hm, by omega, by rw [n349_self]; exact h, rfl⟩
  | succ f ih =>
    intro m v n h h1 h4 h3 hm
    have stop : ∃ r o s d, o ≤ 240 ∧ m + d ≤ can ∧ s + o + 240 * r + ozN (n 1) * d = n 9 + n 4 + 240 * n 3 ∧ rep (v, nI m).1 (nup (nup (nup n 3 r) 9 s) 4 o) 20 ∧ (v, nI m).2 = nI (m + d) :=
      ⟨n 3, n 4, n 9, 0, h4, hm, by omega, by rw [n349_self]; exact h, rfl⟩
    unfold hlp
    by_cases hc : can ≤ m
    · rw [if_pos ((nI_leI (by omega) (by omega)).mpr hc)]
      exact stop
    · rw [if_neg (fun z => hc ((nI_leI (by omega) (by omega)).mp z))]
      have e3 : v 3 = nI (n 3) := h 3 (by omega)
      cases hr : n 3 with
      | zero =>
        rw [if_pos (by rw [e3, hr, nI_0]; exact Int32.le_refl _), ← hr]
        exact stop
      | succ r =>
        rw [if_neg (by rw [e3]; exact nI_nle (by omega) (by omega)), nI_sub hm]
        have q0 : rep (rod v) (nup (nup (nup n 3 r) 9 (n 9 + n 4)) 4 240) 20 := by
          refine rep_up (rep_up (rep_up h ?_) ?_) rfl
          · rw [e3, hr, nI_pred]
          · rw [h 9 (by omega), h 4 (by omega), nI_add]
        obtain ⟨o2, m2, ho2, hm2, he, q1, q2⟩ := hfh_rep (c := can - m) q0 h1 (Nat.le_refl 240) (by omega)
        rw [q2, nI_add]
        obtain ⟨r5, o5, s5, d5, a1, a2, a3, a4, a5⟩ := ih (m + m2) (hfh (rod v) (nI (can - m))).1 _ q1 h1 ho2 (show r < 2 ^ 30 by omega) (by omega)
        have he2 : o2 + ozN (n 1) * m2 = 240 := he
        have a3' : s5 + o5 + 240 * r5 + ozN (n 1) * d5 = (n 9 + n 4) + o2 + 240 * r := a3
        refine ⟨r5, o5, s5, m2 + d5, a1, by omega, ?_, rep_cong a4 (n349 fun j _ b1 b2 b3 => ?_), by rw [a5, Nat.add_assoc]⟩
        · rw [Nat.mul_add]
          omega
        · rw [nup_ne b2, nup_ne b2, nup_ne b3, nup_ne b1]
theorem head_rep {v : Nat → Int32} {n : Nat → Nat} {can : Nat} (hcan : can < 2 ^ 29) (h : rep v n 20) (h1 : n 1 < 4) (h4 : n 4 ≤ 240) (h3 : n 3 < 2 ^ 30) :
    ∃ r o s m, o ≤ 240 ∧ m ≤ can ∧ s + o + 240 * r + ozN (n 1) * m = n 9 + n 4 + 240 * n 3 ∧ rep (head v (nI can)).1 (nup (nup (nup n 3 r) 9 s) 4 o) 20 ∧ (head v (nI can)).2 = nI m := by
  obtain ⟨o2, m2, ho2, hm2, he, q1, q2⟩ := hfh_rep (c := can) h h1 h4 (by omega)
  unfold head
  rw [q2]
  obtain ⟨r5, o5, s5, d5, a1, a2, a3, a4, a5⟩ := hlp_rep hcan (((hfh v (nI can)).1 3).toNatClampNeg + 1) m2 (hfh v (nI can)).1 _ q1 h1 ho2 h3 hm2
  have a3' : s5 + o5 + 240 * r5 + ozN (n 1) * d5 = n 9 + o2 + 240 * n 3 := a3
  refine ⟨r5, o5, s5, m2 + d5, a1, a2, ?_, rep_cong a4 (n349 fun j _ b1 b2 b3 => nup_ne b2), a5⟩
  rw [Nat.mul_add]
  omega
theorem store_rep {v : Nat → Int32} {n : Nat → Nat} {g : Nat} (h : rep v n 20) (h1 : n 1 < 4) (hl : ∀ k, k < 4 → n (12 + k) < 1000) (hg : g ≤ 1000) :
    ∃ n', rep (store v (nI g)) n' 20 ∧ (∀ j, j < 11 → n' j = n j) ∧ n' 11 = n 11 + g ∧ (∀ k, k < 4 → n' (12 + k) < 1000) ∧ n' 16 + n' 17 + n' 18 + n' 19 ≤ n 16 + n 17 + n 18 + n 19 + 1 := by
  obtain ⟨kd, ek⟩ : ∃ kd, kd = n 1 := ⟨_, rfl⟩
  have hk : kd < 4 := by rw [ek]; exact h1
  have hlk := hl kd hk
  obtain ⟨m1, e1⟩ : ∃ m1, m1 = nup n 11 (n 11 + g) := ⟨_, rfl⟩
  have r1 : rep (sto1 v (nI g)) m1 20 := by
    rw [e1]
    exact rep_up h (by rw [h 11 (by omega), nI_add])
  have k1 : kx (sto1 v (nI g)) = kd := by
    refine kx_nI (by rw [r1 1 (by omega), e1, nup_ne (by omega), ek]) hk
  obtain ⟨m2, e2⟩ : ∃ m2, m2 = nup m1 (12 + kd) (m1 (12 + kd) + g) := ⟨_, rfl⟩
  have r2 : rep (sto2 v (nI g)) m2 20 := by
    unfold sto2
    rw [k1, e2]
    exact rep_up r1 (by rw [r1 _ (by omega), nI_add])
  have k2 : kx (sto2 v (nI g)) = kd := by
    refine kx_nI (by rw [r2 1 (by omega), e2, nup_ne (by omega), e1, nup_ne (by omega), ek]) hk
  have v2 : m2 (12 + kd) = n (12 + kd) + g := by rw [e2, nup_at, e1, nup_ne (by omega)]
  obtain ⟨m3, e3⟩ : ∃ m3, m3 = nup m2 (16 + kd) (m2 (16 + kd) + m2 (12 + kd) / 1000) := ⟨_, rfl⟩
  have r3 : rep (sto3 v (nI g)) m3 20 := by
    unfold sto3
    rw [k2, e3]
    refine rep_up r2 ?_
    rw [r2 _ (by omega), r2 _ (by omega), show (1000 : Int32) = nI 1000 from rfl, nI_div (by rw [v2]; omega) (by omega), nI_add]
  have k3 : kx (sto3 v (nI g)) = kd := by
    refine kx_nI (by rw [r3 1 (by omega), e3, nup_ne (by omega), e2, nup_ne (by omega), e1, nup_ne (by omega), ek]) hk
  have v3 : m3 (12 + kd) = n (12 + kd) + g := by rw [e3, nup_ne (by omega), v2]
  obtain ⟨m4, e4⟩ : ∃ m4, m4 = nup m3 (12 + kd) ((n (12 + kd) + g) % 1000) := ⟨_, rfl⟩
  have r4 : rep (store v (nI g)) m4 20 := by
    unfold store
    rw [k3, e4]
    refine rep_up r3 ?_
    rw [r3 _ (by omega), v3, show (1000 : Int32) = nI 1000 from rfl, nI_div (by omega) (by omega), nI_mul, nI_sub (Nat.div_mul_le_self _ _)]
    congr 1
    have := Nat.div_add_mod (n (12 + kd) + g) 1000
    omega
  refine ⟨m4, r4, fun j hj => ?_, ?_, fun k hk9 => ?_, ?_⟩
  · rw [e4, nup_ne (by omega), e3, nup_ne (by omega), e2, nup_ne (by omega), e1, nup_ne (by omega)]
  · rw [e4, nup_ne (by omega), e3, nup_ne (by omega), e2, nup_ne (by omega), e1, nup_at]
  · by_cases c : k = kd
    · subst c
      rw [e4, nup_at]
      exact Nat.mod_lt _ (by omega)
    · rw [e4, nup_ne (by omega), e3, nup_ne (by omega), e2, nup_ne (by omega), e1, nup_ne (by omega)]
      exact hl k hk9
  · have hb : ∀ j, 16 ≤ j → j < 20 → m4 j = if j = 16 + kd then n j + (n (12 + kd) + g) / 1000 else n j := by
      intro j ha hb
      rw [e4, nup_ne (by omega), e3]
      by_cases c : j = 16 + kd
      · subst c
        rw [nup_at, if_pos rfl, v2, e2, nup_ne (by omega), e1, nup_ne (by omega)]
      · rw [nup_ne c, if_neg c, e2, nup_ne (by omega), e1, nup_ne (by omega)]
    have hd : (n (12 + kd) + g) / 1000 ≤ 1 := by omega
    rw [hb 16 (by omega) (by omega), hb 17 (by omega) (by omega), hb 18 (by omega) (by omega), hb 19 (by omega) (by omega)]
    rcases (show kd = 0 ∨ kd = 1 ∨ kd = 2 ∨ kd = 3 by omega) with c | c | c | c <;> rw [c] at hd ⊢
    · rw [if_pos rfl, if_neg (by omega), if_neg (by omega), if_neg (by omega)]
      omega
    · rw [if_neg (by omega), if_pos rfl, if_neg (by omega), if_neg (by omega)]
      omega
    · rw [if_neg (by omega), if_neg (by omega), if_pos rfl, if_neg (by omega)]
      omega
    · rw [if_neg (by omega), if_neg (by omega), if_neg (by omega), if_pos rfl]
      omega
theorem spo_rep {v : Nat → Int32} {ht m : Nat} (h5 : v 5 = nI ht) (hh : ht ≤ 9) (hm : m ≤ 162) : ∃ b, b ≤ m ∧ spo v (nI m) = nI b := by
  unfold spo
  by_cases h8 : v 5 < 8
  · rw [if_pos h8]
    exact ⟨0, Nat.zero_le _, nI_0.symm⟩
  · rw [if_neg h8]
    refine ⟨m / 10, Nat.div_le_self _ _, ?_⟩
    rw [show (10 : Int32) = nI 10 from rfl, nI_div (by omega) (by omega)]
/-- an hour of one nailer -/
theorem work_rep {v : Nat → Int32} {L h : Nat} (hv : Nv v L h) (hL : L ≤ 1000) : Nv (workH v).1 L (h + 1) ∧ ∃ g, g ≤ 162 ∧ (workH v).2 = nI g := by
  obtain ⟨n, hr, h0, h1, h2, h4, h5, h6, h8, hl, he, hb⟩ := hv
  obtain ⟨a, b, ha, hb9, q⟩ := tend_rep hr h5 h6
  obtain ⟨t, et⟩ : ∃ t, t = tend v := ⟨_, rfl⟩
  obtain ⟨u, eu⟩ : ∃ u, u = nup (nup n 6 b) 5 a := ⟨_, rfl⟩
  rw [← et, ← eu] at q
  have uk : ∀ j, j ≠ 5 → j ≠ 6 → u j = n j := fun j a1 a2 => by rw [eu, nup_ne a1, nup_ne a2]
  have u5 : u 5 = a := by rw [eu]; exact nup_at
  have u6 : u 6 = b := by rw [eu, nup_ne (by omega)]; exact nup_at
  unfold workH
  rw [← et]
  have hoz := ozN_pos (n 1)
  have h3 : n 3 ≤ 1000 := by omega
  by_cases c : (4 : Int32) ≤ t 5
  · rw [if_pos c]
    obtain ⟨cn, ecn⟩ : ∃ cn, cn = n 0 * a * 2 / (n 1 + 1) := ⟨_, rfl⟩
    have a1 : n 0 * a ≤ 9 * 9 := Nat.mul_le_mul h0 ha
    have hcn : cn ≤ 162 := by
      have a2 : n 0 * a * 2 / (n 1 + 1) ≤ n 0 * a * 2 := Nat.div_le_self _ _
      omega
    have g4 : canN t = nI cn := by
      unfold canN
      rw [q 1 (by omega), q 0 (by omega), q 5 (by omega), u5, uk 0 (by omega) (by omega), uk 1 (by omega) (by omega), nI_mul, show (2 : Int32) = nI 2 from rfl, nI_mul, nI_1, nI_div (by omega) (by omega), ← ecn]
    obtain ⟨r, o, s, m, b1, b2, b3, b4, b5⟩ := head_rep (can := cn) (by omega) q (by rw [uk 1 (by omega) (by omega)]; exact h1) (by rw [uk 4 (by omega) (by omega)]; exact h4) (by rw [uk 3 (by omega) (by omega)]; omega)
    unfold workB
    rw [g4]
    obtain ⟨y, ey⟩ : ∃ y, y = head t (nI cn) := ⟨_, rfl⟩
    rw [← ey] at b4 b5 ⊢
    obtain ⟨z, ez⟩ : ∃ z, z = nup (nup (nup u 3 r) 9 s) 4 o := ⟨_, rfl⟩
    rw [← ez] at b4
    have zk : ∀ j, j ≠ 3 → j ≠ 4 → j ≠ 9 → z j = u j := fun j c1 c2 c3 => by rw [ez, nup_ne c2, nup_ne c3, nup_ne c1]
    have z3 : z 3 = r := by rw [ez, nup_ne (by omega), nup_ne (by omega)]; exact nup_at
    have z4 : z 4 = o := by rw [ez]; exact nup_at
    have z9 : z 9 = s := by rw [ez, nup_ne (by omega)]; exact nup_at
    obtain ⟨bn, hbn, ebn⟩ := spo_rep (v := y.1) (ht := a) (m := m) (by rw [b4 5 (by omega), zk 5 (by omega) (by omega) (by omega), u5]) ha (by omega)
    rw [b5, ebn, nI_sub hbn]
    have r10 : rep (upd y.1 10 (y.1 10 + nI bn)) (nup z 10 (z 10 + bn)) 20 := rep_up b4 (by rw [b4 10 (by omega), nI_add])
    have zn : ∀ j, j ≠ 3 → j ≠ 4 → j ≠ 9 → j ≠ 5 → j ≠ 6 → z j = n j := fun j c1 c2 c3 c4 c5 => (zk j c1 c2 c3).trans (uk j c4 c5)
    obtain ⟨n', d1, d2, d3, d4, d5⟩ := store_rep (g := m - bn) r10 (by rw [nup_ne (by omega), zn 1 (by omega) (by omega) (by omega) (by omega) (by omega)]; exact h1)
      (fun k hk => by rw [nup_ne (by omega), zn _ (by omega) (by omega) (by omega) (by omega) (by omega)]; exact hl k hk) (by omega)
    have x : ∀ j, j < 10 → n' j = z j := fun j hj => by rw [d2 j (by omega), nup_ne (by omega)]
    have x10 : n' 10 = n 10 + bn := by rw [d2 10 (by omega), nup_at, zn 10 (by omega) (by omega) (by omega) (by omega) (by omega)]
    have x11 : n' 11 = n 11 + (m - bn) := by rw [d3, nup_ne (by omega), zn 11 (by omega) (by omega) (by omega) (by omega) (by omega)]
    have xs : n' 16 + n' 17 + n' 18 + n' 19 ≤ n 16 + n 17 + n 18 + n 19 + 1 := by
      rw [nup_ne (by omega), nup_ne (by omega), nup_ne (by omega), nup_ne (by omega), zn 16 (by omega) (by omega) (by omega) (by omega) (by omega), zn 17 (by omega) (by omega) (by omega) (by omega) (by omega), zn 18 (by omega) (by omega) (by omega) (by omega) (by omega), zn 19 (by omega) (by omega) (by omega) (by omega) (by omega)] at d5
      exact d5
    have x0 : n' 0 = n 0 := (x 0 (by omega)).trans (zn 0 (by omega) (by omega) (by omega) (by omega) (by omega))
    have x1 : n' 1 = n 1 := (x 1 (by omega)).trans (zn 1 (by omega) (by omega) (by omega) (by omega) (by omega))
    have x2 : n' 2 = n 2 := (x 2 (by omega)).trans (zn 2 (by omega) (by omega) (by omega) (by omega) (by omega))
    have x3 : n' 3 = r := (x 3 (by omega)).trans z3
    have x4 : n' 4 = o := (x 4 (by omega)).trans z4
    have x5 : n' 5 = a := (x 5 (by omega)).trans ((zk 5 (by omega) (by omega) (by omega)).trans u5)
    have x6 : n' 6 = b := (x 6 (by omega)).trans ((zk 6 (by omega) (by omega) (by omega)).trans u6)
    have x7 : n' 7 = n 7 := (x 7 (by omega)).trans (zn 7 (by omega) (by omega) (by omega) (by omega) (by omega))
    have x8 : n' 8 = n 8 := (x 8 (by omega)).trans (zn 8 (by omega) (by omega) (by omega) (by omega) (by omega))
    have x9 : n' 9 = s := (x 9 (by omega)).trans z9
    rw [uk 1 (by omega) (by omega), uk 9 (by omega) (by omega), uk 4 (by omega) (by omega), uk 3 (by omega) (by omega)] at b3
    refine ⟨⟨n', d1, by omega, by omega, by omega, by omega, by omega, by omega, by omega, d4, ?_, by omega⟩, m - bn, by omega, rfl⟩
    rw [x9, x4, x3, x1, x10, x11, show n 10 + bn + (n 11 + (m - bn)) = (n 10 + n 11) + m by omega, Nat.mul_add]
    omega
  · rw [if_neg c]
    refine ⟨⟨u, q, ?_, ?_, ?_, ?_, by omega, by omega, ?_, fun k hk => ?_, ?_, ?_⟩, 0, by omega, nI_0.symm⟩
    · rw [uk 0 (by omega) (by omega)]; exact h0
    · rw [uk 1 (by omega) (by omega)]; exact h1
    · rw [uk 2 (by omega) (by omega)]; exact h2
    · rw [uk 4 (by omega) (by omega)]; exact h4
    · rw [uk 8 (by omega) (by omega)]; exact h8
    · rw [uk _ (by omega) (by omega)]; exact hl k hk
    · rw [uk 9 (by omega) (by omega), uk 4 (by omega) (by omega), uk 3 (by omega) (by omega), uk 1 (by omega) (by omega), uk 10 (by omega) (by omega), uk 11 (by omega) (by omega)]; exact he
    · rw [uk 7 (by omega) (by omega), uk 16 (by omega) (by omega), uk 17 (by omega) (by omega), uk 18 (by omega) (by omega), uk 19 (by omega) (by omega)]; omega

