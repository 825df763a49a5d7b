/-! WHAT AN HOUR KEEPS -/
theorem hfh_k {j : Nat} (h : j ≠ 4) (v : Nat → Int32) (a : Int32) : (hfh v a).1 j = v j := upd_ge h
theorem rod_k {j : Nat} (h3 : j ≠ 3) (h4 : j ≠ 4) (h9 : j ≠ 9) (v : Nat → Int32) : rod v j = v j := by
  unfold rod
  rw [upd_ge h4, upd_ge h9, upd_ge h3]
theorem hlp_k {j : Nat} (h3 : j ≠ 3) (h4 : j ≠ 4) (h9 : j ≠ 9) : ∀ (n : Nat) (most : Int32) (v : Nat → Int32) (hd : Int32), (hlp n most v hd).1 j = v j
  | 0, _, _, _ => rfl
  | n + 1, most, v, hd => by
    unfold hlp
    split
    · rfl
    · split
      · rfl
      · rw [hlp_k h3 h4 h9 n, hfh_k h4, rod_k h3 h4 h9]
theorem head_k {j : Nat} (h3 : j ≠ 3) (h4 : j ≠ 4) (h9 : j ≠ 9) (v : Nat → Int32) (a : Int32) : (head v a).1 j = v j := by
  unfold head
  rw [hlp_k h3 h4 h9, hfh_k h4]
theorem hfh_ok {kd o c : Nat} {v : Nat → Int32} (h1 : v 1 = nI kd) (hk : kd < 4) (ho : v 4 = nI o) (h240 : o ≤ 240) (hc : c < 2 ^ 30) : ∃ o2 m, o2 ≤ 240 ∧ m ≤ c ∧ (hfh v (nI c)).1 4 = nI o2 ∧ (hfh v (nI c)).2 = nI m := by
  rw [hfh_nI h1 hk ho h240 hc]
  refine ⟨o - min c (o / ozN kd) * ozN kd, min c (o / ozN kd), by omega, Nat.min_le_left _ _, ?_, rfl⟩
  show upd v 4 (nI (o - min c (o / ozN kd) * ozN kd)) 4 = _
  exact upd_at
theorem hlp_ok {kd can : Nat} (hk : kd < 4) (hcan : can < 2 ^ 29) : ∀ (n m r o : Nat) (v : Nat → Int32), v 1 = nI kd → v 3 = nI r → r < 2 ^ 30 → v 4 = nI o → o ≤ 240 → m ≤ can →
    ∃ r2 o2 m2, r2 ≤ r ∧ o2 ≤ 240 ∧ m2 ≤ can ∧ (hlp n (nI can) v (nI m)).1 3 = nI r2 ∧ (hlp n (nI can) v (nI m)).1 4 = nI o2 ∧ (hlp n (nI can) v (nI m)).2 = nI m2 := by
  intro n
  induction n with
  | zero =>
    intro m r o v h1 h3 hr h4 ho hm
    exact ⟨r, o, m, Nat.le_refl _, ho, hm, h3, h4, rfl⟩
  | succ n ih =>
    intro m r o v h1 h3 hr h4 ho hm
    unfold hlp
    by_cases hc : can ≤ m
    · rw [if_pos ((nI_leI (by omega) (by omega)).mpr hc)]
      exact ⟨r, o, m, Nat.le_refl _, ho, hm, h3, h4, rfl⟩
    · rw [if_neg (fun z => hc ((nI_leI (by omega) (by omega)).mp z))]
      cases r with
      | zero =>
        rw [if_pos (by rw [h3, nI_0]; exact Int32.le_refl _)]
        exact ⟨0, o, m, Nat.le_refl _, ho, hm, h3, h4, rfl⟩
      | succ r =>
        rw [if_neg (by rw [h3]; exact nI_nle (by omega) (by omega)), nI_sub hm]
        have r1 : rod v 1 = nI kd := h1
        have r3 : rod v 3 = nI r := by
          show v 3 - 1 = nI r
          rw [h3, nI_pred]
        obtain ⟨o2, m2, ho2, hm2, e4, e2⟩ := hfh_ok (c := can - m) r1 hk (show rod v 4 = nI 240 from rfl) (Nat.le_refl _) (by omega)
        rw [e2, nI_add]
        obtain ⟨r5, o5, m5, a1, a2, a3, a4, a5, a6⟩ := ih (m + m2) r o2 (hfh (rod v) (nI (can - m))).1 (by rw [hfh_k (by omega)]; exact r1) (by rw [hfh_k (by omega)]; exact r3) (by omega) e4 ho2 (by omega)
        exact ⟨r5, o5, m5, by omega, a2, a3, a4, a5, a6⟩
theorem head_ok {kd can r o : Nat} {v : Nat → Int32} (hk : kd < 4) (hcan : can < 2 ^ 29) (h1 : v 1 = nI kd) (h3 : v 3 = nI r) (hr : r < 2 ^ 30) (h4 : v 4 = nI o) (ho : o ≤ 240) :
    ∃ r2 o2 m2, r2 ≤ r ∧ o2 ≤ 240 ∧ m2 ≤ can ∧ (head v (nI can)).1 3 = nI r2 ∧ (head v (nI can)).1 4 = nI o2 ∧ (head v (nI can)).2 = nI m2 := by
  obtain ⟨o2, m2, ho2, hm2, e4, e2⟩ := hfh_ok (c := can) h1 hk h4 ho (by omega)
  unfold head
  rw [e2]
  exact hlp_ok hk hcan _ m2 r o2 _ (by rw [hfh_k (by omega)]; exact h1) (by rw [hfh_k (by omega)]; exact h3) hr e4 ho2 hm2
theorem fin_k {j : Nat} (h : j < 10) {v : Nat → Int32} {made brn : Int32} {kd : Nat} : mFin v made brn kd j = v j := by
  unfold mFin mFin4
  rw [upd_ge (by omega)]
  unfold mFin3
  rw [upd_ge (by omega)]
  unfold mFin2
  rw [upd_ge (by omega)]
  unfold mFin1
  rw [upd_ge (by omega), upd_ge (by omega)]
theorem fin_l {v : Nat → Int32} {a g q kd : Nat} {made brn : Int32} (hk : kd < 4) (he : made - brn = nI g) (hg : g ≤ 1000) (hq : q < 1000) (hv : v (12 + kd) = nI q) : ∀ k, k < 4 → (∃ q, q < 1000 ∧ v (12 + k) = nI q) → ∃ q, q < 1000 ∧ mFin v made brn kd (12 + k) = nI q := by
  intro k hk2 hkv
  have e1 : mFin1 v made brn (12 + kd) = nI q := by
    unfold mFin1
    rw [upd_ge (by omega), upd_ge (by omega)]
    exact hv
  by_cases e : k = kd
  · subst e
    refine ⟨(q + g) % 1000, Nat.mod_lt _ (by omega), ?_⟩
    have e2 : mFin3 (mFin2 (mFin1 v made brn) (made - brn) k) k (12 + k) = nI (q + g) := by
      unfold mFin3
      rw [upd_ge (by omega)]
      unfold mFin2
      rw [upd_at, e1, he, nI_add]
    unfold mFin mFin4
    rw [upd_at, e2, show (1000 : Int32) = nI 1000 from rfl, nI_div (by omega) (by omega), nI_mul, nI_sub (Nat.div_mul_le_self _ _)]
    congr 1
    have := Nat.div_add_mod (q + g) 1000
    omega
  · obtain ⟨q2, hq2, e2⟩ := hkv
    refine ⟨q2, hq2, ?_⟩
    unfold mFin mFin4
    rw [upd_ge (by omega)]
    unfold mFin3
    rw [upd_ge (by omega)]
    unfold mFin2
    rw [upd_ge (by omega)]
    unfold mFin1
    rw [upd_ge (by omega), upd_ge (by omega)]
    exact e2
theorem brn_ok {h m : Nat} (hh : h ≤ 9) (hm : m ≤ 162) : ∃ b, b ≤ m ∧ mBrn (nI h) (nI m) = nI b := by
  unfold mBrn
  by_cases h8 : h < 8
  · rw [if_pos (show nI h < (8 : Int32) from nI_lt (b := 8) h8 (by omega))]
    exact ⟨0, Nat.zero_le _, nI_0.symm⟩
  · rw [if_neg (show ¬ nI h < (8 : Int32) from nI_nlt (b := 8) (a := h) (by omega) (by omega))]
    refine ⟨m / 10, Nat.div_le_self _ _, ?_⟩
    rw [show (10 : Int32) = nI 10 from rfl, nI_div (by omega) (by omega)]
/-- an hour keeps the row's bounds; how many it brings -/
theorem work_ok {v : Nat → Int32} {b : Nat} (hb : b < 2 ^ 29) (h : Rw v b) : Rw (workH v).1 b ∧ ∃ g, g ≤ 162 ∧ (workH v).2 = nI g := by
  obtain ⟨sk, kd, fo, r, o, ht, h0, hs, h1, hk, h2, hf, h3, hr, h4, ho, h5, hh, hl⟩ := h
  obtain ⟨h9, hh9, e5⟩ := tend_5 h5 hh
  obtain ⟨t, et⟩ : ∃ t, t = tend v := ⟨_, rfl⟩
  have tk : ∀ j, j ≠ 5 → j ≠ 6 → t j = v j := fun j a b => by rw [et, tend_k a b]
  have t0 : t 0 = nI sk := (tk 0 (by omega) (by omega)).trans h0
  have t1 : t 1 = nI kd := (tk 1 (by omega) (by omega)).trans h1
  have t2 : t 2 = nI fo := (tk 2 (by omega) (by omega)).trans h2
  have t3 : t 3 = nI r := (tk 3 (by omega) (by omega)).trans h3
  have t4 : t 4 = nI o := (tk 4 (by omega) (by omega)).trans h4
  have t5 : t 5 = nI h9 := by rw [et]; exact e5
  have tl : ∀ k, k < 4 → ∃ q, q < 1000 ∧ t (12 + k) = nI q := fun k hk9 => by
    obtain ⟨q, hq, e⟩ := hl k hk9
    exact ⟨q, hq, (tk _ (by omega) (by omega)).trans e⟩
  unfold workH
  rw [← et]
  by_cases hc : (4 : Int32) ≤ t 5
  · rw [if_pos hc]
    obtain ⟨cn, ecn⟩ : ∃ cn, cn = sk * h9 * 2 / (kd + 1) := ⟨_, rfl⟩
    have hcn : cn ≤ 162 := by
      have a1 : sk * h9 ≤ 9 * 9 := Nat.mul_le_mul hs hh9
      have a2 : sk * h9 * 2 / (kd + 1) ≤ sk * h9 * 2 := Nat.div_le_self _ _
      omega
    have g4 : canN t = nI cn := by
      have a1 : sk * h9 ≤ 9 * 9 := Nat.mul_le_mul hs hh9
      unfold canN
      rw [t1, t0, t5, nI_mul, show (2 : Int32) = nI 2 from rfl, nI_mul, nI_1, nI_div (by omega) (by omega), ← ecn]
    obtain ⟨r2, o2, m2, a1, a2, a3, a4, a5, a6⟩ := head_ok hk (show cn < 2 ^ 29 by omega) t1 t3 (by omega) t4 ho
    unfold workB
    rw [g4]
    obtain ⟨q, eq⟩ : ∃ q, q = head t (nI cn) := ⟨_, rfl⟩
    rw [← eq] at a4 a5 a6 ⊢
    have qk : ∀ j, j ≠ 3 → j ≠ 4 → j ≠ 9 → q.1 j = t j := fun j b1 b2 b3 => by rw [eq, head_k b1 b2 b3]
    have q1 : q.1 1 = nI kd := (qk 1 (by omega) (by omega) (by omega)).trans t1
    have es : spo q.1 q.2 = mBrn (nI h9) (nI m2) := by
      unfold spo mBrn
      rw [qk 5 (by omega) (by omega) (by omega), t5, a6]
    obtain ⟨bn, hbn, ebn⟩ := brn_ok hh9 (show m2 ≤ 162 by omega)
    rw [es, ebn, a6, store_eq (made := nI m2) (brn := nI bn) q1 hk]
    obtain ⟨ql, hql, eql⟩ := tl kd hk
    refine ⟨⟨sk, kd, fo, r2, o2, h9, ?_, hs, ?_, hk, ?_, hf, ?_, by omega, ?_, a2, ?_, hh9, ?_⟩, m2 - bn, by omega, nI_sub hbn⟩
    · exact (fin_k (by omega)).trans ((qk 0 (by omega) (by omega) (by omega)).trans t0)
    · exact (fin_k (by omega)).trans q1
    · exact (fin_k (by omega)).trans ((qk 2 (by omega) (by omega) (by omega)).trans t2)
    · exact (fin_k (by omega)).trans a4
    · exact (fin_k (by omega)).trans a5
    · exact (fin_k (by omega)).trans ((qk 5 (by omega) (by omega) (by omega)).trans t5)
    · intro k hk9
      refine fin_l (a := 0) hk (nI_sub hbn) (by omega) hql ((qk _ (by omega) (by omega) (by omega)).trans eql) k hk9 ?_
      obtain ⟨q3, hq3, e3⟩ := tl k hk9
      exact ⟨q3, hq3, (qk _ (by omega) (by omega) (by omega)).trans e3⟩
  · rw [if_neg hc]
    exact ⟨⟨sk, kd, fo, r, o, h9, t0, hs, t1, hk, t2, hf, t3, hr, t4, ho, t5, hh9, tl⟩, 0, by omega, nI_0.symm⟩
