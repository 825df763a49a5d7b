/-! WHAT A FOGGER'S ROW KEEPS; THE WEEK; THE HOURS -/
def woN (t : Nat) : Nat := if t = 0 then 8 else if t = 1 then 14 else if t = 2 then 20 else 36
theorem woT_nI (t : Nat) : woT t = nI (woN t) := by
  unfold woT woN
  split
  · rfl
  · split
    · rfl
    · split <;> rfl
theorem woN_le (t : Nat) : woN t ≤ 36 := by
  unfold woN
  split
  · omega
  · split
    · omega
    · split <;> omega
/-- a nailer and a fogger while bags are bought; X bounds what the fogger may come to -/
def Pn (n m : Nat → Nat) (X : Nat) : Prop := m 1 + m 5 + 36 * (n 16 + n 17 + n 18 + n 19) ≤ X ∧ m 4 + m 5 + 36 * (n 16 + n 17 + n 18 + n 19) ≤ X ∧ m 2 + 36 * (n 16 + n 17 + n 18 + n 19) ≤ X ∧ m 3 ≤ m 4 + m 5 ∧ m 0 ≤ 60
theorem bag_sum {n n' : Nat → Nat} {t : Nat} (ht : t < 4) (h : n (16 + t) = n' (16 + t) + 1) (ho : ∀ k, k < 4 → k ≠ t → n' (16 + k) = n (16 + k)) : n 16 + n 17 + n 18 + n 19 = n' 16 + n' 17 + n' 18 + n' 19 + 1 := by
  rcases (show t = 0 ∨ t = 1 ∨ t = 2 ∨ t = 3 by omega) with rfl | rfl | rfl | rfl
  · have a := ho 1 (by omega) (by omega); have b := ho 2 (by omega) (by omega); have c := ho 3 (by omega) (by omega)
    simp only [Nat.reduceAdd] at h a b c
    omega
  · have a := ho 0 (by omega) (by omega); have b := ho 2 (by omega) (by omega); have c := ho 3 (by omega) (by omega)
    simp only [Nat.reduceAdd] at h a b c
    omega
  · have a := ho 0 (by omega) (by omega); have b := ho 1 (by omega) (by omega); have c := ho 3 (by omega) (by omega)
    simp only [Nat.reduceAdd] at h a b c
    omega
  · have a := ho 0 (by omega) (by omega); have b := ho 1 (by omega) (by omega); have c := ho 2 (by omega) (by omega)
    simp only [Nat.reduceAdd] at h a b c
    omega
theorem bagL_rep {p t L h X : Nat} (ht : t < 4) (hp : p ≤ woN t) (hX : X < 2 ^ 30) : ∀ (f : Nat) (v g : Nat → Int32) (n m : Nat → Nat), rep v n 20 → rep g m 6 → Nn n L h → Pn n m X →
    ∃ n' m', rep (bagL f (nI p) t v g).1 n' 20 ∧ rep (bagL f (nI p) t v g).2 m' 6 ∧ Nn n' L h ∧ Pn n' m' X := by
  intro f
  induction f with
  | zero =>
    intro v g n m hv hg hn hP
    exact ⟨n, m, hv, hg, hn, hP⟩
  | succ f ih =>
    intro v g n m hv hg hn hP
    unfold bagL
    by_cases c1 : v (16 + t) ≤ 0
    · rw [if_pos c1]
      exact ⟨n, m, hv, hg, hn, hP⟩
    rw [if_neg c1]
    by_cases c2 : g 1 < nI p
    · rw [if_pos c2]
      exact ⟨n, m, hv, hg, hn, hP⟩
    rw [if_neg c2]
    have hw := woN_le t
    obtain ⟨p1, p2, p3, p4, p5⟩ := hP
    obtain ⟨b, hb⟩ : ∃ b, n (16 + t) = b + 1 := by
      cases hz : n (16 + t) with
      | zero => exact absurd (by rw [hv _ (by omega), hz, nI_0]; exact Int32.le_refl _) c1
      | succ b => exact ⟨b, rfl⟩
    have hpm : p ≤ m 1 := by
      rw [hg 1 (by omega)] at c2
      exact Nat.not_lt.mp fun z => c2 ((nI_ltI (by omega) (by omega)).mpr z)
    obtain ⟨n2, e2⟩ : ∃ n2, n2 = nup (nup n (16 + t) b) 7 (n 7 + p) := ⟨_, rfl⟩
    have r2 : rep (bag1 (nI p) t v) n2 20 := by
      unfold bag1
      rw [e2]
      exact rep_up (rep_up hv (by rw [hv _ (by omega), hb, nI_pred])) (by rw [hv 7 (by omega), nI_add])
    obtain ⟨m2, f2⟩ : ∃ m2, m2 = nup (nup (nup (nup m 1 (m 1 - p)) 3 (m 3 + p)) 2 (m 2 + 1)) 5 (m 5 + woN t) := ⟨_, rfl⟩
    have q2 : rep (bag2 (nI p) t g) m2 6 := by
      unfold bag2
      rw [f2]
      exact rep_up (rep_up (rep_up (rep_up hg (by rw [hg 1 (by omega), nI_sub hpm])) (by rw [hg 3 (by omega), nI_add])) (by rw [hg 2 (by omega), nI_1])) (by rw [hg 5 (by omega), woT_nI, nI_add])
    have n2k : ∀ j, j ≠ 7 → j ≠ 16 + t → n2 j = n j := fun j a1 a2 => by rw [e2, nup_ne a1, nup_ne a2]
    have n27 : n2 7 = n 7 + p := by rw [e2]; exact nup_at
    have hs := bag_sum (n := n) (n' := n2) ht (by rw [hb, e2, nup_ne (by omega), nup_at]) (fun k hk hkt => n2k _ (by omega) (by omega))
    have m1 : m2 1 = m 1 - p := by rw [f2]; rfl
    have m3 : m2 3 = m 3 + p := by rw [f2]; rfl
    have m22 : m2 2 = m 2 + 1 := by rw [f2]; rfl
    have m5 : m2 5 = m 5 + woN t := by rw [f2]; rfl
    have m4 : m2 4 = m 4 := by rw [f2]; rfl
    have m0 : m2 0 = m 0 := by rw [f2]; rfl
    refine ih _ _ n2 m2 r2 q2 ?_ ⟨by omega, by omega, by omega, by omega, by omega⟩
    obtain ⟨h0, h1, h2, h4, h5, h6, h8, hl, he, hb9⟩ := hn
    refine ⟨?_, ?_, ?_, ?_, ?_, ?_, ?_, fun k hk => ?_, ?_, by omega⟩
    · rw [n2k 0 (by omega) (by omega)]; exact h0
    · rw [n2k 1 (by omega) (by omega)]; exact h1
    · rw [n2k 2 (by omega) (by omega)]; exact h2
    · rw [n2k 4 (by omega) (by omega)]; exact h4
    · rw [n2k 5 (by omega) (by omega)]; exact h5
    · rw [n2k 6 (by omega) (by omega)]; exact h6
    · rw [n2k 8 (by omega) (by omega)]; exact h8
    · rw [n2k _ (by omega) (by omega)]; exact hl k hk
    · rw [n2k 9 (by omega) (by omega), n2k 4 (by omega) (by omega), n2k 3 (by omega) (by omega), n2k 1 (by omega) (by omega), n2k 10 (by omega) (by omega), n2k 11 (by omega) (by omega)]; exact he
theorem prK_nI {g : Nat → Int32} {k t : Nat} (h : g 0 = nI k) (hk : k ≤ 60) : ∃ p, p ≤ woN t ∧ prK t g = nI p := by
  have hw := woN_le t
  refine ⟨woN t * (100 - k) / 100, ?_, ?_⟩
  · have a : woN t * (100 - k) ≤ woN t * 100 := Nat.mul_le_mul_left _ (by omega)
    omega
  · have a : woN t * (100 - k) ≤ 36 * 100 := Nat.mul_le_mul hw (by omega)
    unfold prK
    rw [h, woT_nI, show (100 : Int32) = nI 100 from rfl, nI_sub (by omega), nI_mul, nI_div (by omega) (by omega)]
theorem buyK_rep {t L h X : Nat} (ht : t < 4) (hX : X < 2 ^ 30) {v g : Nat → Int32} {n m : Nat → Nat} (hv : rep v n 20) (hg : rep g m 6) (hn : Nn n L h) (hP : Pn n m X) :
    ∃ n' m', rep (buyK t (v, g)).1 n' 20 ∧ rep (buyK t (v, g)).2 m' 6 ∧ Nn n' L h ∧ Pn n' m' X := by
  obtain ⟨p, hp, ep⟩ := prK_nI (t := t) (hg 0 (by omega)) hP.2.2.2.2
  unfold buyK
  show ∃ n' m', rep (bagL ((v (16 + t)).toNatClampNeg + 1) (prK t g) t v g).1 n' 20 ∧ rep (bagL ((v (16 + t)).toNatClampNeg + 1) (prK t g) t v g).2 m' 6 ∧ Nn n' L h ∧ Pn n' m' X
  rw [ep]
  exact bagL_rep ht hp hX _ v g n m hv hg hn hP
theorem buyB_rep {L h X : Nat} (hX : X < 2 ^ 30) {v g : Nat → Int32} {n m : Nat → Nat} (hv : rep v n 20) (hg : rep g m 6) (hn : Nn n L h) (hP : Pn n m X) :
    ∃ n' m', rep (buyB v g).1 n' 20 ∧ rep (buyB v g).2 m' 6 ∧ Nn n' L h ∧ Pn n' m' X := by
  obtain ⟨n1, m1, a1, a2, a3, a4⟩ := buyK_rep (t := 0) (by omega) hX hv hg hn hP
  obtain ⟨n2, m2, b1, b2, b3, b4⟩ := buyK_rep (t := 1) (by omega) hX a1 a2 a3 a4
  obtain ⟨n3, m3, c1, c2, c3, c4⟩ := buyK_rep (t := 2) (by omega) hX b1 b2 b3 b4
  exact buyK_rep (t := 3) (by omega) hX c1 c2 c3 c4
/-- a fogger's row within a week's reckoning -/
def Fgv (g : Nat → Int32) (B : Nat) : Prop := ∃ m, rep g m 6 ∧ m 1 + m 5 ≤ B ∧ m 4 + m 5 ≤ B ∧ m 2 ≤ B ∧ m 3 ≤ m 4 + m 5 ∧ m 0 ≤ 60
/-- between calls: nothing waits to be carried off -/
def Fgr (g : Nat → Int32) (B : Nat) : Prop := ∃ m, rep g m 6 ∧ m 1 ≤ B ∧ m 4 ≤ B ∧ m 2 ≤ B ∧ m 3 ≤ m 4 ∧ m 0 ≤ 60 ∧ m 5 = 0
theorem Fgr_Fgv {g : Nat → Int32} {B : Nat} (h : Fgr g B) : Fgv g B := by
  obtain ⟨m, h1, h2, h3, h4, h5, h6, h7⟩ := h
  exact ⟨m, h1, by omega, by omega, h4, by omega, h6⟩
theorem Fgv_up {g : Nat → Int32} {B B' : Nat} (h : Fgv g B) (hB : B ≤ B') : Fgv g B' := by
  obtain ⟨m, h1, h2, h3, h4, h5, h6⟩ := h
  exact ⟨m, h1, by omega, by omega, by omega, h5, h6⟩
theorem Fgr_up {g : Nat → Int32} {B B' : Nat} (h : Fgr g B) (hB : B ≤ B') : Fgr g B' := by
  obtain ⟨m, h1, h2, h3, h4, h5, h6, h7⟩ := h
  exact ⟨m, h1, by omega, by omega, by omega, h5, h6, h7⟩
theorem rk_rep {v g : Nat → Int32} {L h B : Nat} (hv : Nv v L h) (hg : Fgv g B) (hB : B < 2 ^ 29) (hh : h ≤ 1000) : Nv (colV (buyB v g).1) L h ∧ Fgv (colG (buyB v g).1 (buyB v g).2) (B + 36 * h + 95) := by
  obtain ⟨n, r, hn⟩ := hv
  obtain ⟨m, q, q1, q2, q3, q4, q5⟩ := hg
  have hb : n 7 + 36 * (n 16 + n 17 + n 18 + n 19) ≤ 5 + 36 * h := hn.2.2.2.2.2.2.2.2.2
  obtain ⟨n', m', a1, a2, a3, b1, b2, b3, b4, b5⟩ := buyB_rep (X := B + 5 + 36 * h) (by omega) r q hn ⟨by omega, by omega, by omega, q4, q5⟩
  obtain ⟨y, ey⟩ : ∃ y, y = buyB v g := ⟨_, rfl⟩
  rw [← ey] at a1 a2 ⊢
  obtain ⟨h0, h1, h2, h4, h5, h6, h8, hl, he, hb9⟩ := a3
  have hp : payD y.1 = nI (min (n' 8) (n' 7)) := by
    unfold payD
    rw [a1 8 (by omega), a1 7 (by omega), imin_nI (by omega) (by omega)]
  have hm1 := Nat.min_le_left (n' 8) (n' 7)
  have hm2 := Nat.min_le_right (n' 8) (n' 7)
  obtain ⟨p, ep⟩ : ∃ p, p = min (n' 8) (n' 7) := ⟨_, rfl⟩
  rw [← ep] at hp hm1 hm2
  constructor
  · refine ⟨nup (nup n' 8 (n' 8 - p)) 7 (n' 7 - p), ?_, h0, h1, h2, h4, h5, h6, ?_, fun k hk => ?_, he, ?_⟩
    · unfold colV
      rw [hp]
      exact rep_up (rep_up a1 (by rw [a1 8 (by omega), nI_sub hm1])) (by rw [a1 7 (by omega), nI_sub hm2])
    · show n' 8 - p ≤ 90
      omega
    · rw [nup_ne (by omega), nup_ne (by omega)]
      exact hl k hk
    · show n' 7 - p + 36 * (n' 16 + n' 17 + n' 18 + n' 19) ≤ 5 + 36 * h
      omega
  · refine ⟨nup m' 1 (m' 1 + p), ?_, ?_, ?_, ?_, b4, b5⟩
    · unfold colG
      rw [hp]
      exact rep_up a2 (by rw [a2 1 (by omega), nI_add])
    · show m' 1 + p + m' 5 ≤ _
      omega
    · show m' 4 + m' 5 ≤ _
      omega
    · show m' 2 ≤ _
      omega
theorem dlv_rep {g : Nat → Int32} {B : Nat} (h : Fgv g B) : Fgr (dlv g) B := by
  obtain ⟨m, q, q1, q2, q3, q4, q5⟩ := h
  refine ⟨nup (nup (nup m 1 (m 1 + m 5)) 4 (m 4 + m 5)) 5 0, ?_, q1, q2, q3, q4, q5, rfl⟩
  unfold dlv
  exact rep_up (rep_up (rep_up q (by rw [q 1 (by omega), q 5 (by omega), nI_add])) (by rw [q 4 (by omega), q 5 (by omega), nI_add])) nI_0.symm
/-- all three nailers; all four foggers -/
def IN (N : Nat → Nat → Int32) (Lf : Nat → Nat) (h : Nat) : Prop := ∀ k, k < 3 → Nv (N k) (Lf k) h
def IF (F : Nat → Nat → Int32) (B : Nat) : Prop := ∀ i, i < 4 → Fgr (F i) B
theorem goN_rep {Lf : Nat → Nat} (hL : ∀ k, k < 3 → Lf k ≤ 1000) {h : Nat} : ∀ (n i s : Nat) (N : Nat → Nat → Int32), 3 ≤ i + n → (∀ k, k < 3 → Nv (N k) (Lf k) (if k < i then h + 1 else h)) → IN (goN n 3 0 i N (nI s)).1 Lf (h + 1) ∧ ∃ s2, s2 ≤ s + 162 * n ∧ (goN n 3 0 i N (nI s)).2 = nI s2
  | 0, i, s, N, hn, hI => ⟨fun k hk => by
      have a := hI k hk
      rw [if_pos (by omega)] at a
      exact a, s, by omega, rfl⟩
  | n + 1, i, s, N, hn, hI => by
    unfold goN
    by_cases c : 3 ≤ i
    · rw [if_pos c]
      exact ⟨fun k hk => by
        have a := hI k hk
        rw [if_pos (by omega)] at a
        exact a, s, by omega, rfl⟩
    · rw [if_neg c]
      have a := hI i (by omega)
      rw [if_neg (by omega)] at a
      obtain ⟨b1, g, hg, b2⟩ := work_rep a (hL i (by omega))
      rw [Nat.zero_add, b2, nI_add]
      obtain ⟨d1, s2, hs2, d2⟩ := goN_rep hL n (i + 1) (s + g) (va_up N i (workH (N i)).1) (by omega) (fun k hk => by
        by_cases e : k = i
        · subst e
          rw [va_up_self, if_pos (by omega)]
          exact b1
        · rw [va_up_ne _ _ e]
          have a := hI k hk
          by_cases e2 : k < i
          · rw [if_pos (by omega)]
            rwa [if_pos e2] at a
          · rw [if_neg (by omega)]
            rwa [if_neg e2] at a)
      exact ⟨d1, s2, by omega, d2⟩
theorem rkN_rep {Lf : Nat → Nat} {h : Nat} (hh : h ≤ 1000) : ∀ (n i B : Nat) (N F : Nat → Nat → Int32), B + n * 36095 < 2 ^ 29 → IN N Lf h → (∀ i, i < 4 → Fgv (F i) B) → IN (rkN n 3 0 0 i N F).1 Lf h ∧ ∀ k, k < 4 → Fgv ((rkN n 3 0 0 i N F).2 k) (B + n * (36 * h + 95))
  | 0, i, B, N, F, hB, hN, hF => ⟨hN, fun k hk => Fgv_up (hF k hk) (by omega)⟩
  | n + 1, i, B, N, F, hB, hN, hF => by
    unfold rkN
    by_cases c : 3 ≤ i
    · rw [if_pos c]
      exact ⟨hN, fun k hk => Fgv_up (hF k hk) (by omega)⟩
    · rw [if_neg c]
      obtain ⟨q, rq, hq⟩ := hN i (by omega)
      have hf : (N (0 + i) 2).toNatClampNeg = q 2 := by
        rw [Nat.zero_add, rq 2 (by omega), nI_clamp (by have := hq.2.2.1; omega)]
      have hq2 : q 2 < 4 := hq.2.2.1
      rw [hf, Nat.zero_add, Nat.zero_add]
      obtain ⟨b1, b2⟩ := rk_rep (hN i (by omega)) (hF (q 2) hq2) (by omega) hh
      have e9 : (n + 1) * 36095 = n * 36095 + 36095 := Nat.succ_mul _ _
      have e8 : (n + 1) * (36 * h + 95) = n * (36 * h + 95) + (36 * h + 95) := Nat.succ_mul _ _
      have := rkN_rep hh n (i + 1) (B + 36 * h + 95) (rk1 N F i (q 2)).1 (rk1 N F i (q 2)).2 (by omega) (fun k hk => by
        unfold rk1
        by_cases e : k = i
        · subst e
          show Nv (va_up N k _ k) _ _
          rw [va_up_self]
          exact b1
        · show Nv (va_up N i _ k) _ _
          rw [va_up_ne _ _ e]
          exact hN k hk) (fun k hk => by
        unfold rk1
        by_cases e : k = q 2
        · subst e
          show Fgv (va_up F (q 2) _ (q 2)) _
          rw [va_up_self]
          exact b2
        · show Fgv (va_up F (q 2) _ k) _
          rw [va_up_ne _ _ e]
          exact Fgv_up (hF k hk) (by omega))
      refine ⟨this.1, fun k hk => Fgv_up (this.2 k hk) ?_⟩
      rw [e8]
      omega
theorem dl4_rep {F : Nat → Nat → Int32} {B : Nat} (h : ∀ k, k < 4 → Fgv (F k) B) : IF (dl4 F 0) B := by
  intro k hk
  unfold dl4 dl1
  rcases (show k = 0 ∨ k = 1 ∨ k = 2 ∨ k = 3 by omega) with rfl | rfl | rfl | rfl
  · rw [va_up_ne _ _ (by omega), va_up_ne _ _ (by omega), va_up_ne _ _ (by omega), va_up_self]
    exact dlv_rep (h 0 hk)
  · rw [va_up_ne _ _ (by omega), va_up_ne _ _ (by omega), va_up_self, va_up_ne _ _ (by omega)]
    exact dlv_rep (h 1 hk)
  · rw [va_up_ne _ _ (by omega), va_up_self, va_up_ne _ _ (by omega), va_up_ne _ _ (by omega)]
    exact dlv_rep (h 2 hk)
  · rw [va_up_self, va_up_ne _ _ (by omega), va_up_ne _ _ (by omega), va_up_ne _ _ (by omega)]
    exact dlv_rep (h 3 hk)
/-- a bound of the foggers' numbers behind h hours -/
def Bh (h : Nat) : Nat := 60 + 50000 * h
theorem hour_rep {Lf : Nat → Nat} (hL : ∀ k, k < 3 → Lf k ≤ 1000) {h : Nat} (hh : h ≤ 300) {N F : Nat → Nat → Int32} {now : Int32} (hN : IN N Lf h) (hF : IF F (Bh h)) : IN (hourN 3 0 0 now N F).1 Lf (h + 1) ∧ IF (hourN 3 0 0 now N F).2 (Bh (h + 1)) ∧ ∃ s, s ≤ 648 ∧ hourG 3 0 N = nI s := by
  obtain ⟨a1, s, hs, a2⟩ := goN_rep hL 4 0 0 N (by omega) (fun k hk => by rw [if_neg (by omega)]; exact hN k hk)
  rw [nI_0] at a1 a2
  refine ⟨?_, ?_, s, by omega, a2⟩
  · unfold hourN
    by_cases c : now - now / 48 * 48 = 47
    · rw [if_pos c]
      exact (rkN_rep (by omega) 4 0 (Bh h) _ F (by unfold Bh; omega) a1 (fun k hk => Fgr_Fgv (hF k hk))).1
    · rw [if_neg c]
      exact a1
  · unfold hourN
    by_cases c : now - now / 48 * 48 = 47
    · rw [if_pos c]
      have := dl4_rep (rkN_rep (show h + 1 ≤ 1000 by omega) 4 0 (Bh h) _ F (by unfold Bh; omega) a1 (fun k hk => Fgr_Fgv (hF k hk))).2
      exact fun k hk => Fgr_up (this k hk) (by unfold Bh; omega)
    · rw [if_neg c]
      exact fun k hk => Fgr_up (hF k hk) (by unfold Bh; omega)
theorem goB_rep {Lf : Nat → Nat} (hL : ∀ k, k < 3 → Lf k ≤ 1000) : ∀ (d n h s q : Nat) (N F T : Nat → Nat → Int32), h + d ≤ 200 → q + d < 100 → IN N Lf h → IF F (Bh h) → d < n → IN (goB n (nI (q + d)) (nI q) 3 0 N F T (nI s)).1 Lf (h + d) ∧ IF (goB n (nI (q + d)) (nI q) 3 0 N F T (nI s)).2.1 (Bh (h + d)) ∧ ∃ s2, s2 ≤ s + 648 * d ∧ (goB n (nI (q + d)) (nI q) 3 0 N F T (nI s)).2.2.2 = nI s2
  | 0, n + 1, h, s, q, N, F, T, hh, hd, hN, hF, hn => by
    unfold goB
    rw [if_pos (show nI (q + 0) ≤ nI q from Int32.le_refl _)]
    exact ⟨hN, hF, s, by omega, rfl⟩
  | d + 1, n + 1, h, s, q, N, F, T, hh, hd, hN, hF, hn => by
    unfold goB
    rw [if_neg (fun z => by
      have := (nI_leI (by omega) (by omega)).mp z
      omega)]
    obtain ⟨a1, a2, g, hg, a3⟩ := hour_rep hL (h := h) (by omega) (now := T 0 0) hN hF
    have a3' : hourG 3 (12 * 0) N = nI g := a3
    rw [a3', nI_add, nI_1, show q + (d + 1) = (q + 1) + d by omega, show h + (d + 1) = (h + 1) + d by omega]
    obtain ⟨b1, b2, s2, hs2, b3⟩ := goB_rep hL d n (h + 1) (s + g) (q + 1) (hourN 3 0 0 (T 0 0) N F).1 (hourN 3 0 0 (T 0 0) N F).2 (hourT T 0) (by omega) (by omega) a1 a2 (by omega)
    exact ⟨b1, b2, s2, by omega, b3⟩
/-- five hours -/
theorem pass_rep {Lf : Nat → Nat} (hL : ∀ k, k < 3 → Lf k ≤ 1000) {h : Nat} (hh : h ≤ 150) {N F T : Nat → Nat → Int32} (hN : IN N Lf h) (hF : IF F (Bh h)) : IN (goB (fuel 5 0) 5 0 3 0 N F T 0).1 Lf (h + 5) ∧ IF (goB (fuel 5 0) 5 0 3 0 N F T 0).2.1 (Bh (h + 5)) ∧ ∃ s2, s2 ≤ 3240 ∧ (goB (fuel 5 0) 5 0 3 0 N F T 0).2.2.2 = nI s2 := by
  obtain ⟨a1, a2, s2, hs, a3⟩ := goB_rep hL 5 (fuel 5 0) h 0 0 N F T (by omega) (by omega) hN hF (by decide)
  exact ⟨a1, a2, s2, by omega, a3⟩
