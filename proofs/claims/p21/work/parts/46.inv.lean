/-! WHAT HOLDS BETWEEN THE ROUNDS OF THE LAW -/
/-- what is foreseen -/
def SN (N F T : Nat → Nat → Int32) : Int32 := shS 4 4 3 (12 * 0) 0 (goB (fuel 5 0) 5 0 3 0 N F T 0).1 0
theorem vp4 {a : Int32} (h : vp_in a 4) : a.toNatClampNeg < 4 := by
  obtain ⟨j, hj, rfl⟩ := vp_in_of h (by omega)
  rw [nI_clamp (by omega)]
  exact hj
theorem SN_cong {N F T N' F' T' : Nat → Nat → Int32} (hK : KF N (12 * 0) 3) (h : ∀ k, k < 3 → N' k = N k) (hf : ∀ k, k < 4 → F' k = F k) (hT : T' 0 = T 0) : SN N' F' T' = SN N F T := by
  unfold SN
  exact shS_sim (goB_sim (t := 0) (t' := 0) _ _ N N' F F' T T' 0 (fun k hk => h _ (by omega)) (fun k hk => hf _ (by omega)) (by rw [hT]) (fun k hk => vp4 (hK k hk).2)) _ _ _
theorem t_foresee {l : Launch} {P : L5} {D : va_G} {N F T : Nat → Nat → Int32} {K : Nat → Int32} {A : Nat → Nat → Int32} {w : Int64} (hT : T 0 1 = nI 3) (hK : KF N (12 * 0) 3) :
    ∃ N1 F1 T1 : Nat → Nat → Int32, (∀ x, x < 12 → N1 x = N x) ∧ (∀ x, x < 4 → F1 x = F x) ∧ T1 0 = T 0 ∧ CtI l yX3_foresee cX3_foresee 3 .int 6 0 0 P D (nW P) (nW P) False (cw P N F T K A w) (cw P N1 F1 T1 K A w) [.ref (rX P), .int 5, .int 4] (SN N F T) := by
  have hKF : KF (cpN (3 + 1) 3 (12 * 1) (12 * 0) 0 N) (12 * 1) 3 := fun k hk => by
    show vp_in (cpN 4 3 (12 * 1) (12 * 0) 0 N (12 * 1 + k) 1) 4 ∧ vp_in (cpN 4 3 (12 * 1) (12 * 0) 0 N (12 * 1 + k) 2) 4
    rw [cpN_at k hk]
    exact hK k hk
  have hct : (goB (fuel 5 0) 5 0 3 1 (cpN (3 + 1) 3 (12 * 1) (12 * 0) 0 N) (cp4 F (4 * 1) (4 * 0)) (va_up T 1 (T 0)) 0).2.2.1 1 1 = nI 3 := by
    rw [goB_T1, va_up_self]
    exact hT
  have h := c_X3_foresee_4 (l := l) (P := P) (D := D) (N := N) (F := F) (K := K) (A := A) (w := w) hT (by omega) hKF (p := 5) (by decide) (by decide) hct
  have e : totN (goB (fuel 5 0) 5 0 3 1 (cpN (3 + 1) 3 (12 * 1) (12 * 0) 0 N) (cp4 F (4 * 1) (4 * 0)) (va_up T 1 (T 0)) 0).1 (goB (fuel 5 0) 5 0 3 1 (cpN (3 + 1) 3 (12 * 1) (12 * 0) 0 N) (cp4 F (4 * 1) (4 * 0)) (va_up T 1 (T 0)) 0).2.1 (goB (fuel 5 0) 5 0 3 1 (cpN (3 + 1) 3 (12 * 1) (12 * 0) 0 N) (cp4 F (4 * 1) (4 * 0)) (va_up T 1 (T 0)) 0).2.2.1 1 3 4 = SN N F T := by
    unfold totN
    rw [if_neg (by omega), if_neg (by omega), if_neg (by omega)]
    unfold SN
    exact shS_sim (goB_sim (t := 0) (t' := 1) _ _ N _ F _ T _ 0 cpN_at cp4_at (by rw [va_up_self]) (fun k hk => vp4 (hK k hk).2)) _ _ _
  rw [e] at h
  refine ⟨_, _, _, fun x hx => ?_, fun x hx => ?_, ?_, h⟩
  · rw [goB_N (by omega)]
    exact cpN_of hx
  · rw [goB_F (by omega)]
    exact cp4_of hx
  · rw [goB_T (by omega), va_up_ne _ _ (by omega)]
def LI (N F T A : Nat → Nat → Int32) (i : Nat) : Prop := ∃ Lf : Nat → Nat, T 0 1 = nI 3 ∧ IN N Lf (5 * i) ∧ IF F (Bh (5 * i)) ∧ ∀ k, k < 3 → A 0 k = nI (Lf k) ∧ Lf k ≤ 20 + 10 * i
theorem LI_T {N F T A : Nat → Nat → Int32} {i : Nat} (h : LI N F T A i) : T 0 1 = nI 3 := by
  obtain ⟨Lf, a, -⟩ := h
  exact a
theorem LI_KF {N F T A : Nat → Nat → Int32} {i : Nat} (h : LI N F T A i) : KF N (12 * 0) 3 := by
  obtain ⟨Lf, -, a, -⟩ := h
  intro k hk
  obtain ⟨n, r, hn⟩ := a k hk
  rw [Nat.mul_zero, Nat.zero_add, r 1 (by omega), r 2 (by omega)]
  exact ⟨vp_in_nI hn.2.1 (by omega), vp_in_nI hn.2.2.1 (by omega)⟩
theorem LI_cong {N F T N' F' T' A : Nat → Nat → Int32} {i : Nat} (a : LI N F T A i) (h : ∀ k, k < 3 → N' k = N k) (hf : ∀ k, k < 4 → F' k = F k) (hT : T' 0 = T 0) : LI N' F' T' A i := by
  obtain ⟨Lf, a1, a2, a3, a4⟩ := a
  exact ⟨Lf, by rw [hT]; exact a1, fun k hk => by rw [h k hk]; exact a2 k hk, fun k hk => by rw [hf k hk]; exact a3 k hk, a4⟩
theorem LI_up {N F T A : Nat → Nat → Int32} {i : Nat} (a : LI N F T A i) : LI N F T A (i + 1) := by
  obtain ⟨Lf, a1, a2, a3, a4⟩ := a
  exact ⟨Lf, a1, fun k hk => Nv_up (a2 k hk) (by omega), fun k hk => Fgr_up (a3 k hk) (by unfold Bh; omega), fun k hk => ⟨(a4 k hk).1, by have := (a4 k hk).2; omega⟩⟩
/-- a nailer's row, as numbers -/
theorem LI_row {N F T A : Nat → Nat → Int32} {i k : Nat} (a : LI N F T A i) (hk : k < 3) (hi : i ≤ 14) : ∃ n L, rep (N k) n 20 ∧ Nn n L (5 * i) ∧ A 0 k = nI L ∧ L ≤ 160 := by
  obtain ⟨Lf, a1, a2, a3, a4⟩ := a
  obtain ⟨n, r, hn⟩ := a2 k hk
  exact ⟨n, Lf k, r, hn, (a4 k hk).1, by have := (a4 k hk).2; omega⟩
theorem LI_lend {N F T A : Nat → Nat → Int32} {i k : Nat} (a : LI N F T A i) (hk : k < 3) (hi : i < 14) (h8 : ¬ nI 60 < N k 8) : N k 8 + nI 10 * 3 ≤ 90 ∧ LI (va_up N k (upd (upd (N k) 3 (N k 3 + nI 10)) 8 (N k 8 + nI 10 * 3))) F T (va_up A 0 (upd (A 0) k (A 0 k + nI 10))) (i + 1) := by
  obtain ⟨Lf, a1, a2, a3, a4⟩ := a
  obtain ⟨n, r, hn⟩ := a2 k hk
  have hn8 : n 8 ≤ 60 := by
    have q := hn.2.2.2.2.2.2.1
    rw [r 8 (by omega)] at h8
    exact Nat.not_lt.mp fun z => h8 ((nI_ltI (by omega) (by omega)).mpr z)
  refine ⟨?_, nup Lf k (Lf k + 10), a1, fun j hj => ?_, fun j hj => Fgr_up (a3 j hj) (by unfold Bh; omega), fun j hj => ?_⟩
  · rw [r 8 (by omega), show (3 : Int32) = nI 3 from rfl, nI_mul, nI_add]
    exact nI_le (b := 90) (show n 8 + 10 * 3 ≤ 90 by omega) (by omega)
  · by_cases e : j = k
    · subst e
      rw [va_up_self, nup_at]
      exact ⟨_, rep_lend r, Nn_up (Nn_lend hn (by omega)) (by omega)⟩
    · rw [va_up_ne _ _ e, nup_ne e]
      exact Nv_up (a2 j hj) (by omega)
  · have := (a4 j hj).2
    rw [va_up_self]
    by_cases e : j = k
    · subst e
      rw [upd_at, nup_at, (a4 j hj).1, nI_add]
      exact ⟨rfl, by omega⟩
    · rw [upd_ge e, nup_ne e]
      exact ⟨(a4 j hj).1, by omega⟩
theorem LI_coal {N F T A : Nat → Nat → Int32} {i k y : Nat} (a : LI N F T A i) (hk : k < 3) (hi : i < 14) (hy : y < 4) (h7 : ¬ N k 7 ≤ 0) (h6 : ¬ nI 96 ≤ N k 6) : ¬ N k 7 < (nI (1 + y) + 4 - 1) / 4 ∧ N k 6 + nI (1 + y) ≤ 99 ∧ LI (va_up N k (upd (upd (N k) 7 (N k 7 - (nI (1 + y) + 4 - 1) / 4)) 6 (N k 6 + nI (1 + y)))) F T A (i + 1) := by
  obtain ⟨Lf, a1, a2, a3, a4⟩ := a
  obtain ⟨n, r, hn⟩ := a2 k hk
  have hn7 : 1 ≤ n 7 := by
    cases hz : n 7 with
    | zero => exact absurd (by rw [r 7 (by omega), hz, nI_0]; exact Int32.le_refl _) h7
    | succ q => omega
  have b7 : n 7 ≤ 3000 := by
    have := hn.2.2.2.2.2.2.2.2.2
    omega
  have hn6 : n 6 < 96 := by
    have q := hn.2.2.2.2.2.1
    rw [r 6 (by omega)] at h6
    exact Nat.not_le.mp fun z => h6 ((nI_leI (by omega) (by omega)).mpr z)
  have hp : (1 + y + 3) / 4 ≤ n 7 := by omega
  refine ⟨?_, ?_, Lf, a1, fun j hj => ?_, fun j hj => Fgr_up (a3 j hj) (by unfold Bh; omega), fun j hj => ⟨(a4 j hj).1, by have := (a4 j hj).2; omega⟩⟩
  · rw [price_nI (by omega), r 7 (by omega)]
    exact nI_nlt hp (by omega)
  · rw [r 6 (by omega), nI_add]
    exact nI_le (b := 99) (show n 6 + (1 + y) ≤ 99 by omega) (by omega)
  · by_cases e : j = k
    · subst e
      rw [va_up_self]
      exact ⟨_, rep_coal r (by omega) hp, Nn_up (Nn_coal hn (by omega)) (by omega)⟩
    · rw [va_up_ne _ _ e]
      exact Nv_up (a2 j hj) (by omega)
theorem LI_keep {N F T A : Nat → Nat → Int32} {i k j : Nat} (a : LI N F T A i) (hj : j < 61) : LI N (va_up F k (upd (F k) 0 (nI j))) T A (i + 1) := by
  obtain ⟨Lf, a1, a2, a3, a4⟩ := LI_up a
  refine ⟨Lf, a1, a2, fun q hq => ?_, a4⟩
  by_cases e : q = k
  · subst e
    rw [va_up_self]
    exact Fgr_keep (a3 q hq) hj
  · rw [va_up_ne _ _ e]
    exact a3 q hq
theorem LI_pass {N F T A : Nat → Nat → Int32} {i : Nat} (a : LI N F T A i) (hi : i < 14) : LI (goB (fuel 5 0) 5 0 3 0 N F T 0).1 (goB (fuel 5 0) 5 0 3 0 N F T 0).2.1 (goB (fuel 5 0) 5 0 3 0 N F T 0).2.2.1 A (i + 1) ∧ ¬ (goB (fuel 5 0) 5 0 3 0 N F T 0).2.2.2 < 0 := by
  obtain ⟨Lf, a1, a2, a3, a4⟩ := a
  obtain ⟨b1, b2, s, hs, b3⟩ := pass_rep (T := T) (fun k hk => by have := (a4 k hk).2; omega) (show 5 * i ≤ 150 by omega) a2 a3
  refine ⟨⟨Lf, by rw [goB_T1]; exact a1, fun k hk => ?_, fun k hk => ?_, fun k hk => ⟨(a4 k hk).1, by have := (a4 k hk).2; omega⟩⟩, ?_⟩
  · rw [show 5 * (i + 1) = 5 * i + 5 by omega]
    exact b1 k hk
  · rw [show 5 * (i + 1) = 5 * i + 5 by omega]
    exact b2 k hk
  · rw [b3]
    exact nI_pos (by omega)
/-- all iron that was lent -/
theorem iron_ok {v : Nat → Int32} {n : Nat → Nat} {L h : Nat} (r : rep v n 20) (hn : Nn n L h) : v 4 + v 9 + nI 240 * v 3 + ozT (v 1).toNatClampNeg * (v 10 + v 11) = nI 240 * nI L := by
  have he : n 9 + n 4 + 240 * n 3 + ozN (n 1) * (n 10 + n 11) = 240 * L := hn.2.2.2.2.2.2.2.2.1
  have h1 : n 1 < 4 := hn.2.1
  rw [r 4 (by omega), r 9 (by omega), r 3 (by omega), r 1 (by omega), r 10 (by omega), r 11 (by omega), nI_clamp (by omega), ozT_nI, nI_add, nI_mul, nI_add, nI_add, nI_mul, nI_add, nI_mul, ← he]
  congr 1
  omega
theorem work_rate {v : Nat → Int32} {n : Nat → Nat} {L h : Nat} (r : rep v n 20) (hn : Nn n L h) (hL : L ≤ 160) : ∃ g, g ≤ 162 ∧ (whl1 v).2 = nI g := by
  obtain ⟨-, g, hg, e⟩ := work_rep ⟨n, r, hn⟩ (by omega)
  refine ⟨g, hg, ?_⟩
  rw [whl1_eq]
  show 0 + (workH v).2 = nI g
  rw [e, Int32.zero_add]
/-- bags in the warehouse -/
theorem bought_eq {F : Nat → Nat → Int32} : F 0 2 + F 1 2 + F 2 2 + F 3 2 = boughtF F (4 * 0) := by
  unfold boughtF
  rw [Int32.zero_add]
theorem MkI_LI {N F T : Nat → Nat → Int32} {A : Nat → Nat → Int32} (h : MkI N F T) (h0 : A 0 0 = N 0 3) (h1 : A 0 1 = N 1 3) (h2 : A 0 2 = N 2 3) : LI N F T A 0 := by
  obtain ⟨⟨hT, hN, -⟩, hF⟩ := h
  obtain ⟨L0, b0, c0, d0⟩ := hN 0 (by omega)
  obtain ⟨L1, b1, c1, d1⟩ := hN 1 (by omega)
  obtain ⟨L2, b2, c2, d2⟩ := hN 2 (by omega)
  refine ⟨fun k => if k = 0 then L0 else if k = 1 then L1 else L2, hT, fun k hk => ?_, hF, fun k hk => ?_⟩
  · rcases (show k = 0 ∨ k = 1 ∨ k = 2 by omega) with rfl | rfl | rfl
    · exact d0
    · exact d1
    · exact d2
  · rcases (show k = 0 ∨ k = 1 ∨ k = 2 by omega) with rfl | rfl | rfl
    · exact ⟨h0.trans c0, show L0 ≤ 20 + 10 * 0 by omega⟩
    · exact ⟨h1.trans c1, show L1 ≤ 20 + 10 * 0 by omega⟩
    · exact ⟨h2.trans c2, show L2 ≤ 20 + 10 * 0 by omega⟩
