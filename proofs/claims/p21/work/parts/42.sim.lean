/-! WHAT IS FORESEEN COMES; ASKING LEAVES THE CHECKSUM; WHAT CALLS ANSWER -/
theorem up_sim {α : Type} {N N' : Nat → α} {b b' i : Nat} {x : α} (h : ∀ k, k < 3 → N' (b' + k) = N (b + k)) : ∀ k, k < 3 → va_up N' (b' + i) x (b' + k) = va_up N (b + i) x (b + k) := by
  intro k hk
  by_cases e : k = i
  · subst e
    rw [va_up_self, va_up_self]
  · rw [va_up_ne _ _ (by omega), va_up_ne _ _ (by omega)]
    exact h k hk
theorem up_sim4 {α : Type} {N N' : Nat → α} {b b' i : Nat} {x : α} (h : ∀ k, k < 4 → N' (b' + k) = N (b + k)) : ∀ k, k < 4 → va_up N' (b' + i) x (b' + k) = va_up N (b + i) x (b + k) := by
  intro k hk
  by_cases e : k = i
  · subst e
    rw [va_up_self, va_up_self]
  · rw [va_up_ne _ _ (by omega), va_up_ne _ _ (by omega)]
    exact h k hk
theorem goN_sim {b b' : Nat} : ∀ (n i : Nat) (N N' : Nat → Nat → Int32) (sm : Int32), (∀ k, k < 3 → N' (b' + k) = N (b + k)) → (∀ k, k < 3 → (goN n 3 b' i N' sm).1 (b' + k) = (goN n 3 b i N sm).1 (b + k)) ∧ (goN n 3 b' i N' sm).2 = (goN n 3 b i N sm).2
  | 0, i, N, N', sm, h => ⟨h, rfl⟩
  | n + 1, i, N, N', sm, h => by
    unfold goN
    by_cases c : 3 ≤ i
    · rw [if_pos c, if_pos c]
      exact ⟨h, rfl⟩
    · rw [if_neg c, if_neg c, h i (by omega)]
      exact goN_sim n (i + 1) _ _ _ (up_sim h)
theorem rkN_sim {b b' fb fb' : Nat} : ∀ (n i : Nat) (N N' F F' : Nat → Nat → Int32), (∀ k, k < 3 → N' (b' + k) = N (b + k)) → (∀ k, k < 4 → F' (fb' + k) = F (fb + k)) → (∀ k, k < 3 → (N (b + k) 2).toNatClampNeg < 4) → (∀ k, k < 3 → (rkN n 3 b' fb' i N' F').1 (b' + k) = (rkN n 3 b fb i N F).1 (b + k)) ∧ (∀ k, k < 4 → (rkN n 3 b' fb' i N' F').2 (fb' + k) = (rkN n 3 b fb i N F).2 (fb + k))
  | 0, i, N, N', F, F', h, hf, hk => ⟨h, hf⟩
  | n + 1, i, N, N', F, F', h, hf, hk => by
    unfold rkN
    by_cases c : 3 ≤ i
    · rw [if_pos c, if_pos c]
      exact ⟨h, hf⟩
    · rw [if_neg c, if_neg c]
      unfold rk1
      rw [h i (by omega), hf _ (hk i (by omega))]
      refine rkN_sim n (i + 1) _ _ _ _ (up_sim h) (up_sim4 hf) (fun k hk9 => ?_)
      by_cases e : k = i
      · subst e
        show (va_up N (b + k) _ (b + k) 2).toNatClampNeg < 4
        rw [va_up_self, colV_k (by omega), buyB_k (by omega)]
        exact hk k hk9
      · show (va_up N (b + i) _ (b + k) 2).toNatClampNeg < 4
        rw [va_up_ne _ _ (by omega)]
        exact hk k hk9
theorem dl1_sim {fb fb' i : Nat} {F F' : Nat → Nat → Int32} (hi : i < 4) (h : ∀ k, k < 4 → F' (fb' + k) = F (fb + k)) : ∀ k, k < 4 → dl1 F' (fb' + i) (fb' + k) = dl1 F (fb + i) (fb + k) := by
  unfold dl1
  rw [h i hi]
  exact up_sim4 h
theorem goN_2 {c b x : Nat} : ∀ (n i : Nat) (N : Nat → Nat → Int32) (sm : Int32), (goN n c b i N sm).1 x 2 = N x 2
  | 0, _, _, _ => rfl
  | n + 1, i, N, sm => by
    unfold goN
    split
    · rfl
    · rw [goN_2 n]
      by_cases e : x = b + i
      · subst e
        rw [va_up_self, workH_2]
      · rw [va_up_ne _ _ e]
theorem rkN_2 {c b fb x : Nat} : ∀ (n i : Nat) (N F : Nat → Nat → Int32), (rkN n c b fb i N F).1 x 2 = N x 2
  | 0, _, _, _ => rfl
  | n + 1, i, N, F => by
    unfold rkN
    split
    · rfl
    · rw [rkN_2 n]
      unfold rk1
      by_cases e : x = b + i
      · subst e
        show va_up N (b + i) _ (b + i) 2 = _
        rw [va_up_self, colV_k (by omega), buyB_k (by omega)]
      · show va_up N (b + i) _ x 2 = _
        rw [va_up_ne _ _ e]
theorem hour_2 {c b fb x : Nat} {now : Int32} {N F : Nat → Nat → Int32} : (hourN c b fb now N F).1 x 2 = N x 2 := by
  unfold hourN
  split
  · show (rkN (c + 1) c b fb 0 _ F).1 x 2 = _
    rw [rkN_2, goN_2]
  · exact goN_2 _ _ _ _
theorem hour_sim {b b' fb fb' : Nat} {now : Int32} {N N' F F' : Nat → Nat → Int32} (h : ∀ k, k < 3 → N' (b' + k) = N (b + k)) (hf : ∀ k, k < 4 → F' (fb' + k) = F (fb + k)) (hk : ∀ k, k < 3 → (N (b + k) 2).toNatClampNeg < 4) :
    (∀ k, k < 3 → (hourN 3 b' fb' now N' F').1 (b' + k) = (hourN 3 b fb now N F).1 (b + k)) ∧ (∀ k, k < 4 → (hourN 3 b' fb' now N' F').2 (fb' + k) = (hourN 3 b fb now N F).2 (fb + k)) ∧ hourG 3 b' N' = hourG 3 b N := by
  have g := goN_sim (3 + 1) 0 N N' 0 h
  have r := rkN_sim (3 + 1) 0 _ _ F F' g.1 hf (fun k hk9 => by rw [goN_2]; exact hk k hk9)
  refine ⟨?_, ?_, g.2⟩
  · unfold hourN
    by_cases c : now - now / 48 * 48 = 47
    · rw [if_pos c, if_pos c]
      exact r.1
    · rw [if_neg c, if_neg c]
      exact g.1
  · unfold hourN
    by_cases c : now - now / 48 * 48 = 47
    · rw [if_pos c, if_pos c]
      exact dl1_sim (by omega) (dl1_sim (by omega) (dl1_sim (by omega) (dl1_sim (by omega) r.2)))
    · rw [if_neg c, if_neg c]
      exact hf
theorem goB_sim {t t' : Nat} {h : Int32} : ∀ (n : Nat) (i : Int32) (N N' F F' T T' : Nat → Nat → Int32) (sm : Int32), (∀ k, k < 3 → N' (12 * t' + k) = N (12 * t + k)) → (∀ k, k < 4 → F' (4 * t' + k) = F (4 * t + k)) → T' t' 0 = T t 0 → (∀ k, k < 3 → (N (12 * t + k) 2).toNatClampNeg < 4) →
    ∀ k, k < 3 → (goB n h i 3 t' N' F' T' sm).1 (12 * t' + k) = (goB n h i 3 t N F T sm).1 (12 * t + k)
  | 0, _, _, _, _, _, _, _, _, hN, _, _, _ => hN
  | n + 1, i, N, N', F, F', T, T', sm, hN, hF, hT, hk => by
    unfold goB
    by_cases c : h ≤ i
    · rw [if_pos c, if_pos c]
      exact hN
    · obtain ⟨a1, a2, a3⟩ := hour_sim (now := T t 0) hN hF hk
      rw [if_neg c, if_neg c, hT, a3]
      refine goB_sim n _ _ _ _ _ _ _ _ a1 a2 ?_ (fun k hk9 => by rw [hour_2]; exact hk k hk9)
      unfold hourT
      rw [va_up_self, va_up_self, upd_at, upd_at, hT]
theorem shS_sim {b b' kk : Nat} {N N' : Nat → Nat → Int32} (h : ∀ k, k < 3 → N' (b' + k) = N (b + k)) : ∀ (n i : Nat) (sm : Int32), shS n kk 3 b' i N' sm = shS n kk 3 b i N sm
  | 0, _, _ => rfl
  | n + 1, i, sm => by
    unfold shS
    by_cases c : 3 ≤ i
    · rw [if_pos c, if_pos c]
    · rw [if_neg c, if_neg c, h i (by omega), shS_sim h n]
theorem wkF_sim {b b' : Nat} {q : Int32} {N N' : Nat → Nat → Int32} (h : ∀ k, k < 3 → N' (b' + k) = N (b + k)) : ∀ (n i : Nat) (sm : Int32), wkF n q 3 b' i N' sm = wkF n q 3 b i N sm
  | 0, _, _ => rfl
  | n + 1, i, sm => by
    unfold wkF
    by_cases c : 3 ≤ i
    · rw [if_pos c, if_pos c]
    · rw [if_neg c, if_neg c, h i (by omega), wkF_sim h n]
theorem digN_sim {b b' : Nat} {N N' : Nat → Nat → Int32} (h : ∀ k, k < 3 → N' (b' + k) = N (b + k)) : ∀ (n i : Nat) (d : Int64), digN n 3 b' i N' d = digN n 3 b i N d
  | 0, _, _ => rfl
  | n + 1, i, d => by
    unfold digN
    by_cases c : 3 ≤ i
    · rw [if_pos c, if_pos c]
    · rw [if_neg c, if_neg c, h i (by omega), digN_sim h n]
theorem tot_sim {N F T N' F' T' : Nat → Nat → Int32} (h : ∀ k, k < 3 → N' (12 * 0 + k) = N (12 * 0 + k)) (hf : ∀ k, k < 4 → F' (4 * 0 + k) = F (4 * 0 + k)) (hT : T' 0 = T 0) (k : Nat) : totN N' F' T' 0 3 k = totN N F T 0 3 k := by
  unfold totN boughtF
  rw [hT, hf 0 (by omega), hf 1 (by omega), hf 2 (by omega), hf 3 (by omega), shS_sim h]
theorem fog_sim {N F N' F' : Nat → Nat → Int32} (h : ∀ k, k < 3 → N' (12 * 0 + k) = N (12 * 0 + k)) (hf : ∀ k, k < 4 → F' (4 * 0 + k) = F (4 * 0 + k)) {q : Int32} (hq : q.toNatClampNeg < 4) (k : Nat) : fogN N' F' 0 3 q k = fogN N F 0 3 q k := by
  unfold fogN
  rw [hf _ hq, wkF_sim h]
theorem dig_sim {N F T N' F' T' : Nat → Nat → Int32} (h : ∀ k, k < 3 → N' (12 * 0 + k) = N (12 * 0 + k)) (hf : ∀ k, k < 4 → F' (4 * 0 + k) = F (4 * 0 + k)) (hT : T' 0 = T 0) : digC N' F' T' 3 = digC N F T 3 := by
  have e := tot_sim h hf hT
  have f0 := fog_sim h hf (q := 0) (by decide)
  have f1 := fog_sim h hf (q := 1) (by decide)
  have f2 := fog_sim h hf (q := 2) (by decide)
  have f3 := fog_sim h hf (q := 3) (by decide)
  unfold digC
  rw [digN_sim h]
  simp only [e, f0, f1, f2, f3]
theorem whl1_eq (v : Nat → Int32) : whl1 v = ((workH v).1, 0 + (workH v).2) := by
  unfold whl1
  rw [show fuel 1 0 = 2 by decide, wHl, if_neg (by decide), wHl, if_pos (by decide)]
theorem advL_le {q : Int32} {j : Nat} : ∀ (n i : Nat) (N : Nat → Nat → Int32) (best bw : Int32), (∃ b, b < 4 ∧ best = nI b) → ∃ b, b < 4 ∧ (advL n q j i N best bw).2 = nI b
  | 0, _, _, _, _, h => h
  | n + 1, i, N, best, bw, h => by
    unfold advL
    split
    · exact h
    · split
      · exact advL_le n _ _ _ _ h
      · exact advL_le n _ _ _ _ ⟨i, by omega, rfl⟩
theorem advL_of {q : Int32} {j x : Nat} (hx : x ≠ 24) : ∀ (n i : Nat) (N : Nat → Nat → Int32) (best bw : Int32), (advL n q j i N best bw).1 x = N x
  | 0, _, _, _, _ => rfl
  | n + 1, i, N, best, bw => by
    unfold advL
    split
    · rfl
    · split
      · rw [advL_of hx n, va_up_ne _ _ hx]
      · rw [advL_of hx n, va_up_ne _ _ hx]
theorem ricL_le {b : Nat} {N : Nat → Nat → Int32} : ∀ (n i : Nat) (best bw : Int32), (∃ k, k < 3 ∧ best = nI k) → ∃ k, k < 3 ∧ ricL n 3 b i N best bw = nI k
  | 0, _, _, _, h => h
  | n + 1, i, best, bw, h => by
    unfold ricL
    split
    · exact h
    · split
      · exact ricL_le n _ _ _ ⟨i, by omega, rfl⟩
      · split
        · exact ricL_le n _ _ _ h
        · exact ricL_le n _ _ _ ⟨i, by omega, rfl⟩
theorem ric_ok {N : Nat → Nat → Int32} : ∃ k, k < 3 ∧ ricL 4 3 (12 * 0) 0 N (-1) 0 = nI k := by
  unfold ricL
  rw [if_neg (by omega), if_pos (by decide)]
  exact ricL_le 3 1 _ _ ⟨0, by omega, rfl⟩
theorem cpN_at {N : Nat → Nat → Int32} : ∀ k, k < 3 → cpN 4 3 (12 * 1) (12 * 0) 0 N (12 * 1 + k) = N (12 * 0 + k) := by
  intro k hk
  simp only [cpN]
  rw [if_neg (by omega), if_neg (by omega), if_neg (by omega), if_pos (by omega)]
  rcases (show k = 0 ∨ k = 1 ∨ k = 2 by omega) with rfl | rfl | rfl <;> simp [va_up]
theorem cpN_of {N : Nat → Nat → Int32} {x : Nat} (hx : x < 12) : cpN 4 3 (12 * 1) (12 * 0) 0 N x = N x := by
  simp only [cpN]
  rw [if_neg (by omega), if_neg (by omega), if_neg (by omega), if_pos (by omega), va_up_ne _ _ (by omega), va_up_ne _ _ (by omega), va_up_ne _ _ (by omega)]
theorem cp4_at {F : Nat → Nat → Int32} : ∀ k, k < 4 → cp4 F (4 * 1) (4 * 0) (4 * 1 + k) = F (4 * 0 + k) := by
  intro k hk
  unfold cp4 cp1
  rcases (show k = 0 ∨ k = 1 ∨ k = 2 ∨ k = 3 by omega) with rfl | rfl | rfl | rfl <;> simp [va_up]
theorem cp4_of {F : Nat → Nat → Int32} {x : Nat} (hx : x < 4) : cp4 F (4 * 1) (4 * 0) x = F x := by
  unfold cp4 cp1
  rw [va_up_ne _ _ (by omega), va_up_ne _ _ (by omega), va_up_ne _ _ (by omega), va_up_ne _ _ (by omega)]
theorem goN_off {c b x : Nat} : ∀ (n i : Nat) (N : Nat → Nat → Int32) (sm : Int32), (x < b + i ∨ b + c ≤ x) → (goN n c b i N sm).1 x = N x
  | 0, _, _, _, _ => rfl
  | n + 1, i, N, sm, h => by
    unfold goN
    split
    · rfl
    · rw [goN_off n (i + 1) _ _ (by omega), va_up_ne _ _ (by omega)]
theorem rkN_off {c b fb x : Nat} : ∀ (n i : Nat) (N F : Nat → Nat → Int32), (x < b + i ∨ b + c ≤ x) → (rkN n c b fb i N F).1 x = N x
  | 0, _, _, _, _ => rfl
  | n + 1, i, N, F, h => by
    unfold rkN
    split
    · rfl
    · rw [rkN_off n (i + 1) _ _ (by omega)]
      unfold rk1
      exact va_up_ne _ _ (by omega)
theorem rkF_off {c b fb x : Nat} : ∀ (n i : Nat) (N F : Nat → Nat → Int32), x < fb → (rkN n c b fb i N F).2 x = F x
  | 0, _, _, _, _ => rfl
  | n + 1, i, N, F, h => by
    unfold rkN
    split
    · rfl
    · rw [rkF_off n (i + 1) _ _ h]
      unfold rk1
      exact va_up_ne _ _ (by omega)
theorem dl4_off {fb x : Nat} {F : Nat → Nat → Int32} (h : x < fb) : dl4 F fb x = F x := by
  unfold dl4 dl1
  rw [va_up_ne _ _ (by omega), va_up_ne _ _ (by omega), va_up_ne _ _ (by omega), va_up_ne _ _ (by omega)]
theorem hourN_off {c b fb x : Nat} {now : Int32} {N F : Nat → Nat → Int32} (h : x < b ∨ b + c ≤ x) : (hourN c b fb now N F).1 x = N x := by
  unfold hourN
  split
  · unfold weekR
    show (rkN (c + 1) c b fb 0 _ F).1 x = _
    rw [rkN_off _ _ _ _ (by omega), goN_off _ _ _ _ (by omega)]
  · show (goN (c + 1) c b 0 N 0).1 x = _
    exact goN_off _ _ _ _ (by omega)
theorem hourF_off {c b fb x : Nat} {now : Int32} {N F : Nat → Nat → Int32} (h : x < fb) : (hourN c b fb now N F).2 x = F x := by
  unfold hourN
  split
  · unfold weekR
    show dl4 (rkN (c + 1) c b fb 0 _ F).2 fb x = _
    rw [dl4_off h, rkF_off _ _ _ _ h]
  · rfl
theorem goB_N {c t x : Nat} {h : Int32} (hx : x < 12 * t ∨ 12 * t + c ≤ x) : ∀ (n : Nat) (i : Int32) (N F T : Nat → Nat → Int32) (sm : Int32), (goB n h i c t N F T sm).1 x = N x
  | 0, _, _, _, _, _ => rfl
  | n + 1, i, N, F, T, sm => by
    unfold goB
    split
    · rfl
    · rw [goB_N hx n, hourN_off hx]
theorem goB_F {c t x : Nat} {h : Int32} (hx : x < 4 * t) : ∀ (n : Nat) (i : Int32) (N F T : Nat → Nat → Int32) (sm : Int32), (goB n h i c t N F T sm).2.1 x = F x
  | 0, _, _, _, _, _ => rfl
  | n + 1, i, N, F, T, sm => by
    unfold goB
    split
    · rfl
    · rw [goB_F hx n, hourF_off hx]
theorem goB_T {c t x : Nat} {h : Int32} (hx : x ≠ t) : ∀ (n : Nat) (i : Int32) (N F T : Nat → Nat → Int32) (sm : Int32), (goB n h i c t N F T sm).2.2.1 x = T x
  | 0, _, _, _, _, _ => rfl
  | n + 1, i, N, F, T, sm => by
    unfold goB
    split
    · rfl
    · rw [goB_T hx n]
      unfold hourT
      exact va_up_ne _ _ hx
theorem goB_T1 {c t : Nat} {h : Int32} : ∀ (n : Nat) (i : Int32) (N F T : Nat → Nat → Int32) (sm : Int32), (goB n h i c t N F T sm).2.2.1 t 1 = T t 1
  | 0, _, _, _, _, _ => rfl
  | n + 1, i, N, F, T, sm => by
    unfold goB
    split
    · rfl
    · rw [goB_T1 n]
      unfold hourT
      rw [va_up_self, upd_ge (by omega)]
