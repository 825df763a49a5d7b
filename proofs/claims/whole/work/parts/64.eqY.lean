/-! ONE CALL: foresee, advise, nailer -/
theorem ixQ {q : Int32} (h1 : ¬ q < 3) (h2 : q ≤ 8) : ∃ k, 3 ≤ k ∧ k ≤ 8 ∧ q = nI k := by
  rw [Int32.lt_iff_toInt_lt] at h1
  rw [Int32.le_iff_toInt_le] at h2
  have e1 : (3 : Int32).toInt = 3 := by decide
  have e2 : (8 : Int32).toInt = 8 := by decide
  refine ⟨q.toInt.toNat, by omega, by omega, ?_⟩
  apply Int32.toInt_inj.mp
  rw [nI_toInt (by omega)]
  omega
section Calls
variable {l : Launch} {P : L5} {D : va_G} {N F T : Nat → Nat → Int32} {K : Nat → Int32} {A : Nat → Nat → Int32} {w : Int64} {c B : Nat}
theorem u_foresee {k : Nat} (h3k : 3 ≤ k) (hk : k ≤ 8) {p : Int32} (hT : T 0 1 = nI c) (h12 : c ≤ 12) (hKF : KF (cpN (c + 1) c (12 * 1) (12 * 0) 0 N) (12 * 1) c) (h1 : ¬ p < 1) (h2 : p ≤ 240) (hct : (goB (fuel p 0) p 0 c 1 (cpN (c + 1) c (12 * 1) (12 * 0) 0 N) (cp4 F (4 * 1) (4 * 0)) (va_up T 1 (T 0)) 0).2.2.1 1 1 = nI c) : CtI l yX3_foresee cX3_foresee 3 .int 6 0 0 P D 97 97 False (cw P N F T K A w) (cw P (goB (fuel p 0) p 0 c 1 (cpN (c + 1) c (12 * 1) (12 * 0) 0 N) (cp4 F (4 * 1) (4 * 0)) (va_up T 1 (T 0)) 0).1 (goB (fuel p 0) p 0 c 1 (cpN (c + 1) c (12 * 1) (12 * 0) 0 N) (cp4 F (4 * 1) (4 * 0)) (va_up T 1 (T 0)) 0).2.1 (goB (fuel p 0) p 0 c 1 (cpN (c + 1) c (12 * 1) (12 * 0) 0 N) (cp4 F (4 * 1) (4 * 0)) (va_up T 1 (T 0)) 0).2.2.1 K A w) [.ref (rX P), .int p, .int (nI k)] (totN (goB (fuel p 0) p 0 c 1 (cpN (c + 1) c (12 * 1) (12 * 0) 0 N) (cp4 F (4 * 1) (4 * 0)) (va_up T 1 (T 0)) 0).1 (goB (fuel p 0) p 0 c 1 (cpN (c + 1) c (12 * 1) (12 * 0) 0 N) (cp4 F (4 * 1) (4 * 0)) (va_up T 1 (T 0)) 0).2.1 (goB (fuel p 0) p 0 c 1 (cpN (c + 1) c (12 * 1) (12 * 0) 0 N) (cp4 F (4 * 1) (4 * 0)) (va_up T 1 (T 0)) 0).2.2.1 1 c k) := by
  match k, h3k, hk with
  | 3, _, _ => exact c_X3_foresee_3 hT h12 hKF h1 h2 hct
  | 4, _, _ => exact c_X3_foresee_4 hT h12 hKF h1 h2 hct
  | 5, _, _ => exact c_X3_foresee_5 hT h12 hKF h1 h2 hct
  | 6, _, _ => exact c_X3_foresee_6 hT h12 hKF h1 h2 hct
  | 7, _, _ => exact c_X3_foresee_7 hT h12 hKF h1 h2 hct
  | 8, _, _ => exact c_X3_foresee_8 hT h12 hKF h1 h2 hct
theorem u_foreseeM {k : Nat} (h3k : 3 ≤ k) (hk : k ≤ 8) {p : Int32} (hK : K 2 = nI c) (h12 : c ≤ 12) (h1 : ¬ p < 1) (h2 : ¬ 240 < p) (hKM : KM A 0 c) : CtI l yX4_foresee cX4_foresee 3 .int 7 0 0 P D 97 97 False (cw P N F T K A w) (cw P N F T (upd K 0 0) (aheadM (fuel p 0) p 0 c (K 1) (lookM A)) w) [.ref (rM P), .int p, .int (nI k)] (sdM (aheadM (fuel p 0) p 0 c (K 1) (lookM A)) 2 3 c k) := by
  match k, h3k, hk with
  | 3, _, _ => exact c_X4_foresee_3 hK h12 h1 h2 hKM
  | 4, _, _ => exact c_X4_foresee_4 hK h12 h1 h2 hKM
  | 5, _, _ => exact c_X4_foresee_5 hK h12 h1 h2 hKM
  | 6, _, _ => exact c_X4_foresee_6 hK h12 h1 h2 hKM
  | 7, _, _ => exact c_X4_foresee_7 hK h12 h1 h2 hKM
  | 8, _, _ => exact c_X4_foresee_8 hK h12 h1 h2 hKM
theorem s_foresee (hI : Inv N F T K A c B) (hB : B < 2 ^ 28) (hl9 : l.stackTraces = false) (p q : Int32) : Two (fun mc ms f f2 k => CtH l yL_foresee cL_foresee 5 [(0, 10, 13, 15), (0, 10, 17, 13)] 9 mc ms P D f f2 [.ref (rX P), .int p, .int q, .ref (rO P)] k) (fun h mc ms f f2 r => CtI l yX4_foresee cX4_foresee 3 .int h mc ms P D 97 97 False f f2 [.ref (rM P), .int p, .int q] r) P N F T K A w B := by
  obtain ⟨h12, hT, hK, hK1, hC, hR, hF, -⟩ := id hI
  by_cases h1 : p < 1
  · exact two_no hI (by decide) (w_foresee_2 (N1 := N) (F1 := F) (T1 := T) (x_X3_foresee_2 hl9 (Or.inl h1))) (c_X4_foresee_1 hK h12 (Or.inl h1))
  by_cases h2 : p ≤ 240
  case neg => exact two_no hI (by decide) (w_foresee_2 (N1 := N) (F1 := F) (T1 := T) (x_X3_foresee_2 hl9 (Or.inr h2))) (c_X4_foresee_1 hK h12 (Or.inr (ltL h2)))
  by_cases h3 : q < 3
  · exact two_no hI (by decide) (w_foresee_1 (N1 := N) (F1 := F) (T1 := T) (x_X3_foresee_1 hl9 h1 h2 (Or.inl h3))) (c_X4_foresee_2 hK h12 h1 (geL h2) (Or.inl h3))
  by_cases h4 : q ≤ 8
  case neg => exact two_no hI (by decide) (w_foresee_1 (N1 := N) (F1 := F) (T1 := T) (x_X3_foresee_1 hl9 h1 h2 (Or.inr h4))) (c_X4_foresee_2 hK h12 h1 (geL h2) (Or.inr (ltL h4)))
  obtain ⟨k, hk3, hk8, rfl⟩ := ixQ h3 h4
  obtain ⟨hKF, hKM⟩ := Inv_KF hI
  have hC1 := cp_eq h12 hC
  have hR1 := Rws_look h12 hR
  have hKF1 : KF (cpN (c + 1) c (12 * 1) (12 * 0) 0 N) (12 * 1) c := fun x hx => by
    rw [cpN_at h12 (c + 1) 0 N (by omega) x hx, if_neg (by omega)]
    exact hKF x hx
  have hct : (goB (fuel p 0) p 0 c 1 (cpN (c + 1) c (12 * 1) (12 * 0) 0 N) (cp4 F (4 * 1) (4 * 0)) (va_up T 1 (T 0)) 0).2.2.1 1 1 = nI c := by
    rw [goB_T1, va_up_self]
    exact hT
  obtain ⟨a1, a2, a3⟩ := ahead_eq (t := 1) (c := c) (h := p) (show B < 2 ^ 29 by omega) (fuel p 0) 0 (K 1) _ _ (va_up T 1 (T 0)) _ 0 hC1 hR1 (cpF_eq hF) (by rw [va_up_self, hK1, Int32.add_zero])
  refine two_ok (Inv_off hI (fun x hx => ?_) (fun x hx => ?_) ?_ (upd_ge (by omega)) (upd_ge (by omega)) ?_ ?_) (by omega) upd_at (tot_eq1 a1 a3 hk3 (by omega)) (w_foresee (u_foresee hk3 hk8 hT h12 hKF1 h1 h2 hct)) (u_foreseeM hk3 hk8 hK h12 h1 (geL h2) hKM) (by omega) (by omega) (by omega)
  · rw [goB_N (by omega), cpN_off _ _ _ (by omega)]
  · rw [goB_F (by omega), cp4_off (by omega)]
  · rw [goB_T (by omega), va_up_ne _ _ (by omega)]
  · rw [aheadM_off (by omega), lookM_0]
  · rw [aheadM_off (by omega), lookM_1]
theorem s_advise (hI : Inv N F T K A c B) (hB : B < 2 ^ 28) (hl9 : l.stackTraces = false) (p q : Int32) : Two (fun mc ms f f2 k => CtH l yL_advise cL_advise 5 [(0, 10, 13, 13), (0, 10, 17, 15)] 9 mc ms P D f f2 [.ref (rX P), .int p, .int q, .ref (rO P)] k) (fun h mc ms f f2 r => CtI l yX4_advise cX4_advise 5 .int h mc ms P D 97 97 False f f2 [.ref (rM P), .int p, .int q] r) P N F T K A w B := by
  obtain ⟨h12, hT, hK, hK1, hC, hR, hF, -⟩ := id hI
  by_cases h1 : p < 0
  · exact two_no hI (by decide) (w_advise_1 (N1 := N) (F1 := F) (T1 := T) (x_X3_advise_1 (u := 0) hl9 (Or.inl h1))) (c_X4_advise_1 hK h12 (Or.inl h1))
  by_cases h2 : p < T 0 1
  case neg => exact two_no hI (by decide) (w_advise_1 (N1 := N) (F1 := F) (T1 := T) (x_X3_advise_1 (u := 0) hl9 (Or.inr h2))) (c_X4_advise_1 hK h12 (Or.inr (by rw [hK, ← hT]; exact h2)))
  obtain ⟨j, hj, rfl⟩ := ixK (n := c) (by omega) h1 (hT ▸ h2)
  have ej : (nI j).toNatClampNeg = j := nI_clamp (by omega)
  by_cases h3 : q < 1
  · exact two_no hI (by decide) (w_advise_2 (N1 := N) (F1 := F) (T1 := T) (x_X3_advise_2 (u := 0) hl9 h1 h2 (Or.inl h3))) (c_X4_advise_2 hK h12 hj (Or.inl h3))
  by_cases h4 : q ≤ 120
  case neg => exact two_no hI (by decide) (w_advise_2 (N1 := N) (F1 := F) (T1 := T) (x_X3_advise_2 (u := 0) hl9 h1 h2 (Or.inr h4))) (c_X4_advise_2 hK h12 hj (Or.inr (ltL h4)))
  obtain ⟨qn, hq1, hq2, rfl⟩ := ixL (m := 120) (by decide) h3 h4
  have hW := c_X3_advise (l := l) (P := P) (D := D) (N := N) (F := F) (T := T) (K := K) (A := A) (w := w) hT h12 h1 h2 h3 h4
  rw [ej] at hW
  refine two_ok (Inv_off hI (fun x hx => ?_) (fun _ _ => rfl) rfl (upd_ge (by omega)) (upd_ge (by omega)) ?_ ?_) (by omega) upd_at ?_ (w_advise hW) (c_X4_advise hK h12 hj h3 (geL h4)) (by omega) (by omega) (by omega)
  · exact advL_off (by omega) _ _ _ _ _
  · exact adM_off (by omega) _ _ _ _
  · exact adM_off (by omega) _ _ _ _
  · have h8 := hC j hj
    rw [show 12 * 0 + j = j by omega] at h8 ⊢
    exact advise_eq (show B < 2 ^ 29 by omega) (by omega) hq2 h8 (hR j hj)
theorem s_nailer (hI : Inv N F T K A c B) (hB : B < 2 ^ 28) (hl9 : l.stackTraces = false) (p q u : Int32) : Two (fun mc ms f f2 k => CtH l yL_nailer cL_nailer 6 [(0, 12, 15, 13), (0, 12, 19, 15), (0, 12, 23, 17)] 9 mc ms P D f f2 [.ref (rX P), .int p, .int q, .int u, .ref (rO P)] k) (fun h mc ms f f2 r => CtI l yX4_nailer cX4_nailer 5 .int h mc ms P D 97 97 False f f2 [.ref (rM P), .int p, .int q, .int u] r) P N F T K A w B := by
  obtain ⟨h12, hT, hK, hK1, hC, hR, hF, -⟩ := id hI
  by_cases h1 : q < 0
  · exact two_no hI (by decide) (w_nailer_1 (N1 := N) (F1 := F) (T1 := T) (x_X3_nailer_1 hl9 (Or.inl h1))) (c_X4_nailer_1 hK h12 (Or.inl h1))
  by_cases h2 : q < 4
  case neg => exact two_no hI (by decide) (w_nailer_1 (N1 := N) (F1 := F) (T1 := T) (x_X3_nailer_1 hl9 (Or.inr h2))) (c_X4_nailer_1 hK h12 (Or.inr (gtL (b := 3) (b' := 4) (by decide) h2)))
  have m2 : ¬ (3 : Int32) < q := leL (b := 3) (b' := 4) (by decide) h2
  by_cases h3 : u < 0
  · exact two_no hI (by decide) (w_nailer_1 (N1 := N) (F1 := F) (T1 := T) (x_X3_nailer_1b hl9 h1 h2 (Or.inl h3))) (c_X4_nailer_1b hK h12 h1 m2 (Or.inl h3))
  by_cases h4 : u < 4
  case neg => exact two_no hI (by decide) (w_nailer_1 (N1 := N) (F1 := F) (T1 := T) (x_X3_nailer_1b hl9 h1 h2 (Or.inr h4))) (c_X4_nailer_1b hK h12 h1 m2 (Or.inr (gtL (b := 3) (b' := 4) (by decide) h4)))
  have m4 : ¬ (3 : Int32) < u := leL (b := 3) (b' := 4) (by decide) h4
  by_cases h5 : p < 1
  · exact two_no hI (by decide) (w_nailer_2 (N1 := N) (F1 := F) (T1 := T) (x_X3_nailer_2 hl9 h1 h2 h3 h4 (Or.inl h5))) (c_X4_nailer_2 hK h12 h1 m2 h3 m4 (Or.inl h5))
  by_cases h6 : p ≤ 9
  case neg => exact two_no hI (by decide) (w_nailer_2 (N1 := N) (F1 := F) (T1 := T) (x_X3_nailer_2 hl9 h1 h2 h3 h4 (Or.inr h6))) (c_X4_nailer_2 hK h12 h1 m2 h3 m4 (Or.inr (ltL h6)))
  by_cases h7 : c < 12
  case neg =>
    have e12 : K 2 = 12 := by
      rw [hK, show c = 12 by omega]
      rfl
    exact two_no hI (by decide) (w_nailer_3 (N1 := N) (F1 := F) (T1 := T) (x_X3_nailer_3 hT h12 h1 h2 h3 h4 h5 h6 h7 hl9)) (c_X4_nailer_3 hK h12 h1 m2 h3 m4 h5 (geL h6) e12)
  have n12 : ¬ K 2 = 12 := fun e => by
    have h8 : (nI c).toInt = (12 : Int32).toInt := by rw [← hK, e]
    rw [nI_toInt (by omega), show (12 : Int32).toInt = 12 by decide] at h8
    omega
  obtain ⟨kd, hkd, rfl⟩ := ixK (n := 4) (by omega) h1 h2
  obtain ⟨fo, hfo, rfl⟩ := ixK (n := 4) (by omega) h3 h4
  obtain ⟨sk, hs1, hs9, rfl⟩ := ixL (m := 9) (by decide) h5 h6
  refine two_ok (Inv_nailer hI h7 hs9 hkd hfo) (by omega) ?_ ?_ (w_nailer (c_X3_nailer hT h12 h1 h2 h3 h4 h5 h6 h7)) (c_X4_nailer hK h12 h1 m2 h3 m4 h5 (geL h6) n12 h7) (by omega) (by omega) (by omega)
  · rw [upd_ge (by omega), upd_at]
  · rw [hT, hK, Int32.add_sub_cancel]
end Calls
