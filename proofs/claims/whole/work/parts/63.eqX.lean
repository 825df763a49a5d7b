/-! ONE CALL: keep, fogger, count, pass, rate, when -/
section Calls
variable {l : Launch} {P : L5} {D : va_G} {N F T : Nat → Nat → Int32} {K : Nat → Int32} {A : Nat → Nat → Int32} {w : Int64} {c B : Nat}
theorem s_keep (hI : Inv N F T K A c B) (hB : B < 2 ^ 28) (hl9 : l.stackTraces = false) (p q : Int32) : Two (fun mc ms f f2 k => CtH l yL_keep cL_keep 5 [(0, 10, 13, 13), (0, 10, 17, 15)] 9 mc ms P D f f2 [.ref (rX P), .int p, .int q, .ref (rO P)] k) (fun h mc ms f f2 r => CtI l yX4_keep cX4_keep 4 .int h mc ms P D 97 97 False f f2 [.ref (rM P), .int p, .int q] r) P N F T K A w B := by
  obtain ⟨h12, hT, hK, hK1, hC, hR, hF, -⟩ := id hI
  by_cases h1 : p < 0
  · exact two_no hI (by decide) (w_keep_1 (N1 := N) (F1 := F) (T1 := T) (x_X3_keep_1 (u := 0) hl9 (Or.inl h1))) (c_X4_keep_1 hK h12 (Or.inl h1))
  by_cases h2 : p < 4
  case neg => exact two_no hI (by decide) (w_keep_1 (N1 := N) (F1 := F) (T1 := T) (x_X3_keep_1 (u := 0) hl9 (Or.inr h2))) (c_X4_keep_1 hK h12 (Or.inr (gtL (b := 3) (b' := 4) (by decide) h2)))
  obtain ⟨i, hi, rfl⟩ := ixK (n := 4) (by omega) h1 h2
  have ej : (nI i).toNatClampNeg = i := nI_clamp (by omega)
  by_cases h3 : q < 0
  · exact two_no hI (by decide) (w_keep_2 (N1 := N) (F1 := F) (T1 := T) (x_X3_keep_2 hl9 h1 h2 (Or.inl h3))) (c_X4_keep_2 hK h12 hi (Or.inl h3))
  by_cases h4 : q ≤ 60
  case neg => exact two_no hI (by decide) (w_keep_2 (N1 := N) (F1 := F) (T1 := T) (x_X3_keep_2 hl9 h1 h2 (Or.inr h4))) (c_X4_keep_2 hK h12 hi (Or.inr (ltL h4)))
  have hW := c_X3_keep (l := l) (P := P) (D := D) (N := N) (F := F) (T := T) (K := K) (A := A) (w := w) h1 h2 h3 h4
  rw [ej] at hW
  refine two_ok (Inv_keep hI hi) (by omega) upd_at ?_ (w_keep hW) (c_X4_keep hK h12 hi h3 (geL h4)) (by omega) (by omega) (by omega)
  exact (hF i hi).1 0 (by omega)
theorem u_fogger {k : Nat} (hk : k < 6) {p : Int32} (hT : T 0 1 = nI c) (h12 : c ≤ 12) (h1 : ¬ p < 0) (h2 : p < 4) : CtI l yX3_fogger cX3_fogger 3 .int 6 0 0 P D 97 97 False (cw P N F T K A w) (cw P N F T K A w) [.ref (rX P), .int p, .int (nI k)] (fogN N F 0 c p k) := by
  match k, hk with
  | 0, _ => exact c_X3_fogger_0 hT h12 h1 h2
  | 1, _ => exact c_X3_fogger_1 hT h12 h1 h2
  | 2, _ => exact c_X3_fogger_2 hT h12 h1 h2
  | 3, _ => exact c_X3_fogger_3 hT h12 h1 h2
  | 4, _ => exact c_X3_fogger_4 hT h12 h1 h2
  | 5, _ => exact c_X3_fogger_5 hT h12 h1 h2
theorem u_foggerM {k i : Nat} (hk : k < 6) (hK : K 2 = nI c) (h12 : c ≤ 12) (hi : i < 4) : CtI l yX4_fogger cX4_fogger 3 .int 5 1 6 P D 97 97 False (cw P N F T K A w) (cw P N F T (upd K 0 0) A w) [.ref (rM P), .int (nI i), .int (nI k)] (ftM A c i k) := by
  match k, hk with
  | 0, _ => exact c_X4_fogger_0k hK h12 hi
  | 1, _ => exact c_X4_fogger_1k hK h12 hi
  | 2, _ => exact c_X4_fogger_2k hK h12 hi
  | 3, _ => exact c_X4_fogger_3k hK h12 hi
  | 4, _ => exact c_X4_fogger_4k hK h12 hi
  | 5, _ => exact c_X4_fogger_5k hK h12 hi
theorem s_fogger (hI : Inv N F T K A c B) (hB : B < 2 ^ 28) (hl9 : l.stackTraces = false) (p q : Int32) : Two (fun mc ms f f2 k => CtH l yL_fogger cL_fogger 5 [(0, 10, 13, 13)] 9 mc ms P D f f2 [.ref (rX P), .int p, .int q, .ref (rO P)] k) (fun h mc ms f f2 r => CtI l yX4_fogger cX4_fogger 3 .int h mc ms P D 97 97 False f f2 [.ref (rM P), .int p, .int q] r) P N F T K A w B := by
  obtain ⟨h12, hT, hK, hK1, hC, hR, hF, -⟩ := id hI
  by_cases h1 : p < 0
  · exact two_no hI (by decide) (w_fogger_1 (N1 := N) (F1 := F) (T1 := T) (x_X3_fogger_1 (u := 0) hl9 (Or.inl h1))) (c_X4_fogger_1 hK h12 (Or.inl h1))
  by_cases h2 : p < 4
  case neg => exact two_no hI (by decide) (w_fogger_1 (N1 := N) (F1 := F) (T1 := T) (x_X3_fogger_1 (u := 0) hl9 (Or.inr h2))) (c_X4_fogger_1 hK h12 (Or.inr (gtL (b := 3) (b' := 4) (by decide) h2)))
  obtain ⟨i, hi, rfl⟩ := ixK (n := 4) (by omega) h1 h2
  by_cases h3 : q < 0
  · exact two_no hI (by decide) (w_fogger_1 (N1 := N) (F1 := F) (T1 := T) (x_X3_fogger_1b hl9 h1 h2 (Or.inl h3))) (c_X4_fogger_1b hK h12 hi (Or.inl h3))
  by_cases h4 : q < 6
  case neg => exact two_no hI (by decide) (w_fogger_1 (N1 := N) (F1 := F) (T1 := T) (x_X3_fogger_1b hl9 h1 h2 (Or.inr h4))) (c_X4_fogger_1b hK h12 hi (Or.inr (gtL (b := 5) (b' := 6) (by decide) h4)))
  obtain ⟨k, hk, rfl⟩ := ixK (n := 6) (by omega) h3 h4
  exact two_ok (Inv_K hI (upd_ge (by omega)) (upd_ge (by omega))) (by omega) upd_at (fog_eq hC hF hi) (w_fogger (u_fogger hk hT h12 h1 h2)) (u_foggerM hk hK h12 hi) (by omega) (by omega) (by omega)
theorem u_count {k : Nat} (hk : k < 11) (hT : T 0 1 = nI c) (h12 : c ≤ 12) : CtI l yX3_count cX3_count 2 .int 6 0 0 P D 97 97 False (cw P N F T K A w) (cw P N F T K A w) [.ref (rX P), .int (nI k)] (totN N F T 0 c k) := by
  match k, hk with
  | 0, _ => exact c_X3_count_0 hT h12
  | 1, _ => exact c_X3_count_1 hT h12
  | 2, _ => exact c_X3_count_2 hT h12
  | 3, _ => exact c_X3_count_3 hT h12
  | 4, _ => exact c_X3_count_4 hT h12
  | 5, _ => exact c_X3_count_5 hT h12
  | 6, _ => exact c_X3_count_6 hT h12
  | 7, _ => exact c_X3_count_7 hT h12
  | 8, _ => exact c_X3_count_8 hT h12
  | 9, _ => exact c_X3_count_9 hT h12
  | 10, _ => exact c_X3_count_10 hT h12
theorem u_countM {k : Nat} (hk : k < 11) (hK : K 2 = nI c) (h12 : c ≤ 12) : CtI l yX4_count cX4_count 2 .int 6 0 0 P D 97 97 False (cw P N F T K A w) (cw P N F T (upd K 0 0) A w) [.ref (rM P), .int (nI k)] (cdM K A c k) := by
  match k, hk with
  | 0, _ => exact c_X4_count_0 hK h12
  | 1, _ => exact c_X4_count_1 hK h12
  | 2, _ => exact c_X4_count_2 hK h12
  | 3, _ => exact c_X4_count_3 hK h12
  | 4, _ => exact c_X4_count_4 hK h12
  | 5, _ => exact c_X4_count_5 hK h12
  | 6, _ => exact c_X4_count_6 hK h12
  | 7, _ => exact c_X4_count_7 hK h12
  | 8, _ => exact c_X4_count_8 hK h12
  | 9, _ => exact c_X4_count_9 hK h12
  | 10, _ => exact c_X4_count_10 hK h12
theorem s_count (hI : Inv N F T K A c B) (hB : B < 2 ^ 28) (hl9 : l.stackTraces = false) (q : Int32) : Two (fun mc ms f f2 k => CtH l yL_count cL_count 4 [(0, 9, 12, 13)] 9 mc ms P D f f2 [.ref (rX P), .int q, .ref (rO P)] k) (fun h mc ms f f2 r => CtI l yX4_count cX4_count 2 .int h mc ms P D 97 97 False f f2 [.ref (rM P), .int q] r) P N F T K A w B := by
  obtain ⟨h12, hT, hK, hK1, hC, hR, hF, -⟩ := id hI
  by_cases h3 : q < 0
  · exact two_no hI (by decide) (w_count_1 (N1 := N) (F1 := F) (T1 := T) (x_X3_count_1 (q := 0) (u := 0) hl9 (Or.inl h3))) (c_X4_count_e hK h12 (Or.inl h3))
  by_cases h4 : q < 11
  case neg => exact two_no hI (by decide) (w_count_1 (N1 := N) (F1 := F) (T1 := T) (x_X3_count_1 (q := 0) (u := 0) hl9 (Or.inr h4))) (c_X4_count_e hK h12 (Or.inr (gtL (b := 10) (b' := 11) (by decide) h4)))
  obtain ⟨k, hk, rfl⟩ := ixK (n := 11) (by omega) h3 h4
  exact two_ok (Inv_K hI (upd_ge (by omega)) (upd_ge (by omega))) (by omega) upd_at (tot_eq0 hC hF hK1 (hT.trans hK.symm) (by omega)) (w_count (u_count hk hT h12)) (u_countM hk hK h12) (by omega) (by omega) (by omega)
theorem s_pass (hI : Inv N F T K A c B) (hB : B < 2 ^ 28) (hl9 : l.stackTraces = false) (q : Int32) : Two (fun mc ms f f2 k => CtH l yL_pass cL_pass 4 [(0, 9, 12, 15)] 9 mc ms P D f f2 [.ref (rX P), .int q, .ref (rO P)] k) (fun h mc ms f f2 r => CtI l yX4_pass_ cX4_pass_ 4 .int h mc ms P D 97 97 False f f2 [.ref (rM P), .int q] r) P N F T K A w B := by
  obtain ⟨h12, hT, hK, hK1, hC, hR, hF, -⟩ := id hI
  by_cases h3 : q < 1
  · exact two_no hI (by decide) (w_pass_2 (N1 := N) (F1 := F) (T1 := T) (x_X3_pass_2 hl9 (Or.inl h3))) (c_X4_pass__1 hK h12 (Or.inl h3))
  by_cases h4 : q ≤ 240
  case neg => exact two_no hI (by decide) (w_pass_2 (N1 := N) (F1 := F) (T1 := T) (x_X3_pass_2 hl9 (Or.inr h4))) (c_X4_pass__1 hK h12 (Or.inr (ltL h4)))
  obtain ⟨hKF, hKM⟩ := Inv_KF hI
  obtain ⟨i1, i2⟩ := Inv_pass (p := q) hI (by omega)
  exact two_ok i1 (by omega) (by rw [upd_ge (by omega), upd_at]) i2 (w_pass (c_X3_pass hT h12 hKF h3 h4)) (c_X4_pass_ hK h12 h3 (geL h4) hKM) (by omega) (by omega) (by omega)
theorem s_rate (hI : Inv N F T K A c B) (hB : B < 2 ^ 28) (hl9 : l.stackTraces = false) (p : Int32) : Two (fun mc ms f f2 k => CtH l yL_rate cL_rate 4 [(0, 9, 12, 13)] 9 mc ms P D f f2 [.ref (rX P), .int p, .ref (rO P)] k) (fun h mc ms f f2 r => CtI l yX4_rate cX4_rate 2 .int h mc ms P D 97 97 False f f2 [.ref (rM P), .int p] r) P N F T K A w B := by
  obtain ⟨h12, hT, hK, hK1, hC, hR, hF, -⟩ := id hI
  by_cases h1 : p < 0
  · exact two_no hI (by decide) (w_rate_1 (N1 := N) (F1 := F) (T1 := T) (x_X3_rate_1 (q := 0) (u := 0) hl9 (Or.inl h1))) (c_X4_rate_1 hK h12 (Or.inl h1))
  by_cases h2 : p < T 0 1
  case neg => exact two_no hI (by decide) (w_rate_1 (N1 := N) (F1 := F) (T1 := T) (x_X3_rate_1 (q := 0) (u := 0) hl9 (Or.inr h2))) (c_X4_rate_1 hK h12 (Or.inr (by rw [hK, ← hT]; exact h2)))
  obtain ⟨j, hj, rfl⟩ := ixK (n := c) (by omega) h1 (hT ▸ h2)
  have ej : (nI j).toNatClampNeg = j := nI_clamp (by omega)
  obtain ⟨hKF, hKM⟩ := Inv_KF hI
  have hW := c_X3_rate (l := l) (P := P) (D := D) (N := N) (F := F) (T := T) (K := K) (A := A) (w := w) hT h12 h1 h2 (by rw [ej]; exact (hKF j hj).1)
  rw [ej] at hW
  have hr9 := hR j hj
  refine two_ok (Inv_off (N' := va_up (trialN N (12 * 0 + j)) 24 (whl1 (trialN N (12 * 0 + j) 24)).1) (F' := F) (T' := T) (A' := mWA (lookM A) 2 (20 * j)) (K' := upd K 0 0) hI (fun x hx => ?_) (fun _ _ => rfl) rfl (upd_ge (by omega)) (upd_ge (by omega)) ?_ ?_) (by omega) upd_at ?_ (w_rate hW) (c_X4_rate hK h12 hj hKM) (by omega) (by omega) (by omega)
  · rw [va_up_ne _ _ (by omega)]
    unfold trialN
    rw [va_up_ne _ _ (by omega)]
  · unfold mWA
    rw [va_up_ne _ _ (by omega), lookM_0]
  · unfold mWA
    rw [va_up_ne _ _ (by omega), lookM_1]
  · rw [whl1_eq]
    unfold trialN
    rw [va_up_self, row_look (by omega), mWr_eq (show B < 2 ^ 29 by omega) hr9, hC j hj]
    show 0 + (workH (rowO (A 0) (20 * j))).2 = _
    rw [Int32.zero_add]
theorem s_when (hI : Inv N F T K A c B) (hB : B < 2 ^ 28) (hl9 : l.stackTraces = false) (p q : Int32) : Two (fun mc ms f f2 k => CtH l yL_when cL_when 5 [(0, 10, 13, 13), (0, 10, 17, 15)] 9 mc ms P D f f2 [.ref (rX P), .int p, .int q, .ref (rO P)] k) (fun h mc ms f f2 r => CtI l yX4_when cX4_when 5 .int h mc ms P D 97 97 False f f2 [.ref (rM P), .int p, .int q] r) P N F T K A w B := by
  obtain ⟨h12, hT, hK, hK1, hC, hR, hF, -⟩ := id hI
  by_cases h1 : p < 0
  · exact two_no hI (by decide) (w_when_1 (N1 := N) (F1 := F) (T1 := T) (x_X3_when_1 (u := 0) hl9 (Or.inl h1))) (c_X4_when_1 hK h12 (Or.inl h1))
  by_cases h2 : p < T 0 1
  case neg => exact two_no hI (by decide) (w_when_1 (N1 := N) (F1 := F) (T1 := T) (x_X3_when_1 (u := 0) hl9 (Or.inr h2))) (c_X4_when_1 hK h12 (Or.inr (by rw [hK, ← hT]; exact h2)))
  obtain ⟨j, hj, rfl⟩ := ixK (n := c) (by omega) h1 (hT ▸ h2)
  have ej : (nI j).toNatClampNeg = j := nI_clamp (by omega)
  by_cases h3 : q < 1
  · exact two_no hI (by decide) (w_when_2 (N1 := N) (F1 := F) (T1 := T) (x_X3_when_2 (u := 0) hl9 h1 h2 (Or.inl h3))) (c_X4_when_2 hK h12 hj (Or.inl h3))
  by_cases h4 : q ≤ 9999
  case neg => exact two_no hI (by decide) (w_when_2 (N1 := N) (F1 := F) (T1 := T) (x_X3_when_2 (u := 0) hl9 h1 h2 (Or.inr h4))) (c_X4_when_2 hK h12 hj (Or.inr (ltL h4)))
  obtain ⟨hKF, hKM⟩ := Inv_KF hI
  obtain ⟨qn, hq1, hq2, rfl⟩ := ixL (m := 9999) (by decide) h3 h4
  have hW := c_X3_when (l := l) (P := P) (D := D) (N := N) (F := F) (T := T) (K := K) (A := A) (w := w) hT h12 h1 h2 (by rw [ej]; exact (hKF j hj).1) h3 h4
  rw [ej] at hW
  have hr9 := hR j hj
  refine two_ok (Inv_off (N' := va_up N 24 (whenL (fuel 481 1) (nI qn) 1 (N (12 * 0 + j)) 0).1) (F' := F) (T' := T) (A' := (whM (fuel 481 1) (nI qn) 1 (20 * j) (lookM A)).1) (K' := upd K 0 0) hI (fun x hx => ?_) (fun _ _ => rfl) rfl (upd_ge (by omega)) (upd_ge (by omega)) ?_ ?_) (by omega) upd_at ?_ (w_when hW) (c_X4_when hK h12 hj h3 (geL h4) hKM) (by omega) (by omega) (by omega)
  · exact va_up_ne _ _ (by omega)
  · rw [whM_off (by omega), lookM_0]
  · rw [whM_off (by omega), lookM_1]
  · have h9 := when_eq (j := j) (show B < 2 ^ 29 by omega) (show qn < 2 ^ 20 by omega) (fuel 481 1) 1 (N (12 * 0 + j)) 0 (lookM A) (by rw [hC j hj, row_look (by omega)]) (by rw [hC j hj]; exact hr9) (by omega)
    exact h9
end Calls
