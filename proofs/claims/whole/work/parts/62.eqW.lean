/-! ONE CALL: coal, make, change, told, nails -/
section Calls
variable {l : Launch} {P : L5} {D : va_G} {N F T : Nat → Nat → Int32} {K : Nat → Int32} {A : Nat → Nat → Int32} {w : Int64} {c B : Nat}
theorem s_coal (hI : Inv N F T K A c B) (hB : B < 2 ^ 28) (hl9 : l.stackTraces = false) (p q : Int32) : Two (fun mc ms f f2 k => CtH l yL_coal cL_coal 5 [(0, 10, 13, 13), (0, 10, 17, 15), (0, 10, 21, 17)] 9 mc ms P D f f2 [.ref (rX P), .int p, .int q, .ref (rO P)] k) (fun h mc ms f f2 r => CtI l yX4_coal cX4_coal 5 .int h mc ms P D 97 97 False f f2 [.ref (rM P), .int p, .int q] r) P N F T K A w B := by
  obtain ⟨h12, hT, hK, hK1, hC, hR, hF, -⟩ := id hI
  by_cases h1 : p < 0
  · exact two_no hI (by decide) (w_coal_1 (N1 := N) (F1 := F) (T1 := T) (x_X3_coal_1 (u := 0) hl9 (Or.inl h1))) (c_X4_coal_1 hK h12 (Or.inl h1))
  by_cases h2 : p < T 0 1
  case neg => exact two_no hI (by decide) (w_coal_1 (N1 := N) (F1 := F) (T1 := T) (x_X3_coal_1 (u := 0) hl9 (Or.inr h2))) (c_X4_coal_1 hK h12 (Or.inr (by rw [hK, ← hT]; exact h2)))
  obtain ⟨j, hj, rfl⟩ := ixK (n := c) (by omega) h1 (hT ▸ h2)
  have ej : (nI j).toNatClampNeg = j := nI_clamp (by omega)
  by_cases h3 : q < 1
  · exact two_no hI (by decide) (w_coal_2 (N1 := N) (F1 := F) (T1 := T) (x_X3_coal_2 (u := 0) hl9 h1 h2 (Or.inl h3))) (c_X4_coal_2 hK h12 hj (Or.inl h3))
  by_cases h4 : q ≤ 99
  case neg => exact two_no hI (by decide) (w_coal_2 (N1 := N) (F1 := F) (T1 := T) (x_X3_coal_2 (u := 0) hl9 h1 h2 (Or.inr h4))) (c_X4_coal_2 hK h12 hj (Or.inr (ltL h4)))
  have eq : q + 4 - 1 = q + 3 := by
    rw [Int32.sub_eq_add_neg, Int32.add_assoc]
    rfl
  have e7 : N (12 * 0 + j) 7 = A 0 (20 * j + 7) := by rw [hC j hj, rowO_lo (by omega)]
  have e6 : N (12 * 0 + j) 6 = A 0 (20 * j + 6) := by rw [hC j hj, rowO_lo (by omega)]
  by_cases h5 : N (12 * 0 + j) 7 < (q + 4 - 1) / 4
  · exact two_no hI (by decide) (w_coal_3 (N1 := N) (F1 := F) (T1 := T) (x_X3_coal_3 hT h12 h1 h2 h3 h4 (by rw [ej]; exact Or.inl h5) hl9)) (c_X4_coal_3 hK h12 hj h3 (geL h4) (by rw [← e7, ← eq]; exact h5))
  by_cases h6 : N (12 * 0 + j) 6 + q ≤ 99
  case neg => exact two_no hI (by decide) (w_coal_3 (N1 := N) (F1 := F) (T1 := T) (x_X3_coal_3 hT h12 h1 h2 h3 h4 (by rw [ej]; exact Or.inr h6) hl9)) (c_X4_coal_3b hK h12 hj h3 (geL h4) (by rw [← e7, ← eq]; exact h5) (by rw [← e6]; exact h6))
  have hW := c_X3_coal (l := l) (P := P) (D := D) (N := N) (F := F) (T := T) (K := K) (A := A) (w := w) hT h12 h1 h2 h3 h4 (by rw [ej]; exact h5) (by rw [ej]; exact h6)
  rw [ej] at hW
  refine two_ok (Inv_coal hI hj) (by omega) upd_at ?_ (w_coal hW) (c_X4_coal hK h12 hj h3 (geL h4) (by rw [← e7, ← eq]; exact h5) (by rw [← e6]; exact h6)) (by omega) (by omega) (by omega)
  unfold mCoal
  rw [sA_at]
  unfold mCo1
  rw [sA_off (by omega), e6]
theorem s_make (hI : Inv N F T K A c B) (hB : B < 2 ^ 28) (hl9 : l.stackTraces = false) (p q : Int32) : Two (fun mc ms f f2 k => CtH l yL_make cL_make 5 [(0, 10, 13, 13)] 9 mc ms P D f f2 [.ref (rX P), .int p, .int q, .ref (rO P)] k) (fun h mc ms f f2 r => CtI l yX4_make cX4_make 3 .int h mc ms P D 97 97 False f f2 [.ref (rM P), .int p, .int q] r) P N F T K A w B := by
  obtain ⟨h12, hT, hK, hK1, hC, hR, hF, -⟩ := id hI
  by_cases h1 : p < 0
  · exact two_no hI (by decide) (w_make_1 (N1 := N) (F1 := F) (T1 := T) (x_X3_make_1 (u := 0) hl9 (Or.inl h1))) (c_X4_make_1 hK h12 (Or.inl h1))
  by_cases h2 : p < T 0 1
  case neg => exact two_no hI (by decide) (w_make_1 (N1 := N) (F1 := F) (T1 := T) (x_X3_make_1 (u := 0) hl9 (Or.inr h2))) (c_X4_make_1 hK h12 (Or.inr (by rw [hK, ← hT]; exact h2)))
  obtain ⟨j, hj, rfl⟩ := ixK (n := c) (by omega) h1 (hT ▸ h2)
  have ej : (nI j).toNatClampNeg = j := nI_clamp (by omega)
  by_cases h3 : q < 0
  · exact two_no hI (by decide) (w_make_1 (N1 := N) (F1 := F) (T1 := T) (x_X3_make_1b (u := 0) hl9 h1 h2 (Or.inl h3))) (c_X4_make_1b hK h12 hj (Or.inl h3))
  by_cases h4 : q < 4
  case neg => exact two_no hI (by decide) (w_make_1 (N1 := N) (F1 := F) (T1 := T) (x_X3_make_1b (u := 0) hl9 h1 h2 (Or.inr h4))) (c_X4_make_1b hK h12 hj (Or.inr (gtL (b := 3) (b' := 4) (by decide) h4)))
  obtain ⟨k, hk, rfl⟩ := ixK (n := 4) (by omega) h3 h4
  have hW := c_X3_make (l := l) (P := P) (D := D) (N := N) (F := F) (T := T) (K := K) (A := A) (w := w) hT h12 h1 h2 h3 h4
  rw [ej] at hW
  refine two_ok (Inv_make hI hj hk) (by omega) upd_at ?_ (w_make hW) (c_X4_make hK h12 hj h3 (leL (b := 3) (b' := 4) (by decide) h4)) (by omega) (by omega) (by omega)
  rw [hC j hj, rowO_lo (by omega)]
theorem s_change (hI : Inv N F T K A c B) (hB : B < 2 ^ 28) (hl9 : l.stackTraces = false) (p q : Int32) : Two (fun mc ms f f2 k => CtH l yL_change cL_change 5 [(0, 10, 13, 13), (0, 10, 17, 17)] 9 mc ms P D f f2 [.ref (rX P), .int p, .int q, .ref (rO P)] k) (fun h mc ms f f2 r => CtI l yX4_change cX4_change 3 .int h mc ms P D 97 97 False f f2 [.ref (rM P), .int p, .int q] r) P N F T K A w B := by
  obtain ⟨h12, hT, hK, hK1, hC, hR, hF, -⟩ := id hI
  by_cases h1 : p < 0
  · exact two_no hI (by decide) (w_change_1 (N1 := N) (F1 := F) (T1 := T) (x_X3_change_1 (u := 0) hl9 (Or.inl h1))) (c_X4_change_1 hK h12 (Or.inl h1))
  by_cases h2 : p < T 0 1
  case neg => exact two_no hI (by decide) (w_change_1 (N1 := N) (F1 := F) (T1 := T) (x_X3_change_1 (u := 0) hl9 (Or.inr h2))) (c_X4_change_1 hK h12 (Or.inr (by rw [hK, ← hT]; exact h2)))
  obtain ⟨j, hj, rfl⟩ := ixK (n := c) (by omega) h1 (hT ▸ h2)
  have ej : (nI j).toNatClampNeg = j := nI_clamp (by omega)
  by_cases h3 : q < 0
  · exact two_no hI (by decide) (w_change_1 (N1 := N) (F1 := F) (T1 := T) (x_X3_change_1b (u := 0) hl9 h1 h2 (Or.inl h3))) (c_X4_change_1b hK h12 hj (Or.inl h3))
  by_cases h4 : q < 4
  case neg => exact two_no hI (by decide) (w_change_1 (N1 := N) (F1 := F) (T1 := T) (x_X3_change_1b (u := 0) hl9 h1 h2 (Or.inr h4))) (c_X4_change_1b hK h12 hj (Or.inr (gtL (b := 3) (b' := 4) (by decide) h4)))
  have e8 : N (12 * 0 + j) 8 = A 0 (20 * j + 8) := by rw [hC j hj, rowO_lo (by omega)]
  by_cases h5 : N (12 * 0 + j) 8 ≤ 0
  case neg => exact two_no hI (by decide) (w_change_3 (N1 := N) (F1 := F) (T1 := T) (x_X3_change_3 hT h12 h1 h2 h3 h4 (by rw [ej]; exact h5) hl9)) (c_X4_change_2 hK h12 hj h3 (leL (b := 3) (b' := 4) (by decide) h4) (by rw [← e8]; exact h5))
  obtain ⟨k, hk, rfl⟩ := ixK (n := 4) (by omega) h3 h4
  have hW := c_X3_change (l := l) (P := P) (D := D) (N := N) (F := F) (T := T) (K := K) (A := A) (w := w) hT h12 h1 h2 h3 h4 (by rw [ej]; exact h5)
  rw [ej] at hW
  refine two_ok (Inv_change hI hj hk) (by omega) upd_at ?_ (w_change hW) (c_X4_change hK h12 hj h3 (leL (b := 3) (b' := 4) (by decide) h4) (by rw [← e8]; exact h5)) (by omega) (by omega) (by omega)
  rw [hC j hj, rowO_lo (by omega)]
theorem u_told {k : Nat} (hk : k < 12) {p : Int32} (hT : T 0 1 = nI c) (h12 : c ≤ 12) (h1 : ¬ p < 0) (h2 : p < T 0 1) : CtI l yX3_told cX3_told 3 .int 6 0 0 P D 97 97 False (cw P N F T K A w) (cw P N F T K A w) [.ref (rX P), .int p, .int (nI k)] (N (12 * 0 + p.toNatClampNeg) k) := by
  match k, hk with
  | 0, _ => exact c_X3_told_0 hT h12 h1 h2
  | 1, _ => exact c_X3_told_1 hT h12 h1 h2
  | 2, _ => exact c_X3_told_2 hT h12 h1 h2
  | 3, _ => exact c_X3_told_3 hT h12 h1 h2
  | 4, _ => exact c_X3_told_4 hT h12 h1 h2
  | 5, _ => exact c_X3_told_5 hT h12 h1 h2
  | 6, _ => exact c_X3_told_6 hT h12 h1 h2
  | 7, _ => exact c_X3_told_7 hT h12 h1 h2
  | 8, _ => exact c_X3_told_8 hT h12 h1 h2
  | 9, _ => exact c_X3_told_9 hT h12 h1 h2
  | 10, _ => exact c_X3_told_10 hT h12 h1 h2
  | 11, _ => exact c_X3_told_11 hT h12 h1 h2
theorem s_told (hI : Inv N F T K A c B) (hB : B < 2 ^ 28) (hl9 : l.stackTraces = false) (p q : Int32) : Two (fun mc ms f f2 k => CtH l yL_told cL_told 5 [(0, 10, 13, 13)] 9 mc ms P D f f2 [.ref (rX P), .int p, .int q, .ref (rO P)] k) (fun h mc ms f f2 r => CtI l yX4_told cX4_told 3 .int h mc ms P D 97 97 False f f2 [.ref (rM P), .int p, .int q] r) P N F T K A w B := by
  obtain ⟨h12, hT, hK, hK1, hC, hR, hF, -⟩ := id hI
  by_cases h1 : p < 0
  · exact two_no hI (by decide) (w_told_1 (N1 := N) (F1 := F) (T1 := T) (x_X3_told_1 (u := 0) hl9 (Or.inl h1))) (c_X4_told_1 hK h12 (Or.inl h1))
  by_cases h2 : p < T 0 1
  case neg => exact two_no hI (by decide) (w_told_1 (N1 := N) (F1 := F) (T1 := T) (x_X3_told_1 (u := 0) hl9 (Or.inr h2))) (c_X4_told_1 hK h12 (Or.inr (by rw [hK, ← hT]; exact h2)))
  obtain ⟨j, hj, rfl⟩ := ixK (n := c) (by omega) h1 (hT ▸ h2)
  have ej : (nI j).toNatClampNeg = j := nI_clamp (by omega)
  by_cases h3 : q < 0
  · exact two_no hI (by decide) (w_told_1 (N1 := N) (F1 := F) (T1 := T) (x_X3_told_1b (u := 0) hl9 h1 h2 (Or.inl h3))) (c_X4_told_1b hK h12 hj (Or.inl h3))
  by_cases h4 : q < 12
  case neg => exact two_no hI (by decide) (w_told_1 (N1 := N) (F1 := F) (T1 := T) (x_X3_told_1b (u := 0) hl9 h1 h2 (Or.inr h4))) (c_X4_told_1b hK h12 hj (Or.inr (gtL (b := 11) (b' := 12) (by decide) h4)))
  obtain ⟨k, hk, rfl⟩ := ixK (n := 12) (by omega) h3 h4
  have hW := u_told (l := l) (P := P) (D := D) (N := N) (F := F) (T := T) (K := K) (A := A) (w := w) hk hT h12 h1 h2
  rw [ej] at hW
  refine two_ok (Inv_K hI (upd_ge (by omega)) (upd_ge (by omega))) (by omega) upd_at ?_ (w_told hW) (c_X4_told hK h12 hj hk) (by omega) (by omega) (by omega)
  rw [hC j hj, rowO_lo (by omega)]
theorem u_nails {k : Nat} (hk : k < 2) {p q : Int32} (hT : T 0 1 = nI c) (h12 : c ≤ 12) (h1 : ¬ p < 0) (h2 : p < T 0 1) (h3 : ¬ q < 0) (h4 : q < 4) : CtI l yX3_nails cX3_nails 5 .int 6 0 0 P D 97 97 False (cw P N F T K A w) (cw P N F T K A w) [.ref (rX P), .int p, .int q, .int (nI k)] (N (12 * 0 + p.toNatClampNeg) (12 + 4 * k + q.toNatClampNeg)) := by
  match k, hk with
  | 0, _ => exact c_X3_nails_0 hT h12 h1 h2 h3 h4
  | 1, _ => exact c_X3_nails_1 hT h12 h1 h2 h3 h4
theorem s_nails (hI : Inv N F T K A c B) (hB : B < 2 ^ 28) (hl9 : l.stackTraces = false) (p q u : Int32) : Two (fun mc ms f f2 k => CtH l yL_nails cL_nails 6 [(0, 12, 15, 13)] 9 mc ms P D f f2 [.ref (rX P), .int p, .int q, .int u, .ref (rO P)] k) (fun h mc ms f f2 r => CtI l yX4_nails cX4_nails 4 .int h mc ms P D 97 97 False f f2 [.ref (rM P), .int p, .int q, .int u] r) P N F T K A w B := by
  obtain ⟨h12, hT, hK, hK1, hC, hR, hF, -⟩ := id hI
  by_cases h1 : p < 0
  · exact two_no hI (by decide) (w_nails_1 (N1 := N) (F1 := F) (T1 := T) (x_X3_nails_1 hl9 (Or.inl h1))) (c_X4_nails_1 hK h12 (Or.inl h1))
  by_cases h2 : p < T 0 1
  case neg => exact two_no hI (by decide) (w_nails_1 (N1 := N) (F1 := F) (T1 := T) (x_X3_nails_1 hl9 (Or.inr h2))) (c_X4_nails_1 hK h12 (Or.inr (by rw [hK, ← hT]; exact h2)))
  obtain ⟨j, hj, rfl⟩ := ixK (n := c) (by omega) h1 (hT ▸ h2)
  have ej : (nI j).toNatClampNeg = j := nI_clamp (by omega)
  by_cases h3 : q < 0
  · exact two_no hI (by decide) (w_nails_1 (N1 := N) (F1 := F) (T1 := T) (x_X3_nails_1b hl9 h1 h2 (Or.inl h3))) (c_X4_nails_1b hK h12 hj (Or.inl h3))
  by_cases h4 : q < 4
  case neg => exact two_no hI (by decide) (w_nails_1 (N1 := N) (F1 := F) (T1 := T) (x_X3_nails_1b hl9 h1 h2 (Or.inr h4))) (c_X4_nails_1b hK h12 hj (Or.inr (gtL (b := 3) (b' := 4) (by decide) h4)))
  by_cases h5 : u < 0
  · exact two_no hI (by decide) (w_nails_1 (N1 := N) (F1 := F) (T1 := T) (x_X3_nails_1c hl9 h1 h2 h3 h4 (Or.inl h5))) (c_X4_nails_1c hK h12 hj h3 (leL (b := 3) (b' := 4) (by decide) h4) (Or.inl h5))
  by_cases h6 : u < 2
  case neg => exact two_no hI (by decide) (w_nails_1 (N1 := N) (F1 := F) (T1 := T) (x_X3_nails_1c hl9 h1 h2 h3 h4 (Or.inr h6))) (c_X4_nails_1c hK h12 hj h3 (leL (b := 3) (b' := 4) (by decide) h4) (Or.inr (gtL (b := 1) (b' := 2) (by decide) h6)))
  obtain ⟨k, hk, rfl⟩ := ixK (n := 4) (by omega) h3 h4
  obtain ⟨x, hx, rfl⟩ := ixK (n := 2) (by omega) h5 h6
  have hW := u_nails (l := l) (P := P) (D := D) (N := N) (F := F) (T := T) (K := K) (A := A) (w := w) hx hT h12 h1 h2 h3 h4
  rw [ej, nI_clamp (show k < 2 ^ 31 by omega)] at hW
  refine two_ok (Inv_K hI (upd_ge (by omega)) (upd_ge (by omega))) (by omega) upd_at ?_ (w_nails hW) (c_X4_nails hK h12 hj hk hx) (by omega) (by omega) (by omega)
  rw [hC j hj, rowO_lo (by omega)]
end Calls
