/-! THE LAW: richest, mean, digest; its loop -/
section LawBlocks
variable {p : Program} {l : Launch} {e : Env} {s : State} {m : MethodId} {below : List Frame} {meth : Method} {c : Code} {P : L5} {D : va_G} {Q : State → Prop} {b L : Nat} {xs : Nat → Int32} {N F T : Nat → Nat → Int32} {K : Nat → Int32} {A : Nat → Nat → Int32} {w : Int64} {cn B i k z : Nat}
set_option maxHeartbeats 4000000 in
theorem b_richest (C : Cx p l s m #[Value.ref b] meth c P D code 9 ret RL) (hX : va_X b L xs s s.heap) (hbl : b < s.heap.size) (hbP : b < P.1) (hL : L ≤ 2048) (hi : i + 4 ≤ L) (hl9 : l.stackTraces = false) (hI : Inv N F T K A cn B) (hB : B < 2 ^ 28) (hk : k + 0 ≤ 672103) (hz : z + 0 ≤ 7079794) (kk : ∀ (N2 F2 T2 : Nat → Nat → Int32) (K2 : Nat → Int32) (A2 : Nat → Nat → Int32) (c2 : Nat) (w2 : Int64) (k2 z2 : Nat), Inv N2 F2 T2 K2 A2 c2 (B + 20) → k2 ≤ k + 0 → z2 ≤ z + 0 → V p l e room_1 s m #[Value.ref b] below meth c P D Q 9 97 False (cw P N2 F2 T2 K2 A2 w2) k2 z2 1200 [(4, .int (nI i)), (3, .ref (rO P)), (2, .ref (rM P)), (1, .ref (rX P)), (0, .ref b)] []) : V p l e room_1 s m #[Value.ref b] below meth c P D Q 9 97 False (cw P N F T K A w) k z 1132 [(4, .int (nI i)), (3, .ref (rO P)), (2, .ref (rM P)), (1, .ref (rX P)), (0, .ref b)] [] := by
  obtain ⟨h12, hT, hK, hK1, hC, hR, hF, -⟩ := id hI
  have hW := c_X3_richest (l := l) (P := P) (D := D) (N := N) (F := F) (T := T) (K := K) (A := A) (w := w) hT h12
  rw [ric_eq h12 hC (cn + 1) 0 (-1) 0 (Or.inl (by decide))] at hW
  refine v_aload_n C 3 dL_law_1132 rfl ?_
  refine go_I (run_V C hW k_155 k_1 k_152 k_153 k_154 dd_X3_richest ⟨Nat.le_of_ble_eq_true rfl, Nat.le_of_ble_eq_true rfl⟩ rcX rfl (Nat.le_of_ble_eq_true rfl) dL_law_1133 ⟨by show k + 0 ≤ 672103; omega, by show z + 0 ≤ 7079794; omega⟩) ?_
  refine v_aload_n C 2 dL_law_1136 rfl ?_
  refine go_I (run_V C (c_X4_richest hK h12) k_690 k_5 k_687 k_688 k_689 dd_X4_richest ⟨Nat.le_of_ble_eq_true rfl, Nat.le_of_ble_eq_true rfl⟩ rcM rfl (Nat.le_of_ble_eq_true rfl) dL_law_1137 ⟨by show k + 0 + 0 ≤ 672103; omega, by show z + 0 + 0 ≤ 7079794; omega⟩) ?_
  refine v_icmp_eq (tgt := 1200) C dL_law_1140 (by decide) (fun _ => ?_) (fun h9 => absurd rfl h9)
  exact kk _ _ _ _ _ _ _ _ _ (Inv_up (Inv_K hI (upd_ge (by omega)) (upd_ge (by omega))) (by omega)) (by omega) (by omega)
set_option maxHeartbeats 4000000 in
theorem b_mean (C : Cx p l s m #[Value.ref b] meth c P D code 9 ret RL) (hX : va_X b L xs s s.heap) (hbl : b < s.heap.size) (hbP : b < P.1) (hL : L ≤ 2048) (hi : i + 4 ≤ L) (hl9 : l.stackTraces = false) (hI : Inv N F T K A cn B) (hB : B < 2 ^ 28) (hk : k + 0 ≤ 672103) (hz : z + 0 ≤ 7079794) (kk : ∀ (N2 F2 T2 : Nat → Nat → Int32) (K2 : Nat → Int32) (A2 : Nat → Nat → Int32) (c2 : Nat) (w2 : Int64) (k2 z2 : Nat), Inv N2 F2 T2 K2 A2 c2 (B + 20) → k2 ≤ k + 0 → z2 ≤ z + 0 → V p l e room_1 s m #[Value.ref b] below meth c P D Q 9 97 False (cw P N2 F2 T2 K2 A2 w2) k2 z2 1200 [(4, .int (nI i)), (3, .ref (rO P)), (2, .ref (rM P)), (1, .ref (rX P)), (0, .ref b)] []) : V p l e room_1 s m #[Value.ref b] below meth c P D Q 9 97 False (cw P N F T K A w) k z 1145 [(4, .int (nI i)), (3, .ref (rO P)), (2, .ref (rM P)), (1, .ref (rX P)), (0, .ref b)] [] := by
  obtain ⟨h12, hT, hK, hK1, hC, hR, hF, -⟩ := id hI
  have hM := c_X4_mean (l := l) (P := P) (D := D) (N := N) (F := F) (T := T) (K := K) (A := A) (w := w) hK h12
  rw [← mean_eq hC, hK, ← hT] at hM
  obtain ⟨x9, hx9⟩ : ∃ x9, x9 = meanC N cn (T 0 1) := ⟨_, rfl⟩
  have hW := c_X3_mean (l := l) (P := P) (D := D) (N := N) (F := F) (T := T) (K := K) (A := A) (w := w) hT h12
  rw [← hx9] at hM hW
  refine v_aload_n C 3 dL_law_1145 rfl ?_
  refine go_D (run_V C hW k_159 k_1 k_156 k_157 k_158 dd_X3_mean ⟨Nat.le_of_ble_eq_true rfl, Nat.le_of_ble_eq_true rfl⟩ rcX rfl (Nat.le_of_ble_eq_true rfl) dL_law_1146 ⟨by show k + 0 ≤ 672103; omega, by show z + 0 ≤ 7079794; omega⟩) ?_
  refine v_dstore (lv' := [(5, .double x9), (4, .int (nI i)), (3, .ref (rO P)), (2, .ref (rM P)), (1, .ref (rX P)), (0, .ref b)]) C dL_law_1149 (by decide) rfl ?_
  refine v_aload_n C 3 dL_law_1151 rfl ?_
  refine go_D (run_V C hM k_698 k_5 k_695 k_696 k_697 dd_X4_mean ⟨Nat.le_of_ble_eq_true rfl, Nat.le_of_ble_eq_true rfl⟩ rcM rfl (Nat.le_of_ble_eq_true rfl) dL_law_1152 ⟨by show k + 0 + 0 ≤ 672103; omega, by show z + 0 + 0 ≤ 7079794; omega⟩) ?_
  refine v_dstore (lv' := [(7, .double x9), (5, .double x9), (4, .int (nI i)), (3, .ref (rO P)), (2, .ref (rM P)), (1, .ref (rX P)), (0, .ref b)]) C dL_law_1155 (by decide) rfl ?_
  refine v_dload C 1 dL_law_1157 rfl ?_
  refine v_dload C 0 dL_law_1159 rfl ?_
  refine v_dcmp C dL_law_1161 ?_
  obtain ⟨v9, hv9⟩ : ∃ v9, v9 = Op.cmpValue (FP.dcmp x9 x9) .l := ⟨_, rfl⟩
  rw [← hv9]
  have J : V p l e room_1 s m #[Value.ref b] below meth c P D Q 9 97 False (cw P N F T (upd K 0 0) A w) (k + 0 + 0) (z + 0 + 0) 1183 [(7, .double x9), (5, .double x9), (4, .int (nI i)), (3, .ref (rO P)), (2, .ref (rM P)), (1, .ref (rX P)), (0, .ref b)] [] := by
    refine v_goto (tgt := 1200) C dL_law_1183 (by decide) ?_
    refine v_lv [2, 3, 4, 5, 6] rfl ?_
    exact kk _ _ _ _ _ _ _ _ _ (Inv_up (Inv_K hI (upd_ge (by omega)) (upd_ge (by omega))) (by omega)) (by omega) (by omega)
  refine v_if_eq (tgt := 1183) C dL_law_1162 (by decide) (fun _ => J) (fun hv0 => ?_)
  refine v_dload C 1 dL_law_1165 rfl ?_
  refine v_dload C 1 dL_law_1167 rfl ?_
  refine v_dcmp C dL_law_1169 ?_
  rw [← hv9]
  refine v_if_eq (tgt := 1181) C dL_law_1170 (by decide) (fun h9 => absurd h9 hv0) (fun _ => ?_)
  refine v_dload C 0 dL_law_1173 rfl ?_
  refine v_dload C 0 dL_law_1175 rfl ?_
  refine v_dcmp C dL_law_1177 ?_
  rw [← hv9]
  exact v_if_ne (tgt := 1183) C dL_law_1178 (by decide) (fun _ => J) (fun h9 => absurd h9 hv0)
set_option maxHeartbeats 4000000 in
theorem b_digest (C : Cx p l s m #[Value.ref b] meth c P D code 9 ret RL) (hX : va_X b L xs s s.heap) (hbl : b < s.heap.size) (hbP : b < P.1) (hL : L ≤ 2048) (hi : i + 4 ≤ L) (hl9 : l.stackTraces = false) (hI : Inv N F T K A cn B) (hB : B < 2 ^ 28) (hk : k + 24 ≤ 672103) (hz : z + 144 ≤ 7079794) (kk : ∀ (N2 F2 T2 : Nat → Nat → Int32) (K2 : Nat → Int32) (A2 : Nat → Nat → Int32) (c2 : Nat) (w2 : Int64) (k2 z2 : Nat), Inv N2 F2 T2 K2 A2 c2 (B + 20) → k2 ≤ k + 24 → z2 ≤ z + 144 → V p l e room_1 s m #[Value.ref b] below meth c P D Q 9 97 False (cw P N2 F2 T2 K2 A2 w2) k2 z2 1200 [(4, .int (nI i)), (3, .ref (rO P)), (2, .ref (rM P)), (1, .ref (rX P)), (0, .ref b)] []) : V p l e room_1 s m #[Value.ref b] below meth c P D Q 9 97 False (cw P N F T K A w) k z 1186 [(4, .int (nI i)), (3, .ref (rO P)), (2, .ref (rM P)), (1, .ref (rX P)), (0, .ref b)] [] := by
  obtain ⟨h12, hT, hK, hK1, hC, hR, hF, -⟩ := id hI
  have hW := c_X3_digest (l := l) (P := P) (D := D) (N := N) (F := F) (T := T) (K := K) (A := A) (w := w) hT h12
  rw [digest_eq hC hF hK1 (hT.trans hK.symm)] at hW
  refine v_aload_n C 3 dL_law_1186 rfl ?_
  refine go_L (run_V C hW k_163 k_1 k_160 k_161 k_162 dd_X3_digest ⟨Nat.le_of_ble_eq_true rfl, Nat.le_of_ble_eq_true rfl⟩ rcX rfl (Nat.le_of_ble_eq_true rfl) dL_law_1187 ⟨by show k + 0 ≤ 672103; omega, by show z + 0 ≤ 7079794; omega⟩) ?_
  refine v_aload_n C 2 dL_law_1190 rfl ?_
  refine go_L (run_V C (c_X4_digest hK h12) k_702 k_5 k_699 k_700 k_701 dd_X4_digest ⟨Nat.le_of_ble_eq_true rfl, Nat.le_of_ble_eq_true rfl⟩ rcM rfl (Nat.le_of_ble_eq_true rfl) dL_law_1191 ⟨by show k + 0 + 24 ≤ 672103; omega, by show z + 0 + 144 ≤ 7079794; omega⟩) ?_
  refine v_lcmp C dL_law_1194 ?_
  refine v_if_eq (tgt := 1200) C dL_law_1195 (by decide) (fun _ => ?_) (fun h8 => absurd (lg_self _) h8)
  exact kk _ _ _ _ _ _ _ _ _ (Inv_up (Inv_K hI (upd_ge (by omega)) (upd_ge (by omega))) (by omega)) (by omega) (by omega)
end LawBlocks
theorem and31 (x : Int32) : ∃ n, n < 32 ∧ x &&& 31 = nI n := by
  refine ⟨(x &&& 31).toBitVec.toNat, ?_, ?_⟩
  · rw [Int32.toBitVec_and, BitVec.toNat_and]
    exact Nat.lt_of_le_of_lt Nat.and_le_right (by decide)
  · apply Int32.toBitVec_inj.mp
    unfold nI
    rw [Int32.toBitVec_ofNat', BitVec.ofNat_toNat, BitVec.setWidth_eq]
theorem gt4 {L i : Nat} (hL : L ≤ 2048) (hi : i ≤ L) : nI L - 4 < nI i ↔ L < i + 4 := by
  by_cases h4 : 4 ≤ L
  · have e : nI L - 4 = nI (L - 4) := nI_sub h4
    rw [e, Int32.lt_iff_toInt_lt, nI_toInt (by omega), nI_toInt (by omega)]
    omega
  · have e : (nI L - 4).toInt < 0 := by
      rcases (show L = 0 ∨ L = 1 ∨ L = 2 ∨ L = 3 by omega) with rfl | rfl | rfl | rfl <;> decide
    rw [Int32.lt_iff_toInt_lt, nI_toInt (n := i) (by omega)]
    omega
set_option maxHeartbeats 4000000 in
theorem law_loop {p : Program} {l : Launch} {e : Env} {s : State} {m : MethodId} {below : List Frame} {meth : Method} {c : Code} {P : L5} {D : va_G} {Q : State → Prop} {b L : Nat} {xs : Nat → Int32} (C : Cx p l s m #[Value.ref b] meth c P D code 9 ret RL) (hX : va_X b L xs s s.heap) (hbl : b < s.heap.size) (hbP : b < P.1) (hL : L ≤ 2048) (hl9 : l.stackTraces = false) (kend : ∀ (f : Nat → va_E) (k z : Nat) (lv : List (Nat × Value)), k ≤ 672103 → z ≤ 7079794 → V p l e room_1 s m #[Value.ref b] below meth c P D Q 9 97 False f k z 1206 lv []) : ∀ (n : Nat) (N F T : Nat → Nat → Int32) (K : Nat → Int32) (A : Nat → Nat → Int32) (w : Int64) (cn B i k z : Nat), L < i + n → i ≤ L → Inv N F T K A cn B → B ≤ 5 * i → k ≤ 6 * i + 97 → z ≤ 36 * i + 1174 → V p l e room_1 s m #[Value.ref b] below meth c P D Q 9 97 False (cw P N F T K A w) k z 23 [(4, .int (nI i)), (3, .ref (rO P)), (2, .ref (rM P)), (1, .ref (rX P)), (0, .ref b)] []
  | 0, N, F, T, K, A, w, cn, B, i, k, z, h1, h2, _, _, _, _ => absurd h1 (by omega)
  | n + 1, N, F, T, K, A, w, cn, B, i, k, z, h1, h2, hI, hB, hk, hz => by
    refine v_iload C 0 dL_law_23 rfl ?_
    refine v_aload_n C 4 dL_law_25 rfl ?_
    refine v_slen C hX hbl hbP dL_law_26 ?_
    refine v_iconst (v := 4) C dL_law_27 rfl ?_
    refine v_isub C dL_law_28 ?_
    refine v_icmp_gt (tgt := 1206) C dL_law_29 (by decide) (fun _ => kend _ _ _ _ (by omega) (by omega)) (fun h9 => ?_)
    have hi4 : i + 4 ≤ L := Nat.not_lt.mp (fun q => h9 ((gt4 hL h2).mpr q))
    have KK : ∀ (N2 F2 T2 : Nat → Nat → Int32) (K2 : Nat → Int32) (A2 : Nat → Nat → Int32) (c2 : Nat) (w2 : Int64) (k2 z2 : Nat), Inv N2 F2 T2 K2 A2 c2 (B + 20) → k2 ≤ k + 24 → z2 ≤ z + 144 → V p l e room_1 s m #[Value.ref b] below meth c P D Q 9 97 False (cw P N2 F2 T2 K2 A2 w2) k2 z2 1200 [(4, .int (nI i)), (3, .ref (rO P)), (2, .ref (rM P)), (1, .ref (rX P)), (0, .ref b)] [] := by
      intro N2 F2 T2 K2 A2 c2 w2 k2 z2 hI2 hk2 hz2
      refine v_iinc (b := nI (i + 4)) (lv' := [(4, .int (nI (i + 4))), (3, .ref (rO P)), (2, .ref (rM P)), (1, .ref (rX P)), (0, .ref b)]) C 0 dL_law_1200 rfl (ixA rfl rfl) (by decide) rfl ?_
      refine v_goto (tgt := 23) C dL_law_1203 (by decide) ?_
      exact law_loop C hX hbl hbP hL hl9 kend n N2 F2 T2 K2 A2 w2 c2 (B + 20) (i + 4) k2 z2 (by omega) hi4 hI2 (by omega) (by omega) (by omega)
    refine v_aload_n C 4 dL_law_32 rfl ?_
    refine v_iload C 0 dL_law_33 rfl ?_
    refine v_sld (t := i) C hX hbl hbP rfl (by omega) hL dL_law_35 ?_
    refine v_bipush (v := 31) C dL_law_36 rfl ?_
    refine v_iand C dL_law_38 ?_
    obtain ⟨q, hq, eq⟩ := and31 (xs i)
    rw [eq]
    by_cases h18 : q < 18
    · clear eq hq
      match q, h18 with
      | 0, _ =>
        refine v_tableIn (tgt := 124) C dL_law_39 (by decide) (by decide) rfl (by decide) ?_
        exact b_nailer C hX hbl hbP hL hi4 hl9 hI (by omega) (by omega) (by omega) (fun _ _ _ _ _ _ _ _ _ a1 a2 a3 => KK _ _ _ _ _ _ _ _ _ a1 (by omega) (by omega))
      | 1, _ =>
        refine v_tableIn (tgt := 204) C dL_law_39 (by decide) (by decide) rfl (by decide) ?_
        exact b_lend C hX hbl hbP hL hi4 hl9 hI (by omega) (by omega) (by omega) (fun _ _ _ _ _ _ _ _ _ a1 a2 a3 => KK _ _ _ _ _ _ _ _ _ a1 (by omega) (by omega))
      | 2, _ =>
        refine v_tableIn (tgt := 272) C dL_law_39 (by decide) (by decide) rfl (by decide) ?_
        exact b_coal C hX hbl hbP hL hi4 hl9 hI (by omega) (by omega) (by omega) (fun _ _ _ _ _ _ _ _ _ a1 a2 a3 => KK _ _ _ _ _ _ _ _ _ a1 (by omega) (by omega))
      | 3, _ =>
        refine v_tableIn (tgt := 340) C dL_law_39 (by decide) (by decide) rfl (by decide) ?_
        exact b_make C hX hbl hbP hL hi4 hl9 hI (by omega) (by omega) (by omega) (fun _ _ _ _ _ _ _ _ _ a1 a2 a3 => KK _ _ _ _ _ _ _ _ _ a1 (by omega) (by omega))
      | 4, _ =>
        refine v_tableIn (tgt := 408) C dL_law_39 (by decide) (by decide) rfl (by decide) ?_
        exact b_change C hX hbl hbP hL hi4 hl9 hI (by omega) (by omega) (by omega) (fun _ _ _ _ _ _ _ _ _ a1 a2 a3 => KK _ _ _ _ _ _ _ _ _ a1 (by omega) (by omega))
      | 5, _ =>
        refine v_tableIn (tgt := 476) C dL_law_39 (by decide) (by decide) rfl (by decide) ?_
        exact b_told C hX hbl hbP hL hi4 hl9 hI (by omega) (by omega) (by omega) (fun _ _ _ _ _ _ _ _ _ a1 a2 a3 => KK _ _ _ _ _ _ _ _ _ a1 (by omega) (by omega))
      | 6, _ =>
        refine v_tableIn (tgt := 544) C dL_law_39 (by decide) (by decide) rfl (by decide) ?_
        exact b_nails C hX hbl hbP hL hi4 hl9 hI (by omega) (by omega) (by omega) (fun _ _ _ _ _ _ _ _ _ a1 a2 a3 => KK _ _ _ _ _ _ _ _ _ a1 (by omega) (by omega))
      | 7, _ =>
        refine v_tableIn (tgt := 624) C dL_law_39 (by decide) (by decide) rfl (by decide) ?_
        exact b_keep C hX hbl hbP hL hi4 hl9 hI (by omega) (by omega) (by omega) (fun _ _ _ _ _ _ _ _ _ a1 a2 a3 => KK _ _ _ _ _ _ _ _ _ a1 (by omega) (by omega))
      | 8, _ =>
        refine v_tableIn (tgt := 692) C dL_law_39 (by decide) (by decide) rfl (by decide) ?_
        exact b_fogger C hX hbl hbP hL hi4 hl9 hI (by omega) (by omega) (by omega) (fun _ _ _ _ _ _ _ _ _ a1 a2 a3 => KK _ _ _ _ _ _ _ _ _ a1 (by omega) (by omega))
      | 9, _ =>
        refine v_tableIn (tgt := 760) C dL_law_39 (by decide) (by decide) rfl (by decide) ?_
        exact b_count C hX hbl hbP hL hi4 hl9 hI (by omega) (by omega) (by omega) (fun _ _ _ _ _ _ _ _ _ a1 a2 a3 => KK _ _ _ _ _ _ _ _ _ a1 (by omega) (by omega))
      | 10, _ =>
        refine v_tableIn (tgt := 816) C dL_law_39 (by decide) (by decide) rfl (by decide) ?_
        exact b_pass C hX hbl hbP hL hi4 hl9 hI (by omega) (by omega) (by omega) (fun _ _ _ _ _ _ _ _ _ a1 a2 a3 => KK _ _ _ _ _ _ _ _ _ a1 (by omega) (by omega))
      | 11, _ =>
        refine v_tableIn (tgt := 872) C dL_law_39 (by decide) (by decide) rfl (by decide) ?_
        exact b_rate C hX hbl hbP hL hi4 hl9 hI (by omega) (by omega) (by omega) (fun _ _ _ _ _ _ _ _ _ a1 a2 a3 => KK _ _ _ _ _ _ _ _ _ a1 (by omega) (by omega))
      | 12, _ =>
        refine v_tableIn (tgt := 928) C dL_law_39 (by decide) (by decide) rfl (by decide) ?_
        exact b_when C hX hbl hbP hL hi4 hl9 hI (by omega) (by omega) (by omega) (fun _ _ _ _ _ _ _ _ _ a1 a2 a3 => KK _ _ _ _ _ _ _ _ _ a1 (by omega) (by omega))
      | 13, _ =>
        refine v_tableIn (tgt := 996) C dL_law_39 (by decide) (by decide) rfl (by decide) ?_
        exact b_foresee C hX hbl hbP hL hi4 hl9 hI (by omega) (by omega) (by omega) (fun _ _ _ _ _ _ _ _ _ a1 a2 a3 => KK _ _ _ _ _ _ _ _ _ a1 (by omega) (by omega))
      | 14, _ =>
        refine v_tableIn (tgt := 1064) C dL_law_39 (by decide) (by decide) rfl (by decide) ?_
        exact b_advise C hX hbl hbP hL hi4 hl9 hI (by omega) (by omega) (by omega) (fun _ _ _ _ _ _ _ _ _ a1 a2 a3 => KK _ _ _ _ _ _ _ _ _ a1 (by omega) (by omega))
      | 15, _ =>
        refine v_tableIn (tgt := 1132) C dL_law_39 (by decide) (by decide) rfl (by decide) ?_
        exact b_richest C hX hbl hbP hL hi4 hl9 hI (by omega) (by omega) (by omega) (fun _ _ _ _ _ _ _ _ _ a1 a2 a3 => KK _ _ _ _ _ _ _ _ _ a1 (by omega) (by omega))
      | 16, _ =>
        refine v_tableIn (tgt := 1145) C dL_law_39 (by decide) (by decide) rfl (by decide) ?_
        exact b_mean C hX hbl hbP hL hi4 hl9 hI (by omega) (by omega) (by omega) (fun _ _ _ _ _ _ _ _ _ a1 a2 a3 => KK _ _ _ _ _ _ _ _ _ a1 (by omega) (by omega))
      | 17, _ =>
        refine v_tableIn (tgt := 1186) C dL_law_39 (by decide) (by decide) rfl (by decide) ?_
        exact b_digest C hX hbl hbP hL hi4 hl9 hI (by omega) (by omega) (by omega) (fun _ _ _ _ _ _ _ _ _ a1 a2 a3 => KK _ _ _ _ _ _ _ _ _ a1 (by omega) (by omega))
      | q + 18, h18 => exact absurd h18 (by omega)
    · refine v_tableOut (tgt := 1200) C dL_law_39 (Or.inr (by rw [nI_toInt (by omega)]; omega)) (by decide) ?_
      exact KK _ _ _ _ _ _ _ _ _ (Inv_up hI (by omega)) (by omega) (by omega)
