/-! MEAN, FOGGER, DIGEST -/
def meanM (A : Nat → Nat → Int32) (c : Nat) (m : Int32) : UInt64 := if m = 0 then FP.dconst0 else FP.ddiv (FP.i2d (suM (c + 1) 0 5 c 0 A 0)) (FP.i2d m)
def diM : Nat → Nat → Nat → (Nat → Nat → Int32) → Int64 → Int64
  | 0, _, _, _, d => d
  | n + 1, c, i, A, d => if c ≤ i then d else diM n c (i + 1) A (addD (rowO (A 0) (20 * i)) d)
def digM (K : Nat → Int32) (A : Nat → Nat → Int32) (c : Nat) : Int64 := dgs [ftM A c 0 0, ftM A c 0 1, ftM A c 0 2, ftM A c 0 3, ftM A c 0 4, ftM A c 0 5, ftM A c 1 0, ftM A c 1 1, ftM A c 1 2, ftM A c 1 3, ftM A c 1 4, ftM A c 1 5, ftM A c 2 0, ftM A c 2 1, ftM A c 2 2, ftM A c 2 3, ftM A c 2 4, ftM A c 2 5, ftM A c 3 0, ftM A c 3 1, ftM A c 3 2, ftM A c 3 3, ftM A c 3 4, ftM A c 3 5] (diM (c + 1) c 0 A (dgs [cdM K A c 0, cdM K A c 1, cdM K A c 2, cdM K A c 3, cdM K A c 4, cdM K A c 5, cdM K A c 6, cdM K A c 7, cdM K A c 8, cdM K A c 9, cdM K A c 10] 1259))
set_option maxHeartbeats 4000000 in
set_option maxRecDepth 100000 in
theorem c_X3_mean {l : Launch} {P : L5} {D : va_G} {N F T : Nat → Nat → Int32} {K : Nat → Int32} {A : Nat → Nat → Int32} {w : Int64} {c : Nat} (hc : T 0 1 = nI c) (h12 : c ≤ 12) : CtD l yX3_mean cX3_mean 3 6 0 0 P D 97 97 False (cw P N F T K A w) (cw P N F T K A w) [.ref (rX P)] (meanC N c (T 0 1)) := by
  refine mk_Met pl_X3 [(0, .ref (rX P))] rfl (Nat.le_of_ble_eq_true rfl) ?_
  intro pg en sg mg ag bg mt cd C
  refine v_aload_n C 0 dX3_mean_0 rfl ?_
  refine v_gX C 0 (by decide) k_142 rfl dX3_mean_1 ?_
  refine v_gTuN C (by decide) 1 (by decide) (List.mem_of_getElem? (i := 19) rfl) rfl dX3_mean_4 ?_
  refine v_if_ne (tgt := 12) C dX3_mean_7 (by decide) (fun h7_1 => ?_) (fun h7_1 => ?_)
  · refine v_iconst (v := 0) C dX3_mean_12 rfl ?_
    refine v_istore_n (lv' := [(1, .int 0), (0, .ref (rX P))]) C dX3_mean_13 rfl (by decide) rfl ?_
    refine v_iconst (v := 0) C dX3_mean_14 rfl ?_
    refine v_istore_n (lv' := [(2, .int 0), (1, .int 0), (0, .ref (rX P))]) C dX3_mean_15 rfl (by decide) rfl ?_
    have L_1 : ∀ (n : Nat) (i : Nat) (sm : Int32), i ≤ c → c < i + n → V pg l en (rmO 6 0 0) sg mg ag bg mt cd P D (MQ bg (QcD P D 97 False (cw P N F T K A w) (meanC N c (T 0 1))) ag sg 0 0 (aO P)) 3 97 False (cw P N F T K A w) 0 0 48 [(1, .int (heaS n c (12 * 0) i N sm)), (0, .ref (rX P))] [] → V pg l en (rmO 6 0 0) sg mg ag bg mt cd P D (MQ bg (QcD P D 97 False (cw P N F T K A w) (meanC N c (T 0 1))) ag sg 0 0 (aO P)) 3 97 False (cw P N F T K A w) 0 0 16 [(2, .int (nI i)), (1, .int sm), (0, .ref (rX P))] [] := by
      intro n
      induction n with
      | zero => intro i sm z1 z2; omega
      | succ n ih =>
        intro i sm z1 z2 hk9
        refine v_iload_n C 0 dX3_mean_16 rfl ?_
        refine v_aload_n C 2 dX3_mean_17 rfl ?_
        refine v_gX C 0 (by decide) k_142 rfl dX3_mean_18 ?_
        refine v_gTuN C (by decide) 1 (by decide) (List.mem_of_getElem? (i := 19) rfl) rfl dX3_mean_21 ?_
        refine v_icmp_ge (tgt := 48) C dX3_mean_24 (by decide) (fun h24_1 => ?_) (fun h24_1 => ?_)
        · refine v_lv [1, 2] rfl ?_
          have hic : c ≤ i := (leC hc h12 z1).mp h24_1
          have e9 : heaS (n + 1) c (12 * 0) i N sm = sm := by rw [heaS, if_pos hic]
          rw [e9] at hk9
          exact hk9
        · have hic : i < c := Nat.not_le.mp (fun z => h24_1 ((leC hc h12 z1).mpr z))
          refine v_iload_n C 1 dX3_mean_27 rfl ?_
          refine v_aload_n C 2 dX3_mean_28 rfl ?_
          refine v_gX C 0 (by decide) k_142 rfl dX3_mean_29 ?_
          refine v_gTuN C (by decide) 2 (by decide) (List.mem_of_getElem? (i := 20) rfl) rfl dX3_mean_32 ?_
          refine v_iload_n C 0 dX3_mean_35 rfl ?_
          refine v_aaNk C i (by decide) (nI_clamp (by omega)) (vp_in_nI (by omega) (by omega)) dX3_mean_36 ?_
          refine v_gNuN C (by omega) 5 (by decide) (List.mem_of_getElem? (i := 4) rfl) rfl dX3_mean_37 ?_
          refine v_iadd C dX3_mean_40 ?_
          refine v_top (fun x_1 ex_1 => ?_)
          refine v_istore_n (lv' := [(1, .int x_1), (2, .int (nI i)), (0, .ref (rX P))]) C dX3_mean_41 rfl (by decide) rfl ?_
          refine v_iinc (b := (nI (i + 1))) (lv' := [(2, .int (nI (i + 1))), (1, .int x_1), (0, .ref (rX P))]) C 1 dX3_mean_42 rfl (nI_1 _) (by decide) rfl ?_
          refine v_goto (tgt := 16) C dX3_mean_45 (by decide) ?_
          have e9 : heaS (n + 1) c (12 * 0) i N sm = heaS n c (12 * 0) (i + 1) N (sm + N (12 * 0 + i) 5) := by rw [heaS, if_neg (by omega)]
          rw [e9] at hk9
          subst ex_1
          exact ih _ _ (by omega) (by omega) hk9
    refine L_1 (c + 1) 0 0 (by omega) (by omega) ?_
    refine v_iload_n C 0 dX3_mean_48 rfl ?_
    refine v_i2d C dX3_mean_49 ?_
    refine v_aload_n C 1 dX3_mean_50 rfl ?_
    refine v_gX C 0 (by decide) k_142 rfl dX3_mean_51 ?_
    refine v_gTuN C (by decide) 1 (by decide) (List.mem_of_getElem? (i := 19) rfl) rfl dX3_mean_54 ?_
    refine v_i2d C dX3_mean_57 ?_
    refine v_ddiv C (vf_of_notNaN (mean_ok (by exact h7_1))) dX3_mean_58 ?_
    exact v_dret C dX3_mean_59 rfl (by rw [meanC, if_neg (by exact h7_1)])
  · refine v_dconst0 C dX3_mean_10 ?_
    exact v_dret C dX3_mean_11 rfl (by rw [meanC, if_pos (by exact h7_1)])
set_option maxHeartbeats 4000000 in
set_option maxRecDepth 100000 in
theorem c_X4_mean {l : Launch} {P : L5} {D : va_G} {N F T : Nat → Nat → Int32} {K : Nat → Int32} {A : Nat → Nat → Int32} {w : Int64} {c : Nat} (hc : K 2 = nI c) (h12 : c ≤ 12) : CtD l yX4_mean cX4_mean 1 5 0 0 P D 97 97 False (cw P N F T K A w) (cw P N F T (upd K 0 0) A w) [.ref (rM P)] (meanM A c (K 2)) := by
  refine mk_Met pl_X4 [(0, .ref (rM P))] rfl (Nat.le_of_ble_eq_true rfl) ?_
  intro pg en sg mg ag bg mt cd C
  refine v_aload_n C 0 dX4_mean_0 rfl ?_
  refine v_iconst (v := 0) C dX4_mean_1 rfl ?_
  refine v_pM C 0 (by decide) k_513 dX4_mean_2 ?_
  refine v_aload_n C 0 dX4_mean_5 rfl ?_
  refine v_gM C 2 (by decide) k_515 rfl dX4_mean_6 ?_
  refine v_if_ne (tgt := 16) C dX4_mean_9 (by decide) (fun h9_1 => ?_) (fun h9_1 => ?_)
  · refine v_aload_n C 0 dX4_mean_16 rfl ?_
    refine v_aload_n C 0 dX4_mean_17 rfl ?_
    refine v_gM C 3 (by decide) k_516 rfl dX4_mean_18 ?_
    refine v_iconst (v := 5) C dX4_mean_21 rfl ?_
    refine go_I (run_V C (c_X4_sum (K := (upd K 0 0)) hc h12 (b := 0) (by decide) rfl (t := 5) (by omega)) k_619 k_5 k_616 k_618 ks_34 dd_X4_sum ⟨Nat.le_of_ble_eq_true rfl, Nat.le_of_ble_eq_true rfl⟩ rcM rfl (Nat.le_of_ble_eq_true rfl) dX4_mean_22 ⟨Nat.le_of_ble_eq_true rfl, Nat.le_of_ble_eq_true rfl⟩) ?_
    refine v_i2d C dX4_mean_25 ?_
    refine v_aload_n C 0 dX4_mean_26 rfl ?_
    refine v_gM C 2 (by decide) k_515 rfl dX4_mean_27 ?_
    refine v_i2d C dX4_mean_30 ?_
    refine v_ddiv C (vf_of_notNaN (mean_ok (by exact h9_1))) dX4_mean_31 ?_
    exact v_dret C dX4_mean_32 rfl (by rw [meanM, if_neg (by exact h9_1)]; rfl)
  · refine v_dconst0 C dX4_mean_12 ?_
    refine v_goto (tgt := 32) C dX4_mean_13 (by decide) ?_
    exact v_dret C dX4_mean_32 rfl (by rw [meanM, if_pos (by exact h9_1)])
set_option maxHeartbeats 4000000 in
theorem c_X4_nailersOf {l : Launch} {P : L5} {D : va_G} {N F T : Nat → Nat → Int32} {K : Nat → Int32} {A : Nat → Nat → Int32} {w : Int64} {c : Nat} (hc : K 2 = nI c) (h12 : c ≤ 12) {q : Int32} : CtN l yX4_nailersOf cX4_nailersOf 4 1 P D (cw P N F T K A w) [.ref (rM P), .int q] (wkM (c + 1) q c 0 A 0) := by
  refine mk_MetN pl_X4 [(0, .ref (rM P)), (1, .int q)] rfl (Nat.le_of_ble_eq_true rfl) ?_
  intro pg en sg mg ag bg mt cd C
  refine y_iconst (v := 0) C dX4_nailersOf_0 rfl ?_
  refine y_istore_n (lv' := [(2, .int 0), (0, .ref (rM P)), (1, .int q)]) C dX4_nailersOf_1 rfl (by decide) rfl ?_
  refine y_iconst (v := 0) C dX4_nailersOf_2 rfl ?_
  refine y_istore_n (lv' := [(3, .int 0), (2, .int 0), (0, .ref (rM P)), (1, .int q)]) C dX4_nailersOf_3 rfl (by decide) rfl ?_
  have L_1 : ∀ (n : Nat) (i : Nat) (sm : Int32), i ≤ c → c < i + n → V2 pg l en (rmO 1 0 0) sg mg ag bg mt cd P D (MQ bg (QcN (wkM (c + 1) q c 0 A 0)) ag sg 0 0 (fun _ => False)) 4 (fun _ => False) (cw P N F T K A w) [] 0 0 41 [(2, .int (wkM n q c i A sm))] [] → V2 pg l en (rmO 1 0 0) sg mg ag bg mt cd P D (MQ bg (QcN (wkM (c + 1) q c 0 A 0)) ag sg 0 0 (fun _ => False)) 4 (fun _ => False) (cw P N F T K A w) [] 0 0 4 [(3, .int (nI i)), (2, .int sm), (0, .ref (rM P)), (1, .int q)] [] := by
    intro n
    induction n with
    | zero => intro i sm z1 z2; omega
    | succ n ih =>
      intro i sm z1 z2 hk9
      refine y_iload_n C 0 dX4_nailersOf_4 rfl ?_
      refine y_aload_n C 2 dX4_nailersOf_5 rfl ?_
      refine y_gM C 2 (by decide) k_515 rfl dX4_nailersOf_6 ?_
      refine y_icmp_ge (tgt := 41) C dX4_nailersOf_9 (by decide) (fun h9_1 => ?_) (fun h9_1 => ?_)
      · refine y_lv [1] rfl ?_
        have hic : c ≤ i := (leC hc h12 z1).mp h9_1
        have e9 : wkM (n + 1) q c i A sm = sm := by rw [wkM, if_pos hic]
        rw [e9] at hk9
        exact hk9
      · have hic : i < c := Nat.not_le.mp (fun z => h9_1 ((leC hc h12 z1).mpr z))
        refine y_iload_n C 1 dX4_nailersOf_12 rfl ?_
        refine y_aload_n C 2 dX4_nailersOf_13 rfl ?_
        refine y_gM C 3 (by decide) k_516 rfl dX4_nailersOf_14 ?_
        refine y_bipush (v := 20) C dX4_nailersOf_17 rfl ?_
        refine y_iload_n C 0 dX4_nailersOf_19 rfl ?_
        refine y_imul C dX4_nailersOf_20 ?_
        refine y_iconst (v := 2) C dX4_nailersOf_21 rfl ?_
        refine y_iadd C dX4_nailersOf_22 ?_
        refine y_ldAk C ((20 * i) + 2) (by decide) (ixA (ixM rfl rfl) rfl) (show _ < 240 by omega) rfl dX4_nailersOf_23 ?_
        refine y_iload_n C 3 dX4_nailersOf_24 rfl ?_
        refine y_icmp_ne (tgt := 32) C dX4_nailersOf_25 (by decide) (fun h25_1 => ?_) (fun h25_1 => ?_)
        · refine y_iconst (v := 0) C dX4_nailersOf_32 rfl ?_
          refine y_iadd C dX4_nailersOf_33 ?_
          refine y_top (fun x_1 ex_1 => ?_)
          refine y_istore_n (lv' := [(2, .int x_1), (3, .int (nI i)), (0, .ref (rM P)), (1, .int q)]) C dX4_nailersOf_34 rfl (by decide) rfl ?_
          refine y_iinc (b := (nI (i + 1))) (lv' := [(3, .int (nI (i + 1))), (2, .int x_1), (0, .ref (rM P)), (1, .int q)]) C 1 dX4_nailersOf_35 rfl (nI_1 _) (by decide) rfl ?_
          refine y_goto (tgt := 4) C dX4_nailersOf_38 (by decide) ?_
          have e9 : wkM (n + 1) q c i A sm = wkM n q c (i + 1) A (sm + 0) := by rw [wkM, if_neg (by omega), if_neg (by exact h25_1)]
          rw [e9] at hk9
          subst ex_1
          exact ih _ _ (by omega) (by omega) hk9
        · refine y_iconst (v := 1) C dX4_nailersOf_28 rfl ?_
          refine y_goto (tgt := 33) C dX4_nailersOf_29 (by decide) ?_
          refine y_iadd C dX4_nailersOf_33 ?_
          refine y_top (fun x_2 ex_2 => ?_)
          refine y_istore_n (lv' := [(2, .int x_2), (3, .int (nI i)), (0, .ref (rM P)), (1, .int q)]) C dX4_nailersOf_34 rfl (by decide) rfl ?_
          refine y_iinc (b := (nI (i + 1))) (lv' := [(3, .int (nI (i + 1))), (2, .int x_2), (0, .ref (rM P)), (1, .int q)]) C 1 dX4_nailersOf_35 rfl (nI_1 _) (by decide) rfl ?_
          refine y_goto (tgt := 4) C dX4_nailersOf_38 (by decide) ?_
          have e9 : wkM (n + 1) q c i A sm = wkM n q c (i + 1) A (sm + 1) := by rw [wkM, if_neg (by omega), if_pos (by exact h25_1)]
          rw [e9] at hk9
          subst ex_2
          exact ih _ _ (by omega) (by omega) hk9
  refine L_1 (c + 1) 0 0 (by omega) (by omega) ?_
  refine y_iload_n C 0 dX4_nailersOf_41 rfl ?_
  exact y_iretN C dX4_nailersOf_42 rfl
set_option maxHeartbeats 4000000 in
set_option maxRecDepth 100000 in
theorem c_X4_foggerTold_0 {l : Launch} {P : L5} {D : va_G} {N F T : Nat → Nat → Int32} {K : Nat → Int32} {A : Nat → Nat → Int32} {w : Int64} {c : Nat} (hc : K 2 = nI c) (h12 : c ≤ 12) {i : Nat} (hi : i < 4) : CtI l yX4_foggerTold cX4_foggerTold 5 .int 2 1 6 P D 97 97 False (cw P N F T K A w) (cw P N F T K A w) [.ref (rM P), .int (nI i), .int 0] (ftM A c i 0) := by
  refine mk_Met pl_X4 [(0, .ref (rM P)), (1, .int (nI i)), (2, .int 0)] rfl (Nat.le_of_ble_eq_true rfl) ?_
  intro pg en sg mg ag bg mt cd C
  refine v_iconst (v := 5) C dX4_foggerTold_0 rfl ?_
  refine v_iload_n C 1 dX4_foggerTold_1 rfl ?_
  refine v_imul C dX4_foggerTold_2 ?_
  refine v_topE (ixM rfl rfl) ?_
  refine v_istore_n (lv' := [(3, .int (nI (5 * i))), (0, .ref (rM P)), (1, .int (nI i)), (2, .int 0)]) C dX4_foggerTold_3 rfl (by decide) rfl ?_
  refine v_bipush (v := 6) C dX4_foggerTold_4 rfl ?_
  refine v_newT C k_91 dX4_foggerTold_6 (Nat.le_of_ble_eq_true rfl) (Nat.le_of_ble_eq_true rfl) (fun q9 cA hK2 hD2 => ?_)
  refine y_dup C dX4_foggerTold_8 rfl ?_
  refine y_iconst (v := 0) C dX4_foggerTold_9 rfl ?_
  refine y_aload_n C 1 dX4_foggerTold_10 rfl ?_
  refine y_gM C 4 (by decide) k_517 rfl dX4_foggerTold_11 ?_
  refine y_iload_n C 0 dX4_foggerTold_14 rfl ?_
  refine y_iconst (v := 0) C dX4_foggerTold_15 rfl ?_
  refine y_iadd C dX4_foggerTold_16 ?_
  refine y_ldAk C ((5 * i) + 0) (by decide) (ixA rfl rfl) (show _ < 20 by omega) rfl dX4_foggerTold_17 ?_
  refine y_stT C hK2 hD2 0 rfl (by decide) dX4_foggerTold_18 ?_
  refine y_dup C dX4_foggerTold_19 rfl ?_
  refine y_iconst (v := 1) C dX4_foggerTold_20 rfl ?_
  refine y_aload_n C 1 dX4_foggerTold_21 rfl ?_
  refine y_gM C 4 (by decide) k_517 rfl dX4_foggerTold_22 ?_
  refine y_iload_n C 0 dX4_foggerTold_25 rfl ?_
  refine y_iconst (v := 1) C dX4_foggerTold_26 rfl ?_
  refine y_iadd C dX4_foggerTold_27 ?_
  refine y_ldAk C ((5 * i) + 1) (by decide) (ixA rfl rfl) (show _ < 20 by omega) rfl dX4_foggerTold_28 ?_
  refine y_stT C hK2 hD2 1 rfl (by decide) dX4_foggerTold_29 ?_
  refine y_dup C dX4_foggerTold_30 rfl ?_
  refine y_iconst (v := 2) C dX4_foggerTold_31 rfl ?_
  refine y_aload_n C 1 dX4_foggerTold_32 rfl ?_
  refine y_iload_n C 2 dX4_foggerTold_33 rfl ?_
  refine y_callN C (c_X4_nailersOf hc h12) k_599 k_5 k_596 k_598 ks_30 dd_X4_nailersOf ⟨Nat.le_of_ble_eq_true rfl, Nat.le_of_ble_eq_true rfl⟩ rfl (Nat.le_of_ble_eq_true rfl) dX4_foggerTold_34 ⟨Nat.le_of_ble_eq_true rfl, Nat.le_of_ble_eq_true rfl⟩ ?_
  refine y_stT C hK2 hD2 2 rfl (by decide) dX4_foggerTold_37 ?_
  refine y_dup C dX4_foggerTold_38 rfl ?_
  refine y_iconst (v := 3) C dX4_foggerTold_39 rfl ?_
  refine y_aload_n C 1 dX4_foggerTold_40 rfl ?_
  refine y_gM C 4 (by decide) k_517 rfl dX4_foggerTold_41 ?_
  refine y_iload_n C 0 dX4_foggerTold_44 rfl ?_
  refine y_iconst (v := 2) C dX4_foggerTold_45 rfl ?_
  refine y_iadd C dX4_foggerTold_46 ?_
  refine y_ldAk C ((5 * i) + 2) (by decide) (ixA rfl rfl) (show _ < 20 by omega) rfl dX4_foggerTold_47 ?_
  refine y_stT C hK2 hD2 3 rfl (by decide) dX4_foggerTold_48 ?_
  refine y_dup C dX4_foggerTold_49 rfl ?_
  refine y_iconst (v := 4) C dX4_foggerTold_50 rfl ?_
  refine y_aload_n C 1 dX4_foggerTold_51 rfl ?_
  refine y_gM C 4 (by decide) k_517 rfl dX4_foggerTold_52 ?_
  refine y_iload_n C 0 dX4_foggerTold_55 rfl ?_
  refine y_iconst (v := 3) C dX4_foggerTold_56 rfl ?_
  refine y_iadd C dX4_foggerTold_57 ?_
  refine y_ldAk C ((5 * i) + 3) (by decide) (ixA rfl rfl) (show _ < 20 by omega) rfl dX4_foggerTold_58 ?_
  refine y_stT C hK2 hD2 4 rfl (by decide) dX4_foggerTold_59 ?_
  refine y_dup C dX4_foggerTold_60 rfl ?_
  refine y_iconst (v := 5) C dX4_foggerTold_61 rfl ?_
  refine y_aload_n C 1 dX4_foggerTold_62 rfl ?_
  refine y_gM C 4 (by decide) k_517 rfl dX4_foggerTold_63 ?_
  refine y_iload_n C 0 dX4_foggerTold_66 rfl ?_
  refine y_iconst (v := 4) C dX4_foggerTold_67 rfl ?_
  refine y_iadd C dX4_foggerTold_68 ?_
  refine y_ldAk C ((5 * i) + 4) (by decide) (ixA rfl rfl) (show _ < 20 by omega) rfl dX4_foggerTold_69 ?_
  refine y_aload_n C 1 dX4_foggerTold_70 rfl ?_
  refine y_gM C 4 (by decide) k_517 rfl dX4_foggerTold_71 ?_
  refine y_iload_n C 0 dX4_foggerTold_74 rfl ?_
  refine y_iconst (v := 3) C dX4_foggerTold_75 rfl ?_
  refine y_iadd C dX4_foggerTold_76 ?_
  refine y_ldAk C ((5 * i) + 3) (by decide) (ixA rfl rfl) (show _ < 20 by omega) rfl dX4_foggerTold_77 ?_
  refine y_isub C dX4_foggerTold_78 ?_
  refine y_stT C hK2 hD2 5 rfl (by decide) dX4_foggerTold_79 ?_
  refine y_astore (lv' := [(4, .ref q9), (3, .int (nI (5 * i))), (0, .ref (rM P)), (1, .int (nI i)), (2, .int 0)]) C dX4_foggerTold_80 (by decide) rfl ?_
  refine y_aload C 0 dX4_foggerTold_82 rfl ?_
  refine y_iload_n C 4 dX4_foggerTold_84 rfl ?_
  refine y_ldT C hK2 0 rfl (by decide) rfl dX4_foggerTold_85 ?_
  exact y_iretT C dX4_foggerTold_86 rfl rfl
set_option maxHeartbeats 4000000 in
set_option maxRecDepth 100000 in
theorem c_X4_foggerTold_1 {l : Launch} {P : L5} {D : va_G} {N F T : Nat → Nat → Int32} {K : Nat → Int32} {A : Nat → Nat → Int32} {w : Int64} {c : Nat} (hc : K 2 = nI c) (h12 : c ≤ 12) {i : Nat} (hi : i < 4) : CtI l yX4_foggerTold cX4_foggerTold 5 .int 2 1 6 P D 97 97 False (cw P N F T K A w) (cw P N F T K A w) [.ref (rM P), .int (nI i), .int 1] (ftM A c i 1) := by
  refine mk_Met pl_X4 [(0, .ref (rM P)), (1, .int (nI i)), (2, .int 1)] rfl (Nat.le_of_ble_eq_true rfl) ?_
  intro pg en sg mg ag bg mt cd C
  refine v_iconst (v := 5) C dX4_foggerTold_0 rfl ?_
  refine v_iload_n C 1 dX4_foggerTold_1 rfl ?_
  refine v_imul C dX4_foggerTold_2 ?_
  refine v_topE (ixM rfl rfl) ?_
  refine v_istore_n (lv' := [(3, .int (nI (5 * i))), (0, .ref (rM P)), (1, .int (nI i)), (2, .int 1)]) C dX4_foggerTold_3 rfl (by decide) rfl ?_
  refine v_bipush (v := 6) C dX4_foggerTold_4 rfl ?_
  refine v_newT C k_91 dX4_foggerTold_6 (Nat.le_of_ble_eq_true rfl) (Nat.le_of_ble_eq_true rfl) (fun q9 cA hK2 hD2 => ?_)
  refine y_dup C dX4_foggerTold_8 rfl ?_
  refine y_iconst (v := 0) C dX4_foggerTold_9 rfl ?_
  refine y_aload_n C 1 dX4_foggerTold_10 rfl ?_
  refine y_gM C 4 (by decide) k_517 rfl dX4_foggerTold_11 ?_
  refine y_iload_n C 0 dX4_foggerTold_14 rfl ?_
  refine y_iconst (v := 0) C dX4_foggerTold_15 rfl ?_
  refine y_iadd C dX4_foggerTold_16 ?_
  refine y_ldAk C ((5 * i) + 0) (by decide) (ixA rfl rfl) (show _ < 20 by omega) rfl dX4_foggerTold_17 ?_
  refine y_stT C hK2 hD2 0 rfl (by decide) dX4_foggerTold_18 ?_
  refine y_dup C dX4_foggerTold_19 rfl ?_
  refine y_iconst (v := 1) C dX4_foggerTold_20 rfl ?_
  refine y_aload_n C 1 dX4_foggerTold_21 rfl ?_
  refine y_gM C 4 (by decide) k_517 rfl dX4_foggerTold_22 ?_
  refine y_iload_n C 0 dX4_foggerTold_25 rfl ?_
  refine y_iconst (v := 1) C dX4_foggerTold_26 rfl ?_
  refine y_iadd C dX4_foggerTold_27 ?_
  refine y_ldAk C ((5 * i) + 1) (by decide) (ixA rfl rfl) (show _ < 20 by omega) rfl dX4_foggerTold_28 ?_
  refine y_stT C hK2 hD2 1 rfl (by decide) dX4_foggerTold_29 ?_
  refine y_dup C dX4_foggerTold_30 rfl ?_
  refine y_iconst (v := 2) C dX4_foggerTold_31 rfl ?_
  refine y_aload_n C 1 dX4_foggerTold_32 rfl ?_
  refine y_iload_n C 2 dX4_foggerTold_33 rfl ?_
  refine y_callN C (c_X4_nailersOf hc h12) k_599 k_5 k_596 k_598 ks_30 dd_X4_nailersOf ⟨Nat.le_of_ble_eq_true rfl, Nat.le_of_ble_eq_true rfl⟩ rfl (Nat.le_of_ble_eq_true rfl) dX4_foggerTold_34 ⟨Nat.le_of_ble_eq_true rfl, Nat.le_of_ble_eq_true rfl⟩ ?_
  refine y_stT C hK2 hD2 2 rfl (by decide) dX4_foggerTold_37 ?_
  refine y_dup C dX4_foggerTold_38 rfl ?_
  refine y_iconst (v := 3) C dX4_foggerTold_39 rfl ?_
  refine y_aload_n C 1 dX4_foggerTold_40 rfl ?_
  refine y_gM C 4 (by decide) k_517 rfl dX4_foggerTold_41 ?_
  refine y_iload_n C 0 dX4_foggerTold_44 rfl ?_
  refine y_iconst (v := 2) C dX4_foggerTold_45 rfl ?_
  refine y_iadd C dX4_foggerTold_46 ?_
  refine y_ldAk C ((5 * i) + 2) (by decide) (ixA rfl rfl) (show _ < 20 by omega) rfl dX4_foggerTold_47 ?_
  refine y_stT C hK2 hD2 3 rfl (by decide) dX4_foggerTold_48 ?_
  refine y_dup C dX4_foggerTold_49 rfl ?_
  refine y_iconst (v := 4) C dX4_foggerTold_50 rfl ?_
  refine y_aload_n C 1 dX4_foggerTold_51 rfl ?_
  refine y_gM C 4 (by decide) k_517 rfl dX4_foggerTold_52 ?_
  refine y_iload_n C 0 dX4_foggerTold_55 rfl ?_
  refine y_iconst (v := 3) C dX4_foggerTold_56 rfl ?_
  refine y_iadd C dX4_foggerTold_57 ?_
  refine y_ldAk C ((5 * i) + 3) (by decide) (ixA rfl rfl) (show _ < 20 by omega) rfl dX4_foggerTold_58 ?_
  refine y_stT C hK2 hD2 4 rfl (by decide) dX4_foggerTold_59 ?_
  refine y_dup C dX4_foggerTold_60 rfl ?_
  refine y_iconst (v := 5) C dX4_foggerTold_61 rfl ?_
  refine y_aload_n C 1 dX4_foggerTold_62 rfl ?_
  refine y_gM C 4 (by decide) k_517 rfl dX4_foggerTold_63 ?_
  refine y_iload_n C 0 dX4_foggerTold_66 rfl ?_
  refine y_iconst (v := 4) C dX4_foggerTold_67 rfl ?_
  refine y_iadd C dX4_foggerTold_68 ?_
  refine y_ldAk C ((5 * i) + 4) (by decide) (ixA rfl rfl) (show _ < 20 by omega) rfl dX4_foggerTold_69 ?_
  refine y_aload_n C 1 dX4_foggerTold_70 rfl ?_
  refine y_gM C 4 (by decide) k_517 rfl dX4_foggerTold_71 ?_
  refine y_iload_n C 0 dX4_foggerTold_74 rfl ?_
  refine y_iconst (v := 3) C dX4_foggerTold_75 rfl ?_
  refine y_iadd C dX4_foggerTold_76 ?_
  refine y_ldAk C ((5 * i) + 3) (by decide) (ixA rfl rfl) (show _ < 20 by omega) rfl dX4_foggerTold_77 ?_
  refine y_isub C dX4_foggerTold_78 ?_
  refine y_stT C hK2 hD2 5 rfl (by decide) dX4_foggerTold_79 ?_
  refine y_astore (lv' := [(4, .ref q9), (3, .int (nI (5 * i))), (0, .ref (rM P)), (1, .int (nI i)), (2, .int 1)]) C dX4_foggerTold_80 (by decide) rfl ?_
  refine y_aload C 0 dX4_foggerTold_82 rfl ?_
  refine y_iload_n C 4 dX4_foggerTold_84 rfl ?_
  refine y_ldT C hK2 1 rfl (by decide) rfl dX4_foggerTold_85 ?_
  exact y_iretT C dX4_foggerTold_86 rfl rfl
set_option maxHeartbeats 4000000 in
set_option maxRecDepth 100000 in
theorem c_X4_foggerTold_2 {l : Launch} {P : L5} {D : va_G} {N F T : Nat → Nat → Int32} {K : Nat → Int32} {A : Nat → Nat → Int32} {w : Int64} {c : Nat} (hc : K 2 = nI c) (h12 : c ≤ 12) {i : Nat} (hi : i < 4) : CtI l yX4_foggerTold cX4_foggerTold 5 .int 2 1 6 P D 97 97 False (cw P N F T K A w) (cw P N F T K A w) [.ref (rM P), .int (nI i), .int 2] (ftM A c i 2) := by
  refine mk_Met pl_X4 [(0, .ref (rM P)), (1, .int (nI i)), (2, .int 2)] rfl (Nat.le_of_ble_eq_true rfl) ?_
  intro pg en sg mg ag bg mt cd C
  refine v_iconst (v := 5) C dX4_foggerTold_0 rfl ?_
  refine v_iload_n C 1 dX4_foggerTold_1 rfl ?_
  refine v_imul C dX4_foggerTold_2 ?_
  refine v_topE (ixM rfl rfl) ?_
  refine v_istore_n (lv' := [(3, .int (nI (5 * i))), (0, .ref (rM P)), (1, .int (nI i)), (2, .int 2)]) C dX4_foggerTold_3 rfl (by decide) rfl ?_
  refine v_bipush (v := 6) C dX4_foggerTold_4 rfl ?_
  refine v_newT C k_91 dX4_foggerTold_6 (Nat.le_of_ble_eq_true rfl) (Nat.le_of_ble_eq_true rfl) (fun q9 cA hK2 hD2 => ?_)
  refine y_dup C dX4_foggerTold_8 rfl ?_
  refine y_iconst (v := 0) C dX4_foggerTold_9 rfl ?_
  refine y_aload_n C 1 dX4_foggerTold_10 rfl ?_
  refine y_gM C 4 (by decide) k_517 rfl dX4_foggerTold_11 ?_
  refine y_iload_n C 0 dX4_foggerTold_14 rfl ?_
  refine y_iconst (v := 0) C dX4_foggerTold_15 rfl ?_
  refine y_iadd C dX4_foggerTold_16 ?_
  refine y_ldAk C ((5 * i) + 0) (by decide) (ixA rfl rfl) (show _ < 20 by omega) rfl dX4_foggerTold_17 ?_
  refine y_stT C hK2 hD2 0 rfl (by decide) dX4_foggerTold_18 ?_
  refine y_dup C dX4_foggerTold_19 rfl ?_
  refine y_iconst (v := 1) C dX4_foggerTold_20 rfl ?_
  refine y_aload_n C 1 dX4_foggerTold_21 rfl ?_
  refine y_gM C 4 (by decide) k_517 rfl dX4_foggerTold_22 ?_
  refine y_iload_n C 0 dX4_foggerTold_25 rfl ?_
  refine y_iconst (v := 1) C dX4_foggerTold_26 rfl ?_
  refine y_iadd C dX4_foggerTold_27 ?_
  refine y_ldAk C ((5 * i) + 1) (by decide) (ixA rfl rfl) (show _ < 20 by omega) rfl dX4_foggerTold_28 ?_
  refine y_stT C hK2 hD2 1 rfl (by decide) dX4_foggerTold_29 ?_
  refine y_dup C dX4_foggerTold_30 rfl ?_
  refine y_iconst (v := 2) C dX4_foggerTold_31 rfl ?_
  refine y_aload_n C 1 dX4_foggerTold_32 rfl ?_
  refine y_iload_n C 2 dX4_foggerTold_33 rfl ?_
  refine y_callN C (c_X4_nailersOf hc h12) k_599 k_5 k_596 k_598 ks_30 dd_X4_nailersOf ⟨Nat.le_of_ble_eq_true rfl, Nat.le_of_ble_eq_true rfl⟩ rfl (Nat.le_of_ble_eq_true rfl) dX4_foggerTold_34 ⟨Nat.le_of_ble_eq_true rfl, Nat.le_of_ble_eq_true rfl⟩ ?_
  refine y_stT C hK2 hD2 2 rfl (by decide) dX4_foggerTold_37 ?_
  refine y_dup C dX4_foggerTold_38 rfl ?_
  refine y_iconst (v := 3) C dX4_foggerTold_39 rfl ?_
  refine y_aload_n C 1 dX4_foggerTold_40 rfl ?_
  refine y_gM C 4 (by decide) k_517 rfl dX4_foggerTold_41 ?_
  refine y_iload_n C 0 dX4_foggerTold_44 rfl ?_
  refine y_iconst (v := 2) C dX4_foggerTold_45 rfl ?_
  refine y_iadd C dX4_foggerTold_46 ?_
  refine y_ldAk C ((5 * i) + 2) (by decide) (ixA rfl rfl) (show _ < 20 by omega) rfl dX4_foggerTold_47 ?_
  refine y_stT C hK2 hD2 3 rfl (by decide) dX4_foggerTold_48 ?_
  refine y_dup C dX4_foggerTold_49 rfl ?_
  refine y_iconst (v := 4) C dX4_foggerTold_50 rfl ?_
  refine y_aload_n C 1 dX4_foggerTold_51 rfl ?_
  refine y_gM C 4 (by decide) k_517 rfl dX4_foggerTold_52 ?_
  refine y_iload_n C 0 dX4_foggerTold_55 rfl ?_
  refine y_iconst (v := 3) C dX4_foggerTold_56 rfl ?_
  refine y_iadd C dX4_foggerTold_57 ?_
  refine y_ldAk C ((5 * i) + 3) (by decide) (ixA rfl rfl) (show _ < 20 by omega) rfl dX4_foggerTold_58 ?_
  refine y_stT C hK2 hD2 4 rfl (by decide) dX4_foggerTold_59 ?_
  refine y_dup C dX4_foggerTold_60 rfl ?_
  refine y_iconst (v := 5) C dX4_foggerTold_61 rfl ?_
  refine y_aload_n C 1 dX4_foggerTold_62 rfl ?_
  refine y_gM C 4 (by decide) k_517 rfl dX4_foggerTold_63 ?_
  refine y_iload_n C 0 dX4_foggerTold_66 rfl ?_
  refine y_iconst (v := 4) C dX4_foggerTold_67 rfl ?_
  refine y_iadd C dX4_foggerTold_68 ?_
  refine y_ldAk C ((5 * i) + 4) (by decide) (ixA rfl rfl) (show _ < 20 by omega) rfl dX4_foggerTold_69 ?_
  refine y_aload_n C 1 dX4_foggerTold_70 rfl ?_
  refine y_gM C 4 (by decide) k_517 rfl dX4_foggerTold_71 ?_
  refine y_iload_n C 0 dX4_foggerTold_74 rfl ?_
  refine y_iconst (v := 3) C dX4_foggerTold_75 rfl ?_
  refine y_iadd C dX4_foggerTold_76 ?_
  refine y_ldAk C ((5 * i) + 3) (by decide) (ixA rfl rfl) (show _ < 20 by omega) rfl dX4_foggerTold_77 ?_
  refine y_isub C dX4_foggerTold_78 ?_
  refine y_stT C hK2 hD2 5 rfl (by decide) dX4_foggerTold_79 ?_
  refine y_astore (lv' := [(4, .ref q9), (3, .int (nI (5 * i))), (0, .ref (rM P)), (1, .int (nI i)), (2, .int 2)]) C dX4_foggerTold_80 (by decide) rfl ?_
  refine y_aload C 0 dX4_foggerTold_82 rfl ?_
  refine y_iload_n C 4 dX4_foggerTold_84 rfl ?_
  refine y_ldT C hK2 2 rfl (by decide) rfl dX4_foggerTold_85 ?_
  exact y_iretT C dX4_foggerTold_86 rfl rfl
set_option maxHeartbeats 4000000 in
set_option maxRecDepth 100000 in
theorem c_X4_foggerTold_3 {l : Launch} {P : L5} {D : va_G} {N F T : Nat → Nat → Int32} {K : Nat → Int32} {A : Nat → Nat → Int32} {w : Int64} {c : Nat} (hc : K 2 = nI c) (h12 : c ≤ 12) {i : Nat} (hi : i < 4) : CtI l yX4_foggerTold cX4_foggerTold 5 .int 2 1 6 P D 97 97 False (cw P N F T K A w) (cw P N F T K A w) [.ref (rM P), .int (nI i), .int 3] (ftM A c i 3) := by
  refine mk_Met pl_X4 [(0, .ref (rM P)), (1, .int (nI i)), (2, .int 3)] rfl (Nat.le_of_ble_eq_true rfl) ?_
  intro pg en sg mg ag bg mt cd C
  refine v_iconst (v := 5) C dX4_foggerTold_0 rfl ?_
  refine v_iload_n C 1 dX4_foggerTold_1 rfl ?_
  refine v_imul C dX4_foggerTold_2 ?_
  refine v_topE (ixM rfl rfl) ?_
  refine v_istore_n (lv' := [(3, .int (nI (5 * i))), (0, .ref (rM P)), (1, .int (nI i)), (2, .int 3)]) C dX4_foggerTold_3 rfl (by decide) rfl ?_
  refine v_bipush (v := 6) C dX4_foggerTold_4 rfl ?_
  refine v_newT C k_91 dX4_foggerTold_6 (Nat.le_of_ble_eq_true rfl) (Nat.le_of_ble_eq_true rfl) (fun q9 cA hK2 hD2 => ?_)
  refine y_dup C dX4_foggerTold_8 rfl ?_
  refine y_iconst (v := 0) C dX4_foggerTold_9 rfl ?_
  refine y_aload_n C 1 dX4_foggerTold_10 rfl ?_
  refine y_gM C 4 (by decide) k_517 rfl dX4_foggerTold_11 ?_
  refine y_iload_n C 0 dX4_foggerTold_14 rfl ?_
  refine y_iconst (v := 0) C dX4_foggerTold_15 rfl ?_
  refine y_iadd C dX4_foggerTold_16 ?_
  refine y_ldAk C ((5 * i) + 0) (by decide) (ixA rfl rfl) (show _ < 20 by omega) rfl dX4_foggerTold_17 ?_
  refine y_stT C hK2 hD2 0 rfl (by decide) dX4_foggerTold_18 ?_
  refine y_dup C dX4_foggerTold_19 rfl ?_
  refine y_iconst (v := 1) C dX4_foggerTold_20 rfl ?_
  refine y_aload_n C 1 dX4_foggerTold_21 rfl ?_
  refine y_gM C 4 (by decide) k_517 rfl dX4_foggerTold_22 ?_
  refine y_iload_n C 0 dX4_foggerTold_25 rfl ?_
  refine y_iconst (v := 1) C dX4_foggerTold_26 rfl ?_
  refine y_iadd C dX4_foggerTold_27 ?_
  refine y_ldAk C ((5 * i) + 1) (by decide) (ixA rfl rfl) (show _ < 20 by omega) rfl dX4_foggerTold_28 ?_
  refine y_stT C hK2 hD2 1 rfl (by decide) dX4_foggerTold_29 ?_
  refine y_dup C dX4_foggerTold_30 rfl ?_
  refine y_iconst (v := 2) C dX4_foggerTold_31 rfl ?_
  refine y_aload_n C 1 dX4_foggerTold_32 rfl ?_
  refine y_iload_n C 2 dX4_foggerTold_33 rfl ?_
  refine y_callN C (c_X4_nailersOf hc h12) k_599 k_5 k_596 k_598 ks_30 dd_X4_nailersOf ⟨Nat.le_of_ble_eq_true rfl, Nat.le_of_ble_eq_true rfl⟩ rfl (Nat.le_of_ble_eq_true rfl) dX4_foggerTold_34 ⟨Nat.le_of_ble_eq_true rfl, Nat.le_of_ble_eq_true rfl⟩ ?_
  refine y_stT C hK2 hD2 2 rfl (by decide) dX4_foggerTold_37 ?_
  refine y_dup C dX4_foggerTold_38 rfl ?_
  refine y_iconst (v := 3) C dX4_foggerTold_39 rfl ?_
  refine y_aload_n C 1 dX4_foggerTold_40 rfl ?_
  refine y_gM C 4 (by decide) k_517 rfl dX4_foggerTold_41 ?_
  refine y_iload_n C 0 dX4_foggerTold_44 rfl ?_
  refine y_iconst (v := 2) C dX4_foggerTold_45 rfl ?_
  refine y_iadd C dX4_foggerTold_46 ?_
  refine y_ldAk C ((5 * i) + 2) (by decide) (ixA rfl rfl) (show _ < 20 by omega) rfl dX4_foggerTold_47 ?_
  refine y_stT C hK2 hD2 3 rfl (by decide) dX4_foggerTold_48 ?_
  refine y_dup C dX4_foggerTold_49 rfl ?_
  refine y_iconst (v := 4) C dX4_foggerTold_50 rfl ?_
  refine y_aload_n C 1 dX4_foggerTold_51 rfl ?_
  refine y_gM C 4 (by decide) k_517 rfl dX4_foggerTold_52 ?_
  refine y_iload_n C 0 dX4_foggerTold_55 rfl ?_
  refine y_iconst (v := 3) C dX4_foggerTold_56 rfl ?_
  refine y_iadd C dX4_foggerTold_57 ?_
  refine y_ldAk C ((5 * i) + 3) (by decide) (ixA rfl rfl) (show _ < 20 by omega) rfl dX4_foggerTold_58 ?_
  refine y_stT C hK2 hD2 4 rfl (by decide) dX4_foggerTold_59 ?_
  refine y_dup C dX4_foggerTold_60 rfl ?_
  refine y_iconst (v := 5) C dX4_foggerTold_61 rfl ?_
  refine y_aload_n C 1 dX4_foggerTold_62 rfl ?_
  refine y_gM C 4 (by decide) k_517 rfl dX4_foggerTold_63 ?_
  refine y_iload_n C 0 dX4_foggerTold_66 rfl ?_
  refine y_iconst (v := 4) C dX4_foggerTold_67 rfl ?_
  refine y_iadd C dX4_foggerTold_68 ?_
  refine y_ldAk C ((5 * i) + 4) (by decide) (ixA rfl rfl) (show _ < 20 by omega) rfl dX4_foggerTold_69 ?_
  refine y_aload_n C 1 dX4_foggerTold_70 rfl ?_
  refine y_gM C 4 (by decide) k_517 rfl dX4_foggerTold_71 ?_
  refine y_iload_n C 0 dX4_foggerTold_74 rfl ?_
  refine y_iconst (v := 3) C dX4_foggerTold_75 rfl ?_
  refine y_iadd C dX4_foggerTold_76 ?_
  refine y_ldAk C ((5 * i) + 3) (by decide) (ixA rfl rfl) (show _ < 20 by omega) rfl dX4_foggerTold_77 ?_
  refine y_isub C dX4_foggerTold_78 ?_
  refine y_stT C hK2 hD2 5 rfl (by decide) dX4_foggerTold_79 ?_
  refine y_astore (lv' := [(4, .ref q9), (3, .int (nI (5 * i))), (0, .ref (rM P)), (1, .int (nI i)), (2, .int 3)]) C dX4_foggerTold_80 (by decide) rfl ?_
  refine y_aload C 0 dX4_foggerTold_82 rfl ?_
  refine y_iload_n C 4 dX4_foggerTold_84 rfl ?_
  refine y_ldT C hK2 3 rfl (by decide) rfl dX4_foggerTold_85 ?_
  exact y_iretT C dX4_foggerTold_86 rfl rfl
set_option maxHeartbeats 4000000 in
set_option maxRecDepth 100000 in
theorem c_X4_foggerTold_4 {l : Launch} {P : L5} {D : va_G} {N F T : Nat → Nat → Int32} {K : Nat → Int32} {A : Nat → Nat → Int32} {w : Int64} {c : Nat} (hc : K 2 = nI c) (h12 : c ≤ 12) {i : Nat} (hi : i < 4) : CtI l yX4_foggerTold cX4_foggerTold 5 .int 2 1 6 P D 97 97 False (cw P N F T K A w) (cw P N F T K A w) [.ref (rM P), .int (nI i), .int 4] (ftM A c i 4) := by
  refine mk_Met pl_X4 [(0, .ref (rM P)), (1, .int (nI i)), (2, .int 4)] rfl (Nat.le_of_ble_eq_true rfl) ?_
  intro pg en sg mg ag bg mt cd C
  refine v_iconst (v := 5) C dX4_foggerTold_0 rfl ?_
  refine v_iload_n C 1 dX4_foggerTold_1 rfl ?_
  refine v_imul C dX4_foggerTold_2 ?_
  refine v_topE (ixM rfl rfl) ?_
  refine v_istore_n (lv' := [(3, .int (nI (5 * i))), (0, .ref (rM P)), (1, .int (nI i)), (2, .int 4)]) C dX4_foggerTold_3 rfl (by decide) rfl ?_
  refine v_bipush (v := 6) C dX4_foggerTold_4 rfl ?_
  refine v_newT C k_91 dX4_foggerTold_6 (Nat.le_of_ble_eq_true rfl) (Nat.le_of_ble_eq_true rfl) (fun q9 cA hK2 hD2 => ?_)
  refine y_dup C dX4_foggerTold_8 rfl ?_
  refine y_iconst (v := 0) C dX4_foggerTold_9 rfl ?_
  refine y_aload_n C 1 dX4_foggerTold_10 rfl ?_
  refine y_gM C 4 (by decide) k_517 rfl dX4_foggerTold_11 ?_
  refine y_iload_n C 0 dX4_foggerTold_14 rfl ?_
  refine y_iconst (v := 0) C dX4_foggerTold_15 rfl ?_
  refine y_iadd C dX4_foggerTold_16 ?_
  refine y_ldAk C ((5 * i) + 0) (by decide) (ixA rfl rfl) (show _ < 20 by omega) rfl dX4_foggerTold_17 ?_
  refine y_stT C hK2 hD2 0 rfl (by decide) dX4_foggerTold_18 ?_
  refine y_dup C dX4_foggerTold_19 rfl ?_
  refine y_iconst (v := 1) C dX4_foggerTold_20 rfl ?_
  refine y_aload_n C 1 dX4_foggerTold_21 rfl ?_
  refine y_gM C 4 (by decide) k_517 rfl dX4_foggerTold_22 ?_
  refine y_iload_n C 0 dX4_foggerTold_25 rfl ?_
  refine y_iconst (v := 1) C dX4_foggerTold_26 rfl ?_
  refine y_iadd C dX4_foggerTold_27 ?_
  refine y_ldAk C ((5 * i) + 1) (by decide) (ixA rfl rfl) (show _ < 20 by omega) rfl dX4_foggerTold_28 ?_
  refine y_stT C hK2 hD2 1 rfl (by decide) dX4_foggerTold_29 ?_
  refine y_dup C dX4_foggerTold_30 rfl ?_
  refine y_iconst (v := 2) C dX4_foggerTold_31 rfl ?_
  refine y_aload_n C 1 dX4_foggerTold_32 rfl ?_
  refine y_iload_n C 2 dX4_foggerTold_33 rfl ?_
  refine y_callN C (c_X4_nailersOf hc h12) k_599 k_5 k_596 k_598 ks_30 dd_X4_nailersOf ⟨Nat.le_of_ble_eq_true rfl, Nat.le_of_ble_eq_true rfl⟩ rfl (Nat.le_of_ble_eq_true rfl) dX4_foggerTold_34 ⟨Nat.le_of_ble_eq_true rfl, Nat.le_of_ble_eq_true rfl⟩ ?_
  refine y_stT C hK2 hD2 2 rfl (by decide) dX4_foggerTold_37 ?_
  refine y_dup C dX4_foggerTold_38 rfl ?_
  refine y_iconst (v := 3) C dX4_foggerTold_39 rfl ?_
  refine y_aload_n C 1 dX4_foggerTold_40 rfl ?_
  refine y_gM C 4 (by decide) k_517 rfl dX4_foggerTold_41 ?_
  refine y_iload_n C 0 dX4_foggerTold_44 rfl ?_
  refine y_iconst (v := 2) C dX4_foggerTold_45 rfl ?_
  refine y_iadd C dX4_foggerTold_46 ?_
  refine y_ldAk C ((5 * i) + 2) (by decide) (ixA rfl rfl) (show _ < 20 by omega) rfl dX4_foggerTold_47 ?_
  refine y_stT C hK2 hD2 3 rfl (by decide) dX4_foggerTold_48 ?_
  refine y_dup C dX4_foggerTold_49 rfl ?_
  refine y_iconst (v := 4) C dX4_foggerTold_50 rfl ?_
  refine y_aload_n C 1 dX4_foggerTold_51 rfl ?_
  refine y_gM C 4 (by decide) k_517 rfl dX4_foggerTold_52 ?_
  refine y_iload_n C 0 dX4_foggerTold_55 rfl ?_
  refine y_iconst (v := 3) C dX4_foggerTold_56 rfl ?_
  refine y_iadd C dX4_foggerTold_57 ?_
  refine y_ldAk C ((5 * i) + 3) (by decide) (ixA rfl rfl) (show _ < 20 by omega) rfl dX4_foggerTold_58 ?_
  refine y_stT C hK2 hD2 4 rfl (by decide) dX4_foggerTold_59 ?_
  refine y_dup C dX4_foggerTold_60 rfl ?_
  refine y_iconst (v := 5) C dX4_foggerTold_61 rfl ?_
  refine y_aload_n C 1 dX4_foggerTold_62 rfl ?_
  refine y_gM C 4 (by decide) k_517 rfl dX4_foggerTold_63 ?_
  refine y_iload_n C 0 dX4_foggerTold_66 rfl ?_
  refine y_iconst (v := 4) C dX4_foggerTold_67 rfl ?_
  refine y_iadd C dX4_foggerTold_68 ?_
  refine y_ldAk C ((5 * i) + 4) (by decide) (ixA rfl rfl) (show _ < 20 by omega) rfl dX4_foggerTold_69 ?_
  refine y_aload_n C 1 dX4_foggerTold_70 rfl ?_
  refine y_gM C 4 (by decide) k_517 rfl dX4_foggerTold_71 ?_
  refine y_iload_n C 0 dX4_foggerTold_74 rfl ?_
  refine y_iconst (v := 3) C dX4_foggerTold_75 rfl ?_
  refine y_iadd C dX4_foggerTold_76 ?_
  refine y_ldAk C ((5 * i) + 3) (by decide) (ixA rfl rfl) (show _ < 20 by omega) rfl dX4_foggerTold_77 ?_
  refine y_isub C dX4_foggerTold_78 ?_
  refine y_stT C hK2 hD2 5 rfl (by decide) dX4_foggerTold_79 ?_
  refine y_astore (lv' := [(4, .ref q9), (3, .int (nI (5 * i))), (0, .ref (rM P)), (1, .int (nI i)), (2, .int 4)]) C dX4_foggerTold_80 (by decide) rfl ?_
  refine y_aload C 0 dX4_foggerTold_82 rfl ?_
  refine y_iload_n C 4 dX4_foggerTold_84 rfl ?_
  refine y_ldT C hK2 4 rfl (by decide) rfl dX4_foggerTold_85 ?_
  exact y_iretT C dX4_foggerTold_86 rfl rfl
set_option maxHeartbeats 4000000 in
set_option maxRecDepth 100000 in
theorem c_X4_foggerTold_5 {l : Launch} {P : L5} {D : va_G} {N F T : Nat → Nat → Int32} {K : Nat → Int32} {A : Nat → Nat → Int32} {w : Int64} {c : Nat} (hc : K 2 = nI c) (h12 : c ≤ 12) {i : Nat} (hi : i < 4) : CtI l yX4_foggerTold cX4_foggerTold 5 .int 2 1 6 P D 97 97 False (cw P N F T K A w) (cw P N F T K A w) [.ref (rM P), .int (nI i), .int 5] (ftM A c i 5) := by
  refine mk_Met pl_X4 [(0, .ref (rM P)), (1, .int (nI i)), (2, .int 5)] rfl (Nat.le_of_ble_eq_true rfl) ?_
  intro pg en sg mg ag bg mt cd C
  refine v_iconst (v := 5) C dX4_foggerTold_0 rfl ?_
  refine v_iload_n C 1 dX4_foggerTold_1 rfl ?_
  refine v_imul C dX4_foggerTold_2 ?_
  refine v_topE (ixM rfl rfl) ?_
  refine v_istore_n (lv' := [(3, .int (nI (5 * i))), (0, .ref (rM P)), (1, .int (nI i)), (2, .int 5)]) C dX4_foggerTold_3 rfl (by decide) rfl ?_
  refine v_bipush (v := 6) C dX4_foggerTold_4 rfl ?_
  refine v_newT C k_91 dX4_foggerTold_6 (Nat.le_of_ble_eq_true rfl) (Nat.le_of_ble_eq_true rfl) (fun q9 cA hK2 hD2 => ?_)
  refine y_dup C dX4_foggerTold_8 rfl ?_
  refine y_iconst (v := 0) C dX4_foggerTold_9 rfl ?_
  refine y_aload_n C 1 dX4_foggerTold_10 rfl ?_
  refine y_gM C 4 (by decide) k_517 rfl dX4_foggerTold_11 ?_
  refine y_iload_n C 0 dX4_foggerTold_14 rfl ?_
  refine y_iconst (v := 0) C dX4_foggerTold_15 rfl ?_
  refine y_iadd C dX4_foggerTold_16 ?_
  refine y_ldAk C ((5 * i) + 0) (by decide) (ixA rfl rfl) (show _ < 20 by omega) rfl dX4_foggerTold_17 ?_
  refine y_stT C hK2 hD2 0 rfl (by decide) dX4_foggerTold_18 ?_
  refine y_dup C dX4_foggerTold_19 rfl ?_
  refine y_iconst (v := 1) C dX4_foggerTold_20 rfl ?_
  refine y_aload_n C 1 dX4_foggerTold_21 rfl ?_
  refine y_gM C 4 (by decide) k_517 rfl dX4_foggerTold_22 ?_
  refine y_iload_n C 0 dX4_foggerTold_25 rfl ?_
  refine y_iconst (v := 1) C dX4_foggerTold_26 rfl ?_
  refine y_iadd C dX4_foggerTold_27 ?_
  refine y_ldAk C ((5 * i) + 1) (by decide) (ixA rfl rfl) (show _ < 20 by omega) rfl dX4_foggerTold_28 ?_
  refine y_stT C hK2 hD2 1 rfl (by decide) dX4_foggerTold_29 ?_
  refine y_dup C dX4_foggerTold_30 rfl ?_
  refine y_iconst (v := 2) C dX4_foggerTold_31 rfl ?_
  refine y_aload_n C 1 dX4_foggerTold_32 rfl ?_
  refine y_iload_n C 2 dX4_foggerTold_33 rfl ?_
  refine y_callN C (c_X4_nailersOf hc h12) k_599 k_5 k_596 k_598 ks_30 dd_X4_nailersOf ⟨Nat.le_of_ble_eq_true rfl, Nat.le_of_ble_eq_true rfl⟩ rfl (Nat.le_of_ble_eq_true rfl) dX4_foggerTold_34 ⟨Nat.le_of_ble_eq_true rfl, Nat.le_of_ble_eq_true rfl⟩ ?_
  refine y_stT C hK2 hD2 2 rfl (by decide) dX4_foggerTold_37 ?_
  refine y_dup C dX4_foggerTold_38 rfl ?_
  refine y_iconst (v := 3) C dX4_foggerTold_39 rfl ?_
  refine y_aload_n C 1 dX4_foggerTold_40 rfl ?_
  refine y_gM C 4 (by decide) k_517 rfl dX4_foggerTold_41 ?_
  refine y_iload_n C 0 dX4_foggerTold_44 rfl ?_
  refine y_iconst (v := 2) C dX4_foggerTold_45 rfl ?_
  refine y_iadd C dX4_foggerTold_46 ?_
  refine y_ldAk C ((5 * i) + 2) (by decide) (ixA rfl rfl) (show _ < 20 by omega) rfl dX4_foggerTold_47 ?_
  refine y_stT C hK2 hD2 3 rfl (by decide) dX4_foggerTold_48 ?_
  refine y_dup C dX4_foggerTold_49 rfl ?_
  refine y_iconst (v := 4) C dX4_foggerTold_50 rfl ?_
  refine y_aload_n C 1 dX4_foggerTold_51 rfl ?_
  refine y_gM C 4 (by decide) k_517 rfl dX4_foggerTold_52 ?_
  refine y_iload_n C 0 dX4_foggerTold_55 rfl ?_
  refine y_iconst (v := 3) C dX4_foggerTold_56 rfl ?_
  refine y_iadd C dX4_foggerTold_57 ?_
  refine y_ldAk C ((5 * i) + 3) (by decide) (ixA rfl rfl) (show _ < 20 by omega) rfl dX4_foggerTold_58 ?_
  refine y_stT C hK2 hD2 4 rfl (by decide) dX4_foggerTold_59 ?_
  refine y_dup C dX4_foggerTold_60 rfl ?_
  refine y_iconst (v := 5) C dX4_foggerTold_61 rfl ?_
  refine y_aload_n C 1 dX4_foggerTold_62 rfl ?_
  refine y_gM C 4 (by decide) k_517 rfl dX4_foggerTold_63 ?_
  refine y_iload_n C 0 dX4_foggerTold_66 rfl ?_
  refine y_iconst (v := 4) C dX4_foggerTold_67 rfl ?_
  refine y_iadd C dX4_foggerTold_68 ?_
  refine y_ldAk C ((5 * i) + 4) (by decide) (ixA rfl rfl) (show _ < 20 by omega) rfl dX4_foggerTold_69 ?_
  refine y_aload_n C 1 dX4_foggerTold_70 rfl ?_
  refine y_gM C 4 (by decide) k_517 rfl dX4_foggerTold_71 ?_
  refine y_iload_n C 0 dX4_foggerTold_74 rfl ?_
  refine y_iconst (v := 3) C dX4_foggerTold_75 rfl ?_
  refine y_iadd C dX4_foggerTold_76 ?_
  refine y_ldAk C ((5 * i) + 3) (by decide) (ixA rfl rfl) (show _ < 20 by omega) rfl dX4_foggerTold_77 ?_
  refine y_isub C dX4_foggerTold_78 ?_
  refine y_stT C hK2 hD2 5 rfl (by decide) dX4_foggerTold_79 ?_
  refine y_astore (lv' := [(4, .ref q9), (3, .int (nI (5 * i))), (0, .ref (rM P)), (1, .int (nI i)), (2, .int 5)]) C dX4_foggerTold_80 (by decide) rfl ?_
  refine y_aload C 0 dX4_foggerTold_82 rfl ?_
  refine y_iload_n C 4 dX4_foggerTold_84 rfl ?_
  refine y_ldT C hK2 5 rfl (by decide) rfl dX4_foggerTold_85 ?_
  exact y_iretT C dX4_foggerTold_86 rfl rfl
set_option maxHeartbeats 4000000 in
set_option maxRecDepth 100000 in
theorem c_X4_fogger_1 {l : Launch} {P : L5} {D : va_G} {N F T : Nat → Nat → Int32} {K : Nat → Int32} {A : Nat → Nat → Int32} {w : Int64} {c : Nat} (hc : K 2 = nI c) (h12 : c ≤ 12) {p q : Int32} (h : p < 0 ∨ 3 < p) : CtI l yX4_fogger cX4_fogger 3 .int 5 0 0 P D 97 97 False (cw P N F T K A w) (cw P N F T (upd K 0 1) A w) [.ref (rM P), .int p, .int q] 0 := by
  refine mk_Met pl_X4 [(0, .ref (rM P)), (1, .int p), (2, .int q)] rfl (Nat.le_of_ble_eq_true rfl) ?_
  intro pg en sg mg ag bg mt cd C
  refine v_aload_n C 0 dX4_fogger_0 rfl ?_
  refine v_iconst (v := 0) C dX4_fogger_1 rfl ?_
  refine v_pM C 0 (by decide) k_513 dX4_fogger_2 ?_
  refine v_iload_n C 1 dX4_fogger_5 rfl ?_
  refine go_I (run_S C (c_X4_isFour_0 h) k_544 k_5 k_542 k_543 dd_X4_isFour ⟨Nat.le_of_ble_eq_true rfl, Nat.le_of_ble_eq_true rfl⟩ rfl (Nat.le_of_ble_eq_true rfl) dX4_fogger_6 ⟨Nat.le_of_ble_eq_true rfl, Nat.le_of_ble_eq_true rfl⟩) ?_
  refine v_if_eq (tgt := 30) C dX4_fogger_9 (by decide) (fun _ => ?_) (fun h9 => absurd (by decide) h9)
  refine v_aload_n C 0 dX4_fogger_30 rfl ?_
  refine v_iconst (v := 1) C dX4_fogger_31 rfl ?_
  refine go_I (run_V C (c_X4_no) k_551 k_5 k_548 k_550 ks_26 dd_X4_no ⟨Nat.le_of_ble_eq_true rfl, Nat.le_of_ble_eq_true rfl⟩ rcM rfl (Nat.le_of_ble_eq_true rfl) dX4_fogger_32 ⟨Nat.le_of_ble_eq_true rfl, Nat.le_of_ble_eq_true rfl⟩) ?_
  exact v_iret C dX4_fogger_35 (by rw [updd]) rfl
set_option maxHeartbeats 4000000 in
set_option maxRecDepth 100000 in
theorem c_X4_fogger_1b {l : Launch} {P : L5} {D : va_G} {N F T : Nat → Nat → Int32} {K : Nat → Int32} {A : Nat → Nat → Int32} {w : Int64} {c : Nat} (hc : K 2 = nI c) (h12 : c ≤ 12) {i : Nat} (hi : i < 4) {q : Int32} (h : q < 0 ∨ 5 < q) : CtI l yX4_fogger cX4_fogger 3 .int 5 0 0 P D 97 97 False (cw P N F T K A w) (cw P N F T (upd K 0 1) A w) [.ref (rM P), .int (nI i), .int q] 0 := by
  refine mk_Met pl_X4 [(0, .ref (rM P)), (1, .int (nI i)), (2, .int q)] rfl (Nat.le_of_ble_eq_true rfl) ?_
  intro pg en sg mg ag bg mt cd C
  refine v_aload_n C 0 dX4_fogger_0 rfl ?_
  refine v_iconst (v := 0) C dX4_fogger_1 rfl ?_
  refine v_pM C 0 (by decide) k_513 dX4_fogger_2 ?_
  refine v_iload_n C 1 dX4_fogger_5 rfl ?_
  refine go_I (run_S C (c_X4_isFour_1 (nIp (by omega)) (nI3 hi)) k_544 k_5 k_542 k_543 dd_X4_isFour ⟨Nat.le_of_ble_eq_true rfl, Nat.le_of_ble_eq_true rfl⟩ rfl (Nat.le_of_ble_eq_true rfl) dX4_fogger_6 ⟨Nat.le_of_ble_eq_true rfl, Nat.le_of_ble_eq_true rfl⟩) ?_
  refine v_if_eq (tgt := 30) C dX4_fogger_9 (by decide) (fun h9 => absurd h9 (by decide)) (fun _ => ?_)
  refine v_iload_n C 2 dX4_fogger_12 rfl ?_
  refine v_iconst (v := 0) C dX4_fogger_13 rfl ?_
  refine v_iconst (v := 5) C dX4_fogger_14 rfl ?_
  refine go_I (run_S C (c_X4_isIn_0 h) k_547 k_5 k_545 k_546 dd_X4_isIn ⟨Nat.le_of_ble_eq_true rfl, Nat.le_of_ble_eq_true rfl⟩ rfl (Nat.le_of_ble_eq_true rfl) dX4_fogger_15 ⟨Nat.le_of_ble_eq_true rfl, Nat.le_of_ble_eq_true rfl⟩) ?_
  refine v_if_eq (tgt := 30) C dX4_fogger_18 (by decide) (fun _ => ?_) (fun h9 => absurd (by decide) h9)
  refine v_aload_n C 0 dX4_fogger_30 rfl ?_
  refine v_iconst (v := 1) C dX4_fogger_31 rfl ?_
  refine go_I (run_V C (c_X4_no) k_551 k_5 k_548 k_550 ks_26 dd_X4_no ⟨Nat.le_of_ble_eq_true rfl, Nat.le_of_ble_eq_true rfl⟩ rcM rfl (Nat.le_of_ble_eq_true rfl) dX4_fogger_32 ⟨Nat.le_of_ble_eq_true rfl, Nat.le_of_ble_eq_true rfl⟩) ?_
  exact v_iret C dX4_fogger_35 (by rw [updd]) rfl
set_option maxHeartbeats 4000000 in
set_option maxRecDepth 100000 in
theorem c_X4_fogger_0k {l : Launch} {P : L5} {D : va_G} {N F T : Nat → Nat → Int32} {K : Nat → Int32} {A : Nat → Nat → Int32} {w : Int64} {c : Nat} (hc : K 2 = nI c) (h12 : c ≤ 12) {i : Nat} (hi : i < 4) : CtI l yX4_fogger cX4_fogger 3 .int 5 1 6 P D 97 97 False (cw P N F T K A w) (cw P N F T (upd K 0 0) A w) [.ref (rM P), .int (nI i), .int 0] (ftM A c i 0) := by
  refine mk_Met pl_X4 [(0, .ref (rM P)), (1, .int (nI i)), (2, .int 0)] rfl (Nat.le_of_ble_eq_true rfl) ?_
  intro pg en sg mg ag bg mt cd C
  refine v_aload_n C 0 dX4_fogger_0 rfl ?_
  refine v_iconst (v := 0) C dX4_fogger_1 rfl ?_
  refine v_pM C 0 (by decide) k_513 dX4_fogger_2 ?_
  refine v_iload_n C 1 dX4_fogger_5 rfl ?_
  refine go_I (run_S C (c_X4_isFour_1 (nIp (by omega)) (nI3 hi)) k_544 k_5 k_542 k_543 dd_X4_isFour ⟨Nat.le_of_ble_eq_true rfl, Nat.le_of_ble_eq_true rfl⟩ rfl (Nat.le_of_ble_eq_true rfl) dX4_fogger_6 ⟨Nat.le_of_ble_eq_true rfl, Nat.le_of_ble_eq_true rfl⟩) ?_
  refine v_if_eq (tgt := 30) C dX4_fogger_9 (by decide) (fun h9 => absurd h9 (by decide)) (fun _ => ?_)
  refine v_iload_n C 2 dX4_fogger_12 rfl ?_
  refine v_iconst (v := 0) C dX4_fogger_13 rfl ?_
  refine v_iconst (v := 5) C dX4_fogger_14 rfl ?_
  refine go_I (run_S C (c_X4_isIn_1 (by decide) (by decide)) k_547 k_5 k_545 k_546 dd_X4_isIn ⟨Nat.le_of_ble_eq_true rfl, Nat.le_of_ble_eq_true rfl⟩ rfl (Nat.le_of_ble_eq_true rfl) dX4_fogger_15 ⟨Nat.le_of_ble_eq_true rfl, Nat.le_of_ble_eq_true rfl⟩) ?_
  refine v_if_eq (tgt := 30) C dX4_fogger_18 (by decide) (fun h9 => absurd h9 (by decide)) (fun _ => ?_)
  refine v_aload_n C 0 dX4_fogger_21 rfl ?_
  refine v_iload_n C 1 dX4_fogger_22 rfl ?_
  refine v_iload_n C 2 dX4_fogger_23 rfl ?_
  refine go_I (run_V C (c_X4_foggerTold_0 (K := (upd K 0 0)) hc h12 hi) k_595 k_5 k_592 k_594 ks_29 dd_X4_foggerTold ⟨Nat.le_of_ble_eq_true rfl, Nat.le_of_ble_eq_true rfl⟩ rcM rfl (Nat.le_of_ble_eq_true rfl) dX4_fogger_24 ⟨Nat.le_of_ble_eq_true rfl, Nat.le_of_ble_eq_true rfl⟩) ?_
  refine v_goto (tgt := 35) C dX4_fogger_27 (by decide) ?_
  exact v_iret C dX4_fogger_35 rfl rfl
set_option maxHeartbeats 4000000 in
set_option maxRecDepth 100000 in
theorem c_X4_fogger_1k {l : Launch} {P : L5} {D : va_G} {N F T : Nat → Nat → Int32} {K : Nat → Int32} {A : Nat → Nat → Int32} {w : Int64} {c : Nat} (hc : K 2 = nI c) (h12 : c ≤ 12) {i : Nat} (hi : i < 4) : CtI l yX4_fogger cX4_fogger 3 .int 5 1 6 P D 97 97 False (cw P N F T K A w) (cw P N F T (upd K 0 0) A w) [.ref (rM P), .int (nI i), .int 1] (ftM A c i 1) := by
  refine mk_Met pl_X4 [(0, .ref (rM P)), (1, .int (nI i)), (2, .int 1)] rfl (Nat.le_of_ble_eq_true rfl) ?_
  intro pg en sg mg ag bg mt cd C
  refine v_aload_n C 0 dX4_fogger_0 rfl ?_
  refine v_iconst (v := 0) C dX4_fogger_1 rfl ?_
  refine v_pM C 0 (by decide) k_513 dX4_fogger_2 ?_
  refine v_iload_n C 1 dX4_fogger_5 rfl ?_
  refine go_I (run_S C (c_X4_isFour_1 (nIp (by omega)) (nI3 hi)) k_544 k_5 k_542 k_543 dd_X4_isFour ⟨Nat.le_of_ble_eq_true rfl, Nat.le_of_ble_eq_true rfl⟩ rfl (Nat.le_of_ble_eq_true rfl) dX4_fogger_6 ⟨Nat.le_of_ble_eq_true rfl, Nat.le_of_ble_eq_true rfl⟩) ?_
  refine v_if_eq (tgt := 30) C dX4_fogger_9 (by decide) (fun h9 => absurd h9 (by decide)) (fun _ => ?_)
  refine v_iload_n C 2 dX4_fogger_12 rfl ?_
  refine v_iconst (v := 0) C dX4_fogger_13 rfl ?_
  refine v_iconst (v := 5) C dX4_fogger_14 rfl ?_
  refine go_I (run_S C (c_X4_isIn_1 (by decide) (by decide)) k_547 k_5 k_545 k_546 dd_X4_isIn ⟨Nat.le_of_ble_eq_true rfl, Nat.le_of_ble_eq_true rfl⟩ rfl (Nat.le_of_ble_eq_true rfl) dX4_fogger_15 ⟨Nat.le_of_ble_eq_true rfl, Nat.le_of_ble_eq_true rfl⟩) ?_
  refine v_if_eq (tgt := 30) C dX4_fogger_18 (by decide) (fun h9 => absurd h9 (by decide)) (fun _ => ?_)
  refine v_aload_n C 0 dX4_fogger_21 rfl ?_
  refine v_iload_n C 1 dX4_fogger_22 rfl ?_
  refine v_iload_n C 2 dX4_fogger_23 rfl ?_
  refine go_I (run_V C (c_X4_foggerTold_1 (K := (upd K 0 0)) hc h12 hi) k_595 k_5 k_592 k_594 ks_29 dd_X4_foggerTold ⟨Nat.le_of_ble_eq_true rfl, Nat.le_of_ble_eq_true rfl⟩ rcM rfl (Nat.le_of_ble_eq_true rfl) dX4_fogger_24 ⟨Nat.le_of_ble_eq_true rfl, Nat.le_of_ble_eq_true rfl⟩) ?_
  refine v_goto (tgt := 35) C dX4_fogger_27 (by decide) ?_
  exact v_iret C dX4_fogger_35 rfl rfl
set_option maxHeartbeats 4000000 in
set_option maxRecDepth 100000 in
theorem c_X4_fogger_2k {l : Launch} {P : L5} {D : va_G} {N F T : Nat → Nat → Int32} {K : Nat → Int32} {A : Nat → Nat → Int32} {w : Int64} {c : Nat} (hc : K 2 = nI c) (h12 : c ≤ 12) {i : Nat} (hi : i < 4) : CtI l yX4_fogger cX4_fogger 3 .int 5 1 6 P D 97 97 False (cw P N F T K A w) (cw P N F T (upd K 0 0) A w) [.ref (rM P), .int (nI i), .int 2] (ftM A c i 2) := by
  refine mk_Met pl_X4 [(0, .ref (rM P)), (1, .int (nI i)), (2, .int 2)] rfl (Nat.le_of_ble_eq_true rfl) ?_
  intro pg en sg mg ag bg mt cd C
  refine v_aload_n C 0 dX4_fogger_0 rfl ?_
  refine v_iconst (v := 0) C dX4_fogger_1 rfl ?_
  refine v_pM C 0 (by decide) k_513 dX4_fogger_2 ?_
  refine v_iload_n C 1 dX4_fogger_5 rfl ?_
  refine go_I (run_S C (c_X4_isFour_1 (nIp (by omega)) (nI3 hi)) k_544 k_5 k_542 k_543 dd_X4_isFour ⟨Nat.le_of_ble_eq_true rfl, Nat.le_of_ble_eq_true rfl⟩ rfl (Nat.le_of_ble_eq_true rfl) dX4_fogger_6 ⟨Nat.le_of_ble_eq_true rfl, Nat.le_of_ble_eq_true rfl⟩) ?_
  refine v_if_eq (tgt := 30) C dX4_fogger_9 (by decide) (fun h9 => absurd h9 (by decide)) (fun _ => ?_)
  refine v_iload_n C 2 dX4_fogger_12 rfl ?_
  refine v_iconst (v := 0) C dX4_fogger_13 rfl ?_
  refine v_iconst (v := 5) C dX4_fogger_14 rfl ?_
  refine go_I (run_S C (c_X4_isIn_1 (by decide) (by decide)) k_547 k_5 k_545 k_546 dd_X4_isIn ⟨Nat.le_of_ble_eq_true rfl, Nat.le_of_ble_eq_true rfl⟩ rfl (Nat.le_of_ble_eq_true rfl) dX4_fogger_15 ⟨Nat.le_of_ble_eq_true rfl, Nat.le_of_ble_eq_true rfl⟩) ?_
  refine v_if_eq (tgt := 30) C dX4_fogger_18 (by decide) (fun h9 => absurd h9 (by decide)) (fun _ => ?_)
  refine v_aload_n C 0 dX4_fogger_21 rfl ?_
  refine v_iload_n C 1 dX4_fogger_22 rfl ?_
  refine v_iload_n C 2 dX4_fogger_23 rfl ?_
  refine go_I (run_V C (c_X4_foggerTold_2 (K := (upd K 0 0)) hc h12 hi) k_595 k_5 k_592 k_594 ks_29 dd_X4_foggerTold ⟨Nat.le_of_ble_eq_true rfl, Nat.le_of_ble_eq_true rfl⟩ rcM rfl (Nat.le_of_ble_eq_true rfl) dX4_fogger_24 ⟨Nat.le_of_ble_eq_true rfl, Nat.le_of_ble_eq_true rfl⟩) ?_
  refine v_goto (tgt := 35) C dX4_fogger_27 (by decide) ?_
  exact v_iret C dX4_fogger_35 rfl rfl
set_option maxHeartbeats 4000000 in
set_option maxRecDepth 100000 in
theorem c_X4_fogger_3k {l : Launch} {P : L5} {D : va_G} {N F T : Nat → Nat → Int32} {K : Nat → Int32} {A : Nat → Nat → Int32} {w : Int64} {c : Nat} (hc : K 2 = nI c) (h12 : c ≤ 12) {i : Nat} (hi : i < 4) : CtI l yX4_fogger cX4_fogger 3 .int 5 1 6 P D 97 97 False (cw P N F T K A w) (cw P N F T (upd K 0 0) A w) [.ref (rM P), .int (nI i), .int 3] (ftM A c i 3) := by
  refine mk_Met pl_X4 [(0, .ref (rM P)), (1, .int (nI i)), (2, .int 3)] rfl (Nat.le_of_ble_eq_true rfl) ?_
  intro pg en sg mg ag bg mt cd C
  refine v_aload_n C 0 dX4_fogger_0 rfl ?_
  refine v_iconst (v := 0) C dX4_fogger_1 rfl ?_
  refine v_pM C 0 (by decide) k_513 dX4_fogger_2 ?_
  refine v_iload_n C 1 dX4_fogger_5 rfl ?_
  refine go_I (run_S C (c_X4_isFour_1 (nIp (by omega)) (nI3 hi)) k_544 k_5 k_542 k_543 dd_X4_isFour ⟨Nat.le_of_ble_eq_true rfl, Nat.le_of_ble_eq_true rfl⟩ rfl (Nat.le_of_ble_eq_true rfl) dX4_fogger_6 ⟨Nat.le_of_ble_eq_true rfl, Nat.le_of_ble_eq_true rfl⟩) ?_
  refine v_if_eq (tgt := 30) C dX4_fogger_9 (by decide) (fun h9 => absurd h9 (by decide)) (fun _ => ?_)
  refine v_iload_n C 2 dX4_fogger_12 rfl ?_
  refine v_iconst (v := 0) C dX4_fogger_13 rfl ?_
  refine v_iconst (v := 5) C dX4_fogger_14 rfl ?_
  refine go_I (run_S C (c_X4_isIn_1 (by decide) (by decide)) k_547 k_5 k_545 k_546 dd_X4_isIn ⟨Nat.le_of_ble_eq_true rfl, Nat.le_of_ble_eq_true rfl⟩ rfl (Nat.le_of_ble_eq_true rfl) dX4_fogger_15 ⟨Nat.le_of_ble_eq_true rfl, Nat.le_of_ble_eq_true rfl⟩) ?_
  refine v_if_eq (tgt := 30) C dX4_fogger_18 (by decide) (fun h9 => absurd h9 (by decide)) (fun _ => ?_)
  refine v_aload_n C 0 dX4_fogger_21 rfl ?_
  refine v_iload_n C 1 dX4_fogger_22 rfl ?_
  refine v_iload_n C 2 dX4_fogger_23 rfl ?_
  refine go_I (run_V C (c_X4_foggerTold_3 (K := (upd K 0 0)) hc h12 hi) k_595 k_5 k_592 k_594 ks_29 dd_X4_foggerTold ⟨Nat.le_of_ble_eq_true rfl, Nat.le_of_ble_eq_true rfl⟩ rcM rfl (Nat.le_of_ble_eq_true rfl) dX4_fogger_24 ⟨Nat.le_of_ble_eq_true rfl, Nat.le_of_ble_eq_true rfl⟩) ?_
  refine v_goto (tgt := 35) C dX4_fogger_27 (by decide) ?_
  exact v_iret C dX4_fogger_35 rfl rfl
set_option maxHeartbeats 4000000 in
set_option maxRecDepth 100000 in
theorem c_X4_fogger_4k {l : Launch} {P : L5} {D : va_G} {N F T : Nat → Nat → Int32} {K : Nat → Int32} {A : Nat → Nat → Int32} {w : Int64} {c : Nat} (hc : K 2 = nI c) (h12 : c ≤ 12) {i : Nat} (hi : i < 4) : CtI l yX4_fogger cX4_fogger 3 .int 5 1 6 P D 97 97 False (cw P N F T K A w) (cw P N F T (upd K 0 0) A w) [.ref (rM P), .int (nI i), .int 4] (ftM A c i 4) := by
  refine mk_Met pl_X4 [(0, .ref (rM P)), (1, .int (nI i)), (2, .int 4)] rfl (Nat.le_of_ble_eq_true rfl) ?_
  intro pg en sg mg ag bg mt cd C
  refine v_aload_n C 0 dX4_fogger_0 rfl ?_
  refine v_iconst (v := 0) C dX4_fogger_1 rfl ?_
  refine v_pM C 0 (by decide) k_513 dX4_fogger_2 ?_
  refine v_iload_n C 1 dX4_fogger_5 rfl ?_
  refine go_I (run_S C (c_X4_isFour_1 (nIp (by omega)) (nI3 hi)) k_544 k_5 k_542 k_543 dd_X4_isFour ⟨Nat.le_of_ble_eq_true rfl, Nat.le_of_ble_eq_true rfl⟩ rfl (Nat.le_of_ble_eq_true rfl) dX4_fogger_6 ⟨Nat.le_of_ble_eq_true rfl, Nat.le_of_ble_eq_true rfl⟩) ?_
  refine v_if_eq (tgt := 30) C dX4_fogger_9 (by decide) (fun h9 => absurd h9 (by decide)) (fun _ => ?_)
  refine v_iload_n C 2 dX4_fogger_12 rfl ?_
  refine v_iconst (v := 0) C dX4_fogger_13 rfl ?_
  refine v_iconst (v := 5) C dX4_fogger_14 rfl ?_
  refine go_I (run_S C (c_X4_isIn_1 (by decide) (by decide)) k_547 k_5 k_545 k_546 dd_X4_isIn ⟨Nat.le_of_ble_eq_true rfl, Nat.le_of_ble_eq_true rfl⟩ rfl (Nat.le_of_ble_eq_true rfl) dX4_fogger_15 ⟨Nat.le_of_ble_eq_true rfl, Nat.le_of_ble_eq_true rfl⟩) ?_
  refine v_if_eq (tgt := 30) C dX4_fogger_18 (by decide) (fun h9 => absurd h9 (by decide)) (fun _ => ?_)
  refine v_aload_n C 0 dX4_fogger_21 rfl ?_
  refine v_iload_n C 1 dX4_fogger_22 rfl ?_
  refine v_iload_n C 2 dX4_fogger_23 rfl ?_
  refine go_I (run_V C (c_X4_foggerTold_4 (K := (upd K 0 0)) hc h12 hi) k_595 k_5 k_592 k_594 ks_29 dd_X4_foggerTold ⟨Nat.le_of_ble_eq_true rfl, Nat.le_of_ble_eq_true rfl⟩ rcM rfl (Nat.le_of_ble_eq_true rfl) dX4_fogger_24 ⟨Nat.le_of_ble_eq_true rfl, Nat.le_of_ble_eq_true rfl⟩) ?_
  refine v_goto (tgt := 35) C dX4_fogger_27 (by decide) ?_
  exact v_iret C dX4_fogger_35 rfl rfl
set_option maxHeartbeats 4000000 in
set_option maxRecDepth 100000 in
theorem c_X4_fogger_5k {l : Launch} {P : L5} {D : va_G} {N F T : Nat → Nat → Int32} {K : Nat → Int32} {A : Nat → Nat → Int32} {w : Int64} {c : Nat} (hc : K 2 = nI c) (h12 : c ≤ 12) {i : Nat} (hi : i < 4) : CtI l yX4_fogger cX4_fogger 3 .int 5 1 6 P D 97 97 False (cw P N F T K A w) (cw P N F T (upd K 0 0) A w) [.ref (rM P), .int (nI i), .int 5] (ftM A c i 5) := by
  refine mk_Met pl_X4 [(0, .ref (rM P)), (1, .int (nI i)), (2, .int 5)] rfl (Nat.le_of_ble_eq_true rfl) ?_
  intro pg en sg mg ag bg mt cd C
  refine v_aload_n C 0 dX4_fogger_0 rfl ?_
  refine v_iconst (v := 0) C dX4_fogger_1 rfl ?_
  refine v_pM C 0 (by decide) k_513 dX4_fogger_2 ?_
  refine v_iload_n C 1 dX4_fogger_5 rfl ?_
  refine go_I (run_S C (c_X4_isFour_1 (nIp (by omega)) (nI3 hi)) k_544 k_5 k_542 k_543 dd_X4_isFour ⟨Nat.le_of_ble_eq_true rfl, Nat.le_of_ble_eq_true rfl⟩ rfl (Nat.le_of_ble_eq_true rfl) dX4_fogger_6 ⟨Nat.le_of_ble_eq_true rfl, Nat.le_of_ble_eq_true rfl⟩) ?_
  refine v_if_eq (tgt := 30) C dX4_fogger_9 (by decide) (fun h9 => absurd h9 (by decide)) (fun _ => ?_)
  refine v_iload_n C 2 dX4_fogger_12 rfl ?_
  refine v_iconst (v := 0) C dX4_fogger_13 rfl ?_
  refine v_iconst (v := 5) C dX4_fogger_14 rfl ?_
  refine go_I (run_S C (c_X4_isIn_1 (by decide) (by decide)) k_547 k_5 k_545 k_546 dd_X4_isIn ⟨Nat.le_of_ble_eq_true rfl, Nat.le_of_ble_eq_true rfl⟩ rfl (Nat.le_of_ble_eq_true rfl) dX4_fogger_15 ⟨Nat.le_of_ble_eq_true rfl, Nat.le_of_ble_eq_true rfl⟩) ?_
  refine v_if_eq (tgt := 30) C dX4_fogger_18 (by decide) (fun h9 => absurd h9 (by decide)) (fun _ => ?_)
  refine v_aload_n C 0 dX4_fogger_21 rfl ?_
  refine v_iload_n C 1 dX4_fogger_22 rfl ?_
  refine v_iload_n C 2 dX4_fogger_23 rfl ?_
  refine go_I (run_V C (c_X4_foggerTold_5 (K := (upd K 0 0)) hc h12 hi) k_595 k_5 k_592 k_594 ks_29 dd_X4_foggerTold ⟨Nat.le_of_ble_eq_true rfl, Nat.le_of_ble_eq_true rfl⟩ rcM rfl (Nat.le_of_ble_eq_true rfl) dX4_fogger_24 ⟨Nat.le_of_ble_eq_true rfl, Nat.le_of_ble_eq_true rfl⟩) ?_
  refine v_goto (tgt := 35) C dX4_fogger_27 (by decide) ?_
  exact v_iret C dX4_fogger_35 rfl rfl
set_option maxHeartbeats 4000000 in
set_option maxRecDepth 100000 in
theorem c_X4_digest {l : Launch} {P : L5} {D : va_G} {N F T : Nat → Nat → Int32} {K : Nat → Int32} {A : Nat → Nat → Int32} {w : Int64} {c : Nat} (hc : K 2 = nI c) (h12 : c ≤ 12) : CtL l yX4_digest cX4_digest 5 6 24 144 P D 97 97 False (cw P N F T K A w) (cw P N F T (upd K 0 0) A w) [.ref (rM P)] (digM K A c) := by
  refine mk_Met pl_X4 [(0, .ref (rM P))] rfl (Nat.le_of_ble_eq_true rfl) ?_
  intro pg en sg mg ag bg mt cd C
  refine v_aload_n C 0 dX4_digest_0 rfl ?_
  refine v_iconst (v := 0) C dX4_digest_1 rfl ?_
  refine v_pM C 0 (by decide) k_513 dX4_digest_2 ?_
  refine v_ldc2 (v := 1259) C dX4_digest_5 k_703 ?_
  refine v_lstore_n (lv' := [(1, .long 1259), (0, .ref (rM P))]) C dX4_digest_8 rfl (by decide) rfl ?_
  refine v_iconst (v := 0) C dX4_digest_9 rfl ?_
  refine v_istore_n (lv' := [(3, .int 0), (1, .long 1259), (0, .ref (rM P))]) C dX4_digest_10 rfl (by decide) rfl ?_
  refine v_iload_n C 0 dX4_digest_11 rfl ?_
  refine v_bipush (v := 11) C dX4_digest_12 rfl ?_
  refine v_icmp_ge (tgt := 36) C dX4_digest_14 (by decide) (fun h9 => absurd h9 (by decide)) (fun _ => ?_)
  refine v_lload_n C 1 dX4_digest_17 rfl ?_
  refine v_ldc2 (v := 31) C dX4_digest_18 k_704 ?_
  refine v_lmul C dX4_digest_21 ?_
  refine v_aload_n C 2 dX4_digest_22 rfl ?_
  refine v_iload_n C 0 dX4_digest_23 rfl ?_
  refine go_I (run_V C (c_X4_counted_0 (K := (upd K 0 0)) hc h12) k_607 k_5 k_604 k_606 ks_31 dd_X4_counted ⟨Nat.le_of_ble_eq_true rfl, Nat.le_of_ble_eq_true rfl⟩ rcM rfl (Nat.le_of_ble_eq_true rfl) dX4_digest_24 ⟨Nat.le_of_ble_eq_true rfl, Nat.le_of_ble_eq_true rfl⟩) ?_
  refine v_i2l C dX4_digest_27 ?_
  refine v_ladd C dX4_digest_28 ?_
  refine v_topl (fun y_1 ey_1 => ?_)
  replace ey_1 : y_1 = dg 1259 (cdM K A c 0) := ey_1
  refine v_lstore_n (lv' := [(1, .long y_1), (3, .int 0), (0, .ref (rM P))]) C dX4_digest_29 rfl (by decide) rfl ?_
  refine v_iinc (b := 1) (lv' := [(3, .int 1), (1, .long y_1), (0, .ref (rM P))]) C 1 dX4_digest_30 rfl rfl (by decide) rfl ?_
  refine v_goto (tgt := 11) C dX4_digest_33 (by decide) ?_
  refine v_iload_n C 0 dX4_digest_11 rfl ?_
  refine v_bipush (v := 11) C dX4_digest_12 rfl ?_
  refine v_icmp_ge (tgt := 36) C dX4_digest_14 (by decide) (fun h9 => absurd h9 (by decide)) (fun _ => ?_)
  refine v_lload_n C 1 dX4_digest_17 rfl ?_
  refine v_ldc2 (v := 31) C dX4_digest_18 k_704 ?_
  refine v_lmul C dX4_digest_21 ?_
  refine v_aload_n C 2 dX4_digest_22 rfl ?_
  refine v_iload_n C 0 dX4_digest_23 rfl ?_
  refine go_I (run_V C (c_X4_counted_1 (K := (upd K 0 0)) hc h12) k_607 k_5 k_604 k_606 ks_31 dd_X4_counted ⟨Nat.le_of_ble_eq_true rfl, Nat.le_of_ble_eq_true rfl⟩ rcM rfl (Nat.le_of_ble_eq_true rfl) dX4_digest_24 ⟨Nat.le_of_ble_eq_true rfl, Nat.le_of_ble_eq_true rfl⟩) ?_
  refine v_i2l C dX4_digest_27 ?_
  refine v_ladd C dX4_digest_28 ?_
  refine v_topl (fun y_2 ey_2 => ?_)
  replace ey_2 : y_2 = dg y_1 (cdM K A c 1) := ey_2
  refine v_lstore_n (lv' := [(1, .long y_2), (3, .int 1), (0, .ref (rM P))]) C dX4_digest_29 rfl (by decide) rfl ?_
  refine v_iinc (b := 2) (lv' := [(3, .int 2), (1, .long y_2), (0, .ref (rM P))]) C 1 dX4_digest_30 rfl rfl (by decide) rfl ?_
  refine v_goto (tgt := 11) C dX4_digest_33 (by decide) ?_
  refine v_iload_n C 0 dX4_digest_11 rfl ?_
  refine v_bipush (v := 11) C dX4_digest_12 rfl ?_
  refine v_icmp_ge (tgt := 36) C dX4_digest_14 (by decide) (fun h9 => absurd h9 (by decide)) (fun _ => ?_)
  refine v_lload_n C 1 dX4_digest_17 rfl ?_
  refine v_ldc2 (v := 31) C dX4_digest_18 k_704 ?_
  refine v_lmul C dX4_digest_21 ?_
  refine v_aload_n C 2 dX4_digest_22 rfl ?_
  refine v_iload_n C 0 dX4_digest_23 rfl ?_
  refine go_I (run_V C (c_X4_counted_2 (K := (upd K 0 0)) hc h12) k_607 k_5 k_604 k_606 ks_31 dd_X4_counted ⟨Nat.le_of_ble_eq_true rfl, Nat.le_of_ble_eq_true rfl⟩ rcM rfl (Nat.le_of_ble_eq_true rfl) dX4_digest_24 ⟨Nat.le_of_ble_eq_true rfl, Nat.le_of_ble_eq_true rfl⟩) ?_
  refine v_i2l C dX4_digest_27 ?_
  refine v_ladd C dX4_digest_28 ?_
  refine v_topl (fun y_3 ey_3 => ?_)
  replace ey_3 : y_3 = dg y_2 (cdM K A c 2) := ey_3
  refine v_lstore_n (lv' := [(1, .long y_3), (3, .int 2), (0, .ref (rM P))]) C dX4_digest_29 rfl (by decide) rfl ?_
  refine v_iinc (b := 3) (lv' := [(3, .int 3), (1, .long y_3), (0, .ref (rM P))]) C 1 dX4_digest_30 rfl rfl (by decide) rfl ?_
  refine v_goto (tgt := 11) C dX4_digest_33 (by decide) ?_
  refine v_iload_n C 0 dX4_digest_11 rfl ?_
  refine v_bipush (v := 11) C dX4_digest_12 rfl ?_
  refine v_icmp_ge (tgt := 36) C dX4_digest_14 (by decide) (fun h9 => absurd h9 (by decide)) (fun _ => ?_)
  refine v_lload_n C 1 dX4_digest_17 rfl ?_
  refine v_ldc2 (v := 31) C dX4_digest_18 k_704 ?_
  refine v_lmul C dX4_digest_21 ?_
  refine v_aload_n C 2 dX4_digest_22 rfl ?_
  refine v_iload_n C 0 dX4_digest_23 rfl ?_
  refine go_I (run_V C (c_X4_counted_3 (K := (upd K 0 0)) hc h12) k_607 k_5 k_604 k_606 ks_31 dd_X4_counted ⟨Nat.le_of_ble_eq_true rfl, Nat.le_of_ble_eq_true rfl⟩ rcM rfl (Nat.le_of_ble_eq_true rfl) dX4_digest_24 ⟨Nat.le_of_ble_eq_true rfl, Nat.le_of_ble_eq_true rfl⟩) ?_
  refine v_i2l C dX4_digest_27 ?_
  refine v_ladd C dX4_digest_28 ?_
  refine v_topl (fun y_4 ey_4 => ?_)
  replace ey_4 : y_4 = dg y_3 (cdM K A c 3) := ey_4
  refine v_lstore_n (lv' := [(1, .long y_4), (3, .int 3), (0, .ref (rM P))]) C dX4_digest_29 rfl (by decide) rfl ?_
  refine v_iinc (b := 4) (lv' := [(3, .int 4), (1, .long y_4), (0, .ref (rM P))]) C 1 dX4_digest_30 rfl rfl (by decide) rfl ?_
  refine v_goto (tgt := 11) C dX4_digest_33 (by decide) ?_
  refine v_iload_n C 0 dX4_digest_11 rfl ?_
  refine v_bipush (v := 11) C dX4_digest_12 rfl ?_
  refine v_icmp_ge (tgt := 36) C dX4_digest_14 (by decide) (fun h9 => absurd h9 (by decide)) (fun _ => ?_)
  refine v_lload_n C 1 dX4_digest_17 rfl ?_
  refine v_ldc2 (v := 31) C dX4_digest_18 k_704 ?_
  refine v_lmul C dX4_digest_21 ?_
  refine v_aload_n C 2 dX4_digest_22 rfl ?_
  refine v_iload_n C 0 dX4_digest_23 rfl ?_
  refine go_I (run_V C (c_X4_counted_4 (K := (upd K 0 0)) hc h12) k_607 k_5 k_604 k_606 ks_31 dd_X4_counted ⟨Nat.le_of_ble_eq_true rfl, Nat.le_of_ble_eq_true rfl⟩ rcM rfl (Nat.le_of_ble_eq_true rfl) dX4_digest_24 ⟨Nat.le_of_ble_eq_true rfl, Nat.le_of_ble_eq_true rfl⟩) ?_
  refine v_i2l C dX4_digest_27 ?_
  refine v_ladd C dX4_digest_28 ?_
  refine v_topl (fun y_5 ey_5 => ?_)
  replace ey_5 : y_5 = dg y_4 (cdM K A c 4) := ey_5
  refine v_lstore_n (lv' := [(1, .long y_5), (3, .int 4), (0, .ref (rM P))]) C dX4_digest_29 rfl (by decide) rfl ?_
  refine v_iinc (b := 5) (lv' := [(3, .int 5), (1, .long y_5), (0, .ref (rM P))]) C 1 dX4_digest_30 rfl rfl (by decide) rfl ?_
  refine v_goto (tgt := 11) C dX4_digest_33 (by decide) ?_
  refine v_iload_n C 0 dX4_digest_11 rfl ?_
  refine v_bipush (v := 11) C dX4_digest_12 rfl ?_
  refine v_icmp_ge (tgt := 36) C dX4_digest_14 (by decide) (fun h9 => absurd h9 (by decide)) (fun _ => ?_)
  refine v_lload_n C 1 dX4_digest_17 rfl ?_
  refine v_ldc2 (v := 31) C dX4_digest_18 k_704 ?_
  refine v_lmul C dX4_digest_21 ?_
  refine v_aload_n C 2 dX4_digest_22 rfl ?_
  refine v_iload_n C 0 dX4_digest_23 rfl ?_
  refine go_I (run_V C (c_X4_counted_5 (K := (upd K 0 0)) hc h12) k_607 k_5 k_604 k_606 ks_31 dd_X4_counted ⟨Nat.le_of_ble_eq_true rfl, Nat.le_of_ble_eq_true rfl⟩ rcM rfl (Nat.le_of_ble_eq_true rfl) dX4_digest_24 ⟨Nat.le_of_ble_eq_true rfl, Nat.le_of_ble_eq_true rfl⟩) ?_
  refine v_i2l C dX4_digest_27 ?_
  refine v_ladd C dX4_digest_28 ?_
  refine v_topl (fun y_6 ey_6 => ?_)
  replace ey_6 : y_6 = dg y_5 (cdM K A c 5) := ey_6
  refine v_lstore_n (lv' := [(1, .long y_6), (3, .int 5), (0, .ref (rM P))]) C dX4_digest_29 rfl (by decide) rfl ?_
  refine v_iinc (b := 6) (lv' := [(3, .int 6), (1, .long y_6), (0, .ref (rM P))]) C 1 dX4_digest_30 rfl rfl (by decide) rfl ?_
  refine v_goto (tgt := 11) C dX4_digest_33 (by decide) ?_
  refine v_iload_n C 0 dX4_digest_11 rfl ?_
  refine v_bipush (v := 11) C dX4_digest_12 rfl ?_
  refine v_icmp_ge (tgt := 36) C dX4_digest_14 (by decide) (fun h9 => absurd h9 (by decide)) (fun _ => ?_)
  refine v_lload_n C 1 dX4_digest_17 rfl ?_
  refine v_ldc2 (v := 31) C dX4_digest_18 k_704 ?_
  refine v_lmul C dX4_digest_21 ?_
  refine v_aload_n C 2 dX4_digest_22 rfl ?_
  refine v_iload_n C 0 dX4_digest_23 rfl ?_
  refine go_I (run_V C (c_X4_counted_6 (K := (upd K 0 0)) hc h12) k_607 k_5 k_604 k_606 ks_31 dd_X4_counted ⟨Nat.le_of_ble_eq_true rfl, Nat.le_of_ble_eq_true rfl⟩ rcM rfl (Nat.le_of_ble_eq_true rfl) dX4_digest_24 ⟨Nat.le_of_ble_eq_true rfl, Nat.le_of_ble_eq_true rfl⟩) ?_
  refine v_i2l C dX4_digest_27 ?_
  refine v_ladd C dX4_digest_28 ?_
  refine v_topl (fun y_7 ey_7 => ?_)
  replace ey_7 : y_7 = dg y_6 (cdM K A c 6) := ey_7
  refine v_lstore_n (lv' := [(1, .long y_7), (3, .int 6), (0, .ref (rM P))]) C dX4_digest_29 rfl (by decide) rfl ?_
  refine v_iinc (b := 7) (lv' := [(3, .int 7), (1, .long y_7), (0, .ref (rM P))]) C 1 dX4_digest_30 rfl rfl (by decide) rfl ?_
  refine v_goto (tgt := 11) C dX4_digest_33 (by decide) ?_
  refine v_iload_n C 0 dX4_digest_11 rfl ?_
  refine v_bipush (v := 11) C dX4_digest_12 rfl ?_
  refine v_icmp_ge (tgt := 36) C dX4_digest_14 (by decide) (fun h9 => absurd h9 (by decide)) (fun _ => ?_)
  refine v_lload_n C 1 dX4_digest_17 rfl ?_
  refine v_ldc2 (v := 31) C dX4_digest_18 k_704 ?_
  refine v_lmul C dX4_digest_21 ?_
  refine v_aload_n C 2 dX4_digest_22 rfl ?_
  refine v_iload_n C 0 dX4_digest_23 rfl ?_
  refine go_I (run_V C (c_X4_counted_7 (K := (upd K 0 0)) hc h12) k_607 k_5 k_604 k_606 ks_31 dd_X4_counted ⟨Nat.le_of_ble_eq_true rfl, Nat.le_of_ble_eq_true rfl⟩ rcM rfl (Nat.le_of_ble_eq_true rfl) dX4_digest_24 ⟨Nat.le_of_ble_eq_true rfl, Nat.le_of_ble_eq_true rfl⟩) ?_
  refine v_i2l C dX4_digest_27 ?_
  refine v_ladd C dX4_digest_28 ?_
  refine v_topl (fun y_8 ey_8 => ?_)
  replace ey_8 : y_8 = dg y_7 (cdM K A c 7) := ey_8
  refine v_lstore_n (lv' := [(1, .long y_8), (3, .int 7), (0, .ref (rM P))]) C dX4_digest_29 rfl (by decide) rfl ?_
  refine v_iinc (b := 8) (lv' := [(3, .int 8), (1, .long y_8), (0, .ref (rM P))]) C 1 dX4_digest_30 rfl rfl (by decide) rfl ?_
  refine v_goto (tgt := 11) C dX4_digest_33 (by decide) ?_
  refine v_iload_n C 0 dX4_digest_11 rfl ?_
  refine v_bipush (v := 11) C dX4_digest_12 rfl ?_
  refine v_icmp_ge (tgt := 36) C dX4_digest_14 (by decide) (fun h9 => absurd h9 (by decide)) (fun _ => ?_)
  refine v_lload_n C 1 dX4_digest_17 rfl ?_
  refine v_ldc2 (v := 31) C dX4_digest_18 k_704 ?_
  refine v_lmul C dX4_digest_21 ?_
  refine v_aload_n C 2 dX4_digest_22 rfl ?_
  refine v_iload_n C 0 dX4_digest_23 rfl ?_
  refine go_I (run_V C (c_X4_counted_8 (K := (upd K 0 0)) hc h12) k_607 k_5 k_604 k_606 ks_31 dd_X4_counted ⟨Nat.le_of_ble_eq_true rfl, Nat.le_of_ble_eq_true rfl⟩ rcM rfl (Nat.le_of_ble_eq_true rfl) dX4_digest_24 ⟨Nat.le_of_ble_eq_true rfl, Nat.le_of_ble_eq_true rfl⟩) ?_
  refine v_i2l C dX4_digest_27 ?_
  refine v_ladd C dX4_digest_28 ?_
  refine v_topl (fun y_9 ey_9 => ?_)
  replace ey_9 : y_9 = dg y_8 (cdM K A c 8) := ey_9
  refine v_lstore_n (lv' := [(1, .long y_9), (3, .int 8), (0, .ref (rM P))]) C dX4_digest_29 rfl (by decide) rfl ?_
  refine v_iinc (b := 9) (lv' := [(3, .int 9), (1, .long y_9), (0, .ref (rM P))]) C 1 dX4_digest_30 rfl rfl (by decide) rfl ?_
  refine v_goto (tgt := 11) C dX4_digest_33 (by decide) ?_
  refine v_iload_n C 0 dX4_digest_11 rfl ?_
  refine v_bipush (v := 11) C dX4_digest_12 rfl ?_
  refine v_icmp_ge (tgt := 36) C dX4_digest_14 (by decide) (fun h9 => absurd h9 (by decide)) (fun _ => ?_)
  refine v_lload_n C 1 dX4_digest_17 rfl ?_
  refine v_ldc2 (v := 31) C dX4_digest_18 k_704 ?_
  refine v_lmul C dX4_digest_21 ?_
  refine v_aload_n C 2 dX4_digest_22 rfl ?_
  refine v_iload_n C 0 dX4_digest_23 rfl ?_
  refine go_I (run_V C (c_X4_counted_9 (K := (upd K 0 0)) hc h12) k_607 k_5 k_604 k_606 ks_31 dd_X4_counted ⟨Nat.le_of_ble_eq_true rfl, Nat.le_of_ble_eq_true rfl⟩ rcM rfl (Nat.le_of_ble_eq_true rfl) dX4_digest_24 ⟨Nat.le_of_ble_eq_true rfl, Nat.le_of_ble_eq_true rfl⟩) ?_
  refine v_i2l C dX4_digest_27 ?_
  refine v_ladd C dX4_digest_28 ?_
  refine v_topl (fun y_10 ey_10 => ?_)
  replace ey_10 : y_10 = dg y_9 (cdM K A c 9) := ey_10
  refine v_lstore_n (lv' := [(1, .long y_10), (3, .int 9), (0, .ref (rM P))]) C dX4_digest_29 rfl (by decide) rfl ?_
  refine v_iinc (b := 10) (lv' := [(3, .int 10), (1, .long y_10), (0, .ref (rM P))]) C 1 dX4_digest_30 rfl rfl (by decide) rfl ?_
  refine v_goto (tgt := 11) C dX4_digest_33 (by decide) ?_
  refine v_iload_n C 0 dX4_digest_11 rfl ?_
  refine v_bipush (v := 11) C dX4_digest_12 rfl ?_
  refine v_icmp_ge (tgt := 36) C dX4_digest_14 (by decide) (fun h9 => absurd h9 (by decide)) (fun _ => ?_)
  refine v_lload_n C 1 dX4_digest_17 rfl ?_
  refine v_ldc2 (v := 31) C dX4_digest_18 k_704 ?_
  refine v_lmul C dX4_digest_21 ?_
  refine v_aload_n C 2 dX4_digest_22 rfl ?_
  refine v_iload_n C 0 dX4_digest_23 rfl ?_
  refine go_I (run_V C (c_X4_counted_10 (K := (upd K 0 0)) hc h12) k_607 k_5 k_604 k_606 ks_31 dd_X4_counted ⟨Nat.le_of_ble_eq_true rfl, Nat.le_of_ble_eq_true rfl⟩ rcM rfl (Nat.le_of_ble_eq_true rfl) dX4_digest_24 ⟨Nat.le_of_ble_eq_true rfl, Nat.le_of_ble_eq_true rfl⟩) ?_
  refine v_i2l C dX4_digest_27 ?_
  refine v_ladd C dX4_digest_28 ?_
  refine v_topl (fun y_11 ey_11 => ?_)
  replace ey_11 : y_11 = dg y_10 (cdM K A c 10) := ey_11
  refine v_lstore_n (lv' := [(1, .long y_11), (3, .int 10), (0, .ref (rM P))]) C dX4_digest_29 rfl (by decide) rfl ?_
  refine v_iinc (b := 11) (lv' := [(3, .int 11), (1, .long y_11), (0, .ref (rM P))]) C 1 dX4_digest_30 rfl rfl (by decide) rfl ?_
  refine v_goto (tgt := 11) C dX4_digest_33 (by decide) ?_
  refine v_iload_n C 0 dX4_digest_11 rfl ?_
  refine v_bipush (v := 11) C dX4_digest_12 rfl ?_
  refine v_icmp_ge (tgt := 36) C dX4_digest_14 (by decide) (fun _ => ?_) (fun h9 => absurd (by decide) h9)
  refine v_iconst (v := 0) C dX4_digest_36 rfl ?_
  refine v_istore_n (lv' := [(3, .int 0), (1, .long y_11), (0, .ref (rM P))]) C dX4_digest_37 rfl (by decide) rfl ?_
  have L_1 : ∀ (n : Nat) (i : Nat) (d : Int64), i ≤ c → c < i + n → V pg l en (rmO 6 24 144) sg mg ag bg mt cd P D (MQ bg (QcL P D 97 False (cw P N F T (upd K 0 0) A w) (digM K A c)) ag sg 24 144 (aO P)) 5 97 False (cw P N F T (upd K 0 0) A w) 0 0 147 [(1, .long (diM n c i A d)), (0, .ref (rM P))] [] → V pg l en (rmO 6 24 144) sg mg ag bg mt cd P D (MQ bg (QcL P D 97 False (cw P N F T (upd K 0 0) A w) (digM K A c)) ag sg 24 144 (aO P)) 5 97 False (cw P N F T (upd K 0 0) A w) 0 0 38 [(3, .int (nI i)), (1, .long d), (0, .ref (rM P))] [] := by
    intro n
    induction n with
    | zero => intro i d z1 z2; omega
    | succ n ih =>
      intro i d z1 z2 hk9
      refine v_iload_n C 0 dX4_digest_38 rfl ?_
      refine v_aload_n C 2 dX4_digest_39 rfl ?_
      refine v_gM C 2 (by decide) k_515 rfl dX4_digest_40 ?_
      refine v_icmp_ge (tgt := 147) C dX4_digest_43 (by decide) (fun h43_1 => ?_) (fun h43_1 => ?_)
      · refine v_lv [1, 2] rfl ?_
        have hic : c ≤ i := (leC (a := upd K 0 0 2) hc h12 z1).mp h43_1
        have e9 : diM (n + 1) c i A d = d := by rw [diM, if_pos hic]
        rw [e9] at hk9
        exact hk9
      · have hic : i < c := Nat.not_le.mp (fun z => h43_1 ((leC (a := upd K 0 0 2) hc h12 z1).mpr z))
        refine v_iconst (v := 0) C dX4_digest_46 rfl ?_
        refine v_istore (lv' := [(4, .int 0), (3, .int (nI i)), (1, .long d), (0, .ref (rM P))]) C dX4_digest_47 (by decide) rfl ?_
        refine v_iload C 0 dX4_digest_49 rfl ?_
        refine v_bipush (v := 12) C dX4_digest_51 rfl ?_
        refine v_icmp_ge (tgt := 82) C dX4_digest_53 (by decide) (fun h9 => absurd h9 (by decide)) (fun _ => ?_)
        refine v_lload_n C 2 dX4_digest_56 rfl ?_
        refine v_ldc2 (v := 31) C dX4_digest_57 k_704 ?_
        refine v_lmul C dX4_digest_60 ?_
        refine v_aload_n C 3 dX4_digest_61 rfl ?_
        refine v_gM C 3 (by decide) k_516 rfl dX4_digest_62 ?_
        refine v_bipush (v := 20) C dX4_digest_65 rfl ?_
        refine v_iload_n C 1 dX4_digest_67 rfl ?_
        refine v_imul C dX4_digest_68 ?_
        refine v_iload C 0 dX4_digest_69 rfl ?_
        refine v_iadd C dX4_digest_71 ?_
        refine v_ldAk C ((20 * i) + 0) (by decide) (ixA (ixM rfl rfl) rfl) (show _ < 240 by omega) rfl dX4_digest_72 ?_
        refine v_i2l C dX4_digest_73 ?_
        refine v_ladd C dX4_digest_74 ?_
        refine v_topl (fun y_12 ey_12 => ?_)
        replace ey_12 : y_12 = dg d (rowO (A 0) (20 * i) 0) := ey_12
        refine v_lstore_n (lv' := [(1, .long y_12), (4, .int 0), (3, .int (nI i)), (0, .ref (rM P))]) C dX4_digest_75 rfl (by decide) rfl ?_
        refine v_iinc (b := 1) (lv' := [(4, .int 1), (1, .long y_12), (3, .int (nI i)), (0, .ref (rM P))]) C 1 dX4_digest_76 rfl rfl (by decide) rfl ?_
        refine v_goto (tgt := 49) C dX4_digest_79 (by decide) ?_
        refine v_iload C 0 dX4_digest_49 rfl ?_
        refine v_bipush (v := 12) C dX4_digest_51 rfl ?_
        refine v_icmp_ge (tgt := 82) C dX4_digest_53 (by decide) (fun h9 => absurd h9 (by decide)) (fun _ => ?_)
        refine v_lload_n C 1 dX4_digest_56 rfl ?_
        refine v_ldc2 (v := 31) C dX4_digest_57 k_704 ?_
        refine v_lmul C dX4_digest_60 ?_
        refine v_aload_n C 3 dX4_digest_61 rfl ?_
        refine v_gM C 3 (by decide) k_516 rfl dX4_digest_62 ?_
        refine v_bipush (v := 20) C dX4_digest_65 rfl ?_
        refine v_iload_n C 2 dX4_digest_67 rfl ?_
        refine v_imul C dX4_digest_68 ?_
        refine v_iload C 0 dX4_digest_69 rfl ?_
        refine v_iadd C dX4_digest_71 ?_
        refine v_ldAk C ((20 * i) + 1) (by decide) (ixA (ixM rfl rfl) rfl) (show _ < 240 by omega) rfl dX4_digest_72 ?_
        refine v_i2l C dX4_digest_73 ?_
        refine v_ladd C dX4_digest_74 ?_
        refine v_topl (fun y_13 ey_13 => ?_)
        replace ey_13 : y_13 = dg y_12 (rowO (A 0) (20 * i) 1) := ey_13
        refine v_lstore_n (lv' := [(1, .long y_13), (4, .int 1), (3, .int (nI i)), (0, .ref (rM P))]) C dX4_digest_75 rfl (by decide) rfl ?_
        refine v_iinc (b := 2) (lv' := [(4, .int 2), (1, .long y_13), (3, .int (nI i)), (0, .ref (rM P))]) C 1 dX4_digest_76 rfl rfl (by decide) rfl ?_
        refine v_goto (tgt := 49) C dX4_digest_79 (by decide) ?_
        refine v_iload C 0 dX4_digest_49 rfl ?_
        refine v_bipush (v := 12) C dX4_digest_51 rfl ?_
        refine v_icmp_ge (tgt := 82) C dX4_digest_53 (by decide) (fun h9 => absurd h9 (by decide)) (fun _ => ?_)
        refine v_lload_n C 1 dX4_digest_56 rfl ?_
        refine v_ldc2 (v := 31) C dX4_digest_57 k_704 ?_
        refine v_lmul C dX4_digest_60 ?_
        refine v_aload_n C 3 dX4_digest_61 rfl ?_
        refine v_gM C 3 (by decide) k_516 rfl dX4_digest_62 ?_
        refine v_bipush (v := 20) C dX4_digest_65 rfl ?_
        refine v_iload_n C 2 dX4_digest_67 rfl ?_
        refine v_imul C dX4_digest_68 ?_
        refine v_iload C 0 dX4_digest_69 rfl ?_
        refine v_iadd C dX4_digest_71 ?_
        refine v_ldAk C ((20 * i) + 2) (by decide) (ixA (ixM rfl rfl) rfl) (show _ < 240 by omega) rfl dX4_digest_72 ?_
        refine v_i2l C dX4_digest_73 ?_
        refine v_ladd C dX4_digest_74 ?_
        refine v_topl (fun y_14 ey_14 => ?_)
        replace ey_14 : y_14 = dg y_13 (rowO (A 0) (20 * i) 2) := ey_14
        refine v_lstore_n (lv' := [(1, .long y_14), (4, .int 2), (3, .int (nI i)), (0, .ref (rM P))]) C dX4_digest_75 rfl (by decide) rfl ?_
        refine v_iinc (b := 3) (lv' := [(4, .int 3), (1, .long y_14), (3, .int (nI i)), (0, .ref (rM P))]) C 1 dX4_digest_76 rfl rfl (by decide) rfl ?_
        refine v_goto (tgt := 49) C dX4_digest_79 (by decide) ?_
        refine v_iload C 0 dX4_digest_49 rfl ?_
        refine v_bipush (v := 12) C dX4_digest_51 rfl ?_
        refine v_icmp_ge (tgt := 82) C dX4_digest_53 (by decide) (fun h9 => absurd h9 (by decide)) (fun _ => ?_)
        refine v_lload_n C 1 dX4_digest_56 rfl ?_
        refine v_ldc2 (v := 31) C dX4_digest_57 k_704 ?_
        refine v_lmul C dX4_digest_60 ?_
        refine v_aload_n C 3 dX4_digest_61 rfl ?_
        refine v_gM C 3 (by decide) k_516 rfl dX4_digest_62 ?_
        refine v_bipush (v := 20) C dX4_digest_65 rfl ?_
        refine v_iload_n C 2 dX4_digest_67 rfl ?_
        refine v_imul C dX4_digest_68 ?_
        refine v_iload C 0 dX4_digest_69 rfl ?_
        refine v_iadd C dX4_digest_71 ?_
        refine v_ldAk C ((20 * i) + 3) (by decide) (ixA (ixM rfl rfl) rfl) (show _ < 240 by omega) rfl dX4_digest_72 ?_
        refine v_i2l C dX4_digest_73 ?_
        refine v_ladd C dX4_digest_74 ?_
        refine v_topl (fun y_15 ey_15 => ?_)
        replace ey_15 : y_15 = dg y_14 (rowO (A 0) (20 * i) 3) := ey_15
        refine v_lstore_n (lv' := [(1, .long y_15), (4, .int 3), (3, .int (nI i)), (0, .ref (rM P))]) C dX4_digest_75 rfl (by decide) rfl ?_
        refine v_iinc (b := 4) (lv' := [(4, .int 4), (1, .long y_15), (3, .int (nI i)), (0, .ref (rM P))]) C 1 dX4_digest_76 rfl rfl (by decide) rfl ?_
        refine v_goto (tgt := 49) C dX4_digest_79 (by decide) ?_
        refine v_iload C 0 dX4_digest_49 rfl ?_
        refine v_bipush (v := 12) C dX4_digest_51 rfl ?_
        refine v_icmp_ge (tgt := 82) C dX4_digest_53 (by decide) (fun h9 => absurd h9 (by decide)) (fun _ => ?_)
        refine v_lload_n C 1 dX4_digest_56 rfl ?_
        refine v_ldc2 (v := 31) C dX4_digest_57 k_704 ?_
        refine v_lmul C dX4_digest_60 ?_
        refine v_aload_n C 3 dX4_digest_61 rfl ?_
        refine v_gM C 3 (by decide) k_516 rfl dX4_digest_62 ?_
        refine v_bipush (v := 20) C dX4_digest_65 rfl ?_
        refine v_iload_n C 2 dX4_digest_67 rfl ?_
        refine v_imul C dX4_digest_68 ?_
        refine v_iload C 0 dX4_digest_69 rfl ?_
        refine v_iadd C dX4_digest_71 ?_
        refine v_ldAk C ((20 * i) + 4) (by decide) (ixA (ixM rfl rfl) rfl) (show _ < 240 by omega) rfl dX4_digest_72 ?_
        refine v_i2l C dX4_digest_73 ?_
        refine v_ladd C dX4_digest_74 ?_
        refine v_topl (fun y_16 ey_16 => ?_)
        replace ey_16 : y_16 = dg y_15 (rowO (A 0) (20 * i) 4) := ey_16
        refine v_lstore_n (lv' := [(1, .long y_16), (4, .int 4), (3, .int (nI i)), (0, .ref (rM P))]) C dX4_digest_75 rfl (by decide) rfl ?_
        refine v_iinc (b := 5) (lv' := [(4, .int 5), (1, .long y_16), (3, .int (nI i)), (0, .ref (rM P))]) C 1 dX4_digest_76 rfl rfl (by decide) rfl ?_
        refine v_goto (tgt := 49) C dX4_digest_79 (by decide) ?_
        refine v_iload C 0 dX4_digest_49 rfl ?_
        refine v_bipush (v := 12) C dX4_digest_51 rfl ?_
        refine v_icmp_ge (tgt := 82) C dX4_digest_53 (by decide) (fun h9 => absurd h9 (by decide)) (fun _ => ?_)
        refine v_lload_n C 1 dX4_digest_56 rfl ?_
        refine v_ldc2 (v := 31) C dX4_digest_57 k_704 ?_
        refine v_lmul C dX4_digest_60 ?_
        refine v_aload_n C 3 dX4_digest_61 rfl ?_
        refine v_gM C 3 (by decide) k_516 rfl dX4_digest_62 ?_
        refine v_bipush (v := 20) C dX4_digest_65 rfl ?_
        refine v_iload_n C 2 dX4_digest_67 rfl ?_
        refine v_imul C dX4_digest_68 ?_
        refine v_iload C 0 dX4_digest_69 rfl ?_
        refine v_iadd C dX4_digest_71 ?_
        refine v_ldAk C ((20 * i) + 5) (by decide) (ixA (ixM rfl rfl) rfl) (show _ < 240 by omega) rfl dX4_digest_72 ?_
        refine v_i2l C dX4_digest_73 ?_
        refine v_ladd C dX4_digest_74 ?_
        refine v_topl (fun y_17 ey_17 => ?_)
        replace ey_17 : y_17 = dg y_16 (rowO (A 0) (20 * i) 5) := ey_17
        refine v_lstore_n (lv' := [(1, .long y_17), (4, .int 5), (3, .int (nI i)), (0, .ref (rM P))]) C dX4_digest_75 rfl (by decide) rfl ?_
        refine v_iinc (b := 6) (lv' := [(4, .int 6), (1, .long y_17), (3, .int (nI i)), (0, .ref (rM P))]) C 1 dX4_digest_76 rfl rfl (by decide) rfl ?_
        refine v_goto (tgt := 49) C dX4_digest_79 (by decide) ?_
        refine v_iload C 0 dX4_digest_49 rfl ?_
        refine v_bipush (v := 12) C dX4_digest_51 rfl ?_
        refine v_icmp_ge (tgt := 82) C dX4_digest_53 (by decide) (fun h9 => absurd h9 (by decide)) (fun _ => ?_)
        refine v_lload_n C 1 dX4_digest_56 rfl ?_
        refine v_ldc2 (v := 31) C dX4_digest_57 k_704 ?_
        refine v_lmul C dX4_digest_60 ?_
        refine v_aload_n C 3 dX4_digest_61 rfl ?_
        refine v_gM C 3 (by decide) k_516 rfl dX4_digest_62 ?_
        refine v_bipush (v := 20) C dX4_digest_65 rfl ?_
        refine v_iload_n C 2 dX4_digest_67 rfl ?_
        refine v_imul C dX4_digest_68 ?_
        refine v_iload C 0 dX4_digest_69 rfl ?_
        refine v_iadd C dX4_digest_71 ?_
        refine v_ldAk C ((20 * i) + 6) (by decide) (ixA (ixM rfl rfl) rfl) (show _ < 240 by omega) rfl dX4_digest_72 ?_
        refine v_i2l C dX4_digest_73 ?_
        refine v_ladd C dX4_digest_74 ?_
        refine v_topl (fun y_18 ey_18 => ?_)
        replace ey_18 : y_18 = dg y_17 (rowO (A 0) (20 * i) 6) := ey_18
        refine v_lstore_n (lv' := [(1, .long y_18), (4, .int 6), (3, .int (nI i)), (0, .ref (rM P))]) C dX4_digest_75 rfl (by decide) rfl ?_
        refine v_iinc (b := 7) (lv' := [(4, .int 7), (1, .long y_18), (3, .int (nI i)), (0, .ref (rM P))]) C 1 dX4_digest_76 rfl rfl (by decide) rfl ?_
        refine v_goto (tgt := 49) C dX4_digest_79 (by decide) ?_
        refine v_iload C 0 dX4_digest_49 rfl ?_
        refine v_bipush (v := 12) C dX4_digest_51 rfl ?_
        refine v_icmp_ge (tgt := 82) C dX4_digest_53 (by decide) (fun h9 => absurd h9 (by decide)) (fun _ => ?_)
        refine v_lload_n C 1 dX4_digest_56 rfl ?_
        refine v_ldc2 (v := 31) C dX4_digest_57 k_704 ?_
        refine v_lmul C dX4_digest_60 ?_
        refine v_aload_n C 3 dX4_digest_61 rfl ?_
        refine v_gM C 3 (by decide) k_516 rfl dX4_digest_62 ?_
        refine v_bipush (v := 20) C dX4_digest_65 rfl ?_
        refine v_iload_n C 2 dX4_digest_67 rfl ?_
        refine v_imul C dX4_digest_68 ?_
        refine v_iload C 0 dX4_digest_69 rfl ?_
        refine v_iadd C dX4_digest_71 ?_
        refine v_ldAk C ((20 * i) + 7) (by decide) (ixA (ixM rfl rfl) rfl) (show _ < 240 by omega) rfl dX4_digest_72 ?_
        refine v_i2l C dX4_digest_73 ?_
        refine v_ladd C dX4_digest_74 ?_
        refine v_topl (fun y_19 ey_19 => ?_)
        replace ey_19 : y_19 = dg y_18 (rowO (A 0) (20 * i) 7) := ey_19
        refine v_lstore_n (lv' := [(1, .long y_19), (4, .int 7), (3, .int (nI i)), (0, .ref (rM P))]) C dX4_digest_75 rfl (by decide) rfl ?_
        refine v_iinc (b := 8) (lv' := [(4, .int 8), (1, .long y_19), (3, .int (nI i)), (0, .ref (rM P))]) C 1 dX4_digest_76 rfl rfl (by decide) rfl ?_
        refine v_goto (tgt := 49) C dX4_digest_79 (by decide) ?_
        refine v_iload C 0 dX4_digest_49 rfl ?_
        refine v_bipush (v := 12) C dX4_digest_51 rfl ?_
        refine v_icmp_ge (tgt := 82) C dX4_digest_53 (by decide) (fun h9 => absurd h9 (by decide)) (fun _ => ?_)
        refine v_lload_n C 1 dX4_digest_56 rfl ?_
        refine v_ldc2 (v := 31) C dX4_digest_57 k_704 ?_
        refine v_lmul C dX4_digest_60 ?_
        refine v_aload_n C 3 dX4_digest_61 rfl ?_
        refine v_gM C 3 (by decide) k_516 rfl dX4_digest_62 ?_
        refine v_bipush (v := 20) C dX4_digest_65 rfl ?_
        refine v_iload_n C 2 dX4_digest_67 rfl ?_
        refine v_imul C dX4_digest_68 ?_
        refine v_iload C 0 dX4_digest_69 rfl ?_
        refine v_iadd C dX4_digest_71 ?_
        refine v_ldAk C ((20 * i) + 8) (by decide) (ixA (ixM rfl rfl) rfl) (show _ < 240 by omega) rfl dX4_digest_72 ?_
        refine v_i2l C dX4_digest_73 ?_
        refine v_ladd C dX4_digest_74 ?_
        refine v_topl (fun y_20 ey_20 => ?_)
        replace ey_20 : y_20 = dg y_19 (rowO (A 0) (20 * i) 8) := ey_20
        refine v_lstore_n (lv' := [(1, .long y_20), (4, .int 8), (3, .int (nI i)), (0, .ref (rM P))]) C dX4_digest_75 rfl (by decide) rfl ?_
        refine v_iinc (b := 9) (lv' := [(4, .int 9), (1, .long y_20), (3, .int (nI i)), (0, .ref (rM P))]) C 1 dX4_digest_76 rfl rfl (by decide) rfl ?_
        refine v_goto (tgt := 49) C dX4_digest_79 (by decide) ?_
        refine v_iload C 0 dX4_digest_49 rfl ?_
        refine v_bipush (v := 12) C dX4_digest_51 rfl ?_
        refine v_icmp_ge (tgt := 82) C dX4_digest_53 (by decide) (fun h9 => absurd h9 (by decide)) (fun _ => ?_)
        refine v_lload_n C 1 dX4_digest_56 rfl ?_
        refine v_ldc2 (v := 31) C dX4_digest_57 k_704 ?_
        refine v_lmul C dX4_digest_60 ?_
        refine v_aload_n C 3 dX4_digest_61 rfl ?_
        refine v_gM C 3 (by decide) k_516 rfl dX4_digest_62 ?_
        refine v_bipush (v := 20) C dX4_digest_65 rfl ?_
        refine v_iload_n C 2 dX4_digest_67 rfl ?_
        refine v_imul C dX4_digest_68 ?_
        refine v_iload C 0 dX4_digest_69 rfl ?_
        refine v_iadd C dX4_digest_71 ?_
        refine v_ldAk C ((20 * i) + 9) (by decide) (ixA (ixM rfl rfl) rfl) (show _ < 240 by omega) rfl dX4_digest_72 ?_
        refine v_i2l C dX4_digest_73 ?_
        refine v_ladd C dX4_digest_74 ?_
        refine v_topl (fun y_21 ey_21 => ?_)
        replace ey_21 : y_21 = dg y_20 (rowO (A 0) (20 * i) 9) := ey_21
        refine v_lstore_n (lv' := [(1, .long y_21), (4, .int 9), (3, .int (nI i)), (0, .ref (rM P))]) C dX4_digest_75 rfl (by decide) rfl ?_
        refine v_iinc (b := 10) (lv' := [(4, .int 10), (1, .long y_21), (3, .int (nI i)), (0, .ref (rM P))]) C 1 dX4_digest_76 rfl rfl (by decide) rfl ?_
        refine v_goto (tgt := 49) C dX4_digest_79 (by decide) ?_
        refine v_iload C 0 dX4_digest_49 rfl ?_
        refine v_bipush (v := 12) C dX4_digest_51 rfl ?_
        refine v_icmp_ge (tgt := 82) C dX4_digest_53 (by decide) (fun h9 => absurd h9 (by decide)) (fun _ => ?_)
        refine v_lload_n C 1 dX4_digest_56 rfl ?_
        refine v_ldc2 (v := 31) C dX4_digest_57 k_704 ?_
        refine v_lmul C dX4_digest_60 ?_
        refine v_aload_n C 3 dX4_digest_61 rfl ?_
        refine v_gM C 3 (by decide) k_516 rfl dX4_digest_62 ?_
        refine v_bipush (v := 20) C dX4_digest_65 rfl ?_
        refine v_iload_n C 2 dX4_digest_67 rfl ?_
        refine v_imul C dX4_digest_68 ?_
        refine v_iload C 0 dX4_digest_69 rfl ?_
        refine v_iadd C dX4_digest_71 ?_
        refine v_ldAk C ((20 * i) + 10) (by decide) (ixA (ixM rfl rfl) rfl) (show _ < 240 by omega) rfl dX4_digest_72 ?_
        refine v_i2l C dX4_digest_73 ?_
        refine v_ladd C dX4_digest_74 ?_
        refine v_topl (fun y_22 ey_22 => ?_)
        replace ey_22 : y_22 = dg y_21 (rowO (A 0) (20 * i) 10) := ey_22
        refine v_lstore_n (lv' := [(1, .long y_22), (4, .int 10), (3, .int (nI i)), (0, .ref (rM P))]) C dX4_digest_75 rfl (by decide) rfl ?_
        refine v_iinc (b := 11) (lv' := [(4, .int 11), (1, .long y_22), (3, .int (nI i)), (0, .ref (rM P))]) C 1 dX4_digest_76 rfl rfl (by decide) rfl ?_
        refine v_goto (tgt := 49) C dX4_digest_79 (by decide) ?_
        refine v_iload C 0 dX4_digest_49 rfl ?_
        refine v_bipush (v := 12) C dX4_digest_51 rfl ?_
        refine v_icmp_ge (tgt := 82) C dX4_digest_53 (by decide) (fun h9 => absurd h9 (by decide)) (fun _ => ?_)
        refine v_lload_n C 1 dX4_digest_56 rfl ?_
        refine v_ldc2 (v := 31) C dX4_digest_57 k_704 ?_
        refine v_lmul C dX4_digest_60 ?_
        refine v_aload_n C 3 dX4_digest_61 rfl ?_
        refine v_gM C 3 (by decide) k_516 rfl dX4_digest_62 ?_
        refine v_bipush (v := 20) C dX4_digest_65 rfl ?_
        refine v_iload_n C 2 dX4_digest_67 rfl ?_
        refine v_imul C dX4_digest_68 ?_
        refine v_iload C 0 dX4_digest_69 rfl ?_
        refine v_iadd C dX4_digest_71 ?_
        refine v_ldAk C ((20 * i) + 11) (by decide) (ixA (ixM rfl rfl) rfl) (show _ < 240 by omega) rfl dX4_digest_72 ?_
        refine v_i2l C dX4_digest_73 ?_
        refine v_ladd C dX4_digest_74 ?_
        refine v_topl (fun y_23 ey_23 => ?_)
        replace ey_23 : y_23 = dg y_22 (rowO (A 0) (20 * i) 11) := ey_23
        refine v_lstore_n (lv' := [(1, .long y_23), (4, .int 11), (3, .int (nI i)), (0, .ref (rM P))]) C dX4_digest_75 rfl (by decide) rfl ?_
        refine v_iinc (b := 12) (lv' := [(4, .int 12), (1, .long y_23), (3, .int (nI i)), (0, .ref (rM P))]) C 1 dX4_digest_76 rfl rfl (by decide) rfl ?_
        refine v_goto (tgt := 49) C dX4_digest_79 (by decide) ?_
        refine v_iload C 0 dX4_digest_49 rfl ?_
        refine v_bipush (v := 12) C dX4_digest_51 rfl ?_
        refine v_icmp_ge (tgt := 82) C dX4_digest_53 (by decide) (fun _ => ?_) (fun h9 => absurd (by decide) h9)
        refine v_iconst (v := 0) C dX4_digest_82 rfl ?_
        refine v_istore (lv' := [(4, .int 0), (1, .long y_23), (3, .int (nI i)), (0, .ref (rM P))]) C dX4_digest_83 (by decide) rfl ?_
        refine v_iload C 0 dX4_digest_85 rfl ?_
        refine v_iconst (v := 4) C dX4_digest_87 rfl ?_
        refine v_icmp_ge (tgt := 141) C dX4_digest_88 (by decide) (fun h9 => absurd h9 (by decide)) (fun _ => ?_)
        refine v_lload_n C 1 dX4_digest_91 rfl ?_
        refine v_ldc2 (v := 31) C dX4_digest_92 k_704 ?_
        refine v_lmul C dX4_digest_95 ?_
        refine v_aload_n C 3 dX4_digest_96 rfl ?_
        refine v_gM C 3 (by decide) k_516 rfl dX4_digest_97 ?_
        refine v_bipush (v := 20) C dX4_digest_100 rfl ?_
        refine v_iload_n C 2 dX4_digest_102 rfl ?_
        refine v_imul C dX4_digest_103 ?_
        refine v_bipush (v := 12) C dX4_digest_104 rfl ?_
        refine v_iadd C dX4_digest_106 ?_
        refine v_iload C 0 dX4_digest_107 rfl ?_
        refine v_iadd C dX4_digest_109 ?_
        refine v_ldAk C ((20 * i) + (12 + 0)) (by decide) (ixB (ixA (ixM rfl rfl) rfl) rfl) (show _ < 240 by omega) rfl dX4_digest_110 ?_
        refine v_i2l C dX4_digest_111 ?_
        refine v_ladd C dX4_digest_112 ?_
        refine v_ldc2 (v := 31) C dX4_digest_113 k_704 ?_
        refine v_lmul C dX4_digest_116 ?_
        refine v_aload_n C 3 dX4_digest_117 rfl ?_
        refine v_gM C 3 (by decide) k_516 rfl dX4_digest_118 ?_
        refine v_bipush (v := 20) C dX4_digest_121 rfl ?_
        refine v_iload_n C 2 dX4_digest_123 rfl ?_
        refine v_imul C dX4_digest_124 ?_
        refine v_bipush (v := 16) C dX4_digest_125 rfl ?_
        refine v_iadd C dX4_digest_127 ?_
        refine v_iload C 0 dX4_digest_128 rfl ?_
        refine v_iadd C dX4_digest_130 ?_
        refine v_ldAk C ((20 * i) + (16 + 0)) (by decide) (ixB (ixA (ixM rfl rfl) rfl) rfl) (show _ < 240 by omega) rfl dX4_digest_131 ?_
        refine v_i2l C dX4_digest_132 ?_
        refine v_ladd C dX4_digest_133 ?_
        refine v_topl (fun y_24 ey_24 => ?_)
        replace ey_24 : y_24 = dg (dg y_23 (rowO (A 0) (20 * i) 12)) (rowO (A 0) (20 * i) 16) := ey_24
        refine v_lstore_n (lv' := [(1, .long y_24), (4, .int 0), (3, .int (nI i)), (0, .ref (rM P))]) C dX4_digest_134 rfl (by decide) rfl ?_
        refine v_iinc (b := 1) (lv' := [(4, .int 1), (1, .long y_24), (3, .int (nI i)), (0, .ref (rM P))]) C 1 dX4_digest_135 rfl rfl (by decide) rfl ?_
        refine v_goto (tgt := 85) C dX4_digest_138 (by decide) ?_
        refine v_iload C 0 dX4_digest_85 rfl ?_
        refine v_iconst (v := 4) C dX4_digest_87 rfl ?_
        refine v_icmp_ge (tgt := 141) C dX4_digest_88 (by decide) (fun h9 => absurd h9 (by decide)) (fun _ => ?_)
        refine v_lload_n C 1 dX4_digest_91 rfl ?_
        refine v_ldc2 (v := 31) C dX4_digest_92 k_704 ?_
        refine v_lmul C dX4_digest_95 ?_
        refine v_aload_n C 3 dX4_digest_96 rfl ?_
        refine v_gM C 3 (by decide) k_516 rfl dX4_digest_97 ?_
        refine v_bipush (v := 20) C dX4_digest_100 rfl ?_
        refine v_iload_n C 2 dX4_digest_102 rfl ?_
        refine v_imul C dX4_digest_103 ?_
        refine v_bipush (v := 12) C dX4_digest_104 rfl ?_
        refine v_iadd C dX4_digest_106 ?_
        refine v_iload C 0 dX4_digest_107 rfl ?_
        refine v_iadd C dX4_digest_109 ?_
        refine v_ldAk C ((20 * i) + (12 + 1)) (by decide) (ixB (ixA (ixM rfl rfl) rfl) rfl) (show _ < 240 by omega) rfl dX4_digest_110 ?_
        refine v_i2l C dX4_digest_111 ?_
        refine v_ladd C dX4_digest_112 ?_
        refine v_ldc2 (v := 31) C dX4_digest_113 k_704 ?_
        refine v_lmul C dX4_digest_116 ?_
        refine v_aload_n C 3 dX4_digest_117 rfl ?_
        refine v_gM C 3 (by decide) k_516 rfl dX4_digest_118 ?_
        refine v_bipush (v := 20) C dX4_digest_121 rfl ?_
        refine v_iload_n C 2 dX4_digest_123 rfl ?_
        refine v_imul C dX4_digest_124 ?_
        refine v_bipush (v := 16) C dX4_digest_125 rfl ?_
        refine v_iadd C dX4_digest_127 ?_
        refine v_iload C 0 dX4_digest_128 rfl ?_
        refine v_iadd C dX4_digest_130 ?_
        refine v_ldAk C ((20 * i) + (16 + 1)) (by decide) (ixB (ixA (ixM rfl rfl) rfl) rfl) (show _ < 240 by omega) rfl dX4_digest_131 ?_
        refine v_i2l C dX4_digest_132 ?_
        refine v_ladd C dX4_digest_133 ?_
        refine v_topl (fun y_25 ey_25 => ?_)
        replace ey_25 : y_25 = dg (dg y_24 (rowO (A 0) (20 * i) 13)) (rowO (A 0) (20 * i) 17) := ey_25
        refine v_lstore_n (lv' := [(1, .long y_25), (4, .int 1), (3, .int (nI i)), (0, .ref (rM P))]) C dX4_digest_134 rfl (by decide) rfl ?_
        refine v_iinc (b := 2) (lv' := [(4, .int 2), (1, .long y_25), (3, .int (nI i)), (0, .ref (rM P))]) C 1 dX4_digest_135 rfl rfl (by decide) rfl ?_
        refine v_goto (tgt := 85) C dX4_digest_138 (by decide) ?_
        refine v_iload C 0 dX4_digest_85 rfl ?_
        refine v_iconst (v := 4) C dX4_digest_87 rfl ?_
        refine v_icmp_ge (tgt := 141) C dX4_digest_88 (by decide) (fun h9 => absurd h9 (by decide)) (fun _ => ?_)
        refine v_lload_n C 1 dX4_digest_91 rfl ?_
        refine v_ldc2 (v := 31) C dX4_digest_92 k_704 ?_
        refine v_lmul C dX4_digest_95 ?_
        refine v_aload_n C 3 dX4_digest_96 rfl ?_
        refine v_gM C 3 (by decide) k_516 rfl dX4_digest_97 ?_
        refine v_bipush (v := 20) C dX4_digest_100 rfl ?_
        refine v_iload_n C 2 dX4_digest_102 rfl ?_
        refine v_imul C dX4_digest_103 ?_
        refine v_bipush (v := 12) C dX4_digest_104 rfl ?_
        refine v_iadd C dX4_digest_106 ?_
        refine v_iload C 0 dX4_digest_107 rfl ?_
        refine v_iadd C dX4_digest_109 ?_
        refine v_ldAk C ((20 * i) + (12 + 2)) (by decide) (ixB (ixA (ixM rfl rfl) rfl) rfl) (show _ < 240 by omega) rfl dX4_digest_110 ?_
        refine v_i2l C dX4_digest_111 ?_
        refine v_ladd C dX4_digest_112 ?_
        refine v_ldc2 (v := 31) C dX4_digest_113 k_704 ?_
        refine v_lmul C dX4_digest_116 ?_
        refine v_aload_n C 3 dX4_digest_117 rfl ?_
        refine v_gM C 3 (by decide) k_516 rfl dX4_digest_118 ?_
        refine v_bipush (v := 20) C dX4_digest_121 rfl ?_
        refine v_iload_n C 2 dX4_digest_123 rfl ?_
        refine v_imul C dX4_digest_124 ?_
        refine v_bipush (v := 16) C dX4_digest_125 rfl ?_
        refine v_iadd C dX4_digest_127 ?_
        refine v_iload C 0 dX4_digest_128 rfl ?_
        refine v_iadd C dX4_digest_130 ?_
        refine v_ldAk C ((20 * i) + (16 + 2)) (by decide) (ixB (ixA (ixM rfl rfl) rfl) rfl) (show _ < 240 by omega) rfl dX4_digest_131 ?_
        refine v_i2l C dX4_digest_132 ?_
        refine v_ladd C dX4_digest_133 ?_
        refine v_topl (fun y_26 ey_26 => ?_)
        replace ey_26 : y_26 = dg (dg y_25 (rowO (A 0) (20 * i) 14)) (rowO (A 0) (20 * i) 18) := ey_26
        refine v_lstore_n (lv' := [(1, .long y_26), (4, .int 2), (3, .int (nI i)), (0, .ref (rM P))]) C dX4_digest_134 rfl (by decide) rfl ?_
        refine v_iinc (b := 3) (lv' := [(4, .int 3), (1, .long y_26), (3, .int (nI i)), (0, .ref (rM P))]) C 1 dX4_digest_135 rfl rfl (by decide) rfl ?_
        refine v_goto (tgt := 85) C dX4_digest_138 (by decide) ?_
        refine v_iload C 0 dX4_digest_85 rfl ?_
        refine v_iconst (v := 4) C dX4_digest_87 rfl ?_
        refine v_icmp_ge (tgt := 141) C dX4_digest_88 (by decide) (fun h9 => absurd h9 (by decide)) (fun _ => ?_)
        refine v_lload_n C 1 dX4_digest_91 rfl ?_
        refine v_ldc2 (v := 31) C dX4_digest_92 k_704 ?_
        refine v_lmul C dX4_digest_95 ?_
        refine v_aload_n C 3 dX4_digest_96 rfl ?_
        refine v_gM C 3 (by decide) k_516 rfl dX4_digest_97 ?_
        refine v_bipush (v := 20) C dX4_digest_100 rfl ?_
        refine v_iload_n C 2 dX4_digest_102 rfl ?_
        refine v_imul C dX4_digest_103 ?_
        refine v_bipush (v := 12) C dX4_digest_104 rfl ?_
        refine v_iadd C dX4_digest_106 ?_
        refine v_iload C 0 dX4_digest_107 rfl ?_
        refine v_iadd C dX4_digest_109 ?_
        refine v_ldAk C ((20 * i) + (12 + 3)) (by decide) (ixB (ixA (ixM rfl rfl) rfl) rfl) (show _ < 240 by omega) rfl dX4_digest_110 ?_
        refine v_i2l C dX4_digest_111 ?_
        refine v_ladd C dX4_digest_112 ?_
        refine v_ldc2 (v := 31) C dX4_digest_113 k_704 ?_
        refine v_lmul C dX4_digest_116 ?_
        refine v_aload_n C 3 dX4_digest_117 rfl ?_
        refine v_gM C 3 (by decide) k_516 rfl dX4_digest_118 ?_
        refine v_bipush (v := 20) C dX4_digest_121 rfl ?_
        refine v_iload_n C 2 dX4_digest_123 rfl ?_
        refine v_imul C dX4_digest_124 ?_
        refine v_bipush (v := 16) C dX4_digest_125 rfl ?_
        refine v_iadd C dX4_digest_127 ?_
        refine v_iload C 0 dX4_digest_128 rfl ?_
        refine v_iadd C dX4_digest_130 ?_
        refine v_ldAk C ((20 * i) + (16 + 3)) (by decide) (ixB (ixA (ixM rfl rfl) rfl) rfl) (show _ < 240 by omega) rfl dX4_digest_131 ?_
        refine v_i2l C dX4_digest_132 ?_
        refine v_ladd C dX4_digest_133 ?_
        refine v_topl (fun y_27 ey_27 => ?_)
        replace ey_27 : y_27 = dg (dg y_26 (rowO (A 0) (20 * i) 15)) (rowO (A 0) (20 * i) 19) := ey_27
        refine v_lstore_n (lv' := [(1, .long y_27), (4, .int 3), (3, .int (nI i)), (0, .ref (rM P))]) C dX4_digest_134 rfl (by decide) rfl ?_
        refine v_iinc (b := 4) (lv' := [(4, .int 4), (1, .long y_27), (3, .int (nI i)), (0, .ref (rM P))]) C 1 dX4_digest_135 rfl rfl (by decide) rfl ?_
        refine v_goto (tgt := 85) C dX4_digest_138 (by decide) ?_
        refine v_iload C 0 dX4_digest_85 rfl ?_
        refine v_iconst (v := 4) C dX4_digest_87 rfl ?_
        refine v_icmp_ge (tgt := 141) C dX4_digest_88 (by decide) (fun _ => ?_) (fun h9 => absurd (by decide) h9)
        refine v_iinc (b := (nI (i + 1))) (lv' := [(3, .int (nI (i + 1))), (4, .int 4), (1, .long y_27), (0, .ref (rM P))]) C 2 dX4_digest_141 rfl (nI_1 _) (by decide) rfl ?_
        refine v_goto (tgt := 38) C dX4_digest_144 (by decide) ?_
        refine v_lv [0, 2, 3] rfl ?_
        have e9 : diM (n + 1) c i A d = diM n c (i + 1) A y_27 := by rw [diM, if_neg (by omega), ey_27, ey_26, ey_25, ey_24, ey_23, ey_22, ey_21, ey_20, ey_19, ey_18, ey_17, ey_16, ey_15, ey_14, ey_13, ey_12]; rfl
        rw [e9] at hk9
        exact ih _ _ (by omega) (by omega) hk9
  refine L_1 (c + 1) 0 y_11 (by omega) (by omega) ?_
  obtain ⟨d0, ed0⟩ : ∃ z, z = diM (c + 1) c 0 A y_11 := ⟨_, rfl⟩
  rw [← ed0]
  refine v_iconst (v := 0) C dX4_digest_147 rfl ?_
  refine v_istore_n (lv' := [(3, .int 0), (1, .long d0), (0, .ref (rM P))]) C dX4_digest_148 rfl (by decide) rfl ?_
  refine v_iload_n C 0 dX4_digest_149 rfl ?_
  refine v_iconst (v := 4) C dX4_digest_150 rfl ?_
  refine v_icmp_ge (tgt := 191) C dX4_digest_151 (by decide) (fun h9 => absurd h9 (by decide)) (fun _ => ?_)
  refine v_iconst (v := 0) C dX4_digest_154 rfl ?_
  refine v_istore (lv' := [(4, .int 0), (3, .int 0), (1, .long d0), (0, .ref (rM P))]) C dX4_digest_155 (by decide) rfl ?_
  refine v_iload C 0 dX4_digest_157 rfl ?_
  refine v_bipush (v := 6) C dX4_digest_159 rfl ?_
  refine v_icmp_ge (tgt := 185) C dX4_digest_161 (by decide) (fun h9 => absurd h9 (by decide)) (fun _ => ?_)
  refine v_lload_n C 2 dX4_digest_164 rfl ?_
  refine v_ldc2 (v := 31) C dX4_digest_165 k_704 ?_
  refine v_lmul C dX4_digest_168 ?_
  refine v_aload_n C 3 dX4_digest_169 rfl ?_
  refine v_iload_n C 1 dX4_digest_170 rfl ?_
  refine v_iload C 0 dX4_digest_171 rfl ?_
  refine go_I (run_V C (c_X4_foggerTold_0 (K := (upd K 0 0)) hc h12 (i := 0) (by decide)) k_595 k_5 k_592 k_594 ks_29 dd_X4_foggerTold ⟨Nat.le_of_ble_eq_true rfl, Nat.le_of_ble_eq_true rfl⟩ rcM rfl (Nat.le_of_ble_eq_true rfl) dX4_digest_173 ⟨Nat.le_of_ble_eq_true rfl, Nat.le_of_ble_eq_true rfl⟩) ?_
  refine v_i2l C dX4_digest_176 ?_
  refine v_ladd C dX4_digest_177 ?_
  refine v_topl (fun y_28 ey_28 => ?_)
  replace ey_28 : y_28 = dg d0 (ftM A c 0 0) := ey_28
  refine v_lstore_n (lv' := [(1, .long y_28), (4, .int 0), (3, .int 0), (0, .ref (rM P))]) C dX4_digest_178 rfl (by decide) rfl ?_
  refine v_iinc (b := 1) (lv' := [(4, .int 1), (1, .long y_28), (3, .int 0), (0, .ref (rM P))]) C 1 dX4_digest_179 rfl rfl (by decide) rfl ?_
  refine v_goto (tgt := 157) C dX4_digest_182 (by decide) ?_
  refine v_iload C 0 dX4_digest_157 rfl ?_
  refine v_bipush (v := 6) C dX4_digest_159 rfl ?_
  refine v_icmp_ge (tgt := 185) C dX4_digest_161 (by decide) (fun h9 => absurd h9 (by decide)) (fun _ => ?_)
  refine v_lload_n C 1 dX4_digest_164 rfl ?_
  refine v_ldc2 (v := 31) C dX4_digest_165 k_704 ?_
  refine v_lmul C dX4_digest_168 ?_
  refine v_aload_n C 3 dX4_digest_169 rfl ?_
  refine v_iload_n C 2 dX4_digest_170 rfl ?_
  refine v_iload C 0 dX4_digest_171 rfl ?_
  refine go_I (run_V C (c_X4_foggerTold_1 (K := (upd K 0 0)) hc h12 (i := 0) (by decide)) k_595 k_5 k_592 k_594 ks_29 dd_X4_foggerTold ⟨Nat.le_of_ble_eq_true rfl, Nat.le_of_ble_eq_true rfl⟩ rcM rfl (Nat.le_of_ble_eq_true rfl) dX4_digest_173 ⟨Nat.le_of_ble_eq_true rfl, Nat.le_of_ble_eq_true rfl⟩) ?_
  refine v_i2l C dX4_digest_176 ?_
  refine v_ladd C dX4_digest_177 ?_
  refine v_topl (fun y_29 ey_29 => ?_)
  replace ey_29 : y_29 = dg y_28 (ftM A c 0 1) := ey_29
  refine v_lstore_n (lv' := [(1, .long y_29), (4, .int 1), (3, .int 0), (0, .ref (rM P))]) C dX4_digest_178 rfl (by decide) rfl ?_
  refine v_iinc (b := 2) (lv' := [(4, .int 2), (1, .long y_29), (3, .int 0), (0, .ref (rM P))]) C 1 dX4_digest_179 rfl rfl (by decide) rfl ?_
  refine v_goto (tgt := 157) C dX4_digest_182 (by decide) ?_
  refine v_iload C 0 dX4_digest_157 rfl ?_
  refine v_bipush (v := 6) C dX4_digest_159 rfl ?_
  refine v_icmp_ge (tgt := 185) C dX4_digest_161 (by decide) (fun h9 => absurd h9 (by decide)) (fun _ => ?_)
  refine v_lload_n C 1 dX4_digest_164 rfl ?_
  refine v_ldc2 (v := 31) C dX4_digest_165 k_704 ?_
  refine v_lmul C dX4_digest_168 ?_
  refine v_aload_n C 3 dX4_digest_169 rfl ?_
  refine v_iload_n C 2 dX4_digest_170 rfl ?_
  refine v_iload C 0 dX4_digest_171 rfl ?_
  refine go_I (run_V C (c_X4_foggerTold_2 (K := (upd K 0 0)) hc h12 (i := 0) (by decide)) k_595 k_5 k_592 k_594 ks_29 dd_X4_foggerTold ⟨Nat.le_of_ble_eq_true rfl, Nat.le_of_ble_eq_true rfl⟩ rcM rfl (Nat.le_of_ble_eq_true rfl) dX4_digest_173 ⟨Nat.le_of_ble_eq_true rfl, Nat.le_of_ble_eq_true rfl⟩) ?_
  refine v_i2l C dX4_digest_176 ?_
  refine v_ladd C dX4_digest_177 ?_
  refine v_topl (fun y_30 ey_30 => ?_)
  replace ey_30 : y_30 = dg y_29 (ftM A c 0 2) := ey_30
  refine v_lstore_n (lv' := [(1, .long y_30), (4, .int 2), (3, .int 0), (0, .ref (rM P))]) C dX4_digest_178 rfl (by decide) rfl ?_
  refine v_iinc (b := 3) (lv' := [(4, .int 3), (1, .long y_30), (3, .int 0), (0, .ref (rM P))]) C 1 dX4_digest_179 rfl rfl (by decide) rfl ?_
  refine v_goto (tgt := 157) C dX4_digest_182 (by decide) ?_
  refine v_iload C 0 dX4_digest_157 rfl ?_
  refine v_bipush (v := 6) C dX4_digest_159 rfl ?_
  refine v_icmp_ge (tgt := 185) C dX4_digest_161 (by decide) (fun h9 => absurd h9 (by decide)) (fun _ => ?_)
  refine v_lload_n C 1 dX4_digest_164 rfl ?_
  refine v_ldc2 (v := 31) C dX4_digest_165 k_704 ?_
  refine v_lmul C dX4_digest_168 ?_
  refine v_aload_n C 3 dX4_digest_169 rfl ?_
  refine v_iload_n C 2 dX4_digest_170 rfl ?_
  refine v_iload C 0 dX4_digest_171 rfl ?_
  refine go_I (run_V C (c_X4_foggerTold_3 (K := (upd K 0 0)) hc h12 (i := 0) (by decide)) k_595 k_5 k_592 k_594 ks_29 dd_X4_foggerTold ⟨Nat.le_of_ble_eq_true rfl, Nat.le_of_ble_eq_true rfl⟩ rcM rfl (Nat.le_of_ble_eq_true rfl) dX4_digest_173 ⟨Nat.le_of_ble_eq_true rfl, Nat.le_of_ble_eq_true rfl⟩) ?_
  refine v_i2l C dX4_digest_176 ?_
  refine v_ladd C dX4_digest_177 ?_
  refine v_topl (fun y_31 ey_31 => ?_)
  replace ey_31 : y_31 = dg y_30 (ftM A c 0 3) := ey_31
  refine v_lstore_n (lv' := [(1, .long y_31), (4, .int 3), (3, .int 0), (0, .ref (rM P))]) C dX4_digest_178 rfl (by decide) rfl ?_
  refine v_iinc (b := 4) (lv' := [(4, .int 4), (1, .long y_31), (3, .int 0), (0, .ref (rM P))]) C 1 dX4_digest_179 rfl rfl (by decide) rfl ?_
  refine v_goto (tgt := 157) C dX4_digest_182 (by decide) ?_
  refine v_iload C 0 dX4_digest_157 rfl ?_
  refine v_bipush (v := 6) C dX4_digest_159 rfl ?_
  refine v_icmp_ge (tgt := 185) C dX4_digest_161 (by decide) (fun h9 => absurd h9 (by decide)) (fun _ => ?_)
  refine v_lload_n C 1 dX4_digest_164 rfl ?_
  refine v_ldc2 (v := 31) C dX4_digest_165 k_704 ?_
  refine v_lmul C dX4_digest_168 ?_
  refine v_aload_n C 3 dX4_digest_169 rfl ?_
  refine v_iload_n C 2 dX4_digest_170 rfl ?_
  refine v_iload C 0 dX4_digest_171 rfl ?_
  refine go_I (run_V C (c_X4_foggerTold_4 (K := (upd K 0 0)) hc h12 (i := 0) (by decide)) k_595 k_5 k_592 k_594 ks_29 dd_X4_foggerTold ⟨Nat.le_of_ble_eq_true rfl, Nat.le_of_ble_eq_true rfl⟩ rcM rfl (Nat.le_of_ble_eq_true rfl) dX4_digest_173 ⟨Nat.le_of_ble_eq_true rfl, Nat.le_of_ble_eq_true rfl⟩) ?_
  refine v_i2l C dX4_digest_176 ?_
  refine v_ladd C dX4_digest_177 ?_
  refine v_topl (fun y_32 ey_32 => ?_)
  replace ey_32 : y_32 = dg y_31 (ftM A c 0 4) := ey_32
  refine v_lstore_n (lv' := [(1, .long y_32), (4, .int 4), (3, .int 0), (0, .ref (rM P))]) C dX4_digest_178 rfl (by decide) rfl ?_
  refine v_iinc (b := 5) (lv' := [(4, .int 5), (1, .long y_32), (3, .int 0), (0, .ref (rM P))]) C 1 dX4_digest_179 rfl rfl (by decide) rfl ?_
  refine v_goto (tgt := 157) C dX4_digest_182 (by decide) ?_
  refine v_iload C 0 dX4_digest_157 rfl ?_
  refine v_bipush (v := 6) C dX4_digest_159 rfl ?_
  refine v_icmp_ge (tgt := 185) C dX4_digest_161 (by decide) (fun h9 => absurd h9 (by decide)) (fun _ => ?_)
  refine v_lload_n C 1 dX4_digest_164 rfl ?_
  refine v_ldc2 (v := 31) C dX4_digest_165 k_704 ?_
  refine v_lmul C dX4_digest_168 ?_
  refine v_aload_n C 3 dX4_digest_169 rfl ?_
  refine v_iload_n C 2 dX4_digest_170 rfl ?_
  refine v_iload C 0 dX4_digest_171 rfl ?_
  refine go_I (run_V C (c_X4_foggerTold_5 (K := (upd K 0 0)) hc h12 (i := 0) (by decide)) k_595 k_5 k_592 k_594 ks_29 dd_X4_foggerTold ⟨Nat.le_of_ble_eq_true rfl, Nat.le_of_ble_eq_true rfl⟩ rcM rfl (Nat.le_of_ble_eq_true rfl) dX4_digest_173 ⟨Nat.le_of_ble_eq_true rfl, Nat.le_of_ble_eq_true rfl⟩) ?_
  refine v_i2l C dX4_digest_176 ?_
  refine v_ladd C dX4_digest_177 ?_
  refine v_topl (fun y_33 ey_33 => ?_)
  replace ey_33 : y_33 = dg y_32 (ftM A c 0 5) := ey_33
  refine v_lstore_n (lv' := [(1, .long y_33), (4, .int 5), (3, .int 0), (0, .ref (rM P))]) C dX4_digest_178 rfl (by decide) rfl ?_
  refine v_iinc (b := 6) (lv' := [(4, .int 6), (1, .long y_33), (3, .int 0), (0, .ref (rM P))]) C 1 dX4_digest_179 rfl rfl (by decide) rfl ?_
  refine v_goto (tgt := 157) C dX4_digest_182 (by decide) ?_
  refine v_iload C 0 dX4_digest_157 rfl ?_
  refine v_bipush (v := 6) C dX4_digest_159 rfl ?_
  refine v_icmp_ge (tgt := 185) C dX4_digest_161 (by decide) (fun _ => ?_) (fun h9 => absurd (by decide) h9)
  refine v_iinc (b := 1) (lv' := [(3, .int 1), (4, .int 6), (1, .long y_33), (0, .ref (rM P))]) C 2 dX4_digest_185 rfl rfl (by decide) rfl ?_
  refine v_goto (tgt := 149) C dX4_digest_188 (by decide) ?_
  refine v_iload_n C 0 dX4_digest_149 rfl ?_
  refine v_iconst (v := 4) C dX4_digest_150 rfl ?_
  refine v_icmp_ge (tgt := 191) C dX4_digest_151 (by decide) (fun h9 => absurd h9 (by decide)) (fun _ => ?_)
  refine v_iconst (v := 0) C dX4_digest_154 rfl ?_
  refine v_istore (lv' := [(4, .int 0), (3, .int 1), (1, .long y_33), (0, .ref (rM P))]) C dX4_digest_155 (by decide) rfl ?_
  refine v_iload C 0 dX4_digest_157 rfl ?_
  refine v_bipush (v := 6) C dX4_digest_159 rfl ?_
  refine v_icmp_ge (tgt := 185) C dX4_digest_161 (by decide) (fun h9 => absurd h9 (by decide)) (fun _ => ?_)
  refine v_lload_n C 2 dX4_digest_164 rfl ?_
  refine v_ldc2 (v := 31) C dX4_digest_165 k_704 ?_
  refine v_lmul C dX4_digest_168 ?_
  refine v_aload_n C 3 dX4_digest_169 rfl ?_
  refine v_iload_n C 1 dX4_digest_170 rfl ?_
  refine v_iload C 0 dX4_digest_171 rfl ?_
  refine go_I (run_V C (c_X4_foggerTold_0 (K := (upd K 0 0)) hc h12 (i := 1) (by decide)) k_595 k_5 k_592 k_594 ks_29 dd_X4_foggerTold ⟨Nat.le_of_ble_eq_true rfl, Nat.le_of_ble_eq_true rfl⟩ rcM rfl (Nat.le_of_ble_eq_true rfl) dX4_digest_173 ⟨Nat.le_of_ble_eq_true rfl, Nat.le_of_ble_eq_true rfl⟩) ?_
  refine v_i2l C dX4_digest_176 ?_
  refine v_ladd C dX4_digest_177 ?_
  refine v_topl (fun y_34 ey_34 => ?_)
  replace ey_34 : y_34 = dg y_33 (ftM A c 1 0) := ey_34
  refine v_lstore_n (lv' := [(1, .long y_34), (4, .int 0), (3, .int 1), (0, .ref (rM P))]) C dX4_digest_178 rfl (by decide) rfl ?_
  refine v_iinc (b := 1) (lv' := [(4, .int 1), (1, .long y_34), (3, .int 1), (0, .ref (rM P))]) C 1 dX4_digest_179 rfl rfl (by decide) rfl ?_
  refine v_goto (tgt := 157) C dX4_digest_182 (by decide) ?_
  refine v_iload C 0 dX4_digest_157 rfl ?_
  refine v_bipush (v := 6) C dX4_digest_159 rfl ?_
  refine v_icmp_ge (tgt := 185) C dX4_digest_161 (by decide) (fun h9 => absurd h9 (by decide)) (fun _ => ?_)
  refine v_lload_n C 1 dX4_digest_164 rfl ?_
  refine v_ldc2 (v := 31) C dX4_digest_165 k_704 ?_
  refine v_lmul C dX4_digest_168 ?_
  refine v_aload_n C 3 dX4_digest_169 rfl ?_
  refine v_iload_n C 2 dX4_digest_170 rfl ?_
  refine v_iload C 0 dX4_digest_171 rfl ?_
  refine go_I (run_V C (c_X4_foggerTold_1 (K := (upd K 0 0)) hc h12 (i := 1) (by decide)) k_595 k_5 k_592 k_594 ks_29 dd_X4_foggerTold ⟨Nat.le_of_ble_eq_true rfl, Nat.le_of_ble_eq_true rfl⟩ rcM rfl (Nat.le_of_ble_eq_true rfl) dX4_digest_173 ⟨Nat.le_of_ble_eq_true rfl, Nat.le_of_ble_eq_true rfl⟩) ?_
  refine v_i2l C dX4_digest_176 ?_
  refine v_ladd C dX4_digest_177 ?_
  refine v_topl (fun y_35 ey_35 => ?_)
  replace ey_35 : y_35 = dg y_34 (ftM A c 1 1) := ey_35
  refine v_lstore_n (lv' := [(1, .long y_35), (4, .int 1), (3, .int 1), (0, .ref (rM P))]) C dX4_digest_178 rfl (by decide) rfl ?_
  refine v_iinc (b := 2) (lv' := [(4, .int 2), (1, .long y_35), (3, .int 1), (0, .ref (rM P))]) C 1 dX4_digest_179 rfl rfl (by decide) rfl ?_
  refine v_goto (tgt := 157) C dX4_digest_182 (by decide) ?_
  refine v_iload C 0 dX4_digest_157 rfl ?_
  refine v_bipush (v := 6) C dX4_digest_159 rfl ?_
  refine v_icmp_ge (tgt := 185) C dX4_digest_161 (by decide) (fun h9 => absurd h9 (by decide)) (fun _ => ?_)
  refine v_lload_n C 1 dX4_digest_164 rfl ?_
  refine v_ldc2 (v := 31) C dX4_digest_165 k_704 ?_
  refine v_lmul C dX4_digest_168 ?_
  refine v_aload_n C 3 dX4_digest_169 rfl ?_
  refine v_iload_n C 2 dX4_digest_170 rfl ?_
  refine v_iload C 0 dX4_digest_171 rfl ?_
  refine go_I (run_V C (c_X4_foggerTold_2 (K := (upd K 0 0)) hc h12 (i := 1) (by decide)) k_595 k_5 k_592 k_594 ks_29 dd_X4_foggerTold ⟨Nat.le_of_ble_eq_true rfl, Nat.le_of_ble_eq_true rfl⟩ rcM rfl (Nat.le_of_ble_eq_true rfl) dX4_digest_173 ⟨Nat.le_of_ble_eq_true rfl, Nat.le_of_ble_eq_true rfl⟩) ?_
  refine v_i2l C dX4_digest_176 ?_
  refine v_ladd C dX4_digest_177 ?_
  refine v_topl (fun y_36 ey_36 => ?_)
  replace ey_36 : y_36 = dg y_35 (ftM A c 1 2) := ey_36
  refine v_lstore_n (lv' := [(1, .long y_36), (4, .int 2), (3, .int 1), (0, .ref (rM P))]) C dX4_digest_178 rfl (by decide) rfl ?_
  refine v_iinc (b := 3) (lv' := [(4, .int 3), (1, .long y_36), (3, .int 1), (0, .ref (rM P))]) C 1 dX4_digest_179 rfl rfl (by decide) rfl ?_
  refine v_goto (tgt := 157) C dX4_digest_182 (by decide) ?_
  refine v_iload C 0 dX4_digest_157 rfl ?_
  refine v_bipush (v := 6) C dX4_digest_159 rfl ?_
  refine v_icmp_ge (tgt := 185) C dX4_digest_161 (by decide) (fun h9 => absurd h9 (by decide)) (fun _ => ?_)
  refine v_lload_n C 1 dX4_digest_164 rfl ?_
  refine v_ldc2 (v := 31) C dX4_digest_165 k_704 ?_
  refine v_lmul C dX4_digest_168 ?_
  refine v_aload_n C 3 dX4_digest_169 rfl ?_
  refine v_iload_n C 2 dX4_digest_170 rfl ?_
  refine v_iload C 0 dX4_digest_171 rfl ?_
  refine go_I (run_V C (c_X4_foggerTold_3 (K := (upd K 0 0)) hc h12 (i := 1) (by decide)) k_595 k_5 k_592 k_594 ks_29 dd_X4_foggerTold ⟨Nat.le_of_ble_eq_true rfl, Nat.le_of_ble_eq_true rfl⟩ rcM rfl (Nat.le_of_ble_eq_true rfl) dX4_digest_173 ⟨Nat.le_of_ble_eq_true rfl, Nat.le_of_ble_eq_true rfl⟩) ?_
  refine v_i2l C dX4_digest_176 ?_
  refine v_ladd C dX4_digest_177 ?_
  refine v_topl (fun y_37 ey_37 => ?_)
  replace ey_37 : y_37 = dg y_36 (ftM A c 1 3) := ey_37
  refine v_lstore_n (lv' := [(1, .long y_37), (4, .int 3), (3, .int 1), (0, .ref (rM P))]) C dX4_digest_178 rfl (by decide) rfl ?_
  refine v_iinc (b := 4) (lv' := [(4, .int 4), (1, .long y_37), (3, .int 1), (0, .ref (rM P))]) C 1 dX4_digest_179 rfl rfl (by decide) rfl ?_
  refine v_goto (tgt := 157) C dX4_digest_182 (by decide) ?_
  refine v_iload C 0 dX4_digest_157 rfl ?_
  refine v_bipush (v := 6) C dX4_digest_159 rfl ?_
  refine v_icmp_ge (tgt := 185) C dX4_digest_161 (by decide) (fun h9 => absurd h9 (by decide)) (fun _ => ?_)
  refine v_lload_n C 1 dX4_digest_164 rfl ?_
  refine v_ldc2 (v := 31) C dX4_digest_165 k_704 ?_
  refine v_lmul C dX4_digest_168 ?_
  refine v_aload_n C 3 dX4_digest_169 rfl ?_
  refine v_iload_n C 2 dX4_digest_170 rfl ?_
  refine v_iload C 0 dX4_digest_171 rfl ?_
  refine go_I (run_V C (c_X4_foggerTold_4 (K := (upd K 0 0)) hc h12 (i := 1) (by decide)) k_595 k_5 k_592 k_594 ks_29 dd_X4_foggerTold ⟨Nat.le_of_ble_eq_true rfl, Nat.le_of_ble_eq_true rfl⟩ rcM rfl (Nat.le_of_ble_eq_true rfl) dX4_digest_173 ⟨Nat.le_of_ble_eq_true rfl, Nat.le_of_ble_eq_true rfl⟩) ?_
  refine v_i2l C dX4_digest_176 ?_
  refine v_ladd C dX4_digest_177 ?_
  refine v_topl (fun y_38 ey_38 => ?_)
  replace ey_38 : y_38 = dg y_37 (ftM A c 1 4) := ey_38
  refine v_lstore_n (lv' := [(1, .long y_38), (4, .int 4), (3, .int 1), (0, .ref (rM P))]) C dX4_digest_178 rfl (by decide) rfl ?_
  refine v_iinc (b := 5) (lv' := [(4, .int 5), (1, .long y_38), (3, .int 1), (0, .ref (rM P))]) C 1 dX4_digest_179 rfl rfl (by decide) rfl ?_
  refine v_goto (tgt := 157) C dX4_digest_182 (by decide) ?_
  refine v_iload C 0 dX4_digest_157 rfl ?_
  refine v_bipush (v := 6) C dX4_digest_159 rfl ?_
  refine v_icmp_ge (tgt := 185) C dX4_digest_161 (by decide) (fun h9 => absurd h9 (by decide)) (fun _ => ?_)
  refine v_lload_n C 1 dX4_digest_164 rfl ?_
  refine v_ldc2 (v := 31) C dX4_digest_165 k_704 ?_
  refine v_lmul C dX4_digest_168 ?_
  refine v_aload_n C 3 dX4_digest_169 rfl ?_
  refine v_iload_n C 2 dX4_digest_170 rfl ?_
  refine v_iload C 0 dX4_digest_171 rfl ?_
  refine go_I (run_V C (c_X4_foggerTold_5 (K := (upd K 0 0)) hc h12 (i := 1) (by decide)) k_595 k_5 k_592 k_594 ks_29 dd_X4_foggerTold ⟨Nat.le_of_ble_eq_true rfl, Nat.le_of_ble_eq_true rfl⟩ rcM rfl (Nat.le_of_ble_eq_true rfl) dX4_digest_173 ⟨Nat.le_of_ble_eq_true rfl, Nat.le_of_ble_eq_true rfl⟩) ?_
  refine v_i2l C dX4_digest_176 ?_
  refine v_ladd C dX4_digest_177 ?_
  refine v_topl (fun y_39 ey_39 => ?_)
  replace ey_39 : y_39 = dg y_38 (ftM A c 1 5) := ey_39
  refine v_lstore_n (lv' := [(1, .long y_39), (4, .int 5), (3, .int 1), (0, .ref (rM P))]) C dX4_digest_178 rfl (by decide) rfl ?_
  refine v_iinc (b := 6) (lv' := [(4, .int 6), (1, .long y_39), (3, .int 1), (0, .ref (rM P))]) C 1 dX4_digest_179 rfl rfl (by decide) rfl ?_
  refine v_goto (tgt := 157) C dX4_digest_182 (by decide) ?_
  refine v_iload C 0 dX4_digest_157 rfl ?_
  refine v_bipush (v := 6) C dX4_digest_159 rfl ?_
  refine v_icmp_ge (tgt := 185) C dX4_digest_161 (by decide) (fun _ => ?_) (fun h9 => absurd (by decide) h9)
  refine v_iinc (b := 2) (lv' := [(3, .int 2), (4, .int 6), (1, .long y_39), (0, .ref (rM P))]) C 2 dX4_digest_185 rfl rfl (by decide) rfl ?_
  refine v_goto (tgt := 149) C dX4_digest_188 (by decide) ?_
  refine v_iload_n C 0 dX4_digest_149 rfl ?_
  refine v_iconst (v := 4) C dX4_digest_150 rfl ?_
  refine v_icmp_ge (tgt := 191) C dX4_digest_151 (by decide) (fun h9 => absurd h9 (by decide)) (fun _ => ?_)
  refine v_iconst (v := 0) C dX4_digest_154 rfl ?_
  refine v_istore (lv' := [(4, .int 0), (3, .int 2), (1, .long y_39), (0, .ref (rM P))]) C dX4_digest_155 (by decide) rfl ?_
  refine v_iload C 0 dX4_digest_157 rfl ?_
  refine v_bipush (v := 6) C dX4_digest_159 rfl ?_
  refine v_icmp_ge (tgt := 185) C dX4_digest_161 (by decide) (fun h9 => absurd h9 (by decide)) (fun _ => ?_)
  refine v_lload_n C 2 dX4_digest_164 rfl ?_
  refine v_ldc2 (v := 31) C dX4_digest_165 k_704 ?_
  refine v_lmul C dX4_digest_168 ?_
  refine v_aload_n C 3 dX4_digest_169 rfl ?_
  refine v_iload_n C 1 dX4_digest_170 rfl ?_
  refine v_iload C 0 dX4_digest_171 rfl ?_
  refine go_I (run_V C (c_X4_foggerTold_0 (K := (upd K 0 0)) hc h12 (i := 2) (by decide)) k_595 k_5 k_592 k_594 ks_29 dd_X4_foggerTold ⟨Nat.le_of_ble_eq_true rfl, Nat.le_of_ble_eq_true rfl⟩ rcM rfl (Nat.le_of_ble_eq_true rfl) dX4_digest_173 ⟨Nat.le_of_ble_eq_true rfl, Nat.le_of_ble_eq_true rfl⟩) ?_
  refine v_i2l C dX4_digest_176 ?_
  refine v_ladd C dX4_digest_177 ?_
  refine v_topl (fun y_40 ey_40 => ?_)
  replace ey_40 : y_40 = dg y_39 (ftM A c 2 0) := ey_40
  refine v_lstore_n (lv' := [(1, .long y_40), (4, .int 0), (3, .int 2), (0, .ref (rM P))]) C dX4_digest_178 rfl (by decide) rfl ?_
  refine v_iinc (b := 1) (lv' := [(4, .int 1), (1, .long y_40), (3, .int 2), (0, .ref (rM P))]) C 1 dX4_digest_179 rfl rfl (by decide) rfl ?_
  refine v_goto (tgt := 157) C dX4_digest_182 (by decide) ?_
  refine v_iload C 0 dX4_digest_157 rfl ?_
  refine v_bipush (v := 6) C dX4_digest_159 rfl ?_
  refine v_icmp_ge (tgt := 185) C dX4_digest_161 (by decide) (fun h9 => absurd h9 (by decide)) (fun _ => ?_)
  refine v_lload_n C 1 dX4_digest_164 rfl ?_
  refine v_ldc2 (v := 31) C dX4_digest_165 k_704 ?_
  refine v_lmul C dX4_digest_168 ?_
  refine v_aload_n C 3 dX4_digest_169 rfl ?_
  refine v_iload_n C 2 dX4_digest_170 rfl ?_
  refine v_iload C 0 dX4_digest_171 rfl ?_
  refine go_I (run_V C (c_X4_foggerTold_1 (K := (upd K 0 0)) hc h12 (i := 2) (by decide)) k_595 k_5 k_592 k_594 ks_29 dd_X4_foggerTold ⟨Nat.le_of_ble_eq_true rfl, Nat.le_of_ble_eq_true rfl⟩ rcM rfl (Nat.le_of_ble_eq_true rfl) dX4_digest_173 ⟨Nat.le_of_ble_eq_true rfl, Nat.le_of_ble_eq_true rfl⟩) ?_
  refine v_i2l C dX4_digest_176 ?_
  refine v_ladd C dX4_digest_177 ?_
  refine v_topl (fun y_41 ey_41 => ?_)
  replace ey_41 : y_41 = dg y_40 (ftM A c 2 1) := ey_41
  refine v_lstore_n (lv' := [(1, .long y_41), (4, .int 1), (3, .int 2), (0, .ref (rM P))]) C dX4_digest_178 rfl (by decide) rfl ?_
  refine v_iinc (b := 2) (lv' := [(4, .int 2), (1, .long y_41), (3, .int 2), (0, .ref (rM P))]) C 1 dX4_digest_179 rfl rfl (by decide) rfl ?_
  refine v_goto (tgt := 157) C dX4_digest_182 (by decide) ?_
  refine v_iload C 0 dX4_digest_157 rfl ?_
  refine v_bipush (v := 6) C dX4_digest_159 rfl ?_
  refine v_icmp_ge (tgt := 185) C dX4_digest_161 (by decide) (fun h9 => absurd h9 (by decide)) (fun _ => ?_)
  refine v_lload_n C 1 dX4_digest_164 rfl ?_
  refine v_ldc2 (v := 31) C dX4_digest_165 k_704 ?_
  refine v_lmul C dX4_digest_168 ?_
  refine v_aload_n C 3 dX4_digest_169 rfl ?_
  refine v_iload_n C 2 dX4_digest_170 rfl ?_
  refine v_iload C 0 dX4_digest_171 rfl ?_
  refine go_I (run_V C (c_X4_foggerTold_2 (K := (upd K 0 0)) hc h12 (i := 2) (by decide)) k_595 k_5 k_592 k_594 ks_29 dd_X4_foggerTold ⟨Nat.le_of_ble_eq_true rfl, Nat.le_of_ble_eq_true rfl⟩ rcM rfl (Nat.le_of_ble_eq_true rfl) dX4_digest_173 ⟨Nat.le_of_ble_eq_true rfl, Nat.le_of_ble_eq_true rfl⟩) ?_
  refine v_i2l C dX4_digest_176 ?_
  refine v_ladd C dX4_digest_177 ?_
  refine v_topl (fun y_42 ey_42 => ?_)
  replace ey_42 : y_42 = dg y_41 (ftM A c 2 2) := ey_42
  refine v_lstore_n (lv' := [(1, .long y_42), (4, .int 2), (3, .int 2), (0, .ref (rM P))]) C dX4_digest_178 rfl (by decide) rfl ?_
  refine v_iinc (b := 3) (lv' := [(4, .int 3), (1, .long y_42), (3, .int 2), (0, .ref (rM P))]) C 1 dX4_digest_179 rfl rfl (by decide) rfl ?_
  refine v_goto (tgt := 157) C dX4_digest_182 (by decide) ?_
  refine v_iload C 0 dX4_digest_157 rfl ?_
  refine v_bipush (v := 6) C dX4_digest_159 rfl ?_
  refine v_icmp_ge (tgt := 185) C dX4_digest_161 (by decide) (fun h9 => absurd h9 (by decide)) (fun _ => ?_)
  refine v_lload_n C 1 dX4_digest_164 rfl ?_
  refine v_ldc2 (v := 31) C dX4_digest_165 k_704 ?_
  refine v_lmul C dX4_digest_168 ?_
  refine v_aload_n C 3 dX4_digest_169 rfl ?_
  refine v_iload_n C 2 dX4_digest_170 rfl ?_
  refine v_iload C 0 dX4_digest_171 rfl ?_
  refine go_I (run_V C (c_X4_foggerTold_3 (K := (upd K 0 0)) hc h12 (i := 2) (by decide)) k_595 k_5 k_592 k_594 ks_29 dd_X4_foggerTold ⟨Nat.le_of_ble_eq_true rfl, Nat.le_of_ble_eq_true rfl⟩ rcM rfl (Nat.le_of_ble_eq_true rfl) dX4_digest_173 ⟨Nat.le_of_ble_eq_true rfl, Nat.le_of_ble_eq_true rfl⟩) ?_
  refine v_i2l C dX4_digest_176 ?_
  refine v_ladd C dX4_digest_177 ?_
  refine v_topl (fun y_43 ey_43 => ?_)
  replace ey_43 : y_43 = dg y_42 (ftM A c 2 3) := ey_43
  refine v_lstore_n (lv' := [(1, .long y_43), (4, .int 3), (3, .int 2), (0, .ref (rM P))]) C dX4_digest_178 rfl (by decide) rfl ?_
  refine v_iinc (b := 4) (lv' := [(4, .int 4), (1, .long y_43), (3, .int 2), (0, .ref (rM P))]) C 1 dX4_digest_179 rfl rfl (by decide) rfl ?_
  refine v_goto (tgt := 157) C dX4_digest_182 (by decide) ?_
  refine v_iload C 0 dX4_digest_157 rfl ?_
  refine v_bipush (v := 6) C dX4_digest_159 rfl ?_
  refine v_icmp_ge (tgt := 185) C dX4_digest_161 (by decide) (fun h9 => absurd h9 (by decide)) (fun _ => ?_)
  refine v_lload_n C 1 dX4_digest_164 rfl ?_
  refine v_ldc2 (v := 31) C dX4_digest_165 k_704 ?_
  refine v_lmul C dX4_digest_168 ?_
  refine v_aload_n C 3 dX4_digest_169 rfl ?_
  refine v_iload_n C 2 dX4_digest_170 rfl ?_
  refine v_iload C 0 dX4_digest_171 rfl ?_
  refine go_I (run_V C (c_X4_foggerTold_4 (K := (upd K 0 0)) hc h12 (i := 2) (by decide)) k_595 k_5 k_592 k_594 ks_29 dd_X4_foggerTold ⟨Nat.le_of_ble_eq_true rfl, Nat.le_of_ble_eq_true rfl⟩ rcM rfl (Nat.le_of_ble_eq_true rfl) dX4_digest_173 ⟨Nat.le_of_ble_eq_true rfl, Nat.le_of_ble_eq_true rfl⟩) ?_
  refine v_i2l C dX4_digest_176 ?_
  refine v_ladd C dX4_digest_177 ?_
  refine v_topl (fun y_44 ey_44 => ?_)
  replace ey_44 : y_44 = dg y_43 (ftM A c 2 4) := ey_44
  refine v_lstore_n (lv' := [(1, .long y_44), (4, .int 4), (3, .int 2), (0, .ref (rM P))]) C dX4_digest_178 rfl (by decide) rfl ?_
  refine v_iinc (b := 5) (lv' := [(4, .int 5), (1, .long y_44), (3, .int 2), (0, .ref (rM P))]) C 1 dX4_digest_179 rfl rfl (by decide) rfl ?_
  refine v_goto (tgt := 157) C dX4_digest_182 (by decide) ?_
  refine v_iload C 0 dX4_digest_157 rfl ?_
  refine v_bipush (v := 6) C dX4_digest_159 rfl ?_
  refine v_icmp_ge (tgt := 185) C dX4_digest_161 (by decide) (fun h9 => absurd h9 (by decide)) (fun _ => ?_)
  refine v_lload_n C 1 dX4_digest_164 rfl ?_
  refine v_ldc2 (v := 31) C dX4_digest_165 k_704 ?_
  refine v_lmul C dX4_digest_168 ?_
  refine v_aload_n C 3 dX4_digest_169 rfl ?_
  refine v_iload_n C 2 dX4_digest_170 rfl ?_
  refine v_iload C 0 dX4_digest_171 rfl ?_
  refine go_I (run_V C (c_X4_foggerTold_5 (K := (upd K 0 0)) hc h12 (i := 2) (by decide)) k_595 k_5 k_592 k_594 ks_29 dd_X4_foggerTold ⟨Nat.le_of_ble_eq_true rfl, Nat.le_of_ble_eq_true rfl⟩ rcM rfl (Nat.le_of_ble_eq_true rfl) dX4_digest_173 ⟨Nat.le_of_ble_eq_true rfl, Nat.le_of_ble_eq_true rfl⟩) ?_
  refine v_i2l C dX4_digest_176 ?_
  refine v_ladd C dX4_digest_177 ?_
  refine v_topl (fun y_45 ey_45 => ?_)
  replace ey_45 : y_45 = dg y_44 (ftM A c 2 5) := ey_45
  refine v_lstore_n (lv' := [(1, .long y_45), (4, .int 5), (3, .int 2), (0, .ref (rM P))]) C dX4_digest_178 rfl (by decide) rfl ?_
  refine v_iinc (b := 6) (lv' := [(4, .int 6), (1, .long y_45), (3, .int 2), (0, .ref (rM P))]) C 1 dX4_digest_179 rfl rfl (by decide) rfl ?_
  refine v_goto (tgt := 157) C dX4_digest_182 (by decide) ?_
  refine v_iload C 0 dX4_digest_157 rfl ?_
  refine v_bipush (v := 6) C dX4_digest_159 rfl ?_
  refine v_icmp_ge (tgt := 185) C dX4_digest_161 (by decide) (fun _ => ?_) (fun h9 => absurd (by decide) h9)
  refine v_iinc (b := 3) (lv' := [(3, .int 3), (4, .int 6), (1, .long y_45), (0, .ref (rM P))]) C 2 dX4_digest_185 rfl rfl (by decide) rfl ?_
  refine v_goto (tgt := 149) C dX4_digest_188 (by decide) ?_
  refine v_iload_n C 0 dX4_digest_149 rfl ?_
  refine v_iconst (v := 4) C dX4_digest_150 rfl ?_
  refine v_icmp_ge (tgt := 191) C dX4_digest_151 (by decide) (fun h9 => absurd h9 (by decide)) (fun _ => ?_)
  refine v_iconst (v := 0) C dX4_digest_154 rfl ?_
  refine v_istore (lv' := [(4, .int 0), (3, .int 3), (1, .long y_45), (0, .ref (rM P))]) C dX4_digest_155 (by decide) rfl ?_
  refine v_iload C 0 dX4_digest_157 rfl ?_
  refine v_bipush (v := 6) C dX4_digest_159 rfl ?_
  refine v_icmp_ge (tgt := 185) C dX4_digest_161 (by decide) (fun h9 => absurd h9 (by decide)) (fun _ => ?_)
  refine v_lload_n C 2 dX4_digest_164 rfl ?_
  refine v_ldc2 (v := 31) C dX4_digest_165 k_704 ?_
  refine v_lmul C dX4_digest_168 ?_
  refine v_aload_n C 3 dX4_digest_169 rfl ?_
  refine v_iload_n C 1 dX4_digest_170 rfl ?_
  refine v_iload C 0 dX4_digest_171 rfl ?_
  refine go_I (run_V C (c_X4_foggerTold_0 (K := (upd K 0 0)) hc h12 (i := 3) (by decide)) k_595 k_5 k_592 k_594 ks_29 dd_X4_foggerTold ⟨Nat.le_of_ble_eq_true rfl, Nat.le_of_ble_eq_true rfl⟩ rcM rfl (Nat.le_of_ble_eq_true rfl) dX4_digest_173 ⟨Nat.le_of_ble_eq_true rfl, Nat.le_of_ble_eq_true rfl⟩) ?_
  refine v_i2l C dX4_digest_176 ?_
  refine v_ladd C dX4_digest_177 ?_
  refine v_topl (fun y_46 ey_46 => ?_)
  replace ey_46 : y_46 = dg y_45 (ftM A c 3 0) := ey_46
  refine v_lstore_n (lv' := [(1, .long y_46), (4, .int 0), (3, .int 3), (0, .ref (rM P))]) C dX4_digest_178 rfl (by decide) rfl ?_
  refine v_iinc (b := 1) (lv' := [(4, .int 1), (1, .long y_46), (3, .int 3), (0, .ref (rM P))]) C 1 dX4_digest_179 rfl rfl (by decide) rfl ?_
  refine v_goto (tgt := 157) C dX4_digest_182 (by decide) ?_
  refine v_iload C 0 dX4_digest_157 rfl ?_
  refine v_bipush (v := 6) C dX4_digest_159 rfl ?_
  refine v_icmp_ge (tgt := 185) C dX4_digest_161 (by decide) (fun h9 => absurd h9 (by decide)) (fun _ => ?_)
  refine v_lload_n C 1 dX4_digest_164 rfl ?_
  refine v_ldc2 (v := 31) C dX4_digest_165 k_704 ?_
  refine v_lmul C dX4_digest_168 ?_
  refine v_aload_n C 3 dX4_digest_169 rfl ?_
  refine v_iload_n C 2 dX4_digest_170 rfl ?_
  refine v_iload C 0 dX4_digest_171 rfl ?_
  refine go_I (run_V C (c_X4_foggerTold_1 (K := (upd K 0 0)) hc h12 (i := 3) (by decide)) k_595 k_5 k_592 k_594 ks_29 dd_X4_foggerTold ⟨Nat.le_of_ble_eq_true rfl, Nat.le_of_ble_eq_true rfl⟩ rcM rfl (Nat.le_of_ble_eq_true rfl) dX4_digest_173 ⟨Nat.le_of_ble_eq_true rfl, Nat.le_of_ble_eq_true rfl⟩) ?_
  refine v_i2l C dX4_digest_176 ?_
  refine v_ladd C dX4_digest_177 ?_
  refine v_topl (fun y_47 ey_47 => ?_)
  replace ey_47 : y_47 = dg y_46 (ftM A c 3 1) := ey_47
  refine v_lstore_n (lv' := [(1, .long y_47), (4, .int 1), (3, .int 3), (0, .ref (rM P))]) C dX4_digest_178 rfl (by decide) rfl ?_
  refine v_iinc (b := 2) (lv' := [(4, .int 2), (1, .long y_47), (3, .int 3), (0, .ref (rM P))]) C 1 dX4_digest_179 rfl rfl (by decide) rfl ?_
  refine v_goto (tgt := 157) C dX4_digest_182 (by decide) ?_
  refine v_iload C 0 dX4_digest_157 rfl ?_
  refine v_bipush (v := 6) C dX4_digest_159 rfl ?_
  refine v_icmp_ge (tgt := 185) C dX4_digest_161 (by decide) (fun h9 => absurd h9 (by decide)) (fun _ => ?_)
  refine v_lload_n C 1 dX4_digest_164 rfl ?_
  refine v_ldc2 (v := 31) C dX4_digest_165 k_704 ?_
  refine v_lmul C dX4_digest_168 ?_
  refine v_aload_n C 3 dX4_digest_169 rfl ?_
  refine v_iload_n C 2 dX4_digest_170 rfl ?_
  refine v_iload C 0 dX4_digest_171 rfl ?_
  refine go_I (run_V C (c_X4_foggerTold_2 (K := (upd K 0 0)) hc h12 (i := 3) (by decide)) k_595 k_5 k_592 k_594 ks_29 dd_X4_foggerTold ⟨Nat.le_of_ble_eq_true rfl, Nat.le_of_ble_eq_true rfl⟩ rcM rfl (Nat.le_of_ble_eq_true rfl) dX4_digest_173 ⟨Nat.le_of_ble_eq_true rfl, Nat.le_of_ble_eq_true rfl⟩) ?_
  refine v_i2l C dX4_digest_176 ?_
  refine v_ladd C dX4_digest_177 ?_
  refine v_topl (fun y_48 ey_48 => ?_)
  replace ey_48 : y_48 = dg y_47 (ftM A c 3 2) := ey_48
  refine v_lstore_n (lv' := [(1, .long y_48), (4, .int 2), (3, .int 3), (0, .ref (rM P))]) C dX4_digest_178 rfl (by decide) rfl ?_
  refine v_iinc (b := 3) (lv' := [(4, .int 3), (1, .long y_48), (3, .int 3), (0, .ref (rM P))]) C 1 dX4_digest_179 rfl rfl (by decide) rfl ?_
  refine v_goto (tgt := 157) C dX4_digest_182 (by decide) ?_
  refine v_iload C 0 dX4_digest_157 rfl ?_
  refine v_bipush (v := 6) C dX4_digest_159 rfl ?_
  refine v_icmp_ge (tgt := 185) C dX4_digest_161 (by decide) (fun h9 => absurd h9 (by decide)) (fun _ => ?_)
  refine v_lload_n C 1 dX4_digest_164 rfl ?_
  refine v_ldc2 (v := 31) C dX4_digest_165 k_704 ?_
  refine v_lmul C dX4_digest_168 ?_
  refine v_aload_n C 3 dX4_digest_169 rfl ?_
  refine v_iload_n C 2 dX4_digest_170 rfl ?_
  refine v_iload C 0 dX4_digest_171 rfl ?_
  refine go_I (run_V C (c_X4_foggerTold_3 (K := (upd K 0 0)) hc h12 (i := 3) (by decide)) k_595 k_5 k_592 k_594 ks_29 dd_X4_foggerTold ⟨Nat.le_of_ble_eq_true rfl, Nat.le_of_ble_eq_true rfl⟩ rcM rfl (Nat.le_of_ble_eq_true rfl) dX4_digest_173 ⟨Nat.le_of_ble_eq_true rfl, Nat.le_of_ble_eq_true rfl⟩) ?_
  refine v_i2l C dX4_digest_176 ?_
  refine v_ladd C dX4_digest_177 ?_
  refine v_topl (fun y_49 ey_49 => ?_)
  replace ey_49 : y_49 = dg y_48 (ftM A c 3 3) := ey_49
  refine v_lstore_n (lv' := [(1, .long y_49), (4, .int 3), (3, .int 3), (0, .ref (rM P))]) C dX4_digest_178 rfl (by decide) rfl ?_
  refine v_iinc (b := 4) (lv' := [(4, .int 4), (1, .long y_49), (3, .int 3), (0, .ref (rM P))]) C 1 dX4_digest_179 rfl rfl (by decide) rfl ?_
  refine v_goto (tgt := 157) C dX4_digest_182 (by decide) ?_
  refine v_iload C 0 dX4_digest_157 rfl ?_
  refine v_bipush (v := 6) C dX4_digest_159 rfl ?_
  refine v_icmp_ge (tgt := 185) C dX4_digest_161 (by decide) (fun h9 => absurd h9 (by decide)) (fun _ => ?_)
  refine v_lload_n C 1 dX4_digest_164 rfl ?_
  refine v_ldc2 (v := 31) C dX4_digest_165 k_704 ?_
  refine v_lmul C dX4_digest_168 ?_
  refine v_aload_n C 3 dX4_digest_169 rfl ?_
  refine v_iload_n C 2 dX4_digest_170 rfl ?_
  refine v_iload C 0 dX4_digest_171 rfl ?_
  refine go_I (run_V C (c_X4_foggerTold_4 (K := (upd K 0 0)) hc h12 (i := 3) (by decide)) k_595 k_5 k_592 k_594 ks_29 dd_X4_foggerTold ⟨Nat.le_of_ble_eq_true rfl, Nat.le_of_ble_eq_true rfl⟩ rcM rfl (Nat.le_of_ble_eq_true rfl) dX4_digest_173 ⟨Nat.le_of_ble_eq_true rfl, Nat.le_of_ble_eq_true rfl⟩) ?_
  refine v_i2l C dX4_digest_176 ?_
  refine v_ladd C dX4_digest_177 ?_
  refine v_topl (fun y_50 ey_50 => ?_)
  replace ey_50 : y_50 = dg y_49 (ftM A c 3 4) := ey_50
  refine v_lstore_n (lv' := [(1, .long y_50), (4, .int 4), (3, .int 3), (0, .ref (rM P))]) C dX4_digest_178 rfl (by decide) rfl ?_
  refine v_iinc (b := 5) (lv' := [(4, .int 5), (1, .long y_50), (3, .int 3), (0, .ref (rM P))]) C 1 dX4_digest_179 rfl rfl (by decide) rfl ?_
  refine v_goto (tgt := 157) C dX4_digest_182 (by decide) ?_
  refine v_iload C 0 dX4_digest_157 rfl ?_
  refine v_bipush (v := 6) C dX4_digest_159 rfl ?_
  refine v_icmp_ge (tgt := 185) C dX4_digest_161 (by decide) (fun h9 => absurd h9 (by decide)) (fun _ => ?_)
  refine v_lload_n C 1 dX4_digest_164 rfl ?_
  refine v_ldc2 (v := 31) C dX4_digest_165 k_704 ?_
  refine v_lmul C dX4_digest_168 ?_
  refine v_aload_n C 3 dX4_digest_169 rfl ?_
  refine v_iload_n C 2 dX4_digest_170 rfl ?_
  refine v_iload C 0 dX4_digest_171 rfl ?_
  refine go_I (run_V C (c_X4_foggerTold_5 (K := (upd K 0 0)) hc h12 (i := 3) (by decide)) k_595 k_5 k_592 k_594 ks_29 dd_X4_foggerTold ⟨Nat.le_of_ble_eq_true rfl, Nat.le_of_ble_eq_true rfl⟩ rcM rfl (Nat.le_of_ble_eq_true rfl) dX4_digest_173 ⟨Nat.le_of_ble_eq_true rfl, Nat.le_of_ble_eq_true rfl⟩) ?_
  refine v_i2l C dX4_digest_176 ?_
  refine v_ladd C dX4_digest_177 ?_
  refine v_topl (fun y_51 ey_51 => ?_)
  replace ey_51 : y_51 = dg y_50 (ftM A c 3 5) := ey_51
  refine v_lstore_n (lv' := [(1, .long y_51), (4, .int 5), (3, .int 3), (0, .ref (rM P))]) C dX4_digest_178 rfl (by decide) rfl ?_
  refine v_iinc (b := 6) (lv' := [(4, .int 6), (1, .long y_51), (3, .int 3), (0, .ref (rM P))]) C 1 dX4_digest_179 rfl rfl (by decide) rfl ?_
  refine v_goto (tgt := 157) C dX4_digest_182 (by decide) ?_
  refine v_iload C 0 dX4_digest_157 rfl ?_
  refine v_bipush (v := 6) C dX4_digest_159 rfl ?_
  refine v_icmp_ge (tgt := 185) C dX4_digest_161 (by decide) (fun _ => ?_) (fun h9 => absurd (by decide) h9)
  refine v_iinc (b := 4) (lv' := [(3, .int 4), (4, .int 6), (1, .long y_51), (0, .ref (rM P))]) C 2 dX4_digest_185 rfl rfl (by decide) rfl ?_
  refine v_goto (tgt := 149) C dX4_digest_188 (by decide) ?_
  refine v_iload_n C 0 dX4_digest_149 rfl ?_
  refine v_iconst (v := 4) C dX4_digest_150 rfl ?_
  refine v_icmp_ge (tgt := 191) C dX4_digest_151 (by decide) (fun _ => ?_) (fun h9 => absurd (by decide) h9)
  refine v_lload_n C 2 dX4_digest_191 rfl ?_
  exact v_lret C dX4_digest_192 rfl (by rw [ey_51, ey_50, ey_49, ey_48, ey_47, ey_46, ey_45, ey_44, ey_43, ey_42, ey_41, ey_40, ey_39, ey_38, ey_37, ey_36, ey_35, ey_34, ey_33, ey_32, ey_31, ey_30, ey_29, ey_28, ed0, ey_11, ey_10, ey_9, ey_8, ey_7, ey_6, ey_5, ey_4, ey_3, ey_2, ey_1]; rfl)
