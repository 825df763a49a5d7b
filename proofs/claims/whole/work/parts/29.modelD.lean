/-! THE MODEL: sums, looking ahead -/
set_option maxHeartbeats 4000000 in
set_option maxRecDepth 100000 in
theorem c_X4_sum {l : Launch} {P : L5} {D : va_G} {N F T : Nat → Nat → Int32} {K : Nat → Int32} {A : Nat → Nat → Int32} {w : Int64} {c : Nat} (hc : K 2 = nI c) (h12 : c ≤ 12) {b : Nat} (hb : b < 5) (hL : lenA b = 240) {t : Nat} (ht : t < 20) : CtI l yX4_sum cX4_sum 5 .int 1 0 0 P D 97 97 False (cw P N F T K A w) (cw P N F T K A w) [.ref (rM P), .ref (rA P b), .int (nI t)] (suM (c + 1) b t c 0 A 0) := by
  refine mk_Met pl_X4 [(0, .ref (rM P)), (1, .ref (rA P b)), (2, .int (nI t))] rfl (Nat.le_of_ble_eq_true rfl) ?_
  intro pg en sg mg ag bg mt cd C
  refine v_iconst (v := 0) C dX4_sum_0 rfl ?_
  refine v_istore_n (lv' := [(3, .int 0), (0, .ref (rM P)), (1, .ref (rA P b)), (2, .int (nI t))]) C dX4_sum_1 rfl (by decide) rfl ?_
  refine v_iconst (v := 0) C dX4_sum_2 rfl ?_
  refine v_istore (lv' := [(4, .int 0), (3, .int 0), (0, .ref (rM P)), (1, .ref (rA P b)), (2, .int (nI t))]) C dX4_sum_3 (by decide) rfl ?_
  have L_1 : ∀ (n : Nat) (i : Nat) (sm : Int32), i ≤ c → c < i + n → V pg l en (rmO 1 0 0) sg mg ag bg mt cd P D (MQ bg (QcI P D 97 False (cw P N F T K A w) (suM (c + 1) b t c 0 A 0)) ag sg 0 0 (aO P)) 5 97 False (cw P N F T K A w) 0 0 32 [(3, .int (suM n b t c i A sm))] [] → V pg l en (rmO 1 0 0) sg mg ag bg mt cd P D (MQ bg (QcI P D 97 False (cw P N F T K A w) (suM (c + 1) b t c 0 A 0)) ag sg 0 0 (aO P)) 5 97 False (cw P N F T K A w) 0 0 5 [(4, .int (nI i)), (3, .int sm), (0, .ref (rM P)), (1, .ref (rA P b)), (2, .int (nI t))] [] := by
    intro n
    induction n with
    | zero => intro i sm z1 z2; omega
    | succ n ih =>
      intro i sm z1 z2 hk9
      refine v_iload C 0 dX4_sum_5 rfl ?_
      refine v_aload_n C 2 dX4_sum_7 rfl ?_
      refine v_gM C 2 (by decide) k_515 rfl dX4_sum_8 ?_
      refine v_icmp_ge (tgt := 32) C dX4_sum_11 (by decide) (fun h11_1 => ?_) (fun h11_1 => ?_)
      · refine v_lv [1] rfl ?_
        have hic : c ≤ i := (leC hc h12 z1).mp h11_1
        have e9 : suM (n + 1) b t c i A sm = sm := by rw [suM, if_pos hic]
        rw [e9] at hk9
        exact hk9
      · have hic : i < c := Nat.not_le.mp (fun z => h11_1 ((leC hc h12 z1).mpr z))
        refine v_iload_n C 1 dX4_sum_14 rfl ?_
        refine v_aload_n C 3 dX4_sum_15 rfl ?_
        refine v_bipush (v := 20) C dX4_sum_16 rfl ?_
        refine v_iload C 0 dX4_sum_18 rfl ?_
        refine v_imul C dX4_sum_20 ?_
        refine v_iload_n C 4 dX4_sum_21 rfl ?_
        refine v_iadd C dX4_sum_22 ?_
        refine v_ldAk C ((20 * i) + t) hb (ixA (ixM rfl rfl) rfl) (by rw [hL]; omega) rfl dX4_sum_23 ?_
        refine v_iadd C dX4_sum_24 ?_
        refine v_top (fun x_1 ex_1 => ?_)
        refine v_istore_n (lv' := [(3, .int x_1), (4, .int (nI i)), (0, .ref (rM P)), (1, .ref (rA P b)), (2, .int (nI t))]) C dX4_sum_25 rfl (by decide) rfl ?_
        refine v_iinc (b := (nI (i + 1))) (lv' := [(4, .int (nI (i + 1))), (3, .int x_1), (0, .ref (rM P)), (1, .ref (rA P b)), (2, .int (nI t))]) C 1 dX4_sum_26 rfl (nI_1 _) (by decide) rfl ?_
        refine v_goto (tgt := 5) C dX4_sum_29 (by decide) ?_
        have e9 : suM (n + 1) b t c i A sm = suM n b t c (i + 1) A (sm + A b (20 * i + t)) := by rw [suM, if_neg (by omega)]
        rw [e9] at hk9
        subst ex_1
        exact ih _ _ (by omega) (by omega) hk9
  refine L_1 (c + 1) 0 0 (by omega) (by omega) ?_
  refine v_iload_n C 0 dX4_sum_32 rfl ?_
  exact v_iret C dX4_sum_33 rfl rfl
set_option maxHeartbeats 4000000 in
set_option maxRecDepth 100000 in
theorem c_X4_sumOfFour {l : Launch} {P : L5} {D : va_G} {N F T : Nat → Nat → Int32} {K : Nat → Int32} {A : Nat → Nat → Int32} {w : Int64} {c : Nat} (hc : K 2 = nI c) (h12 : c ≤ 12) {b : Nat} (hb : b < 5) (hL : lenA b = 240) {t : Nat} (ht : t + 3 < 20) : CtI l yX4_sumOfFour cX4_sumOfFour 3 .int 3 0 0 P D 97 97 False (cw P N F T K A w) (cw P N F T K A w) [.ref (rM P), .ref (rA P b), .int (nI t)] (s4M b t c A) := by
  refine mk_Met pl_X4 [(0, .ref (rM P)), (1, .ref (rA P b)), (2, .int (nI t))] rfl (Nat.le_of_ble_eq_true rfl) ?_
  intro pg en sg mg ag bg mt cd C
  refine v_aload_n C 0 dX4_sumOfFour_0 rfl ?_
  refine v_aload_n C 1 dX4_sumOfFour_1 rfl ?_
  refine v_iload_n C 2 dX4_sumOfFour_2 rfl ?_
  refine go_I (run_V C (c_X4_sum hc h12 hb hL (by omega)) k_619 k_5 k_616 k_618 ks_34 dd_X4_sum ⟨Nat.le_of_ble_eq_true rfl, Nat.le_of_ble_eq_true rfl⟩ rcM rfl (Nat.le_of_ble_eq_true rfl) dX4_sumOfFour_3 ⟨Nat.le_of_ble_eq_true rfl, Nat.le_of_ble_eq_true rfl⟩) ?_
  refine v_aload_n C 0 dX4_sumOfFour_6 rfl ?_
  refine v_aload_n C 1 dX4_sumOfFour_7 rfl ?_
  refine v_iload_n C 2 dX4_sumOfFour_8 rfl ?_
  refine v_iconst (v := 1) C dX4_sumOfFour_9 rfl ?_
  refine v_iadd C dX4_sumOfFour_10 ?_
  refine v_topE (b := nI (t + 1)) (ixA rfl rfl) ?_
  refine go_I (run_V C (c_X4_sum hc h12 hb hL (by omega)) k_619 k_5 k_616 k_618 ks_34 dd_X4_sum ⟨Nat.le_of_ble_eq_true rfl, Nat.le_of_ble_eq_true rfl⟩ rcM rfl (Nat.le_of_ble_eq_true rfl) dX4_sumOfFour_11 ⟨Nat.le_of_ble_eq_true rfl, Nat.le_of_ble_eq_true rfl⟩) ?_
  refine v_iadd C dX4_sumOfFour_14 ?_
  refine v_aload_n C 0 dX4_sumOfFour_15 rfl ?_
  refine v_aload_n C 1 dX4_sumOfFour_16 rfl ?_
  refine v_iload_n C 2 dX4_sumOfFour_17 rfl ?_
  refine v_iconst (v := 2) C dX4_sumOfFour_18 rfl ?_
  refine v_iadd C dX4_sumOfFour_19 ?_
  refine v_topE (b := nI (t + 2)) (ixA rfl rfl) ?_
  refine go_I (run_V C (c_X4_sum hc h12 hb hL (by omega)) k_619 k_5 k_616 k_618 ks_34 dd_X4_sum ⟨Nat.le_of_ble_eq_true rfl, Nat.le_of_ble_eq_true rfl⟩ rcM rfl (Nat.le_of_ble_eq_true rfl) dX4_sumOfFour_20 ⟨Nat.le_of_ble_eq_true rfl, Nat.le_of_ble_eq_true rfl⟩) ?_
  refine v_iadd C dX4_sumOfFour_23 ?_
  refine v_aload_n C 0 dX4_sumOfFour_24 rfl ?_
  refine v_aload_n C 1 dX4_sumOfFour_25 rfl ?_
  refine v_iload_n C 2 dX4_sumOfFour_26 rfl ?_
  refine v_iconst (v := 3) C dX4_sumOfFour_27 rfl ?_
  refine v_iadd C dX4_sumOfFour_28 ?_
  refine v_topE (b := nI (t + 3)) (ixA rfl rfl) ?_
  refine go_I (run_V C (c_X4_sum hc h12 hb hL (by omega)) k_619 k_5 k_616 k_618 ks_34 dd_X4_sum ⟨Nat.le_of_ble_eq_true rfl, Nat.le_of_ble_eq_true rfl⟩ rcM rfl (Nat.le_of_ble_eq_true rfl) dX4_sumOfFour_29 ⟨Nat.le_of_ble_eq_true rfl, Nat.le_of_ble_eq_true rfl⟩) ?_
  refine v_iadd C dX4_sumOfFour_32 ?_
  exact v_iret C dX4_sumOfFour_33 rfl rfl
set_option maxHeartbeats 4000000 in
set_option maxRecDepth 100000 in
theorem c_X4_hot {l : Launch} {P : L5} {D : va_G} {N F T : Nat → Nat → Int32} {K : Nat → Int32} {A : Nat → Nat → Int32} {w : Int64} {c : Nat} (hc : K 2 = nI c) (h12 : c ≤ 12) : CtI l yX4_hot cX4_hot 3 .int 1 0 0 P D 97 97 False (cw P N F T K A w) (cw P N F T K A w) [.ref (rM P)] (hoM (c + 1) c 0 A 0) := by
  refine mk_Met pl_X4 [(0, .ref (rM P))] rfl (Nat.le_of_ble_eq_true rfl) ?_
  intro pg en sg mg ag bg mt cd C
  refine v_iconst (v := 0) C dX4_hot_0 rfl ?_
  refine v_istore_n (lv' := [(1, .int 0), (0, .ref (rM P))]) C dX4_hot_1 rfl (by decide) rfl ?_
  refine v_iconst (v := 0) C dX4_hot_2 rfl ?_
  refine v_istore_n (lv' := [(2, .int 0), (1, .int 0), (0, .ref (rM P))]) C dX4_hot_3 rfl (by decide) rfl ?_
  have L_1 : ∀ (n : Nat) (i : Nat) (sm : Int32), i ≤ c → c < i + n → V pg l en (rmO 1 0 0) sg mg ag bg mt cd P D (MQ bg (QcI P D 97 False (cw P N F T K A w) (hoM (c + 1) c 0 A 0)) ag sg 0 0 (aO P)) 3 97 False (cw P N F T K A w) 0 0 41 [(1, .int (hoM n c i A sm))] [] → V pg l en (rmO 1 0 0) sg mg ag bg mt cd P D (MQ bg (QcI P D 97 False (cw P N F T K A w) (hoM (c + 1) c 0 A 0)) ag sg 0 0 (aO P)) 3 97 False (cw P N F T K A w) 0 0 4 [(2, .int (nI i)), (1, .int sm), (0, .ref (rM P))] [] := by
    intro n
    induction n with
    | zero => intro i sm z1 z2; omega
    | succ n ih =>
      intro i sm z1 z2 hk9
      refine v_iload_n C 0 dX4_hot_4 rfl ?_
      refine v_aload_n C 2 dX4_hot_5 rfl ?_
      refine v_gM C 2 (by decide) k_515 rfl dX4_hot_6 ?_
      refine v_icmp_ge (tgt := 41) C dX4_hot_9 (by decide) (fun h9_1 => ?_) (fun h9_1 => ?_)
      · refine v_lv [1] rfl ?_
        have hic : c ≤ i := (leC hc h12 z1).mp h9_1
        have e9 : hoM (n + 1) c i A sm = sm := by rw [hoM, if_pos hic]
        rw [e9] at hk9
        exact hk9
      · have hic : i < c := Nat.not_le.mp (fun z => h9_1 ((leC hc h12 z1).mpr z))
        refine v_iload_n C 1 dX4_hot_12 rfl ?_
        refine v_aload_n C 2 dX4_hot_13 rfl ?_
        refine v_gM C 3 (by decide) k_516 rfl dX4_hot_14 ?_
        refine v_bipush (v := 20) C dX4_hot_17 rfl ?_
        refine v_iload_n C 0 dX4_hot_19 rfl ?_
        refine v_imul C dX4_hot_20 ?_
        refine v_iconst (v := 5) C dX4_hot_21 rfl ?_
        refine v_iadd C dX4_hot_22 ?_
        refine v_ldAk C ((20 * i) + 5) (by decide) (ixA (ixM rfl rfl) rfl) (show _ < 240 by omega) rfl dX4_hot_23 ?_
        refine v_iconst (v := 4) C dX4_hot_24 rfl ?_
        refine v_icmp_lt (tgt := 32) C dX4_hot_25 (by decide) (fun h25_1 => ?_) (fun h25_1 => ?_)
        · refine v_iconst (v := 0) C dX4_hot_32 rfl ?_
          refine v_iadd C dX4_hot_33 ?_
          refine v_top (fun x_1 ex_1 => ?_)
          refine v_istore_n (lv' := [(1, .int x_1), (2, .int (nI i)), (0, .ref (rM P))]) C dX4_hot_34 rfl (by decide) rfl ?_
          refine v_iinc (b := (nI (i + 1))) (lv' := [(2, .int (nI (i + 1))), (1, .int x_1), (0, .ref (rM P))]) C 1 dX4_hot_35 rfl (nI_1 _) (by decide) rfl ?_
          refine v_goto (tgt := 4) C dX4_hot_38 (by decide) ?_
          have e9 : hoM (n + 1) c i A sm = hoM n c (i + 1) A (sm + 0) := by rw [hoM, if_neg (by omega), if_pos (by exact h25_1)]
          rw [e9] at hk9
          subst ex_1
          exact ih _ _ (by omega) (by omega) hk9
        · refine v_iconst (v := 1) C dX4_hot_28 rfl ?_
          refine v_goto (tgt := 33) C dX4_hot_29 (by decide) ?_
          refine v_iadd C dX4_hot_33 ?_
          refine v_top (fun x_2 ex_2 => ?_)
          refine v_istore_n (lv' := [(1, .int x_2), (2, .int (nI i)), (0, .ref (rM P))]) C dX4_hot_34 rfl (by decide) rfl ?_
          refine v_iinc (b := (nI (i + 1))) (lv' := [(2, .int (nI (i + 1))), (1, .int x_2), (0, .ref (rM P))]) C 1 dX4_hot_35 rfl (nI_1 _) (by decide) rfl ?_
          refine v_goto (tgt := 4) C dX4_hot_38 (by decide) ?_
          have e9 : hoM (n + 1) c i A sm = hoM n c (i + 1) A (sm + 1) := by rw [hoM, if_neg (by omega), if_neg (by exact h25_1)]
          rw [e9] at hk9
          subst ex_2
          exact ih _ _ (by omega) (by omega) hk9
  refine L_1 (c + 1) 0 0 (by omega) (by omega) ?_
  refine v_iload_n C 0 dX4_hot_41 rfl ?_
  exact v_iret C dX4_hot_42 rfl rfl
set_option maxHeartbeats 4000000 in
set_option maxRecDepth 100000 in
theorem c_X4_bought {l : Launch} {P : L5} {D : va_G} {N F T : Nat → Nat → Int32} {K : Nat → Int32} {A : Nat → Nat → Int32} {w : Int64} {b2 : Nat} (hb2 : b2 < 5) (hL2 : lenA b2 = 20) : CtI l yX4_bought cX4_bought 1 .int 1 0 0 P D 97 97 False (cw P N F T K A w) (cw P N F T K A w) [.ref (rA P b2)] (boM A b2) := by
  refine mk_Met pl_X4 [(0, .ref (rA P b2))] rfl (Nat.le_of_ble_eq_true rfl) ?_
  intro pg en sg mg ag bg mt cd C
  refine v_aload_n C 0 dX4_bought_0 rfl ?_
  refine v_iconst (v := 2) C dX4_bought_1 rfl ?_
  refine v_ldAk C 2 hb2 rfl (by rw [hL2]; omega) rfl dX4_bought_2 ?_
  refine v_aload_n C 0 dX4_bought_3 rfl ?_
  refine v_bipush (v := 7) C dX4_bought_4 rfl ?_
  refine v_ldAk C 7 hb2 rfl (by rw [hL2]; omega) rfl dX4_bought_6 ?_
  refine v_iadd C dX4_bought_7 ?_
  refine v_aload_n C 0 dX4_bought_8 rfl ?_
  refine v_bipush (v := 12) C dX4_bought_9 rfl ?_
  refine v_ldAk C 12 hb2 rfl (by rw [hL2]; omega) rfl dX4_bought_11 ?_
  refine v_iadd C dX4_bought_12 ?_
  refine v_aload_n C 0 dX4_bought_13 rfl ?_
  refine v_bipush (v := 17) C dX4_bought_14 rfl ?_
  refine v_ldAk C 17 hb2 rfl (by rw [hL2]; omega) rfl dX4_bought_16 ?_
  refine v_iadd C dX4_bought_17 ?_
  exact v_iret C dX4_bought_18 rfl rfl
set_option maxHeartbeats 4000000 in
set_option maxRecDepth 100000 in
theorem c_X4_summed_3 {l : Launch} {P : L5} {D : va_G} {N F T : Nat → Nat → Int32} {K : Nat → Int32} {A : Nat → Nat → Int32} {w : Int64} {c : Nat} (hc : K 2 = nI c) (h12 : c ≤ 12) {b b2 : Nat} (hb : b < 5) (hb2 : b2 < 5) (hL : lenA b = 240) (hL2 : lenA b2 = 20) : CtI l yX4_summed cX4_summed 4 .int 4 0 0 P D 97 97 False (cw P N F T K A w) (cw P N F T K A w) [.ref (rM P), .ref (rA P b), .ref (rA P b2), .int 3] (sdM A b b2 c 3) := by
  refine mk_Met pl_X4 [(0, .ref (rM P)), (1, .ref (rA P b)), (2, .ref (rA P b2)), (3, .int 3)] rfl (Nat.le_of_ble_eq_true rfl) ?_
  intro pg en sg mg ag bg mt cd C
  refine v_iload_n C 3 dX4_summed_0 rfl ?_
  refine v_tableIn (tgt := 32) C dX4_summed_1 (by decide) (by decide) rfl (by decide) ?_
  refine v_aload_n C 0 dX4_summed_32 rfl ?_
  refine v_aload_n C 1 dX4_summed_33 rfl ?_
  refine v_iconst (v := 3) C dX4_summed_34 rfl ?_
  refine go_I (run_V C (c_X4_sum hc h12 hb hL (t := 3) (by omega)) k_619 k_5 k_616 k_618 ks_34 dd_X4_sum ⟨Nat.le_of_ble_eq_true rfl, Nat.le_of_ble_eq_true rfl⟩ rcM rfl (Nat.le_of_ble_eq_true rfl) dX4_summed_35 ⟨Nat.le_of_ble_eq_true rfl, Nat.le_of_ble_eq_true rfl⟩) ?_
  exact v_iret C dX4_summed_38 rfl rfl
set_option maxHeartbeats 4000000 in
set_option maxRecDepth 100000 in
theorem c_X4_summed_4 {l : Launch} {P : L5} {D : va_G} {N F T : Nat → Nat → Int32} {K : Nat → Int32} {A : Nat → Nat → Int32} {w : Int64} {c : Nat} (hc : K 2 = nI c) (h12 : c ≤ 12) {b b2 : Nat} (hb : b < 5) (hb2 : b2 < 5) (hL : lenA b = 240) (hL2 : lenA b2 = 20) : CtI l yX4_summed cX4_summed 4 .int 4 0 0 P D 97 97 False (cw P N F T K A w) (cw P N F T K A w) [.ref (rM P), .ref (rA P b), .ref (rA P b2), .int 4] (sdM A b b2 c 4) := by
  refine mk_Met pl_X4 [(0, .ref (rM P)), (1, .ref (rA P b)), (2, .ref (rA P b2)), (3, .int 4)] rfl (Nat.le_of_ble_eq_true rfl) ?_
  intro pg en sg mg ag bg mt cd C
  refine v_iload_n C 3 dX4_summed_0 rfl ?_
  refine v_tableIn (tgt := 39) C dX4_summed_1 (by decide) (by decide) rfl (by decide) ?_
  refine v_aload_n C 0 dX4_summed_39 rfl ?_
  refine v_aload_n C 1 dX4_summed_40 rfl ?_
  refine v_bipush (v := 12) C dX4_summed_41 rfl ?_
  refine go_I (run_V C (c_X4_sumOfFour hc h12 hb hL (t := 12) (by omega)) k_623 k_5 k_620 k_622 ks_35 dd_X4_sumOfFour ⟨Nat.le_of_ble_eq_true rfl, Nat.le_of_ble_eq_true rfl⟩ rcM rfl (Nat.le_of_ble_eq_true rfl) dX4_summed_43 ⟨Nat.le_of_ble_eq_true rfl, Nat.le_of_ble_eq_true rfl⟩) ?_
  exact v_iret C dX4_summed_46 rfl rfl
set_option maxHeartbeats 4000000 in
set_option maxRecDepth 100000 in
theorem c_X4_summed_5 {l : Launch} {P : L5} {D : va_G} {N F T : Nat → Nat → Int32} {K : Nat → Int32} {A : Nat → Nat → Int32} {w : Int64} {c : Nat} (hc : K 2 = nI c) (h12 : c ≤ 12) {b b2 : Nat} (hb : b < 5) (hb2 : b2 < 5) (hL : lenA b = 240) (hL2 : lenA b2 = 20) : CtI l yX4_summed cX4_summed 4 .int 4 0 0 P D 97 97 False (cw P N F T K A w) (cw P N F T K A w) [.ref (rM P), .ref (rA P b), .ref (rA P b2), .int 5] (sdM A b b2 c 5) := by
  refine mk_Met pl_X4 [(0, .ref (rM P)), (1, .ref (rA P b)), (2, .ref (rA P b2)), (3, .int 5)] rfl (Nat.le_of_ble_eq_true rfl) ?_
  intro pg en sg mg ag bg mt cd C
  refine v_iload_n C 3 dX4_summed_0 rfl ?_
  refine v_tableIn (tgt := 47) C dX4_summed_1 (by decide) (by decide) rfl (by decide) ?_
  refine v_aload_n C 0 dX4_summed_47 rfl ?_
  refine v_aload_n C 1 dX4_summed_48 rfl ?_
  refine v_bipush (v := 16) C dX4_summed_49 rfl ?_
  refine go_I (run_V C (c_X4_sumOfFour hc h12 hb hL (t := 16) (by omega)) k_623 k_5 k_620 k_622 ks_35 dd_X4_sumOfFour ⟨Nat.le_of_ble_eq_true rfl, Nat.le_of_ble_eq_true rfl⟩ rcM rfl (Nat.le_of_ble_eq_true rfl) dX4_summed_51 ⟨Nat.le_of_ble_eq_true rfl, Nat.le_of_ble_eq_true rfl⟩) ?_
  exact v_iret C dX4_summed_54 rfl rfl
set_option maxHeartbeats 4000000 in
set_option maxRecDepth 100000 in
theorem c_X4_summed_6 {l : Launch} {P : L5} {D : va_G} {N F T : Nat → Nat → Int32} {K : Nat → Int32} {A : Nat → Nat → Int32} {w : Int64} {c : Nat} (hc : K 2 = nI c) (h12 : c ≤ 12) {b b2 : Nat} (hb : b < 5) (hb2 : b2 < 5) (hL : lenA b = 240) (hL2 : lenA b2 = 20) : CtI l yX4_summed cX4_summed 4 .int 4 0 0 P D 97 97 False (cw P N F T K A w) (cw P N F T K A w) [.ref (rM P), .ref (rA P b), .ref (rA P b2), .int 6] (sdM A b b2 c 6) := by
  refine mk_Met pl_X4 [(0, .ref (rM P)), (1, .ref (rA P b)), (2, .ref (rA P b2)), (3, .int 6)] rfl (Nat.le_of_ble_eq_true rfl) ?_
  intro pg en sg mg ag bg mt cd C
  refine v_iload_n C 3 dX4_summed_0 rfl ?_
  refine v_tableIn (tgt := 55) C dX4_summed_1 (by decide) (by decide) rfl (by decide) ?_
  refine v_aload_n C 2 dX4_summed_55 rfl ?_
  refine go_I (run_S C (c_X4_bought hb2 hL2) k_626 k_5 k_624 k_625 dd_X4_bought ⟨Nat.le_of_ble_eq_true rfl, Nat.le_of_ble_eq_true rfl⟩ rfl (Nat.le_of_ble_eq_true rfl) dX4_summed_56 ⟨Nat.le_of_ble_eq_true rfl, Nat.le_of_ble_eq_true rfl⟩) ?_
  exact v_iret C dX4_summed_59 rfl rfl
set_option maxHeartbeats 4000000 in
set_option maxRecDepth 100000 in
theorem c_X4_summed_7 {l : Launch} {P : L5} {D : va_G} {N F T : Nat → Nat → Int32} {K : Nat → Int32} {A : Nat → Nat → Int32} {w : Int64} {c : Nat} (hc : K 2 = nI c) (h12 : c ≤ 12) {b b2 : Nat} (hb : b < 5) (hb2 : b2 < 5) (hL : lenA b = 240) (hL2 : lenA b2 = 20) : CtI l yX4_summed cX4_summed 4 .int 4 0 0 P D 97 97 False (cw P N F T K A w) (cw P N F T K A w) [.ref (rM P), .ref (rA P b), .ref (rA P b2), .int 7] (sdM A b b2 c 7) := by
  refine mk_Met pl_X4 [(0, .ref (rM P)), (1, .ref (rA P b)), (2, .ref (rA P b2)), (3, .int 7)] rfl (Nat.le_of_ble_eq_true rfl) ?_
  intro pg en sg mg ag bg mt cd C
  refine v_iload_n C 3 dX4_summed_0 rfl ?_
  refine v_tableOut (tgt := 60) C dX4_summed_1 (by decide) (by decide) ?_
  refine v_aload_n C 0 dX4_summed_60 rfl ?_
  refine v_aload_n C 1 dX4_summed_61 rfl ?_
  refine v_iload_n C 3 dX4_summed_62 rfl ?_
  refine go_I (run_V C (c_X4_sum hc h12 hb hL (t := 7) (by omega)) k_619 k_5 k_616 k_618 ks_34 dd_X4_sum ⟨Nat.le_of_ble_eq_true rfl, Nat.le_of_ble_eq_true rfl⟩ rcM rfl (Nat.le_of_ble_eq_true rfl) dX4_summed_63 ⟨Nat.le_of_ble_eq_true rfl, Nat.le_of_ble_eq_true rfl⟩) ?_
  exact v_iret C dX4_summed_66 rfl rfl
set_option maxHeartbeats 4000000 in
set_option maxRecDepth 100000 in
theorem c_X4_summed_8 {l : Launch} {P : L5} {D : va_G} {N F T : Nat → Nat → Int32} {K : Nat → Int32} {A : Nat → Nat → Int32} {w : Int64} {c : Nat} (hc : K 2 = nI c) (h12 : c ≤ 12) {b b2 : Nat} (hb : b < 5) (hb2 : b2 < 5) (hL : lenA b = 240) (hL2 : lenA b2 = 20) : CtI l yX4_summed cX4_summed 4 .int 4 0 0 P D 97 97 False (cw P N F T K A w) (cw P N F T K A w) [.ref (rM P), .ref (rA P b), .ref (rA P b2), .int 8] (sdM A b b2 c 8) := by
  refine mk_Met pl_X4 [(0, .ref (rM P)), (1, .ref (rA P b)), (2, .ref (rA P b2)), (3, .int 8)] rfl (Nat.le_of_ble_eq_true rfl) ?_
  intro pg en sg mg ag bg mt cd C
  refine v_iload_n C 3 dX4_summed_0 rfl ?_
  refine v_tableOut (tgt := 60) C dX4_summed_1 (by decide) (by decide) ?_
  refine v_aload_n C 0 dX4_summed_60 rfl ?_
  refine v_aload_n C 1 dX4_summed_61 rfl ?_
  refine v_iload_n C 3 dX4_summed_62 rfl ?_
  refine go_I (run_V C (c_X4_sum hc h12 hb hL (t := 8) (by omega)) k_619 k_5 k_616 k_618 ks_34 dd_X4_sum ⟨Nat.le_of_ble_eq_true rfl, Nat.le_of_ble_eq_true rfl⟩ rcM rfl (Nat.le_of_ble_eq_true rfl) dX4_summed_63 ⟨Nat.le_of_ble_eq_true rfl, Nat.le_of_ble_eq_true rfl⟩) ?_
  exact v_iret C dX4_summed_66 rfl rfl
set_option maxHeartbeats 4000000 in
set_option maxRecDepth 100000 in
theorem c_X4_summed_9 {l : Launch} {P : L5} {D : va_G} {N F T : Nat → Nat → Int32} {K : Nat → Int32} {A : Nat → Nat → Int32} {w : Int64} {c : Nat} (hc : K 2 = nI c) (h12 : c ≤ 12) {b b2 : Nat} (hb : b < 5) (hb2 : b2 < 5) (hL : lenA b = 240) (hL2 : lenA b2 = 20) : CtI l yX4_summed cX4_summed 4 .int 4 0 0 P D 97 97 False (cw P N F T K A w) (cw P N F T K A w) [.ref (rM P), .ref (rA P b), .ref (rA P b2), .int 9] (sdM A b b2 c 9) := by
  refine mk_Met pl_X4 [(0, .ref (rM P)), (1, .ref (rA P b)), (2, .ref (rA P b2)), (3, .int 9)] rfl (Nat.le_of_ble_eq_true rfl) ?_
  intro pg en sg mg ag bg mt cd C
  refine v_iload_n C 3 dX4_summed_0 rfl ?_
  refine v_tableOut (tgt := 60) C dX4_summed_1 (by decide) (by decide) ?_
  refine v_aload_n C 0 dX4_summed_60 rfl ?_
  refine v_aload_n C 1 dX4_summed_61 rfl ?_
  refine v_iload_n C 3 dX4_summed_62 rfl ?_
  refine go_I (run_V C (c_X4_sum hc h12 hb hL (t := 9) (by omega)) k_619 k_5 k_616 k_618 ks_34 dd_X4_sum ⟨Nat.le_of_ble_eq_true rfl, Nat.le_of_ble_eq_true rfl⟩ rcM rfl (Nat.le_of_ble_eq_true rfl) dX4_summed_63 ⟨Nat.le_of_ble_eq_true rfl, Nat.le_of_ble_eq_true rfl⟩) ?_
  exact v_iret C dX4_summed_66 rfl rfl
set_option maxHeartbeats 4000000 in
set_option maxRecDepth 100000 in
theorem c_X4_summed_10 {l : Launch} {P : L5} {D : va_G} {N F T : Nat → Nat → Int32} {K : Nat → Int32} {A : Nat → Nat → Int32} {w : Int64} {c : Nat} (hc : K 2 = nI c) (h12 : c ≤ 12) {b b2 : Nat} (hb : b < 5) (hb2 : b2 < 5) (hL : lenA b = 240) (hL2 : lenA b2 = 20) : CtI l yX4_summed cX4_summed 4 .int 4 0 0 P D 97 97 False (cw P N F T K A w) (cw P N F T K A w) [.ref (rM P), .ref (rA P b), .ref (rA P b2), .int 10] (sdM A b b2 c 10) := by
  refine mk_Met pl_X4 [(0, .ref (rM P)), (1, .ref (rA P b)), (2, .ref (rA P b2)), (3, .int 10)] rfl (Nat.le_of_ble_eq_true rfl) ?_
  intro pg en sg mg ag bg mt cd C
  refine v_iload_n C 3 dX4_summed_0 rfl ?_
  refine v_tableOut (tgt := 60) C dX4_summed_1 (by decide) (by decide) ?_
  refine v_aload_n C 0 dX4_summed_60 rfl ?_
  refine v_aload_n C 1 dX4_summed_61 rfl ?_
  refine v_iload_n C 3 dX4_summed_62 rfl ?_
  refine go_I (run_V C (c_X4_sum hc h12 hb hL (t := 10) (by omega)) k_619 k_5 k_616 k_618 ks_34 dd_X4_sum ⟨Nat.le_of_ble_eq_true rfl, Nat.le_of_ble_eq_true rfl⟩ rcM rfl (Nat.le_of_ble_eq_true rfl) dX4_summed_63 ⟨Nat.le_of_ble_eq_true rfl, Nat.le_of_ble_eq_true rfl⟩) ?_
  exact v_iret C dX4_summed_66 rfl rfl
set_option maxHeartbeats 4000000 in
set_option maxRecDepth 100000 in
theorem c_X4_counted_0 {l : Launch} {P : L5} {D : va_G} {N F T : Nat → Nat → Int32} {K : Nat → Int32} {A : Nat → Nat → Int32} {w : Int64} {c : Nat} (hc : K 2 = nI c) (h12 : c ≤ 12) : CtI l yX4_counted cX4_counted 2 .int 5 0 0 P D 97 97 False (cw P N F T K A w) (cw P N F T K A w) [.ref (rM P), .int 0] (cdM K A c 0) := by
  refine mk_Met pl_X4 [(0, .ref (rM P)), (1, .int 0)] rfl (Nat.le_of_ble_eq_true rfl) ?_
  intro pg en sg mg ag bg mt cd C
  refine v_iload_n C 1 dX4_counted_0 rfl ?_
  refine v_if_ne (tgt := 11) C dX4_counted_1 (by decide) (fun h9 => absurd h9 (by decide)) (fun _ => ?_)
  refine v_aload_n C 0 dX4_counted_4 rfl ?_
  refine v_gM C 1 (by decide) k_514 rfl dX4_counted_5 ?_
  refine v_goto (tgt := 48) C dX4_counted_8 (by decide) ?_
  exact v_iret C dX4_counted_48 rfl rfl
set_option maxHeartbeats 4000000 in
set_option maxRecDepth 100000 in
theorem c_X4_counted_1 {l : Launch} {P : L5} {D : va_G} {N F T : Nat → Nat → Int32} {K : Nat → Int32} {A : Nat → Nat → Int32} {w : Int64} {c : Nat} (hc : K 2 = nI c) (h12 : c ≤ 12) : CtI l yX4_counted cX4_counted 2 .int 5 0 0 P D 97 97 False (cw P N F T K A w) (cw P N F T K A w) [.ref (rM P), .int 1] (cdM K A c 1) := by
  refine mk_Met pl_X4 [(0, .ref (rM P)), (1, .int 1)] rfl (Nat.le_of_ble_eq_true rfl) ?_
  intro pg en sg mg ag bg mt cd C
  refine v_iload_n C 1 dX4_counted_0 rfl ?_
  refine v_if_ne (tgt := 11) C dX4_counted_1 (by decide) (fun _ => ?_) (fun h9 => absurd h9 (by decide))
  refine v_iload_n C 1 dX4_counted_11 rfl ?_
  refine v_iconst (v := 1) C dX4_counted_12 rfl ?_
  refine v_icmp_ne (tgt := 23) C dX4_counted_13 (by decide) (fun h9 => absurd h9 (by decide)) (fun _ => ?_)
  refine v_aload_n C 0 dX4_counted_16 rfl ?_
  refine v_gM C 2 (by decide) k_515 rfl dX4_counted_17 ?_
  refine v_goto (tgt := 48) C dX4_counted_20 (by decide) ?_
  exact v_iret C dX4_counted_48 rfl rfl
set_option maxHeartbeats 4000000 in
set_option maxRecDepth 100000 in
theorem c_X4_counted_2 {l : Launch} {P : L5} {D : va_G} {N F T : Nat → Nat → Int32} {K : Nat → Int32} {A : Nat → Nat → Int32} {w : Int64} {c : Nat} (hc : K 2 = nI c) (h12 : c ≤ 12) : CtI l yX4_counted cX4_counted 2 .int 5 0 0 P D 97 97 False (cw P N F T K A w) (cw P N F T K A w) [.ref (rM P), .int 2] (cdM K A c 2) := by
  refine mk_Met pl_X4 [(0, .ref (rM P)), (1, .int 2)] rfl (Nat.le_of_ble_eq_true rfl) ?_
  intro pg en sg mg ag bg mt cd C
  refine v_iload_n C 1 dX4_counted_0 rfl ?_
  refine v_if_ne (tgt := 11) C dX4_counted_1 (by decide) (fun _ => ?_) (fun h9 => absurd h9 (by decide))
  refine v_iload_n C 1 dX4_counted_11 rfl ?_
  refine v_iconst (v := 1) C dX4_counted_12 rfl ?_
  refine v_icmp_ne (tgt := 23) C dX4_counted_13 (by decide) (fun _ => ?_) (fun h9 => absurd h9 (by decide))
  refine v_iload_n C 1 dX4_counted_23 rfl ?_
  refine v_iconst (v := 2) C dX4_counted_24 rfl ?_
  refine v_icmp_ne (tgt := 35) C dX4_counted_25 (by decide) (fun h9 => absurd h9 (by decide)) (fun _ => ?_)
  refine v_aload_n C 0 dX4_counted_28 rfl ?_
  refine go_I (run_V C (c_X4_hot hc h12) k_611 k_5 k_608 k_610 ks_32 dd_X4_hot ⟨Nat.le_of_ble_eq_true rfl, Nat.le_of_ble_eq_true rfl⟩ rcM rfl (Nat.le_of_ble_eq_true rfl) dX4_counted_29 ⟨Nat.le_of_ble_eq_true rfl, Nat.le_of_ble_eq_true rfl⟩) ?_
  refine v_goto (tgt := 48) C dX4_counted_32 (by decide) ?_
  exact v_iret C dX4_counted_48 rfl rfl
set_option maxHeartbeats 4000000 in
set_option maxRecDepth 100000 in
theorem c_X4_counted_3 {l : Launch} {P : L5} {D : va_G} {N F T : Nat → Nat → Int32} {K : Nat → Int32} {A : Nat → Nat → Int32} {w : Int64} {c : Nat} (hc : K 2 = nI c) (h12 : c ≤ 12) : CtI l yX4_counted cX4_counted 2 .int 5 0 0 P D 97 97 False (cw P N F T K A w) (cw P N F T K A w) [.ref (rM P), .int 3] (cdM K A c 3) := by
  refine mk_Met pl_X4 [(0, .ref (rM P)), (1, .int 3)] rfl (Nat.le_of_ble_eq_true rfl) ?_
  intro pg en sg mg ag bg mt cd C
  refine v_iload_n C 1 dX4_counted_0 rfl ?_
  refine v_if_ne (tgt := 11) C dX4_counted_1 (by decide) (fun _ => ?_) (fun h9 => absurd h9 (by decide))
  refine v_iload_n C 1 dX4_counted_11 rfl ?_
  refine v_iconst (v := 1) C dX4_counted_12 rfl ?_
  refine v_icmp_ne (tgt := 23) C dX4_counted_13 (by decide) (fun _ => ?_) (fun h9 => absurd h9 (by decide))
  refine v_iload_n C 1 dX4_counted_23 rfl ?_
  refine v_iconst (v := 2) C dX4_counted_24 rfl ?_
  refine v_icmp_ne (tgt := 35) C dX4_counted_25 (by decide) (fun _ => ?_) (fun h9 => absurd h9 (by decide))
  refine v_aload_n C 0 dX4_counted_35 rfl ?_
  refine v_aload_n C 0 dX4_counted_36 rfl ?_
  refine v_gM C 3 (by decide) k_516 rfl dX4_counted_37 ?_
  refine v_aload_n C 0 dX4_counted_40 rfl ?_
  refine v_gM C 4 (by decide) k_517 rfl dX4_counted_41 ?_
  refine v_iload_n C 1 dX4_counted_44 rfl ?_
  refine go_I (run_V C (c_X4_summed_3 hc h12 (b := 0) (b2 := 1) (by decide) (by decide) rfl rfl) k_615 k_5 k_612 k_614 ks_33 dd_X4_summed ⟨Nat.le_of_ble_eq_true rfl, Nat.le_of_ble_eq_true rfl⟩ rcM rfl (Nat.le_of_ble_eq_true rfl) dX4_counted_45 ⟨Nat.le_of_ble_eq_true rfl, Nat.le_of_ble_eq_true rfl⟩) ?_
  exact v_iret C dX4_counted_48 rfl rfl
set_option maxHeartbeats 4000000 in
set_option maxRecDepth 100000 in
theorem c_X4_counted_4 {l : Launch} {P : L5} {D : va_G} {N F T : Nat → Nat → Int32} {K : Nat → Int32} {A : Nat → Nat → Int32} {w : Int64} {c : Nat} (hc : K 2 = nI c) (h12 : c ≤ 12) : CtI l yX4_counted cX4_counted 2 .int 5 0 0 P D 97 97 False (cw P N F T K A w) (cw P N F T K A w) [.ref (rM P), .int 4] (cdM K A c 4) := by
  refine mk_Met pl_X4 [(0, .ref (rM P)), (1, .int 4)] rfl (Nat.le_of_ble_eq_true rfl) ?_
  intro pg en sg mg ag bg mt cd C
  refine v_iload_n C 1 dX4_counted_0 rfl ?_
  refine v_if_ne (tgt := 11) C dX4_counted_1 (by decide) (fun _ => ?_) (fun h9 => absurd h9 (by decide))
  refine v_iload_n C 1 dX4_counted_11 rfl ?_
  refine v_iconst (v := 1) C dX4_counted_12 rfl ?_
  refine v_icmp_ne (tgt := 23) C dX4_counted_13 (by decide) (fun _ => ?_) (fun h9 => absurd h9 (by decide))
  refine v_iload_n C 1 dX4_counted_23 rfl ?_
  refine v_iconst (v := 2) C dX4_counted_24 rfl ?_
  refine v_icmp_ne (tgt := 35) C dX4_counted_25 (by decide) (fun _ => ?_) (fun h9 => absurd h9 (by decide))
  refine v_aload_n C 0 dX4_counted_35 rfl ?_
  refine v_aload_n C 0 dX4_counted_36 rfl ?_
  refine v_gM C 3 (by decide) k_516 rfl dX4_counted_37 ?_
  refine v_aload_n C 0 dX4_counted_40 rfl ?_
  refine v_gM C 4 (by decide) k_517 rfl dX4_counted_41 ?_
  refine v_iload_n C 1 dX4_counted_44 rfl ?_
  refine go_I (run_V C (c_X4_summed_4 hc h12 (b := 0) (b2 := 1) (by decide) (by decide) rfl rfl) k_615 k_5 k_612 k_614 ks_33 dd_X4_summed ⟨Nat.le_of_ble_eq_true rfl, Nat.le_of_ble_eq_true rfl⟩ rcM rfl (Nat.le_of_ble_eq_true rfl) dX4_counted_45 ⟨Nat.le_of_ble_eq_true rfl, Nat.le_of_ble_eq_true rfl⟩) ?_
  exact v_iret C dX4_counted_48 rfl rfl
set_option maxHeartbeats 4000000 in
set_option maxRecDepth 100000 in
theorem c_X4_counted_5 {l : Launch} {P : L5} {D : va_G} {N F T : Nat → Nat → Int32} {K : Nat → Int32} {A : Nat → Nat → Int32} {w : Int64} {c : Nat} (hc : K 2 = nI c) (h12 : c ≤ 12) : CtI l yX4_counted cX4_counted 2 .int 5 0 0 P D 97 97 False (cw P N F T K A w) (cw P N F T K A w) [.ref (rM P), .int 5] (cdM K A c 5) := by
  refine mk_Met pl_X4 [(0, .ref (rM P)), (1, .int 5)] rfl (Nat.le_of_ble_eq_true rfl) ?_
  intro pg en sg mg ag bg mt cd C
  refine v_iload_n C 1 dX4_counted_0 rfl ?_
  refine v_if_ne (tgt := 11) C dX4_counted_1 (by decide) (fun _ => ?_) (fun h9 => absurd h9 (by decide))
  refine v_iload_n C 1 dX4_counted_11 rfl ?_
  refine v_iconst (v := 1) C dX4_counted_12 rfl ?_
  refine v_icmp_ne (tgt := 23) C dX4_counted_13 (by decide) (fun _ => ?_) (fun h9 => absurd h9 (by decide))
  refine v_iload_n C 1 dX4_counted_23 rfl ?_
  refine v_iconst (v := 2) C dX4_counted_24 rfl ?_
  refine v_icmp_ne (tgt := 35) C dX4_counted_25 (by decide) (fun _ => ?_) (fun h9 => absurd h9 (by decide))
  refine v_aload_n C 0 dX4_counted_35 rfl ?_
  refine v_aload_n C 0 dX4_counted_36 rfl ?_
  refine v_gM C 3 (by decide) k_516 rfl dX4_counted_37 ?_
  refine v_aload_n C 0 dX4_counted_40 rfl ?_
  refine v_gM C 4 (by decide) k_517 rfl dX4_counted_41 ?_
  refine v_iload_n C 1 dX4_counted_44 rfl ?_
  refine go_I (run_V C (c_X4_summed_5 hc h12 (b := 0) (b2 := 1) (by decide) (by decide) rfl rfl) k_615 k_5 k_612 k_614 ks_33 dd_X4_summed ⟨Nat.le_of_ble_eq_true rfl, Nat.le_of_ble_eq_true rfl⟩ rcM rfl (Nat.le_of_ble_eq_true rfl) dX4_counted_45 ⟨Nat.le_of_ble_eq_true rfl, Nat.le_of_ble_eq_true rfl⟩) ?_
  exact v_iret C dX4_counted_48 rfl rfl
set_option maxHeartbeats 4000000 in
set_option maxRecDepth 100000 in
theorem c_X4_counted_6 {l : Launch} {P : L5} {D : va_G} {N F T : Nat → Nat → Int32} {K : Nat → Int32} {A : Nat → Nat → Int32} {w : Int64} {c : Nat} (hc : K 2 = nI c) (h12 : c ≤ 12) : CtI l yX4_counted cX4_counted 2 .int 5 0 0 P D 97 97 False (cw P N F T K A w) (cw P N F T K A w) [.ref (rM P), .int 6] (cdM K A c 6) := by
  refine mk_Met pl_X4 [(0, .ref (rM P)), (1, .int 6)] rfl (Nat.le_of_ble_eq_true rfl) ?_
  intro pg en sg mg ag bg mt cd C
  refine v_iload_n C 1 dX4_counted_0 rfl ?_
  refine v_if_ne (tgt := 11) C dX4_counted_1 (by decide) (fun _ => ?_) (fun h9 => absurd h9 (by decide))
  refine v_iload_n C 1 dX4_counted_11 rfl ?_
  refine v_iconst (v := 1) C dX4_counted_12 rfl ?_
  refine v_icmp_ne (tgt := 23) C dX4_counted_13 (by decide) (fun _ => ?_) (fun h9 => absurd h9 (by decide))
  refine v_iload_n C 1 dX4_counted_23 rfl ?_
  refine v_iconst (v := 2) C dX4_counted_24 rfl ?_
  refine v_icmp_ne (tgt := 35) C dX4_counted_25 (by decide) (fun _ => ?_) (fun h9 => absurd h9 (by decide))
  refine v_aload_n C 0 dX4_counted_35 rfl ?_
  refine v_aload_n C 0 dX4_counted_36 rfl ?_
  refine v_gM C 3 (by decide) k_516 rfl dX4_counted_37 ?_
  refine v_aload_n C 0 dX4_counted_40 rfl ?_
  refine v_gM C 4 (by decide) k_517 rfl dX4_counted_41 ?_
  refine v_iload_n C 1 dX4_counted_44 rfl ?_
  refine go_I (run_V C (c_X4_summed_6 hc h12 (b := 0) (b2 := 1) (by decide) (by decide) rfl rfl) k_615 k_5 k_612 k_614 ks_33 dd_X4_summed ⟨Nat.le_of_ble_eq_true rfl, Nat.le_of_ble_eq_true rfl⟩ rcM rfl (Nat.le_of_ble_eq_true rfl) dX4_counted_45 ⟨Nat.le_of_ble_eq_true rfl, Nat.le_of_ble_eq_true rfl⟩) ?_
  exact v_iret C dX4_counted_48 rfl rfl
set_option maxHeartbeats 4000000 in
set_option maxRecDepth 100000 in
theorem c_X4_counted_7 {l : Launch} {P : L5} {D : va_G} {N F T : Nat → Nat → Int32} {K : Nat → Int32} {A : Nat → Nat → Int32} {w : Int64} {c : Nat} (hc : K 2 = nI c) (h12 : c ≤ 12) : CtI l yX4_counted cX4_counted 2 .int 5 0 0 P D 97 97 False (cw P N F T K A w) (cw P N F T K A w) [.ref (rM P), .int 7] (cdM K A c 7) := by
  refine mk_Met pl_X4 [(0, .ref (rM P)), (1, .int 7)] rfl (Nat.le_of_ble_eq_true rfl) ?_
  intro pg en sg mg ag bg mt cd C
  refine v_iload_n C 1 dX4_counted_0 rfl ?_
  refine v_if_ne (tgt := 11) C dX4_counted_1 (by decide) (fun _ => ?_) (fun h9 => absurd h9 (by decide))
  refine v_iload_n C 1 dX4_counted_11 rfl ?_
  refine v_iconst (v := 1) C dX4_counted_12 rfl ?_
  refine v_icmp_ne (tgt := 23) C dX4_counted_13 (by decide) (fun _ => ?_) (fun h9 => absurd h9 (by decide))
  refine v_iload_n C 1 dX4_counted_23 rfl ?_
  refine v_iconst (v := 2) C dX4_counted_24 rfl ?_
  refine v_icmp_ne (tgt := 35) C dX4_counted_25 (by decide) (fun _ => ?_) (fun h9 => absurd h9 (by decide))
  refine v_aload_n C 0 dX4_counted_35 rfl ?_
  refine v_aload_n C 0 dX4_counted_36 rfl ?_
  refine v_gM C 3 (by decide) k_516 rfl dX4_counted_37 ?_
  refine v_aload_n C 0 dX4_counted_40 rfl ?_
  refine v_gM C 4 (by decide) k_517 rfl dX4_counted_41 ?_
  refine v_iload_n C 1 dX4_counted_44 rfl ?_
  refine go_I (run_V C (c_X4_summed_7 hc h12 (b := 0) (b2 := 1) (by decide) (by decide) rfl rfl) k_615 k_5 k_612 k_614 ks_33 dd_X4_summed ⟨Nat.le_of_ble_eq_true rfl, Nat.le_of_ble_eq_true rfl⟩ rcM rfl (Nat.le_of_ble_eq_true rfl) dX4_counted_45 ⟨Nat.le_of_ble_eq_true rfl, Nat.le_of_ble_eq_true rfl⟩) ?_
  exact v_iret C dX4_counted_48 rfl rfl
set_option maxHeartbeats 4000000 in
set_option maxRecDepth 100000 in
theorem c_X4_counted_8 {l : Launch} {P : L5} {D : va_G} {N F T : Nat → Nat → Int32} {K : Nat → Int32} {A : Nat → Nat → Int32} {w : Int64} {c : Nat} (hc : K 2 = nI c) (h12 : c ≤ 12) : CtI l yX4_counted cX4_counted 2 .int 5 0 0 P D 97 97 False (cw P N F T K A w) (cw P N F T K A w) [.ref (rM P), .int 8] (cdM K A c 8) := by
  refine mk_Met pl_X4 [(0, .ref (rM P)), (1, .int 8)] rfl (Nat.le_of_ble_eq_true rfl) ?_
  intro pg en sg mg ag bg mt cd C
  refine v_iload_n C 1 dX4_counted_0 rfl ?_
  refine v_if_ne (tgt := 11) C dX4_counted_1 (by decide) (fun _ => ?_) (fun h9 => absurd h9 (by decide))
  refine v_iload_n C 1 dX4_counted_11 rfl ?_
  refine v_iconst (v := 1) C dX4_counted_12 rfl ?_
  refine v_icmp_ne (tgt := 23) C dX4_counted_13 (by decide) (fun _ => ?_) (fun h9 => absurd h9 (by decide))
  refine v_iload_n C 1 dX4_counted_23 rfl ?_
  refine v_iconst (v := 2) C dX4_counted_24 rfl ?_
  refine v_icmp_ne (tgt := 35) C dX4_counted_25 (by decide) (fun _ => ?_) (fun h9 => absurd h9 (by decide))
  refine v_aload_n C 0 dX4_counted_35 rfl ?_
  refine v_aload_n C 0 dX4_counted_36 rfl ?_
  refine v_gM C 3 (by decide) k_516 rfl dX4_counted_37 ?_
  refine v_aload_n C 0 dX4_counted_40 rfl ?_
  refine v_gM C 4 (by decide) k_517 rfl dX4_counted_41 ?_
  refine v_iload_n C 1 dX4_counted_44 rfl ?_
  refine go_I (run_V C (c_X4_summed_8 hc h12 (b := 0) (b2 := 1) (by decide) (by decide) rfl rfl) k_615 k_5 k_612 k_614 ks_33 dd_X4_summed ⟨Nat.le_of_ble_eq_true rfl, Nat.le_of_ble_eq_true rfl⟩ rcM rfl (Nat.le_of_ble_eq_true rfl) dX4_counted_45 ⟨Nat.le_of_ble_eq_true rfl, Nat.le_of_ble_eq_true rfl⟩) ?_
  exact v_iret C dX4_counted_48 rfl rfl
set_option maxHeartbeats 4000000 in
set_option maxRecDepth 100000 in
theorem c_X4_counted_9 {l : Launch} {P : L5} {D : va_G} {N F T : Nat → Nat → Int32} {K : Nat → Int32} {A : Nat → Nat → Int32} {w : Int64} {c : Nat} (hc : K 2 = nI c) (h12 : c ≤ 12) : CtI l yX4_counted cX4_counted 2 .int 5 0 0 P D 97 97 False (cw P N F T K A w) (cw P N F T K A w) [.ref (rM P), .int 9] (cdM K A c 9) := by
  refine mk_Met pl_X4 [(0, .ref (rM P)), (1, .int 9)] rfl (Nat.le_of_ble_eq_true rfl) ?_
  intro pg en sg mg ag bg mt cd C
  refine v_iload_n C 1 dX4_counted_0 rfl ?_
  refine v_if_ne (tgt := 11) C dX4_counted_1 (by decide) (fun _ => ?_) (fun h9 => absurd h9 (by decide))
  refine v_iload_n C 1 dX4_counted_11 rfl ?_
  refine v_iconst (v := 1) C dX4_counted_12 rfl ?_
  refine v_icmp_ne (tgt := 23) C dX4_counted_13 (by decide) (fun _ => ?_) (fun h9 => absurd h9 (by decide))
  refine v_iload_n C 1 dX4_counted_23 rfl ?_
  refine v_iconst (v := 2) C dX4_counted_24 rfl ?_
  refine v_icmp_ne (tgt := 35) C dX4_counted_25 (by decide) (fun _ => ?_) (fun h9 => absurd h9 (by decide))
  refine v_aload_n C 0 dX4_counted_35 rfl ?_
  refine v_aload_n C 0 dX4_counted_36 rfl ?_
  refine v_gM C 3 (by decide) k_516 rfl dX4_counted_37 ?_
  refine v_aload_n C 0 dX4_counted_40 rfl ?_
  refine v_gM C 4 (by decide) k_517 rfl dX4_counted_41 ?_
  refine v_iload_n C 1 dX4_counted_44 rfl ?_
  refine go_I (run_V C (c_X4_summed_9 hc h12 (b := 0) (b2 := 1) (by decide) (by decide) rfl rfl) k_615 k_5 k_612 k_614 ks_33 dd_X4_summed ⟨Nat.le_of_ble_eq_true rfl, Nat.le_of_ble_eq_true rfl⟩ rcM rfl (Nat.le_of_ble_eq_true rfl) dX4_counted_45 ⟨Nat.le_of_ble_eq_true rfl, Nat.le_of_ble_eq_true rfl⟩) ?_
  exact v_iret C dX4_counted_48 rfl rfl
set_option maxHeartbeats 4000000 in
set_option maxRecDepth 100000 in
theorem c_X4_counted_10 {l : Launch} {P : L5} {D : va_G} {N F T : Nat → Nat → Int32} {K : Nat → Int32} {A : Nat → Nat → Int32} {w : Int64} {c : Nat} (hc : K 2 = nI c) (h12 : c ≤ 12) : CtI l yX4_counted cX4_counted 2 .int 5 0 0 P D 97 97 False (cw P N F T K A w) (cw P N F T K A w) [.ref (rM P), .int 10] (cdM K A c 10) := by
  refine mk_Met pl_X4 [(0, .ref (rM P)), (1, .int 10)] rfl (Nat.le_of_ble_eq_true rfl) ?_
  intro pg en sg mg ag bg mt cd C
  refine v_iload_n C 1 dX4_counted_0 rfl ?_
  refine v_if_ne (tgt := 11) C dX4_counted_1 (by decide) (fun _ => ?_) (fun h9 => absurd h9 (by decide))
  refine v_iload_n C 1 dX4_counted_11 rfl ?_
  refine v_iconst (v := 1) C dX4_counted_12 rfl ?_
  refine v_icmp_ne (tgt := 23) C dX4_counted_13 (by decide) (fun _ => ?_) (fun h9 => absurd h9 (by decide))
  refine v_iload_n C 1 dX4_counted_23 rfl ?_
  refine v_iconst (v := 2) C dX4_counted_24 rfl ?_
  refine v_icmp_ne (tgt := 35) C dX4_counted_25 (by decide) (fun _ => ?_) (fun h9 => absurd h9 (by decide))
  refine v_aload_n C 0 dX4_counted_35 rfl ?_
  refine v_aload_n C 0 dX4_counted_36 rfl ?_
  refine v_gM C 3 (by decide) k_516 rfl dX4_counted_37 ?_
  refine v_aload_n C 0 dX4_counted_40 rfl ?_
  refine v_gM C 4 (by decide) k_517 rfl dX4_counted_41 ?_
  refine v_iload_n C 1 dX4_counted_44 rfl ?_
  refine go_I (run_V C (c_X4_summed_10 hc h12 (b := 0) (b2 := 1) (by decide) (by decide) rfl rfl) k_615 k_5 k_612 k_614 ks_33 dd_X4_summed ⟨Nat.le_of_ble_eq_true rfl, Nat.le_of_ble_eq_true rfl⟩ rcM rfl (Nat.le_of_ble_eq_true rfl) dX4_counted_45 ⟨Nat.le_of_ble_eq_true rfl, Nat.le_of_ble_eq_true rfl⟩) ?_
  exact v_iret C dX4_counted_48 rfl rfl
set_option maxHeartbeats 4000000 in
set_option maxRecDepth 100000 in
theorem c_X4_count_0 {l : Launch} {P : L5} {D : va_G} {N F T : Nat → Nat → Int32} {K : Nat → Int32} {A : Nat → Nat → Int32} {w : Int64} {c : Nat} (hc : K 2 = nI c) (h12 : c ≤ 12) : CtI l yX4_count cX4_count 2 .int 6 0 0 P D 97 97 False (cw P N F T K A w) (cw P N F T (upd K 0 0) A w) [.ref (rM P), .int 0] (cdM K A c 0) := by
  refine mk_Met pl_X4 [(0, .ref (rM P)), (1, .int 0)] rfl (Nat.le_of_ble_eq_true rfl) ?_
  intro pg en sg mg ag bg mt cd C
  refine v_aload_n C 0 dX4_count_0 rfl ?_
  refine v_iconst (v := 0) C dX4_count_1 rfl ?_
  refine v_pM C 0 (by decide) k_513 dX4_count_2 ?_
  refine v_iload_n C 1 dX4_count_5 rfl ?_
  refine v_iconst (v := 0) C dX4_count_6 rfl ?_
  refine v_bipush (v := 10) C dX4_count_7 rfl ?_
  refine go_I (run_S C (c_X4_isIn_1 (by decide) (by decide)) k_547 k_5 k_545 k_546 dd_X4_isIn ⟨Nat.le_of_ble_eq_true rfl, Nat.le_of_ble_eq_true rfl⟩ rfl (Nat.le_of_ble_eq_true rfl) dX4_count_9 ⟨Nat.le_of_ble_eq_true rfl, Nat.le_of_ble_eq_true rfl⟩) ?_
  refine v_if_eq (tgt := 23) C dX4_count_12 (by decide) (fun h9 => absurd h9 (by decide)) (fun _ => ?_)
  refine v_aload_n C 0 dX4_count_15 rfl ?_
  refine v_iload_n C 1 dX4_count_16 rfl ?_
  refine go_I (run_V C (c_X4_counted_0 (K := (upd K 0 0)) hc h12) k_607 k_5 k_604 k_606 ks_31 dd_X4_counted ⟨Nat.le_of_ble_eq_true rfl, Nat.le_of_ble_eq_true rfl⟩ rcM rfl (Nat.le_of_ble_eq_true rfl) dX4_count_17 ⟨Nat.le_of_ble_eq_true rfl, Nat.le_of_ble_eq_true rfl⟩) ?_
  refine v_goto (tgt := 28) C dX4_count_20 (by decide) ?_
  exact v_iret C dX4_count_28 rfl rfl
set_option maxHeartbeats 4000000 in
set_option maxRecDepth 100000 in
theorem c_X4_count_1 {l : Launch} {P : L5} {D : va_G} {N F T : Nat → Nat → Int32} {K : Nat → Int32} {A : Nat → Nat → Int32} {w : Int64} {c : Nat} (hc : K 2 = nI c) (h12 : c ≤ 12) : CtI l yX4_count cX4_count 2 .int 6 0 0 P D 97 97 False (cw P N F T K A w) (cw P N F T (upd K 0 0) A w) [.ref (rM P), .int 1] (cdM K A c 1) := by
  refine mk_Met pl_X4 [(0, .ref (rM P)), (1, .int 1)] rfl (Nat.le_of_ble_eq_true rfl) ?_
  intro pg en sg mg ag bg mt cd C
  refine v_aload_n C 0 dX4_count_0 rfl ?_
  refine v_iconst (v := 0) C dX4_count_1 rfl ?_
  refine v_pM C 0 (by decide) k_513 dX4_count_2 ?_
  refine v_iload_n C 1 dX4_count_5 rfl ?_
  refine v_iconst (v := 0) C dX4_count_6 rfl ?_
  refine v_bipush (v := 10) C dX4_count_7 rfl ?_
  refine go_I (run_S C (c_X4_isIn_1 (by decide) (by decide)) k_547 k_5 k_545 k_546 dd_X4_isIn ⟨Nat.le_of_ble_eq_true rfl, Nat.le_of_ble_eq_true rfl⟩ rfl (Nat.le_of_ble_eq_true rfl) dX4_count_9 ⟨Nat.le_of_ble_eq_true rfl, Nat.le_of_ble_eq_true rfl⟩) ?_
  refine v_if_eq (tgt := 23) C dX4_count_12 (by decide) (fun h9 => absurd h9 (by decide)) (fun _ => ?_)
  refine v_aload_n C 0 dX4_count_15 rfl ?_
  refine v_iload_n C 1 dX4_count_16 rfl ?_
  refine go_I (run_V C (c_X4_counted_1 (K := (upd K 0 0)) hc h12) k_607 k_5 k_604 k_606 ks_31 dd_X4_counted ⟨Nat.le_of_ble_eq_true rfl, Nat.le_of_ble_eq_true rfl⟩ rcM rfl (Nat.le_of_ble_eq_true rfl) dX4_count_17 ⟨Nat.le_of_ble_eq_true rfl, Nat.le_of_ble_eq_true rfl⟩) ?_
  refine v_goto (tgt := 28) C dX4_count_20 (by decide) ?_
  exact v_iret C dX4_count_28 rfl rfl
set_option maxHeartbeats 4000000 in
set_option maxRecDepth 100000 in
theorem c_X4_count_2 {l : Launch} {P : L5} {D : va_G} {N F T : Nat → Nat → Int32} {K : Nat → Int32} {A : Nat → Nat → Int32} {w : Int64} {c : Nat} (hc : K 2 = nI c) (h12 : c ≤ 12) : CtI l yX4_count cX4_count 2 .int 6 0 0 P D 97 97 False (cw P N F T K A w) (cw P N F T (upd K 0 0) A w) [.ref (rM P), .int 2] (cdM K A c 2) := by
  refine mk_Met pl_X4 [(0, .ref (rM P)), (1, .int 2)] rfl (Nat.le_of_ble_eq_true rfl) ?_
  intro pg en sg mg ag bg mt cd C
  refine v_aload_n C 0 dX4_count_0 rfl ?_
  refine v_iconst (v := 0) C dX4_count_1 rfl ?_
  refine v_pM C 0 (by decide) k_513 dX4_count_2 ?_
  refine v_iload_n C 1 dX4_count_5 rfl ?_
  refine v_iconst (v := 0) C dX4_count_6 rfl ?_
  refine v_bipush (v := 10) C dX4_count_7 rfl ?_
  refine go_I (run_S C (c_X4_isIn_1 (by decide) (by decide)) k_547 k_5 k_545 k_546 dd_X4_isIn ⟨Nat.le_of_ble_eq_true rfl, Nat.le_of_ble_eq_true rfl⟩ rfl (Nat.le_of_ble_eq_true rfl) dX4_count_9 ⟨Nat.le_of_ble_eq_true rfl, Nat.le_of_ble_eq_true rfl⟩) ?_
  refine v_if_eq (tgt := 23) C dX4_count_12 (by decide) (fun h9 => absurd h9 (by decide)) (fun _ => ?_)
  refine v_aload_n C 0 dX4_count_15 rfl ?_
  refine v_iload_n C 1 dX4_count_16 rfl ?_
  refine go_I (run_V C (c_X4_counted_2 (K := (upd K 0 0)) hc h12) k_607 k_5 k_604 k_606 ks_31 dd_X4_counted ⟨Nat.le_of_ble_eq_true rfl, Nat.le_of_ble_eq_true rfl⟩ rcM rfl (Nat.le_of_ble_eq_true rfl) dX4_count_17 ⟨Nat.le_of_ble_eq_true rfl, Nat.le_of_ble_eq_true rfl⟩) ?_
  refine v_goto (tgt := 28) C dX4_count_20 (by decide) ?_
  exact v_iret C dX4_count_28 rfl rfl
set_option maxHeartbeats 4000000 in
set_option maxRecDepth 100000 in
theorem c_X4_count_3 {l : Launch} {P : L5} {D : va_G} {N F T : Nat → Nat → Int32} {K : Nat → Int32} {A : Nat → Nat → Int32} {w : Int64} {c : Nat} (hc : K 2 = nI c) (h12 : c ≤ 12) : CtI l yX4_count cX4_count 2 .int 6 0 0 P D 97 97 False (cw P N F T K A w) (cw P N F T (upd K 0 0) A w) [.ref (rM P), .int 3] (cdM K A c 3) := by
  refine mk_Met pl_X4 [(0, .ref (rM P)), (1, .int 3)] rfl (Nat.le_of_ble_eq_true rfl) ?_
  intro pg en sg mg ag bg mt cd C
  refine v_aload_n C 0 dX4_count_0 rfl ?_
  refine v_iconst (v := 0) C dX4_count_1 rfl ?_
  refine v_pM C 0 (by decide) k_513 dX4_count_2 ?_
  refine v_iload_n C 1 dX4_count_5 rfl ?_
  refine v_iconst (v := 0) C dX4_count_6 rfl ?_
  refine v_bipush (v := 10) C dX4_count_7 rfl ?_
  refine go_I (run_S C (c_X4_isIn_1 (by decide) (by decide)) k_547 k_5 k_545 k_546 dd_X4_isIn ⟨Nat.le_of_ble_eq_true rfl, Nat.le_of_ble_eq_true rfl⟩ rfl (Nat.le_of_ble_eq_true rfl) dX4_count_9 ⟨Nat.le_of_ble_eq_true rfl, Nat.le_of_ble_eq_true rfl⟩) ?_
  refine v_if_eq (tgt := 23) C dX4_count_12 (by decide) (fun h9 => absurd h9 (by decide)) (fun _ => ?_)
  refine v_aload_n C 0 dX4_count_15 rfl ?_
  refine v_iload_n C 1 dX4_count_16 rfl ?_
  refine go_I (run_V C (c_X4_counted_3 (K := (upd K 0 0)) hc h12) k_607 k_5 k_604 k_606 ks_31 dd_X4_counted ⟨Nat.le_of_ble_eq_true rfl, Nat.le_of_ble_eq_true rfl⟩ rcM rfl (Nat.le_of_ble_eq_true rfl) dX4_count_17 ⟨Nat.le_of_ble_eq_true rfl, Nat.le_of_ble_eq_true rfl⟩) ?_
  refine v_goto (tgt := 28) C dX4_count_20 (by decide) ?_
  exact v_iret C dX4_count_28 rfl rfl
set_option maxHeartbeats 4000000 in
set_option maxRecDepth 100000 in
theorem c_X4_count_4 {l : Launch} {P : L5} {D : va_G} {N F T : Nat → Nat → Int32} {K : Nat → Int32} {A : Nat → Nat → Int32} {w : Int64} {c : Nat} (hc : K 2 = nI c) (h12 : c ≤ 12) : CtI l yX4_count cX4_count 2 .int 6 0 0 P D 97 97 False (cw P N F T K A w) (cw P N F T (upd K 0 0) A w) [.ref (rM P), .int 4] (cdM K A c 4) := by
  refine mk_Met pl_X4 [(0, .ref (rM P)), (1, .int 4)] rfl (Nat.le_of_ble_eq_true rfl) ?_
  intro pg en sg mg ag bg mt cd C
  refine v_aload_n C 0 dX4_count_0 rfl ?_
  refine v_iconst (v := 0) C dX4_count_1 rfl ?_
  refine v_pM C 0 (by decide) k_513 dX4_count_2 ?_
  refine v_iload_n C 1 dX4_count_5 rfl ?_
  refine v_iconst (v := 0) C dX4_count_6 rfl ?_
  refine v_bipush (v := 10) C dX4_count_7 rfl ?_
  refine go_I (run_S C (c_X4_isIn_1 (by decide) (by decide)) k_547 k_5 k_545 k_546 dd_X4_isIn ⟨Nat.le_of_ble_eq_true rfl, Nat.le_of_ble_eq_true rfl⟩ rfl (Nat.le_of_ble_eq_true rfl) dX4_count_9 ⟨Nat.le_of_ble_eq_true rfl, Nat.le_of_ble_eq_true rfl⟩) ?_
  refine v_if_eq (tgt := 23) C dX4_count_12 (by decide) (fun h9 => absurd h9 (by decide)) (fun _ => ?_)
  refine v_aload_n C 0 dX4_count_15 rfl ?_
  refine v_iload_n C 1 dX4_count_16 rfl ?_
  refine go_I (run_V C (c_X4_counted_4 (K := (upd K 0 0)) hc h12) k_607 k_5 k_604 k_606 ks_31 dd_X4_counted ⟨Nat.le_of_ble_eq_true rfl, Nat.le_of_ble_eq_true rfl⟩ rcM rfl (Nat.le_of_ble_eq_true rfl) dX4_count_17 ⟨Nat.le_of_ble_eq_true rfl, Nat.le_of_ble_eq_true rfl⟩) ?_
  refine v_goto (tgt := 28) C dX4_count_20 (by decide) ?_
  exact v_iret C dX4_count_28 rfl rfl
set_option maxHeartbeats 4000000 in
set_option maxRecDepth 100000 in
theorem c_X4_count_5 {l : Launch} {P : L5} {D : va_G} {N F T : Nat → Nat → Int32} {K : Nat → Int32} {A : Nat → Nat → Int32} {w : Int64} {c : Nat} (hc : K 2 = nI c) (h12 : c ≤ 12) : CtI l yX4_count cX4_count 2 .int 6 0 0 P D 97 97 False (cw P N F T K A w) (cw P N F T (upd K 0 0) A w) [.ref (rM P), .int 5] (cdM K A c 5) := by
  refine mk_Met pl_X4 [(0, .ref (rM P)), (1, .int 5)] rfl (Nat.le_of_ble_eq_true rfl) ?_
  intro pg en sg mg ag bg mt cd C
  refine v_aload_n C 0 dX4_count_0 rfl ?_
  refine v_iconst (v := 0) C dX4_count_1 rfl ?_
  refine v_pM C 0 (by decide) k_513 dX4_count_2 ?_
  refine v_iload_n C 1 dX4_count_5 rfl ?_
  refine v_iconst (v := 0) C dX4_count_6 rfl ?_
  refine v_bipush (v := 10) C dX4_count_7 rfl ?_
  refine go_I (run_S C (c_X4_isIn_1 (by decide) (by decide)) k_547 k_5 k_545 k_546 dd_X4_isIn ⟨Nat.le_of_ble_eq_true rfl, Nat.le_of_ble_eq_true rfl⟩ rfl (Nat.le_of_ble_eq_true rfl) dX4_count_9 ⟨Nat.le_of_ble_eq_true rfl, Nat.le_of_ble_eq_true rfl⟩) ?_
  refine v_if_eq (tgt := 23) C dX4_count_12 (by decide) (fun h9 => absurd h9 (by decide)) (fun _ => ?_)
  refine v_aload_n C 0 dX4_count_15 rfl ?_
  refine v_iload_n C 1 dX4_count_16 rfl ?_
  refine go_I (run_V C (c_X4_counted_5 (K := (upd K 0 0)) hc h12) k_607 k_5 k_604 k_606 ks_31 dd_X4_counted ⟨Nat.le_of_ble_eq_true rfl, Nat.le_of_ble_eq_true rfl⟩ rcM rfl (Nat.le_of_ble_eq_true rfl) dX4_count_17 ⟨Nat.le_of_ble_eq_true rfl, Nat.le_of_ble_eq_true rfl⟩) ?_
  refine v_goto (tgt := 28) C dX4_count_20 (by decide) ?_
  exact v_iret C dX4_count_28 rfl rfl
set_option maxHeartbeats 4000000 in
set_option maxRecDepth 100000 in
theorem c_X4_count_6 {l : Launch} {P : L5} {D : va_G} {N F T : Nat → Nat → Int32} {K : Nat → Int32} {A : Nat → Nat → Int32} {w : Int64} {c : Nat} (hc : K 2 = nI c) (h12 : c ≤ 12) : CtI l yX4_count cX4_count 2 .int 6 0 0 P D 97 97 False (cw P N F T K A w) (cw P N F T (upd K 0 0) A w) [.ref (rM P), .int 6] (cdM K A c 6) := by
  refine mk_Met pl_X4 [(0, .ref (rM P)), (1, .int 6)] rfl (Nat.le_of_ble_eq_true rfl) ?_
  intro pg en sg mg ag bg mt cd C
  refine v_aload_n C 0 dX4_count_0 rfl ?_
  refine v_iconst (v := 0) C dX4_count_1 rfl ?_
  refine v_pM C 0 (by decide) k_513 dX4_count_2 ?_
  refine v_iload_n C 1 dX4_count_5 rfl ?_
  refine v_iconst (v := 0) C dX4_count_6 rfl ?_
  refine v_bipush (v := 10) C dX4_count_7 rfl ?_
  refine go_I (run_S C (c_X4_isIn_1 (by decide) (by decide)) k_547 k_5 k_545 k_546 dd_X4_isIn ⟨Nat.le_of_ble_eq_true rfl, Nat.le_of_ble_eq_true rfl⟩ rfl (Nat.le_of_ble_eq_true rfl) dX4_count_9 ⟨Nat.le_of_ble_eq_true rfl, Nat.le_of_ble_eq_true rfl⟩) ?_
  refine v_if_eq (tgt := 23) C dX4_count_12 (by decide) (fun h9 => absurd h9 (by decide)) (fun _ => ?_)
  refine v_aload_n C 0 dX4_count_15 rfl ?_
  refine v_iload_n C 1 dX4_count_16 rfl ?_
  refine go_I (run_V C (c_X4_counted_6 (K := (upd K 0 0)) hc h12) k_607 k_5 k_604 k_606 ks_31 dd_X4_counted ⟨Nat.le_of_ble_eq_true rfl, Nat.le_of_ble_eq_true rfl⟩ rcM rfl (Nat.le_of_ble_eq_true rfl) dX4_count_17 ⟨Nat.le_of_ble_eq_true rfl, Nat.le_of_ble_eq_true rfl⟩) ?_
  refine v_goto (tgt := 28) C dX4_count_20 (by decide) ?_
  exact v_iret C dX4_count_28 rfl rfl
set_option maxHeartbeats 4000000 in
set_option maxRecDepth 100000 in
theorem c_X4_count_7 {l : Launch} {P : L5} {D : va_G} {N F T : Nat → Nat → Int32} {K : Nat → Int32} {A : Nat → Nat → Int32} {w : Int64} {c : Nat} (hc : K 2 = nI c) (h12 : c ≤ 12) : CtI l yX4_count cX4_count 2 .int 6 0 0 P D 97 97 False (cw P N F T K A w) (cw P N F T (upd K 0 0) A w) [.ref (rM P), .int 7] (cdM K A c 7) := by
  refine mk_Met pl_X4 [(0, .ref (rM P)), (1, .int 7)] rfl (Nat.le_of_ble_eq_true rfl) ?_
  intro pg en sg mg ag bg mt cd C
  refine v_aload_n C 0 dX4_count_0 rfl ?_
  refine v_iconst (v := 0) C dX4_count_1 rfl ?_
  refine v_pM C 0 (by decide) k_513 dX4_count_2 ?_
  refine v_iload_n C 1 dX4_count_5 rfl ?_
  refine v_iconst (v := 0) C dX4_count_6 rfl ?_
  refine v_bipush (v := 10) C dX4_count_7 rfl ?_
  refine go_I (run_S C (c_X4_isIn_1 (by decide) (by decide)) k_547 k_5 k_545 k_546 dd_X4_isIn ⟨Nat.le_of_ble_eq_true rfl, Nat.le_of_ble_eq_true rfl⟩ rfl (Nat.le_of_ble_eq_true rfl) dX4_count_9 ⟨Nat.le_of_ble_eq_true rfl, Nat.le_of_ble_eq_true rfl⟩) ?_
  refine v_if_eq (tgt := 23) C dX4_count_12 (by decide) (fun h9 => absurd h9 (by decide)) (fun _ => ?_)
  refine v_aload_n C 0 dX4_count_15 rfl ?_
  refine v_iload_n C 1 dX4_count_16 rfl ?_
  refine go_I (run_V C (c_X4_counted_7 (K := (upd K 0 0)) hc h12) k_607 k_5 k_604 k_606 ks_31 dd_X4_counted ⟨Nat.le_of_ble_eq_true rfl, Nat.le_of_ble_eq_true rfl⟩ rcM rfl (Nat.le_of_ble_eq_true rfl) dX4_count_17 ⟨Nat.le_of_ble_eq_true rfl, Nat.le_of_ble_eq_true rfl⟩) ?_
  refine v_goto (tgt := 28) C dX4_count_20 (by decide) ?_
  exact v_iret C dX4_count_28 rfl rfl
set_option maxHeartbeats 4000000 in
set_option maxRecDepth 100000 in
theorem c_X4_count_8 {l : Launch} {P : L5} {D : va_G} {N F T : Nat → Nat → Int32} {K : Nat → Int32} {A : Nat → Nat → Int32} {w : Int64} {c : Nat} (hc : K 2 = nI c) (h12 : c ≤ 12) : CtI l yX4_count cX4_count 2 .int 6 0 0 P D 97 97 False (cw P N F T K A w) (cw P N F T (upd K 0 0) A w) [.ref (rM P), .int 8] (cdM K A c 8) := by
  refine mk_Met pl_X4 [(0, .ref (rM P)), (1, .int 8)] rfl (Nat.le_of_ble_eq_true rfl) ?_
  intro pg en sg mg ag bg mt cd C
  refine v_aload_n C 0 dX4_count_0 rfl ?_
  refine v_iconst (v := 0) C dX4_count_1 rfl ?_
  refine v_pM C 0 (by decide) k_513 dX4_count_2 ?_
  refine v_iload_n C 1 dX4_count_5 rfl ?_
  refine v_iconst (v := 0) C dX4_count_6 rfl ?_
  refine v_bipush (v := 10) C dX4_count_7 rfl ?_
  refine go_I (run_S C (c_X4_isIn_1 (by decide) (by decide)) k_547 k_5 k_545 k_546 dd_X4_isIn ⟨Nat.le_of_ble_eq_true rfl, Nat.le_of_ble_eq_true rfl⟩ rfl (Nat.le_of_ble_eq_true rfl) dX4_count_9 ⟨Nat.le_of_ble_eq_true rfl, Nat.le_of_ble_eq_true rfl⟩) ?_
  refine v_if_eq (tgt := 23) C dX4_count_12 (by decide) (fun h9 => absurd h9 (by decide)) (fun _ => ?_)
  refine v_aload_n C 0 dX4_count_15 rfl ?_
  refine v_iload_n C 1 dX4_count_16 rfl ?_
  refine go_I (run_V C (c_X4_counted_8 (K := (upd K 0 0)) hc h12) k_607 k_5 k_604 k_606 ks_31 dd_X4_counted ⟨Nat.le_of_ble_eq_true rfl, Nat.le_of_ble_eq_true rfl⟩ rcM rfl (Nat.le_of_ble_eq_true rfl) dX4_count_17 ⟨Nat.le_of_ble_eq_true rfl, Nat.le_of_ble_eq_true rfl⟩) ?_
  refine v_goto (tgt := 28) C dX4_count_20 (by decide) ?_
  exact v_iret C dX4_count_28 rfl rfl
set_option maxHeartbeats 4000000 in
set_option maxRecDepth 100000 in
theorem c_X4_count_9 {l : Launch} {P : L5} {D : va_G} {N F T : Nat → Nat → Int32} {K : Nat → Int32} {A : Nat → Nat → Int32} {w : Int64} {c : Nat} (hc : K 2 = nI c) (h12 : c ≤ 12) : CtI l yX4_count cX4_count 2 .int 6 0 0 P D 97 97 False (cw P N F T K A w) (cw P N F T (upd K 0 0) A w) [.ref (rM P), .int 9] (cdM K A c 9) := by
  refine mk_Met pl_X4 [(0, .ref (rM P)), (1, .int 9)] rfl (Nat.le_of_ble_eq_true rfl) ?_
  intro pg en sg mg ag bg mt cd C
  refine v_aload_n C 0 dX4_count_0 rfl ?_
  refine v_iconst (v := 0) C dX4_count_1 rfl ?_
  refine v_pM C 0 (by decide) k_513 dX4_count_2 ?_
  refine v_iload_n C 1 dX4_count_5 rfl ?_
  refine v_iconst (v := 0) C dX4_count_6 rfl ?_
  refine v_bipush (v := 10) C dX4_count_7 rfl ?_
  refine go_I (run_S C (c_X4_isIn_1 (by decide) (by decide)) k_547 k_5 k_545 k_546 dd_X4_isIn ⟨Nat.le_of_ble_eq_true rfl, Nat.le_of_ble_eq_true rfl⟩ rfl (Nat.le_of_ble_eq_true rfl) dX4_count_9 ⟨Nat.le_of_ble_eq_true rfl, Nat.le_of_ble_eq_true rfl⟩) ?_
  refine v_if_eq (tgt := 23) C dX4_count_12 (by decide) (fun h9 => absurd h9 (by decide)) (fun _ => ?_)
  refine v_aload_n C 0 dX4_count_15 rfl ?_
  refine v_iload_n C 1 dX4_count_16 rfl ?_
  refine go_I (run_V C (c_X4_counted_9 (K := (upd K 0 0)) hc h12) k_607 k_5 k_604 k_606 ks_31 dd_X4_counted ⟨Nat.le_of_ble_eq_true rfl, Nat.le_of_ble_eq_true rfl⟩ rcM rfl (Nat.le_of_ble_eq_true rfl) dX4_count_17 ⟨Nat.le_of_ble_eq_true rfl, Nat.le_of_ble_eq_true rfl⟩) ?_
  refine v_goto (tgt := 28) C dX4_count_20 (by decide) ?_
  exact v_iret C dX4_count_28 rfl rfl
set_option maxHeartbeats 4000000 in
set_option maxRecDepth 100000 in
theorem c_X4_count_10 {l : Launch} {P : L5} {D : va_G} {N F T : Nat → Nat → Int32} {K : Nat → Int32} {A : Nat → Nat → Int32} {w : Int64} {c : Nat} (hc : K 2 = nI c) (h12 : c ≤ 12) : CtI l yX4_count cX4_count 2 .int 6 0 0 P D 97 97 False (cw P N F T K A w) (cw P N F T (upd K 0 0) A w) [.ref (rM P), .int 10] (cdM K A c 10) := by
  refine mk_Met pl_X4 [(0, .ref (rM P)), (1, .int 10)] rfl (Nat.le_of_ble_eq_true rfl) ?_
  intro pg en sg mg ag bg mt cd C
  refine v_aload_n C 0 dX4_count_0 rfl ?_
  refine v_iconst (v := 0) C dX4_count_1 rfl ?_
  refine v_pM C 0 (by decide) k_513 dX4_count_2 ?_
  refine v_iload_n C 1 dX4_count_5 rfl ?_
  refine v_iconst (v := 0) C dX4_count_6 rfl ?_
  refine v_bipush (v := 10) C dX4_count_7 rfl ?_
  refine go_I (run_S C (c_X4_isIn_1 (by decide) (by decide)) k_547 k_5 k_545 k_546 dd_X4_isIn ⟨Nat.le_of_ble_eq_true rfl, Nat.le_of_ble_eq_true rfl⟩ rfl (Nat.le_of_ble_eq_true rfl) dX4_count_9 ⟨Nat.le_of_ble_eq_true rfl, Nat.le_of_ble_eq_true rfl⟩) ?_
  refine v_if_eq (tgt := 23) C dX4_count_12 (by decide) (fun h9 => absurd h9 (by decide)) (fun _ => ?_)
  refine v_aload_n C 0 dX4_count_15 rfl ?_
  refine v_iload_n C 1 dX4_count_16 rfl ?_
  refine go_I (run_V C (c_X4_counted_10 (K := (upd K 0 0)) hc h12) k_607 k_5 k_604 k_606 ks_31 dd_X4_counted ⟨Nat.le_of_ble_eq_true rfl, Nat.le_of_ble_eq_true rfl⟩ rcM rfl (Nat.le_of_ble_eq_true rfl) dX4_count_17 ⟨Nat.le_of_ble_eq_true rfl, Nat.le_of_ble_eq_true rfl⟩) ?_
  refine v_goto (tgt := 28) C dX4_count_20 (by decide) ?_
  exact v_iret C dX4_count_28 rfl rfl
set_option maxHeartbeats 4000000 in
set_option maxRecDepth 100000 in
theorem c_X4_count_e {l : Launch} {P : L5} {D : va_G} {N F T : Nat → Nat → Int32} {K : Nat → Int32} {A : Nat → Nat → Int32} {w : Int64} {c : Nat} (hc : K 2 = nI c) (h12 : c ≤ 12) {q : Int32} (h : q < 0 ∨ 10 < q) : CtI l yX4_count cX4_count 2 .int 5 0 0 P D 97 97 False (cw P N F T K A w) (cw P N F T (upd K 0 1) A w) [.ref (rM P), .int q] 0 := by
  refine mk_Met pl_X4 [(0, .ref (rM P)), (1, .int q)] rfl (Nat.le_of_ble_eq_true rfl) ?_
  intro pg en sg mg ag bg mt cd C
  refine v_aload_n C 0 dX4_count_0 rfl ?_
  refine v_iconst (v := 0) C dX4_count_1 rfl ?_
  refine v_pM C 0 (by decide) k_513 dX4_count_2 ?_
  refine v_iload_n C 1 dX4_count_5 rfl ?_
  refine v_iconst (v := 0) C dX4_count_6 rfl ?_
  refine v_bipush (v := 10) C dX4_count_7 rfl ?_
  refine go_I (run_S C (c_X4_isIn_0 h) k_547 k_5 k_545 k_546 dd_X4_isIn ⟨Nat.le_of_ble_eq_true rfl, Nat.le_of_ble_eq_true rfl⟩ rfl (Nat.le_of_ble_eq_true rfl) dX4_count_9 ⟨Nat.le_of_ble_eq_true rfl, Nat.le_of_ble_eq_true rfl⟩) ?_
  refine v_if_eq (tgt := 23) C dX4_count_12 (by decide) (fun _ => ?_) (fun h9 => absurd (by decide) h9)
  refine v_aload_n C 0 dX4_count_23 rfl ?_
  refine v_iconst (v := 1) C dX4_count_24 rfl ?_
  refine go_I (run_V C (c_X4_no) k_551 k_5 k_548 k_550 ks_26 dd_X4_no ⟨Nat.le_of_ble_eq_true rfl, Nat.le_of_ble_eq_true rfl⟩ rcM rfl (Nat.le_of_ble_eq_true rfl) dX4_count_25 ⟨Nat.le_of_ble_eq_true rfl, Nat.le_of_ble_eq_true rfl⟩) ?_
  exact v_iret C dX4_count_28 (by rw [updd]) rfl
set_option maxHeartbeats 4000000 in
set_option maxRecDepth 100000 in
theorem c_X4_lookAhead {l : Launch} {P : L5} {D : va_G} {N F T : Nat → Nat → Int32} {K : Nat → Int32} {A : Nat → Nat → Int32} {w : Int64} : CtV l yX4_lookAhead cX4_lookAhead 1 2 0 0 P D 97 97 False (cw P N F T K A w) (cw P N F T K (lookM A) w) [.ref (rM P)] := by
  refine mk_Met pl_X4 [(0, .ref (rM P))] rfl (Nat.le_of_ble_eq_true rfl) ?_
  intro pg en sg mg ag bg mt cd C
  refine v_aload_n C 0 dX4_lookAhead_0 rfl ?_
  refine v_gM C 3 (by decide) k_516 rfl dX4_lookAhead_1 ?_
  refine v_iconst (v := 0) C dX4_lookAhead_4 rfl ?_
  refine v_aload_n C 0 dX4_lookAhead_5 rfl ?_
  refine v_gM C 5 (by decide) k_518 rfl dX4_lookAhead_6 ?_
  refine v_iconst (v := 0) C dX4_lookAhead_9 rfl ?_
  refine v_aload_n C 0 dX4_lookAhead_10 rfl ?_
  refine v_gM C 3 (by decide) k_516 rfl dX4_lookAhead_11 ?_
  refine v_lenA (a := 240) C (by decide) rfl dX4_lookAhead_14 ?_
  refine v_copy (n9 := 240) C (by decide) (by decide) rfl rfl (Nat.le_of_ble_eq_true rfl) rfl k_664 k_666 k_665 k_13 (Nat.le_of_ble_eq_true rfl) (Nat.le_of_ble_eq_true rfl) dX4_lookAhead_15 ?_
  refine v_aload_n C 0 dX4_lookAhead_18 rfl ?_
  refine v_gM C 4 (by decide) k_517 rfl dX4_lookAhead_19 ?_
  refine v_iconst (v := 0) C dX4_lookAhead_22 rfl ?_
  refine v_aload_n C 0 dX4_lookAhead_23 rfl ?_
  refine v_gM C 6 (by decide) k_519 rfl dX4_lookAhead_24 ?_
  refine v_iconst (v := 0) C dX4_lookAhead_27 rfl ?_
  refine v_aload_n C 0 dX4_lookAhead_28 rfl ?_
  refine v_gM C 4 (by decide) k_517 rfl dX4_lookAhead_29 ?_
  refine v_lenA (a := 20) C (by decide) rfl dX4_lookAhead_32 ?_
  refine v_copy (n9 := 20) C (by decide) (by decide) rfl rfl (Nat.le_of_ble_eq_true rfl) rfl k_664 k_666 k_665 k_13 (Nat.le_of_ble_eq_true rfl) (Nat.le_of_ble_eq_true rfl) dX4_lookAhead_33 ?_
  exact v_vret C dX4_lookAhead_36 rfl
set_option maxHeartbeats 4000000 in
set_option maxRecDepth 100000 in
theorem c_X4_passAhead {l : Launch} {P : L5} {D : va_G} {N F T : Nat → Nat → Int32} {K : Nat → Int32} {A : Nat → Nat → Int32} {w : Int64} {c : Nat} (hc : K 2 = nI c) (h12 : c ≤ 12) {h : Int32} (hKM : KM A 2 c) : CtV l yX4_passAhead cX4_passAhead 3 5 0 0 P D 97 97 False (cw P N F T K A w) (cw P N F T K (aheadM (fuel h 0) h 0 c (K 1) A) w) [.ref (rM P), .int h] := by
  refine mk_Met pl_X4 [(0, .ref (rM P)), (1, .int h)] rfl (Nat.le_of_ble_eq_true rfl) ?_
  intro pg en sg mg ag bg mt cd C
  refine v_iconst (v := 0) C dX4_passAhead_0 rfl ?_
  refine v_istore_n (lv' := [(2, .int 0), (0, .ref (rM P)), (1, .int h)]) C dX4_passAhead_1 rfl (by decide) rfl ?_
  have L_1 : ∀ (n : Nat) (i : Int32) (A9 : Nat → Nat → Int32), fuel h i ≤ n → KM A9 2 c → V pg l en (rmO 5 0 0) sg mg ag bg mt cd P D (MQ bg (QcV P D 97 False (cw P N F T K (aheadM (fuel h 0) h 0 c (K 1) A) w)) ag sg 0 0 (aO P)) 3 97 False (cw P N F T K (aheadM n h i c (K 1) A9) w) 0 0 32 [] [] → V pg l en (rmO 5 0 0) sg mg ag bg mt cd P D (MQ bg (QcV P D 97 False (cw P N F T K (aheadM (fuel h 0) h 0 c (K 1) A) w)) ag sg 0 0 (aO P)) 3 97 False (cw P N F T K A9 w) 0 0 2 [(2, .int i), (0, .ref (rM P)), (1, .int h)] [] := by
    intro n
    induction n with
    | zero => intro i A9 z1; exact absurd z1 (by unfold fuel; omega)
    | succ n ih =>
      intro i A9 z1 hK9 hk9
      refine v_iload_n C 0 dX4_passAhead_2 rfl ?_
      refine v_iload_n C 2 dX4_passAhead_3 rfl ?_
      refine v_icmp_ge (tgt := 32) C dX4_passAhead_4 (by decide) (fun h4_1 => ?_) (fun h4_1 => ?_)
      · refine v_lv [] rfl ?_
        have e9 : aheadM (n + 1) h i c (K 1) A9 = A9 := by rw [aheadM, if_pos h4_1]
        rw [e9] at hk9
        exact hk9
      · refine v_aload_n C 1 dX4_passAhead_7 rfl ?_
        refine v_aload_n C 1 dX4_passAhead_8 rfl ?_
        refine v_gM C 5 (by decide) k_518 rfl dX4_passAhead_9 ?_
        refine v_aload_n C 1 dX4_passAhead_12 rfl ?_
        refine v_gM C 6 (by decide) k_519 rfl dX4_passAhead_13 ?_
        refine v_aload_n C 1 dX4_passAhead_16 rfl ?_
        refine v_gM C 1 (by decide) k_514 rfl dX4_passAhead_17 ?_
        refine v_iload_n C 0 dX4_passAhead_20 rfl ?_
        refine v_iadd C dX4_passAhead_21 ?_
        refine go_I (run_V C (c_X4_pass hc h12 (now := K 1 + i) (b := 2) (b2 := 3) (by decide) (by decide) rfl rfl (by decide) (by decide) (by decide) hK9) k_634 k_5 k_631 k_633 ks_36 dd_X4_pass ⟨Nat.le_of_ble_eq_true rfl, Nat.le_of_ble_eq_true rfl⟩ rcM rfl (Nat.le_of_ble_eq_true rfl) dX4_passAhead_22 ⟨Nat.le_of_ble_eq_true rfl, Nat.le_of_ble_eq_true rfl⟩) ?_
        refine v_pop C dX4_passAhead_25 rfl ?_
        obtain ⟨x_1, ex_1⟩ : ∃ y : Int32, y = i + 1 := ⟨_, rfl⟩
        refine v_iinc (b := x_1) (lv' := [(2, .int x_1), (0, .ref (rM P)), (1, .int h)]) C 0 dX4_passAhead_26 rfl (by rw [ex_1]; rfl) (by decide) rfl ?_
        refine v_goto (tgt := 2) C dX4_passAhead_29 (by decide) ?_
        have e9 : aheadM (n + 1) h i c (K 1) A9 = aheadM n h (i + 1) c (K 1) (hourM c 2 3 (K 1 + i) A9) := by rw [aheadM, if_neg h4_1]
        rw [e9] at hk9
        subst ex_1
        exact ih _ _ (fuel_step z1 h4_1) (KM_hour (by decide) (by decide) hK9) hk9
  refine L_1 (fuel h 0) 0 A (Nat.le_refl _) hKM ?_
  exact v_vret C dX4_passAhead_32 rfl
set_option maxHeartbeats 4000000 in
set_option maxRecDepth 100000 in
theorem c_X4_foresee_3 {l : Launch} {P : L5} {D : va_G} {N F T : Nat → Nat → Int32} {K : Nat → Int32} {A : Nat → Nat → Int32} {w : Int64} {c : Nat} (hc : K 2 = nI c) (h12 : c ≤ 12) {h : Int32} (h3 : ¬ h < 1) (h4 : ¬ 240 < h) (hKM : KM A 0 c) : CtI l yX4_foresee cX4_foresee 3 .int 7 0 0 P D 97 97 False (cw P N F T K A w) (cw P N F T (upd K 0 0) (aheadM (fuel h 0) h 0 c (K 1) (lookM A)) w) [.ref (rM P), .int h, .int 3] (sdM (aheadM (fuel h 0) h 0 c (K 1) (lookM A)) 2 3 c 3) := by
  refine mk_Met pl_X4 [(0, .ref (rM P)), (1, .int h), (2, .int 3)] rfl (Nat.le_of_ble_eq_true rfl) ?_
  intro pg en sg mg ag bg mt cd C
  refine v_aload_n C 0 dX4_foresee_0 rfl ?_
  refine v_iconst (v := 0) C dX4_foresee_1 rfl ?_
  refine v_pM C 0 (by decide) k_513 dX4_foresee_2 ?_
  refine v_iload_n C 1 dX4_foresee_5 rfl ?_
  refine v_iconst (v := 1) C dX4_foresee_6 rfl ?_
  refine v_sipush (v := 240) C dX4_foresee_7 rfl ?_
  refine go_I (run_S C (c_X4_isIn_1 h3 h4) k_547 k_5 k_545 k_546 dd_X4_isIn ⟨Nat.le_of_ble_eq_true rfl, Nat.le_of_ble_eq_true rfl⟩ rfl (Nat.le_of_ble_eq_true rfl) dX4_foresee_10 ⟨Nat.le_of_ble_eq_true rfl, Nat.le_of_ble_eq_true rfl⟩) ?_
  refine v_if_ne (tgt := 22) C dX4_foresee_13 (by decide) (fun _ => ?_) (fun h9 => absurd h9 (by decide))
  refine v_iload_n C 2 dX4_foresee_22 rfl ?_
  refine v_iconst (v := 3) C dX4_foresee_23 rfl ?_
  refine v_bipush (v := 8) C dX4_foresee_24 rfl ?_
  refine go_I (run_S C (c_X4_isIn_1 (by decide) (by decide)) k_547 k_5 k_545 k_546 dd_X4_isIn ⟨Nat.le_of_ble_eq_true rfl, Nat.le_of_ble_eq_true rfl⟩ rfl (Nat.le_of_ble_eq_true rfl) dX4_foresee_26 ⟨Nat.le_of_ble_eq_true rfl, Nat.le_of_ble_eq_true rfl⟩) ?_
  refine v_if_ne (tgt := 38) C dX4_foresee_29 (by decide) (fun _ => ?_) (fun h9 => absurd h9 (by decide))
  refine v_aload_n C 0 dX4_foresee_38 rfl ?_
  refine go_V (run_V C (c_X4_lookAhead) k_663 k_5 k_660 k_662 ks_40 dd_X4_lookAhead ⟨Nat.le_of_ble_eq_true rfl, Nat.le_of_ble_eq_true rfl⟩ rcM rfl (Nat.le_of_ble_eq_true rfl) dX4_foresee_39 ⟨Nat.le_of_ble_eq_true rfl, Nat.le_of_ble_eq_true rfl⟩) ?_
  refine v_aload_n C 0 dX4_foresee_42 rfl ?_
  refine v_iload_n C 1 dX4_foresee_43 rfl ?_
  refine go_V (run_V C (c_X4_passAhead (K := (upd K 0 0)) hc h12 (KM_look h12 hKM)) k_678 k_5 k_675 k_677 ks_41 dd_X4_passAhead ⟨Nat.le_of_ble_eq_true rfl, Nat.le_of_ble_eq_true rfl⟩ rcM rfl (Nat.le_of_ble_eq_true rfl) dX4_foresee_44 ⟨Nat.le_of_ble_eq_true rfl, Nat.le_of_ble_eq_true rfl⟩) ?_
  refine v_aload_n C 0 dX4_foresee_47 rfl ?_
  refine v_aload_n C 0 dX4_foresee_48 rfl ?_
  refine v_gM C 5 (by decide) k_518 rfl dX4_foresee_49 ?_
  refine v_aload_n C 0 dX4_foresee_52 rfl ?_
  refine v_gM C 6 (by decide) k_519 rfl dX4_foresee_53 ?_
  refine v_iload_n C 2 dX4_foresee_56 rfl ?_
  refine go_I (run_V C (c_X4_summed_3 (K := (upd K 0 0)) hc h12 (b := 2) (b2 := 3) (by decide) (by decide) rfl rfl) k_615 k_5 k_612 k_614 ks_33 dd_X4_summed ⟨Nat.le_of_ble_eq_true rfl, Nat.le_of_ble_eq_true rfl⟩ rcM rfl (Nat.le_of_ble_eq_true rfl) dX4_foresee_57 ⟨Nat.le_of_ble_eq_true rfl, Nat.le_of_ble_eq_true rfl⟩) ?_
  exact v_iret C dX4_foresee_60 rfl rfl
set_option maxHeartbeats 4000000 in
set_option maxRecDepth 100000 in
theorem c_X4_foresee_4 {l : Launch} {P : L5} {D : va_G} {N F T : Nat → Nat → Int32} {K : Nat → Int32} {A : Nat → Nat → Int32} {w : Int64} {c : Nat} (hc : K 2 = nI c) (h12 : c ≤ 12) {h : Int32} (h3 : ¬ h < 1) (h4 : ¬ 240 < h) (hKM : KM A 0 c) : CtI l yX4_foresee cX4_foresee 3 .int 7 0 0 P D 97 97 False (cw P N F T K A w) (cw P N F T (upd K 0 0) (aheadM (fuel h 0) h 0 c (K 1) (lookM A)) w) [.ref (rM P), .int h, .int 4] (sdM (aheadM (fuel h 0) h 0 c (K 1) (lookM A)) 2 3 c 4) := by
  refine mk_Met pl_X4 [(0, .ref (rM P)), (1, .int h), (2, .int 4)] rfl (Nat.le_of_ble_eq_true rfl) ?_
  intro pg en sg mg ag bg mt cd C
  refine v_aload_n C 0 dX4_foresee_0 rfl ?_
  refine v_iconst (v := 0) C dX4_foresee_1 rfl ?_
  refine v_pM C 0 (by decide) k_513 dX4_foresee_2 ?_
  refine v_iload_n C 1 dX4_foresee_5 rfl ?_
  refine v_iconst (v := 1) C dX4_foresee_6 rfl ?_
  refine v_sipush (v := 240) C dX4_foresee_7 rfl ?_
  refine go_I (run_S C (c_X4_isIn_1 h3 h4) k_547 k_5 k_545 k_546 dd_X4_isIn ⟨Nat.le_of_ble_eq_true rfl, Nat.le_of_ble_eq_true rfl⟩ rfl (Nat.le_of_ble_eq_true rfl) dX4_foresee_10 ⟨Nat.le_of_ble_eq_true rfl, Nat.le_of_ble_eq_true rfl⟩) ?_
  refine v_if_ne (tgt := 22) C dX4_foresee_13 (by decide) (fun _ => ?_) (fun h9 => absurd h9 (by decide))
  refine v_iload_n C 2 dX4_foresee_22 rfl ?_
  refine v_iconst (v := 3) C dX4_foresee_23 rfl ?_
  refine v_bipush (v := 8) C dX4_foresee_24 rfl ?_
  refine go_I (run_S C (c_X4_isIn_1 (by decide) (by decide)) k_547 k_5 k_545 k_546 dd_X4_isIn ⟨Nat.le_of_ble_eq_true rfl, Nat.le_of_ble_eq_true rfl⟩ rfl (Nat.le_of_ble_eq_true rfl) dX4_foresee_26 ⟨Nat.le_of_ble_eq_true rfl, Nat.le_of_ble_eq_true rfl⟩) ?_
  refine v_if_ne (tgt := 38) C dX4_foresee_29 (by decide) (fun _ => ?_) (fun h9 => absurd h9 (by decide))
  refine v_aload_n C 0 dX4_foresee_38 rfl ?_
  refine go_V (run_V C (c_X4_lookAhead) k_663 k_5 k_660 k_662 ks_40 dd_X4_lookAhead ⟨Nat.le_of_ble_eq_true rfl, Nat.le_of_ble_eq_true rfl⟩ rcM rfl (Nat.le_of_ble_eq_true rfl) dX4_foresee_39 ⟨Nat.le_of_ble_eq_true rfl, Nat.le_of_ble_eq_true rfl⟩) ?_
  refine v_aload_n C 0 dX4_foresee_42 rfl ?_
  refine v_iload_n C 1 dX4_foresee_43 rfl ?_
  refine go_V (run_V C (c_X4_passAhead (K := (upd K 0 0)) hc h12 (KM_look h12 hKM)) k_678 k_5 k_675 k_677 ks_41 dd_X4_passAhead ⟨Nat.le_of_ble_eq_true rfl, Nat.le_of_ble_eq_true rfl⟩ rcM rfl (Nat.le_of_ble_eq_true rfl) dX4_foresee_44 ⟨Nat.le_of_ble_eq_true rfl, Nat.le_of_ble_eq_true rfl⟩) ?_
  refine v_aload_n C 0 dX4_foresee_47 rfl ?_
  refine v_aload_n C 0 dX4_foresee_48 rfl ?_
  refine v_gM C 5 (by decide) k_518 rfl dX4_foresee_49 ?_
  refine v_aload_n C 0 dX4_foresee_52 rfl ?_
  refine v_gM C 6 (by decide) k_519 rfl dX4_foresee_53 ?_
  refine v_iload_n C 2 dX4_foresee_56 rfl ?_
  refine go_I (run_V C (c_X4_summed_4 (K := (upd K 0 0)) hc h12 (b := 2) (b2 := 3) (by decide) (by decide) rfl rfl) k_615 k_5 k_612 k_614 ks_33 dd_X4_summed ⟨Nat.le_of_ble_eq_true rfl, Nat.le_of_ble_eq_true rfl⟩ rcM rfl (Nat.le_of_ble_eq_true rfl) dX4_foresee_57 ⟨Nat.le_of_ble_eq_true rfl, Nat.le_of_ble_eq_true rfl⟩) ?_
  exact v_iret C dX4_foresee_60 rfl rfl
set_option maxHeartbeats 4000000 in
set_option maxRecDepth 100000 in
theorem c_X4_foresee_5 {l : Launch} {P : L5} {D : va_G} {N F T : Nat → Nat → Int32} {K : Nat → Int32} {A : Nat → Nat → Int32} {w : Int64} {c : Nat} (hc : K 2 = nI c) (h12 : c ≤ 12) {h : Int32} (h3 : ¬ h < 1) (h4 : ¬ 240 < h) (hKM : KM A 0 c) : CtI l yX4_foresee cX4_foresee 3 .int 7 0 0 P D 97 97 False (cw P N F T K A w) (cw P N F T (upd K 0 0) (aheadM (fuel h 0) h 0 c (K 1) (lookM A)) w) [.ref (rM P), .int h, .int 5] (sdM (aheadM (fuel h 0) h 0 c (K 1) (lookM A)) 2 3 c 5) := by
  refine mk_Met pl_X4 [(0, .ref (rM P)), (1, .int h), (2, .int 5)] rfl (Nat.le_of_ble_eq_true rfl) ?_
  intro pg en sg mg ag bg mt cd C
  refine v_aload_n C 0 dX4_foresee_0 rfl ?_
  refine v_iconst (v := 0) C dX4_foresee_1 rfl ?_
  refine v_pM C 0 (by decide) k_513 dX4_foresee_2 ?_
  refine v_iload_n C 1 dX4_foresee_5 rfl ?_
  refine v_iconst (v := 1) C dX4_foresee_6 rfl ?_
  refine v_sipush (v := 240) C dX4_foresee_7 rfl ?_
  refine go_I (run_S C (c_X4_isIn_1 h3 h4) k_547 k_5 k_545 k_546 dd_X4_isIn ⟨Nat.le_of_ble_eq_true rfl, Nat.le_of_ble_eq_true rfl⟩ rfl (Nat.le_of_ble_eq_true rfl) dX4_foresee_10 ⟨Nat.le_of_ble_eq_true rfl, Nat.le_of_ble_eq_true rfl⟩) ?_
  refine v_if_ne (tgt := 22) C dX4_foresee_13 (by decide) (fun _ => ?_) (fun h9 => absurd h9 (by decide))
  refine v_iload_n C 2 dX4_foresee_22 rfl ?_
  refine v_iconst (v := 3) C dX4_foresee_23 rfl ?_
  refine v_bipush (v := 8) C dX4_foresee_24 rfl ?_
  refine go_I (run_S C (c_X4_isIn_1 (by decide) (by decide)) k_547 k_5 k_545 k_546 dd_X4_isIn ⟨Nat.le_of_ble_eq_true rfl, Nat.le_of_ble_eq_true rfl⟩ rfl (Nat.le_of_ble_eq_true rfl) dX4_foresee_26 ⟨Nat.le_of_ble_eq_true rfl, Nat.le_of_ble_eq_true rfl⟩) ?_
  refine v_if_ne (tgt := 38) C dX4_foresee_29 (by decide) (fun _ => ?_) (fun h9 => absurd h9 (by decide))
  refine v_aload_n C 0 dX4_foresee_38 rfl ?_
  refine go_V (run_V C (c_X4_lookAhead) k_663 k_5 k_660 k_662 ks_40 dd_X4_lookAhead ⟨Nat.le_of_ble_eq_true rfl, Nat.le_of_ble_eq_true rfl⟩ rcM rfl (Nat.le_of_ble_eq_true rfl) dX4_foresee_39 ⟨Nat.le_of_ble_eq_true rfl, Nat.le_of_ble_eq_true rfl⟩) ?_
  refine v_aload_n C 0 dX4_foresee_42 rfl ?_
  refine v_iload_n C 1 dX4_foresee_43 rfl ?_
  refine go_V (run_V C (c_X4_passAhead (K := (upd K 0 0)) hc h12 (KM_look h12 hKM)) k_678 k_5 k_675 k_677 ks_41 dd_X4_passAhead ⟨Nat.le_of_ble_eq_true rfl, Nat.le_of_ble_eq_true rfl⟩ rcM rfl (Nat.le_of_ble_eq_true rfl) dX4_foresee_44 ⟨Nat.le_of_ble_eq_true rfl, Nat.le_of_ble_eq_true rfl⟩) ?_
  refine v_aload_n C 0 dX4_foresee_47 rfl ?_
  refine v_aload_n C 0 dX4_foresee_48 rfl ?_
  refine v_gM C 5 (by decide) k_518 rfl dX4_foresee_49 ?_
  refine v_aload_n C 0 dX4_foresee_52 rfl ?_
  refine v_gM C 6 (by decide) k_519 rfl dX4_foresee_53 ?_
  refine v_iload_n C 2 dX4_foresee_56 rfl ?_
  refine go_I (run_V C (c_X4_summed_5 (K := (upd K 0 0)) hc h12 (b := 2) (b2 := 3) (by decide) (by decide) rfl rfl) k_615 k_5 k_612 k_614 ks_33 dd_X4_summed ⟨Nat.le_of_ble_eq_true rfl, Nat.le_of_ble_eq_true rfl⟩ rcM rfl (Nat.le_of_ble_eq_true rfl) dX4_foresee_57 ⟨Nat.le_of_ble_eq_true rfl, Nat.le_of_ble_eq_true rfl⟩) ?_
  exact v_iret C dX4_foresee_60 rfl rfl
set_option maxHeartbeats 4000000 in
set_option maxRecDepth 100000 in
theorem c_X4_foresee_6 {l : Launch} {P : L5} {D : va_G} {N F T : Nat → Nat → Int32} {K : Nat → Int32} {A : Nat → Nat → Int32} {w : Int64} {c : Nat} (hc : K 2 = nI c) (h12 : c ≤ 12) {h : Int32} (h3 : ¬ h < 1) (h4 : ¬ 240 < h) (hKM : KM A 0 c) : CtI l yX4_foresee cX4_foresee 3 .int 7 0 0 P D 97 97 False (cw P N F T K A w) (cw P N F T (upd K 0 0) (aheadM (fuel h 0) h 0 c (K 1) (lookM A)) w) [.ref (rM P), .int h, .int 6] (sdM (aheadM (fuel h 0) h 0 c (K 1) (lookM A)) 2 3 c 6) := by
  refine mk_Met pl_X4 [(0, .ref (rM P)), (1, .int h), (2, .int 6)] rfl (Nat.le_of_ble_eq_true rfl) ?_
  intro pg en sg mg ag bg mt cd C
  refine v_aload_n C 0 dX4_foresee_0 rfl ?_
  refine v_iconst (v := 0) C dX4_foresee_1 rfl ?_
  refine v_pM C 0 (by decide) k_513 dX4_foresee_2 ?_
  refine v_iload_n C 1 dX4_foresee_5 rfl ?_
  refine v_iconst (v := 1) C dX4_foresee_6 rfl ?_
  refine v_sipush (v := 240) C dX4_foresee_7 rfl ?_
  refine go_I (run_S C (c_X4_isIn_1 h3 h4) k_547 k_5 k_545 k_546 dd_X4_isIn ⟨Nat.le_of_ble_eq_true rfl, Nat.le_of_ble_eq_true rfl⟩ rfl (Nat.le_of_ble_eq_true rfl) dX4_foresee_10 ⟨Nat.le_of_ble_eq_true rfl, Nat.le_of_ble_eq_true rfl⟩) ?_
  refine v_if_ne (tgt := 22) C dX4_foresee_13 (by decide) (fun _ => ?_) (fun h9 => absurd h9 (by decide))
  refine v_iload_n C 2 dX4_foresee_22 rfl ?_
  refine v_iconst (v := 3) C dX4_foresee_23 rfl ?_
  refine v_bipush (v := 8) C dX4_foresee_24 rfl ?_
  refine go_I (run_S C (c_X4_isIn_1 (by decide) (by decide)) k_547 k_5 k_545 k_546 dd_X4_isIn ⟨Nat.le_of_ble_eq_true rfl, Nat.le_of_ble_eq_true rfl⟩ rfl (Nat.le_of_ble_eq_true rfl) dX4_foresee_26 ⟨Nat.le_of_ble_eq_true rfl, Nat.le_of_ble_eq_true rfl⟩) ?_
  refine v_if_ne (tgt := 38) C dX4_foresee_29 (by decide) (fun _ => ?_) (fun h9 => absurd h9 (by decide))
  refine v_aload_n C 0 dX4_foresee_38 rfl ?_
  refine go_V (run_V C (c_X4_lookAhead) k_663 k_5 k_660 k_662 ks_40 dd_X4_lookAhead ⟨Nat.le_of_ble_eq_true rfl, Nat.le_of_ble_eq_true rfl⟩ rcM rfl (Nat.le_of_ble_eq_true rfl) dX4_foresee_39 ⟨Nat.le_of_ble_eq_true rfl, Nat.le_of_ble_eq_true rfl⟩) ?_
  refine v_aload_n C 0 dX4_foresee_42 rfl ?_
  refine v_iload_n C 1 dX4_foresee_43 rfl ?_
  refine go_V (run_V C (c_X4_passAhead (K := (upd K 0 0)) hc h12 (KM_look h12 hKM)) k_678 k_5 k_675 k_677 ks_41 dd_X4_passAhead ⟨Nat.le_of_ble_eq_true rfl, Nat.le_of_ble_eq_true rfl⟩ rcM rfl (Nat.le_of_ble_eq_true rfl) dX4_foresee_44 ⟨Nat.le_of_ble_eq_true rfl, Nat.le_of_ble_eq_true rfl⟩) ?_
  refine v_aload_n C 0 dX4_foresee_47 rfl ?_
  refine v_aload_n C 0 dX4_foresee_48 rfl ?_
  refine v_gM C 5 (by decide) k_518 rfl dX4_foresee_49 ?_
  refine v_aload_n C 0 dX4_foresee_52 rfl ?_
  refine v_gM C 6 (by decide) k_519 rfl dX4_foresee_53 ?_
  refine v_iload_n C 2 dX4_foresee_56 rfl ?_
  refine go_I (run_V C (c_X4_summed_6 (K := (upd K 0 0)) hc h12 (b := 2) (b2 := 3) (by decide) (by decide) rfl rfl) k_615 k_5 k_612 k_614 ks_33 dd_X4_summed ⟨Nat.le_of_ble_eq_true rfl, Nat.le_of_ble_eq_true rfl⟩ rcM rfl (Nat.le_of_ble_eq_true rfl) dX4_foresee_57 ⟨Nat.le_of_ble_eq_true rfl, Nat.le_of_ble_eq_true rfl⟩) ?_
  exact v_iret C dX4_foresee_60 rfl rfl
set_option maxHeartbeats 4000000 in
set_option maxRecDepth 100000 in
theorem c_X4_foresee_7 {l : Launch} {P : L5} {D : va_G} {N F T : Nat → Nat → Int32} {K : Nat → Int32} {A : Nat → Nat → Int32} {w : Int64} {c : Nat} (hc : K 2 = nI c) (h12 : c ≤ 12) {h : Int32} (h3 : ¬ h < 1) (h4 : ¬ 240 < h) (hKM : KM A 0 c) : CtI l yX4_foresee cX4_foresee 3 .int 7 0 0 P D 97 97 False (cw P N F T K A w) (cw P N F T (upd K 0 0) (aheadM (fuel h 0) h 0 c (K 1) (lookM A)) w) [.ref (rM P), .int h, .int 7] (sdM (aheadM (fuel h 0) h 0 c (K 1) (lookM A)) 2 3 c 7) := by
  refine mk_Met pl_X4 [(0, .ref (rM P)), (1, .int h), (2, .int 7)] rfl (Nat.le_of_ble_eq_true rfl) ?_
  intro pg en sg mg ag bg mt cd C
  refine v_aload_n C 0 dX4_foresee_0 rfl ?_
  refine v_iconst (v := 0) C dX4_foresee_1 rfl ?_
  refine v_pM C 0 (by decide) k_513 dX4_foresee_2 ?_
  refine v_iload_n C 1 dX4_foresee_5 rfl ?_
  refine v_iconst (v := 1) C dX4_foresee_6 rfl ?_
  refine v_sipush (v := 240) C dX4_foresee_7 rfl ?_
  refine go_I (run_S C (c_X4_isIn_1 h3 h4) k_547 k_5 k_545 k_546 dd_X4_isIn ⟨Nat.le_of_ble_eq_true rfl, Nat.le_of_ble_eq_true rfl⟩ rfl (Nat.le_of_ble_eq_true rfl) dX4_foresee_10 ⟨Nat.le_of_ble_eq_true rfl, Nat.le_of_ble_eq_true rfl⟩) ?_
  refine v_if_ne (tgt := 22) C dX4_foresee_13 (by decide) (fun _ => ?_) (fun h9 => absurd h9 (by decide))
  refine v_iload_n C 2 dX4_foresee_22 rfl ?_
  refine v_iconst (v := 3) C dX4_foresee_23 rfl ?_
  refine v_bipush (v := 8) C dX4_foresee_24 rfl ?_
  refine go_I (run_S C (c_X4_isIn_1 (by decide) (by decide)) k_547 k_5 k_545 k_546 dd_X4_isIn ⟨Nat.le_of_ble_eq_true rfl, Nat.le_of_ble_eq_true rfl⟩ rfl (Nat.le_of_ble_eq_true rfl) dX4_foresee_26 ⟨Nat.le_of_ble_eq_true rfl, Nat.le_of_ble_eq_true rfl⟩) ?_
  refine v_if_ne (tgt := 38) C dX4_foresee_29 (by decide) (fun _ => ?_) (fun h9 => absurd h9 (by decide))
  refine v_aload_n C 0 dX4_foresee_38 rfl ?_
  refine go_V (run_V C (c_X4_lookAhead) k_663 k_5 k_660 k_662 ks_40 dd_X4_lookAhead ⟨Nat.le_of_ble_eq_true rfl, Nat.le_of_ble_eq_true rfl⟩ rcM rfl (Nat.le_of_ble_eq_true rfl) dX4_foresee_39 ⟨Nat.le_of_ble_eq_true rfl, Nat.le_of_ble_eq_true rfl⟩) ?_
  refine v_aload_n C 0 dX4_foresee_42 rfl ?_
  refine v_iload_n C 1 dX4_foresee_43 rfl ?_
  refine go_V (run_V C (c_X4_passAhead (K := (upd K 0 0)) hc h12 (KM_look h12 hKM)) k_678 k_5 k_675 k_677 ks_41 dd_X4_passAhead ⟨Nat.le_of_ble_eq_true rfl, Nat.le_of_ble_eq_true rfl⟩ rcM rfl (Nat.le_of_ble_eq_true rfl) dX4_foresee_44 ⟨Nat.le_of_ble_eq_true rfl, Nat.le_of_ble_eq_true rfl⟩) ?_
  refine v_aload_n C 0 dX4_foresee_47 rfl ?_
  refine v_aload_n C 0 dX4_foresee_48 rfl ?_
  refine v_gM C 5 (by decide) k_518 rfl dX4_foresee_49 ?_
  refine v_aload_n C 0 dX4_foresee_52 rfl ?_
  refine v_gM C 6 (by decide) k_519 rfl dX4_foresee_53 ?_
  refine v_iload_n C 2 dX4_foresee_56 rfl ?_
  refine go_I (run_V C (c_X4_summed_7 (K := (upd K 0 0)) hc h12 (b := 2) (b2 := 3) (by decide) (by decide) rfl rfl) k_615 k_5 k_612 k_614 ks_33 dd_X4_summed ⟨Nat.le_of_ble_eq_true rfl, Nat.le_of_ble_eq_true rfl⟩ rcM rfl (Nat.le_of_ble_eq_true rfl) dX4_foresee_57 ⟨Nat.le_of_ble_eq_true rfl, Nat.le_of_ble_eq_true rfl⟩) ?_
  exact v_iret C dX4_foresee_60 rfl rfl
set_option maxHeartbeats 4000000 in
set_option maxRecDepth 100000 in
theorem c_X4_foresee_8 {l : Launch} {P : L5} {D : va_G} {N F T : Nat → Nat → Int32} {K : Nat → Int32} {A : Nat → Nat → Int32} {w : Int64} {c : Nat} (hc : K 2 = nI c) (h12 : c ≤ 12) {h : Int32} (h3 : ¬ h < 1) (h4 : ¬ 240 < h) (hKM : KM A 0 c) : CtI l yX4_foresee cX4_foresee 3 .int 7 0 0 P D 97 97 False (cw P N F T K A w) (cw P N F T (upd K 0 0) (aheadM (fuel h 0) h 0 c (K 1) (lookM A)) w) [.ref (rM P), .int h, .int 8] (sdM (aheadM (fuel h 0) h 0 c (K 1) (lookM A)) 2 3 c 8) := by
  refine mk_Met pl_X4 [(0, .ref (rM P)), (1, .int h), (2, .int 8)] rfl (Nat.le_of_ble_eq_true rfl) ?_
  intro pg en sg mg ag bg mt cd C
  refine v_aload_n C 0 dX4_foresee_0 rfl ?_
  refine v_iconst (v := 0) C dX4_foresee_1 rfl ?_
  refine v_pM C 0 (by decide) k_513 dX4_foresee_2 ?_
  refine v_iload_n C 1 dX4_foresee_5 rfl ?_
  refine v_iconst (v := 1) C dX4_foresee_6 rfl ?_
  refine v_sipush (v := 240) C dX4_foresee_7 rfl ?_
  refine go_I (run_S C (c_X4_isIn_1 h3 h4) k_547 k_5 k_545 k_546 dd_X4_isIn ⟨Nat.le_of_ble_eq_true rfl, Nat.le_of_ble_eq_true rfl⟩ rfl (Nat.le_of_ble_eq_true rfl) dX4_foresee_10 ⟨Nat.le_of_ble_eq_true rfl, Nat.le_of_ble_eq_true rfl⟩) ?_
  refine v_if_ne (tgt := 22) C dX4_foresee_13 (by decide) (fun _ => ?_) (fun h9 => absurd h9 (by decide))
  refine v_iload_n C 2 dX4_foresee_22 rfl ?_
  refine v_iconst (v := 3) C dX4_foresee_23 rfl ?_
  refine v_bipush (v := 8) C dX4_foresee_24 rfl ?_
  refine go_I (run_S C (c_X4_isIn_1 (by decide) (by decide)) k_547 k_5 k_545 k_546 dd_X4_isIn ⟨Nat.le_of_ble_eq_true rfl, Nat.le_of_ble_eq_true rfl⟩ rfl (Nat.le_of_ble_eq_true rfl) dX4_foresee_26 ⟨Nat.le_of_ble_eq_true rfl, Nat.le_of_ble_eq_true rfl⟩) ?_
  refine v_if_ne (tgt := 38) C dX4_foresee_29 (by decide) (fun _ => ?_) (fun h9 => absurd h9 (by decide))
  refine v_aload_n C 0 dX4_foresee_38 rfl ?_
  refine go_V (run_V C (c_X4_lookAhead) k_663 k_5 k_660 k_662 ks_40 dd_X4_lookAhead ⟨Nat.le_of_ble_eq_true rfl, Nat.le_of_ble_eq_true rfl⟩ rcM rfl (Nat.le_of_ble_eq_true rfl) dX4_foresee_39 ⟨Nat.le_of_ble_eq_true rfl, Nat.le_of_ble_eq_true rfl⟩) ?_
  refine v_aload_n C 0 dX4_foresee_42 rfl ?_
  refine v_iload_n C 1 dX4_foresee_43 rfl ?_
  refine go_V (run_V C (c_X4_passAhead (K := (upd K 0 0)) hc h12 (KM_look h12 hKM)) k_678 k_5 k_675 k_677 ks_41 dd_X4_passAhead ⟨Nat.le_of_ble_eq_true rfl, Nat.le_of_ble_eq_true rfl⟩ rcM rfl (Nat.le_of_ble_eq_true rfl) dX4_foresee_44 ⟨Nat.le_of_ble_eq_true rfl, Nat.le_of_ble_eq_true rfl⟩) ?_
  refine v_aload_n C 0 dX4_foresee_47 rfl ?_
  refine v_aload_n C 0 dX4_foresee_48 rfl ?_
  refine v_gM C 5 (by decide) k_518 rfl dX4_foresee_49 ?_
  refine v_aload_n C 0 dX4_foresee_52 rfl ?_
  refine v_gM C 6 (by decide) k_519 rfl dX4_foresee_53 ?_
  refine v_iload_n C 2 dX4_foresee_56 rfl ?_
  refine go_I (run_V C (c_X4_summed_8 (K := (upd K 0 0)) hc h12 (b := 2) (b2 := 3) (by decide) (by decide) rfl rfl) k_615 k_5 k_612 k_614 ks_33 dd_X4_summed ⟨Nat.le_of_ble_eq_true rfl, Nat.le_of_ble_eq_true rfl⟩ rcM rfl (Nat.le_of_ble_eq_true rfl) dX4_foresee_57 ⟨Nat.le_of_ble_eq_true rfl, Nat.le_of_ble_eq_true rfl⟩) ?_
  exact v_iret C dX4_foresee_60 rfl rfl
set_option maxHeartbeats 4000000 in
set_option maxRecDepth 100000 in
theorem c_X4_foresee_1 {l : Launch} {P : L5} {D : va_G} {N F T : Nat → Nat → Int32} {K : Nat → Int32} {A : Nat → Nat → Int32} {w : Int64} {c : Nat} (hc : K 2 = nI c) (h12 : c ≤ 12) {p q : Int32} (h : p < 1 ∨ 240 < p) : CtI l yX4_foresee cX4_foresee 3 .int 5 0 0 P D 97 97 False (cw P N F T K A w) (cw P N F T (upd K 0 1) A w) [.ref (rM P), .int p, .int q] 0 := by
  refine mk_Met pl_X4 [(0, .ref (rM P)), (1, .int p), (2, .int q)] rfl (Nat.le_of_ble_eq_true rfl) ?_
  intro pg en sg mg ag bg mt cd C
  refine v_aload_n C 0 dX4_foresee_0 rfl ?_
  refine v_iconst (v := 0) C dX4_foresee_1 rfl ?_
  refine v_pM C 0 (by decide) k_513 dX4_foresee_2 ?_
  refine v_iload_n C 1 dX4_foresee_5 rfl ?_
  refine v_iconst (v := 1) C dX4_foresee_6 rfl ?_
  refine v_sipush (v := 240) C dX4_foresee_7 rfl ?_
  refine go_I (run_S C (c_X4_isIn_0 h) k_547 k_5 k_545 k_546 dd_X4_isIn ⟨Nat.le_of_ble_eq_true rfl, Nat.le_of_ble_eq_true rfl⟩ rfl (Nat.le_of_ble_eq_true rfl) dX4_foresee_10 ⟨Nat.le_of_ble_eq_true rfl, Nat.le_of_ble_eq_true rfl⟩) ?_
  refine v_if_ne (tgt := 22) C dX4_foresee_13 (by decide) (fun h9 => absurd h9 (by decide)) (fun _ => ?_)
  refine v_aload_n C 0 dX4_foresee_16 rfl ?_
  refine v_iconst (v := 1) C dX4_foresee_17 rfl ?_
  refine go_I (run_V C (c_X4_no) k_551 k_5 k_548 k_550 ks_26 dd_X4_no ⟨Nat.le_of_ble_eq_true rfl, Nat.le_of_ble_eq_true rfl⟩ rcM rfl (Nat.le_of_ble_eq_true rfl) dX4_foresee_18 ⟨Nat.le_of_ble_eq_true rfl, Nat.le_of_ble_eq_true rfl⟩) ?_
  exact v_iret C dX4_foresee_21 (by rw [updd]) rfl
set_option maxHeartbeats 4000000 in
set_option maxRecDepth 100000 in
theorem c_X4_foresee_2 {l : Launch} {P : L5} {D : va_G} {N F T : Nat → Nat → Int32} {K : Nat → Int32} {A : Nat → Nat → Int32} {w : Int64} {c : Nat} (hc : K 2 = nI c) (h12 : c ≤ 12) {p q : Int32} (h3 : ¬ p < 1) (h4 : ¬ 240 < p) (h : q < 3 ∨ 8 < q) : CtI l yX4_foresee cX4_foresee 3 .int 5 0 0 P D 97 97 False (cw P N F T K A w) (cw P N F T (upd K 0 2) A w) [.ref (rM P), .int p, .int q] 0 := by
  refine mk_Met pl_X4 [(0, .ref (rM P)), (1, .int p), (2, .int q)] rfl (Nat.le_of_ble_eq_true rfl) ?_
  intro pg en sg mg ag bg mt cd C
  refine v_aload_n C 0 dX4_foresee_0 rfl ?_
  refine v_iconst (v := 0) C dX4_foresee_1 rfl ?_
  refine v_pM C 0 (by decide) k_513 dX4_foresee_2 ?_
  refine v_iload_n C 1 dX4_foresee_5 rfl ?_
  refine v_iconst (v := 1) C dX4_foresee_6 rfl ?_
  refine v_sipush (v := 240) C dX4_foresee_7 rfl ?_
  refine go_I (run_S C (c_X4_isIn_1 h3 h4) k_547 k_5 k_545 k_546 dd_X4_isIn ⟨Nat.le_of_ble_eq_true rfl, Nat.le_of_ble_eq_true rfl⟩ rfl (Nat.le_of_ble_eq_true rfl) dX4_foresee_10 ⟨Nat.le_of_ble_eq_true rfl, Nat.le_of_ble_eq_true rfl⟩) ?_
  refine v_if_ne (tgt := 22) C dX4_foresee_13 (by decide) (fun _ => ?_) (fun h9 => absurd h9 (by decide))
  refine v_iload_n C 2 dX4_foresee_22 rfl ?_
  refine v_iconst (v := 3) C dX4_foresee_23 rfl ?_
  refine v_bipush (v := 8) C dX4_foresee_24 rfl ?_
  refine go_I (run_S C (c_X4_isIn_0 h) k_547 k_5 k_545 k_546 dd_X4_isIn ⟨Nat.le_of_ble_eq_true rfl, Nat.le_of_ble_eq_true rfl⟩ rfl (Nat.le_of_ble_eq_true rfl) dX4_foresee_26 ⟨Nat.le_of_ble_eq_true rfl, Nat.le_of_ble_eq_true rfl⟩) ?_
  refine v_if_ne (tgt := 38) C dX4_foresee_29 (by decide) (fun h9 => absurd h9 (by decide)) (fun _ => ?_)
  refine v_aload_n C 0 dX4_foresee_32 rfl ?_
  refine v_iconst (v := 2) C dX4_foresee_33 rfl ?_
  refine go_I (run_V C (c_X4_no) k_551 k_5 k_548 k_550 ks_26 dd_X4_no ⟨Nat.le_of_ble_eq_true rfl, Nat.le_of_ble_eq_true rfl⟩ rcM rfl (Nat.le_of_ble_eq_true rfl) dX4_foresee_34 ⟨Nat.le_of_ble_eq_true rfl, Nat.le_of_ble_eq_true rfl⟩) ?_
  exact v_iret C dX4_foresee_37 (by rw [updd]) rfl
theorem updK1 {K : Nat → Int32} : upd (upd K 0 0) 1 (K 1) = upd K 0 0 := by
  funext t
  by_cases h : t = 1
  · subst h
    rfl
  · rw [upd_ge h]
set_option maxHeartbeats 4000000 in
set_option maxRecDepth 100000 in
theorem c_X4_pass_ {l : Launch} {P : L5} {D : va_G} {N F T : Nat → Nat → Int32} {K : Nat → Int32} {A : Nat → Nat → Int32} {w : Int64} {c : Nat} (hc : K 2 = nI c) (h12 : c ≤ 12) {h : Int32} (h3 : ¬ h < 1) (h4 : ¬ 240 < h) (hKM : KM A 0 c) : CtI l yX4_pass_ cX4_pass_ 4 .int 6 0 0 P D 97 97 False (cw P N F T K A w) (cw P N F T (upd (upd K 0 0) 1 (passM (fuel h 0) h 0 c (K 1) A 0).2.1) (passM (fuel h 0) h 0 c (K 1) A 0).1 w) [.ref (rM P), .int h] (passM (fuel h 0) h 0 c (K 1) A 0).2.2 := by
  refine mk_Met pl_X4 [(0, .ref (rM P)), (1, .int h)] rfl (Nat.le_of_ble_eq_true rfl) ?_
  intro pg en sg mg ag bg mt cd C
  refine v_aload_n C 0 dX4_pass__0 rfl ?_
  refine v_iconst (v := 0) C dX4_pass__1 rfl ?_
  refine v_pM C 0 (by decide) k_513 dX4_pass__2 ?_
  refine v_iload_n C 1 dX4_pass__5 rfl ?_
  refine v_iconst (v := 1) C dX4_pass__6 rfl ?_
  refine v_sipush (v := 240) C dX4_pass__7 rfl ?_
  refine go_I (run_S C (c_X4_isIn_1 h3 h4) k_547 k_5 k_545 k_546 dd_X4_isIn ⟨Nat.le_of_ble_eq_true rfl, Nat.le_of_ble_eq_true rfl⟩ rfl (Nat.le_of_ble_eq_true rfl) dX4_pass__10 ⟨Nat.le_of_ble_eq_true rfl, Nat.le_of_ble_eq_true rfl⟩) ?_
  refine v_if_ne (tgt := 22) C dX4_pass__13 (by decide) (fun _ => ?_) (fun h9 => absurd h9 (by decide))
  refine v_iconst (v := 0) C dX4_pass__22 rfl ?_
  refine v_istore_n (lv' := [(2, .int 0), (0, .ref (rM P)), (1, .int h)]) C dX4_pass__23 rfl (by decide) rfl ?_
  refine v_iconst (v := 0) C dX4_pass__24 rfl ?_
  refine v_istore_n (lv' := [(3, .int 0), (2, .int 0), (0, .ref (rM P)), (1, .int h)]) C dX4_pass__25 rfl (by decide) rfl ?_
  have L_1 : ∀ (n : Nat) (i now : Int32) (A9 : Nat → Nat → Int32) (sm : Int32), fuel h i ≤ n → KM A9 0 c → V pg l en (rmO 6 0 0) sg mg ag bg mt cd P D (MQ bg (QcI P D 97 False (cw P N F T (upd (upd K 0 0) 1 (passM (fuel h 0) h 0 c (K 1) A 0).2.1) (passM (fuel h 0) h 0 c (K 1) A 0).1 w) (passM (fuel h 0) h 0 c (K 1) A 0).2.2) ag sg 0 0 (aO P)) 4 97 False (cw P N F T (upd (upd K 0 0) 1 (passM n h i c now A9 sm).2.1) (passM n h i c now A9 sm).1 w) 0 0 66 [(2, .int ((passM n h i c now A9 sm).2.2))] [] → V pg l en (rmO 6 0 0) sg mg ag bg mt cd P D (MQ bg (QcI P D 97 False (cw P N F T (upd (upd K 0 0) 1 (passM (fuel h 0) h 0 c (K 1) A 0).2.1) (passM (fuel h 0) h 0 c (K 1) A 0).1 w) (passM (fuel h 0) h 0 c (K 1) A 0).2.2) ag sg 0 0 (aO P)) 4 97 False (cw P N F T (upd (upd K 0 0) 1 now) A9 w) 0 0 26 [(3, .int i), (2, .int sm), (0, .ref (rM P)), (1, .int h)] [] := by
    intro n
    induction n with
    | zero => intro i now A9 sm z1; exact absurd z1 (by unfold fuel; omega)
    | succ n ih =>
      intro i now A9 sm z1 hK9 hk9
      refine v_iload_n C 0 dX4_pass__26 rfl ?_
      refine v_iload_n C 3 dX4_pass__27 rfl ?_
      refine v_icmp_ge (tgt := 66) C dX4_pass__28 (by decide) (fun h28_1 => ?_) (fun h28_1 => ?_)
      · refine v_lv [1] rfl ?_
        have e9 : passM (n + 1) h i c now A9 sm = (A9, now, sm) := by rw [passM, if_pos h28_1]
        rw [e9] at hk9
        exact hk9
      · refine v_iload_n C 1 dX4_pass__31 rfl ?_
        refine v_aload_n C 2 dX4_pass__32 rfl ?_
        refine v_aload_n C 2 dX4_pass__33 rfl ?_
        refine v_gM C 3 (by decide) k_516 rfl dX4_pass__34 ?_
        refine v_aload_n C 2 dX4_pass__37 rfl ?_
        refine v_gM C 4 (by decide) k_517 rfl dX4_pass__38 ?_
        refine v_aload_n C 2 dX4_pass__41 rfl ?_
        refine v_gM C 1 (by decide) k_514 rfl dX4_pass__42 ?_
        refine go_I (run_V C (c_X4_pass (K := upd (upd K 0 0) 1 now) hc h12 (now := now) (b := 0) (b2 := 1) (by decide) (by decide) rfl rfl (by decide) (by decide) (by decide) hK9) k_634 k_5 k_631 k_633 ks_36 dd_X4_pass ⟨Nat.le_of_ble_eq_true rfl, Nat.le_of_ble_eq_true rfl⟩ rcM rfl (Nat.le_of_ble_eq_true rfl) dX4_pass__45 ⟨Nat.le_of_ble_eq_true rfl, Nat.le_of_ble_eq_true rfl⟩) ?_
        refine v_iadd C dX4_pass__48 ?_
        refine v_top (fun x_1 ex_1 => ?_)
        refine v_istore_n (lv' := [(2, .int x_1), (3, .int i), (0, .ref (rM P)), (1, .int h)]) C dX4_pass__49 rfl (by decide) rfl ?_
        refine v_aload_n C 2 dX4_pass__50 rfl ?_
        refine v_dup C dX4_pass__51 rfl ?_
        refine v_gM C 1 (by decide) k_514 rfl dX4_pass__52 ?_
        refine v_iconst (v := 1) C dX4_pass__55 rfl ?_
        refine v_iadd C dX4_pass__56 ?_
        refine v_pM C 1 (by decide) k_514 dX4_pass__57 ?_
        obtain ⟨x_2, ex_2⟩ : ∃ y : Int32, y = i + 1 := ⟨_, rfl⟩
        refine v_iinc (b := x_2) (lv' := [(3, .int x_2), (2, .int x_1), (0, .ref (rM P)), (1, .int h)]) C 1 dX4_pass__60 rfl (by rw [ex_2]; rfl) (by decide) rfl ?_
        refine v_goto (tgt := 26) C dX4_pass__63 (by decide) ?_
        have e9 : passM (n + 1) h i c now A9 sm = passM n h (i + 1) c (now + 1) (hourM c 0 1 now A9) (sm + hourMG c 0 A9) := by rw [passM, if_neg h28_1]
        rw [e9] at hk9
        subst ex_2 ex_1
        refine v_eq (f' := (cw P N F T (upd (upd K 0 0) 1 (now + 1)) (hourM c 0 1 now A9) w)) (by first | (rw [updd]; done) | (rw [updd]; rfl)) ?_
        exact ih _ _ _ _ (fuel_step z1 h28_1) (KM_hour (by decide) (by decide) hK9) hk9
  refine v_eq (f' := (cw P N F T (upd (upd K 0 0) 1 (K 1)) A w)) (by rw [updK1]) ?_
  refine L_1 (fuel h 0) 0 (K 1) A 0 (Nat.le_refl _) hKM ?_
  refine v_iload_n C 0 dX4_pass__66 rfl ?_
  exact v_iret C dX4_pass__67 rfl rfl
set_option maxHeartbeats 4000000 in
set_option maxRecDepth 100000 in
theorem c_X4_pass__1 {l : Launch} {P : L5} {D : va_G} {N F T : Nat → Nat → Int32} {K : Nat → Int32} {A : Nat → Nat → Int32} {w : Int64} {c : Nat} (hc : K 2 = nI c) (h12 : c ≤ 12) {p : Int32} (h : p < 1 ∨ 240 < p) : CtI l yX4_pass_ cX4_pass_ 4 .int 5 0 0 P D 97 97 False (cw P N F T K A w) (cw P N F T (upd K 0 1) A w) [.ref (rM P), .int p] 0 := by
  refine mk_Met pl_X4 [(0, .ref (rM P)), (1, .int p)] rfl (Nat.le_of_ble_eq_true rfl) ?_
  intro pg en sg mg ag bg mt cd C
  refine v_aload_n C 0 dX4_pass__0 rfl ?_
  refine v_iconst (v := 0) C dX4_pass__1 rfl ?_
  refine v_pM C 0 (by decide) k_513 dX4_pass__2 ?_
  refine v_iload_n C 1 dX4_pass__5 rfl ?_
  refine v_iconst (v := 1) C dX4_pass__6 rfl ?_
  refine v_sipush (v := 240) C dX4_pass__7 rfl ?_
  refine go_I (run_S C (c_X4_isIn_0 h) k_547 k_5 k_545 k_546 dd_X4_isIn ⟨Nat.le_of_ble_eq_true rfl, Nat.le_of_ble_eq_true rfl⟩ rfl (Nat.le_of_ble_eq_true rfl) dX4_pass__10 ⟨Nat.le_of_ble_eq_true rfl, Nat.le_of_ble_eq_true rfl⟩) ?_
  refine v_if_ne (tgt := 22) C dX4_pass__13 (by decide) (fun h9 => absurd h9 (by decide)) (fun _ => ?_)
  refine v_aload_n C 0 dX4_pass__16 rfl ?_
  refine v_iconst (v := 1) C dX4_pass__17 rfl ?_
  refine go_I (run_V C (c_X4_no) k_551 k_5 k_548 k_550 ks_26 dd_X4_no ⟨Nat.le_of_ble_eq_true rfl, Nat.le_of_ble_eq_true rfl⟩ rcM rfl (Nat.le_of_ble_eq_true rfl) dX4_pass__18 ⟨Nat.le_of_ble_eq_true rfl, Nat.le_of_ble_eq_true rfl⟩) ?_
  exact v_iret C dX4_pass__21 (by rw [updd]) rfl
set_option maxHeartbeats 4000000 in
set_option maxRecDepth 100000 in
theorem c_X4_rate_1 {l : Launch} {P : L5} {D : va_G} {N F T : Nat → Nat → Int32} {K : Nat → Int32} {A : Nat → Nat → Int32} {w : Int64} {c : Nat} (hc : K 2 = nI c) (h12 : c ≤ 12) {p : Int32} (h : p < 0 ∨ ¬ p < K 2) : CtI l yX4_rate cX4_rate 2 .int 5 0 0 P D 97 97 False (cw P N F T K A w) (cw P N F T (upd K 0 1) A w) [.ref (rM P), .int p] 0 := by
  refine mk_Met pl_X4 [(0, .ref (rM P)), (1, .int p)] rfl (Nat.le_of_ble_eq_true rfl) ?_
  intro pg en sg mg ag bg mt cd C
  refine v_aload_n C 0 dX4_rate_0 rfl ?_
  refine v_iconst (v := 0) C dX4_rate_1 rfl ?_
  refine v_pM C 0 (by decide) k_513 dX4_rate_2 ?_
  refine v_aload_n C 0 dX4_rate_5 rfl ?_
  refine v_iload_n C 1 dX4_rate_6 rfl ?_
  refine go_I (run_V C (c_X4_isThere_0 (K := upd K 0 0) hc h12 h) k_559 k_5 k_556 k_558 ks_27 dd_X4_isThere ⟨Nat.le_of_ble_eq_true rfl, Nat.le_of_ble_eq_true rfl⟩ rcM rfl (Nat.le_of_ble_eq_true rfl) dX4_rate_7 ⟨Nat.le_of_ble_eq_true rfl, Nat.le_of_ble_eq_true rfl⟩) ?_
  refine v_if_ne (tgt := 19) C dX4_rate_10 (by decide) (fun h9 => absurd h9 (by decide)) (fun _ => ?_)
  refine v_aload_n C 0 dX4_rate_13 rfl ?_
  refine v_iconst (v := 1) C dX4_rate_14 rfl ?_
  refine go_I (run_V C (c_X4_no) k_551 k_5 k_548 k_550 ks_26 dd_X4_no ⟨Nat.le_of_ble_eq_true rfl, Nat.le_of_ble_eq_true rfl⟩ rcM rfl (Nat.le_of_ble_eq_true rfl) dX4_rate_15 ⟨Nat.le_of_ble_eq_true rfl, Nat.le_of_ble_eq_true rfl⟩) ?_
  exact v_iret C dX4_rate_18 (by rw [updd]) rfl
set_option maxHeartbeats 4000000 in
set_option maxRecDepth 100000 in
theorem c_X4_rate {l : Launch} {P : L5} {D : va_G} {N F T : Nat → Nat → Int32} {K : Nat → Int32} {A : Nat → Nat → Int32} {w : Int64} {c : Nat} (hc : K 2 = nI c) (h12 : c ≤ 12) {j : Nat} (hj : j < c) (hKM : KM A 0 c) : CtI l yX4_rate cX4_rate 2 .int 5 0 0 P D 97 97 False (cw P N F T K A w) (cw P N F T (upd K 0 0) (mWA (lookM A) 2 (20 * j)) w) [.ref (rM P), .int (nI j)] (mWr (rowO (lookM A 2) (20 * j))).2 := by
  refine mk_Met pl_X4 [(0, .ref (rM P)), (1, .int (nI j))] rfl (Nat.le_of_ble_eq_true rfl) ?_
  intro pg en sg mg ag bg mt cd C
  refine v_aload_n C 0 dX4_rate_0 rfl ?_
  refine v_iconst (v := 0) C dX4_rate_1 rfl ?_
  refine v_pM C 0 (by decide) k_513 dX4_rate_2 ?_
  refine v_aload_n C 0 dX4_rate_5 rfl ?_
  refine v_iload_n C 1 dX4_rate_6 rfl ?_
  refine go_I (run_V C (c_X4_isThere_1 (K := upd K 0 0) hc h12 (nIp (by omega)) (thOk hc h12 hj)) k_559 k_5 k_556 k_558 ks_27 dd_X4_isThere ⟨Nat.le_of_ble_eq_true rfl, Nat.le_of_ble_eq_true rfl⟩ rcM rfl (Nat.le_of_ble_eq_true rfl) dX4_rate_7 ⟨Nat.le_of_ble_eq_true rfl, Nat.le_of_ble_eq_true rfl⟩) ?_
  refine v_if_ne (tgt := 19) C dX4_rate_10 (by decide) (fun _ => ?_) (fun h9 => absurd h9 (by decide))
  refine v_aload_n C 0 dX4_rate_19 rfl ?_
  refine go_V (run_V C (c_X4_lookAhead) k_663 k_5 k_660 k_662 ks_40 dd_X4_lookAhead ⟨Nat.le_of_ble_eq_true rfl, Nat.le_of_ble_eq_true rfl⟩ rcM rfl (Nat.le_of_ble_eq_true rfl) dX4_rate_20 ⟨Nat.le_of_ble_eq_true rfl, Nat.le_of_ble_eq_true rfl⟩) ?_
  refine v_aload_n C 0 dX4_rate_23 rfl ?_
  refine v_aload_n C 0 dX4_rate_24 rfl ?_
  refine v_gM C 5 (by decide) k_518 rfl dX4_rate_25 ?_
  refine v_bipush (v := 20) C dX4_rate_28 rfl ?_
  refine v_iload_n C 1 dX4_rate_30 rfl ?_
  refine v_imul C dX4_rate_31 ?_
  refine v_topE (b := nI (20 * j)) (ixM rfl rfl) ?_
  refine go_I (run_V C (u_X4_work (K := (upd K 0 0)) (b := 2) (a := 20 * j) (by decide) rfl (by omega) (KM_look h12 hKM j hj).1) k_638 k_5 k_635 k_637 ks_37 dd_X4_work ⟨Nat.le_of_ble_eq_true rfl, Nat.le_of_ble_eq_true rfl⟩ rcM rfl (Nat.le_of_ble_eq_true rfl) dX4_rate_32 ⟨Nat.le_of_ble_eq_true rfl, Nat.le_of_ble_eq_true rfl⟩) ?_
  exact v_iret C dX4_rate_35 rfl rfl
set_option maxHeartbeats 4000000 in
set_option maxRecDepth 100000 in
theorem c_X4_when_1 {l : Launch} {P : L5} {D : va_G} {N F T : Nat → Nat → Int32} {K : Nat → Int32} {A : Nat → Nat → Int32} {w : Int64} {c : Nat} (hc : K 2 = nI c) (h12 : c ≤ 12) {p q : Int32} (h : p < 0 ∨ ¬ p < K 2) : CtI l yX4_when cX4_when 5 .int 5 0 0 P D 97 97 False (cw P N F T K A w) (cw P N F T (upd K 0 1) A w) [.ref (rM P), .int p, .int q] 0 := by
  refine mk_Met pl_X4 [(0, .ref (rM P)), (1, .int p), (2, .int q)] rfl (Nat.le_of_ble_eq_true rfl) ?_
  intro pg en sg mg ag bg mt cd C
  refine v_aload_n C 0 dX4_when_0 rfl ?_
  refine v_iconst (v := 0) C dX4_when_1 rfl ?_
  refine v_pM C 0 (by decide) k_513 dX4_when_2 ?_
  refine v_aload_n C 0 dX4_when_5 rfl ?_
  refine v_iload_n C 1 dX4_when_6 rfl ?_
  refine go_I (run_V C (c_X4_isThere_0 (K := upd K 0 0) hc h12 h) k_559 k_5 k_556 k_558 ks_27 dd_X4_isThere ⟨Nat.le_of_ble_eq_true rfl, Nat.le_of_ble_eq_true rfl⟩ rcM rfl (Nat.le_of_ble_eq_true rfl) dX4_when_7 ⟨Nat.le_of_ble_eq_true rfl, Nat.le_of_ble_eq_true rfl⟩) ?_
  refine v_if_ne (tgt := 19) C dX4_when_10 (by decide) (fun h9 => absurd h9 (by decide)) (fun _ => ?_)
  refine v_aload_n C 0 dX4_when_13 rfl ?_
  refine v_iconst (v := 1) C dX4_when_14 rfl ?_
  refine go_I (run_V C (c_X4_no) k_551 k_5 k_548 k_550 ks_26 dd_X4_no ⟨Nat.le_of_ble_eq_true rfl, Nat.le_of_ble_eq_true rfl⟩ rcM rfl (Nat.le_of_ble_eq_true rfl) dX4_when_15 ⟨Nat.le_of_ble_eq_true rfl, Nat.le_of_ble_eq_true rfl⟩) ?_
  exact v_iret C dX4_when_18 (by rw [updd]) rfl
set_option maxHeartbeats 4000000 in
set_option maxRecDepth 100000 in
theorem c_X4_when_2 {l : Launch} {P : L5} {D : va_G} {N F T : Nat → Nat → Int32} {K : Nat → Int32} {A : Nat → Nat → Int32} {w : Int64} {c : Nat} (hc : K 2 = nI c) (h12 : c ≤ 12) {j : Nat} (hj : j < c) {q : Int32} (h : q < 1 ∨ 9999 < q) : CtI l yX4_when cX4_when 5 .int 5 0 0 P D 97 97 False (cw P N F T K A w) (cw P N F T (upd K 0 2) A w) [.ref (rM P), .int (nI j), .int q] 0 := by
  refine mk_Met pl_X4 [(0, .ref (rM P)), (1, .int (nI j)), (2, .int q)] rfl (Nat.le_of_ble_eq_true rfl) ?_
  intro pg en sg mg ag bg mt cd C
  refine v_aload_n C 0 dX4_when_0 rfl ?_
  refine v_iconst (v := 0) C dX4_when_1 rfl ?_
  refine v_pM C 0 (by decide) k_513 dX4_when_2 ?_
  refine v_aload_n C 0 dX4_when_5 rfl ?_
  refine v_iload_n C 1 dX4_when_6 rfl ?_
  refine go_I (run_V C (c_X4_isThere_1 (K := upd K 0 0) hc h12 (nIp (by omega)) (thOk hc h12 hj)) k_559 k_5 k_556 k_558 ks_27 dd_X4_isThere ⟨Nat.le_of_ble_eq_true rfl, Nat.le_of_ble_eq_true rfl⟩ rcM rfl (Nat.le_of_ble_eq_true rfl) dX4_when_7 ⟨Nat.le_of_ble_eq_true rfl, Nat.le_of_ble_eq_true rfl⟩) ?_
  refine v_if_ne (tgt := 19) C dX4_when_10 (by decide) (fun _ => ?_) (fun h9 => absurd h9 (by decide))
  refine v_iload_n C 2 dX4_when_19 rfl ?_
  refine v_iconst (v := 1) C dX4_when_20 rfl ?_
  refine v_sipush (v := 9999) C dX4_when_21 rfl ?_
  refine go_I (run_S C (c_X4_isIn_0 h) k_547 k_5 k_545 k_546 dd_X4_isIn ⟨Nat.le_of_ble_eq_true rfl, Nat.le_of_ble_eq_true rfl⟩ rfl (Nat.le_of_ble_eq_true rfl) dX4_when_24 ⟨Nat.le_of_ble_eq_true rfl, Nat.le_of_ble_eq_true rfl⟩) ?_
  refine v_if_ne (tgt := 36) C dX4_when_27 (by decide) (fun h9 => absurd h9 (by decide)) (fun _ => ?_)
  refine v_aload_n C 0 dX4_when_30 rfl ?_
  refine v_iconst (v := 2) C dX4_when_31 rfl ?_
  refine go_I (run_V C (c_X4_no) k_551 k_5 k_548 k_550 ks_26 dd_X4_no ⟨Nat.le_of_ble_eq_true rfl, Nat.le_of_ble_eq_true rfl⟩ rcM rfl (Nat.le_of_ble_eq_true rfl) dX4_when_32 ⟨Nat.le_of_ble_eq_true rfl, Nat.le_of_ble_eq_true rfl⟩) ?_
  exact v_iret C dX4_when_35 (by rw [updd]) rfl
theorem mWA_k1 {A : Nat → Nat → Int32} {j : Nat} (h : vp_in (A 2 (20 * j + 1)) 4) : vp_in (mWA A 2 (20 * j) 2 (20 * j + 1)) 4 := by
  rw [mWA_at (by omega)]
  unfold mWr
  rw [mWork_k (Or.inl rfl)]
  exact h
set_option maxHeartbeats 4000000 in
set_option maxRecDepth 100000 in
theorem c_X4_when {l : Launch} {P : L5} {D : va_G} {N F T : Nat → Nat → Int32} {K : Nat → Int32} {A : Nat → Nat → Int32} {w : Int64} {c : Nat} (hc : K 2 = nI c) (h12 : c ≤ 12) {j : Nat} (hj : j < c) {q : Int32} (h3 : ¬ q < 1) (h4 : ¬ 9999 < q) (hKM : KM A 0 c) : CtI l yX4_when cX4_when 5 .int 5 0 0 P D 97 97 False (cw P N F T K A w) (cw P N F T (upd K 0 0) (whM (fuel 481 1) q 1 (20 * j) (lookM A)).1 w) [.ref (rM P), .int (nI j), .int q] (whM (fuel 481 1) q 1 (20 * j) (lookM A)).2 := by
  refine mk_Met pl_X4 [(0, .ref (rM P)), (1, .int (nI j)), (2, .int q)] rfl (Nat.le_of_ble_eq_true rfl) ?_
  intro pg en sg mg ag bg mt cd C
  refine v_aload_n C 0 dX4_when_0 rfl ?_
  refine v_iconst (v := 0) C dX4_when_1 rfl ?_
  refine v_pM C 0 (by decide) k_513 dX4_when_2 ?_
  refine v_aload_n C 0 dX4_when_5 rfl ?_
  refine v_iload_n C 1 dX4_when_6 rfl ?_
  refine go_I (run_V C (c_X4_isThere_1 (K := upd K 0 0) hc h12 (nIp (by omega)) (thOk hc h12 hj)) k_559 k_5 k_556 k_558 ks_27 dd_X4_isThere ⟨Nat.le_of_ble_eq_true rfl, Nat.le_of_ble_eq_true rfl⟩ rcM rfl (Nat.le_of_ble_eq_true rfl) dX4_when_7 ⟨Nat.le_of_ble_eq_true rfl, Nat.le_of_ble_eq_true rfl⟩) ?_
  refine v_if_ne (tgt := 19) C dX4_when_10 (by decide) (fun _ => ?_) (fun h9 => absurd h9 (by decide))
  refine v_iload_n C 2 dX4_when_19 rfl ?_
  refine v_iconst (v := 1) C dX4_when_20 rfl ?_
  refine v_sipush (v := 9999) C dX4_when_21 rfl ?_
  refine go_I (run_S C (c_X4_isIn_1 h3 h4) k_547 k_5 k_545 k_546 dd_X4_isIn ⟨Nat.le_of_ble_eq_true rfl, Nat.le_of_ble_eq_true rfl⟩ rfl (Nat.le_of_ble_eq_true rfl) dX4_when_24 ⟨Nat.le_of_ble_eq_true rfl, Nat.le_of_ble_eq_true rfl⟩) ?_
  refine v_if_ne (tgt := 36) C dX4_when_27 (by decide) (fun _ => ?_) (fun h9 => absurd h9 (by decide))
  refine v_aload_n C 0 dX4_when_36 rfl ?_
  refine go_V (run_V C (c_X4_lookAhead) k_663 k_5 k_660 k_662 ks_40 dd_X4_lookAhead ⟨Nat.le_of_ble_eq_true rfl, Nat.le_of_ble_eq_true rfl⟩ rcM rfl (Nat.le_of_ble_eq_true rfl) dX4_when_37 ⟨Nat.le_of_ble_eq_true rfl, Nat.le_of_ble_eq_true rfl⟩) ?_
  refine v_iload_n C 2 dX4_when_40 rfl ?_
  refine v_istore_n (lv' := [(3, .int q), (0, .ref (rM P)), (1, .int (nI j)), (2, .int q)]) C dX4_when_41 rfl (by decide) rfl ?_
  refine v_iconst (v := 1) C dX4_when_42 rfl ?_
  refine v_istore (lv' := [(4, .int 1), (3, .int q), (0, .ref (rM P)), (1, .int (nI j)), (2, .int q)]) C dX4_when_43 (by decide) rfl ?_
  have LOOP : ∀ (n : Nat) (left hh : Int32) (A9 : Nat → Nat → Int32), fuel 481 hh ≤ n → vp_in (A9 2 (20 * j + 1)) 4 → V pg l en (rmO 5 0 0) sg mg ag bg mt cd P D (MQ bg (QcI P D 97 False (cw P N F T (upd K 0 0) (whM n left hh (20 * j) A9).1 w) (whM n left hh (20 * j) A9).2) ag sg 0 0 (aO P)) 5 97 False (cw P N F T (upd K 0 0) A9 w) 0 0 45 [(4, .int hh), (3, .int left), (0, .ref (rM P)), (1, .int (nI j))] [] := by
    intro n
    induction n with
    | zero => intro left hh A9 z1; exact absurd z1 (by unfold fuel; omega)
    | succ n ih =>
      intro left hh A9 z1 hv9
      refine v_iload C 0 dX4_when_45 rfl ?_
      refine v_sipush (v := 480) C dX4_when_47 rfl ?_
      refine v_icmp_gt (tgt := 81) C dX4_when_50 (by decide) (fun h50_1 => ?_) (fun h50_1 => ?_)
      · refine v_iconst (v := (-1)) C dX4_when_81 rfl ?_
        exact v_iret C dX4_when_82 (by rw [whM, if_pos h50_1]) (by rw [whM, if_pos h50_1])
      · refine v_iload_n C 1 dX4_when_53 rfl ?_
        refine v_aload_n C 2 dX4_when_54 rfl ?_
        refine v_aload_n C 2 dX4_when_55 rfl ?_
        refine v_gM C 5 (by decide) k_518 rfl dX4_when_56 ?_
        refine v_bipush (v := 20) C dX4_when_59 rfl ?_
        refine v_iload_n C 3 dX4_when_61 rfl ?_
        refine v_imul C dX4_when_62 ?_
        refine v_topE (b := nI (20 * j)) (ixM rfl rfl) ?_
        refine go_I (run_V C (u_X4_work (K := (upd K 0 0)) (b := 2) (a := 20 * j) (by decide) rfl (by omega) hv9) k_638 k_5 k_635 k_637 ks_37 dd_X4_work ⟨Nat.le_of_ble_eq_true rfl, Nat.le_of_ble_eq_true rfl⟩ rcM rfl (Nat.le_of_ble_eq_true rfl) dX4_when_63 ⟨Nat.le_of_ble_eq_true rfl, Nat.le_of_ble_eq_true rfl⟩) ?_
        refine v_isub C dX4_when_66 ?_
        refine v_top (fun x_1 ex_1 => ?_)
        refine v_istore_n (lv' := [(3, .int x_1), (4, .int hh), (0, .ref (rM P)), (1, .int (nI j))]) C dX4_when_67 rfl (by decide) rfl ?_
        refine v_iload_n C 0 dX4_when_68 rfl ?_
        refine v_if_gt (tgt := 75) C dX4_when_69 (by decide) (fun h69_1 => ?_) (fun h69_1 => ?_)
        · obtain ⟨x_2, ex_2⟩ : ∃ y : Int32, y = hh + 1 := ⟨_, rfl⟩
          refine v_iinc (b := x_2) (lv' := [(4, .int x_2), (3, .int x_1), (0, .ref (rM P)), (1, .int (nI j))]) C 1 dX4_when_75 rfl (by rw [ex_2]; rfl) (by decide) rfl ?_
          refine v_goto (tgt := 45) C dX4_when_78 (by decide) ?_
          have e9 : whM (n + 1) left hh (20 * j) A9 = whM n (left - (mWr (rowO (A9 2) (20 * j))).2) (hh + 1) (20 * j) (mWA A9 2 (20 * j)) := by rw [whM, if_neg h50_1, if_pos (by exact (ex_1 ▸ h69_1))]
          rw [e9]
          subst ex_1 ex_2
          exact ih _ _ _ (fuel481 z1 h50_1) (mWA_k1 hv9)
        · refine v_iload C 1 dX4_when_72 rfl ?_
          exact v_iret C dX4_when_74 (by rw [whM, if_neg h50_1, if_neg (by exact (ex_1 ▸ h69_1))]) (by rw [whM, if_neg h50_1, if_neg (by exact (ex_1 ▸ h69_1))])
  refine v_lv [0, 1, 2, 3] rfl ?_
  exact LOOP _ _ _ _ (Nat.le_refl _) (KM_look h12 hKM j hj).1
set_option maxHeartbeats 4000000 in
set_option maxRecDepth 100000 in
theorem c_X4_worthOf {l : Launch} {P : L5} {D : va_G} {N F T : Nat → Nat → Int32} {K : Nat → Int32} {A : Nat → Nat → Int32} {w : Int64} {j kd : Nat} (hj : j < 12) (hkd : kd < 4) {h : Int32} : CtI l yX4_worthOf cX4_worthOf 6 .int 4 0 0 P D 97 97 False (cw P N F T K A w) (cw P N F T K (wofQ A j kd h).1 w) [.ref (rM P), .int (nI j), .int (nI kd), .int h] (wofQ A j kd h).2 := by
  refine mk_Met pl_X4 [(0, .ref (rM P)), (1, .int (nI j)), (2, .int (nI kd)), (3, .int h)] rfl (Nat.le_of_ble_eq_true rfl) ?_
  intro pg en sg mg ag bg mt cd C
  refine v_aload_n C 0 dX4_worthOf_0 rfl ?_
  refine go_V (run_V C (c_X4_lookAhead) k_663 k_5 k_660 k_662 ks_40 dd_X4_lookAhead ⟨Nat.le_of_ble_eq_true rfl, Nat.le_of_ble_eq_true rfl⟩ rcM rfl (Nat.le_of_ble_eq_true rfl) dX4_worthOf_1 ⟨Nat.le_of_ble_eq_true rfl, Nat.le_of_ble_eq_true rfl⟩) ?_
  refine v_aload_n C 0 dX4_worthOf_4 rfl ?_
  refine v_gM C 5 (by decide) k_518 rfl dX4_worthOf_5 ?_
  refine v_bipush (v := 20) C dX4_worthOf_8 rfl ?_
  refine v_iload_n C 1 dX4_worthOf_10 rfl ?_
  refine v_imul C dX4_worthOf_11 ?_
  refine v_iconst (v := 1) C dX4_worthOf_12 rfl ?_
  refine v_iadd C dX4_worthOf_13 ?_
  refine v_iload_n C 2 dX4_worthOf_14 rfl ?_
  refine v_stAk C ((20 * j) + 1) (by decide) (ixA (ixM rfl rfl) rfl) (show _ < 240 by omega) rfl dX4_worthOf_15 ?_
  refine v_iconst (v := 0) C dX4_worthOf_16 rfl ?_
  refine v_istore (lv' := [(4, .int 0), (0, .ref (rM P)), (1, .int (nI j)), (2, .int (nI kd)), (3, .int h)]) C dX4_worthOf_17 (by decide) rfl ?_
  refine v_iconst (v := 0) C dX4_worthOf_19 rfl ?_
  refine v_istore (lv' := [(5, .int 0), (4, .int 0), (0, .ref (rM P)), (1, .int (nI j)), (2, .int (nI kd)), (3, .int h)]) C dX4_worthOf_20 (by decide) rfl ?_
  have L_1 : ∀ (n : Nat) (i : Int32) (A9 : Nat → Nat → Int32) (sm : Int32), fuel h i ≤ n → vp_in (A9 2 (20 * j + 1)) 4 → V pg l en (rmO 4 0 0) sg mg ag bg mt cd P D (MQ bg (QcI P D 97 False (cw P N F T K (wofQ A j kd h).1 w) (wofQ A j kd h).2) ag sg 0 0 (aO P)) 6 97 False (cw P N F T K (woM n h i (20 * j) A9 sm).1 w) 0 0 51 [(4, .int ((woM n h i (20 * j) A9 sm).2)), (2, .int (nI kd))] [] → V pg l en (rmO 4 0 0) sg mg ag bg mt cd P D (MQ bg (QcI P D 97 False (cw P N F T K (wofQ A j kd h).1 w) (wofQ A j kd h).2) ag sg 0 0 (aO P)) 6 97 False (cw P N F T K A9 w) 0 0 22 [(5, .int i), (4, .int sm), (0, .ref (rM P)), (1, .int (nI j)), (3, .int h), (2, .int (nI kd))] [] := by
    intro n
    induction n with
    | zero => intro i A9 sm z1; exact absurd z1 (by unfold fuel; omega)
    | succ n ih =>
      intro i A9 sm z1 hv9 hk9
      refine v_iload C 0 dX4_worthOf_22 rfl ?_
      refine v_iload_n C 4 dX4_worthOf_24 rfl ?_
      refine v_icmp_ge (tgt := 51) C dX4_worthOf_25 (by decide) (fun h25_1 => ?_) (fun h25_1 => ?_)
      · refine v_lv [1, 5] rfl ?_
        have e9 : woM (n + 1) h i (20 * j) A9 sm = (A9, sm) := by rw [woM, if_pos h25_1]
        rw [e9] at hk9
        exact hk9
      · refine v_iload C 1 dX4_worthOf_28 rfl ?_
        refine v_aload_n C 2 dX4_worthOf_30 rfl ?_
        refine v_aload_n C 2 dX4_worthOf_31 rfl ?_
        refine v_gM C 5 (by decide) k_518 rfl dX4_worthOf_32 ?_
        refine v_bipush (v := 20) C dX4_worthOf_35 rfl ?_
        refine v_iload_n C 3 dX4_worthOf_37 rfl ?_
        refine v_imul C dX4_worthOf_38 ?_
        refine v_topE (b := nI (20 * j)) (ixM rfl rfl) ?_
        refine go_I (run_V C (u_X4_work (b := 2) (a := 20 * j) (by decide) rfl (by omega) hv9) k_638 k_5 k_635 k_637 ks_37 dd_X4_work ⟨Nat.le_of_ble_eq_true rfl, Nat.le_of_ble_eq_true rfl⟩ rcM rfl (Nat.le_of_ble_eq_true rfl) dX4_worthOf_39 ⟨Nat.le_of_ble_eq_true rfl, Nat.le_of_ble_eq_true rfl⟩) ?_
        refine v_iadd C dX4_worthOf_42 ?_
        refine v_top (fun x_1 ex_1 => ?_)
        refine v_istore (lv' := [(4, .int x_1), (5, .int i), (0, .ref (rM P)), (1, .int (nI j)), (3, .int h), (2, .int (nI kd))]) C dX4_worthOf_43 (by decide) rfl ?_
        obtain ⟨x_2, ex_2⟩ : ∃ y : Int32, y = i + 1 := ⟨_, rfl⟩
        refine v_iinc (b := x_2) (lv' := [(5, .int x_2), (4, .int x_1), (0, .ref (rM P)), (1, .int (nI j)), (3, .int h), (2, .int (nI kd))]) C 1 dX4_worthOf_45 rfl (by rw [ex_2]; rfl) (by decide) rfl ?_
        refine v_goto (tgt := 22) C dX4_worthOf_48 (by decide) ?_
        have e9 : woM (n + 1) h i (20 * j) A9 sm = woM n h (i + 1) (20 * j) (mWA A9 2 (20 * j)) (sm + (mWr (rowO (A9 2) (20 * j))).2) := by rw [woM, if_neg h25_1]
        rw [e9] at hk9
        subst ex_2 ex_1
        exact ih _ _ _ (fuel_step z1 h25_1) (mWA_k1 hv9) hk9
  refine v_lv [0, 1, 2, 3, 5, 4] rfl ?_
  refine L_1 (fuel h 0) 0 (wofA A j kd) 0 (Nat.le_refl _) (by unfold wofA sA; rw [va_up_self]; exact (show vp_in (upd _ _ _ _) 4 by rw [show upd (lookM A 2) (20 * j + 1) (nI kd) (20 * j + 1) = nI kd from if_pos rfl]; exact vp_in_nI hkd (by omega))) ?_
  refine v_iload C 0 dX4_worthOf_51 rfl ?_
  refine v_gS C 3 rfl k_654 dX4_worthOf_53 ?_
  refine v_iload_n C 1 dX4_worthOf_56 rfl ?_
  refine v_ldSk C 3 rfl kd (nI_clamp (by omega)) (vp_in_nI (by omega) (by omega)) rfl dX4_worthOf_57 ?_
  refine v_imul C dX4_worthOf_58 ?_
  exact v_iret C dX4_worthOf_59 rfl rfl
set_option maxHeartbeats 4000000 in
set_option maxRecDepth 100000 in
theorem c_X4_advise_1 {l : Launch} {P : L5} {D : va_G} {N F T : Nat → Nat → Int32} {K : Nat → Int32} {A : Nat → Nat → Int32} {w : Int64} {c : Nat} (hc : K 2 = nI c) (h12 : c ≤ 12) {p q : Int32} (h : p < 0 ∨ ¬ p < K 2) : CtI l yX4_advise cX4_advise 5 .int 5 0 0 P D 97 97 False (cw P N F T K A w) (cw P N F T (upd K 0 1) A w) [.ref (rM P), .int p, .int q] 0 := by
  refine mk_Met pl_X4 [(0, .ref (rM P)), (1, .int p), (2, .int q)] rfl (Nat.le_of_ble_eq_true rfl) ?_
  intro pg en sg mg ag bg mt cd C
  refine v_aload_n C 0 dX4_advise_0 rfl ?_
  refine v_iconst (v := 0) C dX4_advise_1 rfl ?_
  refine v_pM C 0 (by decide) k_513 dX4_advise_2 ?_
  refine v_aload_n C 0 dX4_advise_5 rfl ?_
  refine v_iload_n C 1 dX4_advise_6 rfl ?_
  refine go_I (run_V C (c_X4_isThere_0 (K := upd K 0 0) hc h12 h) k_559 k_5 k_556 k_558 ks_27 dd_X4_isThere ⟨Nat.le_of_ble_eq_true rfl, Nat.le_of_ble_eq_true rfl⟩ rcM rfl (Nat.le_of_ble_eq_true rfl) dX4_advise_7 ⟨Nat.le_of_ble_eq_true rfl, Nat.le_of_ble_eq_true rfl⟩) ?_
  refine v_if_ne (tgt := 19) C dX4_advise_10 (by decide) (fun h9 => absurd h9 (by decide)) (fun _ => ?_)
  refine v_aload_n C 0 dX4_advise_13 rfl ?_
  refine v_iconst (v := 1) C dX4_advise_14 rfl ?_
  refine go_I (run_V C (c_X4_no) k_551 k_5 k_548 k_550 ks_26 dd_X4_no ⟨Nat.le_of_ble_eq_true rfl, Nat.le_of_ble_eq_true rfl⟩ rcM rfl (Nat.le_of_ble_eq_true rfl) dX4_advise_15 ⟨Nat.le_of_ble_eq_true rfl, Nat.le_of_ble_eq_true rfl⟩) ?_
  exact v_iret C dX4_advise_18 (by rw [updd]) rfl
set_option maxHeartbeats 4000000 in
set_option maxRecDepth 100000 in
theorem c_X4_advise_2 {l : Launch} {P : L5} {D : va_G} {N F T : Nat → Nat → Int32} {K : Nat → Int32} {A : Nat → Nat → Int32} {w : Int64} {c : Nat} (hc : K 2 = nI c) (h12 : c ≤ 12) {j : Nat} (hj : j < c) {q : Int32} (h : q < 1 ∨ 120 < q) : CtI l yX4_advise cX4_advise 5 .int 5 0 0 P D 97 97 False (cw P N F T K A w) (cw P N F T (upd K 0 2) A w) [.ref (rM P), .int (nI j), .int q] 0 := by
  refine mk_Met pl_X4 [(0, .ref (rM P)), (1, .int (nI j)), (2, .int q)] rfl (Nat.le_of_ble_eq_true rfl) ?_
  intro pg en sg mg ag bg mt cd C
  refine v_aload_n C 0 dX4_advise_0 rfl ?_
  refine v_iconst (v := 0) C dX4_advise_1 rfl ?_
  refine v_pM C 0 (by decide) k_513 dX4_advise_2 ?_
  refine v_aload_n C 0 dX4_advise_5 rfl ?_
  refine v_iload_n C 1 dX4_advise_6 rfl ?_
  refine go_I (run_V C (c_X4_isThere_1 (K := upd K 0 0) hc h12 (nIp (by omega)) (thOk hc h12 hj)) k_559 k_5 k_556 k_558 ks_27 dd_X4_isThere ⟨Nat.le_of_ble_eq_true rfl, Nat.le_of_ble_eq_true rfl⟩ rcM rfl (Nat.le_of_ble_eq_true rfl) dX4_advise_7 ⟨Nat.le_of_ble_eq_true rfl, Nat.le_of_ble_eq_true rfl⟩) ?_
  refine v_if_ne (tgt := 19) C dX4_advise_10 (by decide) (fun _ => ?_) (fun h9 => absurd h9 (by decide))
  refine v_iload_n C 2 dX4_advise_19 rfl ?_
  refine v_iconst (v := 1) C dX4_advise_20 rfl ?_
  refine v_bipush (v := 120) C dX4_advise_21 rfl ?_
  refine go_I (run_S C (c_X4_isIn_0 h) k_547 k_5 k_545 k_546 dd_X4_isIn ⟨Nat.le_of_ble_eq_true rfl, Nat.le_of_ble_eq_true rfl⟩ rfl (Nat.le_of_ble_eq_true rfl) dX4_advise_23 ⟨Nat.le_of_ble_eq_true rfl, Nat.le_of_ble_eq_true rfl⟩) ?_
  refine v_if_ne (tgt := 35) C dX4_advise_26 (by decide) (fun h9 => absurd h9 (by decide)) (fun _ => ?_)
  refine v_aload_n C 0 dX4_advise_29 rfl ?_
  refine v_iconst (v := 2) C dX4_advise_30 rfl ?_
  refine go_I (run_V C (c_X4_no) k_551 k_5 k_548 k_550 ks_26 dd_X4_no ⟨Nat.le_of_ble_eq_true rfl, Nat.le_of_ble_eq_true rfl⟩ rcM rfl (Nat.le_of_ble_eq_true rfl) dX4_advise_31 ⟨Nat.le_of_ble_eq_true rfl, Nat.le_of_ble_eq_true rfl⟩) ?_
  exact v_iret C dX4_advise_34 (by rw [updd]) rfl
set_option maxHeartbeats 4000000 in
set_option maxRecDepth 100000 in
theorem c_X4_advise {l : Launch} {P : L5} {D : va_G} {N F T : Nat → Nat → Int32} {K : Nat → Int32} {A : Nat → Nat → Int32} {w : Int64} {c : Nat} (hc : K 2 = nI c) (h12 : c ≤ 12) {j : Nat} (hj : j < c) {q : Int32} (h3 : ¬ q < 1) (h4 : ¬ 120 < q) : CtI l yX4_advise cX4_advise 5 .int 6 0 0 P D 97 97 False (cw P N F T K A w) (cw P N F T (upd K 0 0) (adM 4 q j 1 0 A).1 w) [.ref (rM P), .int (nI j), .int q] (adM 4 q j 1 0 A).2 := by
  refine mk_Met pl_X4 [(0, .ref (rM P)), (1, .int (nI j)), (2, .int q)] rfl (Nat.le_of_ble_eq_true rfl) ?_
  intro pg en sg mg ag bg mt cd C
  refine v_aload_n C 0 dX4_advise_0 rfl ?_
  refine v_iconst (v := 0) C dX4_advise_1 rfl ?_
  refine v_pM C 0 (by decide) k_513 dX4_advise_2 ?_
  refine v_aload_n C 0 dX4_advise_5 rfl ?_
  refine v_iload_n C 1 dX4_advise_6 rfl ?_
  refine go_I (run_V C (c_X4_isThere_1 (K := upd K 0 0) hc h12 (nIp (by omega)) (thOk hc h12 hj)) k_559 k_5 k_556 k_558 ks_27 dd_X4_isThere ⟨Nat.le_of_ble_eq_true rfl, Nat.le_of_ble_eq_true rfl⟩ rcM rfl (Nat.le_of_ble_eq_true rfl) dX4_advise_7 ⟨Nat.le_of_ble_eq_true rfl, Nat.le_of_ble_eq_true rfl⟩) ?_
  refine v_if_ne (tgt := 19) C dX4_advise_10 (by decide) (fun _ => ?_) (fun h9 => absurd h9 (by decide))
  refine v_iload_n C 2 dX4_advise_19 rfl ?_
  refine v_iconst (v := 1) C dX4_advise_20 rfl ?_
  refine v_bipush (v := 120) C dX4_advise_21 rfl ?_
  refine go_I (run_S C (c_X4_isIn_1 h3 h4) k_547 k_5 k_545 k_546 dd_X4_isIn ⟨Nat.le_of_ble_eq_true rfl, Nat.le_of_ble_eq_true rfl⟩ rfl (Nat.le_of_ble_eq_true rfl) dX4_advise_23 ⟨Nat.le_of_ble_eq_true rfl, Nat.le_of_ble_eq_true rfl⟩) ?_
  refine v_if_ne (tgt := 35) C dX4_advise_26 (by decide) (fun _ => ?_) (fun h9 => absurd h9 (by decide))
  refine v_iconst (v := 0) C dX4_advise_35 rfl ?_
  refine v_istore_n (lv' := [(3, .int 0), (0, .ref (rM P)), (1, .int (nI j)), (2, .int q)]) C dX4_advise_36 rfl (by decide) rfl ?_
  refine v_iconst (v := 1) C dX4_advise_37 rfl ?_
  refine v_istore (lv' := [(4, .int 1), (3, .int 0), (0, .ref (rM P)), (1, .int (nI j)), (2, .int q)]) C dX4_advise_38 (by decide) rfl ?_
  have L_1 : ∀ (n : Nat) (i best : Nat) (A9 : Nat → Nat → Int32), i ≤ 4 → 4 < i + n → best < 4 → V pg l en (rmO 6 0 0) sg mg ag bg mt cd P D (MQ bg (QcI P D 97 False (cw P N F T (upd K 0 0) (adM 4 q j 1 0 A).1 w) (adM 4 q j 1 0 A).2) ag sg 0 0 (aO P)) 5 97 False (cw P N F T (upd K 0 0) (adM n q j i best A9).1 w) 0 0 73 [(3, .int ((adM n q j i best A9).2))] [] → V pg l en (rmO 6 0 0) sg mg ag bg mt cd P D (MQ bg (QcI P D 97 False (cw P N F T (upd K 0 0) (adM 4 q j 1 0 A).1 w) (adM 4 q j 1 0 A).2) ag sg 0 0 (aO P)) 5 97 False (cw P N F T (upd K 0 0) A9 w) 0 0 40 [(4, .int (nI i)), (3, .int (nI best)), (0, .ref (rM P)), (1, .int (nI j)), (2, .int q)] [] := by
    intro n
    induction n with
    | zero => intro i best A9 z1 z2; omega
    | succ n ih =>
      intro i best A9 z1 z2 hb9 hk9
      refine v_iload C 0 dX4_advise_40 rfl ?_
      refine v_iconst (v := 4) C dX4_advise_42 rfl ?_
      refine v_icmp_ge (tgt := 73) C dX4_advise_43 (by decide) (fun h43_1 => ?_) (fun h43_1 => ?_)
      · refine v_lv [1] rfl ?_
        have hic : 4 ≤ i := (le4i z1).mp h43_1
        have e9 : adM (n + 1) q j i best A9 = (A9, nI best) := by rw [adM, if_pos hic]
        rw [e9] at hk9
        exact hk9
      · have hic : i < 4 := Nat.not_le.mp (fun z => h43_1 ((le4i z1).mpr z))
        refine v_aload_n C 2 dX4_advise_46 rfl ?_
        refine v_iload_n C 3 dX4_advise_47 rfl ?_
        refine v_iload C 0 dX4_advise_48 rfl ?_
        refine v_iload_n C 4 dX4_advise_50 rfl ?_
        refine go_I (run_V C (c_X4_worthOf (by omega) hic) k_686 k_5 k_683 k_685 ks_42 dd_X4_worthOf ⟨Nat.le_of_ble_eq_true rfl, Nat.le_of_ble_eq_true rfl⟩ rcM rfl (Nat.le_of_ble_eq_true rfl) dX4_advise_51 ⟨Nat.le_of_ble_eq_true rfl, Nat.le_of_ble_eq_true rfl⟩) ?_
        refine v_aload_n C 2 dX4_advise_54 rfl ?_
        refine v_iload_n C 3 dX4_advise_55 rfl ?_
        refine v_iload_n C 1 dX4_advise_56 rfl ?_
        refine v_iload_n C 4 dX4_advise_57 rfl ?_
        refine go_I (run_V C (c_X4_worthOf (by omega) hb9) k_686 k_5 k_683 k_685 ks_42 dd_X4_worthOf ⟨Nat.le_of_ble_eq_true rfl, Nat.le_of_ble_eq_true rfl⟩ rcM rfl (Nat.le_of_ble_eq_true rfl) dX4_advise_58 ⟨Nat.le_of_ble_eq_true rfl, Nat.le_of_ble_eq_true rfl⟩) ?_
        refine v_icmp_le (tgt := 67) C dX4_advise_61 (by decide) (fun h61_1 => ?_) (fun h61_1 => ?_)
        · refine v_iinc (b := (nI (i + 1))) (lv' := [(4, .int (nI (i + 1))), (3, .int (nI best)), (0, .ref (rM P)), (1, .int (nI j)), (2, .int q)]) C 0 dX4_advise_67 rfl (nI_1 _) (by decide) rfl ?_
          refine v_goto (tgt := 40) C dX4_advise_70 (by decide) ?_
          have e9 : adM (n + 1) q j i best A9 = adM n q j (i + 1) best (wofQ (wofQ A9 j i q).1 j best q).1 := by rw [adM, if_neg (by omega), if_pos (by exact h61_1)]
          rw [e9] at hk9
          exact ih _ _ _ (by omega) (by omega) hb9 hk9
        · refine v_iload C 0 dX4_advise_64 rfl ?_
          refine v_istore_n (lv' := [(3, .int (nI i)), (4, .int (nI i)), (0, .ref (rM P)), (1, .int (nI j)), (2, .int q)]) C dX4_advise_66 rfl (by decide) rfl ?_
          refine v_iinc (b := (nI (i + 1))) (lv' := [(4, .int (nI (i + 1))), (3, .int (nI i)), (0, .ref (rM P)), (1, .int (nI j)), (2, .int q)]) C 1 dX4_advise_67 rfl (nI_1 _) (by decide) rfl ?_
          refine v_goto (tgt := 40) C dX4_advise_70 (by decide) ?_
          have e9 : adM (n + 1) q j i best A9 = adM n q j (i + 1) i (wofQ (wofQ A9 j i q).1 j best q).1 := by rw [adM, if_neg (by omega), if_neg (by exact h61_1)]
          rw [e9] at hk9
          exact ih _ _ _ (by omega) (by omega) hic hk9
  refine L_1 4 1 0 A (by omega) (by omega) (by omega) ?_
  refine v_iload_n C 0 dX4_advise_73 rfl ?_
  exact v_iret C dX4_advise_74 rfl rfl
set_option maxHeartbeats 4000000 in
set_option maxRecDepth 100000 in
theorem c_X4_wealth {l : Launch} {P : L5} {D : va_G} {N F T : Nat → Nat → Int32} {K : Nat → Int32} {A : Nat → Nat → Int32} {w : Int64} {j : Nat} (hj : j < 12) : CtI l yX4_wealth cX4_wealth 2 .int 1 0 0 P D 97 97 False (cw P N F T K A w) (cw P N F T K A w) [.ref (rM P), .int (nI j)] (weM A j) := by
  refine mk_Met pl_X4 [(0, .ref (rM P)), (1, .int (nI j))] rfl (Nat.le_of_ble_eq_true rfl) ?_
  intro pg en sg mg ag bg mt cd C
  refine v_aload_n C 0 dX4_wealth_0 rfl ?_
  refine v_gM C 3 (by decide) k_516 rfl dX4_wealth_1 ?_
  refine v_bipush (v := 20) C dX4_wealth_4 rfl ?_
  refine v_iload_n C 1 dX4_wealth_6 rfl ?_
  refine v_imul C dX4_wealth_7 ?_
  refine v_bipush (v := 7) C dX4_wealth_8 rfl ?_
  refine v_iadd C dX4_wealth_10 ?_
  refine v_ldAk C ((20 * j) + 7) (by decide) (ixA (ixM rfl rfl) rfl) (show _ < 240 by omega) rfl dX4_wealth_11 ?_
  refine v_aload_n C 0 dX4_wealth_12 rfl ?_
  refine v_gM C 3 (by decide) k_516 rfl dX4_wealth_13 ?_
  refine v_bipush (v := 20) C dX4_wealth_16 rfl ?_
  refine v_iload_n C 1 dX4_wealth_18 rfl ?_
  refine v_imul C dX4_wealth_19 ?_
  refine v_bipush (v := 8) C dX4_wealth_20 rfl ?_
  refine v_iadd C dX4_wealth_22 ?_
  refine v_ldAk C ((20 * j) + 8) (by decide) (ixA (ixM rfl rfl) rfl) (show _ < 240 by omega) rfl dX4_wealth_23 ?_
  refine v_isub C dX4_wealth_24 ?_
  exact v_iret C dX4_wealth_25 rfl rfl
set_option maxHeartbeats 4000000 in
set_option maxRecDepth 100000 in
theorem c_X4_richest {l : Launch} {P : L5} {D : va_G} {N F T : Nat → Nat → Int32} {K : Nat → Int32} {A : Nat → Nat → Int32} {w : Int64} {c : Nat} (hc : K 2 = nI c) (h12 : c ≤ 12) : CtI l yX4_richest cX4_richest 3 .int 5 0 0 P D 97 97 False (cw P N F T K A w) (cw P N F T (upd K 0 0) A w) [.ref (rM P)] (riM (c + 1) c 0 (-1) A) := by
  refine mk_Met pl_X4 [(0, .ref (rM P))] rfl (Nat.le_of_ble_eq_true rfl) ?_
  intro pg en sg mg ag bg mt cd C
  refine v_aload_n C 0 dX4_richest_0 rfl ?_
  refine v_iconst (v := 0) C dX4_richest_1 rfl ?_
  refine v_pM C 0 (by decide) k_513 dX4_richest_2 ?_
  refine v_iconst (v := (-1)) C dX4_richest_5 rfl ?_
  refine v_istore_n (lv' := [(1, .int (-1)), (0, .ref (rM P))]) C dX4_richest_6 rfl (by decide) rfl ?_
  refine v_iconst (v := 0) C dX4_richest_7 rfl ?_
  refine v_istore_n (lv' := [(2, .int 0), (1, .int (-1)), (0, .ref (rM P))]) C dX4_richest_8 rfl (by decide) rfl ?_
  have L_1 : ∀ (n : Nat) (i : Nat) (best : Int32), i ≤ c → c < i + n → (best < 0 ∨ ∃ b, b < c ∧ best = nI b) → V pg l en (rmO 5 0 0) sg mg ag bg mt cd P D (MQ bg (QcI P D 97 False (cw P N F T (upd K 0 0) A w) (riM (c + 1) c 0 (-1) A)) ag sg 0 0 (aO P)) 3 97 False (cw P N F T (upd K 0 0) A w) 0 0 42 [(1, .int (riM n c i best A))] [] → V pg l en (rmO 5 0 0) sg mg ag bg mt cd P D (MQ bg (QcI P D 97 False (cw P N F T (upd K 0 0) A w) (riM (c + 1) c 0 (-1) A)) ag sg 0 0 (aO P)) 3 97 False (cw P N F T (upd K 0 0) A w) 0 0 9 [(2, .int (nI i)), (1, .int best), (0, .ref (rM P))] [] := by
    intro n
    induction n with
    | zero => intro i best z1 z2; omega
    | succ n ih =>
      intro i best z1 z2 z3 hk9
      refine v_iload_n C 0 dX4_richest_9 rfl ?_
      refine v_aload_n C 2 dX4_richest_10 rfl ?_
      refine v_gM C 2 (by decide) k_515 rfl dX4_richest_11 ?_
      refine v_icmp_ge (tgt := 42) C dX4_richest_14 (by decide) (fun h14_1 => ?_) (fun h14_1 => ?_)
      · refine v_lv [1] rfl ?_
        have hic : c ≤ i := (leC (a := upd K 0 0 2) hc h12 z1).mp h14_1
        have e9 : riM (n + 1) c i best A = best := by rw [riM, if_pos hic]
        rw [e9] at hk9
        exact hk9
      · have hic : i < c := Nat.not_le.mp (fun z => h14_1 ((leC (a := upd K 0 0 2) hc h12 z1).mpr z))
        refine v_iload_n C 1 dX4_richest_17 rfl ?_
        refine v_if_lt (tgt := 34) C dX4_richest_18 (by decide) (fun h18_1 => ?_) (fun h18_1 => ?_)
        · refine v_iload_n C 0 dX4_richest_34 rfl ?_
          refine v_istore_n (lv' := [(1, .int (nI i)), (2, .int (nI i)), (0, .ref (rM P))]) C dX4_richest_35 rfl (by decide) rfl ?_
          refine v_iinc (b := (nI (i + 1))) (lv' := [(2, .int (nI (i + 1))), (1, .int (nI i)), (0, .ref (rM P))]) C 1 dX4_richest_36 rfl (nI_1 _) (by decide) rfl ?_
          refine v_goto (tgt := 9) C dX4_richest_39 (by decide) ?_
          have e9 : riM (n + 1) c i best A = riM n c (i + 1) (nI i) A := by rw [riM, if_neg (by omega), if_pos h18_1]
          rw [e9] at hk9
          exact ih _ _ (by omega) (by omega) (Or.inr ⟨i, hic, rfl⟩) hk9
        · obtain ⟨b9, hb9, eb9⟩ := z3.resolve_left h18_1
          refine v_aload_n C 2 dX4_richest_21 rfl ?_
          refine v_iload_n C 0 dX4_richest_22 rfl ?_
          refine go_I (run_V C (c_X4_wealth (by omega)) k_694 k_5 k_691 k_693 ks_43 dd_X4_wealth ⟨Nat.le_of_ble_eq_true rfl, Nat.le_of_ble_eq_true rfl⟩ rcM rfl (Nat.le_of_ble_eq_true rfl) dX4_richest_23 ⟨Nat.le_of_ble_eq_true rfl, Nat.le_of_ble_eq_true rfl⟩) ?_
          refine v_aload_n C 2 dX4_richest_26 rfl ?_
          refine v_iload_n C 1 dX4_richest_27 rfl ?_
          refine v_topE (b := nI b9) eb9 ?_
          refine go_I (run_V C (c_X4_wealth (j := b9) (by omega)) k_694 k_5 k_691 k_693 ks_43 dd_X4_wealth ⟨Nat.le_of_ble_eq_true rfl, Nat.le_of_ble_eq_true rfl⟩ rcM rfl (Nat.le_of_ble_eq_true rfl) dX4_richest_28 ⟨Nat.le_of_ble_eq_true rfl, Nat.le_of_ble_eq_true rfl⟩) ?_
          refine v_icmp_le (tgt := 36) C dX4_richest_31 (by decide) (fun h31_1 => ?_) (fun h31_1 => ?_)
          · refine v_iinc (b := (nI (i + 1))) (lv' := [(2, .int (nI (i + 1))), (1, .int best), (0, .ref (rM P))]) C 0 dX4_richest_36 rfl (nI_1 _) (by decide) rfl ?_
            refine v_goto (tgt := 9) C dX4_richest_39 (by decide) ?_
            have ez : best.toNatClampNeg = b9 := by rw [eb9, nI_clamp (by omega)]
            have e9 : riM (n + 1) c i best A = riM n c (i + 1) best A := by rw [riM, if_neg (by omega), if_neg h18_1, ez, if_pos (by exact h31_1)]
            rw [e9] at hk9
            exact ih _ _ (by omega) (by omega) z3 hk9
          · refine v_iload_n C 0 dX4_richest_34 rfl ?_
            refine v_istore_n (lv' := [(1, .int (nI i)), (2, .int (nI i)), (0, .ref (rM P))]) C dX4_richest_35 rfl (by decide) rfl ?_
            refine v_iinc (b := (nI (i + 1))) (lv' := [(2, .int (nI (i + 1))), (1, .int (nI i)), (0, .ref (rM P))]) C 1 dX4_richest_36 rfl (nI_1 _) (by decide) rfl ?_
            refine v_goto (tgt := 9) C dX4_richest_39 (by decide) ?_
            have ez : best.toNatClampNeg = b9 := by rw [eb9, nI_clamp (by omega)]
            have e9 : riM (n + 1) c i best A = riM n c (i + 1) (nI i) A := by rw [riM, if_neg (by omega), if_neg h18_1, ez, if_neg (by exact h31_1)]
            rw [e9] at hk9
            exact ih _ _ (by omega) (by omega) (Or.inr ⟨i, hic, rfl⟩) hk9
  refine L_1 (c + 1) 0 (-1) (by omega) (by omega) (Or.inl (by decide)) ?_
  refine v_iload_n C 0 dX4_richest_42 rfl ?_
  exact v_iret C dX4_richest_43 rfl rfl
