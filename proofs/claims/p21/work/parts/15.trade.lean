/-! THE CLASS TRADE: contracts and walks -/
theorem pk_lt4 {a : Int32} (h : vp_in a 4) : a.toNatClampNeg < 4 := Nat.not_le.mp fun q => h (Or.inr q)
set_option maxHeartbeats 4000000 in
set_option maxRecDepth 100000 in
theorem c_X2_reckonWeek {l : Launch} {P : L5} {D : va_G} {N F T : Nat → Nat → Int32} {K : Nat → Int32} {A : Nat → Nat → Int32} {w : Int64} {t : Nat} (ht : t < 2) {c : Nat} (hc : T t 1 = nI c) (h12 : c ≤ 12) (hKF : KF N (12 * t) c) : CtV l yX2_reckonWeek cX2_reckonWeek 3 3 0 0 P D (nW P) (nW P) False (cw P N F T K A w) (cw P (weekR c (12 * t) (4 * t) N F).1 (weekR c (12 * t) (4 * t) N F).2 T K A w) [.ref (rT P t)] := by
  refine mk_Met pl_X2 [(0, .ref (rT P t))] rfl (Nat.le_of_ble_eq_true rfl) ?_
  intro pg en sg mg ag bg mt cd C
  refine v_iconst (v := 0) C dX2_reckonWeek_0 rfl ?_
  refine v_istore_n (lv' := [(1, .int 0), (0, .ref (rT P t))]) C dX2_reckonWeek_1 rfl (by decide) rfl ?_
  have L_1 : ∀ (n : Nat) (i : Nat) (N9 F9 : Nat → Nat → Int32), i ≤ c → c < i + n → KF N9 (12 * t) c → V pg l en (rmO 3 0 0) sg mg ag bg mt cd P D (MQ bg (QcV P D (nW P) False (cw P (weekR c (12 * t) (4 * t) N F).1 (weekR c (12 * t) (4 * t) N F).2 T K A w)) ag sg 0 0 (aO P)) 3 (nW P) False (cw P (rkN n c (12 * t) (4 * t) i N9 F9).1 (rkN n c (12 * t) (4 * t) i N9 F9).2 T K A w) 0 0 51 [(0, .ref (rT P t))] [] → V pg l en (rmO 3 0 0) sg mg ag bg mt cd P D (MQ bg (QcV P D (nW P) False (cw P (weekR c (12 * t) (4 * t) N F).1 (weekR c (12 * t) (4 * t) N F).2 T K A w)) ag sg 0 0 (aO P)) 3 (nW P) False (cw P N9 F9 T K A w) 0 0 2 [(1, .int (nI i)), (0, .ref (rT P t))] [] := by
    intro n
    induction n with
    | zero => intro i N9 F9 h1 h2; omega
    | succ n ih =>
      intro i N9 F9 h1 h2 hK9 hk9
      refine v_iload_n C 0 dX2_reckonWeek_2 rfl ?_
      refine v_aload_n C 1 dX2_reckonWeek_3 rfl ?_
      refine v_gTu C ht 1 (by decide) k_409 rfl dX2_reckonWeek_4 ?_
      refine v_icmp_ge (tgt := 51) C dX2_reckonWeek_7 (by decide) (fun h7_1 => ?_) (fun h7_1 => ?_)
      · refine v_lv [1] rfl ?_
        have hic : c ≤ i := (leC hc h12 h1).mp h7_1
        have e9 : rkN (n + 1) c (12 * t) (4 * t) i N9 F9 = (N9, F9) := by rw [rkN, if_pos hic]
        rw [e9] at hk9
        exact hk9
      · have hic : i < c := Nat.not_le.mp (fun q => h7_1 ((leC hc h12 h1).mpr q))
        have h4 := (pk_lt4 (hK9 i hic).2)
        refine v_aload_n C 1 dX2_reckonWeek_10 rfl ?_
        refine v_gTu C ht 3 (by decide) k_413 rfl dX2_reckonWeek_11 ?_
        refine v_aload_n C 1 dX2_reckonWeek_14 rfl ?_
        refine v_gTu C ht 2 (by decide) k_411 rfl dX2_reckonWeek_15 ?_
        refine v_iload_n C 0 dX2_reckonWeek_18 rfl ?_
        refine v_aaNk C i ht (nI_clamp (by omega)) (vp_in_nI (by omega) (by omega)) dX2_reckonWeek_19 ?_
        refine v_gNuN C (by omega) 2 (by decide) (List.mem_of_getElem? (i := 1) rfl) rfl dX2_reckonWeek_20 ?_
        refine v_aaFk C ((N9 (12 * t + i) 2).toNatClampNeg) ht rfl (hK9 i hic).2 dX2_reckonWeek_23 ?_
        refine v_astore_n (lv' := [(2, .ref (rF P (4 * t + ((N9 (12 * t + i) 2).toNatClampNeg)))), (1, .int (nI i)), (0, .ref (rT P t))]) C dX2_reckonWeek_24 rfl (by decide) rfl ?_
        refine v_aload_n C 0 dX2_reckonWeek_25 rfl ?_
        refine v_aload_n C 2 dX2_reckonWeek_26 rfl ?_
        refine v_gTu C ht 2 (by decide) k_411 rfl dX2_reckonWeek_27 ?_
        refine v_iload_n C 1 dX2_reckonWeek_30 rfl ?_
        refine v_aaNk C i ht (nI_clamp (by omega)) (vp_in_nI (by omega) (by omega)) dX2_reckonWeek_31 ?_
        refine go_V (run_VN C (u_X0_buyBags (by omega) (by omega)) k_235 k_4 (List.mem_of_getElem? (i := 12) rfl) k_233 ks_17 dd_X0_buyBags ⟨Nat.le_of_ble_eq_true rfl, Nat.le_of_ble_eq_true rfl⟩ (rcF (by omega)) rfl (Nat.le_of_ble_eq_true rfl) dX2_reckonWeek_32 ⟨Nat.le_of_ble_eq_true rfl, Nat.le_of_ble_eq_true rfl⟩) ?_
        refine v_aload_n C 0 dX2_reckonWeek_35 rfl ?_
        refine v_aload_n C 2 dX2_reckonWeek_36 rfl ?_
        refine v_gTu C ht 2 (by decide) k_411 rfl dX2_reckonWeek_37 ?_
        refine v_iload_n C 1 dX2_reckonWeek_40 rfl ?_
        refine v_aaNk C i ht (nI_clamp (by omega)) (vp_in_nI (by omega) (by omega)) dX2_reckonWeek_41 ?_
        refine go_V (run_VN C (c_X0_collectDebt (by omega) (by omega)) k_241 k_4 (List.mem_of_getElem? (i := 13) rfl) k_240 ks_18 dd_X0_collectDebt ⟨Nat.le_of_ble_eq_true rfl, Nat.le_of_ble_eq_true rfl⟩ (rcF (by omega)) rfl (Nat.le_of_ble_eq_true rfl) dX2_reckonWeek_42 ⟨Nat.le_of_ble_eq_true rfl, Nat.le_of_ble_eq_true rfl⟩) ?_
        refine v_iinc (b := (nI (i + 1))) (lv' := [(1, .int (nI (i + 1))), (2, .ref (rF P (4 * t + ((N9 (12 * t + i) 2).toNatClampNeg)))), (0, .ref (rT P t))]) C 1 dX2_reckonWeek_45 rfl (nI_1 _) (by decide) rfl ?_
        refine v_goto (tgt := 2) C dX2_reckonWeek_48 (by decide) ?_
        refine v_lv [0, 2] rfl ?_
        have e9 : rkN (n + 1) c (12 * t) (4 * t) i N9 F9 = rkN n c (12 * t) (4 * t) (i + 1) (rk1 N9 F9 (12 * t + i) (4 * t + (N9 (12 * t + i) 2).toNatClampNeg)).1 (rk1 N9 F9 (12 * t + i) (4 * t + (N9 (12 * t + i) 2).toNatClampNeg)).2 := by rw [rkN, if_neg (by omega)]
        rw [e9] at hk9
        exact ih _ _ _ (by omega) (by omega) (KF_up hK9 (by rw [colV_k (by omega), buyB_k (by omega)]) (by rw [colV_k (by omega), buyB_k (by omega)])) hk9
  refine L_1 (c + 1) 0 N F (by omega) (by omega) hKF ?_
  refine v_iconst (v := 0) C dX2_reckonWeek_51 rfl ?_
  refine v_istore_n (lv' := [(1, .int 0), (0, .ref (rT P t))]) C dX2_reckonWeek_52 rfl (by decide) rfl ?_
  refine v_iload_n C 0 dX2_reckonWeek_53 rfl ?_
  refine v_iconst (v := 4) C dX2_reckonWeek_54 rfl ?_
  refine v_icmp_ge (tgt := 73) C dX2_reckonWeek_55 (by decide) (fun h9 => absurd h9 (by decide)) (fun _ => ?_)
  refine v_aload_n C 1 dX2_reckonWeek_58 rfl ?_
  refine v_gTu C ht 3 (by decide) k_413 rfl dX2_reckonWeek_59 ?_
  refine v_iload_n C 0 dX2_reckonWeek_62 rfl ?_
  refine v_aaFk C 0 ht tn_0 in4_0 dX2_reckonWeek_63 ?_
  refine go_V (run_VN C (u_X0_deliver (by omega)) k_246 k_4 (List.mem_of_getElem? (i := 14) rfl) k_245 ks_19 dd_X0_deliver ⟨Nat.le_of_ble_eq_true rfl, Nat.le_of_ble_eq_true rfl⟩ (rcF (by omega)) rfl (Nat.le_of_ble_eq_true rfl) dX2_reckonWeek_64 ⟨Nat.le_of_ble_eq_true rfl, Nat.le_of_ble_eq_true rfl⟩) ?_
  refine v_iinc (b := 1) (lv' := [(1, .int 1), (0, .ref (rT P t))]) C 0 dX2_reckonWeek_67 rfl rfl (by decide) rfl ?_
  refine v_goto (tgt := 53) C dX2_reckonWeek_70 (by decide) ?_
  refine v_iload_n C 0 dX2_reckonWeek_53 rfl ?_
  refine v_iconst (v := 4) C dX2_reckonWeek_54 rfl ?_
  refine v_icmp_ge (tgt := 73) C dX2_reckonWeek_55 (by decide) (fun h9 => absurd h9 (by decide)) (fun _ => ?_)
  refine v_aload_n C 1 dX2_reckonWeek_58 rfl ?_
  refine v_gTu C ht 3 (by decide) k_413 rfl dX2_reckonWeek_59 ?_
  refine v_iload_n C 0 dX2_reckonWeek_62 rfl ?_
  refine v_aaFk C 1 ht tn_1 in4_1 dX2_reckonWeek_63 ?_
  refine go_V (run_VN C (u_X0_deliver (by omega)) k_246 k_4 (List.mem_of_getElem? (i := 14) rfl) k_245 ks_19 dd_X0_deliver ⟨Nat.le_of_ble_eq_true rfl, Nat.le_of_ble_eq_true rfl⟩ (rcF (by omega)) rfl (Nat.le_of_ble_eq_true rfl) dX2_reckonWeek_64 ⟨Nat.le_of_ble_eq_true rfl, Nat.le_of_ble_eq_true rfl⟩) ?_
  refine v_iinc (b := 2) (lv' := [(1, .int 2), (0, .ref (rT P t))]) C 0 dX2_reckonWeek_67 rfl rfl (by decide) rfl ?_
  refine v_goto (tgt := 53) C dX2_reckonWeek_70 (by decide) ?_
  refine v_iload_n C 0 dX2_reckonWeek_53 rfl ?_
  refine v_iconst (v := 4) C dX2_reckonWeek_54 rfl ?_
  refine v_icmp_ge (tgt := 73) C dX2_reckonWeek_55 (by decide) (fun h9 => absurd h9 (by decide)) (fun _ => ?_)
  refine v_aload_n C 1 dX2_reckonWeek_58 rfl ?_
  refine v_gTu C ht 3 (by decide) k_413 rfl dX2_reckonWeek_59 ?_
  refine v_iload_n C 0 dX2_reckonWeek_62 rfl ?_
  refine v_aaFk C 2 ht tn_2 in4_2 dX2_reckonWeek_63 ?_
  refine go_V (run_VN C (u_X0_deliver (by omega)) k_246 k_4 (List.mem_of_getElem? (i := 14) rfl) k_245 ks_19 dd_X0_deliver ⟨Nat.le_of_ble_eq_true rfl, Nat.le_of_ble_eq_true rfl⟩ (rcF (by omega)) rfl (Nat.le_of_ble_eq_true rfl) dX2_reckonWeek_64 ⟨Nat.le_of_ble_eq_true rfl, Nat.le_of_ble_eq_true rfl⟩) ?_
  refine v_iinc (b := 3) (lv' := [(1, .int 3), (0, .ref (rT P t))]) C 0 dX2_reckonWeek_67 rfl rfl (by decide) rfl ?_
  refine v_goto (tgt := 53) C dX2_reckonWeek_70 (by decide) ?_
  refine v_iload_n C 0 dX2_reckonWeek_53 rfl ?_
  refine v_iconst (v := 4) C dX2_reckonWeek_54 rfl ?_
  refine v_icmp_ge (tgt := 73) C dX2_reckonWeek_55 (by decide) (fun h9 => absurd h9 (by decide)) (fun _ => ?_)
  refine v_aload_n C 1 dX2_reckonWeek_58 rfl ?_
  refine v_gTu C ht 3 (by decide) k_413 rfl dX2_reckonWeek_59 ?_
  refine v_iload_n C 0 dX2_reckonWeek_62 rfl ?_
  refine v_aaFk C 3 ht tn_3 in4_3 dX2_reckonWeek_63 ?_
  refine go_V (run_VN C (u_X0_deliver (by omega)) k_246 k_4 (List.mem_of_getElem? (i := 14) rfl) k_245 ks_19 dd_X0_deliver ⟨Nat.le_of_ble_eq_true rfl, Nat.le_of_ble_eq_true rfl⟩ (rcF (by omega)) rfl (Nat.le_of_ble_eq_true rfl) dX2_reckonWeek_64 ⟨Nat.le_of_ble_eq_true rfl, Nat.le_of_ble_eq_true rfl⟩) ?_
  refine v_iinc (b := 4) (lv' := [(1, .int 4), (0, .ref (rT P t))]) C 0 dX2_reckonWeek_67 rfl rfl (by decide) rfl ?_
  refine v_goto (tgt := 53) C dX2_reckonWeek_70 (by decide) ?_
  refine v_iload_n C 0 dX2_reckonWeek_53 rfl ?_
  refine v_iconst (v := 4) C dX2_reckonWeek_54 rfl ?_
  refine v_icmp_ge (tgt := 73) C dX2_reckonWeek_55 (by decide) (fun _ => ?_) (fun h9 => absurd (by decide) h9)
  exact v_vret C dX2_reckonWeek_73 rfl
set_option maxHeartbeats 4000000 in
set_option maxRecDepth 100000 in
theorem c_X2_goByOne {l : Launch} {P : L5} {D : va_G} {N F T : Nat → Nat → Int32} {K : Nat → Int32} {A : Nat → Nat → Int32} {w : Int64} {t : Nat} (ht : t < 2) {c : Nat} (hc : T t 1 = nI c) (h12 : c ≤ 12) (hKF : KF N (12 * t) c) : CtI l yX2_goByOne cX2_goByOne 3 .int 4 0 0 P D (nW P) (nW P) False (cw P N F T K A w) (cw P (hourN c (12 * t) (4 * t) (T t 0) N F).1 (hourN c (12 * t) (4 * t) (T t 0) N F).2 (hourT T t) K A w) [.ref (rT P t)] (hourG c (12 * t) N) := by
  refine mk_Met pl_X2 [(0, .ref (rT P t))] rfl (Nat.le_of_ble_eq_true rfl) ?_
  intro pg en sg mg ag bg mt cd C
  refine v_iconst (v := 0) C dX2_goByOne_0 rfl ?_
  refine v_istore_n (lv' := [(1, .int 0), (0, .ref (rT P t))]) C dX2_goByOne_1 rfl (by decide) rfl ?_
  refine v_iconst (v := 0) C dX2_goByOne_2 rfl ?_
  refine v_istore_n (lv' := [(2, .int 0), (1, .int 0), (0, .ref (rT P t))]) C dX2_goByOne_3 rfl (by decide) rfl ?_
  have L_1 : ∀ (n : Nat) (i : Nat) (N9 : Nat → Nat → Int32) (sm : Int32), i ≤ c → c < i + n → KF N9 (12 * t) c → V pg l en (rmO 4 0 0) sg mg ag bg mt cd P D (MQ bg (QcI P D (nW P) False (cw P (hourN c (12 * t) (4 * t) (T t 0) N F).1 (hourN c (12 * t) (4 * t) (T t 0) N F).2 (hourT T t) K A w) (hourG c (12 * t) N)) ag sg 0 0 (aO P)) 3 (nW P) False (cw P (goN n c (12 * t) i N9 sm).1 F T K A w) 0 0 30 [(1, .int ((goN n c (12 * t) i N9 sm).2)), (0, .ref (rT P t))] [] → V pg l en (rmO 4 0 0) sg mg ag bg mt cd P D (MQ bg (QcI P D (nW P) False (cw P (hourN c (12 * t) (4 * t) (T t 0) N F).1 (hourN c (12 * t) (4 * t) (T t 0) N F).2 (hourT T t) K A w) (hourG c (12 * t) N)) ag sg 0 0 (aO P)) 3 (nW P) False (cw P N9 F T K A w) 0 0 4 [(2, .int (nI i)), (1, .int sm), (0, .ref (rT P t))] [] := by
    intro n
    induction n with
    | zero => intro i N9 sm h1 h2; omega
    | succ n ih =>
      intro i N9 sm h1 h2 hK9 hk9
      refine v_iload_n C 0 dX2_goByOne_4 rfl ?_
      refine v_aload_n C 2 dX2_goByOne_5 rfl ?_
      refine v_gTu C ht 1 (by decide) k_409 rfl dX2_goByOne_6 ?_
      refine v_icmp_ge (tgt := 30) C dX2_goByOne_9 (by decide) (fun h9_1 => ?_) (fun h9_1 => ?_)
      · refine v_lv [1, 2] rfl ?_
        have hic : c ≤ i := (leC hc h12 h1).mp h9_1
        have e9 : goN (n + 1) c (12 * t) i N9 sm = (N9, sm) := by rw [goN, if_pos hic]
        rw [e9] at hk9
        exact hk9
      · have hic : i < c := Nat.not_le.mp (fun q => h9_1 ((leC hc h12 h1).mpr q))
        refine v_iload_n C 1 dX2_goByOne_12 rfl ?_
        refine v_aload_n C 2 dX2_goByOne_13 rfl ?_
        refine v_gTu C ht 2 (by decide) k_411 rfl dX2_goByOne_14 ?_
        refine v_iload_n C 0 dX2_goByOne_17 rfl ?_
        refine v_aaNk C i ht (nI_clamp (by omega)) (vp_in_nI (by omega) (by omega)) dX2_goByOne_18 ?_
        refine go_I (run_VN C (u_X1_workHour (by omega) (hK9 i hic).1) k_202 k_3 (List.mem_of_getElem? (i := 11) rfl) k_201 ks_11 dd_X1_workHour ⟨Nat.le_of_ble_eq_true rfl, Nat.le_of_ble_eq_true rfl⟩ (rcN (by omega)) rfl (Nat.le_of_ble_eq_true rfl) dX2_goByOne_19 ⟨Nat.le_of_ble_eq_true rfl, Nat.le_of_ble_eq_true rfl⟩) ?_
        refine v_iadd C dX2_goByOne_22 ?_
        refine v_top (fun x_1 ex_1 => ?_)
        refine v_istore_n (lv' := [(1, .int x_1), (2, .int (nI i)), (0, .ref (rT P t))]) C dX2_goByOne_23 rfl (by decide) rfl ?_
        refine v_iinc (b := (nI (i + 1))) (lv' := [(2, .int (nI (i + 1))), (1, .int x_1), (0, .ref (rT P t))]) C 1 dX2_goByOne_24 rfl (nI_1 _) (by decide) rfl ?_
        refine v_goto (tgt := 4) C dX2_goByOne_27 (by decide) ?_
        have e9 : goN (n + 1) c (12 * t) i N9 sm = goN n c (12 * t) (i + 1) (va_up N9 (12 * t + i) (workH (N9 (12 * t + i))).1) (sm + (workH (N9 (12 * t + i))).2) := by rw [goN, if_neg (by omega)]
        rw [e9] at hk9
        subst ex_1
        exact ih _ _ _ (by omega) (by omega) (KF_up hK9 (workH_1 _) (workH_2 _)) hk9
  refine L_1 (c + 1) 0 N 0 (by omega) (by omega) hKF ?_
  refine v_aload_n C 1 dX2_goByOne_30 rfl ?_
  refine v_gTu C ht 0 (by decide) k_408 rfl dX2_goByOne_31 ?_
  refine v_bipush (v := 48) C dX2_goByOne_34 rfl ?_
  refine v_irem C dX2_goByOne_36 (by decide) ?_
  refine v_bipush (v := 47) C dX2_goByOne_37 rfl ?_
  refine v_icmp_ne (tgt := 46) C dX2_goByOne_39 (by decide) (fun h39_1 => ?_) (fun h39_1 => ?_)
  · refine v_eq (f' := (cw P (goN (c + 1) c (12 * t) 0 N 0).1 F (va_up T t (T t)) K A w)) (by rw [va_up_eta]) ?_
    refine v_aload_n C 1 dX2_goByOne_46 rfl ?_
    refine v_dup C dX2_goByOne_47 rfl ?_
    refine v_gT C ht 0 (by decide) k_408 rfl dX2_goByOne_48 ?_
    refine v_iconst (v := 1) C dX2_goByOne_51 rfl ?_
    refine v_iadd C dX2_goByOne_52 ?_
    refine v_pT C ht 0 (by decide) k_408 dX2_goByOne_53 ?_
    refine v_iload_n C 0 dX2_goByOne_56 rfl ?_
    exact v_iret C dX2_goByOne_57 (by rw [hourN, if_neg (by exact h39_1)]; rfl) rfl
  · refine v_aload_n C 1 dX2_goByOne_42 rfl ?_
    refine go_V (run_V C (c_X2_reckonWeek ht hc h12 (KF_goN _ _ _ _ hKF)) k_230 k_2 k_227 k_229 ks_16 dd_X2_reckonWeek ⟨Nat.le_of_ble_eq_true rfl, Nat.le_of_ble_eq_true rfl⟩ (rcT ht) rfl (Nat.le_of_ble_eq_true rfl) dX2_goByOne_43 ⟨Nat.le_of_ble_eq_true rfl, Nat.le_of_ble_eq_true rfl⟩) ?_
    refine v_eq (f' := (cw P (weekR c (12 * t) (4 * t) (goN (c + 1) c (12 * t) 0 N 0).1 F).1 (weekR c (12 * t) (4 * t) (goN (c + 1) c (12 * t) 0 N 0).1 F).2 (va_up T t (T t)) K A w)) (by rw [va_up_eta]) ?_
    refine v_aload_n C 1 dX2_goByOne_46 rfl ?_
    refine v_dup C dX2_goByOne_47 rfl ?_
    refine v_gT C ht 0 (by decide) k_408 rfl dX2_goByOne_48 ?_
    refine v_iconst (v := 1) C dX2_goByOne_51 rfl ?_
    refine v_iadd C dX2_goByOne_52 ?_
    refine v_pT C ht 0 (by decide) k_408 dX2_goByOne_53 ?_
    refine v_iload_n C 0 dX2_goByOne_56 rfl ?_
    exact v_iret C dX2_goByOne_57 (by rw [hourN, if_pos (by exact h39_1)]; rfl) rfl
set_option maxHeartbeats 4000000 in
set_option maxRecDepth 100000 in
theorem c_X2_goBy {l : Launch} {P : L5} {D : va_G} {N F T : Nat → Nat → Int32} {K : Nat → Int32} {A : Nat → Nat → Int32} {w : Int64} {t : Nat} (ht : t < 2) {c : Nat} (hc : T t 1 = nI c) (h12 : c ≤ 12) (hKF : KF N (12 * t) c) {h : Int32} : CtI l yX2_goBy cX2_goBy 4 .int 5 0 0 P D (nW P) (nW P) False (cw P N F T K A w) (cw P (goB (fuel h 0) h 0 c t N F T 0).1 (goB (fuel h 0) h 0 c t N F T 0).2.1 (goB (fuel h 0) h 0 c t N F T 0).2.2.1 K A w) [.ref (rT P t), .int h] (goB (fuel h 0) h 0 c t N F T 0).2.2.2 := by
  refine mk_Met pl_X2 [(0, .ref (rT P t)), (1, .int h)] rfl (Nat.le_of_ble_eq_true rfl) ?_
  intro pg en sg mg ag bg mt cd C
  refine v_iconst (v := 0) C dX2_goBy_0 rfl ?_
  refine v_istore_n (lv' := [(2, .int 0), (0, .ref (rT P t)), (1, .int h)]) C dX2_goBy_1 rfl (by decide) rfl ?_
  refine v_iconst (v := 0) C dX2_goBy_2 rfl ?_
  refine v_istore_n (lv' := [(3, .int 0), (2, .int 0), (0, .ref (rT P t)), (1, .int h)]) C dX2_goBy_3 rfl (by decide) rfl ?_
  have L_1 : ∀ (n : Nat) (i : Int32) (N9 F9 T9 : Nat → Nat → Int32) (sm : Int32), fuel h i ≤ n → T9 t 1 = nI c → KF N9 (12 * t) c → V pg l en (rmO 5 0 0) sg mg ag bg mt cd P D (MQ bg (QcI P D (nW P) False (cw P (goB (fuel h 0) h 0 c t N F T 0).1 (goB (fuel h 0) h 0 c t N F T 0).2.1 (goB (fuel h 0) h 0 c t N F T 0).2.2.1 K A w) (goB (fuel h 0) h 0 c t N F T 0).2.2.2) ag sg 0 0 (aO P)) 4 (nW P) False (cw P (goB n h i c t N9 F9 T9 sm).1 (goB n h i c t N9 F9 T9 sm).2.1 (goB n h i c t N9 F9 T9 sm).2.2.1 K A w) 0 0 22 [(2, .int ((goB n h i c t N9 F9 T9 sm).2.2.2))] [] → V pg l en (rmO 5 0 0) sg mg ag bg mt cd P D (MQ bg (QcI P D (nW P) False (cw P (goB (fuel h 0) h 0 c t N F T 0).1 (goB (fuel h 0) h 0 c t N F T 0).2.1 (goB (fuel h 0) h 0 c t N F T 0).2.2.1 K A w) (goB (fuel h 0) h 0 c t N F T 0).2.2.2) ag sg 0 0 (aO P)) 4 (nW P) False (cw P N9 F9 T9 K A w) 0 0 4 [(3, .int i), (2, .int sm), (0, .ref (rT P t)), (1, .int h)] [] := by
    intro n
    induction n with
    | zero => intro i N9 F9 T9 sm h9; exact absurd h9 (by unfold fuel; omega)
    | succ n ih =>
      intro i N9 F9 T9 sm h9 hc9 hK9 hk9
      refine v_iload_n C 0 dX2_goBy_4 rfl ?_
      refine v_iload_n C 3 dX2_goBy_5 rfl ?_
      refine v_icmp_ge (tgt := 22) C dX2_goBy_6 (by decide) (fun h6_1 => ?_) (fun h6_1 => ?_)
      · refine v_lv [1] rfl ?_
        have e9 : goB (n + 1) h i c t N9 F9 T9 sm = (N9, F9, T9, sm) := by rw [goB, if_pos h6_1]
        rw [e9] at hk9
        exact hk9
      · refine v_iload_n C 1 dX2_goBy_9 rfl ?_
        refine v_aload_n C 2 dX2_goBy_10 rfl ?_
        refine go_I (run_V C (c_X2_goByOne ht hc9 h12 hK9) k_198 k_2 k_195 k_197 ks_10 dd_X2_goByOne ⟨Nat.le_of_ble_eq_true rfl, Nat.le_of_ble_eq_true rfl⟩ (rcT ht) rfl (Nat.le_of_ble_eq_true rfl) dX2_goBy_11 ⟨Nat.le_of_ble_eq_true rfl, Nat.le_of_ble_eq_true rfl⟩) ?_
        refine v_iadd C dX2_goBy_14 ?_
        refine v_top (fun x_1 ex_1 => ?_)
        refine v_istore_n (lv' := [(2, .int x_1), (3, .int i), (0, .ref (rT P t)), (1, .int h)]) C dX2_goBy_15 rfl (by decide) rfl ?_
        obtain ⟨x_2, ex_2⟩ : ∃ y : Int32, y = i + 1 := ⟨_, rfl⟩
        refine v_iinc (b := x_2) (lv' := [(3, .int x_2), (2, .int x_1), (0, .ref (rT P t)), (1, .int h)]) C 1 dX2_goBy_16 rfl (by rw [ex_2]; rfl) (by decide) rfl ?_
        refine v_goto (tgt := 4) C dX2_goBy_19 (by decide) ?_
        have e9 : goB (n + 1) h i c t N9 F9 T9 sm = goB n h (i + 1) c t (hourN c (12 * t) (4 * t) (T9 t 0) N9 F9).1 (hourN c (12 * t) (4 * t) (T9 t 0) N9 F9).2 (hourT T9 t) (sm + hourG c (12 * t) N9) := by rw [goB, if_neg h6_1]
        rw [e9] at hk9
        subst ex_1 ex_2
        exact ih _ _ _ _ _ (fuel_step h9 h6_1) (by unfold hourT; rw [va_up_self]; exact hc9) (KF_hour hK9) hk9
  refine L_1 (fuel h 0) 0 N F T 0 (Nat.le_refl _) hc hKF ?_
  refine v_iload_n C 0 dX2_goBy_22 rfl ?_
  exact v_iret C dX2_goBy_23 rfl rfl
set_option maxHeartbeats 4000000 in
set_option maxRecDepth 100000 in
theorem c_X2_warehouseBags {l : Launch} {P : L5} {D : va_G} {N F T : Nat → Nat → Int32} {K : Nat → Int32} {A : Nat → Nat → Int32} {w : Int64} {t : Nat} (ht : t < 2) : CtI l yX2_warehouseBags cX2_warehouseBags 3 .int 1 0 0 P D (nW P) (nW P) False (cw P N F T K A w) (cw P N F T K A w) [.ref (rT P t)] (boughtF F (4 * t)) := by
  refine mk_Met pl_X2 [(0, .ref (rT P t))] rfl (Nat.le_of_ble_eq_true rfl) ?_
  intro pg en sg mg ag bg mt cd C
  refine v_iconst (v := 0) C dX2_warehouseBags_0 rfl ?_
  refine v_istore_n (lv' := [(1, .int 0), (0, .ref (rT P t))]) C dX2_warehouseBags_1 rfl (by decide) rfl ?_
  refine v_iconst (v := 0) C dX2_warehouseBags_2 rfl ?_
  refine v_istore_n (lv' := [(2, .int 0), (1, .int 0), (0, .ref (rT P t))]) C dX2_warehouseBags_3 rfl (by decide) rfl ?_
  refine v_iload_n C 0 dX2_warehouseBags_4 rfl ?_
  refine v_iconst (v := 4) C dX2_warehouseBags_5 rfl ?_
  refine v_icmp_ge (tgt := 27) C dX2_warehouseBags_6 (by decide) (fun h9 => absurd h9 (by decide)) (fun _ => ?_)
  refine v_iload_n C 1 dX2_warehouseBags_9 rfl ?_
  refine v_aload_n C 2 dX2_warehouseBags_10 rfl ?_
  refine v_gTu C ht 3 (by decide) k_413 rfl dX2_warehouseBags_11 ?_
  refine v_iload_n C 0 dX2_warehouseBags_14 rfl ?_
  refine v_aaFk C 0 ht tn_0 in4_0 dX2_warehouseBags_15 ?_
  refine v_gFuN C (by omega) 2 (by decide) (List.mem_of_getElem? (i := 16) rfl) rfl dX2_warehouseBags_16 ?_
  refine v_iadd C dX2_warehouseBags_19 ?_
  refine v_top (fun x_1 ex_1 => ?_)
  refine v_istore_n (lv' := [(1, .int x_1), (2, .int 0), (0, .ref (rT P t))]) C dX2_warehouseBags_20 rfl (by decide) rfl ?_
  refine v_iinc (b := 1) (lv' := [(2, .int 1), (1, .int x_1), (0, .ref (rT P t))]) C 1 dX2_warehouseBags_21 rfl rfl (by decide) rfl ?_
  refine v_goto (tgt := 4) C dX2_warehouseBags_24 (by decide) ?_
  refine v_iload_n C 0 dX2_warehouseBags_4 rfl ?_
  refine v_iconst (v := 4) C dX2_warehouseBags_5 rfl ?_
  refine v_icmp_ge (tgt := 27) C dX2_warehouseBags_6 (by decide) (fun h9 => absurd h9 (by decide)) (fun _ => ?_)
  refine v_iload_n C 1 dX2_warehouseBags_9 rfl ?_
  refine v_aload_n C 2 dX2_warehouseBags_10 rfl ?_
  refine v_gTu C ht 3 (by decide) k_413 rfl dX2_warehouseBags_11 ?_
  refine v_iload_n C 0 dX2_warehouseBags_14 rfl ?_
  refine v_aaFk C 1 ht tn_1 in4_1 dX2_warehouseBags_15 ?_
  refine v_gFuN C (by omega) 2 (by decide) (List.mem_of_getElem? (i := 16) rfl) rfl dX2_warehouseBags_16 ?_
  refine v_iadd C dX2_warehouseBags_19 ?_
  refine v_top (fun x_2 ex_2 => ?_)
  refine v_istore_n (lv' := [(1, .int x_2), (2, .int 1), (0, .ref (rT P t))]) C dX2_warehouseBags_20 rfl (by decide) rfl ?_
  refine v_iinc (b := 2) (lv' := [(2, .int 2), (1, .int x_2), (0, .ref (rT P t))]) C 1 dX2_warehouseBags_21 rfl rfl (by decide) rfl ?_
  refine v_goto (tgt := 4) C dX2_warehouseBags_24 (by decide) ?_
  refine v_iload_n C 0 dX2_warehouseBags_4 rfl ?_
  refine v_iconst (v := 4) C dX2_warehouseBags_5 rfl ?_
  refine v_icmp_ge (tgt := 27) C dX2_warehouseBags_6 (by decide) (fun h9 => absurd h9 (by decide)) (fun _ => ?_)
  refine v_iload_n C 1 dX2_warehouseBags_9 rfl ?_
  refine v_aload_n C 2 dX2_warehouseBags_10 rfl ?_
  refine v_gTu C ht 3 (by decide) k_413 rfl dX2_warehouseBags_11 ?_
  refine v_iload_n C 0 dX2_warehouseBags_14 rfl ?_
  refine v_aaFk C 2 ht tn_2 in4_2 dX2_warehouseBags_15 ?_
  refine v_gFuN C (by omega) 2 (by decide) (List.mem_of_getElem? (i := 16) rfl) rfl dX2_warehouseBags_16 ?_
  refine v_iadd C dX2_warehouseBags_19 ?_
  refine v_top (fun x_3 ex_3 => ?_)
  refine v_istore_n (lv' := [(1, .int x_3), (2, .int 2), (0, .ref (rT P t))]) C dX2_warehouseBags_20 rfl (by decide) rfl ?_
  refine v_iinc (b := 3) (lv' := [(2, .int 3), (1, .int x_3), (0, .ref (rT P t))]) C 1 dX2_warehouseBags_21 rfl rfl (by decide) rfl ?_
  refine v_goto (tgt := 4) C dX2_warehouseBags_24 (by decide) ?_
  refine v_iload_n C 0 dX2_warehouseBags_4 rfl ?_
  refine v_iconst (v := 4) C dX2_warehouseBags_5 rfl ?_
  refine v_icmp_ge (tgt := 27) C dX2_warehouseBags_6 (by decide) (fun h9 => absurd h9 (by decide)) (fun _ => ?_)
  refine v_iload_n C 1 dX2_warehouseBags_9 rfl ?_
  refine v_aload_n C 2 dX2_warehouseBags_10 rfl ?_
  refine v_gTu C ht 3 (by decide) k_413 rfl dX2_warehouseBags_11 ?_
  refine v_iload_n C 0 dX2_warehouseBags_14 rfl ?_
  refine v_aaFk C 3 ht tn_3 in4_3 dX2_warehouseBags_15 ?_
  refine v_gFuN C (by omega) 2 (by decide) (List.mem_of_getElem? (i := 16) rfl) rfl dX2_warehouseBags_16 ?_
  refine v_iadd C dX2_warehouseBags_19 ?_
  refine v_top (fun x_4 ex_4 => ?_)
  refine v_istore_n (lv' := [(1, .int x_4), (2, .int 3), (0, .ref (rT P t))]) C dX2_warehouseBags_20 rfl (by decide) rfl ?_
  refine v_iinc (b := 4) (lv' := [(2, .int 4), (1, .int x_4), (0, .ref (rT P t))]) C 1 dX2_warehouseBags_21 rfl rfl (by decide) rfl ?_
  refine v_goto (tgt := 4) C dX2_warehouseBags_24 (by decide) ?_
  refine v_iload_n C 0 dX2_warehouseBags_4 rfl ?_
  refine v_iconst (v := 4) C dX2_warehouseBags_5 rfl ?_
  refine v_icmp_ge (tgt := 27) C dX2_warehouseBags_6 (by decide) (fun _ => ?_) (fun h9 => absurd (by decide) h9)
  refine v_iload_n C 1 dX2_warehouseBags_27 rfl ?_
  exact v_iret C dX2_warehouseBags_28 rfl (by subst ex_1 ex_2 ex_3 ex_4; rfl)
set_option maxHeartbeats 4000000 in
set_option maxRecDepth 100000 in
theorem c_X2_sumOfShares_2 {l : Launch} {P : L5} {D : va_G} {N F T : Nat → Nat → Int32} {K : Nat → Int32} {A : Nat → Nat → Int32} {w : Int64} {t : Nat} (ht : t < 2) {c : Nat} (hc : T t 1 = nI c) (h12 : c ≤ 12) : CtI l yX2_sumOfShares cX2_sumOfShares 4 .int 3 0 0 P D (nW P) (nW P) False (cw P N F T K A w) (cw P N F T K A w) [.ref (rT P t), .int 2] (shS (c + 1) 2 c (12 * t) 0 N 0) := by
  refine mk_Met pl_X2 [(0, .ref (rT P t)), (1, .int 2)] rfl (Nat.le_of_ble_eq_true rfl) ?_
  intro pg en sg mg ag bg mt cd C
  refine v_iconst (v := 0) C dX2_sumOfShares_0 rfl ?_
  refine v_istore_n (lv' := [(2, .int 0), (0, .ref (rT P t)), (1, .int 2)]) C dX2_sumOfShares_1 rfl (by decide) rfl ?_
  refine v_iconst (v := 0) C dX2_sumOfShares_2 rfl ?_
  refine v_istore_n (lv' := [(3, .int 0), (2, .int 0), (0, .ref (rT P t)), (1, .int 2)]) C dX2_sumOfShares_3 rfl (by decide) rfl ?_
  have L_1 : ∀ (n : Nat) (i : Nat) (sm : Int32), i ≤ c → c < i + n → V pg l en (rmO 3 0 0) sg mg ag bg mt cd P D (MQ bg (QcI P D (nW P) False (cw P N F T K A w) (shS (c + 1) 2 c (12 * t) 0 N 0)) ag sg 0 0 (aO P)) 4 (nW P) False (cw P N F T K A w) 0 0 31 [(2, .int (shS n 2 c (12 * t) i N sm))] [] → V pg l en (rmO 3 0 0) sg mg ag bg mt cd P D (MQ bg (QcI P D (nW P) False (cw P N F T K A w) (shS (c + 1) 2 c (12 * t) 0 N 0)) ag sg 0 0 (aO P)) 4 (nW P) False (cw P N F T K A w) 0 0 4 [(3, .int (nI i)), (2, .int sm), (0, .ref (rT P t)), (1, .int 2)] [] := by
    intro n
    induction n with
    | zero => intro i sm h1 h2; omega
    | succ n ih =>
      intro i sm h1 h2 hk9
      refine v_iload_n C 0 dX2_sumOfShares_4 rfl ?_
      refine v_aload_n C 2 dX2_sumOfShares_5 rfl ?_
      refine v_gTu C ht 1 (by decide) k_409 rfl dX2_sumOfShares_6 ?_
      refine v_icmp_ge (tgt := 31) C dX2_sumOfShares_9 (by decide) (fun h9_1 => ?_) (fun h9_1 => ?_)
      · refine v_lv [1] rfl ?_
        have hic : c ≤ i := (leC hc h12 h1).mp h9_1
        have e9 : shS (n + 1) 2 c (12 * t) i N sm = sm := by rw [shS, if_pos hic]
        rw [e9] at hk9
        exact hk9
      · have hic : i < c := Nat.not_le.mp (fun q => h9_1 ((leC hc h12 h1).mpr q))
        refine v_iload_n C 1 dX2_sumOfShares_12 rfl ?_
        refine v_aload_n C 2 dX2_sumOfShares_13 rfl ?_
        refine v_gTu C ht 2 (by decide) k_411 rfl dX2_sumOfShares_14 ?_
        refine v_iload_n C 0 dX2_sumOfShares_17 rfl ?_
        refine v_aaNk C i ht (nI_clamp (by omega)) (vp_in_nI (by omega) (by omega)) dX2_sumOfShares_18 ?_
        refine v_iload_n C 3 dX2_sumOfShares_19 rfl ?_
        refine go_I (run_VN C (c_X1_shareOfTotal_2 (by omega)) k_183 k_3 (List.mem_of_getElem? (i := 5) rfl) k_182 ks_8 dd_X1_shareOfTotal ⟨Nat.le_of_ble_eq_true rfl, Nat.le_of_ble_eq_true rfl⟩ (rcN (by omega)) rfl (Nat.le_of_ble_eq_true rfl) dX2_sumOfShares_20 ⟨Nat.le_of_ble_eq_true rfl, Nat.le_of_ble_eq_true rfl⟩) ?_
        refine v_iadd C dX2_sumOfShares_23 ?_
        refine v_top (fun x_1 ex_1 => ?_)
        refine v_istore_n (lv' := [(2, .int x_1), (3, .int (nI i)), (0, .ref (rT P t)), (1, .int 2)]) C dX2_sumOfShares_24 rfl (by decide) rfl ?_
        refine v_iinc (b := (nI (i + 1))) (lv' := [(3, .int (nI (i + 1))), (2, .int x_1), (0, .ref (rT P t)), (1, .int 2)]) C 1 dX2_sumOfShares_25 rfl (nI_1 _) (by decide) rfl ?_
        refine v_goto (tgt := 4) C dX2_sumOfShares_28 (by decide) ?_
        have e9 : shS (n + 1) 2 c (12 * t) i N sm = shS n 2 c (12 * t) (i + 1) N (sm + share (N (12 * t + i)) 2) := by rw [shS, if_neg (by omega)]
        rw [e9] at hk9
        subst ex_1
        exact ih _ _ (by omega) (by omega) hk9
  refine L_1 (c + 1) 0 0 (by omega) (by omega) ?_
  refine v_iload_n C 0 dX2_sumOfShares_31 rfl ?_
  exact v_iret C dX2_sumOfShares_32 rfl rfl
set_option maxHeartbeats 4000000 in
set_option maxRecDepth 100000 in
theorem c_X2_sumOfShares_3 {l : Launch} {P : L5} {D : va_G} {N F T : Nat → Nat → Int32} {K : Nat → Int32} {A : Nat → Nat → Int32} {w : Int64} {t : Nat} (ht : t < 2) {c : Nat} (hc : T t 1 = nI c) (h12 : c ≤ 12) : CtI l yX2_sumOfShares cX2_sumOfShares 4 .int 3 0 0 P D (nW P) (nW P) False (cw P N F T K A w) (cw P N F T K A w) [.ref (rT P t), .int 3] (shS (c + 1) 3 c (12 * t) 0 N 0) := by
  refine mk_Met pl_X2 [(0, .ref (rT P t)), (1, .int 3)] rfl (Nat.le_of_ble_eq_true rfl) ?_
  intro pg en sg mg ag bg mt cd C
  refine v_iconst (v := 0) C dX2_sumOfShares_0 rfl ?_
  refine v_istore_n (lv' := [(2, .int 0), (0, .ref (rT P t)), (1, .int 3)]) C dX2_sumOfShares_1 rfl (by decide) rfl ?_
  refine v_iconst (v := 0) C dX2_sumOfShares_2 rfl ?_
  refine v_istore_n (lv' := [(3, .int 0), (2, .int 0), (0, .ref (rT P t)), (1, .int 3)]) C dX2_sumOfShares_3 rfl (by decide) rfl ?_
  have L_1 : ∀ (n : Nat) (i : Nat) (sm : Int32), i ≤ c → c < i + n → V pg l en (rmO 3 0 0) sg mg ag bg mt cd P D (MQ bg (QcI P D (nW P) False (cw P N F T K A w) (shS (c + 1) 3 c (12 * t) 0 N 0)) ag sg 0 0 (aO P)) 4 (nW P) False (cw P N F T K A w) 0 0 31 [(2, .int (shS n 3 c (12 * t) i N sm))] [] → V pg l en (rmO 3 0 0) sg mg ag bg mt cd P D (MQ bg (QcI P D (nW P) False (cw P N F T K A w) (shS (c + 1) 3 c (12 * t) 0 N 0)) ag sg 0 0 (aO P)) 4 (nW P) False (cw P N F T K A w) 0 0 4 [(3, .int (nI i)), (2, .int sm), (0, .ref (rT P t)), (1, .int 3)] [] := by
    intro n
    induction n with
    | zero => intro i sm h1 h2; omega
    | succ n ih =>
      intro i sm h1 h2 hk9
      refine v_iload_n C 0 dX2_sumOfShares_4 rfl ?_
      refine v_aload_n C 2 dX2_sumOfShares_5 rfl ?_
      refine v_gTu C ht 1 (by decide) k_409 rfl dX2_sumOfShares_6 ?_
      refine v_icmp_ge (tgt := 31) C dX2_sumOfShares_9 (by decide) (fun h9_1 => ?_) (fun h9_1 => ?_)
      · refine v_lv [1] rfl ?_
        have hic : c ≤ i := (leC hc h12 h1).mp h9_1
        have e9 : shS (n + 1) 3 c (12 * t) i N sm = sm := by rw [shS, if_pos hic]
        rw [e9] at hk9
        exact hk9
      · have hic : i < c := Nat.not_le.mp (fun q => h9_1 ((leC hc h12 h1).mpr q))
        refine v_iload_n C 1 dX2_sumOfShares_12 rfl ?_
        refine v_aload_n C 2 dX2_sumOfShares_13 rfl ?_
        refine v_gTu C ht 2 (by decide) k_411 rfl dX2_sumOfShares_14 ?_
        refine v_iload_n C 0 dX2_sumOfShares_17 rfl ?_
        refine v_aaNk C i ht (nI_clamp (by omega)) (vp_in_nI (by omega) (by omega)) dX2_sumOfShares_18 ?_
        refine v_iload_n C 3 dX2_sumOfShares_19 rfl ?_
        refine go_I (run_VN C (c_X1_shareOfTotal_3 (by omega)) k_183 k_3 (List.mem_of_getElem? (i := 5) rfl) k_182 ks_8 dd_X1_shareOfTotal ⟨Nat.le_of_ble_eq_true rfl, Nat.le_of_ble_eq_true rfl⟩ (rcN (by omega)) rfl (Nat.le_of_ble_eq_true rfl) dX2_sumOfShares_20 ⟨Nat.le_of_ble_eq_true rfl, Nat.le_of_ble_eq_true rfl⟩) ?_
        refine v_iadd C dX2_sumOfShares_23 ?_
        refine v_top (fun x_1 ex_1 => ?_)
        refine v_istore_n (lv' := [(2, .int x_1), (3, .int (nI i)), (0, .ref (rT P t)), (1, .int 3)]) C dX2_sumOfShares_24 rfl (by decide) rfl ?_
        refine v_iinc (b := (nI (i + 1))) (lv' := [(3, .int (nI (i + 1))), (2, .int x_1), (0, .ref (rT P t)), (1, .int 3)]) C 1 dX2_sumOfShares_25 rfl (nI_1 _) (by decide) rfl ?_
        refine v_goto (tgt := 4) C dX2_sumOfShares_28 (by decide) ?_
        have e9 : shS (n + 1) 3 c (12 * t) i N sm = shS n 3 c (12 * t) (i + 1) N (sm + share (N (12 * t + i)) 3) := by rw [shS, if_neg (by omega)]
        rw [e9] at hk9
        subst ex_1
        exact ih _ _ (by omega) (by omega) hk9
  refine L_1 (c + 1) 0 0 (by omega) (by omega) ?_
  refine v_iload_n C 0 dX2_sumOfShares_31 rfl ?_
  exact v_iret C dX2_sumOfShares_32 rfl rfl
set_option maxHeartbeats 4000000 in
set_option maxRecDepth 100000 in
theorem c_X2_sumOfShares_4 {l : Launch} {P : L5} {D : va_G} {N F T : Nat → Nat → Int32} {K : Nat → Int32} {A : Nat → Nat → Int32} {w : Int64} {t : Nat} (ht : t < 2) {c : Nat} (hc : T t 1 = nI c) (h12 : c ≤ 12) : CtI l yX2_sumOfShares cX2_sumOfShares 4 .int 3 0 0 P D (nW P) (nW P) False (cw P N F T K A w) (cw P N F T K A w) [.ref (rT P t), .int 4] (shS (c + 1) 4 c (12 * t) 0 N 0) := by
  refine mk_Met pl_X2 [(0, .ref (rT P t)), (1, .int 4)] rfl (Nat.le_of_ble_eq_true rfl) ?_
  intro pg en sg mg ag bg mt cd C
  refine v_iconst (v := 0) C dX2_sumOfShares_0 rfl ?_
  refine v_istore_n (lv' := [(2, .int 0), (0, .ref (rT P t)), (1, .int 4)]) C dX2_sumOfShares_1 rfl (by decide) rfl ?_
  refine v_iconst (v := 0) C dX2_sumOfShares_2 rfl ?_
  refine v_istore_n (lv' := [(3, .int 0), (2, .int 0), (0, .ref (rT P t)), (1, .int 4)]) C dX2_sumOfShares_3 rfl (by decide) rfl ?_
  have L_1 : ∀ (n : Nat) (i : Nat) (sm : Int32), i ≤ c → c < i + n → V pg l en (rmO 3 0 0) sg mg ag bg mt cd P D (MQ bg (QcI P D (nW P) False (cw P N F T K A w) (shS (c + 1) 4 c (12 * t) 0 N 0)) ag sg 0 0 (aO P)) 4 (nW P) False (cw P N F T K A w) 0 0 31 [(2, .int (shS n 4 c (12 * t) i N sm))] [] → V pg l en (rmO 3 0 0) sg mg ag bg mt cd P D (MQ bg (QcI P D (nW P) False (cw P N F T K A w) (shS (c + 1) 4 c (12 * t) 0 N 0)) ag sg 0 0 (aO P)) 4 (nW P) False (cw P N F T K A w) 0 0 4 [(3, .int (nI i)), (2, .int sm), (0, .ref (rT P t)), (1, .int 4)] [] := by
    intro n
    induction n with
    | zero => intro i sm h1 h2; omega
    | succ n ih =>
      intro i sm h1 h2 hk9
      refine v_iload_n C 0 dX2_sumOfShares_4 rfl ?_
      refine v_aload_n C 2 dX2_sumOfShares_5 rfl ?_
      refine v_gTu C ht 1 (by decide) k_409 rfl dX2_sumOfShares_6 ?_
      refine v_icmp_ge (tgt := 31) C dX2_sumOfShares_9 (by decide) (fun h9_1 => ?_) (fun h9_1 => ?_)
      · refine v_lv [1] rfl ?_
        have hic : c ≤ i := (leC hc h12 h1).mp h9_1
        have e9 : shS (n + 1) 4 c (12 * t) i N sm = sm := by rw [shS, if_pos hic]
        rw [e9] at hk9
        exact hk9
      · have hic : i < c := Nat.not_le.mp (fun q => h9_1 ((leC hc h12 h1).mpr q))
        refine v_iload_n C 1 dX2_sumOfShares_12 rfl ?_
        refine v_aload_n C 2 dX2_sumOfShares_13 rfl ?_
        refine v_gTu C ht 2 (by decide) k_411 rfl dX2_sumOfShares_14 ?_
        refine v_iload_n C 0 dX2_sumOfShares_17 rfl ?_
        refine v_aaNk C i ht (nI_clamp (by omega)) (vp_in_nI (by omega) (by omega)) dX2_sumOfShares_18 ?_
        refine v_iload_n C 3 dX2_sumOfShares_19 rfl ?_
        refine go_I (run_VN C (c_X1_shareOfTotal_4 (by omega)) k_183 k_3 (List.mem_of_getElem? (i := 5) rfl) k_182 ks_8 dd_X1_shareOfTotal ⟨Nat.le_of_ble_eq_true rfl, Nat.le_of_ble_eq_true rfl⟩ (rcN (by omega)) rfl (Nat.le_of_ble_eq_true rfl) dX2_sumOfShares_20 ⟨Nat.le_of_ble_eq_true rfl, Nat.le_of_ble_eq_true rfl⟩) ?_
        refine v_iadd C dX2_sumOfShares_23 ?_
        refine v_top (fun x_1 ex_1 => ?_)
        refine v_istore_n (lv' := [(2, .int x_1), (3, .int (nI i)), (0, .ref (rT P t)), (1, .int 4)]) C dX2_sumOfShares_24 rfl (by decide) rfl ?_
        refine v_iinc (b := (nI (i + 1))) (lv' := [(3, .int (nI (i + 1))), (2, .int x_1), (0, .ref (rT P t)), (1, .int 4)]) C 1 dX2_sumOfShares_25 rfl (nI_1 _) (by decide) rfl ?_
        refine v_goto (tgt := 4) C dX2_sumOfShares_28 (by decide) ?_
        have e9 : shS (n + 1) 4 c (12 * t) i N sm = shS n 4 c (12 * t) (i + 1) N (sm + share (N (12 * t + i)) 4) := by rw [shS, if_neg (by omega)]
        rw [e9] at hk9
        subst ex_1
        exact ih _ _ (by omega) (by omega) hk9
  refine L_1 (c + 1) 0 0 (by omega) (by omega) ?_
  refine v_iload_n C 0 dX2_sumOfShares_31 rfl ?_
  exact v_iret C dX2_sumOfShares_32 rfl rfl
set_option maxHeartbeats 4000000 in
set_option maxRecDepth 100000 in
theorem c_X2_sumOfShares_5 {l : Launch} {P : L5} {D : va_G} {N F T : Nat → Nat → Int32} {K : Nat → Int32} {A : Nat → Nat → Int32} {w : Int64} {t : Nat} (ht : t < 2) {c : Nat} (hc : T t 1 = nI c) (h12 : c ≤ 12) : CtI l yX2_sumOfShares cX2_sumOfShares 4 .int 3 0 0 P D (nW P) (nW P) False (cw P N F T K A w) (cw P N F T K A w) [.ref (rT P t), .int 5] (shS (c + 1) 5 c (12 * t) 0 N 0) := by
  refine mk_Met pl_X2 [(0, .ref (rT P t)), (1, .int 5)] rfl (Nat.le_of_ble_eq_true rfl) ?_
  intro pg en sg mg ag bg mt cd C
  refine v_iconst (v := 0) C dX2_sumOfShares_0 rfl ?_
  refine v_istore_n (lv' := [(2, .int 0), (0, .ref (rT P t)), (1, .int 5)]) C dX2_sumOfShares_1 rfl (by decide) rfl ?_
  refine v_iconst (v := 0) C dX2_sumOfShares_2 rfl ?_
  refine v_istore_n (lv' := [(3, .int 0), (2, .int 0), (0, .ref (rT P t)), (1, .int 5)]) C dX2_sumOfShares_3 rfl (by decide) rfl ?_
  have L_1 : ∀ (n : Nat) (i : Nat) (sm : Int32), i ≤ c → c < i + n → V pg l en (rmO 3 0 0) sg mg ag bg mt cd P D (MQ bg (QcI P D (nW P) False (cw P N F T K A w) (shS (c + 1) 5 c (12 * t) 0 N 0)) ag sg 0 0 (aO P)) 4 (nW P) False (cw P N F T K A w) 0 0 31 [(2, .int (shS n 5 c (12 * t) i N sm))] [] → V pg l en (rmO 3 0 0) sg mg ag bg mt cd P D (MQ bg (QcI P D (nW P) False (cw P N F T K A w) (shS (c + 1) 5 c (12 * t) 0 N 0)) ag sg 0 0 (aO P)) 4 (nW P) False (cw P N F T K A w) 0 0 4 [(3, .int (nI i)), (2, .int sm), (0, .ref (rT P t)), (1, .int 5)] [] := by
    intro n
    induction n with
    | zero => intro i sm h1 h2; omega
    | succ n ih =>
      intro i sm h1 h2 hk9
      refine v_iload_n C 0 dX2_sumOfShares_4 rfl ?_
      refine v_aload_n C 2 dX2_sumOfShares_5 rfl ?_
      refine v_gTu C ht 1 (by decide) k_409 rfl dX2_sumOfShares_6 ?_
      refine v_icmp_ge (tgt := 31) C dX2_sumOfShares_9 (by decide) (fun h9_1 => ?_) (fun h9_1 => ?_)
      · refine v_lv [1] rfl ?_
        have hic : c ≤ i := (leC hc h12 h1).mp h9_1
        have e9 : shS (n + 1) 5 c (12 * t) i N sm = sm := by rw [shS, if_pos hic]
        rw [e9] at hk9
        exact hk9
      · have hic : i < c := Nat.not_le.mp (fun q => h9_1 ((leC hc h12 h1).mpr q))
        refine v_iload_n C 1 dX2_sumOfShares_12 rfl ?_
        refine v_aload_n C 2 dX2_sumOfShares_13 rfl ?_
        refine v_gTu C ht 2 (by decide) k_411 rfl dX2_sumOfShares_14 ?_
        refine v_iload_n C 0 dX2_sumOfShares_17 rfl ?_
        refine v_aaNk C i ht (nI_clamp (by omega)) (vp_in_nI (by omega) (by omega)) dX2_sumOfShares_18 ?_
        refine v_iload_n C 3 dX2_sumOfShares_19 rfl ?_
        refine go_I (run_VN C (c_X1_shareOfTotal_5 (by omega)) k_183 k_3 (List.mem_of_getElem? (i := 5) rfl) k_182 ks_8 dd_X1_shareOfTotal ⟨Nat.le_of_ble_eq_true rfl, Nat.le_of_ble_eq_true rfl⟩ (rcN (by omega)) rfl (Nat.le_of_ble_eq_true rfl) dX2_sumOfShares_20 ⟨Nat.le_of_ble_eq_true rfl, Nat.le_of_ble_eq_true rfl⟩) ?_
        refine v_iadd C dX2_sumOfShares_23 ?_
        refine v_top (fun x_1 ex_1 => ?_)
        refine v_istore_n (lv' := [(2, .int x_1), (3, .int (nI i)), (0, .ref (rT P t)), (1, .int 5)]) C dX2_sumOfShares_24 rfl (by decide) rfl ?_
        refine v_iinc (b := (nI (i + 1))) (lv' := [(3, .int (nI (i + 1))), (2, .int x_1), (0, .ref (rT P t)), (1, .int 5)]) C 1 dX2_sumOfShares_25 rfl (nI_1 _) (by decide) rfl ?_
        refine v_goto (tgt := 4) C dX2_sumOfShares_28 (by decide) ?_
        have e9 : shS (n + 1) 5 c (12 * t) i N sm = shS n 5 c (12 * t) (i + 1) N (sm + share (N (12 * t + i)) 5) := by rw [shS, if_neg (by omega)]
        rw [e9] at hk9
        subst ex_1
        exact ih _ _ (by omega) (by omega) hk9
  refine L_1 (c + 1) 0 0 (by omega) (by omega) ?_
  refine v_iload_n C 0 dX2_sumOfShares_31 rfl ?_
  exact v_iret C dX2_sumOfShares_32 rfl rfl
set_option maxHeartbeats 4000000 in
set_option maxRecDepth 100000 in
theorem c_X2_sumOfShares_7 {l : Launch} {P : L5} {D : va_G} {N F T : Nat → Nat → Int32} {K : Nat → Int32} {A : Nat → Nat → Int32} {w : Int64} {t : Nat} (ht : t < 2) {c : Nat} (hc : T t 1 = nI c) (h12 : c ≤ 12) : CtI l yX2_sumOfShares cX2_sumOfShares 4 .int 3 0 0 P D (nW P) (nW P) False (cw P N F T K A w) (cw P N F T K A w) [.ref (rT P t), .int 7] (shS (c + 1) 7 c (12 * t) 0 N 0) := by
  refine mk_Met pl_X2 [(0, .ref (rT P t)), (1, .int 7)] rfl (Nat.le_of_ble_eq_true rfl) ?_
  intro pg en sg mg ag bg mt cd C
  refine v_iconst (v := 0) C dX2_sumOfShares_0 rfl ?_
  refine v_istore_n (lv' := [(2, .int 0), (0, .ref (rT P t)), (1, .int 7)]) C dX2_sumOfShares_1 rfl (by decide) rfl ?_
  refine v_iconst (v := 0) C dX2_sumOfShares_2 rfl ?_
  refine v_istore_n (lv' := [(3, .int 0), (2, .int 0), (0, .ref (rT P t)), (1, .int 7)]) C dX2_sumOfShares_3 rfl (by decide) rfl ?_
  have L_1 : ∀ (n : Nat) (i : Nat) (sm : Int32), i ≤ c → c < i + n → V pg l en (rmO 3 0 0) sg mg ag bg mt cd P D (MQ bg (QcI P D (nW P) False (cw P N F T K A w) (shS (c + 1) 7 c (12 * t) 0 N 0)) ag sg 0 0 (aO P)) 4 (nW P) False (cw P N F T K A w) 0 0 31 [(2, .int (shS n 7 c (12 * t) i N sm))] [] → V pg l en (rmO 3 0 0) sg mg ag bg mt cd P D (MQ bg (QcI P D (nW P) False (cw P N F T K A w) (shS (c + 1) 7 c (12 * t) 0 N 0)) ag sg 0 0 (aO P)) 4 (nW P) False (cw P N F T K A w) 0 0 4 [(3, .int (nI i)), (2, .int sm), (0, .ref (rT P t)), (1, .int 7)] [] := by
    intro n
    induction n with
    | zero => intro i sm h1 h2; omega
    | succ n ih =>
      intro i sm h1 h2 hk9
      refine v_iload_n C 0 dX2_sumOfShares_4 rfl ?_
      refine v_aload_n C 2 dX2_sumOfShares_5 rfl ?_
      refine v_gTu C ht 1 (by decide) k_409 rfl dX2_sumOfShares_6 ?_
      refine v_icmp_ge (tgt := 31) C dX2_sumOfShares_9 (by decide) (fun h9_1 => ?_) (fun h9_1 => ?_)
      · refine v_lv [1] rfl ?_
        have hic : c ≤ i := (leC hc h12 h1).mp h9_1
        have e9 : shS (n + 1) 7 c (12 * t) i N sm = sm := by rw [shS, if_pos hic]
        rw [e9] at hk9
        exact hk9
      · have hic : i < c := Nat.not_le.mp (fun q => h9_1 ((leC hc h12 h1).mpr q))
        refine v_iload_n C 1 dX2_sumOfShares_12 rfl ?_
        refine v_aload_n C 2 dX2_sumOfShares_13 rfl ?_
        refine v_gTu C ht 2 (by decide) k_411 rfl dX2_sumOfShares_14 ?_
        refine v_iload_n C 0 dX2_sumOfShares_17 rfl ?_
        refine v_aaNk C i ht (nI_clamp (by omega)) (vp_in_nI (by omega) (by omega)) dX2_sumOfShares_18 ?_
        refine v_iload_n C 3 dX2_sumOfShares_19 rfl ?_
        refine go_I (run_VN C (c_X1_shareOfTotal_7 (by omega)) k_183 k_3 (List.mem_of_getElem? (i := 5) rfl) k_182 ks_8 dd_X1_shareOfTotal ⟨Nat.le_of_ble_eq_true rfl, Nat.le_of_ble_eq_true rfl⟩ (rcN (by omega)) rfl (Nat.le_of_ble_eq_true rfl) dX2_sumOfShares_20 ⟨Nat.le_of_ble_eq_true rfl, Nat.le_of_ble_eq_true rfl⟩) ?_
        refine v_iadd C dX2_sumOfShares_23 ?_
        refine v_top (fun x_1 ex_1 => ?_)
        refine v_istore_n (lv' := [(2, .int x_1), (3, .int (nI i)), (0, .ref (rT P t)), (1, .int 7)]) C dX2_sumOfShares_24 rfl (by decide) rfl ?_
        refine v_iinc (b := (nI (i + 1))) (lv' := [(3, .int (nI (i + 1))), (2, .int x_1), (0, .ref (rT P t)), (1, .int 7)]) C 1 dX2_sumOfShares_25 rfl (nI_1 _) (by decide) rfl ?_
        refine v_goto (tgt := 4) C dX2_sumOfShares_28 (by decide) ?_
        have e9 : shS (n + 1) 7 c (12 * t) i N sm = shS n 7 c (12 * t) (i + 1) N (sm + share (N (12 * t + i)) 7) := by rw [shS, if_neg (by omega)]
        rw [e9] at hk9
        subst ex_1
        exact ih _ _ (by omega) (by omega) hk9
  refine L_1 (c + 1) 0 0 (by omega) (by omega) ?_
  refine v_iload_n C 0 dX2_sumOfShares_31 rfl ?_
  exact v_iret C dX2_sumOfShares_32 rfl rfl
set_option maxHeartbeats 4000000 in
set_option maxRecDepth 100000 in
theorem c_X2_sumOfShares_8 {l : Launch} {P : L5} {D : va_G} {N F T : Nat → Nat → Int32} {K : Nat → Int32} {A : Nat → Nat → Int32} {w : Int64} {t : Nat} (ht : t < 2) {c : Nat} (hc : T t 1 = nI c) (h12 : c ≤ 12) : CtI l yX2_sumOfShares cX2_sumOfShares 4 .int 3 0 0 P D (nW P) (nW P) False (cw P N F T K A w) (cw P N F T K A w) [.ref (rT P t), .int 8] (shS (c + 1) 8 c (12 * t) 0 N 0) := by
  refine mk_Met pl_X2 [(0, .ref (rT P t)), (1, .int 8)] rfl (Nat.le_of_ble_eq_true rfl) ?_
  intro pg en sg mg ag bg mt cd C
  refine v_iconst (v := 0) C dX2_sumOfShares_0 rfl ?_
  refine v_istore_n (lv' := [(2, .int 0), (0, .ref (rT P t)), (1, .int 8)]) C dX2_sumOfShares_1 rfl (by decide) rfl ?_
  refine v_iconst (v := 0) C dX2_sumOfShares_2 rfl ?_
  refine v_istore_n (lv' := [(3, .int 0), (2, .int 0), (0, .ref (rT P t)), (1, .int 8)]) C dX2_sumOfShares_3 rfl (by decide) rfl ?_
  have L_1 : ∀ (n : Nat) (i : Nat) (sm : Int32), i ≤ c → c < i + n → V pg l en (rmO 3 0 0) sg mg ag bg mt cd P D (MQ bg (QcI P D (nW P) False (cw P N F T K A w) (shS (c + 1) 8 c (12 * t) 0 N 0)) ag sg 0 0 (aO P)) 4 (nW P) False (cw P N F T K A w) 0 0 31 [(2, .int (shS n 8 c (12 * t) i N sm))] [] → V pg l en (rmO 3 0 0) sg mg ag bg mt cd P D (MQ bg (QcI P D (nW P) False (cw P N F T K A w) (shS (c + 1) 8 c (12 * t) 0 N 0)) ag sg 0 0 (aO P)) 4 (nW P) False (cw P N F T K A w) 0 0 4 [(3, .int (nI i)), (2, .int sm), (0, .ref (rT P t)), (1, .int 8)] [] := by
    intro n
    induction n with
    | zero => intro i sm h1 h2; omega
    | succ n ih =>
      intro i sm h1 h2 hk9
      refine v_iload_n C 0 dX2_sumOfShares_4 rfl ?_
      refine v_aload_n C 2 dX2_sumOfShares_5 rfl ?_
      refine v_gTu C ht 1 (by decide) k_409 rfl dX2_sumOfShares_6 ?_
      refine v_icmp_ge (tgt := 31) C dX2_sumOfShares_9 (by decide) (fun h9_1 => ?_) (fun h9_1 => ?_)
      · refine v_lv [1] rfl ?_
        have hic : c ≤ i := (leC hc h12 h1).mp h9_1
        have e9 : shS (n + 1) 8 c (12 * t) i N sm = sm := by rw [shS, if_pos hic]
        rw [e9] at hk9
        exact hk9
      · have hic : i < c := Nat.not_le.mp (fun q => h9_1 ((leC hc h12 h1).mpr q))
        refine v_iload_n C 1 dX2_sumOfShares_12 rfl ?_
        refine v_aload_n C 2 dX2_sumOfShares_13 rfl ?_
        refine v_gTu C ht 2 (by decide) k_411 rfl dX2_sumOfShares_14 ?_
        refine v_iload_n C 0 dX2_sumOfShares_17 rfl ?_
        refine v_aaNk C i ht (nI_clamp (by omega)) (vp_in_nI (by omega) (by omega)) dX2_sumOfShares_18 ?_
        refine v_iload_n C 3 dX2_sumOfShares_19 rfl ?_
        refine go_I (run_VN C (c_X1_shareOfTotal_8 (by omega)) k_183 k_3 (List.mem_of_getElem? (i := 5) rfl) k_182 ks_8 dd_X1_shareOfTotal ⟨Nat.le_of_ble_eq_true rfl, Nat.le_of_ble_eq_true rfl⟩ (rcN (by omega)) rfl (Nat.le_of_ble_eq_true rfl) dX2_sumOfShares_20 ⟨Nat.le_of_ble_eq_true rfl, Nat.le_of_ble_eq_true rfl⟩) ?_
        refine v_iadd C dX2_sumOfShares_23 ?_
        refine v_top (fun x_1 ex_1 => ?_)
        refine v_istore_n (lv' := [(2, .int x_1), (3, .int (nI i)), (0, .ref (rT P t)), (1, .int 8)]) C dX2_sumOfShares_24 rfl (by decide) rfl ?_
        refine v_iinc (b := (nI (i + 1))) (lv' := [(3, .int (nI (i + 1))), (2, .int x_1), (0, .ref (rT P t)), (1, .int 8)]) C 1 dX2_sumOfShares_25 rfl (nI_1 _) (by decide) rfl ?_
        refine v_goto (tgt := 4) C dX2_sumOfShares_28 (by decide) ?_
        have e9 : shS (n + 1) 8 c (12 * t) i N sm = shS n 8 c (12 * t) (i + 1) N (sm + share (N (12 * t + i)) 8) := by rw [shS, if_neg (by omega)]
        rw [e9] at hk9
        subst ex_1
        exact ih _ _ (by omega) (by omega) hk9
  refine L_1 (c + 1) 0 0 (by omega) (by omega) ?_
  refine v_iload_n C 0 dX2_sumOfShares_31 rfl ?_
  exact v_iret C dX2_sumOfShares_32 rfl rfl
set_option maxHeartbeats 4000000 in
set_option maxRecDepth 100000 in
theorem c_X2_sumOfShares_9 {l : Launch} {P : L5} {D : va_G} {N F T : Nat → Nat → Int32} {K : Nat → Int32} {A : Nat → Nat → Int32} {w : Int64} {t : Nat} (ht : t < 2) {c : Nat} (hc : T t 1 = nI c) (h12 : c ≤ 12) : CtI l yX2_sumOfShares cX2_sumOfShares 4 .int 3 0 0 P D (nW P) (nW P) False (cw P N F T K A w) (cw P N F T K A w) [.ref (rT P t), .int 9] (shS (c + 1) 9 c (12 * t) 0 N 0) := by
  refine mk_Met pl_X2 [(0, .ref (rT P t)), (1, .int 9)] rfl (Nat.le_of_ble_eq_true rfl) ?_
  intro pg en sg mg ag bg mt cd C
  refine v_iconst (v := 0) C dX2_sumOfShares_0 rfl ?_
  refine v_istore_n (lv' := [(2, .int 0), (0, .ref (rT P t)), (1, .int 9)]) C dX2_sumOfShares_1 rfl (by decide) rfl ?_
  refine v_iconst (v := 0) C dX2_sumOfShares_2 rfl ?_
  refine v_istore_n (lv' := [(3, .int 0), (2, .int 0), (0, .ref (rT P t)), (1, .int 9)]) C dX2_sumOfShares_3 rfl (by decide) rfl ?_
  have L_1 : ∀ (n : Nat) (i : Nat) (sm : Int32), i ≤ c → c < i + n → V pg l en (rmO 3 0 0) sg mg ag bg mt cd P D (MQ bg (QcI P D (nW P) False (cw P N F T K A w) (shS (c + 1) 9 c (12 * t) 0 N 0)) ag sg 0 0 (aO P)) 4 (nW P) False (cw P N F T K A w) 0 0 31 [(2, .int (shS n 9 c (12 * t) i N sm))] [] → V pg l en (rmO 3 0 0) sg mg ag bg mt cd P D (MQ bg (QcI P D (nW P) False (cw P N F T K A w) (shS (c + 1) 9 c (12 * t) 0 N 0)) ag sg 0 0 (aO P)) 4 (nW P) False (cw P N F T K A w) 0 0 4 [(3, .int (nI i)), (2, .int sm), (0, .ref (rT P t)), (1, .int 9)] [] := by
    intro n
    induction n with
    | zero => intro i sm h1 h2; omega
    | succ n ih =>
      intro i sm h1 h2 hk9
      refine v_iload_n C 0 dX2_sumOfShares_4 rfl ?_
      refine v_aload_n C 2 dX2_sumOfShares_5 rfl ?_
      refine v_gTu C ht 1 (by decide) k_409 rfl dX2_sumOfShares_6 ?_
      refine v_icmp_ge (tgt := 31) C dX2_sumOfShares_9 (by decide) (fun h9_1 => ?_) (fun h9_1 => ?_)
      · refine v_lv [1] rfl ?_
        have hic : c ≤ i := (leC hc h12 h1).mp h9_1
        have e9 : shS (n + 1) 9 c (12 * t) i N sm = sm := by rw [shS, if_pos hic]
        rw [e9] at hk9
        exact hk9
      · have hic : i < c := Nat.not_le.mp (fun q => h9_1 ((leC hc h12 h1).mpr q))
        refine v_iload_n C 1 dX2_sumOfShares_12 rfl ?_
        refine v_aload_n C 2 dX2_sumOfShares_13 rfl ?_
        refine v_gTu C ht 2 (by decide) k_411 rfl dX2_sumOfShares_14 ?_
        refine v_iload_n C 0 dX2_sumOfShares_17 rfl ?_
        refine v_aaNk C i ht (nI_clamp (by omega)) (vp_in_nI (by omega) (by omega)) dX2_sumOfShares_18 ?_
        refine v_iload_n C 3 dX2_sumOfShares_19 rfl ?_
        refine go_I (run_VN C (c_X1_shareOfTotal_9 (by omega)) k_183 k_3 (List.mem_of_getElem? (i := 5) rfl) k_182 ks_8 dd_X1_shareOfTotal ⟨Nat.le_of_ble_eq_true rfl, Nat.le_of_ble_eq_true rfl⟩ (rcN (by omega)) rfl (Nat.le_of_ble_eq_true rfl) dX2_sumOfShares_20 ⟨Nat.le_of_ble_eq_true rfl, Nat.le_of_ble_eq_true rfl⟩) ?_
        refine v_iadd C dX2_sumOfShares_23 ?_
        refine v_top (fun x_1 ex_1 => ?_)
        refine v_istore_n (lv' := [(2, .int x_1), (3, .int (nI i)), (0, .ref (rT P t)), (1, .int 9)]) C dX2_sumOfShares_24 rfl (by decide) rfl ?_
        refine v_iinc (b := (nI (i + 1))) (lv' := [(3, .int (nI (i + 1))), (2, .int x_1), (0, .ref (rT P t)), (1, .int 9)]) C 1 dX2_sumOfShares_25 rfl (nI_1 _) (by decide) rfl ?_
        refine v_goto (tgt := 4) C dX2_sumOfShares_28 (by decide) ?_
        have e9 : shS (n + 1) 9 c (12 * t) i N sm = shS n 9 c (12 * t) (i + 1) N (sm + share (N (12 * t + i)) 9) := by rw [shS, if_neg (by omega)]
        rw [e9] at hk9
        subst ex_1
        exact ih _ _ (by omega) (by omega) hk9
  refine L_1 (c + 1) 0 0 (by omega) (by omega) ?_
  refine v_iload_n C 0 dX2_sumOfShares_31 rfl ?_
  exact v_iret C dX2_sumOfShares_32 rfl rfl
set_option maxHeartbeats 4000000 in
set_option maxRecDepth 100000 in
theorem c_X2_sumOfShares_10 {l : Launch} {P : L5} {D : va_G} {N F T : Nat → Nat → Int32} {K : Nat → Int32} {A : Nat → Nat → Int32} {w : Int64} {t : Nat} (ht : t < 2) {c : Nat} (hc : T t 1 = nI c) (h12 : c ≤ 12) : CtI l yX2_sumOfShares cX2_sumOfShares 4 .int 3 0 0 P D (nW P) (nW P) False (cw P N F T K A w) (cw P N F T K A w) [.ref (rT P t), .int 10] (shS (c + 1) 10 c (12 * t) 0 N 0) := by
  refine mk_Met pl_X2 [(0, .ref (rT P t)), (1, .int 10)] rfl (Nat.le_of_ble_eq_true rfl) ?_
  intro pg en sg mg ag bg mt cd C
  refine v_iconst (v := 0) C dX2_sumOfShares_0 rfl ?_
  refine v_istore_n (lv' := [(2, .int 0), (0, .ref (rT P t)), (1, .int 10)]) C dX2_sumOfShares_1 rfl (by decide) rfl ?_
  refine v_iconst (v := 0) C dX2_sumOfShares_2 rfl ?_
  refine v_istore_n (lv' := [(3, .int 0), (2, .int 0), (0, .ref (rT P t)), (1, .int 10)]) C dX2_sumOfShares_3 rfl (by decide) rfl ?_
  have L_1 : ∀ (n : Nat) (i : Nat) (sm : Int32), i ≤ c → c < i + n → V pg l en (rmO 3 0 0) sg mg ag bg mt cd P D (MQ bg (QcI P D (nW P) False (cw P N F T K A w) (shS (c + 1) 10 c (12 * t) 0 N 0)) ag sg 0 0 (aO P)) 4 (nW P) False (cw P N F T K A w) 0 0 31 [(2, .int (shS n 10 c (12 * t) i N sm))] [] → V pg l en (rmO 3 0 0) sg mg ag bg mt cd P D (MQ bg (QcI P D (nW P) False (cw P N F T K A w) (shS (c + 1) 10 c (12 * t) 0 N 0)) ag sg 0 0 (aO P)) 4 (nW P) False (cw P N F T K A w) 0 0 4 [(3, .int (nI i)), (2, .int sm), (0, .ref (rT P t)), (1, .int 10)] [] := by
    intro n
    induction n with
    | zero => intro i sm h1 h2; omega
    | succ n ih =>
      intro i sm h1 h2 hk9
      refine v_iload_n C 0 dX2_sumOfShares_4 rfl ?_
      refine v_aload_n C 2 dX2_sumOfShares_5 rfl ?_
      refine v_gTu C ht 1 (by decide) k_409 rfl dX2_sumOfShares_6 ?_
      refine v_icmp_ge (tgt := 31) C dX2_sumOfShares_9 (by decide) (fun h9_1 => ?_) (fun h9_1 => ?_)
      · refine v_lv [1] rfl ?_
        have hic : c ≤ i := (leC hc h12 h1).mp h9_1
        have e9 : shS (n + 1) 10 c (12 * t) i N sm = sm := by rw [shS, if_pos hic]
        rw [e9] at hk9
        exact hk9
      · have hic : i < c := Nat.not_le.mp (fun q => h9_1 ((leC hc h12 h1).mpr q))
        refine v_iload_n C 1 dX2_sumOfShares_12 rfl ?_
        refine v_aload_n C 2 dX2_sumOfShares_13 rfl ?_
        refine v_gTu C ht 2 (by decide) k_411 rfl dX2_sumOfShares_14 ?_
        refine v_iload_n C 0 dX2_sumOfShares_17 rfl ?_
        refine v_aaNk C i ht (nI_clamp (by omega)) (vp_in_nI (by omega) (by omega)) dX2_sumOfShares_18 ?_
        refine v_iload_n C 3 dX2_sumOfShares_19 rfl ?_
        refine go_I (run_VN C (c_X1_shareOfTotal_10 (by omega)) k_183 k_3 (List.mem_of_getElem? (i := 5) rfl) k_182 ks_8 dd_X1_shareOfTotal ⟨Nat.le_of_ble_eq_true rfl, Nat.le_of_ble_eq_true rfl⟩ (rcN (by omega)) rfl (Nat.le_of_ble_eq_true rfl) dX2_sumOfShares_20 ⟨Nat.le_of_ble_eq_true rfl, Nat.le_of_ble_eq_true rfl⟩) ?_
        refine v_iadd C dX2_sumOfShares_23 ?_
        refine v_top (fun x_1 ex_1 => ?_)
        refine v_istore_n (lv' := [(2, .int x_1), (3, .int (nI i)), (0, .ref (rT P t)), (1, .int 10)]) C dX2_sumOfShares_24 rfl (by decide) rfl ?_
        refine v_iinc (b := (nI (i + 1))) (lv' := [(3, .int (nI (i + 1))), (2, .int x_1), (0, .ref (rT P t)), (1, .int 10)]) C 1 dX2_sumOfShares_25 rfl (nI_1 _) (by decide) rfl ?_
        refine v_goto (tgt := 4) C dX2_sumOfShares_28 (by decide) ?_
        have e9 : shS (n + 1) 10 c (12 * t) i N sm = shS n 10 c (12 * t) (i + 1) N (sm + share (N (12 * t + i)) 10) := by rw [shS, if_neg (by omega)]
        rw [e9] at hk9
        subst ex_1
        exact ih _ _ (by omega) (by omega) hk9
  refine L_1 (c + 1) 0 0 (by omega) (by omega) ?_
  refine v_iload_n C 0 dX2_sumOfShares_31 rfl ?_
  exact v_iret C dX2_sumOfShares_32 rfl rfl
set_option maxHeartbeats 4000000 in
set_option maxRecDepth 100000 in
theorem c_X2_total_0 {l : Launch} {P : L5} {D : va_G} {N F T : Nat → Nat → Int32} {K : Nat → Int32} {A : Nat → Nat → Int32} {w : Int64} {t : Nat} (ht : t < 2) {c : Nat} (hc : T t 1 = nI c) (h12 : c ≤ 12) : CtI l yX2_total cX2_total 2 .int 4 0 0 P D (nW P) (nW P) False (cw P N F T K A w) (cw P N F T K A w) [.ref (rT P t), .int 0] (totN N F T t c 0) := by
  refine mk_Met pl_X2 [(0, .ref (rT P t)), (1, .int 0)] rfl (Nat.le_of_ble_eq_true rfl) ?_
  intro pg en sg mg ag bg mt cd C
  refine v_iload_n C 1 dX2_total_0 rfl ?_
  refine v_lookup (tgt := 36) C dX2_total_1 (by decide) rfl (by decide) ?_
  refine v_aload_n C 0 dX2_total_36 rfl ?_
  refine v_gTu C ht 0 (by decide) k_408 rfl dX2_total_37 ?_
  exact v_iret C dX2_total_40 rfl rfl
set_option maxHeartbeats 4000000 in
set_option maxRecDepth 100000 in
theorem c_X2_total_1 {l : Launch} {P : L5} {D : va_G} {N F T : Nat → Nat → Int32} {K : Nat → Int32} {A : Nat → Nat → Int32} {w : Int64} {t : Nat} (ht : t < 2) {c : Nat} (hc : T t 1 = nI c) (h12 : c ≤ 12) : CtI l yX2_total cX2_total 2 .int 4 0 0 P D (nW P) (nW P) False (cw P N F T K A w) (cw P N F T K A w) [.ref (rT P t), .int 1] (totN N F T t c 1) := by
  refine mk_Met pl_X2 [(0, .ref (rT P t)), (1, .int 1)] rfl (Nat.le_of_ble_eq_true rfl) ?_
  intro pg en sg mg ag bg mt cd C
  refine v_iload_n C 1 dX2_total_0 rfl ?_
  refine v_lookup (tgt := 41) C dX2_total_1 (by decide) rfl (by decide) ?_
  refine v_aload_n C 0 dX2_total_41 rfl ?_
  refine v_gTu C ht 1 (by decide) k_409 rfl dX2_total_42 ?_
  exact v_iret C dX2_total_45 rfl rfl
set_option maxHeartbeats 4000000 in
set_option maxRecDepth 100000 in
theorem c_X2_total_2 {l : Launch} {P : L5} {D : va_G} {N F T : Nat → Nat → Int32} {K : Nat → Int32} {A : Nat → Nat → Int32} {w : Int64} {t : Nat} (ht : t < 2) {c : Nat} (hc : T t 1 = nI c) (h12 : c ≤ 12) : CtI l yX2_total cX2_total 2 .int 4 0 0 P D (nW P) (nW P) False (cw P N F T K A w) (cw P N F T K A w) [.ref (rT P t), .int 2] (totN N F T t c 2) := by
  refine mk_Met pl_X2 [(0, .ref (rT P t)), (1, .int 2)] rfl (Nat.le_of_ble_eq_true rfl) ?_
  intro pg en sg mg ag bg mt cd C
  refine v_iload_n C 1 dX2_total_0 rfl ?_
  refine v_lookup (tgt := 51) C dX2_total_1 (by decide) rfl (by decide) ?_
  refine v_aload_n C 0 dX2_total_51 rfl ?_
  refine v_iload_n C 1 dX2_total_52 rfl ?_
  refine go_I (run_V C (c_X2_sumOfShares_2 ht hc h12) k_179 k_2 k_176 k_178 ks_7 dd_X2_sumOfShares ⟨Nat.le_of_ble_eq_true rfl, Nat.le_of_ble_eq_true rfl⟩ (rcT ht) rfl (Nat.le_of_ble_eq_true rfl) dX2_total_53 ⟨Nat.le_of_ble_eq_true rfl, Nat.le_of_ble_eq_true rfl⟩) ?_
  exact v_iret C dX2_total_56 rfl rfl
set_option maxHeartbeats 4000000 in
set_option maxRecDepth 100000 in
theorem c_X2_total_3 {l : Launch} {P : L5} {D : va_G} {N F T : Nat → Nat → Int32} {K : Nat → Int32} {A : Nat → Nat → Int32} {w : Int64} {t : Nat} (ht : t < 2) {c : Nat} (hc : T t 1 = nI c) (h12 : c ≤ 12) : CtI l yX2_total cX2_total 2 .int 4 0 0 P D (nW P) (nW P) False (cw P N F T K A w) (cw P N F T K A w) [.ref (rT P t), .int 3] (totN N F T t c 3) := by
  refine mk_Met pl_X2 [(0, .ref (rT P t)), (1, .int 3)] rfl (Nat.le_of_ble_eq_true rfl) ?_
  intro pg en sg mg ag bg mt cd C
  refine v_iload_n C 1 dX2_total_0 rfl ?_
  refine v_lookup (tgt := 51) C dX2_total_1 (by decide) rfl (by decide) ?_
  refine v_aload_n C 0 dX2_total_51 rfl ?_
  refine v_iload_n C 1 dX2_total_52 rfl ?_
  refine go_I (run_V C (c_X2_sumOfShares_3 ht hc h12) k_179 k_2 k_176 k_178 ks_7 dd_X2_sumOfShares ⟨Nat.le_of_ble_eq_true rfl, Nat.le_of_ble_eq_true rfl⟩ (rcT ht) rfl (Nat.le_of_ble_eq_true rfl) dX2_total_53 ⟨Nat.le_of_ble_eq_true rfl, Nat.le_of_ble_eq_true rfl⟩) ?_
  exact v_iret C dX2_total_56 rfl rfl
set_option maxHeartbeats 4000000 in
set_option maxRecDepth 100000 in
theorem c_X2_total_4 {l : Launch} {P : L5} {D : va_G} {N F T : Nat → Nat → Int32} {K : Nat → Int32} {A : Nat → Nat → Int32} {w : Int64} {t : Nat} (ht : t < 2) {c : Nat} (hc : T t 1 = nI c) (h12 : c ≤ 12) : CtI l yX2_total cX2_total 2 .int 4 0 0 P D (nW P) (nW P) False (cw P N F T K A w) (cw P N F T K A w) [.ref (rT P t), .int 4] (totN N F T t c 4) := by
  refine mk_Met pl_X2 [(0, .ref (rT P t)), (1, .int 4)] rfl (Nat.le_of_ble_eq_true rfl) ?_
  intro pg en sg mg ag bg mt cd C
  refine v_iload_n C 1 dX2_total_0 rfl ?_
  refine v_lookup (tgt := 51) C dX2_total_1 (by decide) rfl (by decide) ?_
  refine v_aload_n C 0 dX2_total_51 rfl ?_
  refine v_iload_n C 1 dX2_total_52 rfl ?_
  refine go_I (run_V C (c_X2_sumOfShares_4 ht hc h12) k_179 k_2 k_176 k_178 ks_7 dd_X2_sumOfShares ⟨Nat.le_of_ble_eq_true rfl, Nat.le_of_ble_eq_true rfl⟩ (rcT ht) rfl (Nat.le_of_ble_eq_true rfl) dX2_total_53 ⟨Nat.le_of_ble_eq_true rfl, Nat.le_of_ble_eq_true rfl⟩) ?_
  exact v_iret C dX2_total_56 rfl rfl
set_option maxHeartbeats 4000000 in
set_option maxRecDepth 100000 in
theorem c_X2_total_5 {l : Launch} {P : L5} {D : va_G} {N F T : Nat → Nat → Int32} {K : Nat → Int32} {A : Nat → Nat → Int32} {w : Int64} {t : Nat} (ht : t < 2) {c : Nat} (hc : T t 1 = nI c) (h12 : c ≤ 12) : CtI l yX2_total cX2_total 2 .int 4 0 0 P D (nW P) (nW P) False (cw P N F T K A w) (cw P N F T K A w) [.ref (rT P t), .int 5] (totN N F T t c 5) := by
  refine mk_Met pl_X2 [(0, .ref (rT P t)), (1, .int 5)] rfl (Nat.le_of_ble_eq_true rfl) ?_
  intro pg en sg mg ag bg mt cd C
  refine v_iload_n C 1 dX2_total_0 rfl ?_
  refine v_lookup (tgt := 51) C dX2_total_1 (by decide) rfl (by decide) ?_
  refine v_aload_n C 0 dX2_total_51 rfl ?_
  refine v_iload_n C 1 dX2_total_52 rfl ?_
  refine go_I (run_V C (c_X2_sumOfShares_5 ht hc h12) k_179 k_2 k_176 k_178 ks_7 dd_X2_sumOfShares ⟨Nat.le_of_ble_eq_true rfl, Nat.le_of_ble_eq_true rfl⟩ (rcT ht) rfl (Nat.le_of_ble_eq_true rfl) dX2_total_53 ⟨Nat.le_of_ble_eq_true rfl, Nat.le_of_ble_eq_true rfl⟩) ?_
  exact v_iret C dX2_total_56 rfl rfl
set_option maxHeartbeats 4000000 in
set_option maxRecDepth 100000 in
theorem c_X2_total_6 {l : Launch} {P : L5} {D : va_G} {N F T : Nat → Nat → Int32} {K : Nat → Int32} {A : Nat → Nat → Int32} {w : Int64} {t : Nat} (ht : t < 2) {c : Nat} (hc : T t 1 = nI c) (h12 : c ≤ 12) : CtI l yX2_total cX2_total 2 .int 4 0 0 P D (nW P) (nW P) False (cw P N F T K A w) (cw P N F T K A w) [.ref (rT P t), .int 6] (totN N F T t c 6) := by
  refine mk_Met pl_X2 [(0, .ref (rT P t)), (1, .int 6)] rfl (Nat.le_of_ble_eq_true rfl) ?_
  intro pg en sg mg ag bg mt cd C
  refine v_iload_n C 1 dX2_total_0 rfl ?_
  refine v_lookup (tgt := 46) C dX2_total_1 (by decide) rfl (by decide) ?_
  refine v_aload_n C 0 dX2_total_46 rfl ?_
  refine go_I (run_V C (c_X2_warehouseBags ht) k_175 k_2 k_172 k_174 ks_6 dd_X2_warehouseBags ⟨Nat.le_of_ble_eq_true rfl, Nat.le_of_ble_eq_true rfl⟩ (rcT ht) rfl (Nat.le_of_ble_eq_true rfl) dX2_total_47 ⟨Nat.le_of_ble_eq_true rfl, Nat.le_of_ble_eq_true rfl⟩) ?_
  exact v_iret C dX2_total_50 rfl rfl
set_option maxHeartbeats 4000000 in
set_option maxRecDepth 100000 in
theorem c_X2_total_7 {l : Launch} {P : L5} {D : va_G} {N F T : Nat → Nat → Int32} {K : Nat → Int32} {A : Nat → Nat → Int32} {w : Int64} {t : Nat} (ht : t < 2) {c : Nat} (hc : T t 1 = nI c) (h12 : c ≤ 12) : CtI l yX2_total cX2_total 2 .int 4 0 0 P D (nW P) (nW P) False (cw P N F T K A w) (cw P N F T K A w) [.ref (rT P t), .int 7] (totN N F T t c 7) := by
  refine mk_Met pl_X2 [(0, .ref (rT P t)), (1, .int 7)] rfl (Nat.le_of_ble_eq_true rfl) ?_
  intro pg en sg mg ag bg mt cd C
  refine v_iload_n C 1 dX2_total_0 rfl ?_
  refine v_lookup (tgt := 51) C dX2_total_1 (by decide) rfl (by decide) ?_
  refine v_aload_n C 0 dX2_total_51 rfl ?_
  refine v_iload_n C 1 dX2_total_52 rfl ?_
  refine go_I (run_V C (c_X2_sumOfShares_7 ht hc h12) k_179 k_2 k_176 k_178 ks_7 dd_X2_sumOfShares ⟨Nat.le_of_ble_eq_true rfl, Nat.le_of_ble_eq_true rfl⟩ (rcT ht) rfl (Nat.le_of_ble_eq_true rfl) dX2_total_53 ⟨Nat.le_of_ble_eq_true rfl, Nat.le_of_ble_eq_true rfl⟩) ?_
  exact v_iret C dX2_total_56 rfl rfl
set_option maxHeartbeats 4000000 in
set_option maxRecDepth 100000 in
theorem c_X2_total_8 {l : Launch} {P : L5} {D : va_G} {N F T : Nat → Nat → Int32} {K : Nat → Int32} {A : Nat → Nat → Int32} {w : Int64} {t : Nat} (ht : t < 2) {c : Nat} (hc : T t 1 = nI c) (h12 : c ≤ 12) : CtI l yX2_total cX2_total 2 .int 4 0 0 P D (nW P) (nW P) False (cw P N F T K A w) (cw P N F T K A w) [.ref (rT P t), .int 8] (totN N F T t c 8) := by
  refine mk_Met pl_X2 [(0, .ref (rT P t)), (1, .int 8)] rfl (Nat.le_of_ble_eq_true rfl) ?_
  intro pg en sg mg ag bg mt cd C
  refine v_iload_n C 1 dX2_total_0 rfl ?_
  refine v_lookup (tgt := 51) C dX2_total_1 (by decide) rfl (by decide) ?_
  refine v_aload_n C 0 dX2_total_51 rfl ?_
  refine v_iload_n C 1 dX2_total_52 rfl ?_
  refine go_I (run_V C (c_X2_sumOfShares_8 ht hc h12) k_179 k_2 k_176 k_178 ks_7 dd_X2_sumOfShares ⟨Nat.le_of_ble_eq_true rfl, Nat.le_of_ble_eq_true rfl⟩ (rcT ht) rfl (Nat.le_of_ble_eq_true rfl) dX2_total_53 ⟨Nat.le_of_ble_eq_true rfl, Nat.le_of_ble_eq_true rfl⟩) ?_
  exact v_iret C dX2_total_56 rfl rfl
set_option maxHeartbeats 4000000 in
set_option maxRecDepth 100000 in
theorem c_X2_total_9 {l : Launch} {P : L5} {D : va_G} {N F T : Nat → Nat → Int32} {K : Nat → Int32} {A : Nat → Nat → Int32} {w : Int64} {t : Nat} (ht : t < 2) {c : Nat} (hc : T t 1 = nI c) (h12 : c ≤ 12) : CtI l yX2_total cX2_total 2 .int 4 0 0 P D (nW P) (nW P) False (cw P N F T K A w) (cw P N F T K A w) [.ref (rT P t), .int 9] (totN N F T t c 9) := by
  refine mk_Met pl_X2 [(0, .ref (rT P t)), (1, .int 9)] rfl (Nat.le_of_ble_eq_true rfl) ?_
  intro pg en sg mg ag bg mt cd C
  refine v_iload_n C 1 dX2_total_0 rfl ?_
  refine v_lookup (tgt := 51) C dX2_total_1 (by decide) rfl (by decide) ?_
  refine v_aload_n C 0 dX2_total_51 rfl ?_
  refine v_iload_n C 1 dX2_total_52 rfl ?_
  refine go_I (run_V C (c_X2_sumOfShares_9 ht hc h12) k_179 k_2 k_176 k_178 ks_7 dd_X2_sumOfShares ⟨Nat.le_of_ble_eq_true rfl, Nat.le_of_ble_eq_true rfl⟩ (rcT ht) rfl (Nat.le_of_ble_eq_true rfl) dX2_total_53 ⟨Nat.le_of_ble_eq_true rfl, Nat.le_of_ble_eq_true rfl⟩) ?_
  exact v_iret C dX2_total_56 rfl rfl
set_option maxHeartbeats 4000000 in
set_option maxRecDepth 100000 in
theorem c_X2_total_10 {l : Launch} {P : L5} {D : va_G} {N F T : Nat → Nat → Int32} {K : Nat → Int32} {A : Nat → Nat → Int32} {w : Int64} {t : Nat} (ht : t < 2) {c : Nat} (hc : T t 1 = nI c) (h12 : c ≤ 12) : CtI l yX2_total cX2_total 2 .int 4 0 0 P D (nW P) (nW P) False (cw P N F T K A w) (cw P N F T K A w) [.ref (rT P t), .int 10] (totN N F T t c 10) := by
  refine mk_Met pl_X2 [(0, .ref (rT P t)), (1, .int 10)] rfl (Nat.le_of_ble_eq_true rfl) ?_
  intro pg en sg mg ag bg mt cd C
  refine v_iload_n C 1 dX2_total_0 rfl ?_
  refine v_lookup (tgt := 51) C dX2_total_1 (by decide) rfl (by decide) ?_
  refine v_aload_n C 0 dX2_total_51 rfl ?_
  refine v_iload_n C 1 dX2_total_52 rfl ?_
  refine go_I (run_V C (c_X2_sumOfShares_10 ht hc h12) k_179 k_2 k_176 k_178 ks_7 dd_X2_sumOfShares ⟨Nat.le_of_ble_eq_true rfl, Nat.le_of_ble_eq_true rfl⟩ (rcT ht) rfl (Nat.le_of_ble_eq_true rfl) dX2_total_53 ⟨Nat.le_of_ble_eq_true rfl, Nat.le_of_ble_eq_true rfl⟩) ?_
  exact v_iret C dX2_total_56 rfl rfl
set_option maxHeartbeats 4000000 in
set_option maxRecDepth 100000 in
theorem c_X2_workersFor {l : Launch} {P : L5} {D : va_G} {N F T : Nat → Nat → Int32} {K : Nat → Int32} {A : Nat → Nat → Int32} {w : Int64} {t : Nat} (ht : t < 2) {c : Nat} (hc : T t 1 = nI c) (h12 : c ≤ 12) {q : Int32} : CtI l yX2_workersFor cX2_workersFor 4 .int 1 0 0 P D (nW P) (nW P) False (cw P N F T K A w) (cw P N F T K A w) [.ref (rT P t), .int q] (wkF (c + 1) q c (12 * t) 0 N 0) := by
  refine mk_Met pl_X2 [(0, .ref (rT P t)), (1, .int q)] rfl (Nat.le_of_ble_eq_true rfl) ?_
  intro pg en sg mg ag bg mt cd C
  refine v_iconst (v := 0) C dX2_workersFor_0 rfl ?_
  refine v_istore_n (lv' := [(2, .int 0), (0, .ref (rT P t)), (1, .int q)]) C dX2_workersFor_1 rfl (by decide) rfl ?_
  refine v_iconst (v := 0) C dX2_workersFor_2 rfl ?_
  refine v_istore_n (lv' := [(3, .int 0), (2, .int 0), (0, .ref (rT P t)), (1, .int q)]) C dX2_workersFor_3 rfl (by decide) rfl ?_
  have L_1 : ∀ (n : Nat) (i : Nat) (sm : Int32), i ≤ c → c < i + n → V pg l en (rmO 1 0 0) sg mg ag bg mt cd P D (MQ bg (QcI P D (nW P) False (cw P N F T K A w) (wkF (c + 1) q c (12 * t) 0 N 0)) ag sg 0 0 (aO P)) 4 (nW P) False (cw P N F T K A w) 0 0 34 [(2, .int (wkF n q c (12 * t) i N sm))] [] → V pg l en (rmO 1 0 0) sg mg ag bg mt cd P D (MQ bg (QcI P D (nW P) False (cw P N F T K A w) (wkF (c + 1) q c (12 * t) 0 N 0)) ag sg 0 0 (aO P)) 4 (nW P) False (cw P N F T K A w) 0 0 4 [(3, .int (nI i)), (2, .int sm), (0, .ref (rT P t)), (1, .int q)] [] := by
    intro n
    induction n with
    | zero => intro i sm h1 h2; omega
    | succ n ih =>
      intro i sm h1 h2 hk9
      refine v_iload_n C 0 dX2_workersFor_4 rfl ?_
      refine v_aload_n C 2 dX2_workersFor_5 rfl ?_
      refine v_gTu C ht 1 (by decide) k_409 rfl dX2_workersFor_6 ?_
      refine v_icmp_ge (tgt := 34) C dX2_workersFor_9 (by decide) (fun h9_1 => ?_) (fun h9_1 => ?_)
      · refine v_lv [1] rfl ?_
        have hic : c ≤ i := (leC hc h12 h1).mp h9_1
        have e9 : wkF (n + 1) q c (12 * t) i N sm = sm := by rw [wkF, if_pos hic]
        rw [e9] at hk9
        exact hk9
      · have hic : i < c := Nat.not_le.mp (fun q => h9_1 ((leC hc h12 h1).mpr q))
        refine v_aload_n C 2 dX2_workersFor_12 rfl ?_
        refine v_gTu C ht 2 (by decide) k_411 rfl dX2_workersFor_13 ?_
        refine v_iload_n C 0 dX2_workersFor_16 rfl ?_
        refine v_aaNk C i ht (nI_clamp (by omega)) (vp_in_nI (by omega) (by omega)) dX2_workersFor_17 ?_
        refine v_gNuN C (by omega) 2 (by decide) (List.mem_of_getElem? (i := 1) rfl) rfl dX2_workersFor_18 ?_
        refine v_iload_n C 3 dX2_workersFor_21 rfl ?_
        refine v_icmp_ne (tgt := 28) C dX2_workersFor_22 (by decide) (fun h22_1 => ?_) (fun h22_1 => ?_)
        · refine v_iinc (b := (nI (i + 1))) (lv' := [(3, .int (nI (i + 1))), (2, .int sm), (0, .ref (rT P t)), (1, .int q)]) C 0 dX2_workersFor_28 rfl (nI_1 _) (by decide) rfl ?_
          refine v_goto (tgt := 4) C dX2_workersFor_31 (by decide) ?_
          have e9 : wkF (n + 1) q c (12 * t) i N sm = wkF n q c (12 * t) (i + 1) N sm := by rw [wkF, if_neg (by omega), if_neg (by exact h22_1)]
          rw [e9] at hk9
          exact ih _ _ (by omega) (by omega) hk9
        · obtain ⟨x_1, ex_1⟩ : ∃ y : Int32, y = sm + 1 := ⟨_, rfl⟩
          refine v_iinc (b := x_1) (lv' := [(2, .int x_1), (3, .int (nI i)), (0, .ref (rT P t)), (1, .int q)]) C 1 dX2_workersFor_25 rfl (by rw [ex_1]; rfl) (by decide) rfl ?_
          refine v_iinc (b := (nI (i + 1))) (lv' := [(3, .int (nI (i + 1))), (2, .int x_1), (0, .ref (rT P t)), (1, .int q)]) C 1 dX2_workersFor_28 rfl (nI_1 _) (by decide) rfl ?_
          refine v_goto (tgt := 4) C dX2_workersFor_31 (by decide) ?_
          have e9 : wkF (n + 1) q c (12 * t) i N sm = wkF n q c (12 * t) (i + 1) N (sm + 1) := by rw [wkF, if_neg (by omega), if_pos (by exact h22_1)]
          rw [e9] at hk9
          subst ex_1
          exact ih _ _ (by omega) (by omega) hk9
  refine L_1 (c + 1) 0 0 (by omega) (by omega) ?_
  refine v_iload_n C 0 dX2_workersFor_34 rfl ?_
  exact v_iret C dX2_workersFor_35 rfl rfl
set_option maxHeartbeats 4000000 in
set_option maxRecDepth 100000 in
theorem c_X2_foggerNumber_0 {l : Launch} {P : L5} {D : va_G} {N F T : Nat → Nat → Int32} {K : Nat → Int32} {A : Nat → Nat → Int32} {w : Int64} {t : Nat} (ht : t < 2) {c : Nat} (hc : T t 1 = nI c) (h12 : c ≤ 12) {q : Int32} (hq : vp_in q 4) : CtI l yX2_foggerNumber cX2_foggerNumber 3 .int 2 0 0 P D (nW P) (nW P) False (cw P N F T K A w) (cw P N F T K A w) [.ref (rT P t), .int q, .int 0] (fogN N F t c q 0) := by
  refine mk_Met pl_X2 [(0, .ref (rT P t)), (1, .int q), (2, .int 0)] rfl (Nat.le_of_ble_eq_true rfl) ?_
  intro pg en sg mg ag bg mt cd C
  have h4 := pk_lt4 hq
  refine v_iload_n C 2 dX2_foggerNumber_0 rfl ?_
  refine v_tableIn (tgt := 36) C dX2_foggerNumber_1 (by decide) (by decide) rfl (by decide) ?_
  refine v_aload_n C 0 dX2_foggerNumber_36 rfl ?_
  refine v_gTu C ht 3 (by decide) k_413 rfl dX2_foggerNumber_37 ?_
  refine v_iload_n C 1 dX2_foggerNumber_40 rfl ?_
  refine v_aaFk C q.toNatClampNeg ht rfl hq dX2_foggerNumber_41 ?_
  refine v_gFuN C (by omega) 0 (by decide) (List.mem_of_getElem? (i := 14) rfl) rfl dX2_foggerNumber_42 ?_
  exact v_iret C dX2_foggerNumber_45 rfl rfl
set_option maxHeartbeats 4000000 in
set_option maxRecDepth 100000 in
theorem c_X2_foggerNumber_1 {l : Launch} {P : L5} {D : va_G} {N F T : Nat → Nat → Int32} {K : Nat → Int32} {A : Nat → Nat → Int32} {w : Int64} {t : Nat} (ht : t < 2) {c : Nat} (hc : T t 1 = nI c) (h12 : c ≤ 12) {q : Int32} (hq : vp_in q 4) : CtI l yX2_foggerNumber cX2_foggerNumber 3 .int 2 0 0 P D (nW P) (nW P) False (cw P N F T K A w) (cw P N F T K A w) [.ref (rT P t), .int q, .int 1] (fogN N F t c q 1) := by
  refine mk_Met pl_X2 [(0, .ref (rT P t)), (1, .int q), (2, .int 1)] rfl (Nat.le_of_ble_eq_true rfl) ?_
  intro pg en sg mg ag bg mt cd C
  have h4 := pk_lt4 hq
  refine v_iload_n C 2 dX2_foggerNumber_0 rfl ?_
  refine v_tableIn (tgt := 46) C dX2_foggerNumber_1 (by decide) (by decide) rfl (by decide) ?_
  refine v_aload_n C 0 dX2_foggerNumber_46 rfl ?_
  refine v_gTu C ht 3 (by decide) k_413 rfl dX2_foggerNumber_47 ?_
  refine v_iload_n C 1 dX2_foggerNumber_50 rfl ?_
  refine v_aaFk C q.toNatClampNeg ht rfl hq dX2_foggerNumber_51 ?_
  refine v_gFuN C (by omega) 1 (by decide) (List.mem_of_getElem? (i := 15) rfl) rfl dX2_foggerNumber_52 ?_
  exact v_iret C dX2_foggerNumber_55 rfl rfl
set_option maxHeartbeats 4000000 in
set_option maxRecDepth 100000 in
theorem c_X2_foggerNumber_2 {l : Launch} {P : L5} {D : va_G} {N F T : Nat → Nat → Int32} {K : Nat → Int32} {A : Nat → Nat → Int32} {w : Int64} {t : Nat} (ht : t < 2) {c : Nat} (hc : T t 1 = nI c) (h12 : c ≤ 12) {q : Int32} (hq : vp_in q 4) : CtI l yX2_foggerNumber cX2_foggerNumber 3 .int 2 0 0 P D (nW P) (nW P) False (cw P N F T K A w) (cw P N F T K A w) [.ref (rT P t), .int q, .int 2] (fogN N F t c q 2) := by
  refine mk_Met pl_X2 [(0, .ref (rT P t)), (1, .int q), (2, .int 2)] rfl (Nat.le_of_ble_eq_true rfl) ?_
  intro pg en sg mg ag bg mt cd C
  have h4 := pk_lt4 hq
  refine v_iload_n C 2 dX2_foggerNumber_0 rfl ?_
  refine v_tableIn (tgt := 56) C dX2_foggerNumber_1 (by decide) (by decide) rfl (by decide) ?_
  refine v_aload_n C 0 dX2_foggerNumber_56 rfl ?_
  refine v_iload_n C 1 dX2_foggerNumber_57 rfl ?_
  refine go_I (run_V C (c_X2_workersFor ht hc h12) k_163 k_2 k_160 k_162 ks_4 dd_X2_workersFor ⟨Nat.le_of_ble_eq_true rfl, Nat.le_of_ble_eq_true rfl⟩ (rcT ht) rfl (Nat.le_of_ble_eq_true rfl) dX2_foggerNumber_58 ⟨Nat.le_of_ble_eq_true rfl, Nat.le_of_ble_eq_true rfl⟩) ?_
  exact v_iret C dX2_foggerNumber_61 rfl rfl
set_option maxHeartbeats 4000000 in
set_option maxRecDepth 100000 in
theorem c_X2_foggerNumber_3 {l : Launch} {P : L5} {D : va_G} {N F T : Nat → Nat → Int32} {K : Nat → Int32} {A : Nat → Nat → Int32} {w : Int64} {t : Nat} (ht : t < 2) {c : Nat} (hc : T t 1 = nI c) (h12 : c ≤ 12) {q : Int32} (hq : vp_in q 4) : CtI l yX2_foggerNumber cX2_foggerNumber 3 .int 2 0 0 P D (nW P) (nW P) False (cw P N F T K A w) (cw P N F T K A w) [.ref (rT P t), .int q, .int 3] (fogN N F t c q 3) := by
  refine mk_Met pl_X2 [(0, .ref (rT P t)), (1, .int q), (2, .int 3)] rfl (Nat.le_of_ble_eq_true rfl) ?_
  intro pg en sg mg ag bg mt cd C
  have h4 := pk_lt4 hq
  refine v_iload_n C 2 dX2_foggerNumber_0 rfl ?_
  refine v_tableIn (tgt := 62) C dX2_foggerNumber_1 (by decide) (by decide) rfl (by decide) ?_
  refine v_aload_n C 0 dX2_foggerNumber_62 rfl ?_
  refine v_gTu C ht 3 (by decide) k_413 rfl dX2_foggerNumber_63 ?_
  refine v_iload_n C 1 dX2_foggerNumber_66 rfl ?_
  refine v_aaFk C q.toNatClampNeg ht rfl hq dX2_foggerNumber_67 ?_
  refine v_gFuN C (by omega) 2 (by decide) (List.mem_of_getElem? (i := 16) rfl) rfl dX2_foggerNumber_68 ?_
  exact v_iret C dX2_foggerNumber_71 rfl rfl
set_option maxHeartbeats 4000000 in
set_option maxRecDepth 100000 in
theorem c_X2_foggerNumber_4 {l : Launch} {P : L5} {D : va_G} {N F T : Nat → Nat → Int32} {K : Nat → Int32} {A : Nat → Nat → Int32} {w : Int64} {t : Nat} (ht : t < 2) {c : Nat} (hc : T t 1 = nI c) (h12 : c ≤ 12) {q : Int32} (hq : vp_in q 4) : CtI l yX2_foggerNumber cX2_foggerNumber 3 .int 2 0 0 P D (nW P) (nW P) False (cw P N F T K A w) (cw P N F T K A w) [.ref (rT P t), .int q, .int 4] (fogN N F t c q 4) := by
  refine mk_Met pl_X2 [(0, .ref (rT P t)), (1, .int q), (2, .int 4)] rfl (Nat.le_of_ble_eq_true rfl) ?_
  intro pg en sg mg ag bg mt cd C
  have h4 := pk_lt4 hq
  refine v_iload_n C 2 dX2_foggerNumber_0 rfl ?_
  refine v_tableIn (tgt := 72) C dX2_foggerNumber_1 (by decide) (by decide) rfl (by decide) ?_
  refine v_aload_n C 0 dX2_foggerNumber_72 rfl ?_
  refine v_gTu C ht 3 (by decide) k_413 rfl dX2_foggerNumber_73 ?_
  refine v_iload_n C 1 dX2_foggerNumber_76 rfl ?_
  refine v_aaFk C q.toNatClampNeg ht rfl hq dX2_foggerNumber_77 ?_
  refine v_gFuN C (by omega) 3 (by decide) (List.mem_of_getElem? (i := 17) rfl) rfl dX2_foggerNumber_78 ?_
  exact v_iret C dX2_foggerNumber_81 rfl rfl
set_option maxHeartbeats 4000000 in
set_option maxRecDepth 100000 in
theorem c_X2_foggerNumber_5 {l : Launch} {P : L5} {D : va_G} {N F T : Nat → Nat → Int32} {K : Nat → Int32} {A : Nat → Nat → Int32} {w : Int64} {t : Nat} (ht : t < 2) {c : Nat} (hc : T t 1 = nI c) (h12 : c ≤ 12) {q : Int32} (hq : vp_in q 4) : CtI l yX2_foggerNumber cX2_foggerNumber 3 .int 2 0 0 P D (nW P) (nW P) False (cw P N F T K A w) (cw P N F T K A w) [.ref (rT P t), .int q, .int 5] (fogN N F t c q 5) := by
  refine mk_Met pl_X2 [(0, .ref (rT P t)), (1, .int q), (2, .int 5)] rfl (Nat.le_of_ble_eq_true rfl) ?_
  intro pg en sg mg ag bg mt cd C
  have h4 := pk_lt4 hq
  refine v_iload_n C 2 dX2_foggerNumber_0 rfl ?_
  refine v_tableOut (tgt := 82) C dX2_foggerNumber_1 (by decide) (by decide) ?_
  refine v_aload_n C 0 dX2_foggerNumber_82 rfl ?_
  refine v_gTu C ht 3 (by decide) k_413 rfl dX2_foggerNumber_83 ?_
  refine v_iload_n C 1 dX2_foggerNumber_86 rfl ?_
  refine v_aaFk C q.toNatClampNeg ht rfl hq dX2_foggerNumber_87 ?_
  refine v_gFuN C (by omega) 4 (by decide) (List.mem_of_getElem? (i := 18) rfl) rfl dX2_foggerNumber_88 ?_
  refine v_aload_n C 0 dX2_foggerNumber_91 rfl ?_
  refine v_gTu C ht 3 (by decide) k_413 rfl dX2_foggerNumber_92 ?_
  refine v_iload_n C 1 dX2_foggerNumber_95 rfl ?_
  refine v_aaFk C q.toNatClampNeg ht rfl hq dX2_foggerNumber_96 ?_
  refine v_gFuN C (by omega) 3 (by decide) (List.mem_of_getElem? (i := 17) rfl) rfl dX2_foggerNumber_97 ?_
  refine v_isub C dX2_foggerNumber_100 ?_
  exact v_iret C dX2_foggerNumber_101 rfl rfl
theorem lt2 {p : Nat → Prop} (h : p 0 ∧ p 1) : ∀ k, k < 2 → p k := by
  intro k hk
  rcases (show k = 0 ∨ k = 1 by omega) with rfl | rfl
  · exact h.1
  · exact h.2
set_option maxHeartbeats 4000000 in
set_option maxRecDepth 100000 in
theorem c_X2_copyFrom {l : Launch} {P : L5} {D : va_G} {N F T : Nat → Nat → Int32} {K : Nat → Int32} {A : Nat → Nat → Int32} {w : Int64} {t u : Nat} (ht : t < 2) (hu : u < 2) (hne : u ≠ t) {c : Nat} (hc : T u 1 = nI c) (h12 : c ≤ 12) : CtV l yX2_copyFrom cX2_copyFrom 3 2 0 0 P D (nW P) (nW P) False (cw P N F T K A w) (cw P (cpN (c + 1) c (12 * t) (12 * u) 0 N) (cp4 F (4 * t) (4 * u)) (va_up T t (T u)) K A w) [.ref (rT P t), .ref (rT P u)] := by
  refine mk_Met pl_X2 [(0, .ref (rT P t)), (1, .ref (rT P u))] rfl (Nat.le_of_ble_eq_true rfl) ?_
  intro pg en sg mg ag bg mt cd C
  have ht9 : t ≠ u := fun z => hne z.symm
  refine v_eq (f' := cw P N F (va_up T t (T t)) K A w) (by rw [va_up_eta]) ?_
  refine v_aload_n C 0 dX2_copyFrom_0 rfl ?_
  refine v_aload_n C 1 dX2_copyFrom_1 rfl ?_
  refine v_gTu C hu 0 (by decide) k_408 (by rw [va_up_ne _ _ hne]; rfl) dX2_copyFrom_2 ?_
  refine v_pT C ht 0 (by decide) k_408 dX2_copyFrom_5 ?_
  refine v_aload_n C 0 dX2_copyFrom_8 rfl ?_
  refine v_aload_n C 1 dX2_copyFrom_9 rfl ?_
  refine v_gTu C hu 1 (by decide) k_409 (by rw [va_up_ne _ _ hne]; rfl) dX2_copyFrom_10 ?_
  refine v_pT C ht 1 (by decide) k_409 dX2_copyFrom_13 ?_
  refine v_iconst (v := 0) C dX2_copyFrom_16 rfl ?_
  refine v_istore_n (lv' := [(2, .int 0), (0, .ref (rT P t)), (1, .ref (rT P u))]) C dX2_copyFrom_17 rfl (by decide) rfl ?_
  have L_1 : ∀ (n : Nat) (i : Nat) (N9 : Nat → Nat → Int32), i ≤ c → c < i + n → V pg l en (rmO 2 0 0) sg mg ag bg mt cd P D (MQ bg (QcV P D (nW P) False (cw P (cpN (c + 1) c (12 * t) (12 * u) 0 N) (cp4 F (4 * t) (4 * u)) (va_up T t (T u)) K A w)) ag sg 0 0 (aO P)) 3 (nW P) False (cw P (cpN n c (12 * t) (12 * u) i N9) F (va_up T t (T u)) K A w) 0 0 47 [(0, .ref (rT P t)), (1, .ref (rT P u))] [] → V pg l en (rmO 2 0 0) sg mg ag bg mt cd P D (MQ bg (QcV P D (nW P) False (cw P (cpN (c + 1) c (12 * t) (12 * u) 0 N) (cp4 F (4 * t) (4 * u)) (va_up T t (T u)) K A w)) ag sg 0 0 (aO P)) 3 (nW P) False (cw P N9 F (va_up T t (T u)) K A w) 0 0 18 [(2, .int (nI i)), (0, .ref (rT P t)), (1, .ref (rT P u))] [] := by
    intro n
    induction n with
    | zero => intro i N9 h1 h2; omega
    | succ n ih =>
      intro i N9 h1 h2 hk9
      refine v_iload_n C 0 dX2_copyFrom_18 rfl ?_
      refine v_aload_n C 1 dX2_copyFrom_19 rfl ?_
      refine v_gT C ht 1 (by decide) k_409 rfl dX2_copyFrom_20 ?_
      refine v_icmp_ge (tgt := 47) C dX2_copyFrom_23 (by decide) (fun h23_1 => ?_) (fun h23_1 => ?_)
      · refine v_lv [1, 2] rfl ?_
        have hic : c ≤ i := (leC hc h12 h1).mp h23_1
        have e9 : cpN (n + 1) c (12 * t) (12 * u) i N9 = N9 := by rw [cpN, if_pos hic]
        rw [e9] at hk9
        exact hk9
      · have hic : i < c := Nat.not_le.mp (fun q => h23_1 ((leC hc h12 h1).mpr q))
        refine v_aload_n C 1 dX2_copyFrom_26 rfl ?_
        refine v_gT C ht 2 (by decide) k_411 rfl dX2_copyFrom_27 ?_
        refine v_iload_n C 0 dX2_copyFrom_30 rfl ?_
        refine v_aaNk C i ht (nI_clamp (by omega)) (vp_in_nI (by omega) (by omega)) dX2_copyFrom_31 ?_
        refine v_aload_n C 2 dX2_copyFrom_32 rfl ?_
        refine v_gTu C hu 2 (by decide) k_411 (by rw [va_up_ne _ _ hne]; rfl) dX2_copyFrom_33 ?_
        refine v_iload_n C 0 dX2_copyFrom_36 rfl ?_
        refine v_aaNk C i hu (nI_clamp (by omega)) (vp_in_nI (by omega) (by omega)) dX2_copyFrom_37 ?_
        refine go_V (run_VN C (u_X1_copyFrom (by omega) (by omega) (by omega)) k_254 k_3 (List.mem_of_getElem? (i := 18) rfl) k_253 ks_20 dd_X1_copyFrom ⟨Nat.le_of_ble_eq_true rfl, Nat.le_of_ble_eq_true rfl⟩ (rcN (by omega)) rfl (Nat.le_of_ble_eq_true rfl) dX2_copyFrom_38 ⟨Nat.le_of_ble_eq_true rfl, Nat.le_of_ble_eq_true rfl⟩) ?_
        refine v_iinc (b := (nI (i + 1))) (lv' := [(2, .int (nI (i + 1))), (0, .ref (rT P t)), (1, .ref (rT P u))]) C 0 dX2_copyFrom_41 rfl (nI_1 _) (by decide) rfl ?_
        refine v_goto (tgt := 18) C dX2_copyFrom_44 (by decide) ?_
        have e9 : cpN (n + 1) c (12 * t) (12 * u) i N9 = cpN n c (12 * t) (12 * u) (i + 1) (va_up N9 (12 * t + i) (N9 (12 * u + i))) := by rw [cpN, if_neg (by omega)]
        rw [e9] at hk9
        exact ih _ _ (by omega) (by omega) hk9
  refine v_eq (f' := (cw P N F (va_up T t (T u)) K A w)) (cw_cT (lt2 ⟨rfl, rfl⟩)) ?_
  refine L_1 (c + 1) 0 N (by omega) (by omega) ?_
  refine v_iconst (v := 0) C dX2_copyFrom_47 rfl ?_
  refine v_istore_n (lv' := [(2, .int 0), (0, .ref (rT P t)), (1, .ref (rT P u))]) C dX2_copyFrom_48 rfl (by decide) rfl ?_
  refine v_iload_n C 0 dX2_copyFrom_49 rfl ?_
  refine v_iconst (v := 4) C dX2_copyFrom_50 rfl ?_
  refine v_icmp_ge (tgt := 75) C dX2_copyFrom_51 (by decide) (fun h9 => absurd h9 (by decide)) (fun _ => ?_)
  refine v_aload_n C 1 dX2_copyFrom_54 rfl ?_
  refine v_gT C ht 3 (by decide) k_413 rfl dX2_copyFrom_55 ?_
  refine v_iload_n C 0 dX2_copyFrom_58 rfl ?_
  refine v_aaFk C 0 ht tn_0 in4_0 dX2_copyFrom_59 ?_
  refine v_aload_n C 2 dX2_copyFrom_60 rfl ?_
  refine v_gTu C hu 3 (by decide) k_413 (by rw [va_up_ne _ _ hne]; rfl) dX2_copyFrom_61 ?_
  refine v_iload_n C 0 dX2_copyFrom_64 rfl ?_
  refine v_aaFk C 0 hu tn_0 in4_0 dX2_copyFrom_65 ?_
  refine go_V (run_VN C (u_X0_copyFrom (by omega) (by omega) (by omega)) k_273 k_4 (List.mem_of_getElem? (i := 19) rfl) k_272 ks_23 dd_X0_copyFrom ⟨Nat.le_of_ble_eq_true rfl, Nat.le_of_ble_eq_true rfl⟩ (rcF (by omega)) rfl (Nat.le_of_ble_eq_true rfl) dX2_copyFrom_66 ⟨Nat.le_of_ble_eq_true rfl, Nat.le_of_ble_eq_true rfl⟩) ?_
  refine v_iinc (b := 1) (lv' := [(2, .int 1), (0, .ref (rT P t)), (1, .ref (rT P u))]) C 0 dX2_copyFrom_69 rfl rfl (by decide) rfl ?_
  refine v_goto (tgt := 49) C dX2_copyFrom_72 (by decide) ?_
  refine v_iload_n C 0 dX2_copyFrom_49 rfl ?_
  refine v_iconst (v := 4) C dX2_copyFrom_50 rfl ?_
  refine v_icmp_ge (tgt := 75) C dX2_copyFrom_51 (by decide) (fun h9 => absurd h9 (by decide)) (fun _ => ?_)
  refine v_aload_n C 1 dX2_copyFrom_54 rfl ?_
  refine v_gT C ht 3 (by decide) k_413 rfl dX2_copyFrom_55 ?_
  refine v_iload_n C 0 dX2_copyFrom_58 rfl ?_
  refine v_aaFk C 1 ht tn_1 in4_1 dX2_copyFrom_59 ?_
  refine v_aload_n C 2 dX2_copyFrom_60 rfl ?_
  refine v_gTu C hu 3 (by decide) k_413 (by rw [va_up_ne _ _ hne]; rfl) dX2_copyFrom_61 ?_
  refine v_iload_n C 0 dX2_copyFrom_64 rfl ?_
  refine v_aaFk C 1 hu tn_1 in4_1 dX2_copyFrom_65 ?_
  refine go_V (run_VN C (u_X0_copyFrom (by omega) (by omega) (by omega)) k_273 k_4 (List.mem_of_getElem? (i := 19) rfl) k_272 ks_23 dd_X0_copyFrom ⟨Nat.le_of_ble_eq_true rfl, Nat.le_of_ble_eq_true rfl⟩ (rcF (by omega)) rfl (Nat.le_of_ble_eq_true rfl) dX2_copyFrom_66 ⟨Nat.le_of_ble_eq_true rfl, Nat.le_of_ble_eq_true rfl⟩) ?_
  refine v_iinc (b := 2) (lv' := [(2, .int 2), (0, .ref (rT P t)), (1, .ref (rT P u))]) C 0 dX2_copyFrom_69 rfl rfl (by decide) rfl ?_
  refine v_goto (tgt := 49) C dX2_copyFrom_72 (by decide) ?_
  refine v_iload_n C 0 dX2_copyFrom_49 rfl ?_
  refine v_iconst (v := 4) C dX2_copyFrom_50 rfl ?_
  refine v_icmp_ge (tgt := 75) C dX2_copyFrom_51 (by decide) (fun h9 => absurd h9 (by decide)) (fun _ => ?_)
  refine v_aload_n C 1 dX2_copyFrom_54 rfl ?_
  refine v_gT C ht 3 (by decide) k_413 rfl dX2_copyFrom_55 ?_
  refine v_iload_n C 0 dX2_copyFrom_58 rfl ?_
  refine v_aaFk C 2 ht tn_2 in4_2 dX2_copyFrom_59 ?_
  refine v_aload_n C 2 dX2_copyFrom_60 rfl ?_
  refine v_gTu C hu 3 (by decide) k_413 (by rw [va_up_ne _ _ hne]; rfl) dX2_copyFrom_61 ?_
  refine v_iload_n C 0 dX2_copyFrom_64 rfl ?_
  refine v_aaFk C 2 hu tn_2 in4_2 dX2_copyFrom_65 ?_
  refine go_V (run_VN C (u_X0_copyFrom (by omega) (by omega) (by omega)) k_273 k_4 (List.mem_of_getElem? (i := 19) rfl) k_272 ks_23 dd_X0_copyFrom ⟨Nat.le_of_ble_eq_true rfl, Nat.le_of_ble_eq_true rfl⟩ (rcF (by omega)) rfl (Nat.le_of_ble_eq_true rfl) dX2_copyFrom_66 ⟨Nat.le_of_ble_eq_true rfl, Nat.le_of_ble_eq_true rfl⟩) ?_
  refine v_iinc (b := 3) (lv' := [(2, .int 3), (0, .ref (rT P t)), (1, .ref (rT P u))]) C 0 dX2_copyFrom_69 rfl rfl (by decide) rfl ?_
  refine v_goto (tgt := 49) C dX2_copyFrom_72 (by decide) ?_
  refine v_iload_n C 0 dX2_copyFrom_49 rfl ?_
  refine v_iconst (v := 4) C dX2_copyFrom_50 rfl ?_
  refine v_icmp_ge (tgt := 75) C dX2_copyFrom_51 (by decide) (fun h9 => absurd h9 (by decide)) (fun _ => ?_)
  refine v_aload_n C 1 dX2_copyFrom_54 rfl ?_
  refine v_gT C ht 3 (by decide) k_413 rfl dX2_copyFrom_55 ?_
  refine v_iload_n C 0 dX2_copyFrom_58 rfl ?_
  refine v_aaFk C 3 ht tn_3 in4_3 dX2_copyFrom_59 ?_
  refine v_aload_n C 2 dX2_copyFrom_60 rfl ?_
  refine v_gTu C hu 3 (by decide) k_413 (by rw [va_up_ne _ _ hne]; rfl) dX2_copyFrom_61 ?_
  refine v_iload_n C 0 dX2_copyFrom_64 rfl ?_
  refine v_aaFk C 3 hu tn_3 in4_3 dX2_copyFrom_65 ?_
  refine go_V (run_VN C (u_X0_copyFrom (by omega) (by omega) (by omega)) k_273 k_4 (List.mem_of_getElem? (i := 19) rfl) k_272 ks_23 dd_X0_copyFrom ⟨Nat.le_of_ble_eq_true rfl, Nat.le_of_ble_eq_true rfl⟩ (rcF (by omega)) rfl (Nat.le_of_ble_eq_true rfl) dX2_copyFrom_66 ⟨Nat.le_of_ble_eq_true rfl, Nat.le_of_ble_eq_true rfl⟩) ?_
  refine v_iinc (b := 4) (lv' := [(2, .int 4), (0, .ref (rT P t)), (1, .ref (rT P u))]) C 0 dX2_copyFrom_69 rfl rfl (by decide) rfl ?_
  refine v_goto (tgt := 49) C dX2_copyFrom_72 (by decide) ?_
  refine v_iload_n C 0 dX2_copyFrom_49 rfl ?_
  refine v_iconst (v := 4) C dX2_copyFrom_50 rfl ?_
  refine v_icmp_ge (tgt := 75) C dX2_copyFrom_51 (by decide) (fun _ => ?_) (fun h9 => absurd (by decide) h9)
  exact v_vret C dX2_copyFrom_75 rfl
