/-! THE CLASS NAILER: contracts and walks -/
set_option maxHeartbeats 4000000 in
set_option maxRecDepth 100000 in
theorem c_X1_tendFire {l : Launch} {P : L5} {D : va_G} {j : Nat} (hj : j < 25) {N F T : Nat → Nat → Int32} {K : Nat → Int32} {A : Nat → Nat → Int32} {w : Int64} {v : Nat → Int32} : CtV l yX1_tendFire cX1_tendFire 1 1 0 0 P D (nW P) (nW P) False (cw P (va_up N j v) F T K A w) (cw P (va_up N j (tend v)) F T K A w) [.ref (rN P j)] := by
  refine mk_Met pl_X1 [(0, .ref (rN P j))] rfl (Nat.le_of_ble_eq_true rfl) ?_
  intro p e s m args below meth c C
  refine v_aload_n C 0 dX1_tendFire_0 rfl ?_
  refine v_gN C hj 6 (by decide) k_331 rfl dX1_tendFire_1 ?_
  refine v_if_le (tgt := 35) C dX1_tendFire_4 (by decide) (fun h4_1 => ?_) (fun h4_1 => ?_)
  · refine v_aload_n C 0 dX1_tendFire_35 rfl ?_
    refine v_aload_n C 0 dX1_tendFire_36 rfl ?_
    refine v_gN C hj 5 (by decide) k_330 rfl dX1_tendFire_37 ?_
    refine v_iconst (v := 3) C dX1_tendFire_40 rfl ?_
    refine v_isub C dX1_tendFire_41 ?_
    refine v_iconst (v := 0) C dX1_tendFire_42 rfl ?_
    refine v_max C dX1_tendFire_43 k_210 k_211 k_11 k_212 (Nat.le_of_ble_eq_true rfl) (Nat.le_of_ble_eq_true rfl) (Nat.le_of_ble_eq_true rfl) (Nat.le_of_ble_eq_true rfl) ?_
    refine v_pN C hj 5 (by decide) k_330 dX1_tendFire_46 ?_
    exact v_vret C dX1_tendFire_49 (by unfold tend; first | (rw [if_pos h4_1]; rfl) | (rw [if_neg h4_1]; rfl))
  · refine v_aload_n C 0 dX1_tendFire_7 rfl ?_
    refine v_dup C dX1_tendFire_8 rfl ?_
    refine v_gN C hj 6 (by decide) k_331 rfl dX1_tendFire_9 ?_
    refine v_iconst (v := 1) C dX1_tendFire_12 rfl ?_
    refine v_isub C dX1_tendFire_13 ?_
    refine v_pN C hj 6 (by decide) k_331 dX1_tendFire_14 ?_
    refine v_aload_n C 0 dX1_tendFire_17 rfl ?_
    refine v_aload_n C 0 dX1_tendFire_18 rfl ?_
    refine v_gN C hj 5 (by decide) k_330 rfl dX1_tendFire_19 ?_
    refine v_iconst (v := 2) C dX1_tendFire_22 rfl ?_
    refine v_iadd C dX1_tendFire_23 ?_
    refine v_bipush (v := 9) C dX1_tendFire_24 rfl ?_
    refine v_min C dX1_tendFire_26 k_207 k_208 k_11 k_209 (Nat.le_of_ble_eq_true rfl) (Nat.le_of_ble_eq_true rfl) (Nat.le_of_ble_eq_true rfl) (Nat.le_of_ble_eq_true rfl) ?_
    refine v_pN C hj 5 (by decide) k_330 dX1_tendFire_29 ?_
    refine v_goto (tgt := 49) C dX1_tendFire_32 (by decide) ?_
    exact v_vret C dX1_tendFire_49 (by unfold tend; first | (rw [if_pos h4_1]; rfl) | (rw [if_neg h4_1]; rfl))
set_option maxHeartbeats 4000000 in
set_option maxRecDepth 100000 in
theorem c_X1_headFromHand {l : Launch} {P : L5} {D : va_G} {j : Nat} (hj : j < 25) {N F T : Nat → Nat → Int32} {K : Nat → Int32} {A : Nat → Nat → Int32} {w : Int64} {v : Nat → Int32} (hk : vp_in (v 1) 4) {most : Int32} : CtI l yX1_headFromHand cX1_headFromHand 3 .int 1 0 0 P D (nW P) (nW P) False (cw P (va_up N j v) F T K A w) (cw P (va_up N j (hfh v most).1) F T K A w) [.ref (rN P j), .int most] (hfh v most).2 := by
  refine mk_Met pl_X1 [(0, .ref (rN P j)), (1, .int most)] rfl (Nat.le_of_ble_eq_true rfl) ?_
  intro p e s m args below meth c C
  refine v_iload_n C 1 dX1_headFromHand_0 rfl ?_
  refine v_aload_n C 0 dX1_headFromHand_1 rfl ?_
  refine v_gN C hj 4 (by decide) k_329 rfl dX1_headFromHand_2 ?_
  refine v_gSN C 0 rfl (List.mem_of_getElem? (i := 22) rfl) dX1_headFromHand_5 ?_
  refine v_aload_n C 0 dX1_headFromHand_8 rfl ?_
  refine v_gN C hj 1 (by decide) k_323 rfl dX1_headFromHand_9 ?_
  refine v_ldS C 0 rfl hk dX1_headFromHand_12 ?_
  refine v_idiv C dX1_headFromHand_13 (ozT_ne _) ?_
  refine v_min C dX1_headFromHand_14 k_207 k_208 k_11 k_209 (Nat.le_of_ble_eq_true rfl) (Nat.le_of_ble_eq_true rfl) (Nat.le_of_ble_eq_true rfl) (Nat.le_of_ble_eq_true rfl) ?_
  refine v_top (fun x_1 ex_1 => ?_)
  refine v_istore_n (lv' := [(2, .int x_1), (0, .ref (rN P j)), (1, .int most)]) C dX1_headFromHand_17 rfl (by decide) rfl ?_
  refine v_aload_n C 1 dX1_headFromHand_18 rfl ?_
  refine v_dup C dX1_headFromHand_19 rfl ?_
  refine v_gN C hj 4 (by decide) k_329 rfl dX1_headFromHand_20 ?_
  refine v_iload_n C 0 dX1_headFromHand_23 rfl ?_
  refine v_gSN C 0 rfl (List.mem_of_getElem? (i := 22) rfl) dX1_headFromHand_24 ?_
  refine v_aload_n C 1 dX1_headFromHand_27 rfl ?_
  refine v_gN C hj 1 (by decide) k_323 rfl dX1_headFromHand_28 ?_
  refine v_ldS C 0 rfl hk dX1_headFromHand_31 ?_
  refine v_imul C dX1_headFromHand_32 ?_
  refine v_isub C dX1_headFromHand_33 ?_
  refine v_pN C hj 4 (by decide) k_329 dX1_headFromHand_34 ?_
  refine v_iload_n C 0 dX1_headFromHand_37 rfl ?_
  exact v_iret C dX1_headFromHand_38 (by rw [ex_1]; rfl) ex_1
set_option maxHeartbeats 4000000 in
set_option maxRecDepth 100000 in
theorem c_X1_head {l : Launch} {P : L5} {D : va_G} {j : Nat} (hj : j < 25) {N F T : Nat → Nat → Int32} {K : Nat → Int32} {A : Nat → Nat → Int32} {w : Int64} {v : Nat → Int32} (hk : vp_in (v 1) 4) {most : Int32} : CtI l yX1_head cX1_head 3 .int 2 0 0 P D (nW P) (nW P) False (cw P (va_up N j v) F T K A w) (cw P (va_up N j (head v most).1) F T K A w) [.ref (rN P j), .int most] (head v most).2 := by
  refine mk_Met pl_X1 [(0, .ref (rN P j)), (1, .int most)] rfl (Nat.le_of_ble_eq_true rfl) ?_
  intro p e s m args below meth c C
  refine v_aload_n C 0 dX1_head_0 rfl ?_
  refine v_iload_n C 1 dX1_head_1 rfl ?_
  refine go_I (run_V C (c_X1_headFromHand hj (by exact hk)) k_220 k_3 k_217 k_219 ks_14 dd_X1_headFromHand ⟨Nat.le_of_ble_eq_true rfl, Nat.le_of_ble_eq_true rfl⟩ (rcN hj) rfl (Nat.le_of_ble_eq_true rfl) dX1_head_2 ⟨Nat.le_of_ble_eq_true rfl, Nat.le_of_ble_eq_true rfl⟩) ?_
  refine v_top (fun x_1 ex_1 => ?_)
  refine v_istore_n (lv' := [(2, .int x_1), (0, .ref (rN P j)), (1, .int most)]) C dX1_head_5 rfl (by decide) rfl ?_
  have LOOP : ∀ (n : Nat) (v : Nat → Int32) (hd : Int32), (v 3).toNatClampNeg < n → vp_in (v 1) 4 → V p l e (rmO 2 0 0) s m args below meth c P D (MQ below (QcI P D (nW P) False (cw P (va_up N j (hlp n most v hd).1) F T K A w) (hlp n most v hd).2) args s 0 0 (aO P)) 3 (nW P) False (cw P (va_up N j v) F T K A w) 0 0 6 [(2, .int hd), (0, .ref (rN P j)), (1, .int most)] [] := by
    intro n
    induction n with
    | zero => intro v hd h9; exact absurd h9 (Nat.not_lt_zero _)
    | succ n ih =>
      intro v hd h9 hk
      refine v_iload_n C 0 dX1_head_6 rfl ?_
      refine v_iload_n C 2 dX1_head_7 rfl ?_
      refine v_icmp_ge (tgt := 61) C dX1_head_8 (by decide) (fun h8_1 => ?_) (fun h8_1 => ?_)
      · refine v_iload_n C 0 dX1_head_61 rfl ?_
        exact v_iret C dX1_head_62 (by rw [hlp, if_pos h8_1]) (by rw [hlp, if_pos h8_1])
      · refine v_aload_n C 1 dX1_head_11 rfl ?_
        refine v_gN C hj 3 (by decide) k_327 rfl dX1_head_12 ?_
        refine v_if_le (tgt := 61) C dX1_head_15 (by decide) (fun h15_1 => ?_) (fun h15_1 => ?_)
        · refine v_iload_n C 0 dX1_head_61 rfl ?_
          exact v_iret C dX1_head_62 (by rw [hlp, if_neg h8_1, if_pos h15_1]) (by rw [hlp, if_neg h8_1, if_pos h15_1])
        · refine v_aload_n C 1 dX1_head_18 rfl ?_
          refine v_dup C dX1_head_19 rfl ?_
          refine v_gN C hj 3 (by decide) k_327 rfl dX1_head_20 ?_
          refine v_iconst (v := 1) C dX1_head_23 rfl ?_
          refine v_isub C dX1_head_24 ?_
          refine v_pN C hj 3 (by decide) k_327 dX1_head_25 ?_
          refine v_aload_n C 1 dX1_head_28 rfl ?_
          refine v_dup C dX1_head_29 rfl ?_
          refine v_gN C hj 9 (by decide) k_339 rfl dX1_head_30 ?_
          refine v_aload_n C 1 dX1_head_33 rfl ?_
          refine v_gN C hj 4 (by decide) k_329 rfl dX1_head_34 ?_
          refine v_iadd C dX1_head_37 ?_
          refine v_pN C hj 9 (by decide) k_339 dX1_head_38 ?_
          refine v_aload_n C 1 dX1_head_41 rfl ?_
          refine v_sipush (v := 240) C dX1_head_42 rfl ?_
          refine v_pN C hj 4 (by decide) k_329 dX1_head_45 ?_
          refine v_iload_n C 0 dX1_head_48 rfl ?_
          refine v_aload_n C 1 dX1_head_49 rfl ?_
          refine v_iload_n C 2 dX1_head_50 rfl ?_
          refine v_iload_n C 0 dX1_head_51 rfl ?_
          refine v_isub C dX1_head_52 ?_
          refine go_I (run_V C (c_X1_headFromHand hj (by exact hk)) k_220 k_3 k_217 k_219 ks_14 dd_X1_headFromHand ⟨Nat.le_of_ble_eq_true rfl, Nat.le_of_ble_eq_true rfl⟩ (rcN hj) rfl (Nat.le_of_ble_eq_true rfl) dX1_head_53 ⟨Nat.le_of_ble_eq_true rfl, Nat.le_of_ble_eq_true rfl⟩) ?_
          refine v_iadd C dX1_head_56 ?_
          refine v_top (fun x_2 ex_2 => ?_)
          refine v_istore_n (lv' := [(2, .int x_2), (0, .ref (rN P j)), (1, .int most)]) C dX1_head_57 rfl (by decide) rfl ?_
          refine v_goto (tgt := 6) C dX1_head_58 (by decide) ?_
          have e9 : hlp (n + 1) most v hd = hlp n most (hfh (rod v) (most - hd)).1 (hd + (hfh (rod v) (most - hd)).2) := by rw [hlp, if_neg h8_1, if_neg h15_1]
          rw [e9]
          subst ex_2
          exact ih _ _ (dec_lt h9 h15_1) hk
  subst ex_1
  exact LOOP _ _ _ (Nat.lt_succ_self _) hk
set_option maxHeartbeats 4000000 in
set_option maxRecDepth 100000 in
theorem c_X1_store {l : Launch} {P : L5} {D : va_G} {j : Nat} (hj : j < 25) {N F T : Nat → Nat → Int32} {K : Nat → Int32} {A : Nat → Nat → Int32} {w : Int64} {v : Nat → Int32} (hk : vp_in (v 1) 4) {a : Int32} : CtV l yX1_store cX1_store 2 1 0 0 P D (nW P) (nW P) False (cw P (va_up N j v) F T K A w) (cw P (va_up N j (store v a)) F T K A w) [.ref (rN P j), .int a] := by
  refine mk_Met pl_X1 [(0, .ref (rN P j)), (1, .int a)] rfl (Nat.le_of_ble_eq_true rfl) ?_
  intro p e s m args below meth c C
  refine v_aload_n C 0 dX1_store_0 rfl ?_
  refine v_dup C dX1_store_1 rfl ?_
  refine v_gN C hj 11 (by decide) k_341 rfl dX1_store_2 ?_
  refine v_iload_n C 1 dX1_store_5 rfl ?_
  refine v_iadd C dX1_store_6 ?_
  refine v_pN C hj 11 (by decide) k_341 dX1_store_7 ?_
  refine v_aload_n C 0 dX1_store_10 rfl ?_
  refine v_gN C hj 12 (by decide) k_342 rfl dX1_store_11 ?_
  refine v_aload_n C 0 dX1_store_14 rfl ?_
  refine v_gN C hj 1 (by decide) k_323 rfl dX1_store_15 ?_
  refine v_dup2 C dX1_store_18 rfl rfl ?_
  refine v_ldL C hj (show vp_in (sto1 v a 1) 4 by rw [sto1_1]; exact hk) dX1_store_19 ?_
  refine v_iload_n C 1 dX1_store_20 rfl ?_
  refine v_iadd C dX1_store_21 ?_
  refine v_stL C hj (show vp_in (sto1 v a 1) 4 by rw [sto1_1]; exact hk) dX1_store_22 ?_
  refine v_aload_n C 0 dX1_store_23 rfl ?_
  refine v_gN C hj 13 (by decide) k_344 rfl dX1_store_24 ?_
  refine v_aload_n C 0 dX1_store_27 rfl ?_
  refine v_gN C hj 1 (by decide) k_323 rfl dX1_store_28 ?_
  refine v_dup2 C dX1_store_31 rfl rfl ?_
  refine v_ldB C hj (show vp_in (sto2 v a 1) 4 by rw [sto2_1]; exact hk) dX1_store_32 ?_
  refine v_aload_n C 0 dX1_store_33 rfl ?_
  refine v_gN C hj 12 (by decide) k_342 rfl dX1_store_34 ?_
  refine v_aload_n C 0 dX1_store_37 rfl ?_
  refine v_gN C hj 1 (by decide) k_323 rfl dX1_store_38 ?_
  refine v_ldL C hj (show vp_in (sto2 v a 1) 4 by rw [sto2_1]; exact hk) dX1_store_41 ?_
  refine v_sipush (v := 1000) C dX1_store_42 rfl ?_
  refine v_idiv C dX1_store_45 (by decide) ?_
  refine v_iadd C dX1_store_46 ?_
  refine v_stB C hj (show vp_in (sto2 v a 1) 4 by rw [sto2_1]; exact hk) dX1_store_47 ?_
  refine v_aload_n C 0 dX1_store_48 rfl ?_
  refine v_gN C hj 12 (by decide) k_342 rfl dX1_store_49 ?_
  refine v_aload_n C 0 dX1_store_52 rfl ?_
  refine v_gN C hj 1 (by decide) k_323 rfl dX1_store_53 ?_
  refine v_dup2 C dX1_store_56 rfl rfl ?_
  refine v_ldL C hj (show vp_in (sto3 v a 1) 4 by rw [sto3_1]; exact hk) dX1_store_57 ?_
  refine v_sipush (v := 1000) C dX1_store_58 rfl ?_
  refine v_irem C dX1_store_61 (by decide) ?_
  refine v_stL C hj (show vp_in (sto3 v a 1) 4 by rw [sto3_1]; exact hk) dX1_store_62 ?_
  exact v_vret C dX1_store_63 rfl
set_option maxHeartbeats 4000000 in
set_option maxRecDepth 100000 in
theorem c_X1_workHour {l : Launch} {P : L5} {D : va_G} {j : Nat} (hj : j < 25) {N F T : Nat → Nat → Int32} {K : Nat → Int32} {A : Nat → Nat → Int32} {w : Int64} {v : Nat → Int32} (hk : vp_in (v 1) 4) : CtI l yX1_workHour cX1_workHour 3 .int 3 0 0 P D (nW P) (nW P) False (cw P (va_up N j v) F T K A w) (cw P (va_up N j (workH v).1) F T K A w) [.ref (rN P j)] (workH v).2 := by
  refine mk_Met pl_X1 [(0, .ref (rN P j))] rfl (Nat.le_of_ble_eq_true rfl) ?_
  intro p e s m args below meth c C
  refine v_aload_n C 0 dX1_workHour_0 rfl ?_
  refine go_V (run_V C (c_X1_tendFire hj) k_206 k_3 k_203 k_205 ks_12 dd_X1_tendFire ⟨Nat.le_of_ble_eq_true rfl, Nat.le_of_ble_eq_true rfl⟩ (rcN hj) rfl (Nat.le_of_ble_eq_true rfl) dX1_workHour_1 ⟨Nat.le_of_ble_eq_true rfl, Nat.le_of_ble_eq_true rfl⟩) ?_
  refine v_aload_n C 0 dX1_workHour_4 rfl ?_
  refine v_gN C hj 5 (by decide) k_330 rfl dX1_workHour_5 ?_
  refine v_iconst (v := 4) C dX1_workHour_8 rfl ?_
  refine v_icmp_ge (tgt := 14) C dX1_workHour_9 (by decide) (fun h9_1 => ?_) (fun h9_1 => ?_)
  · refine v_aload_n C 0 dX1_workHour_14 rfl ?_
    refine v_aload_n C 0 dX1_workHour_15 rfl ?_
    refine v_gN C hj 0 (by decide) k_322 rfl dX1_workHour_16 ?_
    refine v_aload_n C 0 dX1_workHour_19 rfl ?_
    refine v_gN C hj 5 (by decide) k_330 rfl dX1_workHour_20 ?_
    refine v_imul C dX1_workHour_23 ?_
    refine v_iconst (v := 2) C dX1_workHour_24 rfl ?_
    refine v_imul C dX1_workHour_25 ?_
    refine v_aload_n C 0 dX1_workHour_26 rfl ?_
    refine v_gN C hj 1 (by decide) k_323 rfl dX1_workHour_27 ?_
    refine v_iconst (v := 1) C dX1_workHour_30 rfl ?_
    refine v_iadd C dX1_workHour_31 ?_
    refine v_idiv C dX1_workHour_32 (vk1 (by rw [tend_1]; exact hk)) ?_
    refine go_I (run_V C (c_X1_head hj (by rw [tend_1]; exact hk)) k_216 k_3 k_213 k_215 ks_13 dd_X1_head ⟨Nat.le_of_ble_eq_true rfl, Nat.le_of_ble_eq_true rfl⟩ (rcN hj) rfl (Nat.le_of_ble_eq_true rfl) dX1_workHour_33 ⟨Nat.le_of_ble_eq_true rfl, Nat.le_of_ble_eq_true rfl⟩) ?_
    refine v_top (fun x_1 ex_1 => ?_)
    refine v_istore_n (lv' := [(1, .int x_1), (0, .ref (rN P j))]) C dX1_workHour_36 rfl (by decide) rfl ?_
    refine v_aload_n C 1 dX1_workHour_37 rfl ?_
    refine v_gN C hj 5 (by decide) k_330 rfl dX1_workHour_38 ?_
    refine v_bipush (v := 8) C dX1_workHour_41 rfl ?_
    refine v_icmp_lt (tgt := 53) C dX1_workHour_43 (by decide) (fun h43_1 => ?_) (fun h43_1 => ?_)
    · refine v_iconst (v := 0) C dX1_workHour_53 rfl ?_
      refine v_istore_n (lv' := [(2, .int 0), (1, .int x_1), (0, .ref (rN P j))]) C dX1_workHour_54 rfl (by decide) rfl ?_
      refine v_aload_n C 2 dX1_workHour_55 rfl ?_
      refine v_dup C dX1_workHour_56 rfl ?_
      refine v_gN C hj 10 (by decide) k_340 rfl dX1_workHour_57 ?_
      refine v_iload_n C 0 dX1_workHour_60 rfl ?_
      refine v_iadd C dX1_workHour_61 ?_
      refine v_pN C hj 10 (by decide) k_340 dX1_workHour_62 ?_
      refine v_aload_n C 2 dX1_workHour_65 rfl ?_
      refine v_iload_n C 1 dX1_workHour_66 rfl ?_
      refine v_iload_n C 0 dX1_workHour_67 rfl ?_
      refine v_isub C dX1_workHour_68 ?_
      refine go_V (run_V C (c_X1_store hj (by rw [upd_ge (by omega), head_1, tend_1]; exact hk)) k_226 k_3 k_223 k_225 ks_15 dd_X1_store ⟨Nat.le_of_ble_eq_true rfl, Nat.le_of_ble_eq_true rfl⟩ (rcN hj) rfl (Nat.le_of_ble_eq_true rfl) dX1_workHour_69 ⟨Nat.le_of_ble_eq_true rfl, Nat.le_of_ble_eq_true rfl⟩) ?_
      refine v_iload_n C 1 dX1_workHour_72 rfl ?_
      refine v_iload_n C 0 dX1_workHour_73 rfl ?_
      refine v_isub C dX1_workHour_74 ?_
      exact v_iret C dX1_workHour_75 (by rw [workH, if_pos h9_1, ex_1]; unfold workB spo; rw [if_pos (by exact h43_1)]; rfl) (by rw [workH, if_pos h9_1, ex_1]; unfold workB spo; rw [if_pos (by exact h43_1)]; rfl)
    · refine v_iload_n C 0 dX1_workHour_46 rfl ?_
      refine v_bipush (v := 10) C dX1_workHour_47 rfl ?_
      refine v_idiv C dX1_workHour_49 (by decide) ?_
      refine v_goto (tgt := 54) C dX1_workHour_50 (by decide) ?_
      refine v_top (fun x_2 ex_2 => ?_)
      refine v_istore_n (lv' := [(2, .int x_2), (1, .int x_1), (0, .ref (rN P j))]) C dX1_workHour_54 rfl (by decide) rfl ?_
      refine v_aload_n C 2 dX1_workHour_55 rfl ?_
      refine v_dup C dX1_workHour_56 rfl ?_
      refine v_gN C hj 10 (by decide) k_340 rfl dX1_workHour_57 ?_
      refine v_iload_n C 0 dX1_workHour_60 rfl ?_
      refine v_iadd C dX1_workHour_61 ?_
      refine v_pN C hj 10 (by decide) k_340 dX1_workHour_62 ?_
      refine v_aload_n C 2 dX1_workHour_65 rfl ?_
      refine v_iload_n C 1 dX1_workHour_66 rfl ?_
      refine v_iload_n C 0 dX1_workHour_67 rfl ?_
      refine v_isub C dX1_workHour_68 ?_
      refine go_V (run_V C (c_X1_store hj (by rw [upd_ge (by omega), head_1, tend_1]; exact hk)) k_226 k_3 k_223 k_225 ks_15 dd_X1_store ⟨Nat.le_of_ble_eq_true rfl, Nat.le_of_ble_eq_true rfl⟩ (rcN hj) rfl (Nat.le_of_ble_eq_true rfl) dX1_workHour_69 ⟨Nat.le_of_ble_eq_true rfl, Nat.le_of_ble_eq_true rfl⟩) ?_
      refine v_iload_n C 1 dX1_workHour_72 rfl ?_
      refine v_iload_n C 0 dX1_workHour_73 rfl ?_
      refine v_isub C dX1_workHour_74 ?_
      exact v_iret C dX1_workHour_75 (by rw [workH, if_pos h9_1, ex_2, ex_1]; unfold workB spo; rw [if_neg (by exact h43_1)]; rfl) (by rw [workH, if_pos h9_1, ex_2, ex_1]; unfold workB spo; rw [if_neg (by exact h43_1)]; rfl)
  · refine v_iconst (v := 0) C dX1_workHour_12 rfl ?_
    exact v_iret C dX1_workHour_13 (by rw [workH, if_neg h9_1]) (by rw [workH, if_neg h9_1])
set_option maxHeartbeats 4000000 in
set_option maxRecDepth 100000 in
theorem c_X1_workHours {l : Launch} {P : L5} {D : va_G} {j : Nat} (hj : j < 25) {N F T : Nat → Nat → Int32} {K : Nat → Int32} {A : Nat → Nat → Int32} {w : Int64} {v : Nat → Int32} (hk : vp_in (v 1) 4) {h : Int32} : CtI l yX1_workHours cX1_workHours 4 .int 4 0 0 P D (nW P) (nW P) False (cw P (va_up N j v) F T K A w) (cw P (va_up N j (wHl (fuel h 0) h 0 v 0).1) F T K A w) [.ref (rN P j), .int h] (wHl (fuel h 0) h 0 v 0).2 := by
  refine mk_Met pl_X1 [(0, .ref (rN P j)), (1, .int h)] rfl (Nat.le_of_ble_eq_true rfl) ?_
  intro p e s m args below meth c C
  refine v_iconst (v := 0) C dX1_workHours_0 rfl ?_
  refine v_istore_n (lv' := [(2, .int 0), (0, .ref (rN P j)), (1, .int h)]) C dX1_workHours_1 rfl (by decide) rfl ?_
  refine v_iconst (v := 0) C dX1_workHours_2 rfl ?_
  refine v_istore_n (lv' := [(3, .int 0), (2, .int 0), (0, .ref (rN P j)), (1, .int h)]) C dX1_workHours_3 rfl (by decide) rfl ?_
  have LOOP : ∀ (n : Nat) (i : Int32) (v : Nat → Int32) (sm : Int32), fuel h i ≤ n → vp_in (v 1) 4 → V p l e (rmO 4 0 0) s m args below meth c P D (MQ below (QcI P D (nW P) False (cw P (va_up N j (wHl n h i v sm).1) F T K A w) (wHl n h i v sm).2) args s 0 0 (aO P)) 4 (nW P) False (cw P (va_up N j v) F T K A w) 0 0 4 [(3, .int i), (2, .int sm), (0, .ref (rN P j)), (1, .int h)] [] := by
    intro n
    induction n with
    | zero => intro i v sm h9; exact absurd h9 (by unfold fuel; omega)
    | succ n ih =>
      intro i v sm h9 hk
      refine v_iload_n C 0 dX1_workHours_4 rfl ?_
      refine v_iload_n C 3 dX1_workHours_5 rfl ?_
      refine v_icmp_ge (tgt := 22) C dX1_workHours_6 (by decide) (fun h6_1 => ?_) (fun h6_1 => ?_)
      · refine v_iload_n C 1 dX1_workHours_22 rfl ?_
        exact v_iret C dX1_workHours_23 (by rw [wHl, if_pos h6_1]) (by rw [wHl, if_pos h6_1])
      · refine v_iload_n C 1 dX1_workHours_9 rfl ?_
        refine v_aload_n C 2 dX1_workHours_10 rfl ?_
        refine go_I (run_V C (c_X1_workHour hj (by exact hk)) k_202 k_3 k_259 k_201 ks_11 dd_X1_workHour ⟨Nat.le_of_ble_eq_true rfl, Nat.le_of_ble_eq_true rfl⟩ (rcN hj) rfl (Nat.le_of_ble_eq_true rfl) dX1_workHours_11 ⟨Nat.le_of_ble_eq_true rfl, Nat.le_of_ble_eq_true rfl⟩) ?_
        refine v_iadd C dX1_workHours_14 ?_
        refine v_top (fun x_1 ex_1 => ?_)
        refine v_istore_n (lv' := [(2, .int x_1), (3, .int i), (0, .ref (rN P j)), (1, .int h)]) C dX1_workHours_15 rfl (by decide) rfl ?_
        obtain ⟨x_2, ex_2⟩ : ∃ y : Int32, y = i + 1 := ⟨_, rfl⟩
        refine v_iinc (b := x_2) (lv' := [(3, .int x_2), (2, .int x_1), (0, .ref (rN P j)), (1, .int h)]) C 1 dX1_workHours_16 rfl (by rw [ex_2]; rfl) (by decide) rfl ?_
        refine v_goto (tgt := 4) C dX1_workHours_19 (by decide) ?_
        have e9 : wHl (n + 1) h i v sm = wHl n h (i + 1) (workH v).1 (sm + (workH v).2) := by rw [wHl, if_neg h6_1]
        rw [e9]
        subst ex_1 ex_2
        exact ih _ _ _ (fuel_step h9 h6_1) (by rw [workH_1]; exact hk)
  exact LOOP _ _ _ _ (Nat.le_refl _) hk
