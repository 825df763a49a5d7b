/-! THE MODEL: what it asks and does to a row -/
set_option maxHeartbeats 4000000 in
set_option maxRecDepth 100000 in
theorem c_X4_thrown {l : Launch} {P : L5} {D : va_G} {N F T : Nat → Nat → Int32} {K : Nat → Int32} {A : Nat → Nat → Int32} {w : Int64} : CtI l yX4_thrown cX4_thrown 1 .int 1 0 0 P D 97 97 False (cw P N F T K A w) (cw P N F T K A w) [.ref (rM P)] (K 0) := by
  refine mk_Met pl_X4 [(0, .ref (rM P))] rfl (Nat.le_of_ble_eq_true rfl) ?_
  intro pg en sg mg ag bg mt cd C
  refine v_aload_n C 0 dX4_thrown_0 rfl ?_
  refine v_gM C 0 (by decide) k_513 rfl dX4_thrown_1 ?_
  exact v_iret C dX4_thrown_4 rfl rfl
set_option maxHeartbeats 4000000 in
set_option maxRecDepth 100000 in
theorem c_X4_no {l : Launch} {P : L5} {D : va_G} {N F T : Nat → Nat → Int32} {K : Nat → Int32} {A : Nat → Nat → Int32} {w : Int64} {a : Int32} : CtI l yX4_no cX4_no 2 .int 1 0 0 P D 97 97 False (cw P N F T K A w) (cw P N F T (upd K 0 a) A w) [.ref (rM P), .int a] 0 := by
  refine mk_Met pl_X4 [(0, .ref (rM P)), (1, .int a)] rfl (Nat.le_of_ble_eq_true rfl) ?_
  intro pg en sg mg ag bg mt cd C
  refine v_aload_n C 0 dX4_no_0 rfl ?_
  refine v_iload_n C 1 dX4_no_1 rfl ?_
  refine v_pM C 0 (by decide) k_513 dX4_no_2 ?_
  refine v_iconst (v := 0) C dX4_no_5 rfl ?_
  exact v_iret C dX4_no_6 rfl rfl
set_option maxHeartbeats 4000000 in
set_option maxRecDepth 100000 in
theorem c_X4_isIn_1 {l : Launch} {P : L5} {D : va_G} {f : Nat → va_E} {a b d : Int32} (h1 : ¬ a < b) (h2 : ¬ d < a) : CtI l yX4_isIn cX4_isIn 3 .boolean 1 0 0 P D 97 97 False f f [.int a, .int b, .int d] 1 := by
  refine mk_Met pl_X4 [(0, .int a), (1, .int b), (2, .int d)] rfl (Nat.le_of_ble_eq_true rfl) ?_
  intro pg en sg mg ag bg mt cd C
  refine v_iload_n C 0 dX4_isIn_0 rfl ?_
  refine v_iload_n C 1 dX4_isIn_1 rfl ?_
  refine v_icmp_lt (tgt := 14) C dX4_isIn_2 (by decide) (fun h9 => absurd h9 h1) (fun _ => ?_)
  refine v_iload_n C 0 dX4_isIn_5 rfl ?_
  refine v_iload_n C 2 dX4_isIn_6 rfl ?_
  refine v_icmp_gt (tgt := 14) C dX4_isIn_7 (by decide) (fun h9 => absurd h9 h2) (fun _ => ?_)
  refine v_iconst (v := 1) C dX4_isIn_10 rfl ?_
  refine v_goto (tgt := 15) C dX4_isIn_11 (by decide) ?_
  exact v_zret C dX4_isIn_15 rfl rfl rfl
set_option maxHeartbeats 4000000 in
set_option maxRecDepth 100000 in
theorem c_X4_isIn_0 {l : Launch} {P : L5} {D : va_G} {f : Nat → va_E} {a b d : Int32} (h : a < b ∨ d < a) : CtI l yX4_isIn cX4_isIn 3 .boolean 1 0 0 P D 97 97 False f f [.int a, .int b, .int d] 0 := by
  refine mk_Met pl_X4 [(0, .int a), (1, .int b), (2, .int d)] rfl (Nat.le_of_ble_eq_true rfl) ?_
  intro pg en sg mg ag bg mt cd C
  refine v_iload_n C 0 dX4_isIn_0 rfl ?_
  refine v_iload_n C 1 dX4_isIn_1 rfl ?_
  refine v_icmp_lt (tgt := 14) C dX4_isIn_2 (by decide) (fun h2_1 => ?_) (fun h2_1 => ?_)
  · refine v_iconst (v := 0) C dX4_isIn_14 rfl ?_
    exact v_zret C dX4_isIn_15 rfl rfl rfl
  · refine v_iload_n C 0 dX4_isIn_5 rfl ?_
    refine v_iload_n C 2 dX4_isIn_6 rfl ?_
    refine v_icmp_gt (tgt := 14) C dX4_isIn_7 (by decide) (fun h7_1 => ?_) (fun h7_1 => ?_)
    · refine v_iconst (v := 0) C dX4_isIn_14 rfl ?_
      exact v_zret C dX4_isIn_15 rfl rfl rfl
    · refine v_iconst (v := 1) C dX4_isIn_10 rfl ?_
      refine v_goto (tgt := 15) C dX4_isIn_11 (by decide) ?_
      exact (h.elim (fun q => h2_1 q) (fun q => h7_1 q)).elim
set_option maxHeartbeats 4000000 in
set_option maxRecDepth 100000 in
theorem c_X4_isThere_1 {l : Launch} {P : L5} {D : va_G} {N F T : Nat → Nat → Int32} {K : Nat → Int32} {A : Nat → Nat → Int32} {w : Int64} {c : Nat} (hc : K 2 = nI c) (h12 : c ≤ 12) {p : Int32} (h1 : ¬ p < 0) (h2 : p < K 2) : CtI l yX4_isThere cX4_isThere 2 .boolean 2 0 0 P D 97 97 False (cw P N F T K A w) (cw P N F T K A w) [.ref (rM P), .int p] 1 := by
  refine mk_Met pl_X4 [(0, .ref (rM P)), (1, .int p)] rfl (Nat.le_of_ble_eq_true rfl) ?_
  intro pg en sg mg ag bg mt cd C
  refine v_iload_n C 1 dX4_isThere_0 rfl ?_
  refine v_iconst (v := 0) C dX4_isThere_1 rfl ?_
  refine v_aload_n C 0 dX4_isThere_2 rfl ?_
  refine v_gM C 2 (by decide) k_515 rfl dX4_isThere_3 ?_
  refine v_iconst (v := 1) C dX4_isThere_6 rfl ?_
  refine v_isub C dX4_isThere_7 ?_
  refine go_I (run_S C (c_X4_isIn_1 h1 (isThT hc h12 h1 h2)) k_547 k_5 k_545 k_546 dd_X4_isIn ⟨Nat.le_of_ble_eq_true rfl, Nat.le_of_ble_eq_true rfl⟩ rfl (Nat.le_of_ble_eq_true rfl) dX4_isThere_8 ⟨Nat.le_of_ble_eq_true rfl, Nat.le_of_ble_eq_true rfl⟩) ?_
  exact v_zret C dX4_isThere_11 rfl rfl rfl
set_option maxHeartbeats 4000000 in
set_option maxRecDepth 100000 in
theorem c_X4_isThere_0 {l : Launch} {P : L5} {D : va_G} {N F T : Nat → Nat → Int32} {K : Nat → Int32} {A : Nat → Nat → Int32} {w : Int64} {c : Nat} (hc : K 2 = nI c) (h12 : c ≤ 12) {p : Int32} (h : p < 0 ∨ ¬ p < K 2) : CtI l yX4_isThere cX4_isThere 2 .boolean 2 0 0 P D 97 97 False (cw P N F T K A w) (cw P N F T K A w) [.ref (rM P), .int p] 0 := by
  refine mk_Met pl_X4 [(0, .ref (rM P)), (1, .int p)] rfl (Nat.le_of_ble_eq_true rfl) ?_
  intro pg en sg mg ag bg mt cd C
  refine v_iload_n C 1 dX4_isThere_0 rfl ?_
  refine v_iconst (v := 0) C dX4_isThere_1 rfl ?_
  refine v_aload_n C 0 dX4_isThere_2 rfl ?_
  refine v_gM C 2 (by decide) k_515 rfl dX4_isThere_3 ?_
  refine v_iconst (v := 1) C dX4_isThere_6 rfl ?_
  refine v_isub C dX4_isThere_7 ?_
  refine go_I (run_S C (c_X4_isIn_0 (h.elim Or.inl (fun q => Or.inr (isThF hc h12 q)))) k_547 k_5 k_545 k_546 dd_X4_isIn ⟨Nat.le_of_ble_eq_true rfl, Nat.le_of_ble_eq_true rfl⟩ rfl (Nat.le_of_ble_eq_true rfl) dX4_isThere_8 ⟨Nat.le_of_ble_eq_true rfl, Nat.le_of_ble_eq_true rfl⟩) ?_
  exact v_zret C dX4_isThere_11 rfl rfl rfl
set_option maxHeartbeats 4000000 in
set_option maxRecDepth 100000 in
theorem c_X4_isFour_1 {l : Launch} {P : L5} {D : va_G} {f : Nat → va_E} {a : Int32} (h1 : ¬ a < 0) (h2 : ¬ 3 < a) : CtI l yX4_isFour cX4_isFour 1 .boolean 2 0 0 P D 97 97 False f f [.int a] 1 := by
  refine mk_Met pl_X4 [(0, .int a)] rfl (Nat.le_of_ble_eq_true rfl) ?_
  intro pg en sg mg ag bg mt cd C
  refine v_iload_n C 0 dX4_isFour_0 rfl ?_
  refine v_iconst (v := 0) C dX4_isFour_1 rfl ?_
  refine v_iconst (v := 3) C dX4_isFour_2 rfl ?_
  refine go_I (run_S C (c_X4_isIn_1 h1 h2) k_547 k_5 k_545 k_546 dd_X4_isIn ⟨Nat.le_of_ble_eq_true rfl, Nat.le_of_ble_eq_true rfl⟩ rfl (Nat.le_of_ble_eq_true rfl) dX4_isFour_3 ⟨Nat.le_of_ble_eq_true rfl, Nat.le_of_ble_eq_true rfl⟩) ?_
  exact v_zret C dX4_isFour_6 rfl rfl rfl
set_option maxHeartbeats 4000000 in
set_option maxRecDepth 100000 in
theorem c_X4_isFour_0 {l : Launch} {P : L5} {D : va_G} {f : Nat → va_E} {a : Int32} (h : a < 0 ∨ 3 < a) : CtI l yX4_isFour cX4_isFour 1 .boolean 2 0 0 P D 97 97 False f f [.int a] 0 := by
  refine mk_Met pl_X4 [(0, .int a)] rfl (Nat.le_of_ble_eq_true rfl) ?_
  intro pg en sg mg ag bg mt cd C
  refine v_iload_n C 0 dX4_isFour_0 rfl ?_
  refine v_iconst (v := 0) C dX4_isFour_1 rfl ?_
  refine v_iconst (v := 3) C dX4_isFour_2 rfl ?_
  refine go_I (run_S C (c_X4_isIn_0 h) k_547 k_5 k_545 k_546 dd_X4_isIn ⟨Nat.le_of_ble_eq_true rfl, Nat.le_of_ble_eq_true rfl⟩ rfl (Nat.le_of_ble_eq_true rfl) dX4_isFour_3 ⟨Nat.le_of_ble_eq_true rfl, Nat.le_of_ble_eq_true rfl⟩) ?_
  exact v_zret C dX4_isFour_6 rfl rfl rfl
set_option maxHeartbeats 4000000 in
set_option maxRecDepth 100000 in
theorem c_X4_hasIron {l : Launch} {P : L5} {D : va_G} {N F T : Nat → Nat → Int32} {K : Nat → Int32} {A : Nat → Nat → Int32} {w : Int64} {b a : Nat} {f0 v : Nat → Int32} (hb : b < 5) (hL : lenA b = 240) (ha : a + 20 ≤ 240) {kd : Nat} (hk : kd < 4) (hkd : v 1 = nI kd) : CtI l yX4_hasIron cX4_hasIron 3 .boolean 1 0 0 P D 97 97 False (cw P N F T K (R1 A b f0 a v) w) (cw P N F T K (R1 A b f0 a (mIron v kd).1) w) [.ref (rM P), .ref (rA P b), .int (nI a)] (mIron v kd).2 := by
  refine mk_Met pl_X4 [(0, .ref (rM P)), (1, .ref (rA P b)), (2, .int (nI a))] rfl (Nat.le_of_ble_eq_true rfl) ?_
  intro pg en sg mg ag bg mt cd C
  refine v_aload_n C 1 dX4_hasIron_0 rfl ?_
  refine v_iload_n C 2 dX4_hasIron_1 rfl ?_
  refine v_iconst (v := 4) C dX4_hasIron_2 rfl ?_
  refine v_iadd C dX4_hasIron_3 ?_
  refine v_ldAk C (a + 4) hb (ixA rfl rfl) (by rw [hL]; omega) (r1_get (j := 4) (by omega)) dX4_hasIron_4 ?_
  refine v_gS C 2 rfl k_645 dX4_hasIron_5 ?_
  refine v_aload_n C 1 dX4_hasIron_8 rfl ?_
  refine v_iload_n C 2 dX4_hasIron_9 rfl ?_
  refine v_iconst (v := 1) C dX4_hasIron_10 rfl ?_
  refine v_iadd C dX4_hasIron_11 ?_
  refine v_ldAk (a := (nI kd)) C (a + 1) hb (ixA rfl rfl) (by rw [hL]; omega) ((r1_get (j := 1) (by omega)).trans hkd) dX4_hasIron_12 ?_
  refine v_ldSk C 2 rfl kd (nI_clamp (by omega)) (vp_in_nI (by omega) (by omega)) rfl dX4_hasIron_13 ?_
  refine v_icmp_lt (tgt := 19) C dX4_hasIron_14 (by decide) (fun h14_1 => ?_) (fun h14_1 => ?_)
  · refine v_aload_n C 1 dX4_hasIron_19 rfl ?_
    refine v_iload_n C 2 dX4_hasIron_20 rfl ?_
    refine v_iconst (v := 3) C dX4_hasIron_21 rfl ?_
    refine v_iadd C dX4_hasIron_22 ?_
    refine v_ldAk C (a + 3) hb (ixA rfl rfl) (by rw [hL]; omega) (r1_get (j := 3) (by omega)) dX4_hasIron_23 ?_
    refine v_if_ne (tgt := 29) C dX4_hasIron_24 (by decide) (fun h24_1 => ?_) (fun h24_1 => ?_)
    · refine v_aload_n C 1 dX4_hasIron_29 rfl ?_
      refine v_iload_n C 2 dX4_hasIron_30 rfl ?_
      refine v_iconst (v := 3) C dX4_hasIron_31 rfl ?_
      refine v_iadd C dX4_hasIron_32 ?_
      refine v_dup2 C dX4_hasIron_33 rfl rfl ?_
      refine v_ldAk C (a + 3) hb (ixA rfl rfl) (by rw [hL]; omega) (r1_get (j := 3) (by omega)) dX4_hasIron_34 ?_
      refine v_iconst (v := 1) C dX4_hasIron_35 rfl ?_
      refine v_isub C dX4_hasIron_36 ?_
      refine v_stAk C (a + 3) hb (ixA rfl rfl) (by rw [hL]; omega) (r1_set (j := 3) (by omega)) dX4_hasIron_37 ?_
      refine v_aload_n C 1 dX4_hasIron_38 rfl ?_
      refine v_iload_n C 2 dX4_hasIron_39 rfl ?_
      refine v_bipush (v := 9) C dX4_hasIron_40 rfl ?_
      refine v_iadd C dX4_hasIron_42 ?_
      refine v_dup2 C dX4_hasIron_43 rfl rfl ?_
      refine v_ldAk C (a + 9) hb (ixA rfl rfl) (by rw [hL]; omega) (r1_get (j := 9) (by omega)) dX4_hasIron_44 ?_
      refine v_aload_n C 1 dX4_hasIron_45 rfl ?_
      refine v_iload_n C 2 dX4_hasIron_46 rfl ?_
      refine v_iconst (v := 4) C dX4_hasIron_47 rfl ?_
      refine v_iadd C dX4_hasIron_48 ?_
      refine v_ldAk C (a + 4) hb (ixA rfl rfl) (by rw [hL]; omega) (r1_get (j := 4) (by omega)) dX4_hasIron_49 ?_
      refine v_iadd C dX4_hasIron_50 ?_
      refine v_stAk C (a + 9) hb (ixA rfl rfl) (by rw [hL]; omega) (r1_set (j := 9) (by omega)) dX4_hasIron_51 ?_
      refine v_aload_n C 1 dX4_hasIron_52 rfl ?_
      refine v_iload_n C 2 dX4_hasIron_53 rfl ?_
      refine v_iconst (v := 4) C dX4_hasIron_54 rfl ?_
      refine v_iadd C dX4_hasIron_55 ?_
      refine v_sipush (v := 240) C dX4_hasIron_56 rfl ?_
      refine v_stAk C (a + 4) hb (ixA rfl rfl) (by rw [hL]; omega) (r1_set (j := 4) (by omega)) dX4_hasIron_59 ?_
      refine v_iconst (v := 1) C dX4_hasIron_60 rfl ?_
      exact v_zret C dX4_hasIron_61 rfl (by rw [mIron, if_pos h14_1, if_neg h24_1]; rfl) (by rw [mIron, if_pos h14_1, if_neg h24_1])
    · refine v_iconst (v := 0) C dX4_hasIron_27 rfl ?_
      exact v_zret C dX4_hasIron_28 rfl (by rw [mIron, if_pos h14_1, if_pos h24_1]) (by rw [mIron, if_pos h14_1, if_pos h24_1])
  · refine v_iconst (v := 1) C dX4_hasIron_17 rfl ?_
    exact v_zret C dX4_hasIron_18 rfl (by rw [mIron, if_neg h14_1]) (by rw [mIron, if_neg h14_1])
set_option maxHeartbeats 4000000 in
set_option maxRecDepth 100000 in
theorem c_X4_work {l : Launch} {P : L5} {D : va_G} {N F T : Nat → Nat → Int32} {K : Nat → Int32} {A : Nat → Nat → Int32} {w : Int64} {b a : Nat} {f0 v : Nat → Int32} (hb : b < 5) (hL : lenA b = 240) (ha : a + 20 ≤ 240) {kd : Nat} (hk : kd < 4) (hkd : v 1 = nI kd) : CtI l yX4_work cX4_work 9 .int 2 0 0 P D 97 97 False (cw P N F T K (R1 A b f0 a v) w) (cw P N F T K (R1 A b f0 a (mWork v kd).1) w) [.ref (rM P), .ref (rA P b), .int (nI a)] (mWork v kd).2 := by
  refine mk_Met pl_X4 [(0, .ref (rM P)), (1, .ref (rA P b)), (2, .int (nI a))] rfl (Nat.le_of_ble_eq_true rfl) ?_
  intro pg en sg mg ag bg mt cd C
  have J64 : V pg l en (rmO 2 0 0) sg mg ag bg mt cd P D (MQ bg (QcI P D 97 False (cw P N F T K (R1 A b f0 a (mWork v kd).1) w) (mWork v kd).2) ag sg 0 0 (aO P)) 9 97 False (cw P N F T K (R1 A b f0 a (mTend v)) w) 0 0 64 [(0, .ref (rM P)), (1, .ref (rA P b)), (2, .int (nI a))] [] := by
    have J105 : V pg l en (rmO 2 0 0) sg mg ag bg mt cd P D (MQ bg (QcI P D 97 False (cw P N F T K (R1 A b f0 a (mWork v kd).1) w) (mWork v kd).2) ag sg 0 0 (aO P)) 9 97 False (cw P N F T K (R1 A b f0 a (mTend v)) w) 0 0 105 [(0, .ref (rM P)), (1, .ref (rA P b)), (2, .int (nI a)), (4, .int (mTend v 5)), (5, .int (nI kd)), (6, .int (mCan (mTend v) kd))] [] := by
      refine v_iconst (v := 0) C dX4_work_105 rfl ?_
      refine v_istore (lv' := [(7, .int 0), (0, .ref (rM P)), (1, .ref (rA P b)), (2, .int (nI a)), (4, .int (mTend v 5)), (5, .int (nI kd)), (6, .int (mCan (mTend v) kd))]) C dX4_work_106 (by decide) rfl ?_
      have L_1 : ∀ (n : Nat) (v9 : Nat → Int32) (made : Int32), fuel (mCan (mTend v) kd) made ≤ n → v9 1 = nI kd → V pg l en (rmO 2 0 0) sg mg ag bg mt cd P D (MQ bg (QcI P D 97 False (cw P N F T K (R1 A b f0 a (mWork v kd).1) w) (mWork v kd).2) ag sg 0 0 (aO P)) 9 97 False (cw P N F T K (R1 A b f0 a (mHead n (mCan (mTend v) kd) kd v9 made).1) w) 0 0 144 [(7, .int ((mHead n (mCan (mTend v) kd) kd v9 made).2)), (1, .ref (rA P b)), (2, .int (nI a)), (4, .int (mTend v 5)), (5, .int (nI kd))] [] → V pg l en (rmO 2 0 0) sg mg ag bg mt cd P D (MQ bg (QcI P D 97 False (cw P N F T K (R1 A b f0 a (mWork v kd).1) w) (mWork v kd).2) ag sg 0 0 (aO P)) 9 97 False (cw P N F T K (R1 A b f0 a v9) w) 0 0 108 [(7, .int made), (0, .ref (rM P)), (1, .ref (rA P b)), (2, .int (nI a)), (4, .int (mTend v 5)), (5, .int (nI kd)), (6, .int (mCan (mTend v) kd))] [] := by
        intro n
        induction n with
        | zero => intro v9 made z1; exact absurd z1 (by unfold fuel; omega)
        | succ n ih =>
          intro v9 made z1 z2 hk9
          refine v_iload C 0 dX4_work_108 rfl ?_
          refine v_iload C 6 dX4_work_110 rfl ?_
          refine v_icmp_ge (tgt := 144) C dX4_work_112 (by decide) (fun h112_1 => ?_) (fun h112_1 => ?_)
          · refine v_lv [0, 2, 3, 4, 5] rfl ?_
            have e9 : mHead (n + 1) (mCan (mTend v) kd) kd v9 made = (v9, made) := by rw [mHead, if_pos h112_1]
            rw [e9] at hk9
            exact hk9
          · refine v_aload_n C 1 dX4_work_115 rfl ?_
            refine v_aload_n C 2 dX4_work_116 rfl ?_
            refine v_iload_n C 3 dX4_work_117 rfl ?_
            refine go_I (run_V C (c_X4_hasIron hb hL ha hk z2) k_644 k_5 k_641 k_643 ks_38 dd_X4_hasIron ⟨Nat.le_of_ble_eq_true rfl, Nat.le_of_ble_eq_true rfl⟩ rcM rfl (Nat.le_of_ble_eq_true rfl) dX4_work_118 ⟨Nat.le_of_ble_eq_true rfl, Nat.le_of_ble_eq_true rfl⟩) ?_
            refine v_if_eq (tgt := 144) C dX4_work_121 (by decide) (fun h121_1 => ?_) (fun h121_1 => ?_)
            · refine v_lv [0, 2, 3, 4, 5] rfl ?_
              have e9 : mHead (n + 1) (mCan (mTend v) kd) kd v9 made = ((mIron v9 kd).1, made) := by rw [mHead, if_neg h112_1, if_pos (by exact h121_1)]
              rw [e9] at hk9
              exact hk9
            · refine v_aload_n C 2 dX4_work_124 rfl ?_
              refine v_iload_n C 3 dX4_work_125 rfl ?_
              refine v_iconst (v := 4) C dX4_work_126 rfl ?_
              refine v_iadd C dX4_work_127 ?_
              refine v_dup2 C dX4_work_128 rfl rfl ?_
              refine v_ldAk C (a + 4) hb (ixA rfl rfl) (by rw [hL]; omega) (r1_get (j := 4) (by omega)) dX4_work_129 ?_
              refine v_gS C 2 rfl k_645 dX4_work_130 ?_
              refine v_iload C 5 dX4_work_133 rfl ?_
              refine v_ldSk C 2 rfl kd (nI_clamp (by omega)) (vp_in_nI (by omega) (by omega)) rfl dX4_work_135 ?_
              refine v_isub C dX4_work_136 ?_
              refine v_stAk C (a + 4) hb (ixA rfl rfl) (by rw [hL]; omega) (r1_set (j := 4) (by omega)) dX4_work_137 ?_
              obtain ⟨x_1, ex_1⟩ : ∃ y : Int32, y = made + 1 := ⟨_, rfl⟩
              refine v_iinc (b := x_1) (lv' := [(7, .int x_1), (0, .ref (rM P)), (1, .ref (rA P b)), (2, .int (nI a)), (4, .int (mTend v 5)), (5, .int (nI kd)), (6, .int (mCan (mTend v) kd))]) C 0 dX4_work_138 rfl (by rw [ex_1]; rfl) (by decide) rfl ?_
              refine v_goto (tgt := 108) C dX4_work_141 (by decide) ?_
              have e9 : mHead (n + 1) (mCan (mTend v) kd) kd v9 made = mHead n (mCan (mTend v) kd) kd (upd (mIron v9 kd).1 4 ((mIron v9 kd).1 4 - ozT kd)) (made + 1) := by rw [mHead, if_neg h112_1, if_neg (by exact h121_1)]
              rw [e9] at hk9
              subst ex_1
              exact ih _ _ (fuel_step z1 h112_1) ((mIron_1 _ _).trans z2) hk9
      refine L_1 (fuel (mCan (mTend v) kd) 0) (mTend v) 0 (Nat.le_refl _) ((mTend_1 v).trans hkd) ?_
      obtain ⟨q9, eq9⟩ : ∃ z, z = mHead (fuel (mCan (mTend v) kd) 0) (mCan (mTend v) kd) kd (mTend v) 0 := ⟨_, rfl⟩
      rw [← eq9]
      refine v_iload C 3 dX4_work_144 rfl ?_
      refine v_bipush (v := 8) C dX4_work_146 rfl ?_
      refine v_icmp_lt (tgt := 159) C dX4_work_148 (by decide) (fun h148_1 => ?_) (fun h148_1 => ?_)
      · refine v_iconst (v := 0) C dX4_work_159 rfl ?_
        refine v_istore (lv' := [(8, .int 0), (7, .int q9.2), (1, .ref (rA P b)), (2, .int (nI a)), (4, .int (mTend v 5)), (5, .int (nI kd))]) C dX4_work_160 (by decide) rfl ?_
        refine v_aload_n C 2 dX4_work_162 rfl ?_
        refine v_iload_n C 3 dX4_work_163 rfl ?_
        refine v_bipush (v := 10) C dX4_work_164 rfl ?_
        refine v_iadd C dX4_work_166 ?_
        refine v_dup2 C dX4_work_167 rfl rfl ?_
        refine v_ldAk C (a + 10) hb (ixA rfl rfl) (by rw [hL]; omega) (r1_get (j := 10) (by omega)) dX4_work_168 ?_
        refine v_iload C 0 dX4_work_169 rfl ?_
        refine v_iadd C dX4_work_171 ?_
        refine v_stAk C (a + 10) hb (ixA rfl rfl) (by rw [hL]; omega) (r1_set (j := 10) (by omega)) dX4_work_172 ?_
        refine v_aload_n C 2 dX4_work_173 rfl ?_
        refine v_iload_n C 3 dX4_work_174 rfl ?_
        refine v_bipush (v := 11) C dX4_work_175 rfl ?_
        refine v_iadd C dX4_work_177 ?_
        refine v_dup2 C dX4_work_178 rfl rfl ?_
        refine v_ldAk C (a + 11) hb (ixA rfl rfl) (by rw [hL]; omega) (r1_get (j := 11) (by omega)) dX4_work_179 ?_
        refine v_iload C 1 dX4_work_180 rfl ?_
        refine v_iload C 0 dX4_work_182 rfl ?_
        refine v_isub C dX4_work_184 ?_
        refine v_iadd C dX4_work_185 ?_
        refine v_stAk C (a + 11) hb (ixA rfl rfl) (by rw [hL]; omega) (r1_set (j := 11) (by omega)) dX4_work_186 ?_
        refine v_aload_n C 2 dX4_work_187 rfl ?_
        refine v_iload_n C 3 dX4_work_188 rfl ?_
        refine v_bipush (v := 12) C dX4_work_189 rfl ?_
        refine v_iadd C dX4_work_191 ?_
        refine v_iload C 5 dX4_work_192 rfl ?_
        refine v_iadd C dX4_work_194 ?_
        refine v_dup2 C dX4_work_195 rfl rfl ?_
        refine v_ldAk C (a + (12 + kd)) hb (ixB (ixA rfl rfl) rfl) (by rw [hL]; omega) (r1_get (j := (12 + kd)) (by omega)) dX4_work_196 ?_
        refine v_iload C 1 dX4_work_197 rfl ?_
        refine v_iload C 0 dX4_work_199 rfl ?_
        refine v_isub C dX4_work_201 ?_
        refine v_iadd C dX4_work_202 ?_
        refine v_stAk C (a + (12 + kd)) hb (ixB (ixA rfl rfl) rfl) (by rw [hL]; omega) (r1_set (j := (12 + kd)) (by omega)) dX4_work_203 ?_
        refine v_aload_n C 2 dX4_work_204 rfl ?_
        refine v_iload_n C 3 dX4_work_205 rfl ?_
        refine v_bipush (v := 16) C dX4_work_206 rfl ?_
        refine v_iadd C dX4_work_208 ?_
        refine v_iload C 5 dX4_work_209 rfl ?_
        refine v_iadd C dX4_work_211 ?_
        refine v_dup2 C dX4_work_212 rfl rfl ?_
        refine v_ldAk C (a + (16 + kd)) hb (ixB (ixA rfl rfl) rfl) (by rw [hL]; omega) (r1_get (j := (16 + kd)) (by omega)) dX4_work_213 ?_
        refine v_aload_n C 2 dX4_work_214 rfl ?_
        refine v_iload_n C 3 dX4_work_215 rfl ?_
        refine v_bipush (v := 12) C dX4_work_216 rfl ?_
        refine v_iadd C dX4_work_218 ?_
        refine v_iload C 5 dX4_work_219 rfl ?_
        refine v_iadd C dX4_work_221 ?_
        refine v_ldAk C (a + (12 + kd)) hb (ixB (ixA rfl rfl) rfl) (by rw [hL]; omega) (r1_get (j := (12 + kd)) (by omega)) dX4_work_222 ?_
        refine v_sipush (v := 1000) C dX4_work_223 rfl ?_
        refine v_idiv C dX4_work_226 (by decide) ?_
        refine v_iadd C dX4_work_227 ?_
        refine v_stAk C (a + (16 + kd)) hb (ixB (ixA rfl rfl) rfl) (by rw [hL]; omega) (r1_set (j := (16 + kd)) (by omega)) dX4_work_228 ?_
        refine v_aload_n C 2 dX4_work_229 rfl ?_
        refine v_iload_n C 3 dX4_work_230 rfl ?_
        refine v_bipush (v := 12) C dX4_work_231 rfl ?_
        refine v_iadd C dX4_work_233 ?_
        refine v_iload C 5 dX4_work_234 rfl ?_
        refine v_iadd C dX4_work_236 ?_
        refine v_dup2 C dX4_work_237 rfl rfl ?_
        refine v_ldAk C (a + (12 + kd)) hb (ixB (ixA rfl rfl) rfl) (by rw [hL]; omega) (r1_get (j := (12 + kd)) (by omega)) dX4_work_238 ?_
        refine v_sipush (v := 1000) C dX4_work_239 rfl ?_
        refine v_irem C dX4_work_242 (by decide) ?_
        refine v_stAk C (a + (12 + kd)) hb (ixB (ixA rfl rfl) rfl) (by rw [hL]; omega) (r1_set (j := (12 + kd)) (by omega)) dX4_work_243 ?_
        refine v_iload C 1 dX4_work_244 rfl ?_
        refine v_iload C 0 dX4_work_246 rfl ?_
        refine v_isub C dX4_work_248 ?_
        exact v_iret C dX4_work_249 (by rw [show mWork v kd = mWork2 q9 (mTend v 5) kd from by rw [eq9]; rfl, mWork2, mBrn, if_pos (by exact h148_1)]; rfl) (by rw [show mWork v kd = mWork2 q9 (mTend v 5) kd from by rw [eq9]; rfl, mWork2, mBrn, if_pos (by exact h148_1)])
      · refine v_iload C 0 dX4_work_151 rfl ?_
        refine v_bipush (v := 10) C dX4_work_153 rfl ?_
        refine v_idiv C dX4_work_155 (by decide) ?_
        refine v_goto (tgt := 160) C dX4_work_156 (by decide) ?_
        refine v_istore (lv' := [(8, .int (q9.2 / 10)), (7, .int q9.2), (1, .ref (rA P b)), (2, .int (nI a)), (4, .int (mTend v 5)), (5, .int (nI kd))]) C dX4_work_160 (by decide) rfl ?_
        refine v_aload_n C 2 dX4_work_162 rfl ?_
        refine v_iload_n C 3 dX4_work_163 rfl ?_
        refine v_bipush (v := 10) C dX4_work_164 rfl ?_
        refine v_iadd C dX4_work_166 ?_
        refine v_dup2 C dX4_work_167 rfl rfl ?_
        refine v_ldAk C (a + 10) hb (ixA rfl rfl) (by rw [hL]; omega) (r1_get (j := 10) (by omega)) dX4_work_168 ?_
        refine v_iload C 0 dX4_work_169 rfl ?_
        refine v_iadd C dX4_work_171 ?_
        refine v_stAk C (a + 10) hb (ixA rfl rfl) (by rw [hL]; omega) (r1_set (j := 10) (by omega)) dX4_work_172 ?_
        refine v_aload_n C 2 dX4_work_173 rfl ?_
        refine v_iload_n C 3 dX4_work_174 rfl ?_
        refine v_bipush (v := 11) C dX4_work_175 rfl ?_
        refine v_iadd C dX4_work_177 ?_
        refine v_dup2 C dX4_work_178 rfl rfl ?_
        refine v_ldAk C (a + 11) hb (ixA rfl rfl) (by rw [hL]; omega) (r1_get (j := 11) (by omega)) dX4_work_179 ?_
        refine v_iload C 1 dX4_work_180 rfl ?_
        refine v_iload C 0 dX4_work_182 rfl ?_
        refine v_isub C dX4_work_184 ?_
        refine v_iadd C dX4_work_185 ?_
        refine v_stAk C (a + 11) hb (ixA rfl rfl) (by rw [hL]; omega) (r1_set (j := 11) (by omega)) dX4_work_186 ?_
        refine v_aload_n C 2 dX4_work_187 rfl ?_
        refine v_iload_n C 3 dX4_work_188 rfl ?_
        refine v_bipush (v := 12) C dX4_work_189 rfl ?_
        refine v_iadd C dX4_work_191 ?_
        refine v_iload C 5 dX4_work_192 rfl ?_
        refine v_iadd C dX4_work_194 ?_
        refine v_dup2 C dX4_work_195 rfl rfl ?_
        refine v_ldAk C (a + (12 + kd)) hb (ixB (ixA rfl rfl) rfl) (by rw [hL]; omega) (r1_get (j := (12 + kd)) (by omega)) dX4_work_196 ?_
        refine v_iload C 1 dX4_work_197 rfl ?_
        refine v_iload C 0 dX4_work_199 rfl ?_
        refine v_isub C dX4_work_201 ?_
        refine v_iadd C dX4_work_202 ?_
        refine v_stAk C (a + (12 + kd)) hb (ixB (ixA rfl rfl) rfl) (by rw [hL]; omega) (r1_set (j := (12 + kd)) (by omega)) dX4_work_203 ?_
        refine v_aload_n C 2 dX4_work_204 rfl ?_
        refine v_iload_n C 3 dX4_work_205 rfl ?_
        refine v_bipush (v := 16) C dX4_work_206 rfl ?_
        refine v_iadd C dX4_work_208 ?_
        refine v_iload C 5 dX4_work_209 rfl ?_
        refine v_iadd C dX4_work_211 ?_
        refine v_dup2 C dX4_work_212 rfl rfl ?_
        refine v_ldAk C (a + (16 + kd)) hb (ixB (ixA rfl rfl) rfl) (by rw [hL]; omega) (r1_get (j := (16 + kd)) (by omega)) dX4_work_213 ?_
        refine v_aload_n C 2 dX4_work_214 rfl ?_
        refine v_iload_n C 3 dX4_work_215 rfl ?_
        refine v_bipush (v := 12) C dX4_work_216 rfl ?_
        refine v_iadd C dX4_work_218 ?_
        refine v_iload C 5 dX4_work_219 rfl ?_
        refine v_iadd C dX4_work_221 ?_
        refine v_ldAk C (a + (12 + kd)) hb (ixB (ixA rfl rfl) rfl) (by rw [hL]; omega) (r1_get (j := (12 + kd)) (by omega)) dX4_work_222 ?_
        refine v_sipush (v := 1000) C dX4_work_223 rfl ?_
        refine v_idiv C dX4_work_226 (by decide) ?_
        refine v_iadd C dX4_work_227 ?_
        refine v_stAk C (a + (16 + kd)) hb (ixB (ixA rfl rfl) rfl) (by rw [hL]; omega) (r1_set (j := (16 + kd)) (by omega)) dX4_work_228 ?_
        refine v_aload_n C 2 dX4_work_229 rfl ?_
        refine v_iload_n C 3 dX4_work_230 rfl ?_
        refine v_bipush (v := 12) C dX4_work_231 rfl ?_
        refine v_iadd C dX4_work_233 ?_
        refine v_iload C 5 dX4_work_234 rfl ?_
        refine v_iadd C dX4_work_236 ?_
        refine v_dup2 C dX4_work_237 rfl rfl ?_
        refine v_ldAk C (a + (12 + kd)) hb (ixB (ixA rfl rfl) rfl) (by rw [hL]; omega) (r1_get (j := (12 + kd)) (by omega)) dX4_work_238 ?_
        refine v_sipush (v := 1000) C dX4_work_239 rfl ?_
        refine v_irem C dX4_work_242 (by decide) ?_
        refine v_stAk C (a + (12 + kd)) hb (ixB (ixA rfl rfl) rfl) (by rw [hL]; omega) (r1_set (j := (12 + kd)) (by omega)) dX4_work_243 ?_
        refine v_iload C 1 dX4_work_244 rfl ?_
        refine v_iload C 0 dX4_work_246 rfl ?_
        refine v_isub C dX4_work_248 ?_
        exact v_iret C dX4_work_249 (by rw [show mWork v kd = mWork2 q9 (mTend v 5) kd from by rw [eq9]; rfl, mWork2, mBrn, if_neg (by exact h148_1)]; rfl) (by rw [show mWork v kd = mWork2 q9 (mTend v 5) kd from by rw [eq9]; rfl, mWork2, mBrn, if_neg (by exact h148_1)])
    refine v_aload_n C 1 dX4_work_64 rfl ?_
    refine v_iload_n C 2 dX4_work_65 rfl ?_
    refine v_iconst (v := 5) C dX4_work_66 rfl ?_
    refine v_iadd C dX4_work_67 ?_
    refine v_ldAk (a := (mTend v 5)) C (a + 5) hb (ixA rfl rfl) (by rw [hL]; omega) (r1_get (j := 5) (by omega)) dX4_work_68 ?_
    refine v_istore (lv' := [(4, .int (mTend v 5)), (0, .ref (rM P)), (1, .ref (rA P b)), (2, .int (nI a))]) C dX4_work_69 (by decide) rfl ?_
    refine v_aload_n C 2 dX4_work_71 rfl ?_
    refine v_iload_n C 3 dX4_work_72 rfl ?_
    refine v_iconst (v := 1) C dX4_work_73 rfl ?_
    refine v_iadd C dX4_work_74 ?_
    refine v_ldAk (a := (nI kd)) C (a + 1) hb (ixA rfl rfl) (by rw [hL]; omega) ((r1_get (j := 1) (by omega)).trans ((mTend_1 v).trans hkd)) dX4_work_75 ?_
    refine v_istore (lv' := [(5, .int (nI kd)), (4, .int (mTend v 5)), (0, .ref (rM P)), (1, .ref (rA P b)), (2, .int (nI a))]) C dX4_work_76 (by decide) rfl ?_
    refine v_iload C 1 dX4_work_78 rfl ?_
    refine v_iconst (v := 4) C dX4_work_80 rfl ?_
    refine v_icmp_ge (tgt := 88) C dX4_work_81 (by decide) (fun h81_1 => ?_) (fun h81_1 => ?_)
    · refine v_aload_n C 3 dX4_work_88 rfl ?_
      refine v_iload_n C 4 dX4_work_89 rfl ?_
      refine v_iconst (v := 0) C dX4_work_90 rfl ?_
      refine v_iadd C dX4_work_91 ?_
      refine v_ldAk C (a + 0) hb (ixA rfl rfl) (by rw [hL]; omega) (r1_get (j := 0) (by omega)) dX4_work_92 ?_
      refine v_iload C 1 dX4_work_93 rfl ?_
      refine v_imul C dX4_work_95 ?_
      refine v_iconst (v := 2) C dX4_work_96 rfl ?_
      refine v_imul C dX4_work_97 ?_
      refine v_iload C 0 dX4_work_98 rfl ?_
      refine v_iconst (v := 1) C dX4_work_100 rfl ?_
      refine v_iadd C dX4_work_101 ?_
      refine v_idiv C dX4_work_102 (nk1 hk) ?_
      refine v_top (fun x_2 ex_2 => ?_)
      refine v_istore (lv' := [(6, .int x_2), (5, .int (nI kd)), (4, .int (mTend v 5)), (0, .ref (rM P)), (1, .ref (rA P b)), (2, .int (nI a))]) C dX4_work_103 (by decide) rfl ?_
      refine v_lv [3, 4, 5, 2, 1, 0] rfl ?_
      have e9 : mCan (mTend v) kd = x_2 := by rw [mCan, if_neg (fun z => absurd h81_1 (Int32.not_le.mpr z)), ex_2]
      rw [e9] at J105
      exact J105
    · refine v_iconst (v := 0) C dX4_work_84 rfl ?_
      refine v_goto (tgt := 103) C dX4_work_85 (by decide) ?_
      refine v_istore (lv' := [(6, .int 0), (5, .int (nI kd)), (4, .int (mTend v 5)), (0, .ref (rM P)), (1, .ref (rA P b)), (2, .int (nI a))]) C dX4_work_103 (by decide) rfl ?_
      refine v_lv [3, 4, 5, 2, 1, 0] rfl ?_
      have e9 : mCan (mTend v) kd = 0 := by rw [mCan, if_pos (Int32.not_le.mp h81_1)]
      rw [e9] at J105
      exact J105
  refine v_aload_n C 1 dX4_work_0 rfl ?_
  refine v_iload_n C 2 dX4_work_1 rfl ?_
  refine v_bipush (v := 6) C dX4_work_2 rfl ?_
  refine v_iadd C dX4_work_4 ?_
  refine v_ldAk C (a + 6) hb (ixA rfl rfl) (by rw [hL]; omega) (r1_get (j := 6) (by omega)) dX4_work_5 ?_
  refine v_if_le (tgt := 13) C dX4_work_6 (by decide) (fun h6_1 => ?_) (fun h6_1 => ?_)
  · refine v_iconst (v := 0) C dX4_work_13 rfl ?_
    refine v_istore_n (lv' := [(3, .int 0), (0, .ref (rM P)), (1, .ref (rA P b)), (2, .int (nI a))]) C dX4_work_14 rfl (by decide) rfl ?_
    refine v_iload_n C 0 dX4_work_15 rfl ?_
    refine v_if_eq (tgt := 29) C dX4_work_16 (by decide) (fun _ => ?_) (fun h9 => absurd (by decide) h9)
    refine v_aload_n C 2 dX4_work_29 rfl ?_
    refine v_iload_n C 3 dX4_work_30 rfl ?_
    refine v_iconst (v := 5) C dX4_work_31 rfl ?_
    refine v_iadd C dX4_work_32 ?_
    refine v_iload_n C 0 dX4_work_33 rfl ?_
    refine v_if_eq (tgt := 52) C dX4_work_34 (by decide) (fun _ => ?_) (fun h9 => absurd (by decide) h9)
    refine v_iconst (v := 0) C dX4_work_52 rfl ?_
    refine v_aload_n C 2 dX4_work_53 rfl ?_
    refine v_iload_n C 3 dX4_work_54 rfl ?_
    refine v_iconst (v := 5) C dX4_work_55 rfl ?_
    refine v_iadd C dX4_work_56 ?_
    refine v_ldAk C (a + 5) hb (ixA rfl rfl) (by rw [hL]; omega) (r1_get (j := 5) (by omega)) dX4_work_57 ?_
    refine v_iconst (v := 3) C dX4_work_58 rfl ?_
    refine v_isub C dX4_work_59 ?_
    refine v_max C dX4_work_60 k_640 k_420 k_12 k_421 (Nat.le_of_ble_eq_true rfl) (Nat.le_of_ble_eq_true rfl) (Nat.le_of_ble_eq_true rfl) (Nat.le_of_ble_eq_true rfl) ?_
    refine v_stAk C (a + 5) hb (ixA rfl rfl) (by rw [hL]; omega) (r1_set (j := 5) (by omega)) dX4_work_63 ?_
    refine v_lv [1, 2, 3] rfl ?_
    by_cases h9 : v 6 ≤ 0
    · first | exact absurd h9 (by assumption) | (rw [mTend, if_pos h9] at J64; exact J64)
    · first | exact absurd (by assumption) h9 | (rw [mTend, if_neg h9] at J64; exact J64)
  · refine v_iconst (v := 1) C dX4_work_9 rfl ?_
    refine v_goto (tgt := 14) C dX4_work_10 (by decide) ?_
    refine v_istore_n (lv' := [(3, .int 1), (0, .ref (rM P)), (1, .ref (rA P b)), (2, .int (nI a))]) C dX4_work_14 rfl (by decide) rfl ?_
    refine v_iload_n C 0 dX4_work_15 rfl ?_
    refine v_if_eq (tgt := 29) C dX4_work_16 (by decide) (fun h9 => absurd h9 (by decide)) (fun _ => ?_)
    refine v_aload_n C 2 dX4_work_19 rfl ?_
    refine v_iload_n C 3 dX4_work_20 rfl ?_
    refine v_bipush (v := 6) C dX4_work_21 rfl ?_
    refine v_iadd C dX4_work_23 ?_
    refine v_dup2 C dX4_work_24 rfl rfl ?_
    refine v_ldAk C (a + 6) hb (ixA rfl rfl) (by rw [hL]; omega) (r1_get (j := 6) (by omega)) dX4_work_25 ?_
    refine v_iconst (v := 1) C dX4_work_26 rfl ?_
    refine v_isub C dX4_work_27 ?_
    refine v_stAk C (a + 6) hb (ixA rfl rfl) (by rw [hL]; omega) (r1_set (j := 6) (by omega)) dX4_work_28 ?_
    refine v_aload_n C 2 dX4_work_29 rfl ?_
    refine v_iload_n C 3 dX4_work_30 rfl ?_
    refine v_iconst (v := 5) C dX4_work_31 rfl ?_
    refine v_iadd C dX4_work_32 ?_
    refine v_iload_n C 0 dX4_work_33 rfl ?_
    refine v_if_eq (tgt := 52) C dX4_work_34 (by decide) (fun h9 => absurd h9 (by decide)) (fun _ => ?_)
    refine v_bipush (v := 9) C dX4_work_37 rfl ?_
    refine v_aload_n C 2 dX4_work_39 rfl ?_
    refine v_iload_n C 3 dX4_work_40 rfl ?_
    refine v_iconst (v := 5) C dX4_work_41 rfl ?_
    refine v_iadd C dX4_work_42 ?_
    refine v_ldAk C (a + 5) hb (ixA rfl rfl) (by rw [hL]; omega) (r1_get (j := 5) (by omega)) dX4_work_43 ?_
    refine v_iconst (v := 2) C dX4_work_44 rfl ?_
    refine v_iadd C dX4_work_45 ?_
    refine v_min C dX4_work_46 k_639 k_417 k_12 k_418 (Nat.le_of_ble_eq_true rfl) (Nat.le_of_ble_eq_true rfl) (Nat.le_of_ble_eq_true rfl) (Nat.le_of_ble_eq_true rfl) ?_
    refine v_goto (tgt := 63) C dX4_work_49 (by decide) ?_
    refine v_stAk C (a + 5) hb (ixA rfl rfl) (by rw [hL]; omega) (r1_set (j := 5) (by omega)) dX4_work_63 ?_
    refine v_lv [1, 2, 3] rfl ?_
    by_cases h9 : v 6 ≤ 0
    · first | exact absurd h9 (by assumption) | (rw [mTend, if_pos h9] at J64; exact J64)
    · first | exact absurd (by assumption) h9 | (rw [mTend, if_neg h9] at J64; exact J64)
