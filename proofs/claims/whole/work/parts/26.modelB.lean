/-! THE MODEL: reckoning, an hour, looking ahead -/
set_option maxHeartbeats 4000000 in
set_option maxRecDepth 100000 in
theorem c_X4_priceOf {l : Launch} {P : L5} {D : va_G} {f : Nat → va_E} {i : Nat} (hi : i < 4) {a : Int32} : CtI l yX4_priceOf cX4_priceOf 2 .int 1 0 0 P D 97 97 False f f [.int (nI i), .int a] (mPr i a) := by
  refine mk_Met pl_X4 [(0, .int (nI i)), (1, .int a)] rfl (Nat.le_of_ble_eq_true rfl) ?_
  intro pg en sg mg ag bg mt cd C
  refine v_gS C 3 rfl k_654 dX4_priceOf_0 ?_
  refine v_iload_n C 0 dX4_priceOf_3 rfl ?_
  refine v_ldSk C 3 rfl i (nI_clamp (by omega)) (vp_in_nI (by omega) (by omega)) rfl dX4_priceOf_4 ?_
  refine v_bipush (v := 100) C dX4_priceOf_5 rfl ?_
  refine v_iload_n C 1 dX4_priceOf_7 rfl ?_
  refine v_isub C dX4_priceOf_8 ?_
  refine v_imul C dX4_priceOf_9 ?_
  refine v_bipush (v := 100) C dX4_priceOf_10 rfl ?_
  refine v_idiv C dX4_priceOf_12 (by decide) ?_
  exact v_iret C dX4_priceOf_13 rfl rfl
set_option maxHeartbeats 4000000 in
set_option maxRecDepth 100000 in
theorem c_X4_reckon {l : Launch} {P : L5} {D : va_G} {N F T : Nat → Nat → Int32} {K : Nat → Int32} {A : Nat → Nat → Int32} {w : Int64} {b b2 a fo : Nat} {f0 f2 v g wv : Nat → Int32} (hb : b < 5) (hb2 : b2 < 5) (hL : lenA b = 240) (hL2 : lenA b2 = 20) (h14 : b ≠ 4) (h24 : b2 ≠ 4) (h12 : b ≠ b2) (ha : a + 20 ≤ 240) (hf : fo < 4) (hfo : v 2 = nI fo) : CtV l yX4_reckon cX4_reckon 10 2 0 0 P D 97 97 False (cw P N F T K (R3 A b f0 a v b2 f2 (5 * fo) g wv) w) (cw P N F T K (R3 A b f0 a (mReck fo v g wv).1 b2 f2 (5 * fo) (mReck fo v g wv).2.1 (mReck fo v g wv).2.2) w) [.ref (rM P), .ref (rA P b), .ref (rA P b2), .int (nI a), .ref (rA P 4)] := by
  refine mk_Met pl_X4 [(0, .ref (rM P)), (1, .ref (rA P b)), (2, .ref (rA P b2)), (3, .int (nI a)), (4, .ref (rA P 4))] rfl (Nat.le_of_ble_eq_true rfl) ?_
  intro pg en sg mg ag bg mt cd C
  refine v_aload_n C 1 dX4_reckon_0 rfl ?_
  refine v_iload_n C 3 dX4_reckon_1 rfl ?_
  refine v_iconst (v := 2) C dX4_reckon_2 rfl ?_
  refine v_iadd C dX4_reckon_3 ?_
  refine v_ldAk (a := (nI fo)) C (a + 2) hb (ixA rfl rfl) (by rw [hL]; omega) ((r3_getN h14 h12 (j := 2) (by omega)).trans hfo) dX4_reckon_4 ?_
  refine v_istore (lv' := [(5, .int (nI fo)), (0, .ref (rM P)), (1, .ref (rA P b)), (2, .ref (rA P b2)), (3, .int (nI a)), (4, .ref (rA P 4))]) C dX4_reckon_5 (by decide) rfl ?_
  refine v_iconst (v := 5) C dX4_reckon_7 rfl ?_
  refine v_iload C 0 dX4_reckon_8 rfl ?_
  refine v_imul C dX4_reckon_10 ?_
  refine v_topE (ixM rfl rfl) ?_
  refine v_istore (lv' := [(6, .int (nI (5 * fo))), (5, .int (nI fo)), (0, .ref (rM P)), (1, .ref (rA P b)), (2, .ref (rA P b2)), (3, .int (nI a)), (4, .ref (rA P 4))]) C dX4_reckon_11 (by decide) rfl ?_
  refine v_iconst (v := 0) C dX4_reckon_13 rfl ?_
  refine v_istore (lv' := [(7, .int 0), (6, .int (nI (5 * fo))), (5, .int (nI fo)), (0, .ref (rM P)), (1, .ref (rA P b)), (2, .ref (rA P b2)), (3, .int (nI a)), (4, .ref (rA P 4))]) C dX4_reckon_14 (by decide) rfl ?_
  have L_1 : ∀ (n : Nat) (i : Nat) (v9 g9 w9 : Nat → Int32), i ≤ 4 → 4 < i + n → V pg l en (rmO 2 0 0) sg mg ag bg mt cd P D (MQ bg (QcV P D 97 False (cw P N F T K (R3 A b f0 a (mReck fo v g wv).1 b2 f2 (5 * fo) (mReck fo v g wv).2.1 (mReck fo v g wv).2.2) w)) ag sg 0 0 (aO P)) 10 97 False (cw P N F T K (R3 A b f0 a (mKinds n i fo v9 g9 w9).1 b2 f2 (5 * fo) (mKinds n i fo v9 g9 w9).2.1 (mKinds n i fo v9 g9 w9).2.2) w) 0 0 144 [(0, .ref (rM P)), (1, .ref (rA P b)), (2, .ref (rA P b2)), (3, .int (nI a)), (4, .ref (rA P 4)), (5, .int (nI fo)), (6, .int (nI (5 * fo)))] [] → V pg l en (rmO 2 0 0) sg mg ag bg mt cd P D (MQ bg (QcV P D 97 False (cw P N F T K (R3 A b f0 a (mReck fo v g wv).1 b2 f2 (5 * fo) (mReck fo v g wv).2.1 (mReck fo v g wv).2.2) w)) ag sg 0 0 (aO P)) 10 97 False (cw P N F T K (R3 A b f0 a v9 b2 f2 (5 * fo) g9 w9) w) 0 0 16 [(7, .int (nI i)), (0, .ref (rM P)), (1, .ref (rA P b)), (2, .ref (rA P b2)), (3, .int (nI a)), (4, .ref (rA P 4)), (5, .int (nI fo)), (6, .int (nI (5 * fo)))] [] := by
    intro n
    induction n with
    | zero => intro i v9 g9 w9 z1 z2; omega
    | succ n ih =>
      intro i v9 g9 w9 z1 z2 hk9
      refine v_iload C 0 dX4_reckon_16 rfl ?_
      refine v_iconst (v := 4) C dX4_reckon_18 rfl ?_
      refine v_icmp_ge (tgt := 144) C dX4_reckon_19 (by decide) (fun h19_1 => ?_) (fun h19_1 => ?_)
      · refine v_lv [1, 2, 3, 4, 5, 6, 7] rfl ?_
        have hic : 4 ≤ i := (le4i z1).mp h19_1
        have e9 : mKinds (n + 1) i fo v9 g9 w9 = (v9, g9, w9) := by rw [mKinds, if_pos hic]
        rw [e9] at hk9
        exact hk9
      · have hic : i < 4 := Nat.not_le.mp (fun z => h19_1 ((le4i z1).mpr z))
        refine v_iload C 0 dX4_reckon_22 rfl ?_
        refine v_aload_n C 3 dX4_reckon_24 rfl ?_
        refine v_iload C 7 dX4_reckon_25 rfl ?_
        refine v_iconst (v := 0) C dX4_reckon_27 rfl ?_
        refine v_iadd C dX4_reckon_28 ?_
        refine v_ldAk C ((5 * fo) + 0) hb2 (ixA rfl rfl) (by rw [hL2]; omega) (r3_getF h24 (j := 0) (by omega)) dX4_reckon_29 ?_
        refine go_I (run_S C (c_X4_priceOf hic) k_653 k_5 k_651 k_652 dd_X4_priceOf ⟨Nat.le_of_ble_eq_true rfl, Nat.le_of_ble_eq_true rfl⟩ rfl (Nat.le_of_ble_eq_true rfl) dX4_reckon_30 ⟨Nat.le_of_ble_eq_true rfl, Nat.le_of_ble_eq_true rfl⟩) ?_
        refine v_top (fun x_1 ex_1 => ?_)
        refine v_istore (lv' := [(8, .int x_1), (7, .int (nI i)), (0, .ref (rM P)), (1, .ref (rA P b)), (2, .ref (rA P b2)), (3, .int (nI a)), (4, .ref (rA P 4)), (5, .int (nI fo)), (6, .int (nI (5 * fo)))]) C dX4_reckon_33 (by decide) rfl ?_
        refine v_aload_n C 3 dX4_reckon_35 rfl ?_
        refine v_iload_n C 5 dX4_reckon_36 rfl ?_
        refine v_bipush (v := 16) C dX4_reckon_37 rfl ?_
        refine v_iadd C dX4_reckon_39 ?_
        refine v_iload C 1 dX4_reckon_40 rfl ?_
        refine v_iadd C dX4_reckon_42 ?_
        refine v_ldAk C (a + (16 + i)) hb (ixB (ixA rfl rfl) rfl) (by rw [hL]; omega) (r3_getN h14 h12 (j := (16 + i)) (by omega)) dX4_reckon_43 ?_
        refine v_top (fun x_2 ex_2 => ?_)
        refine v_istore (lv' := [(9, .int x_2), (8, .int x_1), (7, .int (nI i)), (0, .ref (rM P)), (1, .ref (rA P b)), (2, .ref (rA P b2)), (3, .int (nI a)), (4, .ref (rA P 4)), (5, .int (nI fo)), (6, .int (nI (5 * fo)))]) C dX4_reckon_44 (by decide) rfl ?_
        have L_2 : ∀ (n : Nat) (v8 g8 w8 : Nat → Int32) (left : Int32), left.toNatClampNeg < n → V pg l en (rmO 2 0 0) sg mg ag bg mt cd P D (MQ bg (QcV P D 97 False (cw P N F T K (R3 A b f0 a (mReck fo v g wv).1 b2 f2 (5 * fo) (mReck fo v g wv).2.1 (mReck fo v g wv).2.2) w)) ag sg 0 0 (aO P)) 10 97 False (cw P N F T K (R3 A b f0 a (mBag n x_1 left i fo v8 g8 w8).1 b2 f2 (5 * fo) (mBag n x_1 left i fo v8 g8 w8).2.1 (mBag n x_1 left i fo v8 g8 w8).2.2) w) 0 0 138 [(7, .int (nI i)), (0, .ref (rM P)), (1, .ref (rA P b)), (2, .ref (rA P b2)), (3, .int (nI a)), (4, .ref (rA P 4)), (5, .int (nI fo)), (6, .int (nI (5 * fo)))] [] → V pg l en (rmO 2 0 0) sg mg ag bg mt cd P D (MQ bg (QcV P D 97 False (cw P N F T K (R3 A b f0 a (mReck fo v g wv).1 b2 f2 (5 * fo) (mReck fo v g wv).2.1 (mReck fo v g wv).2.2) w)) ag sg 0 0 (aO P)) 10 97 False (cw P N F T K (R3 A b f0 a v8 b2 f2 (5 * fo) g8 w8) w) 0 0 46 [(9, .int left), (7, .int (nI i)), (0, .ref (rM P)), (1, .ref (rA P b)), (2, .ref (rA P b2)), (3, .int (nI a)), (4, .ref (rA P 4)), (5, .int (nI fo)), (6, .int (nI (5 * fo))), (8, .int x_1)] [] := by
          intro n
          induction n with
          | zero => intro v8 g8 w8 left y1; omega
          | succ n ih =>
            intro v8 g8 w8 left y1 hk9
            refine v_iload C 0 dX4_reckon_46 rfl ?_
            refine v_if_le (tgt := 138) C dX4_reckon_48 (by decide) (fun h48_1 => ?_) (fun h48_1 => ?_)
            · refine v_lv [1, 2, 3, 4, 5, 6, 7, 8] rfl ?_
              have e9 : mBag (n + 1) x_1 left i fo v8 g8 w8 = (v8, g8, w8) := by rw [mBag, if_pos h48_1]
              rw [e9] at hk9
              exact hk9
            · refine v_aload_n C 4 dX4_reckon_51 rfl ?_
              refine v_iload C 8 dX4_reckon_52 rfl ?_
              refine v_iconst (v := 1) C dX4_reckon_54 rfl ?_
              refine v_iadd C dX4_reckon_55 ?_
              refine v_ldAk C ((5 * fo) + 1) hb2 (ixA rfl rfl) (by rw [hL2]; omega) (r3_getF h24 (j := 1) (by omega)) dX4_reckon_56 ?_
              refine v_iload C 9 dX4_reckon_57 rfl ?_
              refine v_icmp_lt (tgt := 138) C dX4_reckon_59 (by decide) (fun h59_1 => ?_) (fun h59_1 => ?_)
              · refine v_lv [1, 2, 3, 4, 5, 6, 7, 8] rfl ?_
                have e9 : mBag (n + 1) x_1 left i fo v8 g8 w8 = (v8, g8, w8) := by rw [mBag, if_neg h48_1, if_pos (by exact h59_1)]
                rw [e9] at hk9
                exact hk9
              · refine v_aload_n C 4 dX4_reckon_62 rfl ?_
                refine v_iload C 8 dX4_reckon_63 rfl ?_
                refine v_iconst (v := 1) C dX4_reckon_65 rfl ?_
                refine v_iadd C dX4_reckon_66 ?_
                refine v_dup2 C dX4_reckon_67 rfl rfl ?_
                refine v_ldAk C ((5 * fo) + 1) hb2 (ixA rfl rfl) (by rw [hL2]; omega) (r3_getF h24 (j := 1) (by omega)) dX4_reckon_68 ?_
                refine v_iload C 9 dX4_reckon_69 rfl ?_
                refine v_isub C dX4_reckon_71 ?_
                refine v_stAk C ((5 * fo) + 1) hb2 (ixA rfl rfl) (by rw [hL2]; omega) (r3_setF h24 (j := 1) (by omega)) dX4_reckon_72 ?_
                refine v_aload_n C 4 dX4_reckon_73 rfl ?_
                refine v_iload C 8 dX4_reckon_74 rfl ?_
                refine v_iconst (v := 3) C dX4_reckon_76 rfl ?_
                refine v_iadd C dX4_reckon_77 ?_
                refine v_dup2 C dX4_reckon_78 rfl rfl ?_
                refine v_ldAk C ((5 * fo) + 3) hb2 (ixA rfl rfl) (by rw [hL2]; omega) (r3_getF h24 (j := 3) (by omega)) dX4_reckon_79 ?_
                refine v_iload C 9 dX4_reckon_80 rfl ?_
                refine v_iadd C dX4_reckon_82 ?_
                refine v_stAk C ((5 * fo) + 3) hb2 (ixA rfl rfl) (by rw [hL2]; omega) (r3_setF h24 (j := 3) (by omega)) dX4_reckon_83 ?_
                refine v_aload_n C 4 dX4_reckon_84 rfl ?_
                refine v_iload C 8 dX4_reckon_85 rfl ?_
                refine v_iconst (v := 2) C dX4_reckon_87 rfl ?_
                refine v_iadd C dX4_reckon_88 ?_
                refine v_dup2 C dX4_reckon_89 rfl rfl ?_
                refine v_ldAk C ((5 * fo) + 2) hb2 (ixA rfl rfl) (by rw [hL2]; omega) (r3_getF h24 (j := 2) (by omega)) dX4_reckon_90 ?_
                refine v_iconst (v := 1) C dX4_reckon_91 rfl ?_
                refine v_iadd C dX4_reckon_92 ?_
                refine v_stAk C ((5 * fo) + 2) hb2 (ixA rfl rfl) (by rw [hL2]; omega) (r3_setF h24 (j := 2) (by omega)) dX4_reckon_93 ?_
                refine v_aload_n C 3 dX4_reckon_94 rfl ?_
                refine v_iload_n C 5 dX4_reckon_95 rfl ?_
                refine v_bipush (v := 7) C dX4_reckon_96 rfl ?_
                refine v_iadd C dX4_reckon_98 ?_
                refine v_dup2 C dX4_reckon_99 rfl rfl ?_
                refine v_ldAk C (a + 7) hb (ixA rfl rfl) (by rw [hL]; omega) (r3_getN h14 h12 (j := 7) (by omega)) dX4_reckon_100 ?_
                refine v_iload C 9 dX4_reckon_101 rfl ?_
                refine v_iadd C dX4_reckon_103 ?_
                refine v_stAk C (a + 7) hb (ixA rfl rfl) (by rw [hL]; omega) (r3_setN h14 h12 (j := 7) (by omega)) dX4_reckon_104 ?_
                refine v_aload_n C 3 dX4_reckon_105 rfl ?_
                refine v_iload_n C 5 dX4_reckon_106 rfl ?_
                refine v_bipush (v := 16) C dX4_reckon_107 rfl ?_
                refine v_iadd C dX4_reckon_109 ?_
                refine v_iload C 1 dX4_reckon_110 rfl ?_
                refine v_iadd C dX4_reckon_112 ?_
                refine v_dup2 C dX4_reckon_113 rfl rfl ?_
                refine v_ldAk C (a + (16 + i)) hb (ixB (ixA rfl rfl) rfl) (by rw [hL]; omega) (r3_getN h14 h12 (j := (16 + i)) (by omega)) dX4_reckon_114 ?_
                refine v_iconst (v := 1) C dX4_reckon_115 rfl ?_
                refine v_isub C dX4_reckon_116 ?_
                refine v_stAk C (a + (16 + i)) hb (ixB (ixA rfl rfl) rfl) (by rw [hL]; omega) (r3_setN h14 h12 (j := (16 + i)) (by omega)) dX4_reckon_117 ?_
                refine v_aload C 6 dX4_reckon_118 rfl ?_
                refine v_iload C 7 dX4_reckon_120 rfl ?_
                refine v_dup2 C dX4_reckon_122 rfl rfl ?_
                refine v_ldAk C fo (by decide) rfl (show _ < 4 by omega) r3_getW dX4_reckon_123 ?_
                refine v_gS C 3 rfl k_654 dX4_reckon_124 ?_
                refine v_iload C 1 dX4_reckon_127 rfl ?_
                refine v_ldSk C 3 rfl i (nI_clamp (by omega)) (vp_in_nI (by omega) (by omega)) rfl dX4_reckon_129 ?_
                refine v_iadd C dX4_reckon_130 ?_
                refine v_stAk C fo (by decide) rfl (show _ < 4 by omega) r3_setW dX4_reckon_131 ?_
                obtain ⟨x_3, ex_3⟩ : ∃ y : Int32, y = left + (-1) := ⟨_, rfl⟩
                refine v_iinc (b := x_3) (lv' := [(9, .int x_3), (7, .int (nI i)), (0, .ref (rM P)), (1, .ref (rA P b)), (2, .ref (rA P b2)), (3, .int (nI a)), (4, .ref (rA P 4)), (5, .int (nI fo)), (6, .int (nI (5 * fo))), (8, .int x_1)]) C 0 dX4_reckon_132 rfl (by rw [ex_3]; rfl) (by decide) rfl ?_
                refine v_goto (tgt := 46) C dX4_reckon_135 (by decide) ?_
                have e9 : mBag (n + 1) x_1 left i fo v8 g8 w8 = mBag n x_1 (left + (-1)) i fo (mB1 x_1 i v8) (mB2 x_1 g8) (mB3 i fo w8) := by rw [mBag, if_neg h48_1, if_neg (by exact h59_1)]
                rw [e9] at hk9
                subst ex_3
                exact ih _ _ _ _ (by rw [show left + (-1) = left - 1 from (Int32.sub_eq_add_neg left 1).symm]; exact dec_lt y1 h48_1) hk9
        refine v_lv [0, 2, 3, 4, 5, 6, 7, 8, 9, 1] rfl ?_
        refine L_2 (x_2.toNatClampNeg + 1) v9 g9 w9 x_2 (Nat.lt_succ_self _) ?_
        obtain ⟨q9, eq9⟩ : ∃ z, z = mBag (x_2.toNatClampNeg + 1) x_1 x_2 i fo v9 g9 w9 := ⟨_, rfl⟩
        rw [← eq9]
        refine v_iinc (b := (nI (i + 1))) (lv' := [(7, .int (nI (i + 1))), (0, .ref (rM P)), (1, .ref (rA P b)), (2, .ref (rA P b2)), (3, .int (nI a)), (4, .ref (rA P 4)), (5, .int (nI fo)), (6, .int (nI (5 * fo)))]) C 0 dX4_reckon_138 rfl (nI_1 _) (by decide) rfl ?_
        refine v_goto (tgt := 16) C dX4_reckon_141 (by decide) ?_
        have e8 : mKind i fo v9 g9 w9 = q9 := by rw [eq9, ex_1, ex_2]; rfl
        have e9 : mKinds (n + 1) i fo v9 g9 w9 = mKinds n (i + 1) fo q9.1 q9.2.1 q9.2.2 := by rw [mKinds, if_neg (by omega), e8]
        rw [e9] at hk9
        exact ih _ _ _ _ (by omega) (by omega) hk9
  refine v_lv [0, 3, 4, 5, 6, 7, 2, 1] rfl ?_
  refine L_1 5 0 v g wv (by omega) (by omega) ?_
  obtain ⟨q8, eq8⟩ : ∃ z, z = mKinds 5 0 fo v g wv := ⟨_, rfl⟩
  rw [← eq8]
  refine v_aload_n C 1 dX4_reckon_144 rfl ?_
  refine v_iload_n C 3 dX4_reckon_145 rfl ?_
  refine v_bipush (v := 7) C dX4_reckon_146 rfl ?_
  refine v_iadd C dX4_reckon_148 ?_
  refine v_ldAk C (a + 7) hb (ixA rfl rfl) (by rw [hL]; omega) (r3_getN h14 h12 (j := 7) (by omega)) dX4_reckon_149 ?_
  refine v_aload_n C 1 dX4_reckon_150 rfl ?_
  refine v_iload_n C 3 dX4_reckon_151 rfl ?_
  refine v_bipush (v := 8) C dX4_reckon_152 rfl ?_
  refine v_iadd C dX4_reckon_154 ?_
  refine v_ldAk C (a + 8) hb (ixA rfl rfl) (by rw [hL]; omega) (r3_getN h14 h12 (j := 8) (by omega)) dX4_reckon_155 ?_
  refine v_min C dX4_reckon_156 k_639 k_417 k_12 k_418 (Nat.le_of_ble_eq_true rfl) (Nat.le_of_ble_eq_true rfl) (Nat.le_of_ble_eq_true rfl) (Nat.le_of_ble_eq_true rfl) ?_
  refine v_top (fun x_4 ex_4 => ?_)
  refine v_istore (lv' := [(7, .int x_4), (0, .ref (rM P)), (1, .ref (rA P b)), (2, .ref (rA P b2)), (3, .int (nI a)), (4, .ref (rA P 4)), (5, .int (nI fo)), (6, .int (nI (5 * fo)))]) C dX4_reckon_159 (by decide) rfl ?_
  refine v_aload_n C 2 dX4_reckon_161 rfl ?_
  refine v_iload_n C 4 dX4_reckon_162 rfl ?_
  refine v_bipush (v := 7) C dX4_reckon_163 rfl ?_
  refine v_iadd C dX4_reckon_165 ?_
  refine v_dup2 C dX4_reckon_166 rfl rfl ?_
  refine v_ldAk C (a + 7) hb (ixA rfl rfl) (by rw [hL]; omega) (r3_getN h14 h12 (j := 7) (by omega)) dX4_reckon_167 ?_
  refine v_iload C 0 dX4_reckon_168 rfl ?_
  refine v_isub C dX4_reckon_170 ?_
  refine v_stAk C (a + 7) hb (ixA rfl rfl) (by rw [hL]; omega) (r3_setN h14 h12 (j := 7) (by omega)) dX4_reckon_171 ?_
  refine v_aload_n C 2 dX4_reckon_172 rfl ?_
  refine v_iload_n C 4 dX4_reckon_173 rfl ?_
  refine v_bipush (v := 8) C dX4_reckon_174 rfl ?_
  refine v_iadd C dX4_reckon_176 ?_
  refine v_dup2 C dX4_reckon_177 rfl rfl ?_
  refine v_ldAk C (a + 8) hb (ixA rfl rfl) (by rw [hL]; omega) (r3_getN h14 h12 (j := 8) (by omega)) dX4_reckon_178 ?_
  refine v_iload C 0 dX4_reckon_179 rfl ?_
  refine v_isub C dX4_reckon_181 ?_
  refine v_stAk C (a + 8) hb (ixA rfl rfl) (by rw [hL]; omega) (r3_setN h14 h12 (j := 8) (by omega)) dX4_reckon_182 ?_
  refine v_aload_n C 3 dX4_reckon_183 rfl ?_
  refine v_iload C 7 dX4_reckon_184 rfl ?_
  refine v_iconst (v := 1) C dX4_reckon_186 rfl ?_
  refine v_iadd C dX4_reckon_187 ?_
  refine v_dup2 C dX4_reckon_188 rfl rfl ?_
  refine v_ldAk C ((5 * fo) + 1) hb2 (ixA rfl rfl) (by rw [hL2]; omega) (r3_getF h24 (j := 1) (by omega)) dX4_reckon_189 ?_
  refine v_iload C 0 dX4_reckon_190 rfl ?_
  refine v_iadd C dX4_reckon_192 ?_
  refine v_stAk C ((5 * fo) + 1) hb2 (ixA rfl rfl) (by rw [hL2]; omega) (r3_setF h24 (j := 1) (by omega)) dX4_reckon_193 ?_
  exact v_vret C dX4_reckon_194 (by subst ex_4; rw [show mReck fo v g wv = mRk2 q8 from by rw [eq8]; rfl]; rfl)
theorem u_X4_reckon {l : Launch} {P : L5} {D : va_G} {N F T : Nat → Nat → Int32} {K : Nat → Int32} {A : Nat → Nat → Int32} {w : Int64} {b b2 a : Nat} (hb : b < 5) (hb2 : b2 < 5) (hL : lenA b = 240) (hL2 : lenA b2 = 20) (h14 : b ≠ 4) (h24 : b2 ≠ 4) (h12 : b ≠ b2) (ha : a + 20 ≤ 240) (hf : vp_in (A b (a + 2)) 4) : CtV l yX4_reckon cX4_reckon 10 2 0 0 P D 97 97 False (cw P N F T K A w) (cw P N F T K (mRA A b b2 a) w) [.ref (rM P), .ref (rA P b), .ref (rA P b2), .int (nI a), .ref (rA P 4)] := by
  obtain ⟨j, hj, e⟩ := vp_in_of hf (by omega)
  have e2 : foA A b a = j := by
    unfold foA
    rw [e, nI_clamp (by omega)]
  have h := c_X4_reckon (l := l) (P := P) (D := D) (N := N) (F := F) (T := T) (K := K) (A := A) (w := w) (f0 := A b) (v := rowO (A b) a) (f2 := A b2) (g := rowO (A b2) (5 * j)) (wv := A 4) hb hb2 hL hL2 h14 h24 h12 ha hj e
  rw [R3_eta] at h
  unfold mRA rkQ
  rw [e2]
  exact h
set_option maxHeartbeats 4000000 in
set_option maxRecDepth 100000 in
theorem c_X4_pass {l : Launch} {P : L5} {D : va_G} {N F T : Nat → Nat → Int32} {K : Nat → Int32} {A : Nat → Nat → Int32} {w : Int64} {c : Nat} (hc : K 2 = nI c) (h12 : c ≤ 12) {b b2 : Nat} (hb : b < 5) (hb2 : b2 < 5) (hL : lenA b = 240) (hL2 : lenA b2 = 20) (h14 : b ≠ 4) (h24 : b2 ≠ 4) (hbb : b ≠ b2) {now : Int32} (hKM : KM A b c) : CtI l yX4_pass cX4_pass 6 .int 4 0 0 P D 97 97 False (cw P N F T K A w) (cw P N F T K (hourM c b b2 now A) w) [.ref (rM P), .ref (rA P b), .ref (rA P b2), .int now] (hourMG c b A) := by
  refine mk_Met pl_X4 [(0, .ref (rM P)), (1, .ref (rA P b)), (2, .ref (rA P b2)), (3, .int now)] rfl (Nat.le_of_ble_eq_true rfl) ?_
  intro pg en sg mg ag bg mt cd C
  refine v_iconst (v := 0) C dX4_pass_0 rfl ?_
  refine v_istore (lv' := [(4, .int 0), (0, .ref (rM P)), (1, .ref (rA P b)), (2, .ref (rA P b2)), (3, .int now)]) C dX4_pass_1 (by decide) rfl ?_
  refine v_iconst (v := 0) C dX4_pass_3 rfl ?_
  refine v_istore (lv' := [(5, .int 0), (4, .int 0), (0, .ref (rM P)), (1, .ref (rA P b)), (2, .ref (rA P b2)), (3, .int now)]) C dX4_pass_4 (by decide) rfl ?_
  have L_1 : ∀ (n : Nat) (i : Nat) (A9 : Nat → Nat → Int32) (sm : Int32), i ≤ c → c < i + n → KM A9 b c → V pg l en (rmO 4 0 0) sg mg ag bg mt cd P D (MQ bg (QcI P D 97 False (cw P N F T K (hourM c b b2 now A) w) (hourMG c b A)) ag sg 0 0 (aO P)) 6 97 False (cw P N F T K (goM n c b i A9 sm).1 w) 0 0 36 [(4, .int ((goM n c b i A9 sm).2)), (0, .ref (rM P)), (1, .ref (rA P b)), (2, .ref (rA P b2)), (3, .int now)] [] → V pg l en (rmO 4 0 0) sg mg ag bg mt cd P D (MQ bg (QcI P D 97 False (cw P N F T K (hourM c b b2 now A) w) (hourMG c b A)) ag sg 0 0 (aO P)) 6 97 False (cw P N F T K A9 w) 0 0 6 [(5, .int (nI i)), (4, .int sm), (0, .ref (rM P)), (1, .ref (rA P b)), (2, .ref (rA P b2)), (3, .int now)] [] := by
    intro n
    induction n with
    | zero => intro i A9 sm z1 z2; omega
    | succ n ih =>
      intro i A9 sm z1 z2 hK9 hk9
      refine v_iload C 0 dX4_pass_6 rfl ?_
      refine v_aload_n C 2 dX4_pass_8 rfl ?_
      refine v_gM C 2 (by decide) k_515 rfl dX4_pass_9 ?_
      refine v_icmp_ge (tgt := 36) C dX4_pass_12 (by decide) (fun h12_1 => ?_) (fun h12_1 => ?_)
      · refine v_lv [1, 2, 3, 4, 5] rfl ?_
        have hic : c ≤ i := (leC hc h12 z1).mp h12_1
        have e9 : goM (n + 1) c b i A9 sm = (A9, sm) := by rw [goM, if_pos hic]
        rw [e9] at hk9
        exact hk9
      · have hic : i < c := Nat.not_le.mp (fun z => h12_1 ((leC hc h12 z1).mpr z))
        refine v_iload C 1 dX4_pass_15 rfl ?_
        refine v_aload_n C 2 dX4_pass_17 rfl ?_
        refine v_aload_n C 3 dX4_pass_18 rfl ?_
        refine v_bipush (v := 20) C dX4_pass_19 rfl ?_
        refine v_iload C 0 dX4_pass_21 rfl ?_
        refine v_imul C dX4_pass_23 ?_
        refine v_topE (b := nI (20 * i)) (ixM rfl rfl) ?_
        refine go_I (run_V C (u_X4_work hb hL (by omega) (hK9 i hic).1) k_638 k_5 k_635 k_637 ks_37 dd_X4_work ⟨Nat.le_of_ble_eq_true rfl, Nat.le_of_ble_eq_true rfl⟩ rcM rfl (Nat.le_of_ble_eq_true rfl) dX4_pass_24 ⟨Nat.le_of_ble_eq_true rfl, Nat.le_of_ble_eq_true rfl⟩) ?_
        refine v_iadd C dX4_pass_27 ?_
        refine v_top (fun x_1 ex_1 => ?_)
        refine v_istore (lv' := [(4, .int x_1), (5, .int (nI i)), (0, .ref (rM P)), (1, .ref (rA P b)), (2, .ref (rA P b2)), (3, .int now)]) C dX4_pass_28 (by decide) rfl ?_
        refine v_iinc (b := (nI (i + 1))) (lv' := [(5, .int (nI (i + 1))), (4, .int x_1), (0, .ref (rM P)), (1, .ref (rA P b)), (2, .ref (rA P b2)), (3, .int now)]) C 1 dX4_pass_30 rfl (nI_1 _) (by decide) rfl ?_
        refine v_goto (tgt := 6) C dX4_pass_33 (by decide) ?_
        have e9 : goM (n + 1) c b i A9 sm = goM n c b (i + 1) (mWA A9 b (20 * i)) (sm + (mWr (rowO (A9 b) (20 * i))).2) := by rw [goM, if_neg (by omega)]
        rw [e9] at hk9
        subst ex_1
        exact ih _ _ _ (by omega) (by omega) (KM_work hK9) hk9
  refine L_1 (c + 1) 0 A 0 (by omega) (by omega) hKM ?_
  have hKg := KM_goM (c := c) (b := b) (c + 1) 0 A 0 hKM
  obtain ⟨q9, eq9⟩ : ∃ z, z = goM (c + 1) c b 0 A 0 := ⟨_, rfl⟩
  rw [← eq9] at hKg ⊢
  refine v_iload_n C 4 dX4_pass_36 rfl ?_
  refine v_bipush (v := 48) C dX4_pass_37 rfl ?_
  refine v_irem C dX4_pass_39 (by decide) ?_
  refine v_bipush (v := 47) C dX4_pass_40 rfl ?_
  refine v_icmp_ne (tgt := 152) C dX4_pass_42 (by decide) (fun h42_1 => ?_) (fun h42_1 => ?_)
  · refine v_iload C 0 dX4_pass_152 rfl ?_
    exact v_iret C dX4_pass_154 (by rw [hourM, if_neg (by exact h42_1), ← eq9]) (by rw [hourMG, ← eq9])
  · refine v_iconst (v := 0) C dX4_pass_45 rfl ?_
    refine v_istore (lv' := [(5, .int 0), (4, .int q9.2), (0, .ref (rM P)), (1, .ref (rA P b)), (2, .ref (rA P b2)), (3, .int now)]) C dX4_pass_46 (by decide) rfl ?_
    refine v_iload C 0 dX4_pass_48 rfl ?_
    refine v_iconst (v := 4) C dX4_pass_50 rfl ?_
    refine v_icmp_ge (tgt := 68) C dX4_pass_51 (by decide) (fun h9 => absurd h9 (by decide)) (fun _ => ?_)
    refine v_aload_n C 2 dX4_pass_54 rfl ?_
    refine v_gM C 7 (by decide) k_520 rfl dX4_pass_55 ?_
    refine v_iload C 0 dX4_pass_58 rfl ?_
    refine v_iconst (v := 0) C dX4_pass_60 rfl ?_
    refine v_stAk C 0 (by decide) rfl (show _ < 4 by omega) rfl dX4_pass_61 ?_
    refine v_iinc (b := 1) (lv' := [(5, .int 1), (4, .int q9.2), (0, .ref (rM P)), (1, .ref (rA P b)), (2, .ref (rA P b2)), (3, .int now)]) C 0 dX4_pass_62 rfl rfl (by decide) rfl ?_
    refine v_goto (tgt := 48) C dX4_pass_65 (by decide) ?_
    refine v_iload C 0 dX4_pass_48 rfl ?_
    refine v_iconst (v := 4) C dX4_pass_50 rfl ?_
    refine v_icmp_ge (tgt := 68) C dX4_pass_51 (by decide) (fun h9 => absurd h9 (by decide)) (fun _ => ?_)
    refine v_aload_n C 2 dX4_pass_54 rfl ?_
    refine v_gM C 7 (by decide) k_520 rfl dX4_pass_55 ?_
    refine v_iload C 0 dX4_pass_58 rfl ?_
    refine v_iconst (v := 0) C dX4_pass_60 rfl ?_
    refine v_stAk C 1 (by decide) rfl (show _ < 4 by omega) rfl dX4_pass_61 ?_
    refine v_iinc (b := 2) (lv' := [(5, .int 2), (4, .int q9.2), (0, .ref (rM P)), (1, .ref (rA P b)), (2, .ref (rA P b2)), (3, .int now)]) C 0 dX4_pass_62 rfl rfl (by decide) rfl ?_
    refine v_goto (tgt := 48) C dX4_pass_65 (by decide) ?_
    refine v_iload C 0 dX4_pass_48 rfl ?_
    refine v_iconst (v := 4) C dX4_pass_50 rfl ?_
    refine v_icmp_ge (tgt := 68) C dX4_pass_51 (by decide) (fun h9 => absurd h9 (by decide)) (fun _ => ?_)
    refine v_aload_n C 2 dX4_pass_54 rfl ?_
    refine v_gM C 7 (by decide) k_520 rfl dX4_pass_55 ?_
    refine v_iload C 0 dX4_pass_58 rfl ?_
    refine v_iconst (v := 0) C dX4_pass_60 rfl ?_
    refine v_stAk C 2 (by decide) rfl (show _ < 4 by omega) rfl dX4_pass_61 ?_
    refine v_iinc (b := 3) (lv' := [(5, .int 3), (4, .int q9.2), (0, .ref (rM P)), (1, .ref (rA P b)), (2, .ref (rA P b2)), (3, .int now)]) C 0 dX4_pass_62 rfl rfl (by decide) rfl ?_
    refine v_goto (tgt := 48) C dX4_pass_65 (by decide) ?_
    refine v_iload C 0 dX4_pass_48 rfl ?_
    refine v_iconst (v := 4) C dX4_pass_50 rfl ?_
    refine v_icmp_ge (tgt := 68) C dX4_pass_51 (by decide) (fun h9 => absurd h9 (by decide)) (fun _ => ?_)
    refine v_aload_n C 2 dX4_pass_54 rfl ?_
    refine v_gM C 7 (by decide) k_520 rfl dX4_pass_55 ?_
    refine v_iload C 0 dX4_pass_58 rfl ?_
    refine v_iconst (v := 0) C dX4_pass_60 rfl ?_
    refine v_stAk C 3 (by decide) rfl (show _ < 4 by omega) rfl dX4_pass_61 ?_
    refine v_iinc (b := 4) (lv' := [(5, .int 4), (4, .int q9.2), (0, .ref (rM P)), (1, .ref (rA P b)), (2, .ref (rA P b2)), (3, .int now)]) C 0 dX4_pass_62 rfl rfl (by decide) rfl ?_
    refine v_goto (tgt := 48) C dX4_pass_65 (by decide) ?_
    refine v_iload C 0 dX4_pass_48 rfl ?_
    refine v_iconst (v := 4) C dX4_pass_50 rfl ?_
    refine v_icmp_ge (tgt := 68) C dX4_pass_51 (by decide) (fun _ => ?_) (fun h9 => absurd (by decide) h9)
    refine v_iconst (v := 0) C dX4_pass_68 rfl ?_
    refine v_istore (lv' := [(5, .int 0), (4, .int q9.2), (0, .ref (rM P)), (1, .ref (rA P b)), (2, .ref (rA P b2)), (3, .int now)]) C dX4_pass_69 (by decide) rfl ?_
    have L_2 : ∀ (n : Nat) (i : Nat) (A9 : Nat → Nat → Int32), i ≤ c → c < i + n → KM A9 b c → V pg l en (rmO 4 0 0) sg mg ag bg mt cd P D (MQ bg (QcI P D 97 False (cw P N F T K (hourM c b b2 now A) w) (hourMG c b A)) ag sg 0 0 (aO P)) 6 97 False (cw P N F T K (rkM n c b b2 i A9) w) 0 0 101 [(4, .int q9.2), (0, .ref (rM P)), (2, .ref (rA P b2))] [] → V pg l en (rmO 4 0 0) sg mg ag bg mt cd P D (MQ bg (QcI P D 97 False (cw P N F T K (hourM c b b2 now A) w) (hourMG c b A)) ag sg 0 0 (aO P)) 6 97 False (cw P N F T K A9 w) 0 0 71 [(5, .int (nI i)), (4, .int q9.2), (0, .ref (rM P)), (1, .ref (rA P b)), (2, .ref (rA P b2))] [] := by
      intro n
      induction n with
      | zero => intro i A9 z1 z2; omega
      | succ n ih =>
        intro i A9 z1 z2 hK9 hk9
        refine v_iload C 0 dX4_pass_71 rfl ?_
        refine v_aload_n C 2 dX4_pass_73 rfl ?_
        refine v_gM C 2 (by decide) k_515 rfl dX4_pass_74 ?_
        refine v_icmp_ge (tgt := 101) C dX4_pass_77 (by decide) (fun h77_1 => ?_) (fun h77_1 => ?_)
        · refine v_lv [1, 2, 4] rfl ?_
          have hic : c ≤ i := (leC hc h12 z1).mp h77_1
          have e9 : rkM (n + 1) c b b2 i A9 = A9 := by rw [rkM, if_pos hic]
          rw [e9] at hk9
          exact hk9
        · have hic : i < c := Nat.not_le.mp (fun z => h77_1 ((leC hc h12 z1).mpr z))
          refine v_aload_n C 2 dX4_pass_80 rfl ?_
          refine v_aload_n C 3 dX4_pass_81 rfl ?_
          refine v_aload_n C 4 dX4_pass_82 rfl ?_
          refine v_bipush (v := 20) C dX4_pass_83 rfl ?_
          refine v_iload C 0 dX4_pass_85 rfl ?_
          refine v_imul C dX4_pass_87 ?_
          refine v_topE (b := nI (20 * i)) (ixM rfl rfl) ?_
          refine v_aload_n C 2 dX4_pass_88 rfl ?_
          refine v_gM C 7 (by decide) k_520 rfl dX4_pass_89 ?_
          refine go_V (run_V C (u_X4_reckon hb hb2 hL hL2 h14 h24 hbb (by omega) (hK9 i hic).2) k_650 k_5 k_647 k_649 ks_39 dd_X4_reckon ⟨Nat.le_of_ble_eq_true rfl, Nat.le_of_ble_eq_true rfl⟩ rcM rfl (Nat.le_of_ble_eq_true rfl) dX4_pass_92 ⟨Nat.le_of_ble_eq_true rfl, Nat.le_of_ble_eq_true rfl⟩) ?_
          refine v_iinc (b := (nI (i + 1))) (lv' := [(5, .int (nI (i + 1))), (4, .int q9.2), (0, .ref (rM P)), (1, .ref (rA P b)), (2, .ref (rA P b2))]) C 0 dX4_pass_95 rfl (nI_1 _) (by decide) rfl ?_
          refine v_goto (tgt := 71) C dX4_pass_98 (by decide) ?_
          have e9 : rkM (n + 1) c b b2 i A9 = rkM n c b b2 (i + 1) (mRA A9 b b2 (20 * i)) := by rw [rkM, if_neg (by omega)]
          rw [e9] at hk9
          exact ih _ _ (by omega) (by omega) (KM_reck h14 hbb hK9) hk9
    refine v_lv [0, 1, 2, 3, 4] rfl ?_
    refine L_2 (c + 1) 0 (z4M q9.1) (by omega) (by omega) (KM_eq (z4M_b h14) hKg) ?_
    obtain ⟨q8, eq8⟩ : ∃ z, z = rkM (c + 1) c b b2 0 (z4M q9.1) := ⟨_, rfl⟩
    rw [← eq8]
    refine v_iconst (v := 0) C dX4_pass_101 rfl ?_
    refine v_istore (lv' := [(5, .int 0), (4, .int q9.2), (0, .ref (rM P)), (2, .ref (rA P b2))]) C dX4_pass_102 (by decide) rfl ?_
    refine v_iload C 0 dX4_pass_104 rfl ?_
    refine v_iconst (v := 4) C dX4_pass_106 rfl ?_
    refine v_icmp_ge (tgt := 152) C dX4_pass_107 (by decide) (fun h9 => absurd h9 (by decide)) (fun _ => ?_)
    refine v_aload_n C 3 dX4_pass_110 rfl ?_
    refine v_iconst (v := 5) C dX4_pass_111 rfl ?_
    refine v_iload C 0 dX4_pass_112 rfl ?_
    refine v_imul C dX4_pass_114 ?_
    refine v_iconst (v := 1) C dX4_pass_115 rfl ?_
    refine v_iadd C dX4_pass_116 ?_
    refine v_dup2 C dX4_pass_117 rfl rfl ?_
    refine v_ldAk C 1 hb2 rfl (by rw [hL2]; omega) rfl dX4_pass_118 ?_
    refine v_aload_n C 2 dX4_pass_119 rfl ?_
    refine v_gM C 7 (by decide) k_520 rfl dX4_pass_120 ?_
    refine v_iload C 0 dX4_pass_123 rfl ?_
    refine v_ldAk C 0 (by decide) rfl (show _ < 4 by omega) rfl dX4_pass_125 ?_
    refine v_iadd C dX4_pass_126 ?_
    refine v_stAk C 1 hb2 rfl (by rw [hL2]; omega) rfl dX4_pass_127 ?_
    refine v_aload_n C 3 dX4_pass_128 rfl ?_
    refine v_iconst (v := 5) C dX4_pass_129 rfl ?_
    refine v_iload C 0 dX4_pass_130 rfl ?_
    refine v_imul C dX4_pass_132 ?_
    refine v_iconst (v := 4) C dX4_pass_133 rfl ?_
    refine v_iadd C dX4_pass_134 ?_
    refine v_dup2 C dX4_pass_135 rfl rfl ?_
    refine v_ldAk C 4 hb2 rfl (by rw [hL2]; omega) rfl dX4_pass_136 ?_
    refine v_aload_n C 2 dX4_pass_137 rfl ?_
    refine v_gM C 7 (by decide) k_520 rfl dX4_pass_138 ?_
    refine v_iload C 0 dX4_pass_141 rfl ?_
    refine v_ldAk C 0 (by decide) rfl (show _ < 4 by omega) rfl dX4_pass_143 ?_
    refine v_iadd C dX4_pass_144 ?_
    refine v_stAk C 4 hb2 rfl (by rw [hL2]; omega) rfl dX4_pass_145 ?_
    refine v_iinc (b := 1) (lv' := [(5, .int 1), (4, .int q9.2), (0, .ref (rM P)), (2, .ref (rA P b2))]) C 0 dX4_pass_146 rfl rfl (by decide) rfl ?_
    refine v_goto (tgt := 104) C dX4_pass_149 (by decide) ?_
    refine v_iload C 0 dX4_pass_104 rfl ?_
    refine v_iconst (v := 4) C dX4_pass_106 rfl ?_
    refine v_icmp_ge (tgt := 152) C dX4_pass_107 (by decide) (fun h9 => absurd h9 (by decide)) (fun _ => ?_)
    refine v_aload_n C 3 dX4_pass_110 rfl ?_
    refine v_iconst (v := 5) C dX4_pass_111 rfl ?_
    refine v_iload C 0 dX4_pass_112 rfl ?_
    refine v_imul C dX4_pass_114 ?_
    refine v_iconst (v := 1) C dX4_pass_115 rfl ?_
    refine v_iadd C dX4_pass_116 ?_
    refine v_dup2 C dX4_pass_117 rfl rfl ?_
    refine v_ldAk C 6 hb2 rfl (by rw [hL2]; omega) rfl dX4_pass_118 ?_
    refine v_aload_n C 2 dX4_pass_119 rfl ?_
    refine v_gM C 7 (by decide) k_520 rfl dX4_pass_120 ?_
    refine v_iload C 0 dX4_pass_123 rfl ?_
    refine v_ldAk C 1 (by decide) rfl (show _ < 4 by omega) rfl dX4_pass_125 ?_
    refine v_iadd C dX4_pass_126 ?_
    refine v_stAk C 6 hb2 rfl (by rw [hL2]; omega) rfl dX4_pass_127 ?_
    refine v_aload_n C 3 dX4_pass_128 rfl ?_
    refine v_iconst (v := 5) C dX4_pass_129 rfl ?_
    refine v_iload C 0 dX4_pass_130 rfl ?_
    refine v_imul C dX4_pass_132 ?_
    refine v_iconst (v := 4) C dX4_pass_133 rfl ?_
    refine v_iadd C dX4_pass_134 ?_
    refine v_dup2 C dX4_pass_135 rfl rfl ?_
    refine v_ldAk C 9 hb2 rfl (by rw [hL2]; omega) rfl dX4_pass_136 ?_
    refine v_aload_n C 2 dX4_pass_137 rfl ?_
    refine v_gM C 7 (by decide) k_520 rfl dX4_pass_138 ?_
    refine v_iload C 0 dX4_pass_141 rfl ?_
    refine v_ldAk C 1 (by decide) rfl (show _ < 4 by omega) rfl dX4_pass_143 ?_
    refine v_iadd C dX4_pass_144 ?_
    refine v_stAk C 9 hb2 rfl (by rw [hL2]; omega) rfl dX4_pass_145 ?_
    refine v_iinc (b := 2) (lv' := [(5, .int 2), (4, .int q9.2), (0, .ref (rM P)), (2, .ref (rA P b2))]) C 0 dX4_pass_146 rfl rfl (by decide) rfl ?_
    refine v_goto (tgt := 104) C dX4_pass_149 (by decide) ?_
    refine v_iload C 0 dX4_pass_104 rfl ?_
    refine v_iconst (v := 4) C dX4_pass_106 rfl ?_
    refine v_icmp_ge (tgt := 152) C dX4_pass_107 (by decide) (fun h9 => absurd h9 (by decide)) (fun _ => ?_)
    refine v_aload_n C 3 dX4_pass_110 rfl ?_
    refine v_iconst (v := 5) C dX4_pass_111 rfl ?_
    refine v_iload C 0 dX4_pass_112 rfl ?_
    refine v_imul C dX4_pass_114 ?_
    refine v_iconst (v := 1) C dX4_pass_115 rfl ?_
    refine v_iadd C dX4_pass_116 ?_
    refine v_dup2 C dX4_pass_117 rfl rfl ?_
    refine v_ldAk C 11 hb2 rfl (by rw [hL2]; omega) rfl dX4_pass_118 ?_
    refine v_aload_n C 2 dX4_pass_119 rfl ?_
    refine v_gM C 7 (by decide) k_520 rfl dX4_pass_120 ?_
    refine v_iload C 0 dX4_pass_123 rfl ?_
    refine v_ldAk C 2 (by decide) rfl (show _ < 4 by omega) rfl dX4_pass_125 ?_
    refine v_iadd C dX4_pass_126 ?_
    refine v_stAk C 11 hb2 rfl (by rw [hL2]; omega) rfl dX4_pass_127 ?_
    refine v_aload_n C 3 dX4_pass_128 rfl ?_
    refine v_iconst (v := 5) C dX4_pass_129 rfl ?_
    refine v_iload C 0 dX4_pass_130 rfl ?_
    refine v_imul C dX4_pass_132 ?_
    refine v_iconst (v := 4) C dX4_pass_133 rfl ?_
    refine v_iadd C dX4_pass_134 ?_
    refine v_dup2 C dX4_pass_135 rfl rfl ?_
    refine v_ldAk C 14 hb2 rfl (by rw [hL2]; omega) rfl dX4_pass_136 ?_
    refine v_aload_n C 2 dX4_pass_137 rfl ?_
    refine v_gM C 7 (by decide) k_520 rfl dX4_pass_138 ?_
    refine v_iload C 0 dX4_pass_141 rfl ?_
    refine v_ldAk C 2 (by decide) rfl (show _ < 4 by omega) rfl dX4_pass_143 ?_
    refine v_iadd C dX4_pass_144 ?_
    refine v_stAk C 14 hb2 rfl (by rw [hL2]; omega) rfl dX4_pass_145 ?_
    refine v_iinc (b := 3) (lv' := [(5, .int 3), (4, .int q9.2), (0, .ref (rM P)), (2, .ref (rA P b2))]) C 0 dX4_pass_146 rfl rfl (by decide) rfl ?_
    refine v_goto (tgt := 104) C dX4_pass_149 (by decide) ?_
    refine v_iload C 0 dX4_pass_104 rfl ?_
    refine v_iconst (v := 4) C dX4_pass_106 rfl ?_
    refine v_icmp_ge (tgt := 152) C dX4_pass_107 (by decide) (fun h9 => absurd h9 (by decide)) (fun _ => ?_)
    refine v_aload_n C 3 dX4_pass_110 rfl ?_
    refine v_iconst (v := 5) C dX4_pass_111 rfl ?_
    refine v_iload C 0 dX4_pass_112 rfl ?_
    refine v_imul C dX4_pass_114 ?_
    refine v_iconst (v := 1) C dX4_pass_115 rfl ?_
    refine v_iadd C dX4_pass_116 ?_
    refine v_dup2 C dX4_pass_117 rfl rfl ?_
    refine v_ldAk C 16 hb2 rfl (by rw [hL2]; omega) rfl dX4_pass_118 ?_
    refine v_aload_n C 2 dX4_pass_119 rfl ?_
    refine v_gM C 7 (by decide) k_520 rfl dX4_pass_120 ?_
    refine v_iload C 0 dX4_pass_123 rfl ?_
    refine v_ldAk C 3 (by decide) rfl (show _ < 4 by omega) rfl dX4_pass_125 ?_
    refine v_iadd C dX4_pass_126 ?_
    refine v_stAk C 16 hb2 rfl (by rw [hL2]; omega) rfl dX4_pass_127 ?_
    refine v_aload_n C 3 dX4_pass_128 rfl ?_
    refine v_iconst (v := 5) C dX4_pass_129 rfl ?_
    refine v_iload C 0 dX4_pass_130 rfl ?_
    refine v_imul C dX4_pass_132 ?_
    refine v_iconst (v := 4) C dX4_pass_133 rfl ?_
    refine v_iadd C dX4_pass_134 ?_
    refine v_dup2 C dX4_pass_135 rfl rfl ?_
    refine v_ldAk C 19 hb2 rfl (by rw [hL2]; omega) rfl dX4_pass_136 ?_
    refine v_aload_n C 2 dX4_pass_137 rfl ?_
    refine v_gM C 7 (by decide) k_520 rfl dX4_pass_138 ?_
    refine v_iload C 0 dX4_pass_141 rfl ?_
    refine v_ldAk C 3 (by decide) rfl (show _ < 4 by omega) rfl dX4_pass_143 ?_
    refine v_iadd C dX4_pass_144 ?_
    refine v_stAk C 19 hb2 rfl (by rw [hL2]; omega) rfl dX4_pass_145 ?_
    refine v_iinc (b := 4) (lv' := [(5, .int 4), (4, .int q9.2), (0, .ref (rM P)), (2, .ref (rA P b2))]) C 0 dX4_pass_146 rfl rfl (by decide) rfl ?_
    refine v_goto (tgt := 104) C dX4_pass_149 (by decide) ?_
    refine v_iload C 0 dX4_pass_104 rfl ?_
    refine v_iconst (v := 4) C dX4_pass_106 rfl ?_
    refine v_icmp_ge (tgt := 152) C dX4_pass_107 (by decide) (fun _ => ?_) (fun h9 => absurd (by decide) h9)
    refine v_iload C 1 dX4_pass_152 rfl ?_
    exact v_iret C dX4_pass_154 (by rw [hourM, if_pos (by exact h42_1), ← eq9, weekM, ← eq8]; rfl) (by rw [hourMG, ← eq9])
