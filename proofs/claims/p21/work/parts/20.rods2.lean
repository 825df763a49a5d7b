/-! NAILRODS: when, advise, richest, digest -/
set_option maxHeartbeats 4000000 in
set_option maxRecDepth 100000 in
theorem c_X3_advise {l : Launch} {P : L5} {D : va_G} {N F T : Nat → Nat → Int32} {K : Nat → Int32} {A : Nat → Nat → Int32} {w : Int64} {c : Nat} (hc : T 0 1 = nI c) (h12 : c ≤ 12) {p : Int32} (h1 : ¬ p < 0) (h2 : p < T 0 1) {q : Int32} (h3 : ¬ q < 1) (h4 : q ≤ 120) : CtI l yX3_advise cX3_advise 7 .int 6 0 0 P D (nW P) (nW P) False (cw P N F T K A w) (cw P (advL 5 q (12 * 0 + p.toNatClampNeg) 0 N 0 (-1)).1 F T K A w) [.ref (rX P), .int p, .int q] (advL 5 q (12 * 0 + p.toNatClampNeg) 0 N 0 (-1)).2 := by
  refine mk_Met pl_X3 [(0, .ref (rX P)), (1, .int p), (2, .int q)] rfl (Nat.le_of_ble_eq_true rfl) ?_
  intro pg en sg mg ag bg mt cd C
  obtain ⟨hin, hj⟩ := ixC h1 h2 hc h12
  refine v_aload_n C 0 dX3_advise_0 rfl ?_
  refine v_iload_n C 1 dX3_advise_1 rfl ?_
  refine go_V (run_V C (c_X3_needNailer h1 h2) k_20 k_1 k_16 k_18 ks_0 dd_X3_needNailer ⟨Nat.le_of_ble_eq_true rfl, Nat.le_of_ble_eq_true rfl⟩ rcX rfl (Nat.le_of_ble_eq_true rfl) dX3_advise_2 ⟨Nat.le_of_ble_eq_true rfl, Nat.le_of_ble_eq_true rfl⟩) ?_
  refine v_iload_n C 2 dX3_advise_5 rfl ?_
  refine v_iconst (v := 1) C dX3_advise_6 rfl ?_
  refine v_bipush (v := 120) C dX3_advise_7 rfl ?_
  refine go_V (run_S C (c_X3_needWithin h3 h4) k_96 k_1 k_94 k_95 dd_X3_needWithin ⟨Nat.le_of_ble_eq_true rfl, Nat.le_of_ble_eq_true rfl⟩ rfl (Nat.le_of_ble_eq_true rfl) dX3_advise_9 ⟨Nat.le_of_ble_eq_true rfl, Nat.le_of_ble_eq_true rfl⟩) ?_
  refine v_iconst (v := 0) C dX3_advise_12 rfl ?_
  refine v_istore_n (lv' := [(3, .int 0), (0, .ref (rX P)), (1, .int p), (2, .int q)]) C dX3_advise_13 rfl (by decide) rfl ?_
  refine v_iconst (v := (-1)) C dX3_advise_14 rfl ?_
  refine v_istore (lv' := [(4, .int (-1)), (3, .int 0), (0, .ref (rX P)), (1, .int p), (2, .int q)]) C dX3_advise_15 (by decide) rfl ?_
  refine v_iconst (v := 0) C dX3_advise_17 rfl ?_
  refine v_istore (lv' := [(5, .int 0), (4, .int (-1)), (3, .int 0), (0, .ref (rX P)), (1, .int p), (2, .int q)]) C dX3_advise_18 (by decide) rfl ?_
  have L_1 : ∀ (n : Nat) (i : Nat) (N9 : Nat → Nat → Int32) (best bw : Int32), i ≤ 4 → 4 < i + n → V pg l en (rmO 6 0 0) sg mg ag bg mt cd P D (MQ bg (QcI P D (nW P) False (cw P (advL 5 q (12 * 0 + p.toNatClampNeg) 0 N 0 (-1)).1 F T K A w) (advL 5 q (12 * 0 + p.toNatClampNeg) 0 N 0 (-1)).2) ag sg 0 0 (aO P)) 7 (nW P) False (cw P (advL n q (12 * 0 + p.toNatClampNeg) i N9 best bw).1 F T K A w) 0 0 88 [(3, .int ((advL n q (12 * 0 + p.toNatClampNeg) i N9 best bw).2))] [] → V pg l en (rmO 6 0 0) sg mg ag bg mt cd P D (MQ bg (QcI P D (nW P) False (cw P (advL 5 q (12 * 0 + p.toNatClampNeg) 0 N 0 (-1)).1 F T K A w) (advL 5 q (12 * 0 + p.toNatClampNeg) 0 N 0 (-1)).2) ag sg 0 0 (aO P)) 7 (nW P) False (cw P N9 F T K A w) 0 0 20 [(5, .int (nI i)), (4, .int bw), (3, .int best), (0, .ref (rX P)), (1, .int p), (2, .int q)] [] := by
    intro n
    induction n with
    | zero => intro i N9 best bw z1 z2; omega
    | succ n ih =>
      intro i N9 best bw z1 z2 hk9
      refine v_iload C 0 dX3_advise_20 rfl ?_
      refine v_iconst (v := 4) C dX3_advise_22 rfl ?_
      refine v_icmp_ge (tgt := 88) C dX3_advise_23 (by decide) (fun h23_1 => ?_) (fun h23_1 => ?_)
      · refine v_lv [2] rfl ?_
        have hic : 4 ≤ i := (le4i z1).mp h23_1
        have e9 : advL (n + 1) q (12 * 0 + p.toNatClampNeg) i N9 best bw = (N9, best) := by rw [advL, if_pos hic]
        rw [e9] at hk9
        exact hk9
      · have hic : i < 4 := Nat.not_le.mp (fun z => h23_1 ((le4i z1).mpr z))
        refine v_aload_n C 3 dX3_advise_26 rfl ?_
        refine v_gX C 2 (by decide) k_428 rfl dX3_advise_27 ?_
        refine v_aload_n C 3 dX3_advise_30 rfl ?_
        refine v_gX C 0 (by decide) k_426 rfl dX3_advise_31 ?_
        refine v_gTuN C (by decide) 2 (by decide) (List.mem_of_getElem? (i := 20) rfl) rfl dX3_advise_34 ?_
        refine v_iload_n C 4 dX3_advise_37 rfl ?_
        refine v_aaNk C p.toNatClampNeg (by decide) rfl hin dX3_advise_38 ?_
        refine go_V (run_VN C (u_X1_copyFrom (by decide) (by omega) (by omega)) k_254 k_3 (List.mem_of_getElem? (i := 15) rfl) k_253 ks_20 dd_X1_copyFrom ⟨Nat.le_of_ble_eq_true rfl, Nat.le_of_ble_eq_true rfl⟩ (rcN (by decide)) rfl (Nat.le_of_ble_eq_true rfl) dX3_advise_39 ⟨Nat.le_of_ble_eq_true rfl, Nat.le_of_ble_eq_true rfl⟩) ?_
        refine v_aload_n C 3 dX3_advise_42 rfl ?_
        refine v_gX C 2 (by decide) k_428 rfl dX3_advise_43 ?_
        refine v_iload C 0 dX3_advise_46 rfl ?_
        refine v_pNN C (by decide) 1 (by decide) (List.mem_of_getElem? (i := 0) rfl) dX3_advise_48 ?_
        refine v_aload_n C 3 dX3_advise_51 rfl ?_
        refine v_gX C 2 (by decide) k_428 rfl dX3_advise_52 ?_
        refine v_iload_n C 5 dX3_advise_55 rfl ?_
        refine go_I (run_VN C (c_X1_workHours (by decide) (show vp_in (nI i) 4 from vp_in_nI hic (by omega))) k_258 k_3 (List.mem_of_getElem? (i := 16) rfl) k_257 ks_21 dd_X1_workHours ⟨Nat.le_of_ble_eq_true rfl, Nat.le_of_ble_eq_true rfl⟩ (rcN (by decide)) rfl (Nat.le_of_ble_eq_true rfl) dX3_advise_56 ⟨Nat.le_of_ble_eq_true rfl, Nat.le_of_ble_eq_true rfl⟩) ?_
        refine v_gS C 1 rfl k_278 dX3_advise_59 ?_
        refine v_iload C 0 dX3_advise_62 rfl ?_
        refine v_ldS C 1 rfl (vp_in_nI hic (by omega)) dX3_advise_64 ?_
        refine v_imul C dX3_advise_65 ?_
        refine v_top (fun x_1 ex_1 => ?_)
        refine v_istore (lv' := [(6, .int x_1), (5, .int (nI i)), (4, .int bw), (3, .int best), (0, .ref (rX P)), (1, .int p), (2, .int q)]) C dX3_advise_66 (by decide) rfl ?_
        refine v_iload C 0 dX3_advise_68 rfl ?_
        refine v_iload C 2 dX3_advise_70 rfl ?_
        refine v_icmp_le (tgt := 82) C dX3_advise_72 (by decide) (fun h72_1 => ?_) (fun h72_1 => ?_)
        · refine v_iinc (b := (nI (i + 1))) (lv' := [(5, .int (nI (i + 1))), (6, .int x_1), (4, .int bw), (3, .int best), (0, .ref (rX P)), (1, .int p), (2, .int q)]) C 1 dX3_advise_82 rfl (nI_1 _) (by decide) rfl ?_
          refine v_goto (tgt := 20) C dX3_advise_85 (by decide) ?_
          refine v_lv [0, 2, 3, 4, 5, 6] rfl ?_
          replace ex_1 : x_1 = (advW q i (N9 (12 * 0 + p.toNatClampNeg))).2 * woT i := by
            rw [ex_1]; show _ * woT (nI i).toNatClampNeg = _; rw [nI_clamp (by omega)]; rfl
          have e9 : advL (n + 1) q (12 * 0 + p.toNatClampNeg) i N9 best bw = advL n q (12 * 0 + p.toNatClampNeg) (i + 1) (va_up N9 24 (advW q i (N9 (12 * 0 + p.toNatClampNeg))).1) best bw := by rw [advL, if_neg (by omega), if_pos (by exact (ex_1 ▸ h72_1))]
          rw [e9] at hk9
          exact ih _ _ _ _ (by omega) (by omega) hk9
        · refine v_iload C 1 dX3_advise_75 rfl ?_
          refine v_istore_n (lv' := [(3, .int (nI i)), (6, .int x_1), (5, .int (nI i)), (4, .int bw), (0, .ref (rX P)), (1, .int p), (2, .int q)]) C dX3_advise_77 rfl (by decide) rfl ?_
          refine v_iload C 1 dX3_advise_78 rfl ?_
          refine v_istore (lv' := [(4, .int x_1), (3, .int (nI i)), (6, .int x_1), (5, .int (nI i)), (0, .ref (rX P)), (1, .int p), (2, .int q)]) C dX3_advise_80 (by decide) rfl ?_
          refine v_iinc (b := (nI (i + 1))) (lv' := [(5, .int (nI (i + 1))), (4, .int x_1), (3, .int (nI i)), (6, .int x_1), (0, .ref (rX P)), (1, .int p), (2, .int q)]) C 3 dX3_advise_82 rfl (nI_1 _) (by decide) rfl ?_
          refine v_goto (tgt := 20) C dX3_advise_85 (by decide) ?_
          refine v_lv [0, 1, 2, 4, 5, 6] rfl ?_
          replace ex_1 : x_1 = (advW q i (N9 (12 * 0 + p.toNatClampNeg))).2 * woT i := by
            rw [ex_1]; show _ * woT (nI i).toNatClampNeg = _; rw [nI_clamp (by omega)]; rfl
          have e9 : advL (n + 1) q (12 * 0 + p.toNatClampNeg) i N9 best bw = advL n q (12 * 0 + p.toNatClampNeg) (i + 1) (va_up N9 24 (advW q i (N9 (12 * 0 + p.toNatClampNeg))).1) (nI i) ((advW q i (N9 (12 * 0 + p.toNatClampNeg))).2 * woT i) := by rw [advL, if_neg (by omega), if_neg (by exact (ex_1 ▸ h72_1))]
          rw [e9] at hk9
          subst ex_1
          exact ih _ _ _ _ (by omega) (by omega) hk9
  refine L_1 5 0 N 0 (-1) (by omega) (by omega) ?_
  refine v_iload_n C 0 dX3_advise_88 rfl ?_
  exact v_iret C dX3_advise_89 rfl rfl
set_option maxHeartbeats 4000000 in
set_option maxRecDepth 100000 in
theorem c_X3_richest {l : Launch} {P : L5} {D : va_G} {N F T : Nat → Nat → Int32} {K : Nat → Int32} {A : Nat → Nat → Int32} {w : Int64} {c : Nat} (hc : T 0 1 = nI c) (h12 : c ≤ 12) : CtI l yX3_richest cX3_richest 5 .int 6 0 0 P D (nW P) (nW P) False (cw P N F T K A w) (cw P N F T K A w) [.ref (rX P)] (ricL (c + 1) c (12 * 0) 0 N (-1) 0) := by
  refine mk_Met pl_X3 [(0, .ref (rX P))] rfl (Nat.le_of_ble_eq_true rfl) ?_
  intro pg en sg mg ag bg mt cd C
  refine v_iconst (v := (-1)) C dX3_richest_0 rfl ?_
  refine v_istore_n (lv' := [(1, .int (-1)), (0, .ref (rX P))]) C dX3_richest_1 rfl (by decide) rfl ?_
  refine v_iconst (v := 0) C dX3_richest_2 rfl ?_
  refine v_istore_n (lv' := [(2, .int 0), (1, .int (-1)), (0, .ref (rX P))]) C dX3_richest_3 rfl (by decide) rfl ?_
  refine v_iconst (v := 0) C dX3_richest_4 rfl ?_
  refine v_istore_n (lv' := [(3, .int 0), (2, .int 0), (1, .int (-1)), (0, .ref (rX P))]) C dX3_richest_5 rfl (by decide) rfl ?_
  have L_1 : ∀ (n : Nat) (i : Nat) (best bw : Int32), i ≤ c → c < i + n → V pg l en (rmO 6 0 0) sg mg ag bg mt cd P D (MQ bg (QcI P D (nW P) False (cw P N F T K A w) (ricL (c + 1) c (12 * 0) 0 N (-1) 0)) ag sg 0 0 (aO P)) 5 (nW P) False (cw P N F T K A w) 0 0 65 [(1, .int (ricL n c (12 * 0) i N best bw))] [] → V pg l en (rmO 6 0 0) sg mg ag bg mt cd P D (MQ bg (QcI P D (nW P) False (cw P N F T K A w) (ricL (c + 1) c (12 * 0) 0 N (-1) 0)) ag sg 0 0 (aO P)) 5 (nW P) False (cw P N F T K A w) 0 0 6 [(3, .int (nI i)), (2, .int bw), (1, .int best), (0, .ref (rX P))] [] := by
    intro n
    induction n with
    | zero => intro i best bw z1 z2; omega
    | succ n ih =>
      intro i best bw z1 z2 hk9
      refine v_iload_n C 0 dX3_richest_6 rfl ?_
      refine v_aload_n C 3 dX3_richest_7 rfl ?_
      refine v_gX C 0 (by decide) k_426 rfl dX3_richest_8 ?_
      refine v_gTuN C (by decide) 1 (by decide) (List.mem_of_getElem? (i := 19) rfl) rfl dX3_richest_11 ?_
      refine v_icmp_ge (tgt := 65) C dX3_richest_14 (by decide) (fun h14_1 => ?_) (fun h14_1 => ?_)
      · refine v_lv [2] rfl ?_
        have hic : c ≤ i := (leC hc h12 z1).mp h14_1
        have e9 : ricL (n + 1) c (12 * 0) i N best bw = best := by rw [ricL, if_pos hic]
        rw [e9] at hk9
        exact hk9
      · have hic : i < c := Nat.not_le.mp (fun z => h14_1 ((leC hc h12 z1).mpr z))
        refine v_aload_n C 3 dX3_richest_17 rfl ?_
        refine v_gX C 0 (by decide) k_426 rfl dX3_richest_18 ?_
        refine v_gTuN C (by decide) 2 (by decide) (List.mem_of_getElem? (i := 20) rfl) rfl dX3_richest_21 ?_
        refine v_iload_n C 0 dX3_richest_24 rfl ?_
        refine v_aaNk C i (by decide) (nI_clamp (by omega)) (vp_in_nI (by omega) (by omega)) dX3_richest_25 ?_
        refine v_gNuN C (by omega) 7 (by decide) (List.mem_of_getElem? (i := 7) rfl) rfl dX3_richest_26 ?_
        refine v_aload_n C 3 dX3_richest_29 rfl ?_
        refine v_gX C 0 (by decide) k_426 rfl dX3_richest_30 ?_
        refine v_gTuN C (by decide) 2 (by decide) (List.mem_of_getElem? (i := 20) rfl) rfl dX3_richest_33 ?_
        refine v_iload_n C 0 dX3_richest_36 rfl ?_
        refine v_aaNk C i (by decide) (nI_clamp (by omega)) (vp_in_nI (by omega) (by omega)) dX3_richest_37 ?_
        refine v_gNuN C (by omega) 8 (by decide) (List.mem_of_getElem? (i := 8) rfl) rfl dX3_richest_38 ?_
        refine v_isub C dX3_richest_41 ?_
        refine v_top (fun x_1 ex_1 => ?_)
        refine v_istore (lv' := [(4, .int x_1), (3, .int (nI i)), (2, .int bw), (1, .int best), (0, .ref (rX P))]) C dX3_richest_42 (by decide) rfl ?_
        refine v_iload_n C 3 dX3_richest_44 rfl ?_
        refine v_if_lt (tgt := 54) C dX3_richest_45 (by decide) (fun h45_1 => ?_) (fun h45_1 => ?_)
        · refine v_iload_n C 1 dX3_richest_54 rfl ?_
          refine v_istore_n (lv' := [(1, .int (nI i)), (4, .int x_1), (3, .int (nI i)), (2, .int bw), (0, .ref (rX P))]) C dX3_richest_55 rfl (by decide) rfl ?_
          refine v_iload C 1 dX3_richest_56 rfl ?_
          refine v_istore_n (lv' := [(2, .int x_1), (1, .int (nI i)), (4, .int x_1), (3, .int (nI i)), (0, .ref (rX P))]) C dX3_richest_58 rfl (by decide) rfl ?_
          refine v_iinc (b := (nI (i + 1))) (lv' := [(3, .int (nI (i + 1))), (2, .int x_1), (1, .int (nI i)), (4, .int x_1), (0, .ref (rX P))]) C 3 dX3_richest_59 rfl (nI_1 _) (by decide) rfl ?_
          refine v_goto (tgt := 6) C dX3_richest_62 (by decide) ?_
          refine v_lv [0, 1, 2, 4] rfl ?_
          replace ex_1 : x_1 = wlth (N (12 * 0 + i)) := ex_1
          have e9 : ricL (n + 1) c (12 * 0) i N best bw = ricL n c (12 * 0) (i + 1) N (nI i) (wlth (N (12 * 0 + i))) := by rw [ricL, if_neg (by omega), if_pos h45_1]
          rw [e9] at hk9
          subst ex_1
          exact ih _ _ _ (by omega) (by omega) hk9
        · refine v_iload C 0 dX3_richest_48 rfl ?_
          refine v_iload_n C 2 dX3_richest_50 rfl ?_
          refine v_icmp_le (tgt := 59) C dX3_richest_51 (by decide) (fun h51_1 => ?_) (fun h51_1 => ?_)
          · refine v_iinc (b := (nI (i + 1))) (lv' := [(3, .int (nI (i + 1))), (4, .int x_1), (2, .int bw), (1, .int best), (0, .ref (rX P))]) C 1 dX3_richest_59 rfl (nI_1 _) (by decide) rfl ?_
            refine v_goto (tgt := 6) C dX3_richest_62 (by decide) ?_
            refine v_lv [0, 2, 3, 4] rfl ?_
            replace ex_1 : x_1 = wlth (N (12 * 0 + i)) := ex_1
            have e9 : ricL (n + 1) c (12 * 0) i N best bw = ricL n c (12 * 0) (i + 1) N best bw := by rw [ricL, if_neg (by omega), if_neg h45_1, if_pos (by exact (ex_1 ▸ h51_1))]
            rw [e9] at hk9
            exact ih _ _ _ (by omega) (by omega) hk9
          · refine v_iload_n C 1 dX3_richest_54 rfl ?_
            refine v_istore_n (lv' := [(1, .int (nI i)), (4, .int x_1), (3, .int (nI i)), (2, .int bw), (0, .ref (rX P))]) C dX3_richest_55 rfl (by decide) rfl ?_
            refine v_iload C 1 dX3_richest_56 rfl ?_
            refine v_istore_n (lv' := [(2, .int x_1), (1, .int (nI i)), (4, .int x_1), (3, .int (nI i)), (0, .ref (rX P))]) C dX3_richest_58 rfl (by decide) rfl ?_
            refine v_iinc (b := (nI (i + 1))) (lv' := [(3, .int (nI (i + 1))), (2, .int x_1), (1, .int (nI i)), (4, .int x_1), (0, .ref (rX P))]) C 3 dX3_richest_59 rfl (nI_1 _) (by decide) rfl ?_
            refine v_goto (tgt := 6) C dX3_richest_62 (by decide) ?_
            refine v_lv [0, 1, 2, 4] rfl ?_
            replace ex_1 : x_1 = wlth (N (12 * 0 + i)) := ex_1
            have e9 : ricL (n + 1) c (12 * 0) i N best bw = ricL n c (12 * 0) (i + 1) N (nI i) (wlth (N (12 * 0 + i))) := by rw [ricL, if_neg (by omega), if_neg h45_1, if_neg (by exact (ex_1 ▸ h51_1))]
            rw [e9] at hk9
            subst ex_1
            exact ih _ _ _ (by omega) (by omega) hk9
  refine L_1 (c + 1) 0 (-1) 0 (by omega) (by omega) ?_
  refine v_iload_n C 0 dX3_richest_65 rfl ?_
  exact v_iret C dX3_richest_66 rfl rfl
set_option maxHeartbeats 4000000 in
set_option maxRecDepth 100000 in
theorem c_X3_digest {l : Launch} {P : L5} {D : va_G} {N F T : Nat → Nat → Int32} {K : Nat → Int32} {A : Nat → Nat → Int32} {w : Int64} {c : Nat} (hc : T 0 1 = nI c) (h12 : c ≤ 12) : CtL l yX3_digest cX3_digest 5 6 0 0 P D (nW P) (nW P) False (cw P N F T K A w) (cw P N F T K A w) [.ref (rX P)] (digC N F T c) := by
  refine mk_Met pl_X3 [(0, .ref (rX P))] rfl (Nat.le_of_ble_eq_true rfl) ?_
  intro pg en sg mg ag bg mt cd C
  refine v_ldc2 (v := 1259) C dX3_digest_0 k_287 ?_
  refine v_lstore_n (lv' := [(1, .long 1259), (0, .ref (rX P))]) C dX3_digest_3 rfl (by decide) rfl ?_
  refine v_iconst (v := 0) C dX3_digest_4 rfl ?_
  refine v_istore_n (lv' := [(3, .int 0), (1, .long 1259), (0, .ref (rX P))]) C dX3_digest_5 rfl (by decide) rfl ?_
  refine v_iload_n C 0 dX3_digest_6 rfl ?_
  refine v_bipush (v := 11) C dX3_digest_7 rfl ?_
  refine v_icmp_ge (tgt := 34) C dX3_digest_9 (by decide) (fun h9 => absurd h9 (by decide)) (fun _ => ?_)
  refine v_lload_n C 1 dX3_digest_12 rfl ?_
  refine v_ldc2 (v := 31) C dX3_digest_13 k_288 ?_
  refine v_lmul C dX3_digest_16 ?_
  refine v_aload_n C 2 dX3_digest_17 rfl ?_
  refine v_gX C 0 (by decide) k_426 rfl dX3_digest_18 ?_
  refine v_iload_n C 0 dX3_digest_21 rfl ?_
  refine go_I (run_VN C (c_X2_total_0 (by decide) hc h12) k_171 k_2 (List.mem_of_getElem? (i := 4) rfl) k_170 ks_5 dd_X2_total ⟨Nat.le_of_ble_eq_true rfl, Nat.le_of_ble_eq_true rfl⟩ (rcT (by decide)) rfl (Nat.le_of_ble_eq_true rfl) dX3_digest_22 ⟨Nat.le_of_ble_eq_true rfl, Nat.le_of_ble_eq_true rfl⟩) ?_
  refine v_i2l C dX3_digest_25 ?_
  refine v_ladd C dX3_digest_26 ?_
  refine v_topl (fun y_1 ey_1 => ?_)
  replace ey_1 : y_1 = dg 1259 (totN N F T 0 c 0) := ey_1
  refine v_lstore_n (lv' := [(1, .long y_1), (3, .int 0), (0, .ref (rX P))]) C dX3_digest_27 rfl (by decide) rfl ?_
  refine v_iinc (b := 1) (lv' := [(3, .int 1), (1, .long y_1), (0, .ref (rX P))]) C 1 dX3_digest_28 rfl rfl (by decide) rfl ?_
  refine v_goto (tgt := 6) C dX3_digest_31 (by decide) ?_
  refine v_iload_n C 0 dX3_digest_6 rfl ?_
  refine v_bipush (v := 11) C dX3_digest_7 rfl ?_
  refine v_icmp_ge (tgt := 34) C dX3_digest_9 (by decide) (fun h9 => absurd h9 (by decide)) (fun _ => ?_)
  refine v_lload_n C 1 dX3_digest_12 rfl ?_
  refine v_ldc2 (v := 31) C dX3_digest_13 k_288 ?_
  refine v_lmul C dX3_digest_16 ?_
  refine v_aload_n C 2 dX3_digest_17 rfl ?_
  refine v_gX C 0 (by decide) k_426 rfl dX3_digest_18 ?_
  refine v_iload_n C 0 dX3_digest_21 rfl ?_
  refine go_I (run_VN C (c_X2_total_1 (by decide) hc h12) k_171 k_2 (List.mem_of_getElem? (i := 4) rfl) k_170 ks_5 dd_X2_total ⟨Nat.le_of_ble_eq_true rfl, Nat.le_of_ble_eq_true rfl⟩ (rcT (by decide)) rfl (Nat.le_of_ble_eq_true rfl) dX3_digest_22 ⟨Nat.le_of_ble_eq_true rfl, Nat.le_of_ble_eq_true rfl⟩) ?_
  refine v_i2l C dX3_digest_25 ?_
  refine v_ladd C dX3_digest_26 ?_
  refine v_topl (fun y_2 ey_2 => ?_)
  replace ey_2 : y_2 = dg y_1 (totN N F T 0 c 1) := ey_2
  refine v_lstore_n (lv' := [(1, .long y_2), (3, .int 1), (0, .ref (rX P))]) C dX3_digest_27 rfl (by decide) rfl ?_
  refine v_iinc (b := 2) (lv' := [(3, .int 2), (1, .long y_2), (0, .ref (rX P))]) C 1 dX3_digest_28 rfl rfl (by decide) rfl ?_
  refine v_goto (tgt := 6) C dX3_digest_31 (by decide) ?_
  refine v_iload_n C 0 dX3_digest_6 rfl ?_
  refine v_bipush (v := 11) C dX3_digest_7 rfl ?_
  refine v_icmp_ge (tgt := 34) C dX3_digest_9 (by decide) (fun h9 => absurd h9 (by decide)) (fun _ => ?_)
  refine v_lload_n C 1 dX3_digest_12 rfl ?_
  refine v_ldc2 (v := 31) C dX3_digest_13 k_288 ?_
  refine v_lmul C dX3_digest_16 ?_
  refine v_aload_n C 2 dX3_digest_17 rfl ?_
  refine v_gX C 0 (by decide) k_426 rfl dX3_digest_18 ?_
  refine v_iload_n C 0 dX3_digest_21 rfl ?_
  refine go_I (run_VN C (c_X2_total_2 (by decide) hc h12) k_171 k_2 (List.mem_of_getElem? (i := 4) rfl) k_170 ks_5 dd_X2_total ⟨Nat.le_of_ble_eq_true rfl, Nat.le_of_ble_eq_true rfl⟩ (rcT (by decide)) rfl (Nat.le_of_ble_eq_true rfl) dX3_digest_22 ⟨Nat.le_of_ble_eq_true rfl, Nat.le_of_ble_eq_true rfl⟩) ?_
  refine v_i2l C dX3_digest_25 ?_
  refine v_ladd C dX3_digest_26 ?_
  refine v_topl (fun y_3 ey_3 => ?_)
  replace ey_3 : y_3 = dg y_2 (totN N F T 0 c 2) := ey_3
  refine v_lstore_n (lv' := [(1, .long y_3), (3, .int 2), (0, .ref (rX P))]) C dX3_digest_27 rfl (by decide) rfl ?_
  refine v_iinc (b := 3) (lv' := [(3, .int 3), (1, .long y_3), (0, .ref (rX P))]) C 1 dX3_digest_28 rfl rfl (by decide) rfl ?_
  refine v_goto (tgt := 6) C dX3_digest_31 (by decide) ?_
  refine v_iload_n C 0 dX3_digest_6 rfl ?_
  refine v_bipush (v := 11) C dX3_digest_7 rfl ?_
  refine v_icmp_ge (tgt := 34) C dX3_digest_9 (by decide) (fun h9 => absurd h9 (by decide)) (fun _ => ?_)
  refine v_lload_n C 1 dX3_digest_12 rfl ?_
  refine v_ldc2 (v := 31) C dX3_digest_13 k_288 ?_
  refine v_lmul C dX3_digest_16 ?_
  refine v_aload_n C 2 dX3_digest_17 rfl ?_
  refine v_gX C 0 (by decide) k_426 rfl dX3_digest_18 ?_
  refine v_iload_n C 0 dX3_digest_21 rfl ?_
  refine go_I (run_VN C (c_X2_total_3 (by decide) hc h12) k_171 k_2 (List.mem_of_getElem? (i := 4) rfl) k_170 ks_5 dd_X2_total ⟨Nat.le_of_ble_eq_true rfl, Nat.le_of_ble_eq_true rfl⟩ (rcT (by decide)) rfl (Nat.le_of_ble_eq_true rfl) dX3_digest_22 ⟨Nat.le_of_ble_eq_true rfl, Nat.le_of_ble_eq_true rfl⟩) ?_
  refine v_i2l C dX3_digest_25 ?_
  refine v_ladd C dX3_digest_26 ?_
  refine v_topl (fun y_4 ey_4 => ?_)
  replace ey_4 : y_4 = dg y_3 (totN N F T 0 c 3) := ey_4
  refine v_lstore_n (lv' := [(1, .long y_4), (3, .int 3), (0, .ref (rX P))]) C dX3_digest_27 rfl (by decide) rfl ?_
  refine v_iinc (b := 4) (lv' := [(3, .int 4), (1, .long y_4), (0, .ref (rX P))]) C 1 dX3_digest_28 rfl rfl (by decide) rfl ?_
  refine v_goto (tgt := 6) C dX3_digest_31 (by decide) ?_
  refine v_iload_n C 0 dX3_digest_6 rfl ?_
  refine v_bipush (v := 11) C dX3_digest_7 rfl ?_
  refine v_icmp_ge (tgt := 34) C dX3_digest_9 (by decide) (fun h9 => absurd h9 (by decide)) (fun _ => ?_)
  refine v_lload_n C 1 dX3_digest_12 rfl ?_
  refine v_ldc2 (v := 31) C dX3_digest_13 k_288 ?_
  refine v_lmul C dX3_digest_16 ?_
  refine v_aload_n C 2 dX3_digest_17 rfl ?_
  refine v_gX C 0 (by decide) k_426 rfl dX3_digest_18 ?_
  refine v_iload_n C 0 dX3_digest_21 rfl ?_
  refine go_I (run_VN C (c_X2_total_4 (by decide) hc h12) k_171 k_2 (List.mem_of_getElem? (i := 4) rfl) k_170 ks_5 dd_X2_total ⟨Nat.le_of_ble_eq_true rfl, Nat.le_of_ble_eq_true rfl⟩ (rcT (by decide)) rfl (Nat.le_of_ble_eq_true rfl) dX3_digest_22 ⟨Nat.le_of_ble_eq_true rfl, Nat.le_of_ble_eq_true rfl⟩) ?_
  refine v_i2l C dX3_digest_25 ?_
  refine v_ladd C dX3_digest_26 ?_
  refine v_topl (fun y_5 ey_5 => ?_)
  replace ey_5 : y_5 = dg y_4 (totN N F T 0 c 4) := ey_5
  refine v_lstore_n (lv' := [(1, .long y_5), (3, .int 4), (0, .ref (rX P))]) C dX3_digest_27 rfl (by decide) rfl ?_
  refine v_iinc (b := 5) (lv' := [(3, .int 5), (1, .long y_5), (0, .ref (rX P))]) C 1 dX3_digest_28 rfl rfl (by decide) rfl ?_
  refine v_goto (tgt := 6) C dX3_digest_31 (by decide) ?_
  refine v_iload_n C 0 dX3_digest_6 rfl ?_
  refine v_bipush (v := 11) C dX3_digest_7 rfl ?_
  refine v_icmp_ge (tgt := 34) C dX3_digest_9 (by decide) (fun h9 => absurd h9 (by decide)) (fun _ => ?_)
  refine v_lload_n C 1 dX3_digest_12 rfl ?_
  refine v_ldc2 (v := 31) C dX3_digest_13 k_288 ?_
  refine v_lmul C dX3_digest_16 ?_
  refine v_aload_n C 2 dX3_digest_17 rfl ?_
  refine v_gX C 0 (by decide) k_426 rfl dX3_digest_18 ?_
  refine v_iload_n C 0 dX3_digest_21 rfl ?_
  refine go_I (run_VN C (c_X2_total_5 (by decide) hc h12) k_171 k_2 (List.mem_of_getElem? (i := 4) rfl) k_170 ks_5 dd_X2_total ⟨Nat.le_of_ble_eq_true rfl, Nat.le_of_ble_eq_true rfl⟩ (rcT (by decide)) rfl (Nat.le_of_ble_eq_true rfl) dX3_digest_22 ⟨Nat.le_of_ble_eq_true rfl, Nat.le_of_ble_eq_true rfl⟩) ?_
  refine v_i2l C dX3_digest_25 ?_
  refine v_ladd C dX3_digest_26 ?_
  refine v_topl (fun y_6 ey_6 => ?_)
  replace ey_6 : y_6 = dg y_5 (totN N F T 0 c 5) := ey_6
  refine v_lstore_n (lv' := [(1, .long y_6), (3, .int 5), (0, .ref (rX P))]) C dX3_digest_27 rfl (by decide) rfl ?_
  refine v_iinc (b := 6) (lv' := [(3, .int 6), (1, .long y_6), (0, .ref (rX P))]) C 1 dX3_digest_28 rfl rfl (by decide) rfl ?_
  refine v_goto (tgt := 6) C dX3_digest_31 (by decide) ?_
  refine v_iload_n C 0 dX3_digest_6 rfl ?_
  refine v_bipush (v := 11) C dX3_digest_7 rfl ?_
  refine v_icmp_ge (tgt := 34) C dX3_digest_9 (by decide) (fun h9 => absurd h9 (by decide)) (fun _ => ?_)
  refine v_lload_n C 1 dX3_digest_12 rfl ?_
  refine v_ldc2 (v := 31) C dX3_digest_13 k_288 ?_
  refine v_lmul C dX3_digest_16 ?_
  refine v_aload_n C 2 dX3_digest_17 rfl ?_
  refine v_gX C 0 (by decide) k_426 rfl dX3_digest_18 ?_
  refine v_iload_n C 0 dX3_digest_21 rfl ?_
  refine go_I (run_VN C (c_X2_total_6 (by decide) hc h12) k_171 k_2 (List.mem_of_getElem? (i := 4) rfl) k_170 ks_5 dd_X2_total ⟨Nat.le_of_ble_eq_true rfl, Nat.le_of_ble_eq_true rfl⟩ (rcT (by decide)) rfl (Nat.le_of_ble_eq_true rfl) dX3_digest_22 ⟨Nat.le_of_ble_eq_true rfl, Nat.le_of_ble_eq_true rfl⟩) ?_
  refine v_i2l C dX3_digest_25 ?_
  refine v_ladd C dX3_digest_26 ?_
  refine v_topl (fun y_7 ey_7 => ?_)
  replace ey_7 : y_7 = dg y_6 (totN N F T 0 c 6) := ey_7
  refine v_lstore_n (lv' := [(1, .long y_7), (3, .int 6), (0, .ref (rX P))]) C dX3_digest_27 rfl (by decide) rfl ?_
  refine v_iinc (b := 7) (lv' := [(3, .int 7), (1, .long y_7), (0, .ref (rX P))]) C 1 dX3_digest_28 rfl rfl (by decide) rfl ?_
  refine v_goto (tgt := 6) C dX3_digest_31 (by decide) ?_
  refine v_iload_n C 0 dX3_digest_6 rfl ?_
  refine v_bipush (v := 11) C dX3_digest_7 rfl ?_
  refine v_icmp_ge (tgt := 34) C dX3_digest_9 (by decide) (fun h9 => absurd h9 (by decide)) (fun _ => ?_)
  refine v_lload_n C 1 dX3_digest_12 rfl ?_
  refine v_ldc2 (v := 31) C dX3_digest_13 k_288 ?_
  refine v_lmul C dX3_digest_16 ?_
  refine v_aload_n C 2 dX3_digest_17 rfl ?_
  refine v_gX C 0 (by decide) k_426 rfl dX3_digest_18 ?_
  refine v_iload_n C 0 dX3_digest_21 rfl ?_
  refine go_I (run_VN C (c_X2_total_7 (by decide) hc h12) k_171 k_2 (List.mem_of_getElem? (i := 4) rfl) k_170 ks_5 dd_X2_total ⟨Nat.le_of_ble_eq_true rfl, Nat.le_of_ble_eq_true rfl⟩ (rcT (by decide)) rfl (Nat.le_of_ble_eq_true rfl) dX3_digest_22 ⟨Nat.le_of_ble_eq_true rfl, Nat.le_of_ble_eq_true rfl⟩) ?_
  refine v_i2l C dX3_digest_25 ?_
  refine v_ladd C dX3_digest_26 ?_
  refine v_topl (fun y_8 ey_8 => ?_)
  replace ey_8 : y_8 = dg y_7 (totN N F T 0 c 7) := ey_8
  refine v_lstore_n (lv' := [(1, .long y_8), (3, .int 7), (0, .ref (rX P))]) C dX3_digest_27 rfl (by decide) rfl ?_
  refine v_iinc (b := 8) (lv' := [(3, .int 8), (1, .long y_8), (0, .ref (rX P))]) C 1 dX3_digest_28 rfl rfl (by decide) rfl ?_
  refine v_goto (tgt := 6) C dX3_digest_31 (by decide) ?_
  refine v_iload_n C 0 dX3_digest_6 rfl ?_
  refine v_bipush (v := 11) C dX3_digest_7 rfl ?_
  refine v_icmp_ge (tgt := 34) C dX3_digest_9 (by decide) (fun h9 => absurd h9 (by decide)) (fun _ => ?_)
  refine v_lload_n C 1 dX3_digest_12 rfl ?_
  refine v_ldc2 (v := 31) C dX3_digest_13 k_288 ?_
  refine v_lmul C dX3_digest_16 ?_
  refine v_aload_n C 2 dX3_digest_17 rfl ?_
  refine v_gX C 0 (by decide) k_426 rfl dX3_digest_18 ?_
  refine v_iload_n C 0 dX3_digest_21 rfl ?_
  refine go_I (run_VN C (c_X2_total_8 (by decide) hc h12) k_171 k_2 (List.mem_of_getElem? (i := 4) rfl) k_170 ks_5 dd_X2_total ⟨Nat.le_of_ble_eq_true rfl, Nat.le_of_ble_eq_true rfl⟩ (rcT (by decide)) rfl (Nat.le_of_ble_eq_true rfl) dX3_digest_22 ⟨Nat.le_of_ble_eq_true rfl, Nat.le_of_ble_eq_true rfl⟩) ?_
  refine v_i2l C dX3_digest_25 ?_
  refine v_ladd C dX3_digest_26 ?_
  refine v_topl (fun y_9 ey_9 => ?_)
  replace ey_9 : y_9 = dg y_8 (totN N F T 0 c 8) := ey_9
  refine v_lstore_n (lv' := [(1, .long y_9), (3, .int 8), (0, .ref (rX P))]) C dX3_digest_27 rfl (by decide) rfl ?_
  refine v_iinc (b := 9) (lv' := [(3, .int 9), (1, .long y_9), (0, .ref (rX P))]) C 1 dX3_digest_28 rfl rfl (by decide) rfl ?_
  refine v_goto (tgt := 6) C dX3_digest_31 (by decide) ?_
  refine v_iload_n C 0 dX3_digest_6 rfl ?_
  refine v_bipush (v := 11) C dX3_digest_7 rfl ?_
  refine v_icmp_ge (tgt := 34) C dX3_digest_9 (by decide) (fun h9 => absurd h9 (by decide)) (fun _ => ?_)
  refine v_lload_n C 1 dX3_digest_12 rfl ?_
  refine v_ldc2 (v := 31) C dX3_digest_13 k_288 ?_
  refine v_lmul C dX3_digest_16 ?_
  refine v_aload_n C 2 dX3_digest_17 rfl ?_
  refine v_gX C 0 (by decide) k_426 rfl dX3_digest_18 ?_
  refine v_iload_n C 0 dX3_digest_21 rfl ?_
  refine go_I (run_VN C (c_X2_total_9 (by decide) hc h12) k_171 k_2 (List.mem_of_getElem? (i := 4) rfl) k_170 ks_5 dd_X2_total ⟨Nat.le_of_ble_eq_true rfl, Nat.le_of_ble_eq_true rfl⟩ (rcT (by decide)) rfl (Nat.le_of_ble_eq_true rfl) dX3_digest_22 ⟨Nat.le_of_ble_eq_true rfl, Nat.le_of_ble_eq_true rfl⟩) ?_
  refine v_i2l C dX3_digest_25 ?_
  refine v_ladd C dX3_digest_26 ?_
  refine v_topl (fun y_10 ey_10 => ?_)
  replace ey_10 : y_10 = dg y_9 (totN N F T 0 c 9) := ey_10
  refine v_lstore_n (lv' := [(1, .long y_10), (3, .int 9), (0, .ref (rX P))]) C dX3_digest_27 rfl (by decide) rfl ?_
  refine v_iinc (b := 10) (lv' := [(3, .int 10), (1, .long y_10), (0, .ref (rX P))]) C 1 dX3_digest_28 rfl rfl (by decide) rfl ?_
  refine v_goto (tgt := 6) C dX3_digest_31 (by decide) ?_
  refine v_iload_n C 0 dX3_digest_6 rfl ?_
  refine v_bipush (v := 11) C dX3_digest_7 rfl ?_
  refine v_icmp_ge (tgt := 34) C dX3_digest_9 (by decide) (fun h9 => absurd h9 (by decide)) (fun _ => ?_)
  refine v_lload_n C 1 dX3_digest_12 rfl ?_
  refine v_ldc2 (v := 31) C dX3_digest_13 k_288 ?_
  refine v_lmul C dX3_digest_16 ?_
  refine v_aload_n C 2 dX3_digest_17 rfl ?_
  refine v_gX C 0 (by decide) k_426 rfl dX3_digest_18 ?_
  refine v_iload_n C 0 dX3_digest_21 rfl ?_
  refine go_I (run_VN C (c_X2_total_10 (by decide) hc h12) k_171 k_2 (List.mem_of_getElem? (i := 4) rfl) k_170 ks_5 dd_X2_total ⟨Nat.le_of_ble_eq_true rfl, Nat.le_of_ble_eq_true rfl⟩ (rcT (by decide)) rfl (Nat.le_of_ble_eq_true rfl) dX3_digest_22 ⟨Nat.le_of_ble_eq_true rfl, Nat.le_of_ble_eq_true rfl⟩) ?_
  refine v_i2l C dX3_digest_25 ?_
  refine v_ladd C dX3_digest_26 ?_
  refine v_topl (fun y_11 ey_11 => ?_)
  replace ey_11 : y_11 = dg y_10 (totN N F T 0 c 10) := ey_11
  refine v_lstore_n (lv' := [(1, .long y_11), (3, .int 10), (0, .ref (rX P))]) C dX3_digest_27 rfl (by decide) rfl ?_
  refine v_iinc (b := 11) (lv' := [(3, .int 11), (1, .long y_11), (0, .ref (rX P))]) C 1 dX3_digest_28 rfl rfl (by decide) rfl ?_
  refine v_goto (tgt := 6) C dX3_digest_31 (by decide) ?_
  refine v_iload_n C 0 dX3_digest_6 rfl ?_
  refine v_bipush (v := 11) C dX3_digest_7 rfl ?_
  refine v_icmp_ge (tgt := 34) C dX3_digest_9 (by decide) (fun _ => ?_) (fun h9 => absurd (by decide) h9)
  refine v_iconst (v := 0) C dX3_digest_34 rfl ?_
  refine v_istore_n (lv' := [(3, .int 0), (1, .long y_11), (0, .ref (rX P))]) C dX3_digest_35 rfl (by decide) rfl ?_
  have L_1 : ∀ (n : Nat) (i : Nat) (d : Int64), i ≤ c → c < i + n → V pg l en (rmO 6 0 0) sg mg ag bg mt cd P D (MQ bg (QcL P D (nW P) False (cw P N F T K A w) (digC N F T c)) ag sg 0 0 (aO P)) 5 (nW P) False (cw P N F T K A w) 0 0 67 [(1, .long (digN n c (12 * 0) i N d)), (0, .ref (rX P))] [] → V pg l en (rmO 6 0 0) sg mg ag bg mt cd P D (MQ bg (QcL P D (nW P) False (cw P N F T K A w) (digC N F T c)) ag sg 0 0 (aO P)) 5 (nW P) False (cw P N F T K A w) 0 0 36 [(3, .int (nI i)), (1, .long d), (0, .ref (rX P))] [] := by
    intro n
    induction n with
    | zero => intro i d z1 z2; omega
    | succ n ih =>
      intro i d z1 z2 hk9
      refine v_iload_n C 0 dX3_digest_36 rfl ?_
      refine v_aload_n C 2 dX3_digest_37 rfl ?_
      refine v_gX C 0 (by decide) k_426 rfl dX3_digest_38 ?_
      refine v_gTuN C (by decide) 1 (by decide) (List.mem_of_getElem? (i := 19) rfl) rfl dX3_digest_41 ?_
      refine v_icmp_ge (tgt := 67) C dX3_digest_44 (by decide) (fun h44_1 => ?_) (fun h44_1 => ?_)
      · refine v_lv [1, 2] rfl ?_
        have hic : c ≤ i := (leC hc h12 z1).mp h44_1
        have e9 : digN (n + 1) c (12 * 0) i N d = d := by rw [digN, if_pos hic]
        rw [e9] at hk9
        exact hk9
      · have hic : i < c := Nat.not_le.mp (fun z => h44_1 ((leC hc h12 z1).mpr z))
        refine v_aload_n C 2 dX3_digest_47 rfl ?_
        refine v_gX C 0 (by decide) k_426 rfl dX3_digest_48 ?_
        refine v_gTuN C (by decide) 2 (by decide) (List.mem_of_getElem? (i := 20) rfl) rfl dX3_digest_51 ?_
        refine v_iload_n C 0 dX3_digest_54 rfl ?_
        refine v_aaNk C i (by decide) (nI_clamp (by omega)) (vp_in_nI (by omega) (by omega)) dX3_digest_55 ?_
        refine v_lload_n C 1 dX3_digest_56 rfl ?_
        refine go_L (run_VN C (c_X1_addToDigest (by omega)) k_292 k_3 (List.mem_of_getElem? (i := 6) rfl) k_291 ks_24 dd_X1_addToDigest ⟨Nat.le_of_ble_eq_true rfl, Nat.le_of_ble_eq_true rfl⟩ (rcN (by omega)) rfl (Nat.le_of_ble_eq_true rfl) dX3_digest_57 ⟨Nat.le_of_ble_eq_true rfl, Nat.le_of_ble_eq_true rfl⟩) ?_
        refine v_topl (fun y_12 ey_12 => ?_)
        replace ey_12 : y_12 = addD (N (12 * 0 + i)) d := ey_12
        refine v_lstore_n (lv' := [(1, .long y_12), (3, .int (nI i)), (0, .ref (rX P))]) C dX3_digest_60 rfl (by decide) rfl ?_
        refine v_iinc (b := (nI (i + 1))) (lv' := [(3, .int (nI (i + 1))), (1, .long y_12), (0, .ref (rX P))]) C 1 dX3_digest_61 rfl (nI_1 _) (by decide) rfl ?_
        refine v_goto (tgt := 36) C dX3_digest_64 (by decide) ?_
        have e9 : digN (n + 1) c (12 * 0) i N d = digN n c (12 * 0) (i + 1) N (addD (N (12 * 0 + i)) d) := by rw [digN, if_neg (by omega)]
        rw [e9] at hk9
        subst ey_12
        exact ih _ _ (by omega) (by omega) hk9
  refine L_1 (c + 1) 0 y_11 (by omega) (by omega) ?_
  obtain ⟨d0, ed0⟩ : ∃ z, z = digN (c + 1) c (12 * 0) 0 N y_11 := ⟨_, rfl⟩
  rw [← ed0]
  refine v_iconst (v := 0) C dX3_digest_67 rfl ?_
  refine v_istore_n (lv' := [(3, .int 0), (1, .long d0), (0, .ref (rX P))]) C dX3_digest_68 rfl (by decide) rfl ?_
  refine v_iload_n C 0 dX3_digest_69 rfl ?_
  refine v_iconst (v := 4) C dX3_digest_70 rfl ?_
  refine v_icmp_ge (tgt := 114) C dX3_digest_71 (by decide) (fun h9 => absurd h9 (by decide)) (fun _ => ?_)
  refine v_iconst (v := 0) C dX3_digest_74 rfl ?_
  refine v_istore (lv' := [(4, .int 0), (3, .int 0), (1, .long d0), (0, .ref (rX P))]) C dX3_digest_75 (by decide) rfl ?_
  refine v_iload C 0 dX3_digest_77 rfl ?_
  refine v_bipush (v := 6) C dX3_digest_79 rfl ?_
  refine v_icmp_ge (tgt := 108) C dX3_digest_81 (by decide) (fun h9 => absurd h9 (by decide)) (fun _ => ?_)
  refine v_lload_n C 2 dX3_digest_84 rfl ?_
  refine v_ldc2 (v := 31) C dX3_digest_85 k_288 ?_
  refine v_lmul C dX3_digest_88 ?_
  refine v_aload_n C 3 dX3_digest_89 rfl ?_
  refine v_gX C 0 (by decide) k_426 rfl dX3_digest_90 ?_
  refine v_iload_n C 1 dX3_digest_93 rfl ?_
  refine v_iload C 0 dX3_digest_94 rfl ?_
  refine go_I (run_VN C (c_X2_foggerNumber_0 (by decide) hc h12 in4_0) k_159 k_2 (List.mem_of_getElem? (i := 7) rfl) k_157 ks_3 dd_X2_foggerNumber ⟨Nat.le_of_ble_eq_true rfl, Nat.le_of_ble_eq_true rfl⟩ (rcT (by decide)) rfl (Nat.le_of_ble_eq_true rfl) dX3_digest_96 ⟨Nat.le_of_ble_eq_true rfl, Nat.le_of_ble_eq_true rfl⟩) ?_
  refine v_i2l C dX3_digest_99 ?_
  refine v_ladd C dX3_digest_100 ?_
  refine v_topl (fun y_13 ey_13 => ?_)
  replace ey_13 : y_13 = dg d0 (fogN N F 0 c 0 0) := ey_13
  refine v_lstore_n (lv' := [(1, .long y_13), (4, .int 0), (3, .int 0), (0, .ref (rX P))]) C dX3_digest_101 rfl (by decide) rfl ?_
  refine v_iinc (b := 1) (lv' := [(4, .int 1), (1, .long y_13), (3, .int 0), (0, .ref (rX P))]) C 1 dX3_digest_102 rfl rfl (by decide) rfl ?_
  refine v_goto (tgt := 77) C dX3_digest_105 (by decide) ?_
  refine v_iload C 0 dX3_digest_77 rfl ?_
  refine v_bipush (v := 6) C dX3_digest_79 rfl ?_
  refine v_icmp_ge (tgt := 108) C dX3_digest_81 (by decide) (fun h9 => absurd h9 (by decide)) (fun _ => ?_)
  refine v_lload_n C 1 dX3_digest_84 rfl ?_
  refine v_ldc2 (v := 31) C dX3_digest_85 k_288 ?_
  refine v_lmul C dX3_digest_88 ?_
  refine v_aload_n C 3 dX3_digest_89 rfl ?_
  refine v_gX C 0 (by decide) k_426 rfl dX3_digest_90 ?_
  refine v_iload_n C 2 dX3_digest_93 rfl ?_
  refine v_iload C 0 dX3_digest_94 rfl ?_
  refine go_I (run_VN C (c_X2_foggerNumber_1 (by decide) hc h12 in4_0) k_159 k_2 (List.mem_of_getElem? (i := 7) rfl) k_157 ks_3 dd_X2_foggerNumber ⟨Nat.le_of_ble_eq_true rfl, Nat.le_of_ble_eq_true rfl⟩ (rcT (by decide)) rfl (Nat.le_of_ble_eq_true rfl) dX3_digest_96 ⟨Nat.le_of_ble_eq_true rfl, Nat.le_of_ble_eq_true rfl⟩) ?_
  refine v_i2l C dX3_digest_99 ?_
  refine v_ladd C dX3_digest_100 ?_
  refine v_topl (fun y_14 ey_14 => ?_)
  replace ey_14 : y_14 = dg y_13 (fogN N F 0 c 0 1) := ey_14
  refine v_lstore_n (lv' := [(1, .long y_14), (4, .int 1), (3, .int 0), (0, .ref (rX P))]) C dX3_digest_101 rfl (by decide) rfl ?_
  refine v_iinc (b := 2) (lv' := [(4, .int 2), (1, .long y_14), (3, .int 0), (0, .ref (rX P))]) C 1 dX3_digest_102 rfl rfl (by decide) rfl ?_
  refine v_goto (tgt := 77) C dX3_digest_105 (by decide) ?_
  refine v_iload C 0 dX3_digest_77 rfl ?_
  refine v_bipush (v := 6) C dX3_digest_79 rfl ?_
  refine v_icmp_ge (tgt := 108) C dX3_digest_81 (by decide) (fun h9 => absurd h9 (by decide)) (fun _ => ?_)
  refine v_lload_n C 1 dX3_digest_84 rfl ?_
  refine v_ldc2 (v := 31) C dX3_digest_85 k_288 ?_
  refine v_lmul C dX3_digest_88 ?_
  refine v_aload_n C 3 dX3_digest_89 rfl ?_
  refine v_gX C 0 (by decide) k_426 rfl dX3_digest_90 ?_
  refine v_iload_n C 2 dX3_digest_93 rfl ?_
  refine v_iload C 0 dX3_digest_94 rfl ?_
  refine go_I (run_VN C (c_X2_foggerNumber_2 (by decide) hc h12 in4_0) k_159 k_2 (List.mem_of_getElem? (i := 7) rfl) k_157 ks_3 dd_X2_foggerNumber ⟨Nat.le_of_ble_eq_true rfl, Nat.le_of_ble_eq_true rfl⟩ (rcT (by decide)) rfl (Nat.le_of_ble_eq_true rfl) dX3_digest_96 ⟨Nat.le_of_ble_eq_true rfl, Nat.le_of_ble_eq_true rfl⟩) ?_
  refine v_i2l C dX3_digest_99 ?_
  refine v_ladd C dX3_digest_100 ?_
  refine v_topl (fun y_15 ey_15 => ?_)
  replace ey_15 : y_15 = dg y_14 (fogN N F 0 c 0 2) := ey_15
  refine v_lstore_n (lv' := [(1, .long y_15), (4, .int 2), (3, .int 0), (0, .ref (rX P))]) C dX3_digest_101 rfl (by decide) rfl ?_
  refine v_iinc (b := 3) (lv' := [(4, .int 3), (1, .long y_15), (3, .int 0), (0, .ref (rX P))]) C 1 dX3_digest_102 rfl rfl (by decide) rfl ?_
  refine v_goto (tgt := 77) C dX3_digest_105 (by decide) ?_
  refine v_iload C 0 dX3_digest_77 rfl ?_
  refine v_bipush (v := 6) C dX3_digest_79 rfl ?_
  refine v_icmp_ge (tgt := 108) C dX3_digest_81 (by decide) (fun h9 => absurd h9 (by decide)) (fun _ => ?_)
  refine v_lload_n C 1 dX3_digest_84 rfl ?_
  refine v_ldc2 (v := 31) C dX3_digest_85 k_288 ?_
  refine v_lmul C dX3_digest_88 ?_
  refine v_aload_n C 3 dX3_digest_89 rfl ?_
  refine v_gX C 0 (by decide) k_426 rfl dX3_digest_90 ?_
  refine v_iload_n C 2 dX3_digest_93 rfl ?_
  refine v_iload C 0 dX3_digest_94 rfl ?_
  refine go_I (run_VN C (c_X2_foggerNumber_3 (by decide) hc h12 in4_0) k_159 k_2 (List.mem_of_getElem? (i := 7) rfl) k_157 ks_3 dd_X2_foggerNumber ⟨Nat.le_of_ble_eq_true rfl, Nat.le_of_ble_eq_true rfl⟩ (rcT (by decide)) rfl (Nat.le_of_ble_eq_true rfl) dX3_digest_96 ⟨Nat.le_of_ble_eq_true rfl, Nat.le_of_ble_eq_true rfl⟩) ?_
  refine v_i2l C dX3_digest_99 ?_
  refine v_ladd C dX3_digest_100 ?_
  refine v_topl (fun y_16 ey_16 => ?_)
  replace ey_16 : y_16 = dg y_15 (fogN N F 0 c 0 3) := ey_16
  refine v_lstore_n (lv' := [(1, .long y_16), (4, .int 3), (3, .int 0), (0, .ref (rX P))]) C dX3_digest_101 rfl (by decide) rfl ?_
  refine v_iinc (b := 4) (lv' := [(4, .int 4), (1, .long y_16), (3, .int 0), (0, .ref (rX P))]) C 1 dX3_digest_102 rfl rfl (by decide) rfl ?_
  refine v_goto (tgt := 77) C dX3_digest_105 (by decide) ?_
  refine v_iload C 0 dX3_digest_77 rfl ?_
  refine v_bipush (v := 6) C dX3_digest_79 rfl ?_
  refine v_icmp_ge (tgt := 108) C dX3_digest_81 (by decide) (fun h9 => absurd h9 (by decide)) (fun _ => ?_)
  refine v_lload_n C 1 dX3_digest_84 rfl ?_
  refine v_ldc2 (v := 31) C dX3_digest_85 k_288 ?_
  refine v_lmul C dX3_digest_88 ?_
  refine v_aload_n C 3 dX3_digest_89 rfl ?_
  refine v_gX C 0 (by decide) k_426 rfl dX3_digest_90 ?_
  refine v_iload_n C 2 dX3_digest_93 rfl ?_
  refine v_iload C 0 dX3_digest_94 rfl ?_
  refine go_I (run_VN C (c_X2_foggerNumber_4 (by decide) hc h12 in4_0) k_159 k_2 (List.mem_of_getElem? (i := 7) rfl) k_157 ks_3 dd_X2_foggerNumber ⟨Nat.le_of_ble_eq_true rfl, Nat.le_of_ble_eq_true rfl⟩ (rcT (by decide)) rfl (Nat.le_of_ble_eq_true rfl) dX3_digest_96 ⟨Nat.le_of_ble_eq_true rfl, Nat.le_of_ble_eq_true rfl⟩) ?_
  refine v_i2l C dX3_digest_99 ?_
  refine v_ladd C dX3_digest_100 ?_
  refine v_topl (fun y_17 ey_17 => ?_)
  replace ey_17 : y_17 = dg y_16 (fogN N F 0 c 0 4) := ey_17
  refine v_lstore_n (lv' := [(1, .long y_17), (4, .int 4), (3, .int 0), (0, .ref (rX P))]) C dX3_digest_101 rfl (by decide) rfl ?_
  refine v_iinc (b := 5) (lv' := [(4, .int 5), (1, .long y_17), (3, .int 0), (0, .ref (rX P))]) C 1 dX3_digest_102 rfl rfl (by decide) rfl ?_
  refine v_goto (tgt := 77) C dX3_digest_105 (by decide) ?_
  refine v_iload C 0 dX3_digest_77 rfl ?_
  refine v_bipush (v := 6) C dX3_digest_79 rfl ?_
  refine v_icmp_ge (tgt := 108) C dX3_digest_81 (by decide) (fun h9 => absurd h9 (by decide)) (fun _ => ?_)
  refine v_lload_n C 1 dX3_digest_84 rfl ?_
  refine v_ldc2 (v := 31) C dX3_digest_85 k_288 ?_
  refine v_lmul C dX3_digest_88 ?_
  refine v_aload_n C 3 dX3_digest_89 rfl ?_
  refine v_gX C 0 (by decide) k_426 rfl dX3_digest_90 ?_
  refine v_iload_n C 2 dX3_digest_93 rfl ?_
  refine v_iload C 0 dX3_digest_94 rfl ?_
  refine go_I (run_VN C (c_X2_foggerNumber_5 (by decide) hc h12 in4_0) k_159 k_2 (List.mem_of_getElem? (i := 7) rfl) k_157 ks_3 dd_X2_foggerNumber ⟨Nat.le_of_ble_eq_true rfl, Nat.le_of_ble_eq_true rfl⟩ (rcT (by decide)) rfl (Nat.le_of_ble_eq_true rfl) dX3_digest_96 ⟨Nat.le_of_ble_eq_true rfl, Nat.le_of_ble_eq_true rfl⟩) ?_
  refine v_i2l C dX3_digest_99 ?_
  refine v_ladd C dX3_digest_100 ?_
  refine v_topl (fun y_18 ey_18 => ?_)
  replace ey_18 : y_18 = dg y_17 (fogN N F 0 c 0 5) := ey_18
  refine v_lstore_n (lv' := [(1, .long y_18), (4, .int 5), (3, .int 0), (0, .ref (rX P))]) C dX3_digest_101 rfl (by decide) rfl ?_
  refine v_iinc (b := 6) (lv' := [(4, .int 6), (1, .long y_18), (3, .int 0), (0, .ref (rX P))]) C 1 dX3_digest_102 rfl rfl (by decide) rfl ?_
  refine v_goto (tgt := 77) C dX3_digest_105 (by decide) ?_
  refine v_iload C 0 dX3_digest_77 rfl ?_
  refine v_bipush (v := 6) C dX3_digest_79 rfl ?_
  refine v_icmp_ge (tgt := 108) C dX3_digest_81 (by decide) (fun _ => ?_) (fun h9 => absurd (by decide) h9)
  refine v_iinc (b := 1) (lv' := [(3, .int 1), (4, .int 6), (1, .long y_18), (0, .ref (rX P))]) C 2 dX3_digest_108 rfl rfl (by decide) rfl ?_
  refine v_goto (tgt := 69) C dX3_digest_111 (by decide) ?_
  refine v_iload_n C 0 dX3_digest_69 rfl ?_
  refine v_iconst (v := 4) C dX3_digest_70 rfl ?_
  refine v_icmp_ge (tgt := 114) C dX3_digest_71 (by decide) (fun h9 => absurd h9 (by decide)) (fun _ => ?_)
  refine v_iconst (v := 0) C dX3_digest_74 rfl ?_
  refine v_istore (lv' := [(4, .int 0), (3, .int 1), (1, .long y_18), (0, .ref (rX P))]) C dX3_digest_75 (by decide) rfl ?_
  refine v_iload C 0 dX3_digest_77 rfl ?_
  refine v_bipush (v := 6) C dX3_digest_79 rfl ?_
  refine v_icmp_ge (tgt := 108) C dX3_digest_81 (by decide) (fun h9 => absurd h9 (by decide)) (fun _ => ?_)
  refine v_lload_n C 2 dX3_digest_84 rfl ?_
  refine v_ldc2 (v := 31) C dX3_digest_85 k_288 ?_
  refine v_lmul C dX3_digest_88 ?_
  refine v_aload_n C 3 dX3_digest_89 rfl ?_
  refine v_gX C 0 (by decide) k_426 rfl dX3_digest_90 ?_
  refine v_iload_n C 1 dX3_digest_93 rfl ?_
  refine v_iload C 0 dX3_digest_94 rfl ?_
  refine go_I (run_VN C (c_X2_foggerNumber_0 (by decide) hc h12 in4_1) k_159 k_2 (List.mem_of_getElem? (i := 7) rfl) k_157 ks_3 dd_X2_foggerNumber ⟨Nat.le_of_ble_eq_true rfl, Nat.le_of_ble_eq_true rfl⟩ (rcT (by decide)) rfl (Nat.le_of_ble_eq_true rfl) dX3_digest_96 ⟨Nat.le_of_ble_eq_true rfl, Nat.le_of_ble_eq_true rfl⟩) ?_
  refine v_i2l C dX3_digest_99 ?_
  refine v_ladd C dX3_digest_100 ?_
  refine v_topl (fun y_19 ey_19 => ?_)
  replace ey_19 : y_19 = dg y_18 (fogN N F 0 c 1 0) := ey_19
  refine v_lstore_n (lv' := [(1, .long y_19), (4, .int 0), (3, .int 1), (0, .ref (rX P))]) C dX3_digest_101 rfl (by decide) rfl ?_
  refine v_iinc (b := 1) (lv' := [(4, .int 1), (1, .long y_19), (3, .int 1), (0, .ref (rX P))]) C 1 dX3_digest_102 rfl rfl (by decide) rfl ?_
  refine v_goto (tgt := 77) C dX3_digest_105 (by decide) ?_
  refine v_iload C 0 dX3_digest_77 rfl ?_
  refine v_bipush (v := 6) C dX3_digest_79 rfl ?_
  refine v_icmp_ge (tgt := 108) C dX3_digest_81 (by decide) (fun h9 => absurd h9 (by decide)) (fun _ => ?_)
  refine v_lload_n C 1 dX3_digest_84 rfl ?_
  refine v_ldc2 (v := 31) C dX3_digest_85 k_288 ?_
  refine v_lmul C dX3_digest_88 ?_
  refine v_aload_n C 3 dX3_digest_89 rfl ?_
  refine v_gX C 0 (by decide) k_426 rfl dX3_digest_90 ?_
  refine v_iload_n C 2 dX3_digest_93 rfl ?_
  refine v_iload C 0 dX3_digest_94 rfl ?_
  refine go_I (run_VN C (c_X2_foggerNumber_1 (by decide) hc h12 in4_1) k_159 k_2 (List.mem_of_getElem? (i := 7) rfl) k_157 ks_3 dd_X2_foggerNumber ⟨Nat.le_of_ble_eq_true rfl, Nat.le_of_ble_eq_true rfl⟩ (rcT (by decide)) rfl (Nat.le_of_ble_eq_true rfl) dX3_digest_96 ⟨Nat.le_of_ble_eq_true rfl, Nat.le_of_ble_eq_true rfl⟩) ?_
  refine v_i2l C dX3_digest_99 ?_
  refine v_ladd C dX3_digest_100 ?_
  refine v_topl (fun y_20 ey_20 => ?_)
  replace ey_20 : y_20 = dg y_19 (fogN N F 0 c 1 1) := ey_20
  refine v_lstore_n (lv' := [(1, .long y_20), (4, .int 1), (3, .int 1), (0, .ref (rX P))]) C dX3_digest_101 rfl (by decide) rfl ?_
  refine v_iinc (b := 2) (lv' := [(4, .int 2), (1, .long y_20), (3, .int 1), (0, .ref (rX P))]) C 1 dX3_digest_102 rfl rfl (by decide) rfl ?_
  refine v_goto (tgt := 77) C dX3_digest_105 (by decide) ?_
  refine v_iload C 0 dX3_digest_77 rfl ?_
  refine v_bipush (v := 6) C dX3_digest_79 rfl ?_
  refine v_icmp_ge (tgt := 108) C dX3_digest_81 (by decide) (fun h9 => absurd h9 (by decide)) (fun _ => ?_)
  refine v_lload_n C 1 dX3_digest_84 rfl ?_
  refine v_ldc2 (v := 31) C dX3_digest_85 k_288 ?_
  refine v_lmul C dX3_digest_88 ?_
  refine v_aload_n C 3 dX3_digest_89 rfl ?_
  refine v_gX C 0 (by decide) k_426 rfl dX3_digest_90 ?_
  refine v_iload_n C 2 dX3_digest_93 rfl ?_
  refine v_iload C 0 dX3_digest_94 rfl ?_
  refine go_I (run_VN C (c_X2_foggerNumber_2 (by decide) hc h12 in4_1) k_159 k_2 (List.mem_of_getElem? (i := 7) rfl) k_157 ks_3 dd_X2_foggerNumber ⟨Nat.le_of_ble_eq_true rfl, Nat.le_of_ble_eq_true rfl⟩ (rcT (by decide)) rfl (Nat.le_of_ble_eq_true rfl) dX3_digest_96 ⟨Nat.le_of_ble_eq_true rfl, Nat.le_of_ble_eq_true rfl⟩) ?_
  refine v_i2l C dX3_digest_99 ?_
  refine v_ladd C dX3_digest_100 ?_
  refine v_topl (fun y_21 ey_21 => ?_)
  replace ey_21 : y_21 = dg y_20 (fogN N F 0 c 1 2) := ey_21
  refine v_lstore_n (lv' := [(1, .long y_21), (4, .int 2), (3, .int 1), (0, .ref (rX P))]) C dX3_digest_101 rfl (by decide) rfl ?_
  refine v_iinc (b := 3) (lv' := [(4, .int 3), (1, .long y_21), (3, .int 1), (0, .ref (rX P))]) C 1 dX3_digest_102 rfl rfl (by decide) rfl ?_
  refine v_goto (tgt := 77) C dX3_digest_105 (by decide) ?_
  refine v_iload C 0 dX3_digest_77 rfl ?_
  refine v_bipush (v := 6) C dX3_digest_79 rfl ?_
  refine v_icmp_ge (tgt := 108) C dX3_digest_81 (by decide) (fun h9 => absurd h9 (by decide)) (fun _ => ?_)
  refine v_lload_n C 1 dX3_digest_84 rfl ?_
  refine v_ldc2 (v := 31) C dX3_digest_85 k_288 ?_
  refine v_lmul C dX3_digest_88 ?_
  refine v_aload_n C 3 dX3_digest_89 rfl ?_
  refine v_gX C 0 (by decide) k_426 rfl dX3_digest_90 ?_
  refine v_iload_n C 2 dX3_digest_93 rfl ?_
  refine v_iload C 0 dX3_digest_94 rfl ?_
  refine go_I (run_VN C (c_X2_foggerNumber_3 (by decide) hc h12 in4_1) k_159 k_2 (List.mem_of_getElem? (i := 7) rfl) k_157 ks_3 dd_X2_foggerNumber ⟨Nat.le_of_ble_eq_true rfl, Nat.le_of_ble_eq_true rfl⟩ (rcT (by decide)) rfl (Nat.le_of_ble_eq_true rfl) dX3_digest_96 ⟨Nat.le_of_ble_eq_true rfl, Nat.le_of_ble_eq_true rfl⟩) ?_
  refine v_i2l C dX3_digest_99 ?_
  refine v_ladd C dX3_digest_100 ?_
  refine v_topl (fun y_22 ey_22 => ?_)
  replace ey_22 : y_22 = dg y_21 (fogN N F 0 c 1 3) := ey_22
  refine v_lstore_n (lv' := [(1, .long y_22), (4, .int 3), (3, .int 1), (0, .ref (rX P))]) C dX3_digest_101 rfl (by decide) rfl ?_
  refine v_iinc (b := 4) (lv' := [(4, .int 4), (1, .long y_22), (3, .int 1), (0, .ref (rX P))]) C 1 dX3_digest_102 rfl rfl (by decide) rfl ?_
  refine v_goto (tgt := 77) C dX3_digest_105 (by decide) ?_
  refine v_iload C 0 dX3_digest_77 rfl ?_
  refine v_bipush (v := 6) C dX3_digest_79 rfl ?_
  refine v_icmp_ge (tgt := 108) C dX3_digest_81 (by decide) (fun h9 => absurd h9 (by decide)) (fun _ => ?_)
  refine v_lload_n C 1 dX3_digest_84 rfl ?_
  refine v_ldc2 (v := 31) C dX3_digest_85 k_288 ?_
  refine v_lmul C dX3_digest_88 ?_
  refine v_aload_n C 3 dX3_digest_89 rfl ?_
  refine v_gX C 0 (by decide) k_426 rfl dX3_digest_90 ?_
  refine v_iload_n C 2 dX3_digest_93 rfl ?_
  refine v_iload C 0 dX3_digest_94 rfl ?_
  refine go_I (run_VN C (c_X2_foggerNumber_4 (by decide) hc h12 in4_1) k_159 k_2 (List.mem_of_getElem? (i := 7) rfl) k_157 ks_3 dd_X2_foggerNumber ⟨Nat.le_of_ble_eq_true rfl, Nat.le_of_ble_eq_true rfl⟩ (rcT (by decide)) rfl (Nat.le_of_ble_eq_true rfl) dX3_digest_96 ⟨Nat.le_of_ble_eq_true rfl, Nat.le_of_ble_eq_true rfl⟩) ?_
  refine v_i2l C dX3_digest_99 ?_
  refine v_ladd C dX3_digest_100 ?_
  refine v_topl (fun y_23 ey_23 => ?_)
  replace ey_23 : y_23 = dg y_22 (fogN N F 0 c 1 4) := ey_23
  refine v_lstore_n (lv' := [(1, .long y_23), (4, .int 4), (3, .int 1), (0, .ref (rX P))]) C dX3_digest_101 rfl (by decide) rfl ?_
  refine v_iinc (b := 5) (lv' := [(4, .int 5), (1, .long y_23), (3, .int 1), (0, .ref (rX P))]) C 1 dX3_digest_102 rfl rfl (by decide) rfl ?_
  refine v_goto (tgt := 77) C dX3_digest_105 (by decide) ?_
  refine v_iload C 0 dX3_digest_77 rfl ?_
  refine v_bipush (v := 6) C dX3_digest_79 rfl ?_
  refine v_icmp_ge (tgt := 108) C dX3_digest_81 (by decide) (fun h9 => absurd h9 (by decide)) (fun _ => ?_)
  refine v_lload_n C 1 dX3_digest_84 rfl ?_
  refine v_ldc2 (v := 31) C dX3_digest_85 k_288 ?_
  refine v_lmul C dX3_digest_88 ?_
  refine v_aload_n C 3 dX3_digest_89 rfl ?_
  refine v_gX C 0 (by decide) k_426 rfl dX3_digest_90 ?_
  refine v_iload_n C 2 dX3_digest_93 rfl ?_
  refine v_iload C 0 dX3_digest_94 rfl ?_
  refine go_I (run_VN C (c_X2_foggerNumber_5 (by decide) hc h12 in4_1) k_159 k_2 (List.mem_of_getElem? (i := 7) rfl) k_157 ks_3 dd_X2_foggerNumber ⟨Nat.le_of_ble_eq_true rfl, Nat.le_of_ble_eq_true rfl⟩ (rcT (by decide)) rfl (Nat.le_of_ble_eq_true rfl) dX3_digest_96 ⟨Nat.le_of_ble_eq_true rfl, Nat.le_of_ble_eq_true rfl⟩) ?_
  refine v_i2l C dX3_digest_99 ?_
  refine v_ladd C dX3_digest_100 ?_
  refine v_topl (fun y_24 ey_24 => ?_)
  replace ey_24 : y_24 = dg y_23 (fogN N F 0 c 1 5) := ey_24
  refine v_lstore_n (lv' := [(1, .long y_24), (4, .int 5), (3, .int 1), (0, .ref (rX P))]) C dX3_digest_101 rfl (by decide) rfl ?_
  refine v_iinc (b := 6) (lv' := [(4, .int 6), (1, .long y_24), (3, .int 1), (0, .ref (rX P))]) C 1 dX3_digest_102 rfl rfl (by decide) rfl ?_
  refine v_goto (tgt := 77) C dX3_digest_105 (by decide) ?_
  refine v_iload C 0 dX3_digest_77 rfl ?_
  refine v_bipush (v := 6) C dX3_digest_79 rfl ?_
  refine v_icmp_ge (tgt := 108) C dX3_digest_81 (by decide) (fun _ => ?_) (fun h9 => absurd (by decide) h9)
  refine v_iinc (b := 2) (lv' := [(3, .int 2), (4, .int 6), (1, .long y_24), (0, .ref (rX P))]) C 2 dX3_digest_108 rfl rfl (by decide) rfl ?_
  refine v_goto (tgt := 69) C dX3_digest_111 (by decide) ?_
  refine v_iload_n C 0 dX3_digest_69 rfl ?_
  refine v_iconst (v := 4) C dX3_digest_70 rfl ?_
  refine v_icmp_ge (tgt := 114) C dX3_digest_71 (by decide) (fun h9 => absurd h9 (by decide)) (fun _ => ?_)
  refine v_iconst (v := 0) C dX3_digest_74 rfl ?_
  refine v_istore (lv' := [(4, .int 0), (3, .int 2), (1, .long y_24), (0, .ref (rX P))]) C dX3_digest_75 (by decide) rfl ?_
  refine v_iload C 0 dX3_digest_77 rfl ?_
  refine v_bipush (v := 6) C dX3_digest_79 rfl ?_
  refine v_icmp_ge (tgt := 108) C dX3_digest_81 (by decide) (fun h9 => absurd h9 (by decide)) (fun _ => ?_)
  refine v_lload_n C 2 dX3_digest_84 rfl ?_
  refine v_ldc2 (v := 31) C dX3_digest_85 k_288 ?_
  refine v_lmul C dX3_digest_88 ?_
  refine v_aload_n C 3 dX3_digest_89 rfl ?_
  refine v_gX C 0 (by decide) k_426 rfl dX3_digest_90 ?_
  refine v_iload_n C 1 dX3_digest_93 rfl ?_
  refine v_iload C 0 dX3_digest_94 rfl ?_
  refine go_I (run_VN C (c_X2_foggerNumber_0 (by decide) hc h12 in4_2) k_159 k_2 (List.mem_of_getElem? (i := 7) rfl) k_157 ks_3 dd_X2_foggerNumber ⟨Nat.le_of_ble_eq_true rfl, Nat.le_of_ble_eq_true rfl⟩ (rcT (by decide)) rfl (Nat.le_of_ble_eq_true rfl) dX3_digest_96 ⟨Nat.le_of_ble_eq_true rfl, Nat.le_of_ble_eq_true rfl⟩) ?_
  refine v_i2l C dX3_digest_99 ?_
  refine v_ladd C dX3_digest_100 ?_
  refine v_topl (fun y_25 ey_25 => ?_)
  replace ey_25 : y_25 = dg y_24 (fogN N F 0 c 2 0) := ey_25
  refine v_lstore_n (lv' := [(1, .long y_25), (4, .int 0), (3, .int 2), (0, .ref (rX P))]) C dX3_digest_101 rfl (by decide) rfl ?_
  refine v_iinc (b := 1) (lv' := [(4, .int 1), (1, .long y_25), (3, .int 2), (0, .ref (rX P))]) C 1 dX3_digest_102 rfl rfl (by decide) rfl ?_
  refine v_goto (tgt := 77) C dX3_digest_105 (by decide) ?_
  refine v_iload C 0 dX3_digest_77 rfl ?_
  refine v_bipush (v := 6) C dX3_digest_79 rfl ?_
  refine v_icmp_ge (tgt := 108) C dX3_digest_81 (by decide) (fun h9 => absurd h9 (by decide)) (fun _ => ?_)
  refine v_lload_n C 1 dX3_digest_84 rfl ?_
  refine v_ldc2 (v := 31) C dX3_digest_85 k_288 ?_
  refine v_lmul C dX3_digest_88 ?_
  refine v_aload_n C 3 dX3_digest_89 rfl ?_
  refine v_gX C 0 (by decide) k_426 rfl dX3_digest_90 ?_
  refine v_iload_n C 2 dX3_digest_93 rfl ?_
  refine v_iload C 0 dX3_digest_94 rfl ?_
  refine go_I (run_VN C (c_X2_foggerNumber_1 (by decide) hc h12 in4_2) k_159 k_2 (List.mem_of_getElem? (i := 7) rfl) k_157 ks_3 dd_X2_foggerNumber ⟨Nat.le_of_ble_eq_true rfl, Nat.le_of_ble_eq_true rfl⟩ (rcT (by decide)) rfl (Nat.le_of_ble_eq_true rfl) dX3_digest_96 ⟨Nat.le_of_ble_eq_true rfl, Nat.le_of_ble_eq_true rfl⟩) ?_
  refine v_i2l C dX3_digest_99 ?_
  refine v_ladd C dX3_digest_100 ?_
  refine v_topl (fun y_26 ey_26 => ?_)
  replace ey_26 : y_26 = dg y_25 (fogN N F 0 c 2 1) := ey_26
  refine v_lstore_n (lv' := [(1, .long y_26), (4, .int 1), (3, .int 2), (0, .ref (rX P))]) C dX3_digest_101 rfl (by decide) rfl ?_
  refine v_iinc (b := 2) (lv' := [(4, .int 2), (1, .long y_26), (3, .int 2), (0, .ref (rX P))]) C 1 dX3_digest_102 rfl rfl (by decide) rfl ?_
  refine v_goto (tgt := 77) C dX3_digest_105 (by decide) ?_
  refine v_iload C 0 dX3_digest_77 rfl ?_
  refine v_bipush (v := 6) C dX3_digest_79 rfl ?_
  refine v_icmp_ge (tgt := 108) C dX3_digest_81 (by decide) (fun h9 => absurd h9 (by decide)) (fun _ => ?_)
  refine v_lload_n C 1 dX3_digest_84 rfl ?_
  refine v_ldc2 (v := 31) C dX3_digest_85 k_288 ?_
  refine v_lmul C dX3_digest_88 ?_
  refine v_aload_n C 3 dX3_digest_89 rfl ?_
  refine v_gX C 0 (by decide) k_426 rfl dX3_digest_90 ?_
  refine v_iload_n C 2 dX3_digest_93 rfl ?_
  refine v_iload C 0 dX3_digest_94 rfl ?_
  refine go_I (run_VN C (c_X2_foggerNumber_2 (by decide) hc h12 in4_2) k_159 k_2 (List.mem_of_getElem? (i := 7) rfl) k_157 ks_3 dd_X2_foggerNumber ⟨Nat.le_of_ble_eq_true rfl, Nat.le_of_ble_eq_true rfl⟩ (rcT (by decide)) rfl (Nat.le_of_ble_eq_true rfl) dX3_digest_96 ⟨Nat.le_of_ble_eq_true rfl, Nat.le_of_ble_eq_true rfl⟩) ?_
  refine v_i2l C dX3_digest_99 ?_
  refine v_ladd C dX3_digest_100 ?_
  refine v_topl (fun y_27 ey_27 => ?_)
  replace ey_27 : y_27 = dg y_26 (fogN N F 0 c 2 2) := ey_27
  refine v_lstore_n (lv' := [(1, .long y_27), (4, .int 2), (3, .int 2), (0, .ref (rX P))]) C dX3_digest_101 rfl (by decide) rfl ?_
  refine v_iinc (b := 3) (lv' := [(4, .int 3), (1, .long y_27), (3, .int 2), (0, .ref (rX P))]) C 1 dX3_digest_102 rfl rfl (by decide) rfl ?_
  refine v_goto (tgt := 77) C dX3_digest_105 (by decide) ?_
  refine v_iload C 0 dX3_digest_77 rfl ?_
  refine v_bipush (v := 6) C dX3_digest_79 rfl ?_
  refine v_icmp_ge (tgt := 108) C dX3_digest_81 (by decide) (fun h9 => absurd h9 (by decide)) (fun _ => ?_)
  refine v_lload_n C 1 dX3_digest_84 rfl ?_
  refine v_ldc2 (v := 31) C dX3_digest_85 k_288 ?_
  refine v_lmul C dX3_digest_88 ?_
  refine v_aload_n C 3 dX3_digest_89 rfl ?_
  refine v_gX C 0 (by decide) k_426 rfl dX3_digest_90 ?_
  refine v_iload_n C 2 dX3_digest_93 rfl ?_
  refine v_iload C 0 dX3_digest_94 rfl ?_
  refine go_I (run_VN C (c_X2_foggerNumber_3 (by decide) hc h12 in4_2) k_159 k_2 (List.mem_of_getElem? (i := 7) rfl) k_157 ks_3 dd_X2_foggerNumber ⟨Nat.le_of_ble_eq_true rfl, Nat.le_of_ble_eq_true rfl⟩ (rcT (by decide)) rfl (Nat.le_of_ble_eq_true rfl) dX3_digest_96 ⟨Nat.le_of_ble_eq_true rfl, Nat.le_of_ble_eq_true rfl⟩) ?_
  refine v_i2l C dX3_digest_99 ?_
  refine v_ladd C dX3_digest_100 ?_
  refine v_topl (fun y_28 ey_28 => ?_)
  replace ey_28 : y_28 = dg y_27 (fogN N F 0 c 2 3) := ey_28
  refine v_lstore_n (lv' := [(1, .long y_28), (4, .int 3), (3, .int 2), (0, .ref (rX P))]) C dX3_digest_101 rfl (by decide) rfl ?_
  refine v_iinc (b := 4) (lv' := [(4, .int 4), (1, .long y_28), (3, .int 2), (0, .ref (rX P))]) C 1 dX3_digest_102 rfl rfl (by decide) rfl ?_
  refine v_goto (tgt := 77) C dX3_digest_105 (by decide) ?_
  refine v_iload C 0 dX3_digest_77 rfl ?_
  refine v_bipush (v := 6) C dX3_digest_79 rfl ?_
  refine v_icmp_ge (tgt := 108) C dX3_digest_81 (by decide) (fun h9 => absurd h9 (by decide)) (fun _ => ?_)
  refine v_lload_n C 1 dX3_digest_84 rfl ?_
  refine v_ldc2 (v := 31) C dX3_digest_85 k_288 ?_
  refine v_lmul C dX3_digest_88 ?_
  refine v_aload_n C 3 dX3_digest_89 rfl ?_
  refine v_gX C 0 (by decide) k_426 rfl dX3_digest_90 ?_
  refine v_iload_n C 2 dX3_digest_93 rfl ?_
  refine v_iload C 0 dX3_digest_94 rfl ?_
  refine go_I (run_VN C (c_X2_foggerNumber_4 (by decide) hc h12 in4_2) k_159 k_2 (List.mem_of_getElem? (i := 7) rfl) k_157 ks_3 dd_X2_foggerNumber ⟨Nat.le_of_ble_eq_true rfl, Nat.le_of_ble_eq_true rfl⟩ (rcT (by decide)) rfl (Nat.le_of_ble_eq_true rfl) dX3_digest_96 ⟨Nat.le_of_ble_eq_true rfl, Nat.le_of_ble_eq_true rfl⟩) ?_
  refine v_i2l C dX3_digest_99 ?_
  refine v_ladd C dX3_digest_100 ?_
  refine v_topl (fun y_29 ey_29 => ?_)
  replace ey_29 : y_29 = dg y_28 (fogN N F 0 c 2 4) := ey_29
  refine v_lstore_n (lv' := [(1, .long y_29), (4, .int 4), (3, .int 2), (0, .ref (rX P))]) C dX3_digest_101 rfl (by decide) rfl ?_
  refine v_iinc (b := 5) (lv' := [(4, .int 5), (1, .long y_29), (3, .int 2), (0, .ref (rX P))]) C 1 dX3_digest_102 rfl rfl (by decide) rfl ?_
  refine v_goto (tgt := 77) C dX3_digest_105 (by decide) ?_
  refine v_iload C 0 dX3_digest_77 rfl ?_
  refine v_bipush (v := 6) C dX3_digest_79 rfl ?_
  refine v_icmp_ge (tgt := 108) C dX3_digest_81 (by decide) (fun h9 => absurd h9 (by decide)) (fun _ => ?_)
  refine v_lload_n C 1 dX3_digest_84 rfl ?_
  refine v_ldc2 (v := 31) C dX3_digest_85 k_288 ?_
  refine v_lmul C dX3_digest_88 ?_
  refine v_aload_n C 3 dX3_digest_89 rfl ?_
  refine v_gX C 0 (by decide) k_426 rfl dX3_digest_90 ?_
  refine v_iload_n C 2 dX3_digest_93 rfl ?_
  refine v_iload C 0 dX3_digest_94 rfl ?_
  refine go_I (run_VN C (c_X2_foggerNumber_5 (by decide) hc h12 in4_2) k_159 k_2 (List.mem_of_getElem? (i := 7) rfl) k_157 ks_3 dd_X2_foggerNumber ⟨Nat.le_of_ble_eq_true rfl, Nat.le_of_ble_eq_true rfl⟩ (rcT (by decide)) rfl (Nat.le_of_ble_eq_true rfl) dX3_digest_96 ⟨Nat.le_of_ble_eq_true rfl, Nat.le_of_ble_eq_true rfl⟩) ?_
  refine v_i2l C dX3_digest_99 ?_
  refine v_ladd C dX3_digest_100 ?_
  refine v_topl (fun y_30 ey_30 => ?_)
  replace ey_30 : y_30 = dg y_29 (fogN N F 0 c 2 5) := ey_30
  refine v_lstore_n (lv' := [(1, .long y_30), (4, .int 5), (3, .int 2), (0, .ref (rX P))]) C dX3_digest_101 rfl (by decide) rfl ?_
  refine v_iinc (b := 6) (lv' := [(4, .int 6), (1, .long y_30), (3, .int 2), (0, .ref (rX P))]) C 1 dX3_digest_102 rfl rfl (by decide) rfl ?_
  refine v_goto (tgt := 77) C dX3_digest_105 (by decide) ?_
  refine v_iload C 0 dX3_digest_77 rfl ?_
  refine v_bipush (v := 6) C dX3_digest_79 rfl ?_
  refine v_icmp_ge (tgt := 108) C dX3_digest_81 (by decide) (fun _ => ?_) (fun h9 => absurd (by decide) h9)
  refine v_iinc (b := 3) (lv' := [(3, .int 3), (4, .int 6), (1, .long y_30), (0, .ref (rX P))]) C 2 dX3_digest_108 rfl rfl (by decide) rfl ?_
  refine v_goto (tgt := 69) C dX3_digest_111 (by decide) ?_
  refine v_iload_n C 0 dX3_digest_69 rfl ?_
  refine v_iconst (v := 4) C dX3_digest_70 rfl ?_
  refine v_icmp_ge (tgt := 114) C dX3_digest_71 (by decide) (fun h9 => absurd h9 (by decide)) (fun _ => ?_)
  refine v_iconst (v := 0) C dX3_digest_74 rfl ?_
  refine v_istore (lv' := [(4, .int 0), (3, .int 3), (1, .long y_30), (0, .ref (rX P))]) C dX3_digest_75 (by decide) rfl ?_
  refine v_iload C 0 dX3_digest_77 rfl ?_
  refine v_bipush (v := 6) C dX3_digest_79 rfl ?_
  refine v_icmp_ge (tgt := 108) C dX3_digest_81 (by decide) (fun h9 => absurd h9 (by decide)) (fun _ => ?_)
  refine v_lload_n C 2 dX3_digest_84 rfl ?_
  refine v_ldc2 (v := 31) C dX3_digest_85 k_288 ?_
  refine v_lmul C dX3_digest_88 ?_
  refine v_aload_n C 3 dX3_digest_89 rfl ?_
  refine v_gX C 0 (by decide) k_426 rfl dX3_digest_90 ?_
  refine v_iload_n C 1 dX3_digest_93 rfl ?_
  refine v_iload C 0 dX3_digest_94 rfl ?_
  refine go_I (run_VN C (c_X2_foggerNumber_0 (by decide) hc h12 in4_3) k_159 k_2 (List.mem_of_getElem? (i := 7) rfl) k_157 ks_3 dd_X2_foggerNumber ⟨Nat.le_of_ble_eq_true rfl, Nat.le_of_ble_eq_true rfl⟩ (rcT (by decide)) rfl (Nat.le_of_ble_eq_true rfl) dX3_digest_96 ⟨Nat.le_of_ble_eq_true rfl, Nat.le_of_ble_eq_true rfl⟩) ?_
  refine v_i2l C dX3_digest_99 ?_
  refine v_ladd C dX3_digest_100 ?_
  refine v_topl (fun y_31 ey_31 => ?_)
  replace ey_31 : y_31 = dg y_30 (fogN N F 0 c 3 0) := ey_31
  refine v_lstore_n (lv' := [(1, .long y_31), (4, .int 0), (3, .int 3), (0, .ref (rX P))]) C dX3_digest_101 rfl (by decide) rfl ?_
  refine v_iinc (b := 1) (lv' := [(4, .int 1), (1, .long y_31), (3, .int 3), (0, .ref (rX P))]) C 1 dX3_digest_102 rfl rfl (by decide) rfl ?_
  refine v_goto (tgt := 77) C dX3_digest_105 (by decide) ?_
  refine v_iload C 0 dX3_digest_77 rfl ?_
  refine v_bipush (v := 6) C dX3_digest_79 rfl ?_
  refine v_icmp_ge (tgt := 108) C dX3_digest_81 (by decide) (fun h9 => absurd h9 (by decide)) (fun _ => ?_)
  refine v_lload_n C 1 dX3_digest_84 rfl ?_
  refine v_ldc2 (v := 31) C dX3_digest_85 k_288 ?_
  refine v_lmul C dX3_digest_88 ?_
  refine v_aload_n C 3 dX3_digest_89 rfl ?_
  refine v_gX C 0 (by decide) k_426 rfl dX3_digest_90 ?_
  refine v_iload_n C 2 dX3_digest_93 rfl ?_
  refine v_iload C 0 dX3_digest_94 rfl ?_
  refine go_I (run_VN C (c_X2_foggerNumber_1 (by decide) hc h12 in4_3) k_159 k_2 (List.mem_of_getElem? (i := 7) rfl) k_157 ks_3 dd_X2_foggerNumber ⟨Nat.le_of_ble_eq_true rfl, Nat.le_of_ble_eq_true rfl⟩ (rcT (by decide)) rfl (Nat.le_of_ble_eq_true rfl) dX3_digest_96 ⟨Nat.le_of_ble_eq_true rfl, Nat.le_of_ble_eq_true rfl⟩) ?_
  refine v_i2l C dX3_digest_99 ?_
  refine v_ladd C dX3_digest_100 ?_
  refine v_topl (fun y_32 ey_32 => ?_)
  replace ey_32 : y_32 = dg y_31 (fogN N F 0 c 3 1) := ey_32
  refine v_lstore_n (lv' := [(1, .long y_32), (4, .int 1), (3, .int 3), (0, .ref (rX P))]) C dX3_digest_101 rfl (by decide) rfl ?_
  refine v_iinc (b := 2) (lv' := [(4, .int 2), (1, .long y_32), (3, .int 3), (0, .ref (rX P))]) C 1 dX3_digest_102 rfl rfl (by decide) rfl ?_
  refine v_goto (tgt := 77) C dX3_digest_105 (by decide) ?_
  refine v_iload C 0 dX3_digest_77 rfl ?_
  refine v_bipush (v := 6) C dX3_digest_79 rfl ?_
  refine v_icmp_ge (tgt := 108) C dX3_digest_81 (by decide) (fun h9 => absurd h9 (by decide)) (fun _ => ?_)
  refine v_lload_n C 1 dX3_digest_84 rfl ?_
  refine v_ldc2 (v := 31) C dX3_digest_85 k_288 ?_
  refine v_lmul C dX3_digest_88 ?_
  refine v_aload_n C 3 dX3_digest_89 rfl ?_
  refine v_gX C 0 (by decide) k_426 rfl dX3_digest_90 ?_
  refine v_iload_n C 2 dX3_digest_93 rfl ?_
  refine v_iload C 0 dX3_digest_94 rfl ?_
  refine go_I (run_VN C (c_X2_foggerNumber_2 (by decide) hc h12 in4_3) k_159 k_2 (List.mem_of_getElem? (i := 7) rfl) k_157 ks_3 dd_X2_foggerNumber ⟨Nat.le_of_ble_eq_true rfl, Nat.le_of_ble_eq_true rfl⟩ (rcT (by decide)) rfl (Nat.le_of_ble_eq_true rfl) dX3_digest_96 ⟨Nat.le_of_ble_eq_true rfl, Nat.le_of_ble_eq_true rfl⟩) ?_
  refine v_i2l C dX3_digest_99 ?_
  refine v_ladd C dX3_digest_100 ?_
  refine v_topl (fun y_33 ey_33 => ?_)
  replace ey_33 : y_33 = dg y_32 (fogN N F 0 c 3 2) := ey_33
  refine v_lstore_n (lv' := [(1, .long y_33), (4, .int 2), (3, .int 3), (0, .ref (rX P))]) C dX3_digest_101 rfl (by decide) rfl ?_
  refine v_iinc (b := 3) (lv' := [(4, .int 3), (1, .long y_33), (3, .int 3), (0, .ref (rX P))]) C 1 dX3_digest_102 rfl rfl (by decide) rfl ?_
  refine v_goto (tgt := 77) C dX3_digest_105 (by decide) ?_
  refine v_iload C 0 dX3_digest_77 rfl ?_
  refine v_bipush (v := 6) C dX3_digest_79 rfl ?_
  refine v_icmp_ge (tgt := 108) C dX3_digest_81 (by decide) (fun h9 => absurd h9 (by decide)) (fun _ => ?_)
  refine v_lload_n C 1 dX3_digest_84 rfl ?_
  refine v_ldc2 (v := 31) C dX3_digest_85 k_288 ?_
  refine v_lmul C dX3_digest_88 ?_
  refine v_aload_n C 3 dX3_digest_89 rfl ?_
  refine v_gX C 0 (by decide) k_426 rfl dX3_digest_90 ?_
  refine v_iload_n C 2 dX3_digest_93 rfl ?_
  refine v_iload C 0 dX3_digest_94 rfl ?_
  refine go_I (run_VN C (c_X2_foggerNumber_3 (by decide) hc h12 in4_3) k_159 k_2 (List.mem_of_getElem? (i := 7) rfl) k_157 ks_3 dd_X2_foggerNumber ⟨Nat.le_of_ble_eq_true rfl, Nat.le_of_ble_eq_true rfl⟩ (rcT (by decide)) rfl (Nat.le_of_ble_eq_true rfl) dX3_digest_96 ⟨Nat.le_of_ble_eq_true rfl, Nat.le_of_ble_eq_true rfl⟩) ?_
  refine v_i2l C dX3_digest_99 ?_
  refine v_ladd C dX3_digest_100 ?_
  refine v_topl (fun y_34 ey_34 => ?_)
  replace ey_34 : y_34 = dg y_33 (fogN N F 0 c 3 3) := ey_34
  refine v_lstore_n (lv' := [(1, .long y_34), (4, .int 3), (3, .int 3), (0, .ref (rX P))]) C dX3_digest_101 rfl (by decide) rfl ?_
  refine v_iinc (b := 4) (lv' := [(4, .int 4), (1, .long y_34), (3, .int 3), (0, .ref (rX P))]) C 1 dX3_digest_102 rfl rfl (by decide) rfl ?_
  refine v_goto (tgt := 77) C dX3_digest_105 (by decide) ?_
  refine v_iload C 0 dX3_digest_77 rfl ?_
  refine v_bipush (v := 6) C dX3_digest_79 rfl ?_
  refine v_icmp_ge (tgt := 108) C dX3_digest_81 (by decide) (fun h9 => absurd h9 (by decide)) (fun _ => ?_)
  refine v_lload_n C 1 dX3_digest_84 rfl ?_
  refine v_ldc2 (v := 31) C dX3_digest_85 k_288 ?_
  refine v_lmul C dX3_digest_88 ?_
  refine v_aload_n C 3 dX3_digest_89 rfl ?_
  refine v_gX C 0 (by decide) k_426 rfl dX3_digest_90 ?_
  refine v_iload_n C 2 dX3_digest_93 rfl ?_
  refine v_iload C 0 dX3_digest_94 rfl ?_
  refine go_I (run_VN C (c_X2_foggerNumber_4 (by decide) hc h12 in4_3) k_159 k_2 (List.mem_of_getElem? (i := 7) rfl) k_157 ks_3 dd_X2_foggerNumber ⟨Nat.le_of_ble_eq_true rfl, Nat.le_of_ble_eq_true rfl⟩ (rcT (by decide)) rfl (Nat.le_of_ble_eq_true rfl) dX3_digest_96 ⟨Nat.le_of_ble_eq_true rfl, Nat.le_of_ble_eq_true rfl⟩) ?_
  refine v_i2l C dX3_digest_99 ?_
  refine v_ladd C dX3_digest_100 ?_
  refine v_topl (fun y_35 ey_35 => ?_)
  replace ey_35 : y_35 = dg y_34 (fogN N F 0 c 3 4) := ey_35
  refine v_lstore_n (lv' := [(1, .long y_35), (4, .int 4), (3, .int 3), (0, .ref (rX P))]) C dX3_digest_101 rfl (by decide) rfl ?_
  refine v_iinc (b := 5) (lv' := [(4, .int 5), (1, .long y_35), (3, .int 3), (0, .ref (rX P))]) C 1 dX3_digest_102 rfl rfl (by decide) rfl ?_
  refine v_goto (tgt := 77) C dX3_digest_105 (by decide) ?_
  refine v_iload C 0 dX3_digest_77 rfl ?_
  refine v_bipush (v := 6) C dX3_digest_79 rfl ?_
  refine v_icmp_ge (tgt := 108) C dX3_digest_81 (by decide) (fun h9 => absurd h9 (by decide)) (fun _ => ?_)
  refine v_lload_n C 1 dX3_digest_84 rfl ?_
  refine v_ldc2 (v := 31) C dX3_digest_85 k_288 ?_
  refine v_lmul C dX3_digest_88 ?_
  refine v_aload_n C 3 dX3_digest_89 rfl ?_
  refine v_gX C 0 (by decide) k_426 rfl dX3_digest_90 ?_
  refine v_iload_n C 2 dX3_digest_93 rfl ?_
  refine v_iload C 0 dX3_digest_94 rfl ?_
  refine go_I (run_VN C (c_X2_foggerNumber_5 (by decide) hc h12 in4_3) k_159 k_2 (List.mem_of_getElem? (i := 7) rfl) k_157 ks_3 dd_X2_foggerNumber ⟨Nat.le_of_ble_eq_true rfl, Nat.le_of_ble_eq_true rfl⟩ (rcT (by decide)) rfl (Nat.le_of_ble_eq_true rfl) dX3_digest_96 ⟨Nat.le_of_ble_eq_true rfl, Nat.le_of_ble_eq_true rfl⟩) ?_
  refine v_i2l C dX3_digest_99 ?_
  refine v_ladd C dX3_digest_100 ?_
  refine v_topl (fun y_36 ey_36 => ?_)
  replace ey_36 : y_36 = dg y_35 (fogN N F 0 c 3 5) := ey_36
  refine v_lstore_n (lv' := [(1, .long y_36), (4, .int 5), (3, .int 3), (0, .ref (rX P))]) C dX3_digest_101 rfl (by decide) rfl ?_
  refine v_iinc (b := 6) (lv' := [(4, .int 6), (1, .long y_36), (3, .int 3), (0, .ref (rX P))]) C 1 dX3_digest_102 rfl rfl (by decide) rfl ?_
  refine v_goto (tgt := 77) C dX3_digest_105 (by decide) ?_
  refine v_iload C 0 dX3_digest_77 rfl ?_
  refine v_bipush (v := 6) C dX3_digest_79 rfl ?_
  refine v_icmp_ge (tgt := 108) C dX3_digest_81 (by decide) (fun _ => ?_) (fun h9 => absurd (by decide) h9)
  refine v_iinc (b := 4) (lv' := [(3, .int 4), (4, .int 6), (1, .long y_36), (0, .ref (rX P))]) C 2 dX3_digest_108 rfl rfl (by decide) rfl ?_
  refine v_goto (tgt := 69) C dX3_digest_111 (by decide) ?_
  refine v_iload_n C 0 dX3_digest_69 rfl ?_
  refine v_iconst (v := 4) C dX3_digest_70 rfl ?_
  refine v_icmp_ge (tgt := 114) C dX3_digest_71 (by decide) (fun _ => ?_) (fun h9 => absurd (by decide) h9)
  refine v_lload_n C 2 dX3_digest_114 rfl ?_
  exact v_lret C dX3_digest_115 rfl (by rw [ey_36 , ey_35 , ey_34 , ey_33 , ey_32 , ey_31 , ey_30 , ey_29 , ey_28 , ey_27 , ey_26 , ey_25 , ey_24 , ey_23 , ey_22 , ey_21 , ey_20 , ey_19 , ey_18 , ey_17 , ey_16 , ey_15 , ey_14 , ey_13, ed0, ey_11, ey_10, ey_9, ey_8, ey_7, ey_6, ey_5, ey_4, ey_3, ey_2, ey_1]; rfl)
