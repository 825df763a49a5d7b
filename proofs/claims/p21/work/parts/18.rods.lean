/-! THE CLASS NAILRODS: contracts and walks -/
set_option maxHeartbeats 4000000 in
set_option maxRecDepth 100000 in
theorem c_X3_needIndex {l : Launch} {P : L5} {D : va_G} {f : Nat → va_E} {a b : Int32} (h1 : ¬ a < 0) (h2 : a < b) : CtV l yX3_needIndex cX3_needIndex 2 1 0 0 P D (nW P) (nW P) False f f [.int a, .int b] := by
  refine mk_Met pl_X3 [(0, .int a), (1, .int b)] rfl (Nat.le_of_ble_eq_true rfl) ?_
  intro pg en sg mg ag bg mt cd C
  refine v_iload_n C 0 dX3_needIndex_0 rfl ?_
  refine v_if_lt (tgt := 9) C dX3_needIndex_1 (by decide) (fun h9 => absurd h9 h1) (fun _ => ?_)
  refine v_iload_n C 0 dX3_needIndex_4 rfl ?_
  refine v_iload_n C 1 dX3_needIndex_5 rfl ?_
  refine v_icmp_lt (tgt := 19) C dX3_needIndex_6 (by decide) (fun _ => ?_) (fun h9 => absurd h2 h9)
  exact v_vret C dX3_needIndex_19 rfl
set_option maxHeartbeats 4000000 in
set_option maxRecDepth 100000 in
theorem c_X3_needWithin {l : Launch} {P : L5} {D : va_G} {f : Nat → va_E} {a b d : Int32} (h1 : ¬ a < b) (h2 : a ≤ d) : CtV l yX3_needWithin cX3_needWithin 3 1 0 0 P D (nW P) (nW P) False f f [.int a, .int b, .int d] := by
  refine mk_Met pl_X3 [(0, .int a), (1, .int b), (2, .int d)] rfl (Nat.le_of_ble_eq_true rfl) ?_
  intro pg en sg mg ag bg mt cd C
  refine v_iload_n C 0 dX3_needWithin_0 rfl ?_
  refine v_iload_n C 1 dX3_needWithin_1 rfl ?_
  refine v_icmp_lt (tgt := 10) C dX3_needWithin_2 (by decide) (fun h9 => absurd h9 h1) (fun _ => ?_)
  refine v_iload_n C 0 dX3_needWithin_5 rfl ?_
  refine v_iload_n C 2 dX3_needWithin_6 rfl ?_
  refine v_icmp_le (tgt := 20) C dX3_needWithin_7 (by decide) (fun _ => ?_) (fun h9 => absurd h2 h9)
  exact v_vret C dX3_needWithin_20 rfl
set_option maxHeartbeats 4000000 in
set_option maxRecDepth 100000 in
theorem c_X3_needNailer {l : Launch} {P : L5} {D : va_G} {N F T : Nat → Nat → Int32} {K : Nat → Int32} {A : Nat → Nat → Int32} {w : Int64} {p : Int32} (h1 : ¬ p < 0) (h2 : p < T 0 1) : CtV l yX3_needNailer cX3_needNailer 2 2 0 0 P D (nW P) (nW P) False (cw P N F T K A w) (cw P N F T K A w) [.ref (rX P), .int p] := by
  refine mk_Met pl_X3 [(0, .ref (rX P)), (1, .int p)] rfl (Nat.le_of_ble_eq_true rfl) ?_
  intro pg en sg mg ag bg mt cd C
  refine v_iload_n C 1 dX3_needNailer_0 rfl ?_
  refine v_aload_n C 0 dX3_needNailer_1 rfl ?_
  refine v_gX C 0 (by decide) k_426 rfl dX3_needNailer_2 ?_
  refine v_gTuN C (by decide) 1 (by decide) (List.mem_of_getElem? (i := 19) rfl) rfl dX3_needNailer_5 ?_
  refine go_V (run_S C (c_X3_needIndex h1 h2) k_23 k_1 k_21 k_22 dd_X3_needIndex ⟨Nat.le_of_ble_eq_true rfl, Nat.le_of_ble_eq_true rfl⟩ rfl (Nat.le_of_ble_eq_true rfl) dX3_needNailer_8 ⟨Nat.le_of_ble_eq_true rfl, Nat.le_of_ble_eq_true rfl⟩) ?_
  exact v_vret C dX3_needNailer_11 rfl
set_option maxHeartbeats 4000000 in
set_option maxRecDepth 100000 in
theorem c_X3_lend {l : Launch} {P : L5} {D : va_G} {N F T : Nat → Nat → Int32} {K : Nat → Int32} {A : Nat → Nat → Int32} {w : Int64} {c : Nat} (hc : T 0 1 = nI c) (h12 : c ≤ 12) {p : Int32} (h1 : ¬ p < 0) (h2 : p < T 0 1) {q : Int32} (h3 : ¬ q < 1) (h4 : q ≤ 20) (h5 : N (12 * 0 + p.toNatClampNeg) 8 + q * 3 ≤ 90) : CtI l yX3_lend cX3_lend 5 .int 6 0 0 P D (nW P) (nW P) False (cw P N F T K A w) (cw P (va_up N (12 * 0 + p.toNatClampNeg) (upd (upd (N (12 * 0 + p.toNatClampNeg)) 3 (N (12 * 0 + p.toNatClampNeg) 3 + q)) 8 (N (12 * 0 + p.toNatClampNeg) 8 + q * 3))) F T K A w) [.ref (rX P), .int p, .int q] (N (12 * 0 + p.toNatClampNeg) 8 + q * 3) := by
  refine mk_Met pl_X3 [(0, .ref (rX P)), (1, .int p), (2, .int q)] rfl (Nat.le_of_ble_eq_true rfl) ?_
  intro pg en sg mg ag bg mt cd C
  obtain ⟨hin, hj⟩ := ixC h1 h2 hc h12
  refine v_aload_n C 0 dX3_lend_0 rfl ?_
  refine v_iload_n C 1 dX3_lend_1 rfl ?_
  refine go_V (run_V C (c_X3_needNailer h1 h2) k_20 k_1 k_16 k_18 ks_0 dd_X3_needNailer ⟨Nat.le_of_ble_eq_true rfl, Nat.le_of_ble_eq_true rfl⟩ rcX rfl (Nat.le_of_ble_eq_true rfl) dX3_lend_2 ⟨Nat.le_of_ble_eq_true rfl, Nat.le_of_ble_eq_true rfl⟩) ?_
  refine v_iload_n C 2 dX3_lend_5 rfl ?_
  refine v_iconst (v := 1) C dX3_lend_6 rfl ?_
  refine v_bipush (v := 20) C dX3_lend_7 rfl ?_
  refine go_V (run_S C (c_X3_needWithin h3 h4) k_96 k_1 k_94 k_95 dd_X3_needWithin ⟨Nat.le_of_ble_eq_true rfl, Nat.le_of_ble_eq_true rfl⟩ rfl (Nat.le_of_ble_eq_true rfl) dX3_lend_9 ⟨Nat.le_of_ble_eq_true rfl, Nat.le_of_ble_eq_true rfl⟩) ?_
  refine v_aload_n C 0 dX3_lend_12 rfl ?_
  refine v_gX C 0 (by decide) k_426 rfl dX3_lend_13 ?_
  refine v_gTuN C (by decide) 2 (by decide) (List.mem_of_getElem? (i := 20) rfl) rfl dX3_lend_16 ?_
  refine v_iload_n C 1 dX3_lend_19 rfl ?_
  refine v_aaNk C p.toNatClampNeg (by decide) rfl hin dX3_lend_20 ?_
  refine v_astore_n (lv' := [(3, .ref (rN P (12 * 0 + p.toNatClampNeg))), (0, .ref (rX P)), (1, .int p), (2, .int q)]) C dX3_lend_21 rfl (by decide) rfl ?_
  refine v_eq (f' := (cw P (va_up N (12 * 0 + p.toNatClampNeg) (N (12 * 0 + p.toNatClampNeg))) F T K A w)) (by rw [va_up_eta]) ?_
  refine v_aload_n C 0 dX3_lend_22 rfl ?_
  refine v_gNN C (by omega) 8 (by decide) (List.mem_of_getElem? (i := 8) rfl) rfl dX3_lend_23 ?_
  refine v_iload_n C 3 dX3_lend_26 rfl ?_
  refine v_iconst (v := 3) C dX3_lend_27 rfl ?_
  refine v_imul C dX3_lend_28 ?_
  refine v_iadd C dX3_lend_29 ?_
  refine v_top (fun x_1 ex_1 => ?_)
  refine v_istore (lv' := [(4, .int x_1), (3, .ref (rN P (12 * 0 + p.toNatClampNeg))), (0, .ref (rX P)), (1, .int p), (2, .int q)]) C dX3_lend_30 (by decide) rfl ?_
  refine v_iload C 0 dX3_lend_32 rfl ?_
  refine v_bipush (v := 90) C dX3_lend_34 rfl ?_
  refine v_icmp_le (tgt := 49) C dX3_lend_36 (by decide) (fun _ => ?_) (fun h9 => absurd (by rw [ex_1]; exact h5) h9)
  refine v_aload_n C 1 dX3_lend_49 rfl ?_
  refine v_dup C dX3_lend_50 rfl ?_
  refine v_gNN C (by omega) 3 (by decide) (List.mem_of_getElem? (i := 3) rfl) rfl dX3_lend_51 ?_
  refine v_iload_n C 4 dX3_lend_54 rfl ?_
  refine v_iadd C dX3_lend_55 ?_
  refine v_pNN C (by omega) 3 (by decide) (List.mem_of_getElem? (i := 3) rfl) dX3_lend_56 ?_
  refine v_aload_n C 1 dX3_lend_59 rfl ?_
  refine v_iload C 0 dX3_lend_60 rfl ?_
  refine v_pNN C (by omega) 8 (by decide) (List.mem_of_getElem? (i := 8) rfl) dX3_lend_62 ?_
  refine v_iload C 0 dX3_lend_65 rfl ?_
  exact v_iret C dX3_lend_67 (by rw [ex_1]) ex_1
set_option maxHeartbeats 4000000 in
set_option maxRecDepth 100000 in
theorem c_X3_coal {l : Launch} {P : L5} {D : va_G} {N F T : Nat → Nat → Int32} {K : Nat → Int32} {A : Nat → Nat → Int32} {w : Int64} {c : Nat} (hc : T 0 1 = nI c) (h12 : c ≤ 12) {p : Int32} (h1 : ¬ p < 0) (h2 : p < T 0 1) {q : Int32} (h3 : ¬ q < 1) (h4 : q ≤ 99) (h5 : ¬ N (12 * 0 + p.toNatClampNeg) 7 < ((q + 4 - 1) / 4)) (h6 : N (12 * 0 + p.toNatClampNeg) 6 + q ≤ 99) : CtI l yX3_coal cX3_coal 5 .int 6 0 0 P D (nW P) (nW P) False (cw P N F T K A w) (cw P (va_up N (12 * 0 + p.toNatClampNeg) (upd (upd (N (12 * 0 + p.toNatClampNeg)) 7 (N (12 * 0 + p.toNatClampNeg) 7 - ((q + 4 - 1) / 4))) 6 (N (12 * 0 + p.toNatClampNeg) 6 + q))) F T K A w) [.ref (rX P), .int p, .int q] (N (12 * 0 + p.toNatClampNeg) 6 + q) := by
  refine mk_Met pl_X3 [(0, .ref (rX P)), (1, .int p), (2, .int q)] rfl (Nat.le_of_ble_eq_true rfl) ?_
  intro pg en sg mg ag bg mt cd C
  obtain ⟨hin, hj⟩ := ixC h1 h2 hc h12
  refine v_aload_n C 0 dX3_coal_0 rfl ?_
  refine v_iload_n C 1 dX3_coal_1 rfl ?_
  refine go_V (run_V C (c_X3_needNailer h1 h2) k_20 k_1 k_16 k_18 ks_0 dd_X3_needNailer ⟨Nat.le_of_ble_eq_true rfl, Nat.le_of_ble_eq_true rfl⟩ rcX rfl (Nat.le_of_ble_eq_true rfl) dX3_coal_2 ⟨Nat.le_of_ble_eq_true rfl, Nat.le_of_ble_eq_true rfl⟩) ?_
  refine v_iload_n C 2 dX3_coal_5 rfl ?_
  refine v_iconst (v := 1) C dX3_coal_6 rfl ?_
  refine v_bipush (v := 99) C dX3_coal_7 rfl ?_
  refine go_V (run_S C (c_X3_needWithin h3 h4) k_96 k_1 k_94 k_95 dd_X3_needWithin ⟨Nat.le_of_ble_eq_true rfl, Nat.le_of_ble_eq_true rfl⟩ rfl (Nat.le_of_ble_eq_true rfl) dX3_coal_9 ⟨Nat.le_of_ble_eq_true rfl, Nat.le_of_ble_eq_true rfl⟩) ?_
  refine v_aload_n C 0 dX3_coal_12 rfl ?_
  refine v_gX C 0 (by decide) k_426 rfl dX3_coal_13 ?_
  refine v_gTuN C (by decide) 2 (by decide) (List.mem_of_getElem? (i := 20) rfl) rfl dX3_coal_16 ?_
  refine v_iload_n C 1 dX3_coal_19 rfl ?_
  refine v_aaNk C p.toNatClampNeg (by decide) rfl hin dX3_coal_20 ?_
  refine v_astore_n (lv' := [(3, .ref (rN P (12 * 0 + p.toNatClampNeg))), (0, .ref (rX P)), (1, .int p), (2, .int q)]) C dX3_coal_21 rfl (by decide) rfl ?_
  refine v_eq (f' := (cw P (va_up N (12 * 0 + p.toNatClampNeg) (N (12 * 0 + p.toNatClampNeg))) F T K A w)) (by rw [va_up_eta]) ?_
  refine v_iload_n C 3 dX3_coal_22 rfl ?_
  refine v_iconst (v := 4) C dX3_coal_23 rfl ?_
  refine v_iadd C dX3_coal_24 ?_
  refine v_iconst (v := 1) C dX3_coal_25 rfl ?_
  refine v_isub C dX3_coal_26 ?_
  refine v_iconst (v := 4) C dX3_coal_27 rfl ?_
  refine v_idiv C dX3_coal_28 (by decide) ?_
  refine v_top (fun x_1 ex_1 => ?_)
  refine v_istore (lv' := [(4, .int x_1), (3, .ref (rN P (12 * 0 + p.toNatClampNeg))), (0, .ref (rX P)), (1, .int p), (2, .int q)]) C dX3_coal_29 (by decide) rfl ?_
  refine v_iload C 0 dX3_coal_31 rfl ?_
  refine v_aload_n C 1 dX3_coal_33 rfl ?_
  refine v_gNN C (by omega) 7 (by decide) (List.mem_of_getElem? (i := 7) rfl) rfl dX3_coal_34 ?_
  refine v_icmp_gt (tgt := 51) C dX3_coal_37 (by decide) (fun h9 => absurd h9 (by rw [ex_1]; exact h5)) (fun _ => ?_)
  refine v_aload_n C 1 dX3_coal_40 rfl ?_
  refine v_gNN C (by omega) 6 (by decide) (List.mem_of_getElem? (i := 5) rfl) rfl dX3_coal_41 ?_
  refine v_iload_n C 4 dX3_coal_44 rfl ?_
  refine v_iadd C dX3_coal_45 ?_
  refine v_bipush (v := 99) C dX3_coal_46 rfl ?_
  refine v_icmp_le (tgt := 61) C dX3_coal_48 (by decide) (fun _ => ?_) (fun h9 => absurd h6 h9)
  refine v_aload_n C 1 dX3_coal_61 rfl ?_
  refine v_dup C dX3_coal_62 rfl ?_
  refine v_gNN C (by omega) 7 (by decide) (List.mem_of_getElem? (i := 7) rfl) rfl dX3_coal_63 ?_
  refine v_iload C 0 dX3_coal_66 rfl ?_
  refine v_isub C dX3_coal_68 ?_
  refine v_pNN C (by omega) 7 (by decide) (List.mem_of_getElem? (i := 7) rfl) dX3_coal_69 ?_
  refine v_aload_n C 1 dX3_coal_72 rfl ?_
  refine v_dup C dX3_coal_73 rfl ?_
  refine v_gNN C (by omega) 6 (by decide) (List.mem_of_getElem? (i := 5) rfl) rfl dX3_coal_74 ?_
  refine v_iload_n C 4 dX3_coal_77 rfl ?_
  refine v_iadd C dX3_coal_78 ?_
  refine v_pNN C (by omega) 6 (by decide) (List.mem_of_getElem? (i := 5) rfl) dX3_coal_79 ?_
  refine v_aload_n C 1 dX3_coal_82 rfl ?_
  refine v_gNN C (by omega) 6 (by decide) (List.mem_of_getElem? (i := 5) rfl) rfl dX3_coal_83 ?_
  exact v_iret C dX3_coal_86 (by rw [ex_1]; rfl) rfl
set_option maxHeartbeats 4000000 in
set_option maxRecDepth 100000 in
theorem c_X3_told_0 {l : Launch} {P : L5} {D : va_G} {N F T : Nat → Nat → Int32} {K : Nat → Int32} {A : Nat → Nat → Int32} {w : Int64} {c : Nat} (hc : T 0 1 = nI c) (h12 : c ≤ 12) {p : Int32} (h1 : ¬ p < 0) (h2 : p < T 0 1) : CtI l yX3_told cX3_told 3 .int 6 0 0 P D (nW P) (nW P) False (cw P N F T K A w) (cw P N F T K A w) [.ref (rX P), .int p, .int 0] (N (12 * 0 + p.toNatClampNeg) 0) := by
  refine mk_Met pl_X3 [(0, .ref (rX P)), (1, .int p), (2, .int 0)] rfl (Nat.le_of_ble_eq_true rfl) ?_
  intro pg en sg mg ag bg mt cd C
  obtain ⟨hin, hj⟩ := ixC h1 h2 hc h12
  refine v_aload_n C 0 dX3_told_0 rfl ?_
  refine v_iload_n C 1 dX3_told_1 rfl ?_
  refine go_V (run_V C (c_X3_needNailer h1 h2) k_20 k_1 k_16 k_18 ks_0 dd_X3_needNailer ⟨Nat.le_of_ble_eq_true rfl, Nat.le_of_ble_eq_true rfl⟩ rcX rfl (Nat.le_of_ble_eq_true rfl) dX3_told_2 ⟨Nat.le_of_ble_eq_true rfl, Nat.le_of_ble_eq_true rfl⟩) ?_
  refine v_iload_n C 2 dX3_told_5 rfl ?_
  refine v_bipush (v := 12) C dX3_told_6 rfl ?_
  refine go_V (run_S C (c_X3_needIndex (by decide) (by decide)) k_23 k_1 k_21 k_22 dd_X3_needIndex ⟨Nat.le_of_ble_eq_true rfl, Nat.le_of_ble_eq_true rfl⟩ rfl (Nat.le_of_ble_eq_true rfl) dX3_told_8 ⟨Nat.le_of_ble_eq_true rfl, Nat.le_of_ble_eq_true rfl⟩) ?_
  refine v_aload_n C 0 dX3_told_11 rfl ?_
  refine v_gX C 0 (by decide) k_426 rfl dX3_told_12 ?_
  refine v_gTuN C (by decide) 2 (by decide) (List.mem_of_getElem? (i := 20) rfl) rfl dX3_told_15 ?_
  refine v_iload_n C 1 dX3_told_18 rfl ?_
  refine v_aaNk C p.toNatClampNeg (by decide) rfl hin dX3_told_19 ?_
  refine v_iload_n C 2 dX3_told_20 rfl ?_
  refine go_I (run_VN C (c_X1_number_0 (by omega)) k_142 k_3 (List.mem_of_getElem? (i := 9) rfl) k_140 ks_2 dd_X1_number ⟨Nat.le_of_ble_eq_true rfl, Nat.le_of_ble_eq_true rfl⟩ (rcN (by omega)) rfl (Nat.le_of_ble_eq_true rfl) dX3_told_21 ⟨Nat.le_of_ble_eq_true rfl, Nat.le_of_ble_eq_true rfl⟩) ?_
  exact v_iret C dX3_told_24 rfl rfl
set_option maxHeartbeats 4000000 in
set_option maxRecDepth 100000 in
theorem c_X3_told_1 {l : Launch} {P : L5} {D : va_G} {N F T : Nat → Nat → Int32} {K : Nat → Int32} {A : Nat → Nat → Int32} {w : Int64} {c : Nat} (hc : T 0 1 = nI c) (h12 : c ≤ 12) {p : Int32} (h1 : ¬ p < 0) (h2 : p < T 0 1) : CtI l yX3_told cX3_told 3 .int 6 0 0 P D (nW P) (nW P) False (cw P N F T K A w) (cw P N F T K A w) [.ref (rX P), .int p, .int 1] (N (12 * 0 + p.toNatClampNeg) 1) := by
  refine mk_Met pl_X3 [(0, .ref (rX P)), (1, .int p), (2, .int 1)] rfl (Nat.le_of_ble_eq_true rfl) ?_
  intro pg en sg mg ag bg mt cd C
  obtain ⟨hin, hj⟩ := ixC h1 h2 hc h12
  refine v_aload_n C 0 dX3_told_0 rfl ?_
  refine v_iload_n C 1 dX3_told_1 rfl ?_
  refine go_V (run_V C (c_X3_needNailer h1 h2) k_20 k_1 k_16 k_18 ks_0 dd_X3_needNailer ⟨Nat.le_of_ble_eq_true rfl, Nat.le_of_ble_eq_true rfl⟩ rcX rfl (Nat.le_of_ble_eq_true rfl) dX3_told_2 ⟨Nat.le_of_ble_eq_true rfl, Nat.le_of_ble_eq_true rfl⟩) ?_
  refine v_iload_n C 2 dX3_told_5 rfl ?_
  refine v_bipush (v := 12) C dX3_told_6 rfl ?_
  refine go_V (run_S C (c_X3_needIndex (by decide) (by decide)) k_23 k_1 k_21 k_22 dd_X3_needIndex ⟨Nat.le_of_ble_eq_true rfl, Nat.le_of_ble_eq_true rfl⟩ rfl (Nat.le_of_ble_eq_true rfl) dX3_told_8 ⟨Nat.le_of_ble_eq_true rfl, Nat.le_of_ble_eq_true rfl⟩) ?_
  refine v_aload_n C 0 dX3_told_11 rfl ?_
  refine v_gX C 0 (by decide) k_426 rfl dX3_told_12 ?_
  refine v_gTuN C (by decide) 2 (by decide) (List.mem_of_getElem? (i := 20) rfl) rfl dX3_told_15 ?_
  refine v_iload_n C 1 dX3_told_18 rfl ?_
  refine v_aaNk C p.toNatClampNeg (by decide) rfl hin dX3_told_19 ?_
  refine v_iload_n C 2 dX3_told_20 rfl ?_
  refine go_I (run_VN C (c_X1_number_1 (by omega)) k_142 k_3 (List.mem_of_getElem? (i := 9) rfl) k_140 ks_2 dd_X1_number ⟨Nat.le_of_ble_eq_true rfl, Nat.le_of_ble_eq_true rfl⟩ (rcN (by omega)) rfl (Nat.le_of_ble_eq_true rfl) dX3_told_21 ⟨Nat.le_of_ble_eq_true rfl, Nat.le_of_ble_eq_true rfl⟩) ?_
  exact v_iret C dX3_told_24 rfl rfl
set_option maxHeartbeats 4000000 in
set_option maxRecDepth 100000 in
theorem c_X3_told_2 {l : Launch} {P : L5} {D : va_G} {N F T : Nat → Nat → Int32} {K : Nat → Int32} {A : Nat → Nat → Int32} {w : Int64} {c : Nat} (hc : T 0 1 = nI c) (h12 : c ≤ 12) {p : Int32} (h1 : ¬ p < 0) (h2 : p < T 0 1) : CtI l yX3_told cX3_told 3 .int 6 0 0 P D (nW P) (nW P) False (cw P N F T K A w) (cw P N F T K A w) [.ref (rX P), .int p, .int 2] (N (12 * 0 + p.toNatClampNeg) 2) := by
  refine mk_Met pl_X3 [(0, .ref (rX P)), (1, .int p), (2, .int 2)] rfl (Nat.le_of_ble_eq_true rfl) ?_
  intro pg en sg mg ag bg mt cd C
  obtain ⟨hin, hj⟩ := ixC h1 h2 hc h12
  refine v_aload_n C 0 dX3_told_0 rfl ?_
  refine v_iload_n C 1 dX3_told_1 rfl ?_
  refine go_V (run_V C (c_X3_needNailer h1 h2) k_20 k_1 k_16 k_18 ks_0 dd_X3_needNailer ⟨Nat.le_of_ble_eq_true rfl, Nat.le_of_ble_eq_true rfl⟩ rcX rfl (Nat.le_of_ble_eq_true rfl) dX3_told_2 ⟨Nat.le_of_ble_eq_true rfl, Nat.le_of_ble_eq_true rfl⟩) ?_
  refine v_iload_n C 2 dX3_told_5 rfl ?_
  refine v_bipush (v := 12) C dX3_told_6 rfl ?_
  refine go_V (run_S C (c_X3_needIndex (by decide) (by decide)) k_23 k_1 k_21 k_22 dd_X3_needIndex ⟨Nat.le_of_ble_eq_true rfl, Nat.le_of_ble_eq_true rfl⟩ rfl (Nat.le_of_ble_eq_true rfl) dX3_told_8 ⟨Nat.le_of_ble_eq_true rfl, Nat.le_of_ble_eq_true rfl⟩) ?_
  refine v_aload_n C 0 dX3_told_11 rfl ?_
  refine v_gX C 0 (by decide) k_426 rfl dX3_told_12 ?_
  refine v_gTuN C (by decide) 2 (by decide) (List.mem_of_getElem? (i := 20) rfl) rfl dX3_told_15 ?_
  refine v_iload_n C 1 dX3_told_18 rfl ?_
  refine v_aaNk C p.toNatClampNeg (by decide) rfl hin dX3_told_19 ?_
  refine v_iload_n C 2 dX3_told_20 rfl ?_
  refine go_I (run_VN C (c_X1_number_2 (by omega)) k_142 k_3 (List.mem_of_getElem? (i := 9) rfl) k_140 ks_2 dd_X1_number ⟨Nat.le_of_ble_eq_true rfl, Nat.le_of_ble_eq_true rfl⟩ (rcN (by omega)) rfl (Nat.le_of_ble_eq_true rfl) dX3_told_21 ⟨Nat.le_of_ble_eq_true rfl, Nat.le_of_ble_eq_true rfl⟩) ?_
  exact v_iret C dX3_told_24 rfl rfl
set_option maxHeartbeats 4000000 in
set_option maxRecDepth 100000 in
theorem c_X3_told_3 {l : Launch} {P : L5} {D : va_G} {N F T : Nat → Nat → Int32} {K : Nat → Int32} {A : Nat → Nat → Int32} {w : Int64} {c : Nat} (hc : T 0 1 = nI c) (h12 : c ≤ 12) {p : Int32} (h1 : ¬ p < 0) (h2 : p < T 0 1) : CtI l yX3_told cX3_told 3 .int 6 0 0 P D (nW P) (nW P) False (cw P N F T K A w) (cw P N F T K A w) [.ref (rX P), .int p, .int 3] (N (12 * 0 + p.toNatClampNeg) 3) := by
  refine mk_Met pl_X3 [(0, .ref (rX P)), (1, .int p), (2, .int 3)] rfl (Nat.le_of_ble_eq_true rfl) ?_
  intro pg en sg mg ag bg mt cd C
  obtain ⟨hin, hj⟩ := ixC h1 h2 hc h12
  refine v_aload_n C 0 dX3_told_0 rfl ?_
  refine v_iload_n C 1 dX3_told_1 rfl ?_
  refine go_V (run_V C (c_X3_needNailer h1 h2) k_20 k_1 k_16 k_18 ks_0 dd_X3_needNailer ⟨Nat.le_of_ble_eq_true rfl, Nat.le_of_ble_eq_true rfl⟩ rcX rfl (Nat.le_of_ble_eq_true rfl) dX3_told_2 ⟨Nat.le_of_ble_eq_true rfl, Nat.le_of_ble_eq_true rfl⟩) ?_
  refine v_iload_n C 2 dX3_told_5 rfl ?_
  refine v_bipush (v := 12) C dX3_told_6 rfl ?_
  refine go_V (run_S C (c_X3_needIndex (by decide) (by decide)) k_23 k_1 k_21 k_22 dd_X3_needIndex ⟨Nat.le_of_ble_eq_true rfl, Nat.le_of_ble_eq_true rfl⟩ rfl (Nat.le_of_ble_eq_true rfl) dX3_told_8 ⟨Nat.le_of_ble_eq_true rfl, Nat.le_of_ble_eq_true rfl⟩) ?_
  refine v_aload_n C 0 dX3_told_11 rfl ?_
  refine v_gX C 0 (by decide) k_426 rfl dX3_told_12 ?_
  refine v_gTuN C (by decide) 2 (by decide) (List.mem_of_getElem? (i := 20) rfl) rfl dX3_told_15 ?_
  refine v_iload_n C 1 dX3_told_18 rfl ?_
  refine v_aaNk C p.toNatClampNeg (by decide) rfl hin dX3_told_19 ?_
  refine v_iload_n C 2 dX3_told_20 rfl ?_
  refine go_I (run_VN C (c_X1_number_3 (by omega)) k_142 k_3 (List.mem_of_getElem? (i := 9) rfl) k_140 ks_2 dd_X1_number ⟨Nat.le_of_ble_eq_true rfl, Nat.le_of_ble_eq_true rfl⟩ (rcN (by omega)) rfl (Nat.le_of_ble_eq_true rfl) dX3_told_21 ⟨Nat.le_of_ble_eq_true rfl, Nat.le_of_ble_eq_true rfl⟩) ?_
  exact v_iret C dX3_told_24 rfl rfl
set_option maxHeartbeats 4000000 in
set_option maxRecDepth 100000 in
theorem c_X3_told_4 {l : Launch} {P : L5} {D : va_G} {N F T : Nat → Nat → Int32} {K : Nat → Int32} {A : Nat → Nat → Int32} {w : Int64} {c : Nat} (hc : T 0 1 = nI c) (h12 : c ≤ 12) {p : Int32} (h1 : ¬ p < 0) (h2 : p < T 0 1) : CtI l yX3_told cX3_told 3 .int 6 0 0 P D (nW P) (nW P) False (cw P N F T K A w) (cw P N F T K A w) [.ref (rX P), .int p, .int 4] (N (12 * 0 + p.toNatClampNeg) 4) := by
  refine mk_Met pl_X3 [(0, .ref (rX P)), (1, .int p), (2, .int 4)] rfl (Nat.le_of_ble_eq_true rfl) ?_
  intro pg en sg mg ag bg mt cd C
  obtain ⟨hin, hj⟩ := ixC h1 h2 hc h12
  refine v_aload_n C 0 dX3_told_0 rfl ?_
  refine v_iload_n C 1 dX3_told_1 rfl ?_
  refine go_V (run_V C (c_X3_needNailer h1 h2) k_20 k_1 k_16 k_18 ks_0 dd_X3_needNailer ⟨Nat.le_of_ble_eq_true rfl, Nat.le_of_ble_eq_true rfl⟩ rcX rfl (Nat.le_of_ble_eq_true rfl) dX3_told_2 ⟨Nat.le_of_ble_eq_true rfl, Nat.le_of_ble_eq_true rfl⟩) ?_
  refine v_iload_n C 2 dX3_told_5 rfl ?_
  refine v_bipush (v := 12) C dX3_told_6 rfl ?_
  refine go_V (run_S C (c_X3_needIndex (by decide) (by decide)) k_23 k_1 k_21 k_22 dd_X3_needIndex ⟨Nat.le_of_ble_eq_true rfl, Nat.le_of_ble_eq_true rfl⟩ rfl (Nat.le_of_ble_eq_true rfl) dX3_told_8 ⟨Nat.le_of_ble_eq_true rfl, Nat.le_of_ble_eq_true rfl⟩) ?_
  refine v_aload_n C 0 dX3_told_11 rfl ?_
  refine v_gX C 0 (by decide) k_426 rfl dX3_told_12 ?_
  refine v_gTuN C (by decide) 2 (by decide) (List.mem_of_getElem? (i := 20) rfl) rfl dX3_told_15 ?_
  refine v_iload_n C 1 dX3_told_18 rfl ?_
  refine v_aaNk C p.toNatClampNeg (by decide) rfl hin dX3_told_19 ?_
  refine v_iload_n C 2 dX3_told_20 rfl ?_
  refine go_I (run_VN C (c_X1_number_4 (by omega)) k_142 k_3 (List.mem_of_getElem? (i := 9) rfl) k_140 ks_2 dd_X1_number ⟨Nat.le_of_ble_eq_true rfl, Nat.le_of_ble_eq_true rfl⟩ (rcN (by omega)) rfl (Nat.le_of_ble_eq_true rfl) dX3_told_21 ⟨Nat.le_of_ble_eq_true rfl, Nat.le_of_ble_eq_true rfl⟩) ?_
  exact v_iret C dX3_told_24 rfl rfl
set_option maxHeartbeats 4000000 in
set_option maxRecDepth 100000 in
theorem c_X3_told_5 {l : Launch} {P : L5} {D : va_G} {N F T : Nat → Nat → Int32} {K : Nat → Int32} {A : Nat → Nat → Int32} {w : Int64} {c : Nat} (hc : T 0 1 = nI c) (h12 : c ≤ 12) {p : Int32} (h1 : ¬ p < 0) (h2 : p < T 0 1) : CtI l yX3_told cX3_told 3 .int 6 0 0 P D (nW P) (nW P) False (cw P N F T K A w) (cw P N F T K A w) [.ref (rX P), .int p, .int 5] (N (12 * 0 + p.toNatClampNeg) 5) := by
  refine mk_Met pl_X3 [(0, .ref (rX P)), (1, .int p), (2, .int 5)] rfl (Nat.le_of_ble_eq_true rfl) ?_
  intro pg en sg mg ag bg mt cd C
  obtain ⟨hin, hj⟩ := ixC h1 h2 hc h12
  refine v_aload_n C 0 dX3_told_0 rfl ?_
  refine v_iload_n C 1 dX3_told_1 rfl ?_
  refine go_V (run_V C (c_X3_needNailer h1 h2) k_20 k_1 k_16 k_18 ks_0 dd_X3_needNailer ⟨Nat.le_of_ble_eq_true rfl, Nat.le_of_ble_eq_true rfl⟩ rcX rfl (Nat.le_of_ble_eq_true rfl) dX3_told_2 ⟨Nat.le_of_ble_eq_true rfl, Nat.le_of_ble_eq_true rfl⟩) ?_
  refine v_iload_n C 2 dX3_told_5 rfl ?_
  refine v_bipush (v := 12) C dX3_told_6 rfl ?_
  refine go_V (run_S C (c_X3_needIndex (by decide) (by decide)) k_23 k_1 k_21 k_22 dd_X3_needIndex ⟨Nat.le_of_ble_eq_true rfl, Nat.le_of_ble_eq_true rfl⟩ rfl (Nat.le_of_ble_eq_true rfl) dX3_told_8 ⟨Nat.le_of_ble_eq_true rfl, Nat.le_of_ble_eq_true rfl⟩) ?_
  refine v_aload_n C 0 dX3_told_11 rfl ?_
  refine v_gX C 0 (by decide) k_426 rfl dX3_told_12 ?_
  refine v_gTuN C (by decide) 2 (by decide) (List.mem_of_getElem? (i := 20) rfl) rfl dX3_told_15 ?_
  refine v_iload_n C 1 dX3_told_18 rfl ?_
  refine v_aaNk C p.toNatClampNeg (by decide) rfl hin dX3_told_19 ?_
  refine v_iload_n C 2 dX3_told_20 rfl ?_
  refine go_I (run_VN C (c_X1_number_5 (by omega)) k_142 k_3 (List.mem_of_getElem? (i := 9) rfl) k_140 ks_2 dd_X1_number ⟨Nat.le_of_ble_eq_true rfl, Nat.le_of_ble_eq_true rfl⟩ (rcN (by omega)) rfl (Nat.le_of_ble_eq_true rfl) dX3_told_21 ⟨Nat.le_of_ble_eq_true rfl, Nat.le_of_ble_eq_true rfl⟩) ?_
  exact v_iret C dX3_told_24 rfl rfl
set_option maxHeartbeats 4000000 in
set_option maxRecDepth 100000 in
theorem c_X3_told_6 {l : Launch} {P : L5} {D : va_G} {N F T : Nat → Nat → Int32} {K : Nat → Int32} {A : Nat → Nat → Int32} {w : Int64} {c : Nat} (hc : T 0 1 = nI c) (h12 : c ≤ 12) {p : Int32} (h1 : ¬ p < 0) (h2 : p < T 0 1) : CtI l yX3_told cX3_told 3 .int 6 0 0 P D (nW P) (nW P) False (cw P N F T K A w) (cw P N F T K A w) [.ref (rX P), .int p, .int 6] (N (12 * 0 + p.toNatClampNeg) 6) := by
  refine mk_Met pl_X3 [(0, .ref (rX P)), (1, .int p), (2, .int 6)] rfl (Nat.le_of_ble_eq_true rfl) ?_
  intro pg en sg mg ag bg mt cd C
  obtain ⟨hin, hj⟩ := ixC h1 h2 hc h12
  refine v_aload_n C 0 dX3_told_0 rfl ?_
  refine v_iload_n C 1 dX3_told_1 rfl ?_
  refine go_V (run_V C (c_X3_needNailer h1 h2) k_20 k_1 k_16 k_18 ks_0 dd_X3_needNailer ⟨Nat.le_of_ble_eq_true rfl, Nat.le_of_ble_eq_true rfl⟩ rcX rfl (Nat.le_of_ble_eq_true rfl) dX3_told_2 ⟨Nat.le_of_ble_eq_true rfl, Nat.le_of_ble_eq_true rfl⟩) ?_
  refine v_iload_n C 2 dX3_told_5 rfl ?_
  refine v_bipush (v := 12) C dX3_told_6 rfl ?_
  refine go_V (run_S C (c_X3_needIndex (by decide) (by decide)) k_23 k_1 k_21 k_22 dd_X3_needIndex ⟨Nat.le_of_ble_eq_true rfl, Nat.le_of_ble_eq_true rfl⟩ rfl (Nat.le_of_ble_eq_true rfl) dX3_told_8 ⟨Nat.le_of_ble_eq_true rfl, Nat.le_of_ble_eq_true rfl⟩) ?_
  refine v_aload_n C 0 dX3_told_11 rfl ?_
  refine v_gX C 0 (by decide) k_426 rfl dX3_told_12 ?_
  refine v_gTuN C (by decide) 2 (by decide) (List.mem_of_getElem? (i := 20) rfl) rfl dX3_told_15 ?_
  refine v_iload_n C 1 dX3_told_18 rfl ?_
  refine v_aaNk C p.toNatClampNeg (by decide) rfl hin dX3_told_19 ?_
  refine v_iload_n C 2 dX3_told_20 rfl ?_
  refine go_I (run_VN C (c_X1_number_6 (by omega)) k_142 k_3 (List.mem_of_getElem? (i := 9) rfl) k_140 ks_2 dd_X1_number ⟨Nat.le_of_ble_eq_true rfl, Nat.le_of_ble_eq_true rfl⟩ (rcN (by omega)) rfl (Nat.le_of_ble_eq_true rfl) dX3_told_21 ⟨Nat.le_of_ble_eq_true rfl, Nat.le_of_ble_eq_true rfl⟩) ?_
  exact v_iret C dX3_told_24 rfl rfl
set_option maxHeartbeats 4000000 in
set_option maxRecDepth 100000 in
theorem c_X3_told_7 {l : Launch} {P : L5} {D : va_G} {N F T : Nat → Nat → Int32} {K : Nat → Int32} {A : Nat → Nat → Int32} {w : Int64} {c : Nat} (hc : T 0 1 = nI c) (h12 : c ≤ 12) {p : Int32} (h1 : ¬ p < 0) (h2 : p < T 0 1) : CtI l yX3_told cX3_told 3 .int 6 0 0 P D (nW P) (nW P) False (cw P N F T K A w) (cw P N F T K A w) [.ref (rX P), .int p, .int 7] (N (12 * 0 + p.toNatClampNeg) 7) := by
  refine mk_Met pl_X3 [(0, .ref (rX P)), (1, .int p), (2, .int 7)] rfl (Nat.le_of_ble_eq_true rfl) ?_
  intro pg en sg mg ag bg mt cd C
  obtain ⟨hin, hj⟩ := ixC h1 h2 hc h12
  refine v_aload_n C 0 dX3_told_0 rfl ?_
  refine v_iload_n C 1 dX3_told_1 rfl ?_
  refine go_V (run_V C (c_X3_needNailer h1 h2) k_20 k_1 k_16 k_18 ks_0 dd_X3_needNailer ⟨Nat.le_of_ble_eq_true rfl, Nat.le_of_ble_eq_true rfl⟩ rcX rfl (Nat.le_of_ble_eq_true rfl) dX3_told_2 ⟨Nat.le_of_ble_eq_true rfl, Nat.le_of_ble_eq_true rfl⟩) ?_
  refine v_iload_n C 2 dX3_told_5 rfl ?_
  refine v_bipush (v := 12) C dX3_told_6 rfl ?_
  refine go_V (run_S C (c_X3_needIndex (by decide) (by decide)) k_23 k_1 k_21 k_22 dd_X3_needIndex ⟨Nat.le_of_ble_eq_true rfl, Nat.le_of_ble_eq_true rfl⟩ rfl (Nat.le_of_ble_eq_true rfl) dX3_told_8 ⟨Nat.le_of_ble_eq_true rfl, Nat.le_of_ble_eq_true rfl⟩) ?_
  refine v_aload_n C 0 dX3_told_11 rfl ?_
  refine v_gX C 0 (by decide) k_426 rfl dX3_told_12 ?_
  refine v_gTuN C (by decide) 2 (by decide) (List.mem_of_getElem? (i := 20) rfl) rfl dX3_told_15 ?_
  refine v_iload_n C 1 dX3_told_18 rfl ?_
  refine v_aaNk C p.toNatClampNeg (by decide) rfl hin dX3_told_19 ?_
  refine v_iload_n C 2 dX3_told_20 rfl ?_
  refine go_I (run_VN C (c_X1_number_7 (by omega)) k_142 k_3 (List.mem_of_getElem? (i := 9) rfl) k_140 ks_2 dd_X1_number ⟨Nat.le_of_ble_eq_true rfl, Nat.le_of_ble_eq_true rfl⟩ (rcN (by omega)) rfl (Nat.le_of_ble_eq_true rfl) dX3_told_21 ⟨Nat.le_of_ble_eq_true rfl, Nat.le_of_ble_eq_true rfl⟩) ?_
  exact v_iret C dX3_told_24 rfl rfl
set_option maxHeartbeats 4000000 in
set_option maxRecDepth 100000 in
theorem c_X3_told_8 {l : Launch} {P : L5} {D : va_G} {N F T : Nat → Nat → Int32} {K : Nat → Int32} {A : Nat → Nat → Int32} {w : Int64} {c : Nat} (hc : T 0 1 = nI c) (h12 : c ≤ 12) {p : Int32} (h1 : ¬ p < 0) (h2 : p < T 0 1) : CtI l yX3_told cX3_told 3 .int 6 0 0 P D (nW P) (nW P) False (cw P N F T K A w) (cw P N F T K A w) [.ref (rX P), .int p, .int 8] (N (12 * 0 + p.toNatClampNeg) 8) := by
  refine mk_Met pl_X3 [(0, .ref (rX P)), (1, .int p), (2, .int 8)] rfl (Nat.le_of_ble_eq_true rfl) ?_
  intro pg en sg mg ag bg mt cd C
  obtain ⟨hin, hj⟩ := ixC h1 h2 hc h12
  refine v_aload_n C 0 dX3_told_0 rfl ?_
  refine v_iload_n C 1 dX3_told_1 rfl ?_
  refine go_V (run_V C (c_X3_needNailer h1 h2) k_20 k_1 k_16 k_18 ks_0 dd_X3_needNailer ⟨Nat.le_of_ble_eq_true rfl, Nat.le_of_ble_eq_true rfl⟩ rcX rfl (Nat.le_of_ble_eq_true rfl) dX3_told_2 ⟨Nat.le_of_ble_eq_true rfl, Nat.le_of_ble_eq_true rfl⟩) ?_
  refine v_iload_n C 2 dX3_told_5 rfl ?_
  refine v_bipush (v := 12) C dX3_told_6 rfl ?_
  refine go_V (run_S C (c_X3_needIndex (by decide) (by decide)) k_23 k_1 k_21 k_22 dd_X3_needIndex ⟨Nat.le_of_ble_eq_true rfl, Nat.le_of_ble_eq_true rfl⟩ rfl (Nat.le_of_ble_eq_true rfl) dX3_told_8 ⟨Nat.le_of_ble_eq_true rfl, Nat.le_of_ble_eq_true rfl⟩) ?_
  refine v_aload_n C 0 dX3_told_11 rfl ?_
  refine v_gX C 0 (by decide) k_426 rfl dX3_told_12 ?_
  refine v_gTuN C (by decide) 2 (by decide) (List.mem_of_getElem? (i := 20) rfl) rfl dX3_told_15 ?_
  refine v_iload_n C 1 dX3_told_18 rfl ?_
  refine v_aaNk C p.toNatClampNeg (by decide) rfl hin dX3_told_19 ?_
  refine v_iload_n C 2 dX3_told_20 rfl ?_
  refine go_I (run_VN C (c_X1_number_8 (by omega)) k_142 k_3 (List.mem_of_getElem? (i := 9) rfl) k_140 ks_2 dd_X1_number ⟨Nat.le_of_ble_eq_true rfl, Nat.le_of_ble_eq_true rfl⟩ (rcN (by omega)) rfl (Nat.le_of_ble_eq_true rfl) dX3_told_21 ⟨Nat.le_of_ble_eq_true rfl, Nat.le_of_ble_eq_true rfl⟩) ?_
  exact v_iret C dX3_told_24 rfl rfl
set_option maxHeartbeats 4000000 in
set_option maxRecDepth 100000 in
theorem c_X3_told_9 {l : Launch} {P : L5} {D : va_G} {N F T : Nat → Nat → Int32} {K : Nat → Int32} {A : Nat → Nat → Int32} {w : Int64} {c : Nat} (hc : T 0 1 = nI c) (h12 : c ≤ 12) {p : Int32} (h1 : ¬ p < 0) (h2 : p < T 0 1) : CtI l yX3_told cX3_told 3 .int 6 0 0 P D (nW P) (nW P) False (cw P N F T K A w) (cw P N F T K A w) [.ref (rX P), .int p, .int 9] (N (12 * 0 + p.toNatClampNeg) 9) := by
  refine mk_Met pl_X3 [(0, .ref (rX P)), (1, .int p), (2, .int 9)] rfl (Nat.le_of_ble_eq_true rfl) ?_
  intro pg en sg mg ag bg mt cd C
  obtain ⟨hin, hj⟩ := ixC h1 h2 hc h12
  refine v_aload_n C 0 dX3_told_0 rfl ?_
  refine v_iload_n C 1 dX3_told_1 rfl ?_
  refine go_V (run_V C (c_X3_needNailer h1 h2) k_20 k_1 k_16 k_18 ks_0 dd_X3_needNailer ⟨Nat.le_of_ble_eq_true rfl, Nat.le_of_ble_eq_true rfl⟩ rcX rfl (Nat.le_of_ble_eq_true rfl) dX3_told_2 ⟨Nat.le_of_ble_eq_true rfl, Nat.le_of_ble_eq_true rfl⟩) ?_
  refine v_iload_n C 2 dX3_told_5 rfl ?_
  refine v_bipush (v := 12) C dX3_told_6 rfl ?_
  refine go_V (run_S C (c_X3_needIndex (by decide) (by decide)) k_23 k_1 k_21 k_22 dd_X3_needIndex ⟨Nat.le_of_ble_eq_true rfl, Nat.le_of_ble_eq_true rfl⟩ rfl (Nat.le_of_ble_eq_true rfl) dX3_told_8 ⟨Nat.le_of_ble_eq_true rfl, Nat.le_of_ble_eq_true rfl⟩) ?_
  refine v_aload_n C 0 dX3_told_11 rfl ?_
  refine v_gX C 0 (by decide) k_426 rfl dX3_told_12 ?_
  refine v_gTuN C (by decide) 2 (by decide) (List.mem_of_getElem? (i := 20) rfl) rfl dX3_told_15 ?_
  refine v_iload_n C 1 dX3_told_18 rfl ?_
  refine v_aaNk C p.toNatClampNeg (by decide) rfl hin dX3_told_19 ?_
  refine v_iload_n C 2 dX3_told_20 rfl ?_
  refine go_I (run_VN C (c_X1_number_9 (by omega)) k_142 k_3 (List.mem_of_getElem? (i := 9) rfl) k_140 ks_2 dd_X1_number ⟨Nat.le_of_ble_eq_true rfl, Nat.le_of_ble_eq_true rfl⟩ (rcN (by omega)) rfl (Nat.le_of_ble_eq_true rfl) dX3_told_21 ⟨Nat.le_of_ble_eq_true rfl, Nat.le_of_ble_eq_true rfl⟩) ?_
  exact v_iret C dX3_told_24 rfl rfl
set_option maxHeartbeats 4000000 in
set_option maxRecDepth 100000 in
theorem c_X3_told_10 {l : Launch} {P : L5} {D : va_G} {N F T : Nat → Nat → Int32} {K : Nat → Int32} {A : Nat → Nat → Int32} {w : Int64} {c : Nat} (hc : T 0 1 = nI c) (h12 : c ≤ 12) {p : Int32} (h1 : ¬ p < 0) (h2 : p < T 0 1) : CtI l yX3_told cX3_told 3 .int 6 0 0 P D (nW P) (nW P) False (cw P N F T K A w) (cw P N F T K A w) [.ref (rX P), .int p, .int 10] (N (12 * 0 + p.toNatClampNeg) 10) := by
  refine mk_Met pl_X3 [(0, .ref (rX P)), (1, .int p), (2, .int 10)] rfl (Nat.le_of_ble_eq_true rfl) ?_
  intro pg en sg mg ag bg mt cd C
  obtain ⟨hin, hj⟩ := ixC h1 h2 hc h12
  refine v_aload_n C 0 dX3_told_0 rfl ?_
  refine v_iload_n C 1 dX3_told_1 rfl ?_
  refine go_V (run_V C (c_X3_needNailer h1 h2) k_20 k_1 k_16 k_18 ks_0 dd_X3_needNailer ⟨Nat.le_of_ble_eq_true rfl, Nat.le_of_ble_eq_true rfl⟩ rcX rfl (Nat.le_of_ble_eq_true rfl) dX3_told_2 ⟨Nat.le_of_ble_eq_true rfl, Nat.le_of_ble_eq_true rfl⟩) ?_
  refine v_iload_n C 2 dX3_told_5 rfl ?_
  refine v_bipush (v := 12) C dX3_told_6 rfl ?_
  refine go_V (run_S C (c_X3_needIndex (by decide) (by decide)) k_23 k_1 k_21 k_22 dd_X3_needIndex ⟨Nat.le_of_ble_eq_true rfl, Nat.le_of_ble_eq_true rfl⟩ rfl (Nat.le_of_ble_eq_true rfl) dX3_told_8 ⟨Nat.le_of_ble_eq_true rfl, Nat.le_of_ble_eq_true rfl⟩) ?_
  refine v_aload_n C 0 dX3_told_11 rfl ?_
  refine v_gX C 0 (by decide) k_426 rfl dX3_told_12 ?_
  refine v_gTuN C (by decide) 2 (by decide) (List.mem_of_getElem? (i := 20) rfl) rfl dX3_told_15 ?_
  refine v_iload_n C 1 dX3_told_18 rfl ?_
  refine v_aaNk C p.toNatClampNeg (by decide) rfl hin dX3_told_19 ?_
  refine v_iload_n C 2 dX3_told_20 rfl ?_
  refine go_I (run_VN C (c_X1_number_10 (by omega)) k_142 k_3 (List.mem_of_getElem? (i := 9) rfl) k_140 ks_2 dd_X1_number ⟨Nat.le_of_ble_eq_true rfl, Nat.le_of_ble_eq_true rfl⟩ (rcN (by omega)) rfl (Nat.le_of_ble_eq_true rfl) dX3_told_21 ⟨Nat.le_of_ble_eq_true rfl, Nat.le_of_ble_eq_true rfl⟩) ?_
  exact v_iret C dX3_told_24 rfl rfl
set_option maxHeartbeats 4000000 in
set_option maxRecDepth 100000 in
theorem c_X3_told_11 {l : Launch} {P : L5} {D : va_G} {N F T : Nat → Nat → Int32} {K : Nat → Int32} {A : Nat → Nat → Int32} {w : Int64} {c : Nat} (hc : T 0 1 = nI c) (h12 : c ≤ 12) {p : Int32} (h1 : ¬ p < 0) (h2 : p < T 0 1) : CtI l yX3_told cX3_told 3 .int 6 0 0 P D (nW P) (nW P) False (cw P N F T K A w) (cw P N F T K A w) [.ref (rX P), .int p, .int 11] (N (12 * 0 + p.toNatClampNeg) 11) := by
  refine mk_Met pl_X3 [(0, .ref (rX P)), (1, .int p), (2, .int 11)] rfl (Nat.le_of_ble_eq_true rfl) ?_
  intro pg en sg mg ag bg mt cd C
  obtain ⟨hin, hj⟩ := ixC h1 h2 hc h12
  refine v_aload_n C 0 dX3_told_0 rfl ?_
  refine v_iload_n C 1 dX3_told_1 rfl ?_
  refine go_V (run_V C (c_X3_needNailer h1 h2) k_20 k_1 k_16 k_18 ks_0 dd_X3_needNailer ⟨Nat.le_of_ble_eq_true rfl, Nat.le_of_ble_eq_true rfl⟩ rcX rfl (Nat.le_of_ble_eq_true rfl) dX3_told_2 ⟨Nat.le_of_ble_eq_true rfl, Nat.le_of_ble_eq_true rfl⟩) ?_
  refine v_iload_n C 2 dX3_told_5 rfl ?_
  refine v_bipush (v := 12) C dX3_told_6 rfl ?_
  refine go_V (run_S C (c_X3_needIndex (by decide) (by decide)) k_23 k_1 k_21 k_22 dd_X3_needIndex ⟨Nat.le_of_ble_eq_true rfl, Nat.le_of_ble_eq_true rfl⟩ rfl (Nat.le_of_ble_eq_true rfl) dX3_told_8 ⟨Nat.le_of_ble_eq_true rfl, Nat.le_of_ble_eq_true rfl⟩) ?_
  refine v_aload_n C 0 dX3_told_11 rfl ?_
  refine v_gX C 0 (by decide) k_426 rfl dX3_told_12 ?_
  refine v_gTuN C (by decide) 2 (by decide) (List.mem_of_getElem? (i := 20) rfl) rfl dX3_told_15 ?_
  refine v_iload_n C 1 dX3_told_18 rfl ?_
  refine v_aaNk C p.toNatClampNeg (by decide) rfl hin dX3_told_19 ?_
  refine v_iload_n C 2 dX3_told_20 rfl ?_
  refine go_I (run_VN C (c_X1_number_11 (by omega)) k_142 k_3 (List.mem_of_getElem? (i := 9) rfl) k_140 ks_2 dd_X1_number ⟨Nat.le_of_ble_eq_true rfl, Nat.le_of_ble_eq_true rfl⟩ (rcN (by omega)) rfl (Nat.le_of_ble_eq_true rfl) dX3_told_21 ⟨Nat.le_of_ble_eq_true rfl, Nat.le_of_ble_eq_true rfl⟩) ?_
  exact v_iret C dX3_told_24 rfl rfl
set_option maxHeartbeats 4000000 in
set_option maxRecDepth 100000 in
theorem c_X3_nails_0 {l : Launch} {P : L5} {D : va_G} {N F T : Nat → Nat → Int32} {K : Nat → Int32} {A : Nat → Nat → Int32} {w : Int64} {c : Nat} (hc : T 0 1 = nI c) (h12 : c ≤ 12) {p : Int32} (h1 : ¬ p < 0) (h2 : p < T 0 1) {q : Int32} (h3 : ¬ q < 0) (h4 : q < 4) : CtI l yX3_nails cX3_nails 5 .int 6 0 0 P D (nW P) (nW P) False (cw P N F T K A w) (cw P N F T K A w) [.ref (rX P), .int p, .int q, .int 0] (N (12 * 0 + p.toNatClampNeg) (12 + q.toNatClampNeg)) := by
  refine mk_Met pl_X3 [(0, .ref (rX P)), (1, .int p), (2, .int q), (3, .int 0)] rfl (Nat.le_of_ble_eq_true rfl) ?_
  intro pg en sg mg ag bg mt cd C
  obtain ⟨hin, hj⟩ := ixC h1 h2 hc h12
  refine v_aload_n C 0 dX3_nails_0 rfl ?_
  refine v_iload_n C 1 dX3_nails_1 rfl ?_
  refine go_V (run_V C (c_X3_needNailer h1 h2) k_20 k_1 k_16 k_18 ks_0 dd_X3_needNailer ⟨Nat.le_of_ble_eq_true rfl, Nat.le_of_ble_eq_true rfl⟩ rcX rfl (Nat.le_of_ble_eq_true rfl) dX3_nails_2 ⟨Nat.le_of_ble_eq_true rfl, Nat.le_of_ble_eq_true rfl⟩) ?_
  refine v_iload_n C 2 dX3_nails_5 rfl ?_
  refine v_iconst (v := 4) C dX3_nails_6 rfl ?_
  refine go_V (run_S C (c_X3_needIndex h3 h4) k_23 k_1 k_21 k_22 dd_X3_needIndex ⟨Nat.le_of_ble_eq_true rfl, Nat.le_of_ble_eq_true rfl⟩ rfl (Nat.le_of_ble_eq_true rfl) dX3_nails_7 ⟨Nat.le_of_ble_eq_true rfl, Nat.le_of_ble_eq_true rfl⟩) ?_
  refine v_iload_n C 3 dX3_nails_10 rfl ?_
  refine v_iconst (v := 2) C dX3_nails_11 rfl ?_
  refine go_V (run_S C (c_X3_needIndex (by decide) (by decide)) k_23 k_1 k_21 k_22 dd_X3_needIndex ⟨Nat.le_of_ble_eq_true rfl, Nat.le_of_ble_eq_true rfl⟩ rfl (Nat.le_of_ble_eq_true rfl) dX3_nails_12 ⟨Nat.le_of_ble_eq_true rfl, Nat.le_of_ble_eq_true rfl⟩) ?_
  refine v_aload_n C 0 dX3_nails_15 rfl ?_
  refine v_gX C 0 (by decide) k_426 rfl dX3_nails_16 ?_
  refine v_gTuN C (by decide) 2 (by decide) (List.mem_of_getElem? (i := 20) rfl) rfl dX3_nails_19 ?_
  refine v_iload_n C 1 dX3_nails_22 rfl ?_
  refine v_aaNk C p.toNatClampNeg (by decide) rfl hin dX3_nails_23 ?_
  refine v_astore (lv' := [(4, .ref (rN P (12 * 0 + p.toNatClampNeg))), (0, .ref (rX P)), (1, .int p), (2, .int q), (3, .int 0)]) C dX3_nails_24 (by decide) rfl ?_
  refine v_iload_n C 4 dX3_nails_26 rfl ?_
  refine v_if_ne (tgt := 40) C dX3_nails_27 (by decide) (fun h9 => absurd h9 (by decide)) (fun _ => ?_)
  refine v_aload C 0 dX3_nails_30 rfl ?_
  refine v_gNuN C (by omega) 12 (by decide) (List.mem_of_getElem? (i := 10) rfl) rfl dX3_nails_32 ?_
  refine v_iload_n C 3 dX3_nails_35 rfl ?_
  refine v_ldLu C (by omega) (ix4 h3 h4) rfl dX3_nails_36 ?_
  refine v_goto (tgt := 47) C dX3_nails_37 (by decide) ?_
  exact v_iret C dX3_nails_47 rfl rfl
set_option maxHeartbeats 4000000 in
set_option maxRecDepth 100000 in
theorem c_X3_nails_1 {l : Launch} {P : L5} {D : va_G} {N F T : Nat → Nat → Int32} {K : Nat → Int32} {A : Nat → Nat → Int32} {w : Int64} {c : Nat} (hc : T 0 1 = nI c) (h12 : c ≤ 12) {p : Int32} (h1 : ¬ p < 0) (h2 : p < T 0 1) {q : Int32} (h3 : ¬ q < 0) (h4 : q < 4) : CtI l yX3_nails cX3_nails 5 .int 6 0 0 P D (nW P) (nW P) False (cw P N F T K A w) (cw P N F T K A w) [.ref (rX P), .int p, .int q, .int 1] (N (12 * 0 + p.toNatClampNeg) (16 + q.toNatClampNeg)) := by
  refine mk_Met pl_X3 [(0, .ref (rX P)), (1, .int p), (2, .int q), (3, .int 1)] rfl (Nat.le_of_ble_eq_true rfl) ?_
  intro pg en sg mg ag bg mt cd C
  obtain ⟨hin, hj⟩ := ixC h1 h2 hc h12
  refine v_aload_n C 0 dX3_nails_0 rfl ?_
  refine v_iload_n C 1 dX3_nails_1 rfl ?_
  refine go_V (run_V C (c_X3_needNailer h1 h2) k_20 k_1 k_16 k_18 ks_0 dd_X3_needNailer ⟨Nat.le_of_ble_eq_true rfl, Nat.le_of_ble_eq_true rfl⟩ rcX rfl (Nat.le_of_ble_eq_true rfl) dX3_nails_2 ⟨Nat.le_of_ble_eq_true rfl, Nat.le_of_ble_eq_true rfl⟩) ?_
  refine v_iload_n C 2 dX3_nails_5 rfl ?_
  refine v_iconst (v := 4) C dX3_nails_6 rfl ?_
  refine go_V (run_S C (c_X3_needIndex h3 h4) k_23 k_1 k_21 k_22 dd_X3_needIndex ⟨Nat.le_of_ble_eq_true rfl, Nat.le_of_ble_eq_true rfl⟩ rfl (Nat.le_of_ble_eq_true rfl) dX3_nails_7 ⟨Nat.le_of_ble_eq_true rfl, Nat.le_of_ble_eq_true rfl⟩) ?_
  refine v_iload_n C 3 dX3_nails_10 rfl ?_
  refine v_iconst (v := 2) C dX3_nails_11 rfl ?_
  refine go_V (run_S C (c_X3_needIndex (by decide) (by decide)) k_23 k_1 k_21 k_22 dd_X3_needIndex ⟨Nat.le_of_ble_eq_true rfl, Nat.le_of_ble_eq_true rfl⟩ rfl (Nat.le_of_ble_eq_true rfl) dX3_nails_12 ⟨Nat.le_of_ble_eq_true rfl, Nat.le_of_ble_eq_true rfl⟩) ?_
  refine v_aload_n C 0 dX3_nails_15 rfl ?_
  refine v_gX C 0 (by decide) k_426 rfl dX3_nails_16 ?_
  refine v_gTuN C (by decide) 2 (by decide) (List.mem_of_getElem? (i := 20) rfl) rfl dX3_nails_19 ?_
  refine v_iload_n C 1 dX3_nails_22 rfl ?_
  refine v_aaNk C p.toNatClampNeg (by decide) rfl hin dX3_nails_23 ?_
  refine v_astore (lv' := [(4, .ref (rN P (12 * 0 + p.toNatClampNeg))), (0, .ref (rX P)), (1, .int p), (2, .int q), (3, .int 1)]) C dX3_nails_24 (by decide) rfl ?_
  refine v_iload_n C 4 dX3_nails_26 rfl ?_
  refine v_if_ne (tgt := 40) C dX3_nails_27 (by decide) (fun _ => ?_) (fun h9 => absurd h9 (by decide))
  refine v_aload C 0 dX3_nails_40 rfl ?_
  refine v_gNuN C (by omega) 13 (by decide) (List.mem_of_getElem? (i := 12) rfl) rfl dX3_nails_42 ?_
  refine v_iload_n C 3 dX3_nails_45 rfl ?_
  refine v_ldBu C (by omega) (ix4 h3 h4) rfl dX3_nails_46 ?_
  exact v_iret C dX3_nails_47 rfl rfl
set_option maxHeartbeats 4000000 in
set_option maxRecDepth 100000 in
theorem c_X3_keep {l : Launch} {P : L5} {D : va_G} {N F T : Nat → Nat → Int32} {K : Nat → Int32} {A : Nat → Nat → Int32} {w : Int64} {p : Int32} (h1 : ¬ p < 0) (h2 : p < 4) {q : Int32} (h3 : ¬ q < 0) (h4 : q ≤ 60) : CtI l yX3_keep cX3_keep 4 .int 6 0 0 P D (nW P) (nW P) False (cw P N F T K A w) (cw P N (va_up F (4 * 0 + p.toNatClampNeg) (upd (F (4 * 0 + p.toNatClampNeg)) 0 q)) T K A w) [.ref (rX P), .int p, .int q] (F (4 * 0 + p.toNatClampNeg) 0) := by
  refine mk_Met pl_X3 [(0, .ref (rX P)), (1, .int p), (2, .int q)] rfl (Nat.le_of_ble_eq_true rfl) ?_
  intro pg en sg mg ag bg mt cd C
  have hin := ix4 h1 h2
  have h9 := pk_lt4 hin
  refine v_iload_n C 1 dX3_keep_0 rfl ?_
  refine v_iconst (v := 4) C dX3_keep_1 rfl ?_
  refine go_V (run_S C (c_X3_needIndex h1 h2) k_23 k_1 k_21 k_22 dd_X3_needIndex ⟨Nat.le_of_ble_eq_true rfl, Nat.le_of_ble_eq_true rfl⟩ rfl (Nat.le_of_ble_eq_true rfl) dX3_keep_2 ⟨Nat.le_of_ble_eq_true rfl, Nat.le_of_ble_eq_true rfl⟩) ?_
  refine v_iload_n C 2 dX3_keep_5 rfl ?_
  refine v_iconst (v := 0) C dX3_keep_6 rfl ?_
  refine v_bipush (v := 60) C dX3_keep_7 rfl ?_
  refine go_V (run_S C (c_X3_needWithin h3 h4) k_96 k_1 k_94 k_95 dd_X3_needWithin ⟨Nat.le_of_ble_eq_true rfl, Nat.le_of_ble_eq_true rfl⟩ rfl (Nat.le_of_ble_eq_true rfl) dX3_keep_9 ⟨Nat.le_of_ble_eq_true rfl, Nat.le_of_ble_eq_true rfl⟩) ?_
  refine v_aload_n C 0 dX3_keep_12 rfl ?_
  refine v_gX C 0 (by decide) k_426 rfl dX3_keep_13 ?_
  refine v_gTuN C (by decide) 3 (by decide) (List.mem_of_getElem? (i := 21) rfl) rfl dX3_keep_16 ?_
  refine v_iload_n C 1 dX3_keep_19 rfl ?_
  refine v_aaFk C p.toNatClampNeg (by decide) rfl hin dX3_keep_20 ?_
  refine v_gFuN C (by omega) 0 (by decide) (List.mem_of_getElem? (i := 13) rfl) rfl dX3_keep_21 ?_
  refine v_top (fun x_1 ex_1 => ?_)
  refine v_istore_n (lv' := [(3, .int x_1), (0, .ref (rX P)), (1, .int p), (2, .int q)]) C dX3_keep_24 rfl (by decide) rfl ?_
  refine v_aload_n C 1 dX3_keep_25 rfl ?_
  refine v_gX C 0 (by decide) k_426 rfl dX3_keep_26 ?_
  refine v_gTuN C (by decide) 3 (by decide) (List.mem_of_getElem? (i := 21) rfl) rfl dX3_keep_29 ?_
  refine v_iload_n C 2 dX3_keep_32 rfl ?_
  refine v_aaFk C p.toNatClampNeg (by decide) rfl hin dX3_keep_33 ?_
  refine v_eq (f' := (cw P N (va_up F (4 * 0 + p.toNatClampNeg) (F (4 * 0 + p.toNatClampNeg))) T K A w)) (by rw [va_up_eta]) ?_
  refine v_iload_n C 3 dX3_keep_34 rfl ?_
  refine v_pFN C (by omega) 0 (by decide) (List.mem_of_getElem? (i := 13) rfl) dX3_keep_35 ?_
  refine v_iload_n C 0 dX3_keep_38 rfl ?_
  exact v_iret C dX3_keep_39 rfl ex_1
set_option maxHeartbeats 4000000 in
set_option maxRecDepth 100000 in
theorem c_X3_fogger_0 {l : Launch} {P : L5} {D : va_G} {N F T : Nat → Nat → Int32} {K : Nat → Int32} {A : Nat → Nat → Int32} {w : Int64} {c : Nat} (hc : T 0 1 = nI c) (h12 : c ≤ 12) {p : Int32} (h1 : ¬ p < 0) (h2 : p < 4) : CtI l yX3_fogger cX3_fogger 3 .int 6 0 0 P D (nW P) (nW P) False (cw P N F T K A w) (cw P N F T K A w) [.ref (rX P), .int p, .int 0] (fogN N F 0 c p 0) := by
  refine mk_Met pl_X3 [(0, .ref (rX P)), (1, .int p), (2, .int 0)] rfl (Nat.le_of_ble_eq_true rfl) ?_
  intro pg en sg mg ag bg mt cd C
  have hin := ix4 h1 h2
  have h9 := pk_lt4 hin
  refine v_iload_n C 1 dX3_fogger_0 rfl ?_
  refine v_iconst (v := 4) C dX3_fogger_1 rfl ?_
  refine go_V (run_S C (c_X3_needIndex h1 h2) k_23 k_1 k_21 k_22 dd_X3_needIndex ⟨Nat.le_of_ble_eq_true rfl, Nat.le_of_ble_eq_true rfl⟩ rfl (Nat.le_of_ble_eq_true rfl) dX3_fogger_2 ⟨Nat.le_of_ble_eq_true rfl, Nat.le_of_ble_eq_true rfl⟩) ?_
  refine v_iload_n C 2 dX3_fogger_5 rfl ?_
  refine v_bipush (v := 6) C dX3_fogger_6 rfl ?_
  refine go_V (run_S C (c_X3_needIndex (by decide) (by decide)) k_23 k_1 k_21 k_22 dd_X3_needIndex ⟨Nat.le_of_ble_eq_true rfl, Nat.le_of_ble_eq_true rfl⟩ rfl (Nat.le_of_ble_eq_true rfl) dX3_fogger_8 ⟨Nat.le_of_ble_eq_true rfl, Nat.le_of_ble_eq_true rfl⟩) ?_
  refine v_aload_n C 0 dX3_fogger_11 rfl ?_
  refine v_gX C 0 (by decide) k_426 rfl dX3_fogger_12 ?_
  refine v_iload_n C 1 dX3_fogger_15 rfl ?_
  refine v_iload_n C 2 dX3_fogger_16 rfl ?_
  refine go_I (run_VN C (c_X2_foggerNumber_0 (by decide) hc h12 hin) k_159 k_2 (List.mem_of_getElem? (i := 7) rfl) k_157 ks_3 dd_X2_foggerNumber ⟨Nat.le_of_ble_eq_true rfl, Nat.le_of_ble_eq_true rfl⟩ (rcT (by decide)) rfl (Nat.le_of_ble_eq_true rfl) dX3_fogger_17 ⟨Nat.le_of_ble_eq_true rfl, Nat.le_of_ble_eq_true rfl⟩) ?_
  exact v_iret C dX3_fogger_20 rfl rfl
set_option maxHeartbeats 4000000 in
set_option maxRecDepth 100000 in
theorem c_X3_fogger_1 {l : Launch} {P : L5} {D : va_G} {N F T : Nat → Nat → Int32} {K : Nat → Int32} {A : Nat → Nat → Int32} {w : Int64} {c : Nat} (hc : T 0 1 = nI c) (h12 : c ≤ 12) {p : Int32} (h1 : ¬ p < 0) (h2 : p < 4) : CtI l yX3_fogger cX3_fogger 3 .int 6 0 0 P D (nW P) (nW P) False (cw P N F T K A w) (cw P N F T K A w) [.ref (rX P), .int p, .int 1] (fogN N F 0 c p 1) := by
  refine mk_Met pl_X3 [(0, .ref (rX P)), (1, .int p), (2, .int 1)] rfl (Nat.le_of_ble_eq_true rfl) ?_
  intro pg en sg mg ag bg mt cd C
  have hin := ix4 h1 h2
  have h9 := pk_lt4 hin
  refine v_iload_n C 1 dX3_fogger_0 rfl ?_
  refine v_iconst (v := 4) C dX3_fogger_1 rfl ?_
  refine go_V (run_S C (c_X3_needIndex h1 h2) k_23 k_1 k_21 k_22 dd_X3_needIndex ⟨Nat.le_of_ble_eq_true rfl, Nat.le_of_ble_eq_true rfl⟩ rfl (Nat.le_of_ble_eq_true rfl) dX3_fogger_2 ⟨Nat.le_of_ble_eq_true rfl, Nat.le_of_ble_eq_true rfl⟩) ?_
  refine v_iload_n C 2 dX3_fogger_5 rfl ?_
  refine v_bipush (v := 6) C dX3_fogger_6 rfl ?_
  refine go_V (run_S C (c_X3_needIndex (by decide) (by decide)) k_23 k_1 k_21 k_22 dd_X3_needIndex ⟨Nat.le_of_ble_eq_true rfl, Nat.le_of_ble_eq_true rfl⟩ rfl (Nat.le_of_ble_eq_true rfl) dX3_fogger_8 ⟨Nat.le_of_ble_eq_true rfl, Nat.le_of_ble_eq_true rfl⟩) ?_
  refine v_aload_n C 0 dX3_fogger_11 rfl ?_
  refine v_gX C 0 (by decide) k_426 rfl dX3_fogger_12 ?_
  refine v_iload_n C 1 dX3_fogger_15 rfl ?_
  refine v_iload_n C 2 dX3_fogger_16 rfl ?_
  refine go_I (run_VN C (c_X2_foggerNumber_1 (by decide) hc h12 hin) k_159 k_2 (List.mem_of_getElem? (i := 7) rfl) k_157 ks_3 dd_X2_foggerNumber ⟨Nat.le_of_ble_eq_true rfl, Nat.le_of_ble_eq_true rfl⟩ (rcT (by decide)) rfl (Nat.le_of_ble_eq_true rfl) dX3_fogger_17 ⟨Nat.le_of_ble_eq_true rfl, Nat.le_of_ble_eq_true rfl⟩) ?_
  exact v_iret C dX3_fogger_20 rfl rfl
set_option maxHeartbeats 4000000 in
set_option maxRecDepth 100000 in
theorem c_X3_fogger_2 {l : Launch} {P : L5} {D : va_G} {N F T : Nat → Nat → Int32} {K : Nat → Int32} {A : Nat → Nat → Int32} {w : Int64} {c : Nat} (hc : T 0 1 = nI c) (h12 : c ≤ 12) {p : Int32} (h1 : ¬ p < 0) (h2 : p < 4) : CtI l yX3_fogger cX3_fogger 3 .int 6 0 0 P D (nW P) (nW P) False (cw P N F T K A w) (cw P N F T K A w) [.ref (rX P), .int p, .int 2] (fogN N F 0 c p 2) := by
  refine mk_Met pl_X3 [(0, .ref (rX P)), (1, .int p), (2, .int 2)] rfl (Nat.le_of_ble_eq_true rfl) ?_
  intro pg en sg mg ag bg mt cd C
  have hin := ix4 h1 h2
  have h9 := pk_lt4 hin
  refine v_iload_n C 1 dX3_fogger_0 rfl ?_
  refine v_iconst (v := 4) C dX3_fogger_1 rfl ?_
  refine go_V (run_S C (c_X3_needIndex h1 h2) k_23 k_1 k_21 k_22 dd_X3_needIndex ⟨Nat.le_of_ble_eq_true rfl, Nat.le_of_ble_eq_true rfl⟩ rfl (Nat.le_of_ble_eq_true rfl) dX3_fogger_2 ⟨Nat.le_of_ble_eq_true rfl, Nat.le_of_ble_eq_true rfl⟩) ?_
  refine v_iload_n C 2 dX3_fogger_5 rfl ?_
  refine v_bipush (v := 6) C dX3_fogger_6 rfl ?_
  refine go_V (run_S C (c_X3_needIndex (by decide) (by decide)) k_23 k_1 k_21 k_22 dd_X3_needIndex ⟨Nat.le_of_ble_eq_true rfl, Nat.le_of_ble_eq_true rfl⟩ rfl (Nat.le_of_ble_eq_true rfl) dX3_fogger_8 ⟨Nat.le_of_ble_eq_true rfl, Nat.le_of_ble_eq_true rfl⟩) ?_
  refine v_aload_n C 0 dX3_fogger_11 rfl ?_
  refine v_gX C 0 (by decide) k_426 rfl dX3_fogger_12 ?_
  refine v_iload_n C 1 dX3_fogger_15 rfl ?_
  refine v_iload_n C 2 dX3_fogger_16 rfl ?_
  refine go_I (run_VN C (c_X2_foggerNumber_2 (by decide) hc h12 hin) k_159 k_2 (List.mem_of_getElem? (i := 7) rfl) k_157 ks_3 dd_X2_foggerNumber ⟨Nat.le_of_ble_eq_true rfl, Nat.le_of_ble_eq_true rfl⟩ (rcT (by decide)) rfl (Nat.le_of_ble_eq_true rfl) dX3_fogger_17 ⟨Nat.le_of_ble_eq_true rfl, Nat.le_of_ble_eq_true rfl⟩) ?_
  exact v_iret C dX3_fogger_20 rfl rfl
set_option maxHeartbeats 4000000 in
set_option maxRecDepth 100000 in
theorem c_X3_fogger_3 {l : Launch} {P : L5} {D : va_G} {N F T : Nat → Nat → Int32} {K : Nat → Int32} {A : Nat → Nat → Int32} {w : Int64} {c : Nat} (hc : T 0 1 = nI c) (h12 : c ≤ 12) {p : Int32} (h1 : ¬ p < 0) (h2 : p < 4) : CtI l yX3_fogger cX3_fogger 3 .int 6 0 0 P D (nW P) (nW P) False (cw P N F T K A w) (cw P N F T K A w) [.ref (rX P), .int p, .int 3] (fogN N F 0 c p 3) := by
  refine mk_Met pl_X3 [(0, .ref (rX P)), (1, .int p), (2, .int 3)] rfl (Nat.le_of_ble_eq_true rfl) ?_
  intro pg en sg mg ag bg mt cd C
  have hin := ix4 h1 h2
  have h9 := pk_lt4 hin
  refine v_iload_n C 1 dX3_fogger_0 rfl ?_
  refine v_iconst (v := 4) C dX3_fogger_1 rfl ?_
  refine go_V (run_S C (c_X3_needIndex h1 h2) k_23 k_1 k_21 k_22 dd_X3_needIndex ⟨Nat.le_of_ble_eq_true rfl, Nat.le_of_ble_eq_true rfl⟩ rfl (Nat.le_of_ble_eq_true rfl) dX3_fogger_2 ⟨Nat.le_of_ble_eq_true rfl, Nat.le_of_ble_eq_true rfl⟩) ?_
  refine v_iload_n C 2 dX3_fogger_5 rfl ?_
  refine v_bipush (v := 6) C dX3_fogger_6 rfl ?_
  refine go_V (run_S C (c_X3_needIndex (by decide) (by decide)) k_23 k_1 k_21 k_22 dd_X3_needIndex ⟨Nat.le_of_ble_eq_true rfl, Nat.le_of_ble_eq_true rfl⟩ rfl (Nat.le_of_ble_eq_true rfl) dX3_fogger_8 ⟨Nat.le_of_ble_eq_true rfl, Nat.le_of_ble_eq_true rfl⟩) ?_
  refine v_aload_n C 0 dX3_fogger_11 rfl ?_
  refine v_gX C 0 (by decide) k_426 rfl dX3_fogger_12 ?_
  refine v_iload_n C 1 dX3_fogger_15 rfl ?_
  refine v_iload_n C 2 dX3_fogger_16 rfl ?_
  refine go_I (run_VN C (c_X2_foggerNumber_3 (by decide) hc h12 hin) k_159 k_2 (List.mem_of_getElem? (i := 7) rfl) k_157 ks_3 dd_X2_foggerNumber ⟨Nat.le_of_ble_eq_true rfl, Nat.le_of_ble_eq_true rfl⟩ (rcT (by decide)) rfl (Nat.le_of_ble_eq_true rfl) dX3_fogger_17 ⟨Nat.le_of_ble_eq_true rfl, Nat.le_of_ble_eq_true rfl⟩) ?_
  exact v_iret C dX3_fogger_20 rfl rfl
set_option maxHeartbeats 4000000 in
set_option maxRecDepth 100000 in
theorem c_X3_fogger_4 {l : Launch} {P : L5} {D : va_G} {N F T : Nat → Nat → Int32} {K : Nat → Int32} {A : Nat → Nat → Int32} {w : Int64} {c : Nat} (hc : T 0 1 = nI c) (h12 : c ≤ 12) {p : Int32} (h1 : ¬ p < 0) (h2 : p < 4) : CtI l yX3_fogger cX3_fogger 3 .int 6 0 0 P D (nW P) (nW P) False (cw P N F T K A w) (cw P N F T K A w) [.ref (rX P), .int p, .int 4] (fogN N F 0 c p 4) := by
  refine mk_Met pl_X3 [(0, .ref (rX P)), (1, .int p), (2, .int 4)] rfl (Nat.le_of_ble_eq_true rfl) ?_
  intro pg en sg mg ag bg mt cd C
  have hin := ix4 h1 h2
  have h9 := pk_lt4 hin
  refine v_iload_n C 1 dX3_fogger_0 rfl ?_
  refine v_iconst (v := 4) C dX3_fogger_1 rfl ?_
  refine go_V (run_S C (c_X3_needIndex h1 h2) k_23 k_1 k_21 k_22 dd_X3_needIndex ⟨Nat.le_of_ble_eq_true rfl, Nat.le_of_ble_eq_true rfl⟩ rfl (Nat.le_of_ble_eq_true rfl) dX3_fogger_2 ⟨Nat.le_of_ble_eq_true rfl, Nat.le_of_ble_eq_true rfl⟩) ?_
  refine v_iload_n C 2 dX3_fogger_5 rfl ?_
  refine v_bipush (v := 6) C dX3_fogger_6 rfl ?_
  refine go_V (run_S C (c_X3_needIndex (by decide) (by decide)) k_23 k_1 k_21 k_22 dd_X3_needIndex ⟨Nat.le_of_ble_eq_true rfl, Nat.le_of_ble_eq_true rfl⟩ rfl (Nat.le_of_ble_eq_true rfl) dX3_fogger_8 ⟨Nat.le_of_ble_eq_true rfl, Nat.le_of_ble_eq_true rfl⟩) ?_
  refine v_aload_n C 0 dX3_fogger_11 rfl ?_
  refine v_gX C 0 (by decide) k_426 rfl dX3_fogger_12 ?_
  refine v_iload_n C 1 dX3_fogger_15 rfl ?_
  refine v_iload_n C 2 dX3_fogger_16 rfl ?_
  refine go_I (run_VN C (c_X2_foggerNumber_4 (by decide) hc h12 hin) k_159 k_2 (List.mem_of_getElem? (i := 7) rfl) k_157 ks_3 dd_X2_foggerNumber ⟨Nat.le_of_ble_eq_true rfl, Nat.le_of_ble_eq_true rfl⟩ (rcT (by decide)) rfl (Nat.le_of_ble_eq_true rfl) dX3_fogger_17 ⟨Nat.le_of_ble_eq_true rfl, Nat.le_of_ble_eq_true rfl⟩) ?_
  exact v_iret C dX3_fogger_20 rfl rfl
set_option maxHeartbeats 4000000 in
set_option maxRecDepth 100000 in
theorem c_X3_fogger_5 {l : Launch} {P : L5} {D : va_G} {N F T : Nat → Nat → Int32} {K : Nat → Int32} {A : Nat → Nat → Int32} {w : Int64} {c : Nat} (hc : T 0 1 = nI c) (h12 : c ≤ 12) {p : Int32} (h1 : ¬ p < 0) (h2 : p < 4) : CtI l yX3_fogger cX3_fogger 3 .int 6 0 0 P D (nW P) (nW P) False (cw P N F T K A w) (cw P N F T K A w) [.ref (rX P), .int p, .int 5] (fogN N F 0 c p 5) := by
  refine mk_Met pl_X3 [(0, .ref (rX P)), (1, .int p), (2, .int 5)] rfl (Nat.le_of_ble_eq_true rfl) ?_
  intro pg en sg mg ag bg mt cd C
  have hin := ix4 h1 h2
  have h9 := pk_lt4 hin
  refine v_iload_n C 1 dX3_fogger_0 rfl ?_
  refine v_iconst (v := 4) C dX3_fogger_1 rfl ?_
  refine go_V (run_S C (c_X3_needIndex h1 h2) k_23 k_1 k_21 k_22 dd_X3_needIndex ⟨Nat.le_of_ble_eq_true rfl, Nat.le_of_ble_eq_true rfl⟩ rfl (Nat.le_of_ble_eq_true rfl) dX3_fogger_2 ⟨Nat.le_of_ble_eq_true rfl, Nat.le_of_ble_eq_true rfl⟩) ?_
  refine v_iload_n C 2 dX3_fogger_5 rfl ?_
  refine v_bipush (v := 6) C dX3_fogger_6 rfl ?_
  refine go_V (run_S C (c_X3_needIndex (by decide) (by decide)) k_23 k_1 k_21 k_22 dd_X3_needIndex ⟨Nat.le_of_ble_eq_true rfl, Nat.le_of_ble_eq_true rfl⟩ rfl (Nat.le_of_ble_eq_true rfl) dX3_fogger_8 ⟨Nat.le_of_ble_eq_true rfl, Nat.le_of_ble_eq_true rfl⟩) ?_
  refine v_aload_n C 0 dX3_fogger_11 rfl ?_
  refine v_gX C 0 (by decide) k_426 rfl dX3_fogger_12 ?_
  refine v_iload_n C 1 dX3_fogger_15 rfl ?_
  refine v_iload_n C 2 dX3_fogger_16 rfl ?_
  refine go_I (run_VN C (c_X2_foggerNumber_5 (by decide) hc h12 hin) k_159 k_2 (List.mem_of_getElem? (i := 7) rfl) k_157 ks_3 dd_X2_foggerNumber ⟨Nat.le_of_ble_eq_true rfl, Nat.le_of_ble_eq_true rfl⟩ (rcT (by decide)) rfl (Nat.le_of_ble_eq_true rfl) dX3_fogger_17 ⟨Nat.le_of_ble_eq_true rfl, Nat.le_of_ble_eq_true rfl⟩) ?_
  exact v_iret C dX3_fogger_20 rfl rfl
set_option maxHeartbeats 4000000 in
set_option maxRecDepth 100000 in
theorem c_X3_count_0 {l : Launch} {P : L5} {D : va_G} {N F T : Nat → Nat → Int32} {K : Nat → Int32} {A : Nat → Nat → Int32} {w : Int64} {c : Nat} (hc : T 0 1 = nI c) (h12 : c ≤ 12) : CtI l yX3_count cX3_count 2 .int 6 0 0 P D (nW P) (nW P) False (cw P N F T K A w) (cw P N F T K A w) [.ref (rX P), .int 0] (totN N F T 0 c 0) := by
  refine mk_Met pl_X3 [(0, .ref (rX P)), (1, .int 0)] rfl (Nat.le_of_ble_eq_true rfl) ?_
  intro pg en sg mg ag bg mt cd C
  refine v_iload_n C 1 dX3_count_0 rfl ?_
  refine v_bipush (v := 11) C dX3_count_1 rfl ?_
  refine go_V (run_S C (c_X3_needIndex (by decide) (by decide)) k_23 k_1 k_21 k_22 dd_X3_needIndex ⟨Nat.le_of_ble_eq_true rfl, Nat.le_of_ble_eq_true rfl⟩ rfl (Nat.le_of_ble_eq_true rfl) dX3_count_3 ⟨Nat.le_of_ble_eq_true rfl, Nat.le_of_ble_eq_true rfl⟩) ?_
  refine v_aload_n C 0 dX3_count_6 rfl ?_
  refine v_gX C 0 (by decide) k_426 rfl dX3_count_7 ?_
  refine v_iload_n C 1 dX3_count_10 rfl ?_
  refine go_I (run_VN C (c_X2_total_0 (by decide) hc h12) k_171 k_2 (List.mem_of_getElem? (i := 4) rfl) k_170 ks_5 dd_X2_total ⟨Nat.le_of_ble_eq_true rfl, Nat.le_of_ble_eq_true rfl⟩ (rcT (by decide)) rfl (Nat.le_of_ble_eq_true rfl) dX3_count_11 ⟨Nat.le_of_ble_eq_true rfl, Nat.le_of_ble_eq_true rfl⟩) ?_
  exact v_iret C dX3_count_14 rfl rfl
set_option maxHeartbeats 4000000 in
set_option maxRecDepth 100000 in
theorem c_X3_count_1 {l : Launch} {P : L5} {D : va_G} {N F T : Nat → Nat → Int32} {K : Nat → Int32} {A : Nat → Nat → Int32} {w : Int64} {c : Nat} (hc : T 0 1 = nI c) (h12 : c ≤ 12) : CtI l yX3_count cX3_count 2 .int 6 0 0 P D (nW P) (nW P) False (cw P N F T K A w) (cw P N F T K A w) [.ref (rX P), .int 1] (totN N F T 0 c 1) := by
  refine mk_Met pl_X3 [(0, .ref (rX P)), (1, .int 1)] rfl (Nat.le_of_ble_eq_true rfl) ?_
  intro pg en sg mg ag bg mt cd C
  refine v_iload_n C 1 dX3_count_0 rfl ?_
  refine v_bipush (v := 11) C dX3_count_1 rfl ?_
  refine go_V (run_S C (c_X3_needIndex (by decide) (by decide)) k_23 k_1 k_21 k_22 dd_X3_needIndex ⟨Nat.le_of_ble_eq_true rfl, Nat.le_of_ble_eq_true rfl⟩ rfl (Nat.le_of_ble_eq_true rfl) dX3_count_3 ⟨Nat.le_of_ble_eq_true rfl, Nat.le_of_ble_eq_true rfl⟩) ?_
  refine v_aload_n C 0 dX3_count_6 rfl ?_
  refine v_gX C 0 (by decide) k_426 rfl dX3_count_7 ?_
  refine v_iload_n C 1 dX3_count_10 rfl ?_
  refine go_I (run_VN C (c_X2_total_1 (by decide) hc h12) k_171 k_2 (List.mem_of_getElem? (i := 4) rfl) k_170 ks_5 dd_X2_total ⟨Nat.le_of_ble_eq_true rfl, Nat.le_of_ble_eq_true rfl⟩ (rcT (by decide)) rfl (Nat.le_of_ble_eq_true rfl) dX3_count_11 ⟨Nat.le_of_ble_eq_true rfl, Nat.le_of_ble_eq_true rfl⟩) ?_
  exact v_iret C dX3_count_14 rfl rfl
set_option maxHeartbeats 4000000 in
set_option maxRecDepth 100000 in
theorem c_X3_count_2 {l : Launch} {P : L5} {D : va_G} {N F T : Nat → Nat → Int32} {K : Nat → Int32} {A : Nat → Nat → Int32} {w : Int64} {c : Nat} (hc : T 0 1 = nI c) (h12 : c ≤ 12) : CtI l yX3_count cX3_count 2 .int 6 0 0 P D (nW P) (nW P) False (cw P N F T K A w) (cw P N F T K A w) [.ref (rX P), .int 2] (totN N F T 0 c 2) := by
  refine mk_Met pl_X3 [(0, .ref (rX P)), (1, .int 2)] rfl (Nat.le_of_ble_eq_true rfl) ?_
  intro pg en sg mg ag bg mt cd C
  refine v_iload_n C 1 dX3_count_0 rfl ?_
  refine v_bipush (v := 11) C dX3_count_1 rfl ?_
  refine go_V (run_S C (c_X3_needIndex (by decide) (by decide)) k_23 k_1 k_21 k_22 dd_X3_needIndex ⟨Nat.le_of_ble_eq_true rfl, Nat.le_of_ble_eq_true rfl⟩ rfl (Nat.le_of_ble_eq_true rfl) dX3_count_3 ⟨Nat.le_of_ble_eq_true rfl, Nat.le_of_ble_eq_true rfl⟩) ?_
  refine v_aload_n C 0 dX3_count_6 rfl ?_
  refine v_gX C 0 (by decide) k_426 rfl dX3_count_7 ?_
  refine v_iload_n C 1 dX3_count_10 rfl ?_
  refine go_I (run_VN C (c_X2_total_2 (by decide) hc h12) k_171 k_2 (List.mem_of_getElem? (i := 4) rfl) k_170 ks_5 dd_X2_total ⟨Nat.le_of_ble_eq_true rfl, Nat.le_of_ble_eq_true rfl⟩ (rcT (by decide)) rfl (Nat.le_of_ble_eq_true rfl) dX3_count_11 ⟨Nat.le_of_ble_eq_true rfl, Nat.le_of_ble_eq_true rfl⟩) ?_
  exact v_iret C dX3_count_14 rfl rfl
set_option maxHeartbeats 4000000 in
set_option maxRecDepth 100000 in
theorem c_X3_count_3 {l : Launch} {P : L5} {D : va_G} {N F T : Nat → Nat → Int32} {K : Nat → Int32} {A : Nat → Nat → Int32} {w : Int64} {c : Nat} (hc : T 0 1 = nI c) (h12 : c ≤ 12) : CtI l yX3_count cX3_count 2 .int 6 0 0 P D (nW P) (nW P) False (cw P N F T K A w) (cw P N F T K A w) [.ref (rX P), .int 3] (totN N F T 0 c 3) := by
  refine mk_Met pl_X3 [(0, .ref (rX P)), (1, .int 3)] rfl (Nat.le_of_ble_eq_true rfl) ?_
  intro pg en sg mg ag bg mt cd C
  refine v_iload_n C 1 dX3_count_0 rfl ?_
  refine v_bipush (v := 11) C dX3_count_1 rfl ?_
  refine go_V (run_S C (c_X3_needIndex (by decide) (by decide)) k_23 k_1 k_21 k_22 dd_X3_needIndex ⟨Nat.le_of_ble_eq_true rfl, Nat.le_of_ble_eq_true rfl⟩ rfl (Nat.le_of_ble_eq_true rfl) dX3_count_3 ⟨Nat.le_of_ble_eq_true rfl, Nat.le_of_ble_eq_true rfl⟩) ?_
  refine v_aload_n C 0 dX3_count_6 rfl ?_
  refine v_gX C 0 (by decide) k_426 rfl dX3_count_7 ?_
  refine v_iload_n C 1 dX3_count_10 rfl ?_
  refine go_I (run_VN C (c_X2_total_3 (by decide) hc h12) k_171 k_2 (List.mem_of_getElem? (i := 4) rfl) k_170 ks_5 dd_X2_total ⟨Nat.le_of_ble_eq_true rfl, Nat.le_of_ble_eq_true rfl⟩ (rcT (by decide)) rfl (Nat.le_of_ble_eq_true rfl) dX3_count_11 ⟨Nat.le_of_ble_eq_true rfl, Nat.le_of_ble_eq_true rfl⟩) ?_
  exact v_iret C dX3_count_14 rfl rfl
set_option maxHeartbeats 4000000 in
set_option maxRecDepth 100000 in
theorem c_X3_count_4 {l : Launch} {P : L5} {D : va_G} {N F T : Nat → Nat → Int32} {K : Nat → Int32} {A : Nat → Nat → Int32} {w : Int64} {c : Nat} (hc : T 0 1 = nI c) (h12 : c ≤ 12) : CtI l yX3_count cX3_count 2 .int 6 0 0 P D (nW P) (nW P) False (cw P N F T K A w) (cw P N F T K A w) [.ref (rX P), .int 4] (totN N F T 0 c 4) := by
  refine mk_Met pl_X3 [(0, .ref (rX P)), (1, .int 4)] rfl (Nat.le_of_ble_eq_true rfl) ?_
  intro pg en sg mg ag bg mt cd C
  refine v_iload_n C 1 dX3_count_0 rfl ?_
  refine v_bipush (v := 11) C dX3_count_1 rfl ?_
  refine go_V (run_S C (c_X3_needIndex (by decide) (by decide)) k_23 k_1 k_21 k_22 dd_X3_needIndex ⟨Nat.le_of_ble_eq_true rfl, Nat.le_of_ble_eq_true rfl⟩ rfl (Nat.le_of_ble_eq_true rfl) dX3_count_3 ⟨Nat.le_of_ble_eq_true rfl, Nat.le_of_ble_eq_true rfl⟩) ?_
  refine v_aload_n C 0 dX3_count_6 rfl ?_
  refine v_gX C 0 (by decide) k_426 rfl dX3_count_7 ?_
  refine v_iload_n C 1 dX3_count_10 rfl ?_
  refine go_I (run_VN C (c_X2_total_4 (by decide) hc h12) k_171 k_2 (List.mem_of_getElem? (i := 4) rfl) k_170 ks_5 dd_X2_total ⟨Nat.le_of_ble_eq_true rfl, Nat.le_of_ble_eq_true rfl⟩ (rcT (by decide)) rfl (Nat.le_of_ble_eq_true rfl) dX3_count_11 ⟨Nat.le_of_ble_eq_true rfl, Nat.le_of_ble_eq_true rfl⟩) ?_
  exact v_iret C dX3_count_14 rfl rfl
set_option maxHeartbeats 4000000 in
set_option maxRecDepth 100000 in
theorem c_X3_count_5 {l : Launch} {P : L5} {D : va_G} {N F T : Nat → Nat → Int32} {K : Nat → Int32} {A : Nat → Nat → Int32} {w : Int64} {c : Nat} (hc : T 0 1 = nI c) (h12 : c ≤ 12) : CtI l yX3_count cX3_count 2 .int 6 0 0 P D (nW P) (nW P) False (cw P N F T K A w) (cw P N F T K A w) [.ref (rX P), .int 5] (totN N F T 0 c 5) := by
  refine mk_Met pl_X3 [(0, .ref (rX P)), (1, .int 5)] rfl (Nat.le_of_ble_eq_true rfl) ?_
  intro pg en sg mg ag bg mt cd C
  refine v_iload_n C 1 dX3_count_0 rfl ?_
  refine v_bipush (v := 11) C dX3_count_1 rfl ?_
  refine go_V (run_S C (c_X3_needIndex (by decide) (by decide)) k_23 k_1 k_21 k_22 dd_X3_needIndex ⟨Nat.le_of_ble_eq_true rfl, Nat.le_of_ble_eq_true rfl⟩ rfl (Nat.le_of_ble_eq_true rfl) dX3_count_3 ⟨Nat.le_of_ble_eq_true rfl, Nat.le_of_ble_eq_true rfl⟩) ?_
  refine v_aload_n C 0 dX3_count_6 rfl ?_
  refine v_gX C 0 (by decide) k_426 rfl dX3_count_7 ?_
  refine v_iload_n C 1 dX3_count_10 rfl ?_
  refine go_I (run_VN C (c_X2_total_5 (by decide) hc h12) k_171 k_2 (List.mem_of_getElem? (i := 4) rfl) k_170 ks_5 dd_X2_total ⟨Nat.le_of_ble_eq_true rfl, Nat.le_of_ble_eq_true rfl⟩ (rcT (by decide)) rfl (Nat.le_of_ble_eq_true rfl) dX3_count_11 ⟨Nat.le_of_ble_eq_true rfl, Nat.le_of_ble_eq_true rfl⟩) ?_
  exact v_iret C dX3_count_14 rfl rfl
set_option maxHeartbeats 4000000 in
set_option maxRecDepth 100000 in
theorem c_X3_count_6 {l : Launch} {P : L5} {D : va_G} {N F T : Nat → Nat → Int32} {K : Nat → Int32} {A : Nat → Nat → Int32} {w : Int64} {c : Nat} (hc : T 0 1 = nI c) (h12 : c ≤ 12) : CtI l yX3_count cX3_count 2 .int 6 0 0 P D (nW P) (nW P) False (cw P N F T K A w) (cw P N F T K A w) [.ref (rX P), .int 6] (totN N F T 0 c 6) := by
  refine mk_Met pl_X3 [(0, .ref (rX P)), (1, .int 6)] rfl (Nat.le_of_ble_eq_true rfl) ?_
  intro pg en sg mg ag bg mt cd C
  refine v_iload_n C 1 dX3_count_0 rfl ?_
  refine v_bipush (v := 11) C dX3_count_1 rfl ?_
  refine go_V (run_S C (c_X3_needIndex (by decide) (by decide)) k_23 k_1 k_21 k_22 dd_X3_needIndex ⟨Nat.le_of_ble_eq_true rfl, Nat.le_of_ble_eq_true rfl⟩ rfl (Nat.le_of_ble_eq_true rfl) dX3_count_3 ⟨Nat.le_of_ble_eq_true rfl, Nat.le_of_ble_eq_true rfl⟩) ?_
  refine v_aload_n C 0 dX3_count_6 rfl ?_
  refine v_gX C 0 (by decide) k_426 rfl dX3_count_7 ?_
  refine v_iload_n C 1 dX3_count_10 rfl ?_
  refine go_I (run_VN C (c_X2_total_6 (by decide) hc h12) k_171 k_2 (List.mem_of_getElem? (i := 4) rfl) k_170 ks_5 dd_X2_total ⟨Nat.le_of_ble_eq_true rfl, Nat.le_of_ble_eq_true rfl⟩ (rcT (by decide)) rfl (Nat.le_of_ble_eq_true rfl) dX3_count_11 ⟨Nat.le_of_ble_eq_true rfl, Nat.le_of_ble_eq_true rfl⟩) ?_
  exact v_iret C dX3_count_14 rfl rfl
set_option maxHeartbeats 4000000 in
set_option maxRecDepth 100000 in
theorem c_X3_count_7 {l : Launch} {P : L5} {D : va_G} {N F T : Nat → Nat → Int32} {K : Nat → Int32} {A : Nat → Nat → Int32} {w : Int64} {c : Nat} (hc : T 0 1 = nI c) (h12 : c ≤ 12) : CtI l yX3_count cX3_count 2 .int 6 0 0 P D (nW P) (nW P) False (cw P N F T K A w) (cw P N F T K A w) [.ref (rX P), .int 7] (totN N F T 0 c 7) := by
  refine mk_Met pl_X3 [(0, .ref (rX P)), (1, .int 7)] rfl (Nat.le_of_ble_eq_true rfl) ?_
  intro pg en sg mg ag bg mt cd C
  refine v_iload_n C 1 dX3_count_0 rfl ?_
  refine v_bipush (v := 11) C dX3_count_1 rfl ?_
  refine go_V (run_S C (c_X3_needIndex (by decide) (by decide)) k_23 k_1 k_21 k_22 dd_X3_needIndex ⟨Nat.le_of_ble_eq_true rfl, Nat.le_of_ble_eq_true rfl⟩ rfl (Nat.le_of_ble_eq_true rfl) dX3_count_3 ⟨Nat.le_of_ble_eq_true rfl, Nat.le_of_ble_eq_true rfl⟩) ?_
  refine v_aload_n C 0 dX3_count_6 rfl ?_
  refine v_gX C 0 (by decide) k_426 rfl dX3_count_7 ?_
  refine v_iload_n C 1 dX3_count_10 rfl ?_
  refine go_I (run_VN C (c_X2_total_7 (by decide) hc h12) k_171 k_2 (List.mem_of_getElem? (i := 4) rfl) k_170 ks_5 dd_X2_total ⟨Nat.le_of_ble_eq_true rfl, Nat.le_of_ble_eq_true rfl⟩ (rcT (by decide)) rfl (Nat.le_of_ble_eq_true rfl) dX3_count_11 ⟨Nat.le_of_ble_eq_true rfl, Nat.le_of_ble_eq_true rfl⟩) ?_
  exact v_iret C dX3_count_14 rfl rfl
set_option maxHeartbeats 4000000 in
set_option maxRecDepth 100000 in
theorem c_X3_count_8 {l : Launch} {P : L5} {D : va_G} {N F T : Nat → Nat → Int32} {K : Nat → Int32} {A : Nat → Nat → Int32} {w : Int64} {c : Nat} (hc : T 0 1 = nI c) (h12 : c ≤ 12) : CtI l yX3_count cX3_count 2 .int 6 0 0 P D (nW P) (nW P) False (cw P N F T K A w) (cw P N F T K A w) [.ref (rX P), .int 8] (totN N F T 0 c 8) := by
  refine mk_Met pl_X3 [(0, .ref (rX P)), (1, .int 8)] rfl (Nat.le_of_ble_eq_true rfl) ?_
  intro pg en sg mg ag bg mt cd C
  refine v_iload_n C 1 dX3_count_0 rfl ?_
  refine v_bipush (v := 11) C dX3_count_1 rfl ?_
  refine go_V (run_S C (c_X3_needIndex (by decide) (by decide)) k_23 k_1 k_21 k_22 dd_X3_needIndex ⟨Nat.le_of_ble_eq_true rfl, Nat.le_of_ble_eq_true rfl⟩ rfl (Nat.le_of_ble_eq_true rfl) dX3_count_3 ⟨Nat.le_of_ble_eq_true rfl, Nat.le_of_ble_eq_true rfl⟩) ?_
  refine v_aload_n C 0 dX3_count_6 rfl ?_
  refine v_gX C 0 (by decide) k_426 rfl dX3_count_7 ?_
  refine v_iload_n C 1 dX3_count_10 rfl ?_
  refine go_I (run_VN C (c_X2_total_8 (by decide) hc h12) k_171 k_2 (List.mem_of_getElem? (i := 4) rfl) k_170 ks_5 dd_X2_total ⟨Nat.le_of_ble_eq_true rfl, Nat.le_of_ble_eq_true rfl⟩ (rcT (by decide)) rfl (Nat.le_of_ble_eq_true rfl) dX3_count_11 ⟨Nat.le_of_ble_eq_true rfl, Nat.le_of_ble_eq_true rfl⟩) ?_
  exact v_iret C dX3_count_14 rfl rfl
set_option maxHeartbeats 4000000 in
set_option maxRecDepth 100000 in
theorem c_X3_count_9 {l : Launch} {P : L5} {D : va_G} {N F T : Nat → Nat → Int32} {K : Nat → Int32} {A : Nat → Nat → Int32} {w : Int64} {c : Nat} (hc : T 0 1 = nI c) (h12 : c ≤ 12) : CtI l yX3_count cX3_count 2 .int 6 0 0 P D (nW P) (nW P) False (cw P N F T K A w) (cw P N F T K A w) [.ref (rX P), .int 9] (totN N F T 0 c 9) := by
  refine mk_Met pl_X3 [(0, .ref (rX P)), (1, .int 9)] rfl (Nat.le_of_ble_eq_true rfl) ?_
  intro pg en sg mg ag bg mt cd C
  refine v_iload_n C 1 dX3_count_0 rfl ?_
  refine v_bipush (v := 11) C dX3_count_1 rfl ?_
  refine go_V (run_S C (c_X3_needIndex (by decide) (by decide)) k_23 k_1 k_21 k_22 dd_X3_needIndex ⟨Nat.le_of_ble_eq_true rfl, Nat.le_of_ble_eq_true rfl⟩ rfl (Nat.le_of_ble_eq_true rfl) dX3_count_3 ⟨Nat.le_of_ble_eq_true rfl, Nat.le_of_ble_eq_true rfl⟩) ?_
  refine v_aload_n C 0 dX3_count_6 rfl ?_
  refine v_gX C 0 (by decide) k_426 rfl dX3_count_7 ?_
  refine v_iload_n C 1 dX3_count_10 rfl ?_
  refine go_I (run_VN C (c_X2_total_9 (by decide) hc h12) k_171 k_2 (List.mem_of_getElem? (i := 4) rfl) k_170 ks_5 dd_X2_total ⟨Nat.le_of_ble_eq_true rfl, Nat.le_of_ble_eq_true rfl⟩ (rcT (by decide)) rfl (Nat.le_of_ble_eq_true rfl) dX3_count_11 ⟨Nat.le_of_ble_eq_true rfl, Nat.le_of_ble_eq_true rfl⟩) ?_
  exact v_iret C dX3_count_14 rfl rfl
set_option maxHeartbeats 4000000 in
set_option maxRecDepth 100000 in
theorem c_X3_count_10 {l : Launch} {P : L5} {D : va_G} {N F T : Nat → Nat → Int32} {K : Nat → Int32} {A : Nat → Nat → Int32} {w : Int64} {c : Nat} (hc : T 0 1 = nI c) (h12 : c ≤ 12) : CtI l yX3_count cX3_count 2 .int 6 0 0 P D (nW P) (nW P) False (cw P N F T K A w) (cw P N F T K A w) [.ref (rX P), .int 10] (totN N F T 0 c 10) := by
  refine mk_Met pl_X3 [(0, .ref (rX P)), (1, .int 10)] rfl (Nat.le_of_ble_eq_true rfl) ?_
  intro pg en sg mg ag bg mt cd C
  refine v_iload_n C 1 dX3_count_0 rfl ?_
  refine v_bipush (v := 11) C dX3_count_1 rfl ?_
  refine go_V (run_S C (c_X3_needIndex (by decide) (by decide)) k_23 k_1 k_21 k_22 dd_X3_needIndex ⟨Nat.le_of_ble_eq_true rfl, Nat.le_of_ble_eq_true rfl⟩ rfl (Nat.le_of_ble_eq_true rfl) dX3_count_3 ⟨Nat.le_of_ble_eq_true rfl, Nat.le_of_ble_eq_true rfl⟩) ?_
  refine v_aload_n C 0 dX3_count_6 rfl ?_
  refine v_gX C 0 (by decide) k_426 rfl dX3_count_7 ?_
  refine v_iload_n C 1 dX3_count_10 rfl ?_
  refine go_I (run_VN C (c_X2_total_10 (by decide) hc h12) k_171 k_2 (List.mem_of_getElem? (i := 4) rfl) k_170 ks_5 dd_X2_total ⟨Nat.le_of_ble_eq_true rfl, Nat.le_of_ble_eq_true rfl⟩ (rcT (by decide)) rfl (Nat.le_of_ble_eq_true rfl) dX3_count_11 ⟨Nat.le_of_ble_eq_true rfl, Nat.le_of_ble_eq_true rfl⟩) ?_
  exact v_iret C dX3_count_14 rfl rfl
set_option maxHeartbeats 4000000 in
set_option maxRecDepth 100000 in
theorem c_X3_pass {l : Launch} {P : L5} {D : va_G} {N F T : Nat → Nat → Int32} {K : Nat → Int32} {A : Nat → Nat → Int32} {w : Int64} {c : Nat} (hc : T 0 1 = nI c) (h12 : c ≤ 12) (hKF : KF N (12 * 0) c) {p : Int32} (h1 : ¬ p < 1) (h2 : p ≤ 240) : CtI l yX3_pass cX3_pass 2 .int 6 0 0 P D (nW P) (nW P) False (cw P N F T K A w) (cw P (goB (fuel p 0) p 0 c 0 N F T 0).1 (goB (fuel p 0) p 0 c 0 N F T 0).2.1 (goB (fuel p 0) p 0 c 0 N F T 0).2.2.1 K A w) [.ref (rX P), .int p] (goB (fuel p 0) p 0 c 0 N F T 0).2.2.2 := by
  refine mk_Met pl_X3 [(0, .ref (rX P)), (1, .int p)] rfl (Nat.le_of_ble_eq_true rfl) ?_
  intro pg en sg mg ag bg mt cd C
  refine v_iload_n C 1 dX3_pass_0 rfl ?_
  refine v_iconst (v := 1) C dX3_pass_1 rfl ?_
  refine v_sipush (v := 240) C dX3_pass_2 rfl ?_
  refine go_V (run_S C (c_X3_needWithin h1 h2) k_96 k_1 k_94 k_95 dd_X3_needWithin ⟨Nat.le_of_ble_eq_true rfl, Nat.le_of_ble_eq_true rfl⟩ rfl (Nat.le_of_ble_eq_true rfl) dX3_pass_5 ⟨Nat.le_of_ble_eq_true rfl, Nat.le_of_ble_eq_true rfl⟩) ?_
  refine v_aload_n C 0 dX3_pass_8 rfl ?_
  refine v_gX C 0 (by decide) k_426 rfl dX3_pass_9 ?_
  refine v_iload_n C 1 dX3_pass_12 rfl ?_
  refine go_I (run_VN C (c_X2_goBy (by decide) hc h12 hKF) k_194 k_2 (List.mem_of_getElem? (i := 10) rfl) k_193 ks_9 dd_X2_goBy ⟨Nat.le_of_ble_eq_true rfl, Nat.le_of_ble_eq_true rfl⟩ (rcT (by decide)) rfl (Nat.le_of_ble_eq_true rfl) dX3_pass_13 ⟨Nat.le_of_ble_eq_true rfl, Nat.le_of_ble_eq_true rfl⟩) ?_
  exact v_iret C dX3_pass_16 rfl rfl
def trialN (N : Nat → Nat → Int32) (j : Nat) : Nat → Nat → Int32 := va_up N 24 (N j)
def whl1 (v : Nat → Int32) : (Nat → Int32) × Int32 := wHl (fuel 1 0) 1 0 v 0
set_option maxHeartbeats 4000000 in
set_option maxRecDepth 100000 in
theorem c_X3_rate {l : Launch} {P : L5} {D : va_G} {N F T : Nat → Nat → Int32} {K : Nat → Int32} {A : Nat → Nat → Int32} {w : Int64} {c : Nat} (hc : T 0 1 = nI c) (h12 : c ≤ 12) {p : Int32} (h1 : ¬ p < 0) (h2 : p < T 0 1) (hk : vp_in (N (12 * 0 + p.toNatClampNeg) 1) 4) : CtI l yX3_rate cX3_rate 2 .int 6 0 0 P D (nW P) (nW P) False (cw P N F T K A w) (cw P (va_up (trialN N (12 * 0 + p.toNatClampNeg)) 24 (whl1 (trialN N (12 * 0 + p.toNatClampNeg) 24)).1) F T K A w) [.ref (rX P), .int p] (whl1 (trialN N (12 * 0 + p.toNatClampNeg) 24)).2 := by
  refine mk_Met pl_X3 [(0, .ref (rX P)), (1, .int p)] rfl (Nat.le_of_ble_eq_true rfl) ?_
  intro pg en sg mg ag bg mt cd C
  obtain ⟨hin, hj⟩ := ixC h1 h2 hc h12
  refine v_aload_n C 0 dX3_rate_0 rfl ?_
  refine v_iload_n C 1 dX3_rate_1 rfl ?_
  refine go_V (run_V C (c_X3_needNailer h1 h2) k_20 k_1 k_16 k_18 ks_0 dd_X3_needNailer ⟨Nat.le_of_ble_eq_true rfl, Nat.le_of_ble_eq_true rfl⟩ rcX rfl (Nat.le_of_ble_eq_true rfl) dX3_rate_2 ⟨Nat.le_of_ble_eq_true rfl, Nat.le_of_ble_eq_true rfl⟩) ?_
  refine v_aload_n C 0 dX3_rate_5 rfl ?_
  refine v_gX C 2 (by decide) k_428 rfl dX3_rate_6 ?_
  refine v_aload_n C 0 dX3_rate_9 rfl ?_
  refine v_gX C 0 (by decide) k_426 rfl dX3_rate_10 ?_
  refine v_gTuN C (by decide) 2 (by decide) (List.mem_of_getElem? (i := 20) rfl) rfl dX3_rate_13 ?_
  refine v_iload_n C 1 dX3_rate_16 rfl ?_
  refine v_aaNk C p.toNatClampNeg (by decide) rfl hin dX3_rate_17 ?_
  refine go_V (run_VN C (u_X1_copyFrom (by decide) (by omega) (by omega)) k_254 k_3 (List.mem_of_getElem? (i := 15) rfl) k_253 ks_20 dd_X1_copyFrom ⟨Nat.le_of_ble_eq_true rfl, Nat.le_of_ble_eq_true rfl⟩ (rcN (by decide)) rfl (Nat.le_of_ble_eq_true rfl) dX3_rate_18 ⟨Nat.le_of_ble_eq_true rfl, Nat.le_of_ble_eq_true rfl⟩) ?_
  refine v_aload_n C 0 dX3_rate_21 rfl ?_
  refine v_gX C 2 (by decide) k_428 rfl dX3_rate_22 ?_
  refine v_iconst (v := 1) C dX3_rate_25 rfl ?_
  refine go_I (run_VN C (u_X1_workHours (by decide) (show vp_in (va_up N 24 (N (12 * 0 + p.toNatClampNeg)) 24 1) 4 by rw [va_up_self]; exact hk)) k_258 k_3 (List.mem_of_getElem? (i := 16) rfl) k_257 ks_21 dd_X1_workHours ⟨Nat.le_of_ble_eq_true rfl, Nat.le_of_ble_eq_true rfl⟩ (rcN (by decide)) rfl (Nat.le_of_ble_eq_true rfl) dX3_rate_26 ⟨Nat.le_of_ble_eq_true rfl, Nat.le_of_ble_eq_true rfl⟩) ?_
  exact v_iret C dX3_rate_29 rfl rfl
set_option maxHeartbeats 4000000 in
set_option maxRecDepth 100000 in
theorem c_X3_foresee_3 {l : Launch} {P : L5} {D : va_G} {N F T : Nat → Nat → Int32} {K : Nat → Int32} {A : Nat → Nat → Int32} {w : Int64} {c : Nat} (hc : T 0 1 = nI c) (h12 : c ≤ 12) (hKF : KF (cpN (c + 1) c (12 * 1) (12 * 0) 0 N) (12 * 1) c) {p : Int32} (h1 : ¬ p < 1) (h2 : p ≤ 240) (hct : (goB (fuel p 0) p 0 c 1 (cpN (c + 1) c (12 * 1) (12 * 0) 0 N) (cp4 F (4 * 1) (4 * 0)) (va_up T 1 (T 0)) 0).2.2.1 1 1 = nI c) : CtI l yX3_foresee cX3_foresee 3 .int 6 0 0 P D (nW P) (nW P) False (cw P N F T K A w) (cw P (goB (fuel p 0) p 0 c 1 (cpN (c + 1) c (12 * 1) (12 * 0) 0 N) (cp4 F (4 * 1) (4 * 0)) (va_up T 1 (T 0)) 0).1 (goB (fuel p 0) p 0 c 1 (cpN (c + 1) c (12 * 1) (12 * 0) 0 N) (cp4 F (4 * 1) (4 * 0)) (va_up T 1 (T 0)) 0).2.1 (goB (fuel p 0) p 0 c 1 (cpN (c + 1) c (12 * 1) (12 * 0) 0 N) (cp4 F (4 * 1) (4 * 0)) (va_up T 1 (T 0)) 0).2.2.1 K A w) [.ref (rX P), .int p, .int 3] (totN (goB (fuel p 0) p 0 c 1 (cpN (c + 1) c (12 * 1) (12 * 0) 0 N) (cp4 F (4 * 1) (4 * 0)) (va_up T 1 (T 0)) 0).1 (goB (fuel p 0) p 0 c 1 (cpN (c + 1) c (12 * 1) (12 * 0) 0 N) (cp4 F (4 * 1) (4 * 0)) (va_up T 1 (T 0)) 0).2.1 (goB (fuel p 0) p 0 c 1 (cpN (c + 1) c (12 * 1) (12 * 0) 0 N) (cp4 F (4 * 1) (4 * 0)) (va_up T 1 (T 0)) 0).2.2.1 1 c 3) := by
  refine mk_Met pl_X3 [(0, .ref (rX P)), (1, .int p), (2, .int 3)] rfl (Nat.le_of_ble_eq_true rfl) ?_
  intro pg en sg mg ag bg mt cd C
  refine v_iload_n C 1 dX3_foresee_0 rfl ?_
  refine v_iconst (v := 1) C dX3_foresee_1 rfl ?_
  refine v_sipush (v := 240) C dX3_foresee_2 rfl ?_
  refine go_V (run_S C (c_X3_needWithin h1 h2) k_96 k_1 k_94 k_95 dd_X3_needWithin ⟨Nat.le_of_ble_eq_true rfl, Nat.le_of_ble_eq_true rfl⟩ rfl (Nat.le_of_ble_eq_true rfl) dX3_foresee_5 ⟨Nat.le_of_ble_eq_true rfl, Nat.le_of_ble_eq_true rfl⟩) ?_
  refine v_iload_n C 2 dX3_foresee_8 rfl ?_
  refine v_iconst (v := 3) C dX3_foresee_9 rfl ?_
  refine v_icmp_lt (tgt := 19) C dX3_foresee_10 (by decide) (fun h9 => absurd h9 (by decide)) (fun _ => ?_)
  refine v_iload_n C 2 dX3_foresee_13 rfl ?_
  refine v_bipush (v := 8) C dX3_foresee_14 rfl ?_
  refine v_icmp_le (tgt := 29) C dX3_foresee_16 (by decide) (fun _ => ?_) (fun h9 => absurd (by decide) h9)
  refine v_aload_n C 0 dX3_foresee_29 rfl ?_
  refine v_gX C 1 (by decide) k_427 rfl dX3_foresee_30 ?_
  refine v_aload_n C 0 dX3_foresee_33 rfl ?_
  refine v_gX C 0 (by decide) k_426 rfl dX3_foresee_34 ?_
  refine go_V (run_VN C (c_X2_copyFrom (by decide) (by decide) (by decide) hc h12) k_268 k_2 (List.mem_of_getElem? (i := 17) rfl) k_267 ks_22 dd_X2_copyFrom ⟨Nat.le_of_ble_eq_true rfl, Nat.le_of_ble_eq_true rfl⟩ (rcT (by decide)) rfl (Nat.le_of_ble_eq_true rfl) dX3_foresee_37 ⟨Nat.le_of_ble_eq_true rfl, Nat.le_of_ble_eq_true rfl⟩) ?_
  refine v_aload_n C 0 dX3_foresee_40 rfl ?_
  refine v_gX C 1 (by decide) k_427 rfl dX3_foresee_41 ?_
  refine v_iload_n C 1 dX3_foresee_44 rfl ?_
  refine go_I (run_VN C (c_X2_goBy (c := c) (by decide) (by rw [va_up_self]; exact hc) h12 hKF) k_194 k_2 (List.mem_of_getElem? (i := 10) rfl) k_193 ks_9 dd_X2_goBy ⟨Nat.le_of_ble_eq_true rfl, Nat.le_of_ble_eq_true rfl⟩ (rcT (by decide)) rfl (Nat.le_of_ble_eq_true rfl) dX3_foresee_45 ⟨Nat.le_of_ble_eq_true rfl, Nat.le_of_ble_eq_true rfl⟩) ?_
  refine v_pop C dX3_foresee_48 rfl ?_
  refine v_aload_n C 0 dX3_foresee_49 rfl ?_
  refine v_gX C 1 (by decide) k_427 rfl dX3_foresee_50 ?_
  refine v_iload_n C 2 dX3_foresee_53 rfl ?_
  refine go_I (run_VN C (c_X2_total_3 (by decide) hct h12) k_171 k_2 (List.mem_of_getElem? (i := 4) rfl) k_170 ks_5 dd_X2_total ⟨Nat.le_of_ble_eq_true rfl, Nat.le_of_ble_eq_true rfl⟩ (rcT (by decide)) rfl (Nat.le_of_ble_eq_true rfl) dX3_foresee_54 ⟨Nat.le_of_ble_eq_true rfl, Nat.le_of_ble_eq_true rfl⟩) ?_
  exact v_iret C dX3_foresee_57 rfl rfl
set_option maxHeartbeats 4000000 in
set_option maxRecDepth 100000 in
theorem c_X3_foresee_4 {l : Launch} {P : L5} {D : va_G} {N F T : Nat → Nat → Int32} {K : Nat → Int32} {A : Nat → Nat → Int32} {w : Int64} {c : Nat} (hc : T 0 1 = nI c) (h12 : c ≤ 12) (hKF : KF (cpN (c + 1) c (12 * 1) (12 * 0) 0 N) (12 * 1) c) {p : Int32} (h1 : ¬ p < 1) (h2 : p ≤ 240) (hct : (goB (fuel p 0) p 0 c 1 (cpN (c + 1) c (12 * 1) (12 * 0) 0 N) (cp4 F (4 * 1) (4 * 0)) (va_up T 1 (T 0)) 0).2.2.1 1 1 = nI c) : CtI l yX3_foresee cX3_foresee 3 .int 6 0 0 P D (nW P) (nW P) False (cw P N F T K A w) (cw P (goB (fuel p 0) p 0 c 1 (cpN (c + 1) c (12 * 1) (12 * 0) 0 N) (cp4 F (4 * 1) (4 * 0)) (va_up T 1 (T 0)) 0).1 (goB (fuel p 0) p 0 c 1 (cpN (c + 1) c (12 * 1) (12 * 0) 0 N) (cp4 F (4 * 1) (4 * 0)) (va_up T 1 (T 0)) 0).2.1 (goB (fuel p 0) p 0 c 1 (cpN (c + 1) c (12 * 1) (12 * 0) 0 N) (cp4 F (4 * 1) (4 * 0)) (va_up T 1 (T 0)) 0).2.2.1 K A w) [.ref (rX P), .int p, .int 4] (totN (goB (fuel p 0) p 0 c 1 (cpN (c + 1) c (12 * 1) (12 * 0) 0 N) (cp4 F (4 * 1) (4 * 0)) (va_up T 1 (T 0)) 0).1 (goB (fuel p 0) p 0 c 1 (cpN (c + 1) c (12 * 1) (12 * 0) 0 N) (cp4 F (4 * 1) (4 * 0)) (va_up T 1 (T 0)) 0).2.1 (goB (fuel p 0) p 0 c 1 (cpN (c + 1) c (12 * 1) (12 * 0) 0 N) (cp4 F (4 * 1) (4 * 0)) (va_up T 1 (T 0)) 0).2.2.1 1 c 4) := by
  refine mk_Met pl_X3 [(0, .ref (rX P)), (1, .int p), (2, .int 4)] rfl (Nat.le_of_ble_eq_true rfl) ?_
  intro pg en sg mg ag bg mt cd C
  refine v_iload_n C 1 dX3_foresee_0 rfl ?_
  refine v_iconst (v := 1) C dX3_foresee_1 rfl ?_
  refine v_sipush (v := 240) C dX3_foresee_2 rfl ?_
  refine go_V (run_S C (c_X3_needWithin h1 h2) k_96 k_1 k_94 k_95 dd_X3_needWithin ⟨Nat.le_of_ble_eq_true rfl, Nat.le_of_ble_eq_true rfl⟩ rfl (Nat.le_of_ble_eq_true rfl) dX3_foresee_5 ⟨Nat.le_of_ble_eq_true rfl, Nat.le_of_ble_eq_true rfl⟩) ?_
  refine v_iload_n C 2 dX3_foresee_8 rfl ?_
  refine v_iconst (v := 3) C dX3_foresee_9 rfl ?_
  refine v_icmp_lt (tgt := 19) C dX3_foresee_10 (by decide) (fun h9 => absurd h9 (by decide)) (fun _ => ?_)
  refine v_iload_n C 2 dX3_foresee_13 rfl ?_
  refine v_bipush (v := 8) C dX3_foresee_14 rfl ?_
  refine v_icmp_le (tgt := 29) C dX3_foresee_16 (by decide) (fun _ => ?_) (fun h9 => absurd (by decide) h9)
  refine v_aload_n C 0 dX3_foresee_29 rfl ?_
  refine v_gX C 1 (by decide) k_427 rfl dX3_foresee_30 ?_
  refine v_aload_n C 0 dX3_foresee_33 rfl ?_
  refine v_gX C 0 (by decide) k_426 rfl dX3_foresee_34 ?_
  refine go_V (run_VN C (c_X2_copyFrom (by decide) (by decide) (by decide) hc h12) k_268 k_2 (List.mem_of_getElem? (i := 17) rfl) k_267 ks_22 dd_X2_copyFrom ⟨Nat.le_of_ble_eq_true rfl, Nat.le_of_ble_eq_true rfl⟩ (rcT (by decide)) rfl (Nat.le_of_ble_eq_true rfl) dX3_foresee_37 ⟨Nat.le_of_ble_eq_true rfl, Nat.le_of_ble_eq_true rfl⟩) ?_
  refine v_aload_n C 0 dX3_foresee_40 rfl ?_
  refine v_gX C 1 (by decide) k_427 rfl dX3_foresee_41 ?_
  refine v_iload_n C 1 dX3_foresee_44 rfl ?_
  refine go_I (run_VN C (c_X2_goBy (c := c) (by decide) (by rw [va_up_self]; exact hc) h12 hKF) k_194 k_2 (List.mem_of_getElem? (i := 10) rfl) k_193 ks_9 dd_X2_goBy ⟨Nat.le_of_ble_eq_true rfl, Nat.le_of_ble_eq_true rfl⟩ (rcT (by decide)) rfl (Nat.le_of_ble_eq_true rfl) dX3_foresee_45 ⟨Nat.le_of_ble_eq_true rfl, Nat.le_of_ble_eq_true rfl⟩) ?_
  refine v_pop C dX3_foresee_48 rfl ?_
  refine v_aload_n C 0 dX3_foresee_49 rfl ?_
  refine v_gX C 1 (by decide) k_427 rfl dX3_foresee_50 ?_
  refine v_iload_n C 2 dX3_foresee_53 rfl ?_
  refine go_I (run_VN C (c_X2_total_4 (by decide) hct h12) k_171 k_2 (List.mem_of_getElem? (i := 4) rfl) k_170 ks_5 dd_X2_total ⟨Nat.le_of_ble_eq_true rfl, Nat.le_of_ble_eq_true rfl⟩ (rcT (by decide)) rfl (Nat.le_of_ble_eq_true rfl) dX3_foresee_54 ⟨Nat.le_of_ble_eq_true rfl, Nat.le_of_ble_eq_true rfl⟩) ?_
  exact v_iret C dX3_foresee_57 rfl rfl
set_option maxHeartbeats 4000000 in
set_option maxRecDepth 100000 in
theorem c_X3_foresee_5 {l : Launch} {P : L5} {D : va_G} {N F T : Nat → Nat → Int32} {K : Nat → Int32} {A : Nat → Nat → Int32} {w : Int64} {c : Nat} (hc : T 0 1 = nI c) (h12 : c ≤ 12) (hKF : KF (cpN (c + 1) c (12 * 1) (12 * 0) 0 N) (12 * 1) c) {p : Int32} (h1 : ¬ p < 1) (h2 : p ≤ 240) (hct : (goB (fuel p 0) p 0 c 1 (cpN (c + 1) c (12 * 1) (12 * 0) 0 N) (cp4 F (4 * 1) (4 * 0)) (va_up T 1 (T 0)) 0).2.2.1 1 1 = nI c) : CtI l yX3_foresee cX3_foresee 3 .int 6 0 0 P D (nW P) (nW P) False (cw P N F T K A w) (cw P (goB (fuel p 0) p 0 c 1 (cpN (c + 1) c (12 * 1) (12 * 0) 0 N) (cp4 F (4 * 1) (4 * 0)) (va_up T 1 (T 0)) 0).1 (goB (fuel p 0) p 0 c 1 (cpN (c + 1) c (12 * 1) (12 * 0) 0 N) (cp4 F (4 * 1) (4 * 0)) (va_up T 1 (T 0)) 0).2.1 (goB (fuel p 0) p 0 c 1 (cpN (c + 1) c (12 * 1) (12 * 0) 0 N) (cp4 F (4 * 1) (4 * 0)) (va_up T 1 (T 0)) 0).2.2.1 K A w) [.ref (rX P), .int p, .int 5] (totN (goB (fuel p 0) p 0 c 1 (cpN (c + 1) c (12 * 1) (12 * 0) 0 N) (cp4 F (4 * 1) (4 * 0)) (va_up T 1 (T 0)) 0).1 (goB (fuel p 0) p 0 c 1 (cpN (c + 1) c (12 * 1) (12 * 0) 0 N) (cp4 F (4 * 1) (4 * 0)) (va_up T 1 (T 0)) 0).2.1 (goB (fuel p 0) p 0 c 1 (cpN (c + 1) c (12 * 1) (12 * 0) 0 N) (cp4 F (4 * 1) (4 * 0)) (va_up T 1 (T 0)) 0).2.2.1 1 c 5) := by
  refine mk_Met pl_X3 [(0, .ref (rX P)), (1, .int p), (2, .int 5)] rfl (Nat.le_of_ble_eq_true rfl) ?_
  intro pg en sg mg ag bg mt cd C
  refine v_iload_n C 1 dX3_foresee_0 rfl ?_
  refine v_iconst (v := 1) C dX3_foresee_1 rfl ?_
  refine v_sipush (v := 240) C dX3_foresee_2 rfl ?_
  refine go_V (run_S C (c_X3_needWithin h1 h2) k_96 k_1 k_94 k_95 dd_X3_needWithin ⟨Nat.le_of_ble_eq_true rfl, Nat.le_of_ble_eq_true rfl⟩ rfl (Nat.le_of_ble_eq_true rfl) dX3_foresee_5 ⟨Nat.le_of_ble_eq_true rfl, Nat.le_of_ble_eq_true rfl⟩) ?_
  refine v_iload_n C 2 dX3_foresee_8 rfl ?_
  refine v_iconst (v := 3) C dX3_foresee_9 rfl ?_
  refine v_icmp_lt (tgt := 19) C dX3_foresee_10 (by decide) (fun h9 => absurd h9 (by decide)) (fun _ => ?_)
  refine v_iload_n C 2 dX3_foresee_13 rfl ?_
  refine v_bipush (v := 8) C dX3_foresee_14 rfl ?_
  refine v_icmp_le (tgt := 29) C dX3_foresee_16 (by decide) (fun _ => ?_) (fun h9 => absurd (by decide) h9)
  refine v_aload_n C 0 dX3_foresee_29 rfl ?_
  refine v_gX C 1 (by decide) k_427 rfl dX3_foresee_30 ?_
  refine v_aload_n C 0 dX3_foresee_33 rfl ?_
  refine v_gX C 0 (by decide) k_426 rfl dX3_foresee_34 ?_
  refine go_V (run_VN C (c_X2_copyFrom (by decide) (by decide) (by decide) hc h12) k_268 k_2 (List.mem_of_getElem? (i := 17) rfl) k_267 ks_22 dd_X2_copyFrom ⟨Nat.le_of_ble_eq_true rfl, Nat.le_of_ble_eq_true rfl⟩ (rcT (by decide)) rfl (Nat.le_of_ble_eq_true rfl) dX3_foresee_37 ⟨Nat.le_of_ble_eq_true rfl, Nat.le_of_ble_eq_true rfl⟩) ?_
  refine v_aload_n C 0 dX3_foresee_40 rfl ?_
  refine v_gX C 1 (by decide) k_427 rfl dX3_foresee_41 ?_
  refine v_iload_n C 1 dX3_foresee_44 rfl ?_
  refine go_I (run_VN C (c_X2_goBy (c := c) (by decide) (by rw [va_up_self]; exact hc) h12 hKF) k_194 k_2 (List.mem_of_getElem? (i := 10) rfl) k_193 ks_9 dd_X2_goBy ⟨Nat.le_of_ble_eq_true rfl, Nat.le_of_ble_eq_true rfl⟩ (rcT (by decide)) rfl (Nat.le_of_ble_eq_true rfl) dX3_foresee_45 ⟨Nat.le_of_ble_eq_true rfl, Nat.le_of_ble_eq_true rfl⟩) ?_
  refine v_pop C dX3_foresee_48 rfl ?_
  refine v_aload_n C 0 dX3_foresee_49 rfl ?_
  refine v_gX C 1 (by decide) k_427 rfl dX3_foresee_50 ?_
  refine v_iload_n C 2 dX3_foresee_53 rfl ?_
  refine go_I (run_VN C (c_X2_total_5 (by decide) hct h12) k_171 k_2 (List.mem_of_getElem? (i := 4) rfl) k_170 ks_5 dd_X2_total ⟨Nat.le_of_ble_eq_true rfl, Nat.le_of_ble_eq_true rfl⟩ (rcT (by decide)) rfl (Nat.le_of_ble_eq_true rfl) dX3_foresee_54 ⟨Nat.le_of_ble_eq_true rfl, Nat.le_of_ble_eq_true rfl⟩) ?_
  exact v_iret C dX3_foresee_57 rfl rfl
set_option maxHeartbeats 4000000 in
set_option maxRecDepth 100000 in
theorem c_X3_foresee_6 {l : Launch} {P : L5} {D : va_G} {N F T : Nat → Nat → Int32} {K : Nat → Int32} {A : Nat → Nat → Int32} {w : Int64} {c : Nat} (hc : T 0 1 = nI c) (h12 : c ≤ 12) (hKF : KF (cpN (c + 1) c (12 * 1) (12 * 0) 0 N) (12 * 1) c) {p : Int32} (h1 : ¬ p < 1) (h2 : p ≤ 240) (hct : (goB (fuel p 0) p 0 c 1 (cpN (c + 1) c (12 * 1) (12 * 0) 0 N) (cp4 F (4 * 1) (4 * 0)) (va_up T 1 (T 0)) 0).2.2.1 1 1 = nI c) : CtI l yX3_foresee cX3_foresee 3 .int 6 0 0 P D (nW P) (nW P) False (cw P N F T K A w) (cw P (goB (fuel p 0) p 0 c 1 (cpN (c + 1) c (12 * 1) (12 * 0) 0 N) (cp4 F (4 * 1) (4 * 0)) (va_up T 1 (T 0)) 0).1 (goB (fuel p 0) p 0 c 1 (cpN (c + 1) c (12 * 1) (12 * 0) 0 N) (cp4 F (4 * 1) (4 * 0)) (va_up T 1 (T 0)) 0).2.1 (goB (fuel p 0) p 0 c 1 (cpN (c + 1) c (12 * 1) (12 * 0) 0 N) (cp4 F (4 * 1) (4 * 0)) (va_up T 1 (T 0)) 0).2.2.1 K A w) [.ref (rX P), .int p, .int 6] (totN (goB (fuel p 0) p 0 c 1 (cpN (c + 1) c (12 * 1) (12 * 0) 0 N) (cp4 F (4 * 1) (4 * 0)) (va_up T 1 (T 0)) 0).1 (goB (fuel p 0) p 0 c 1 (cpN (c + 1) c (12 * 1) (12 * 0) 0 N) (cp4 F (4 * 1) (4 * 0)) (va_up T 1 (T 0)) 0).2.1 (goB (fuel p 0) p 0 c 1 (cpN (c + 1) c (12 * 1) (12 * 0) 0 N) (cp4 F (4 * 1) (4 * 0)) (va_up T 1 (T 0)) 0).2.2.1 1 c 6) := by
  refine mk_Met pl_X3 [(0, .ref (rX P)), (1, .int p), (2, .int 6)] rfl (Nat.le_of_ble_eq_true rfl) ?_
  intro pg en sg mg ag bg mt cd C
  refine v_iload_n C 1 dX3_foresee_0 rfl ?_
  refine v_iconst (v := 1) C dX3_foresee_1 rfl ?_
  refine v_sipush (v := 240) C dX3_foresee_2 rfl ?_
  refine go_V (run_S C (c_X3_needWithin h1 h2) k_96 k_1 k_94 k_95 dd_X3_needWithin ⟨Nat.le_of_ble_eq_true rfl, Nat.le_of_ble_eq_true rfl⟩ rfl (Nat.le_of_ble_eq_true rfl) dX3_foresee_5 ⟨Nat.le_of_ble_eq_true rfl, Nat.le_of_ble_eq_true rfl⟩) ?_
  refine v_iload_n C 2 dX3_foresee_8 rfl ?_
  refine v_iconst (v := 3) C dX3_foresee_9 rfl ?_
  refine v_icmp_lt (tgt := 19) C dX3_foresee_10 (by decide) (fun h9 => absurd h9 (by decide)) (fun _ => ?_)
  refine v_iload_n C 2 dX3_foresee_13 rfl ?_
  refine v_bipush (v := 8) C dX3_foresee_14 rfl ?_
  refine v_icmp_le (tgt := 29) C dX3_foresee_16 (by decide) (fun _ => ?_) (fun h9 => absurd (by decide) h9)
  refine v_aload_n C 0 dX3_foresee_29 rfl ?_
  refine v_gX C 1 (by decide) k_427 rfl dX3_foresee_30 ?_
  refine v_aload_n C 0 dX3_foresee_33 rfl ?_
  refine v_gX C 0 (by decide) k_426 rfl dX3_foresee_34 ?_
  refine go_V (run_VN C (c_X2_copyFrom (by decide) (by decide) (by decide) hc h12) k_268 k_2 (List.mem_of_getElem? (i := 17) rfl) k_267 ks_22 dd_X2_copyFrom ⟨Nat.le_of_ble_eq_true rfl, Nat.le_of_ble_eq_true rfl⟩ (rcT (by decide)) rfl (Nat.le_of_ble_eq_true rfl) dX3_foresee_37 ⟨Nat.le_of_ble_eq_true rfl, Nat.le_of_ble_eq_true rfl⟩) ?_
  refine v_aload_n C 0 dX3_foresee_40 rfl ?_
  refine v_gX C 1 (by decide) k_427 rfl dX3_foresee_41 ?_
  refine v_iload_n C 1 dX3_foresee_44 rfl ?_
  refine go_I (run_VN C (c_X2_goBy (c := c) (by decide) (by rw [va_up_self]; exact hc) h12 hKF) k_194 k_2 (List.mem_of_getElem? (i := 10) rfl) k_193 ks_9 dd_X2_goBy ⟨Nat.le_of_ble_eq_true rfl, Nat.le_of_ble_eq_true rfl⟩ (rcT (by decide)) rfl (Nat.le_of_ble_eq_true rfl) dX3_foresee_45 ⟨Nat.le_of_ble_eq_true rfl, Nat.le_of_ble_eq_true rfl⟩) ?_
  refine v_pop C dX3_foresee_48 rfl ?_
  refine v_aload_n C 0 dX3_foresee_49 rfl ?_
  refine v_gX C 1 (by decide) k_427 rfl dX3_foresee_50 ?_
  refine v_iload_n C 2 dX3_foresee_53 rfl ?_
  refine go_I (run_VN C (c_X2_total_6 (by decide) hct h12) k_171 k_2 (List.mem_of_getElem? (i := 4) rfl) k_170 ks_5 dd_X2_total ⟨Nat.le_of_ble_eq_true rfl, Nat.le_of_ble_eq_true rfl⟩ (rcT (by decide)) rfl (Nat.le_of_ble_eq_true rfl) dX3_foresee_54 ⟨Nat.le_of_ble_eq_true rfl, Nat.le_of_ble_eq_true rfl⟩) ?_
  exact v_iret C dX3_foresee_57 rfl rfl
set_option maxHeartbeats 4000000 in
set_option maxRecDepth 100000 in
theorem c_X3_foresee_7 {l : Launch} {P : L5} {D : va_G} {N F T : Nat → Nat → Int32} {K : Nat → Int32} {A : Nat → Nat → Int32} {w : Int64} {c : Nat} (hc : T 0 1 = nI c) (h12 : c ≤ 12) (hKF : KF (cpN (c + 1) c (12 * 1) (12 * 0) 0 N) (12 * 1) c) {p : Int32} (h1 : ¬ p < 1) (h2 : p ≤ 240) (hct : (goB (fuel p 0) p 0 c 1 (cpN (c + 1) c (12 * 1) (12 * 0) 0 N) (cp4 F (4 * 1) (4 * 0)) (va_up T 1 (T 0)) 0).2.2.1 1 1 = nI c) : CtI l yX3_foresee cX3_foresee 3 .int 6 0 0 P D (nW P) (nW P) False (cw P N F T K A w) (cw P (goB (fuel p 0) p 0 c 1 (cpN (c + 1) c (12 * 1) (12 * 0) 0 N) (cp4 F (4 * 1) (4 * 0)) (va_up T 1 (T 0)) 0).1 (goB (fuel p 0) p 0 c 1 (cpN (c + 1) c (12 * 1) (12 * 0) 0 N) (cp4 F (4 * 1) (4 * 0)) (va_up T 1 (T 0)) 0).2.1 (goB (fuel p 0) p 0 c 1 (cpN (c + 1) c (12 * 1) (12 * 0) 0 N) (cp4 F (4 * 1) (4 * 0)) (va_up T 1 (T 0)) 0).2.2.1 K A w) [.ref (rX P), .int p, .int 7] (totN (goB (fuel p 0) p 0 c 1 (cpN (c + 1) c (12 * 1) (12 * 0) 0 N) (cp4 F (4 * 1) (4 * 0)) (va_up T 1 (T 0)) 0).1 (goB (fuel p 0) p 0 c 1 (cpN (c + 1) c (12 * 1) (12 * 0) 0 N) (cp4 F (4 * 1) (4 * 0)) (va_up T 1 (T 0)) 0).2.1 (goB (fuel p 0) p 0 c 1 (cpN (c + 1) c (12 * 1) (12 * 0) 0 N) (cp4 F (4 * 1) (4 * 0)) (va_up T 1 (T 0)) 0).2.2.1 1 c 7) := by
  refine mk_Met pl_X3 [(0, .ref (rX P)), (1, .int p), (2, .int 7)] rfl (Nat.le_of_ble_eq_true rfl) ?_
  intro pg en sg mg ag bg mt cd C
  refine v_iload_n C 1 dX3_foresee_0 rfl ?_
  refine v_iconst (v := 1) C dX3_foresee_1 rfl ?_
  refine v_sipush (v := 240) C dX3_foresee_2 rfl ?_
  refine go_V (run_S C (c_X3_needWithin h1 h2) k_96 k_1 k_94 k_95 dd_X3_needWithin ⟨Nat.le_of_ble_eq_true rfl, Nat.le_of_ble_eq_true rfl⟩ rfl (Nat.le_of_ble_eq_true rfl) dX3_foresee_5 ⟨Nat.le_of_ble_eq_true rfl, Nat.le_of_ble_eq_true rfl⟩) ?_
  refine v_iload_n C 2 dX3_foresee_8 rfl ?_
  refine v_iconst (v := 3) C dX3_foresee_9 rfl ?_
  refine v_icmp_lt (tgt := 19) C dX3_foresee_10 (by decide) (fun h9 => absurd h9 (by decide)) (fun _ => ?_)
  refine v_iload_n C 2 dX3_foresee_13 rfl ?_
  refine v_bipush (v := 8) C dX3_foresee_14 rfl ?_
  refine v_icmp_le (tgt := 29) C dX3_foresee_16 (by decide) (fun _ => ?_) (fun h9 => absurd (by decide) h9)
  refine v_aload_n C 0 dX3_foresee_29 rfl ?_
  refine v_gX C 1 (by decide) k_427 rfl dX3_foresee_30 ?_
  refine v_aload_n C 0 dX3_foresee_33 rfl ?_
  refine v_gX C 0 (by decide) k_426 rfl dX3_foresee_34 ?_
  refine go_V (run_VN C (c_X2_copyFrom (by decide) (by decide) (by decide) hc h12) k_268 k_2 (List.mem_of_getElem? (i := 17) rfl) k_267 ks_22 dd_X2_copyFrom ⟨Nat.le_of_ble_eq_true rfl, Nat.le_of_ble_eq_true rfl⟩ (rcT (by decide)) rfl (Nat.le_of_ble_eq_true rfl) dX3_foresee_37 ⟨Nat.le_of_ble_eq_true rfl, Nat.le_of_ble_eq_true rfl⟩) ?_
  refine v_aload_n C 0 dX3_foresee_40 rfl ?_
  refine v_gX C 1 (by decide) k_427 rfl dX3_foresee_41 ?_
  refine v_iload_n C 1 dX3_foresee_44 rfl ?_
  refine go_I (run_VN C (c_X2_goBy (c := c) (by decide) (by rw [va_up_self]; exact hc) h12 hKF) k_194 k_2 (List.mem_of_getElem? (i := 10) rfl) k_193 ks_9 dd_X2_goBy ⟨Nat.le_of_ble_eq_true rfl, Nat.le_of_ble_eq_true rfl⟩ (rcT (by decide)) rfl (Nat.le_of_ble_eq_true rfl) dX3_foresee_45 ⟨Nat.le_of_ble_eq_true rfl, Nat.le_of_ble_eq_true rfl⟩) ?_
  refine v_pop C dX3_foresee_48 rfl ?_
  refine v_aload_n C 0 dX3_foresee_49 rfl ?_
  refine v_gX C 1 (by decide) k_427 rfl dX3_foresee_50 ?_
  refine v_iload_n C 2 dX3_foresee_53 rfl ?_
  refine go_I (run_VN C (c_X2_total_7 (by decide) hct h12) k_171 k_2 (List.mem_of_getElem? (i := 4) rfl) k_170 ks_5 dd_X2_total ⟨Nat.le_of_ble_eq_true rfl, Nat.le_of_ble_eq_true rfl⟩ (rcT (by decide)) rfl (Nat.le_of_ble_eq_true rfl) dX3_foresee_54 ⟨Nat.le_of_ble_eq_true rfl, Nat.le_of_ble_eq_true rfl⟩) ?_
  exact v_iret C dX3_foresee_57 rfl rfl
set_option maxHeartbeats 4000000 in
set_option maxRecDepth 100000 in
theorem c_X3_foresee_8 {l : Launch} {P : L5} {D : va_G} {N F T : Nat → Nat → Int32} {K : Nat → Int32} {A : Nat → Nat → Int32} {w : Int64} {c : Nat} (hc : T 0 1 = nI c) (h12 : c ≤ 12) (hKF : KF (cpN (c + 1) c (12 * 1) (12 * 0) 0 N) (12 * 1) c) {p : Int32} (h1 : ¬ p < 1) (h2 : p ≤ 240) (hct : (goB (fuel p 0) p 0 c 1 (cpN (c + 1) c (12 * 1) (12 * 0) 0 N) (cp4 F (4 * 1) (4 * 0)) (va_up T 1 (T 0)) 0).2.2.1 1 1 = nI c) : CtI l yX3_foresee cX3_foresee 3 .int 6 0 0 P D (nW P) (nW P) False (cw P N F T K A w) (cw P (goB (fuel p 0) p 0 c 1 (cpN (c + 1) c (12 * 1) (12 * 0) 0 N) (cp4 F (4 * 1) (4 * 0)) (va_up T 1 (T 0)) 0).1 (goB (fuel p 0) p 0 c 1 (cpN (c + 1) c (12 * 1) (12 * 0) 0 N) (cp4 F (4 * 1) (4 * 0)) (va_up T 1 (T 0)) 0).2.1 (goB (fuel p 0) p 0 c 1 (cpN (c + 1) c (12 * 1) (12 * 0) 0 N) (cp4 F (4 * 1) (4 * 0)) (va_up T 1 (T 0)) 0).2.2.1 K A w) [.ref (rX P), .int p, .int 8] (totN (goB (fuel p 0) p 0 c 1 (cpN (c + 1) c (12 * 1) (12 * 0) 0 N) (cp4 F (4 * 1) (4 * 0)) (va_up T 1 (T 0)) 0).1 (goB (fuel p 0) p 0 c 1 (cpN (c + 1) c (12 * 1) (12 * 0) 0 N) (cp4 F (4 * 1) (4 * 0)) (va_up T 1 (T 0)) 0).2.1 (goB (fuel p 0) p 0 c 1 (cpN (c + 1) c (12 * 1) (12 * 0) 0 N) (cp4 F (4 * 1) (4 * 0)) (va_up T 1 (T 0)) 0).2.2.1 1 c 8) := by
  refine mk_Met pl_X3 [(0, .ref (rX P)), (1, .int p), (2, .int 8)] rfl (Nat.le_of_ble_eq_true rfl) ?_
  intro pg en sg mg ag bg mt cd C
  refine v_iload_n C 1 dX3_foresee_0 rfl ?_
  refine v_iconst (v := 1) C dX3_foresee_1 rfl ?_
  refine v_sipush (v := 240) C dX3_foresee_2 rfl ?_
  refine go_V (run_S C (c_X3_needWithin h1 h2) k_96 k_1 k_94 k_95 dd_X3_needWithin ⟨Nat.le_of_ble_eq_true rfl, Nat.le_of_ble_eq_true rfl⟩ rfl (Nat.le_of_ble_eq_true rfl) dX3_foresee_5 ⟨Nat.le_of_ble_eq_true rfl, Nat.le_of_ble_eq_true rfl⟩) ?_
  refine v_iload_n C 2 dX3_foresee_8 rfl ?_
  refine v_iconst (v := 3) C dX3_foresee_9 rfl ?_
  refine v_icmp_lt (tgt := 19) C dX3_foresee_10 (by decide) (fun h9 => absurd h9 (by decide)) (fun _ => ?_)
  refine v_iload_n C 2 dX3_foresee_13 rfl ?_
  refine v_bipush (v := 8) C dX3_foresee_14 rfl ?_
  refine v_icmp_le (tgt := 29) C dX3_foresee_16 (by decide) (fun _ => ?_) (fun h9 => absurd (by decide) h9)
  refine v_aload_n C 0 dX3_foresee_29 rfl ?_
  refine v_gX C 1 (by decide) k_427 rfl dX3_foresee_30 ?_
  refine v_aload_n C 0 dX3_foresee_33 rfl ?_
  refine v_gX C 0 (by decide) k_426 rfl dX3_foresee_34 ?_
  refine go_V (run_VN C (c_X2_copyFrom (by decide) (by decide) (by decide) hc h12) k_268 k_2 (List.mem_of_getElem? (i := 17) rfl) k_267 ks_22 dd_X2_copyFrom ⟨Nat.le_of_ble_eq_true rfl, Nat.le_of_ble_eq_true rfl⟩ (rcT (by decide)) rfl (Nat.le_of_ble_eq_true rfl) dX3_foresee_37 ⟨Nat.le_of_ble_eq_true rfl, Nat.le_of_ble_eq_true rfl⟩) ?_
  refine v_aload_n C 0 dX3_foresee_40 rfl ?_
  refine v_gX C 1 (by decide) k_427 rfl dX3_foresee_41 ?_
  refine v_iload_n C 1 dX3_foresee_44 rfl ?_
  refine go_I (run_VN C (c_X2_goBy (c := c) (by decide) (by rw [va_up_self]; exact hc) h12 hKF) k_194 k_2 (List.mem_of_getElem? (i := 10) rfl) k_193 ks_9 dd_X2_goBy ⟨Nat.le_of_ble_eq_true rfl, Nat.le_of_ble_eq_true rfl⟩ (rcT (by decide)) rfl (Nat.le_of_ble_eq_true rfl) dX3_foresee_45 ⟨Nat.le_of_ble_eq_true rfl, Nat.le_of_ble_eq_true rfl⟩) ?_
  refine v_pop C dX3_foresee_48 rfl ?_
  refine v_aload_n C 0 dX3_foresee_49 rfl ?_
  refine v_gX C 1 (by decide) k_427 rfl dX3_foresee_50 ?_
  refine v_iload_n C 2 dX3_foresee_53 rfl ?_
  refine go_I (run_VN C (c_X2_total_8 (by decide) hct h12) k_171 k_2 (List.mem_of_getElem? (i := 4) rfl) k_170 ks_5 dd_X2_total ⟨Nat.le_of_ble_eq_true rfl, Nat.le_of_ble_eq_true rfl⟩ (rcT (by decide)) rfl (Nat.le_of_ble_eq_true rfl) dX3_foresee_54 ⟨Nat.le_of_ble_eq_true rfl, Nat.le_of_ble_eq_true rfl⟩) ?_
  exact v_iret C dX3_foresee_57 rfl rfl
set_option maxHeartbeats 4000000 in
set_option maxRecDepth 100000 in
theorem c_X3_nailer {l : Launch} {P : L5} {D : va_G} {N F T : Nat → Nat → Int32} {K : Nat → Int32} {A : Nat → Nat → Int32} {w : Int64} {c : Nat} (hc : T 0 1 = nI c) (h12 : c ≤ 12) {p q u : Int32} (h1 : ¬ q < 0) (h2 : q < 4) (h3 : ¬ u < 0) (h4 : u < 4) (h5 : ¬ p < 1) (h6 : p ≤ 9) (h7 : c < 12) : CtI l yX3_nailer cX3_nailer 5 .int 6 0 0 P D (nW P) (nW P) False (cw P N F T K A w) (cw P (va_up N (12 * 0 + c) (upd (upd (upd (N (12 * 0 + c)) 0 p) 1 q) 2 u)) F (va_up T 0 (upd (T 0) 1 (T 0 1 + 1))) K A w) [.ref (rX P), .int p, .int q, .int u] (T 0 1) := by
  refine mk_Met pl_X3 [(0, .ref (rX P)), (1, .int p), (2, .int q), (3, .int u)] rfl (Nat.le_of_ble_eq_true rfl) ?_
  intro pg en sg mg ag bg mt cd C
  refine v_iload_n C 2 dX3_nailer_0 rfl ?_
  refine v_iconst (v := 4) C dX3_nailer_1 rfl ?_
  refine go_V (run_S C (c_X3_needIndex h1 h2) k_23 k_1 k_21 k_22 dd_X3_needIndex ⟨Nat.le_of_ble_eq_true rfl, Nat.le_of_ble_eq_true rfl⟩ rfl (Nat.le_of_ble_eq_true rfl) dX3_nailer_2 ⟨Nat.le_of_ble_eq_true rfl, Nat.le_of_ble_eq_true rfl⟩) ?_
  refine v_iload_n C 3 dX3_nailer_5 rfl ?_
  refine v_iconst (v := 4) C dX3_nailer_6 rfl ?_
  refine go_V (run_S C (c_X3_needIndex h3 h4) k_23 k_1 k_21 k_22 dd_X3_needIndex ⟨Nat.le_of_ble_eq_true rfl, Nat.le_of_ble_eq_true rfl⟩ rfl (Nat.le_of_ble_eq_true rfl) dX3_nailer_7 ⟨Nat.le_of_ble_eq_true rfl, Nat.le_of_ble_eq_true rfl⟩) ?_
  refine v_iload_n C 1 dX3_nailer_10 rfl ?_
  refine v_iconst (v := 1) C dX3_nailer_11 rfl ?_
  refine v_bipush (v := 9) C dX3_nailer_12 rfl ?_
  refine go_V (run_S C (c_X3_needWithin h5 h6) k_96 k_1 k_94 k_95 dd_X3_needWithin ⟨Nat.le_of_ble_eq_true rfl, Nat.le_of_ble_eq_true rfl⟩ rfl (Nat.le_of_ble_eq_true rfl) dX3_nailer_14 ⟨Nat.le_of_ble_eq_true rfl, Nat.le_of_ble_eq_true rfl⟩) ?_
  refine v_aload_n C 0 dX3_nailer_17 rfl ?_
  refine v_gX C 0 (by decide) k_426 rfl dX3_nailer_18 ?_
  refine v_gTuN C (by decide) 1 (by decide) (List.mem_of_getElem? (i := 19) rfl) rfl dX3_nailer_21 ?_
  refine v_bipush (v := 12) C dX3_nailer_24 rfl ?_
  refine v_icmp_lt (tgt := 39) C dX3_nailer_26 (by decide) (fun _ => ?_) (fun h9 => absurd (by rw [hc]; exact (nI_ltI (b := 12) (by omega) (by omega)).mpr h7) h9)
  refine v_aload_n C 0 dX3_nailer_39 rfl ?_
  refine v_gX C 0 (by decide) k_426 rfl dX3_nailer_40 ?_
  refine v_gTuN C (by decide) 1 (by decide) (List.mem_of_getElem? (i := 19) rfl) rfl dX3_nailer_43 ?_
  refine v_top (fun x_1 ex_1 => ?_)
  refine v_istore (lv' := [(4, .int x_1), (0, .ref (rX P)), (1, .int p), (2, .int q), (3, .int u)]) C dX3_nailer_46 (by decide) rfl ?_
  refine v_aload_n C 1 dX3_nailer_48 rfl ?_
  refine v_gX C 0 (by decide) k_426 rfl dX3_nailer_49 ?_
  refine v_gTuN C (by decide) 2 (by decide) (List.mem_of_getElem? (i := 20) rfl) rfl dX3_nailer_52 ?_
  refine v_iload C 0 dX3_nailer_55 rfl ?_
  refine v_aaNk C c (by decide) (by rw [ex_1, hc]; exact nI_clamp (by omega)) (by rw [ex_1, hc]; exact vp_in_nI (by omega) (by omega)) dX3_nailer_57 ?_
  refine v_iload_n C 2 dX3_nailer_58 rfl ?_
  refine v_iload_n C 3 dX3_nailer_59 rfl ?_
  refine v_iload_n C 4 dX3_nailer_60 rfl ?_
  refine go_V (run_VN C (u_X1_begin (by omega)) k_444 k_3 (List.mem_of_getElem? (i := 8) rfl) k_443 ks_25 dd_X1_begin ⟨Nat.le_of_ble_eq_true rfl, Nat.le_of_ble_eq_true rfl⟩ (rcN (by omega)) rfl (Nat.le_of_ble_eq_true rfl) dX3_nailer_61 ⟨Nat.le_of_ble_eq_true rfl, Nat.le_of_ble_eq_true rfl⟩) ?_
  refine v_aload_n C 1 dX3_nailer_64 rfl ?_
  refine v_gX C 0 (by decide) k_426 rfl dX3_nailer_65 ?_
  refine v_iload C 0 dX3_nailer_68 rfl ?_
  refine v_iconst (v := 1) C dX3_nailer_70 rfl ?_
  refine v_iadd C dX3_nailer_71 ?_
  refine v_eq (f' := (cw P (va_up N (12 * 0 + c) (upd (upd (upd (N (12 * 0 + c)) 0 p) 1 q) 2 u)) F (va_up T 0 (T 0)) K A w)) (by rw [va_up_eta T]) ?_
  refine v_pTN C (by decide) 1 (by decide) (List.mem_of_getElem? (i := 19) rfl) dX3_nailer_72 ?_
  refine v_iload C 0 dX3_nailer_75 rfl ?_
  exact v_iret C dX3_nailer_77 (by rw [ex_1]) ex_1
