/-! THE MODEL: its calls -/
set_option maxHeartbeats 4000000 in
set_option maxRecDepth 100000 in
theorem c_X4_nailer_1 {l : Launch} {P : L5} {D : va_G} {N F T : Nat → Nat → Int32} {K : Nat → Int32} {A : Nat → Nat → Int32} {w : Int64} {c : Nat} (hc : K 2 = nI c) (h12 : c ≤ 12) {a p q : Int32} (h : p < 0 ∨ 3 < p) : CtI l yX4_nailer cX4_nailer 5 .int 5 0 0 P D 97 97 False (cw P N F T K A w) (cw P N F T (upd K 0 1) A w) [.ref (rM P), .int a, .int p, .int q] 0 := by
  refine mk_Met pl_X4 [(0, .ref (rM P)), (1, .int a), (2, .int p), (3, .int q)] rfl (Nat.le_of_ble_eq_true rfl) ?_
  intro pg en sg mg ag bg mt cd C
  refine v_aload_n C 0 dX4_nailer_0 rfl ?_
  refine v_iconst (v := 0) C dX4_nailer_1 rfl ?_
  refine v_pM C 0 (by decide) k_513 dX4_nailer_2 ?_
  refine v_iload_n C 2 dX4_nailer_5 rfl ?_
  refine go_I (run_S C (c_X4_isFour_0 h) k_544 k_5 k_542 k_543 dd_X4_isFour ⟨Nat.le_of_ble_eq_true rfl, Nat.le_of_ble_eq_true rfl⟩ rfl (Nat.le_of_ble_eq_true rfl) dX4_nailer_6 ⟨Nat.le_of_ble_eq_true rfl, Nat.le_of_ble_eq_true rfl⟩) ?_
  refine v_if_eq (tgt := 19) C dX4_nailer_9 (by decide) (fun _ => ?_) (fun h9 => absurd (by decide) h9)
  refine v_aload_n C 0 dX4_nailer_19 rfl ?_
  refine v_iconst (v := 1) C dX4_nailer_20 rfl ?_
  refine go_I (run_V C (c_X4_no) k_551 k_5 k_548 k_550 ks_26 dd_X4_no ⟨Nat.le_of_ble_eq_true rfl, Nat.le_of_ble_eq_true rfl⟩ rcM rfl (Nat.le_of_ble_eq_true rfl) dX4_nailer_21 ⟨Nat.le_of_ble_eq_true rfl, Nat.le_of_ble_eq_true rfl⟩) ?_
  exact v_iret C dX4_nailer_24 (by rw [updd]) rfl
set_option maxHeartbeats 4000000 in
set_option maxRecDepth 100000 in
theorem c_X4_nailer_1b {l : Launch} {P : L5} {D : va_G} {N F T : Nat → Nat → Int32} {K : Nat → Int32} {A : Nat → Nat → Int32} {w : Int64} {c : Nat} (hc : K 2 = nI c) (h12 : c ≤ 12) {a p q : Int32} (h1 : ¬ p < 0) (h2 : ¬ 3 < p) (h : q < 0 ∨ 3 < q) : CtI l yX4_nailer cX4_nailer 5 .int 5 0 0 P D 97 97 False (cw P N F T K A w) (cw P N F T (upd K 0 1) A w) [.ref (rM P), .int a, .int p, .int q] 0 := by
  refine mk_Met pl_X4 [(0, .ref (rM P)), (1, .int a), (2, .int p), (3, .int q)] rfl (Nat.le_of_ble_eq_true rfl) ?_
  intro pg en sg mg ag bg mt cd C
  refine v_aload_n C 0 dX4_nailer_0 rfl ?_
  refine v_iconst (v := 0) C dX4_nailer_1 rfl ?_
  refine v_pM C 0 (by decide) k_513 dX4_nailer_2 ?_
  refine v_iload_n C 2 dX4_nailer_5 rfl ?_
  refine go_I (run_S C (c_X4_isFour_1 h1 h2) k_544 k_5 k_542 k_543 dd_X4_isFour ⟨Nat.le_of_ble_eq_true rfl, Nat.le_of_ble_eq_true rfl⟩ rfl (Nat.le_of_ble_eq_true rfl) dX4_nailer_6 ⟨Nat.le_of_ble_eq_true rfl, Nat.le_of_ble_eq_true rfl⟩) ?_
  refine v_if_eq (tgt := 19) C dX4_nailer_9 (by decide) (fun h9 => absurd h9 (by decide)) (fun _ => ?_)
  refine v_iload_n C 3 dX4_nailer_12 rfl ?_
  refine go_I (run_S C (c_X4_isFour_0 h) k_544 k_5 k_542 k_543 dd_X4_isFour ⟨Nat.le_of_ble_eq_true rfl, Nat.le_of_ble_eq_true rfl⟩ rfl (Nat.le_of_ble_eq_true rfl) dX4_nailer_13 ⟨Nat.le_of_ble_eq_true rfl, Nat.le_of_ble_eq_true rfl⟩) ?_
  refine v_if_ne (tgt := 25) C dX4_nailer_16 (by decide) (fun h9 => absurd h9 (by decide)) (fun _ => ?_)
  refine v_aload_n C 0 dX4_nailer_19 rfl ?_
  refine v_iconst (v := 1) C dX4_nailer_20 rfl ?_
  refine go_I (run_V C (c_X4_no) k_551 k_5 k_548 k_550 ks_26 dd_X4_no ⟨Nat.le_of_ble_eq_true rfl, Nat.le_of_ble_eq_true rfl⟩ rcM rfl (Nat.le_of_ble_eq_true rfl) dX4_nailer_21 ⟨Nat.le_of_ble_eq_true rfl, Nat.le_of_ble_eq_true rfl⟩) ?_
  exact v_iret C dX4_nailer_24 (by rw [updd]) rfl
set_option maxHeartbeats 4000000 in
set_option maxRecDepth 100000 in
theorem c_X4_nailer_2 {l : Launch} {P : L5} {D : va_G} {N F T : Nat → Nat → Int32} {K : Nat → Int32} {A : Nat → Nat → Int32} {w : Int64} {c : Nat} (hc : K 2 = nI c) (h12 : c ≤ 12) {a p q : Int32} (h1 : ¬ p < 0) (h2 : ¬ 3 < p) (h3 : ¬ q < 0) (h4 : ¬ 3 < q) (h : a < 1 ∨ 9 < a) : CtI l yX4_nailer cX4_nailer 5 .int 5 0 0 P D 97 97 False (cw P N F T K A w) (cw P N F T (upd K 0 2) A w) [.ref (rM P), .int a, .int p, .int q] 0 := by
  refine mk_Met pl_X4 [(0, .ref (rM P)), (1, .int a), (2, .int p), (3, .int q)] rfl (Nat.le_of_ble_eq_true rfl) ?_
  intro pg en sg mg ag bg mt cd C
  refine v_aload_n C 0 dX4_nailer_0 rfl ?_
  refine v_iconst (v := 0) C dX4_nailer_1 rfl ?_
  refine v_pM C 0 (by decide) k_513 dX4_nailer_2 ?_
  refine v_iload_n C 2 dX4_nailer_5 rfl ?_
  refine go_I (run_S C (c_X4_isFour_1 h1 h2) k_544 k_5 k_542 k_543 dd_X4_isFour ⟨Nat.le_of_ble_eq_true rfl, Nat.le_of_ble_eq_true rfl⟩ rfl (Nat.le_of_ble_eq_true rfl) dX4_nailer_6 ⟨Nat.le_of_ble_eq_true rfl, Nat.le_of_ble_eq_true rfl⟩) ?_
  refine v_if_eq (tgt := 19) C dX4_nailer_9 (by decide) (fun h9 => absurd h9 (by decide)) (fun _ => ?_)
  refine v_iload_n C 3 dX4_nailer_12 rfl ?_
  refine go_I (run_S C (c_X4_isFour_1 h3 h4) k_544 k_5 k_542 k_543 dd_X4_isFour ⟨Nat.le_of_ble_eq_true rfl, Nat.le_of_ble_eq_true rfl⟩ rfl (Nat.le_of_ble_eq_true rfl) dX4_nailer_13 ⟨Nat.le_of_ble_eq_true rfl, Nat.le_of_ble_eq_true rfl⟩) ?_
  refine v_if_ne (tgt := 25) C dX4_nailer_16 (by decide) (fun _ => ?_) (fun h9 => absurd h9 (by decide))
  refine v_iload_n C 1 dX4_nailer_25 rfl ?_
  refine v_iconst (v := 1) C dX4_nailer_26 rfl ?_
  refine v_bipush (v := 9) C dX4_nailer_27 rfl ?_
  refine go_I (run_S C (c_X4_isIn_0 h) k_547 k_5 k_545 k_546 dd_X4_isIn ⟨Nat.le_of_ble_eq_true rfl, Nat.le_of_ble_eq_true rfl⟩ rfl (Nat.le_of_ble_eq_true rfl) dX4_nailer_29 ⟨Nat.le_of_ble_eq_true rfl, Nat.le_of_ble_eq_true rfl⟩) ?_
  refine v_if_ne (tgt := 41) C dX4_nailer_32 (by decide) (fun h9 => absurd h9 (by decide)) (fun _ => ?_)
  refine v_aload_n C 0 dX4_nailer_35 rfl ?_
  refine v_iconst (v := 2) C dX4_nailer_36 rfl ?_
  refine go_I (run_V C (c_X4_no) k_551 k_5 k_548 k_550 ks_26 dd_X4_no ⟨Nat.le_of_ble_eq_true rfl, Nat.le_of_ble_eq_true rfl⟩ rcM rfl (Nat.le_of_ble_eq_true rfl) dX4_nailer_37 ⟨Nat.le_of_ble_eq_true rfl, Nat.le_of_ble_eq_true rfl⟩) ?_
  exact v_iret C dX4_nailer_40 (by rw [updd]) rfl
set_option maxHeartbeats 4000000 in
set_option maxRecDepth 100000 in
theorem c_X4_nailer_3 {l : Launch} {P : L5} {D : va_G} {N F T : Nat → Nat → Int32} {K : Nat → Int32} {A : Nat → Nat → Int32} {w : Int64} {c : Nat} (hc : K 2 = nI c) (h12 : c ≤ 12) {a p q : Int32} (h1 : ¬ p < 0) (h2 : ¬ 3 < p) (h3 : ¬ q < 0) (h4 : ¬ 3 < q) (h5 : ¬ a < 1) (h6 : ¬ 9 < a) (h : K 2 = 12) : CtI l yX4_nailer cX4_nailer 5 .int 5 0 0 P D 97 97 False (cw P N F T K A w) (cw P N F T (upd K 0 3) A w) [.ref (rM P), .int a, .int p, .int q] 0 := by
  refine mk_Met pl_X4 [(0, .ref (rM P)), (1, .int a), (2, .int p), (3, .int q)] rfl (Nat.le_of_ble_eq_true rfl) ?_
  intro pg en sg mg ag bg mt cd C
  refine v_aload_n C 0 dX4_nailer_0 rfl ?_
  refine v_iconst (v := 0) C dX4_nailer_1 rfl ?_
  refine v_pM C 0 (by decide) k_513 dX4_nailer_2 ?_
  refine v_iload_n C 2 dX4_nailer_5 rfl ?_
  refine go_I (run_S C (c_X4_isFour_1 h1 h2) k_544 k_5 k_542 k_543 dd_X4_isFour ⟨Nat.le_of_ble_eq_true rfl, Nat.le_of_ble_eq_true rfl⟩ rfl (Nat.le_of_ble_eq_true rfl) dX4_nailer_6 ⟨Nat.le_of_ble_eq_true rfl, Nat.le_of_ble_eq_true rfl⟩) ?_
  refine v_if_eq (tgt := 19) C dX4_nailer_9 (by decide) (fun h9 => absurd h9 (by decide)) (fun _ => ?_)
  refine v_iload_n C 3 dX4_nailer_12 rfl ?_
  refine go_I (run_S C (c_X4_isFour_1 h3 h4) k_544 k_5 k_542 k_543 dd_X4_isFour ⟨Nat.le_of_ble_eq_true rfl, Nat.le_of_ble_eq_true rfl⟩ rfl (Nat.le_of_ble_eq_true rfl) dX4_nailer_13 ⟨Nat.le_of_ble_eq_true rfl, Nat.le_of_ble_eq_true rfl⟩) ?_
  refine v_if_ne (tgt := 25) C dX4_nailer_16 (by decide) (fun _ => ?_) (fun h9 => absurd h9 (by decide))
  refine v_iload_n C 1 dX4_nailer_25 rfl ?_
  refine v_iconst (v := 1) C dX4_nailer_26 rfl ?_
  refine v_bipush (v := 9) C dX4_nailer_27 rfl ?_
  refine go_I (run_S C (c_X4_isIn_1 h5 h6) k_547 k_5 k_545 k_546 dd_X4_isIn ⟨Nat.le_of_ble_eq_true rfl, Nat.le_of_ble_eq_true rfl⟩ rfl (Nat.le_of_ble_eq_true rfl) dX4_nailer_29 ⟨Nat.le_of_ble_eq_true rfl, Nat.le_of_ble_eq_true rfl⟩) ?_
  refine v_if_ne (tgt := 41) C dX4_nailer_32 (by decide) (fun _ => ?_) (fun h9 => absurd h9 (by decide))
  refine v_aload_n C 0 dX4_nailer_41 rfl ?_
  refine v_gM C 2 (by decide) k_515 rfl dX4_nailer_42 ?_
  refine v_bipush (v := 12) C dX4_nailer_45 rfl ?_
  refine v_icmp_ne (tgt := 56) C dX4_nailer_47 (by decide) (fun h9 => absurd (show upd K 0 0 2 = 12 from h) h9) (fun _ => ?_)
  refine v_aload_n C 0 dX4_nailer_50 rfl ?_
  refine v_iconst (v := 3) C dX4_nailer_51 rfl ?_
  refine go_I (run_V C (c_X4_no) k_551 k_5 k_548 k_550 ks_26 dd_X4_no ⟨Nat.le_of_ble_eq_true rfl, Nat.le_of_ble_eq_true rfl⟩ rcM rfl (Nat.le_of_ble_eq_true rfl) dX4_nailer_52 ⟨Nat.le_of_ble_eq_true rfl, Nat.le_of_ble_eq_true rfl⟩) ?_
  exact v_iret C dX4_nailer_55 (by rw [updd]) rfl
set_option maxHeartbeats 4000000 in
set_option maxRecDepth 100000 in
theorem c_X4_nailer {l : Launch} {P : L5} {D : va_G} {N F T : Nat → Nat → Int32} {K : Nat → Int32} {A : Nat → Nat → Int32} {w : Int64} {c : Nat} (hc : K 2 = nI c) (h12 : c ≤ 12) {a p q : Int32} (h1 : ¬ p < 0) (h2 : ¬ 3 < p) (h3 : ¬ q < 0) (h4 : ¬ 3 < q) (h5 : ¬ a < 1) (h6 : ¬ 9 < a) (h7 : ¬ K 2 = 12) (hc11 : c < 12) : CtI l yX4_nailer cX4_nailer 5 .int 5 0 0 P D 97 97 False (cw P N F T K A w) (cw P N F T (upd (upd K 0 0) 2 (K 2 + 1)) (mNew A c a p q) w) [.ref (rM P), .int a, .int p, .int q] (K 2 + 1 - 1) := by
  refine mk_Met pl_X4 [(0, .ref (rM P)), (1, .int a), (2, .int p), (3, .int q)] rfl (Nat.le_of_ble_eq_true rfl) ?_
  intro pg en sg mg ag bg mt cd C
  refine v_aload_n C 0 dX4_nailer_0 rfl ?_
  refine v_iconst (v := 0) C dX4_nailer_1 rfl ?_
  refine v_pM C 0 (by decide) k_513 dX4_nailer_2 ?_
  refine v_iload_n C 2 dX4_nailer_5 rfl ?_
  refine go_I (run_S C (c_X4_isFour_1 h1 h2) k_544 k_5 k_542 k_543 dd_X4_isFour ⟨Nat.le_of_ble_eq_true rfl, Nat.le_of_ble_eq_true rfl⟩ rfl (Nat.le_of_ble_eq_true rfl) dX4_nailer_6 ⟨Nat.le_of_ble_eq_true rfl, Nat.le_of_ble_eq_true rfl⟩) ?_
  refine v_if_eq (tgt := 19) C dX4_nailer_9 (by decide) (fun h9 => absurd h9 (by decide)) (fun _ => ?_)
  refine v_iload_n C 3 dX4_nailer_12 rfl ?_
  refine go_I (run_S C (c_X4_isFour_1 h3 h4) k_544 k_5 k_542 k_543 dd_X4_isFour ⟨Nat.le_of_ble_eq_true rfl, Nat.le_of_ble_eq_true rfl⟩ rfl (Nat.le_of_ble_eq_true rfl) dX4_nailer_13 ⟨Nat.le_of_ble_eq_true rfl, Nat.le_of_ble_eq_true rfl⟩) ?_
  refine v_if_ne (tgt := 25) C dX4_nailer_16 (by decide) (fun _ => ?_) (fun h9 => absurd h9 (by decide))
  refine v_iload_n C 1 dX4_nailer_25 rfl ?_
  refine v_iconst (v := 1) C dX4_nailer_26 rfl ?_
  refine v_bipush (v := 9) C dX4_nailer_27 rfl ?_
  refine go_I (run_S C (c_X4_isIn_1 h5 h6) k_547 k_5 k_545 k_546 dd_X4_isIn ⟨Nat.le_of_ble_eq_true rfl, Nat.le_of_ble_eq_true rfl⟩ rfl (Nat.le_of_ble_eq_true rfl) dX4_nailer_29 ⟨Nat.le_of_ble_eq_true rfl, Nat.le_of_ble_eq_true rfl⟩) ?_
  refine v_if_ne (tgt := 41) C dX4_nailer_32 (by decide) (fun _ => ?_) (fun h9 => absurd h9 (by decide))
  refine v_aload_n C 0 dX4_nailer_41 rfl ?_
  refine v_gM C 2 (by decide) k_515 rfl dX4_nailer_42 ?_
  refine v_bipush (v := 12) C dX4_nailer_45 rfl ?_
  refine v_icmp_ne (tgt := 56) C dX4_nailer_47 (by decide) (fun _ => ?_) (fun h9 => absurd h9 h7)
  refine v_bipush (v := 20) C dX4_nailer_56 rfl ?_
  refine v_aload_n C 0 dX4_nailer_58 rfl ?_
  refine v_gM C 2 (by decide) k_515 rfl dX4_nailer_59 ?_
  refine v_topE (b := nI c) (show upd K 0 0 2 = _ from hc) ?_
  refine v_imul C dX4_nailer_62 ?_
  refine v_topE (ixM rfl rfl) ?_
  refine v_istore (lv' := [(4, .int (nI (20 * c))), (0, .ref (rM P)), (1, .int a), (2, .int p), (3, .int q)]) C dX4_nailer_63 (by decide) rfl ?_
  refine v_aload_n C 1 dX4_nailer_65 rfl ?_
  refine v_gM C 3 (by decide) k_516 rfl dX4_nailer_66 ?_
  refine v_iload C 0 dX4_nailer_69 rfl ?_
  refine v_iconst (v := 0) C dX4_nailer_71 rfl ?_
  refine v_iadd C dX4_nailer_72 ?_
  refine v_iload_n C 2 dX4_nailer_73 rfl ?_
  refine v_stAk C ((20 * c) + 0) (by decide) (ixA rfl rfl) (show _ < 240 by omega) rfl dX4_nailer_74 ?_
  refine v_aload_n C 1 dX4_nailer_75 rfl ?_
  refine v_gM C 3 (by decide) k_516 rfl dX4_nailer_76 ?_
  refine v_iload C 0 dX4_nailer_79 rfl ?_
  refine v_iconst (v := 1) C dX4_nailer_81 rfl ?_
  refine v_iadd C dX4_nailer_82 ?_
  refine v_iload_n C 3 dX4_nailer_83 rfl ?_
  refine v_stAk C ((20 * c) + 1) (by decide) (ixA rfl rfl) (show _ < 240 by omega) rfl dX4_nailer_84 ?_
  refine v_aload_n C 1 dX4_nailer_85 rfl ?_
  refine v_gM C 3 (by decide) k_516 rfl dX4_nailer_86 ?_
  refine v_iload C 0 dX4_nailer_89 rfl ?_
  refine v_iconst (v := 2) C dX4_nailer_91 rfl ?_
  refine v_iadd C dX4_nailer_92 ?_
  refine v_iload_n C 4 dX4_nailer_93 rfl ?_
  refine v_stAk C ((20 * c) + 2) (by decide) (ixA rfl rfl) (show _ < 240 by omega) rfl dX4_nailer_94 ?_
  refine v_aload_n C 1 dX4_nailer_95 rfl ?_
  refine v_gM C 3 (by decide) k_516 rfl dX4_nailer_96 ?_
  refine v_iload C 0 dX4_nailer_99 rfl ?_
  refine v_bipush (v := 6) C dX4_nailer_101 rfl ?_
  refine v_iadd C dX4_nailer_103 ?_
  refine v_bipush (v := 10) C dX4_nailer_104 rfl ?_
  refine v_stAk C ((20 * c) + 6) (by decide) (ixA rfl rfl) (show _ < 240 by omega) rfl dX4_nailer_106 ?_
  refine v_aload_n C 1 dX4_nailer_107 rfl ?_
  refine v_gM C 3 (by decide) k_516 rfl dX4_nailer_108 ?_
  refine v_iload C 0 dX4_nailer_111 rfl ?_
  refine v_bipush (v := 7) C dX4_nailer_113 rfl ?_
  refine v_iadd C dX4_nailer_115 ?_
  refine v_iconst (v := 5) C dX4_nailer_116 rfl ?_
  refine v_stAk C ((20 * c) + 7) (by decide) (ixA rfl rfl) (show _ < 240 by omega) rfl dX4_nailer_117 ?_
  refine v_aload_n C 1 dX4_nailer_118 rfl ?_
  refine v_dup C dX4_nailer_119 rfl ?_
  refine v_gM C 2 (by decide) k_515 rfl dX4_nailer_120 ?_
  refine v_iconst (v := 1) C dX4_nailer_123 rfl ?_
  refine v_iadd C dX4_nailer_124 ?_
  refine v_pM C 2 (by decide) k_515 dX4_nailer_125 ?_
  refine v_aload_n C 1 dX4_nailer_128 rfl ?_
  refine v_gM C 2 (by decide) k_515 rfl dX4_nailer_129 ?_
  refine v_iconst (v := 1) C dX4_nailer_132 rfl ?_
  refine v_isub C dX4_nailer_133 ?_
  exact v_iret C dX4_nailer_134 rfl rfl
set_option maxHeartbeats 4000000 in
set_option maxRecDepth 100000 in
theorem c_X4_lend_1 {l : Launch} {P : L5} {D : va_G} {N F T : Nat → Nat → Int32} {K : Nat → Int32} {A : Nat → Nat → Int32} {w : Int64} {c : Nat} (hc : K 2 = nI c) (h12 : c ≤ 12) {p q : Int32} (h : p < 0 ∨ ¬ p < K 2) : CtI l yX4_lend cX4_lend 4 .int 5 0 0 P D 97 97 False (cw P N F T K A w) (cw P N F T (upd K 0 1) A w) [.ref (rM P), .int p, .int q] 0 := by
  refine mk_Met pl_X4 [(0, .ref (rM P)), (1, .int p), (2, .int q)] rfl (Nat.le_of_ble_eq_true rfl) ?_
  intro pg en sg mg ag bg mt cd C
  refine v_aload_n C 0 dX4_lend_0 rfl ?_
  refine v_iconst (v := 0) C dX4_lend_1 rfl ?_
  refine v_pM C 0 (by decide) k_513 dX4_lend_2 ?_
  refine v_aload_n C 0 dX4_lend_5 rfl ?_
  refine v_iload_n C 1 dX4_lend_6 rfl ?_
  refine go_I (run_V C (c_X4_isThere_0 (K := upd K 0 0) hc h12 h) k_559 k_5 k_556 k_558 ks_27 dd_X4_isThere ⟨Nat.le_of_ble_eq_true rfl, Nat.le_of_ble_eq_true rfl⟩ rcM rfl (Nat.le_of_ble_eq_true rfl) dX4_lend_7 ⟨Nat.le_of_ble_eq_true rfl, Nat.le_of_ble_eq_true rfl⟩) ?_
  refine v_if_ne (tgt := 19) C dX4_lend_10 (by decide) (fun h9 => absurd h9 (by decide)) (fun _ => ?_)
  refine v_aload_n C 0 dX4_lend_13 rfl ?_
  refine v_iconst (v := 1) C dX4_lend_14 rfl ?_
  refine go_I (run_V C (c_X4_no) k_551 k_5 k_548 k_550 ks_26 dd_X4_no ⟨Nat.le_of_ble_eq_true rfl, Nat.le_of_ble_eq_true rfl⟩ rcM rfl (Nat.le_of_ble_eq_true rfl) dX4_lend_15 ⟨Nat.le_of_ble_eq_true rfl, Nat.le_of_ble_eq_true rfl⟩) ?_
  exact v_iret C dX4_lend_18 (by rw [updd]) rfl
set_option maxHeartbeats 4000000 in
set_option maxRecDepth 100000 in
theorem c_X4_lend_2 {l : Launch} {P : L5} {D : va_G} {N F T : Nat → Nat → Int32} {K : Nat → Int32} {A : Nat → Nat → Int32} {w : Int64} {c : Nat} (hc : K 2 = nI c) (h12 : c ≤ 12) {j : Nat} (hj : j < c) {q : Int32} (h : q < 1 ∨ 20 < q) : CtI l yX4_lend cX4_lend 4 .int 5 0 0 P D 97 97 False (cw P N F T K A w) (cw P N F T (upd K 0 2) A w) [.ref (rM P), .int (nI j), .int q] 0 := by
  refine mk_Met pl_X4 [(0, .ref (rM P)), (1, .int (nI j)), (2, .int q)] rfl (Nat.le_of_ble_eq_true rfl) ?_
  intro pg en sg mg ag bg mt cd C
  refine v_aload_n C 0 dX4_lend_0 rfl ?_
  refine v_iconst (v := 0) C dX4_lend_1 rfl ?_
  refine v_pM C 0 (by decide) k_513 dX4_lend_2 ?_
  refine v_aload_n C 0 dX4_lend_5 rfl ?_
  refine v_iload_n C 1 dX4_lend_6 rfl ?_
  refine go_I (run_V C (c_X4_isThere_1 (K := upd K 0 0) hc h12 (nIp (by omega)) (thOk hc h12 hj)) k_559 k_5 k_556 k_558 ks_27 dd_X4_isThere ⟨Nat.le_of_ble_eq_true rfl, Nat.le_of_ble_eq_true rfl⟩ rcM rfl (Nat.le_of_ble_eq_true rfl) dX4_lend_7 ⟨Nat.le_of_ble_eq_true rfl, Nat.le_of_ble_eq_true rfl⟩) ?_
  refine v_if_ne (tgt := 19) C dX4_lend_10 (by decide) (fun _ => ?_) (fun h9 => absurd h9 (by decide))
  refine v_iload_n C 2 dX4_lend_19 rfl ?_
  refine v_iconst (v := 1) C dX4_lend_20 rfl ?_
  refine v_bipush (v := 20) C dX4_lend_21 rfl ?_
  refine go_I (run_S C (c_X4_isIn_0 h) k_547 k_5 k_545 k_546 dd_X4_isIn ⟨Nat.le_of_ble_eq_true rfl, Nat.le_of_ble_eq_true rfl⟩ rfl (Nat.le_of_ble_eq_true rfl) dX4_lend_23 ⟨Nat.le_of_ble_eq_true rfl, Nat.le_of_ble_eq_true rfl⟩) ?_
  refine v_if_ne (tgt := 35) C dX4_lend_26 (by decide) (fun h9 => absurd h9 (by decide)) (fun _ => ?_)
  refine v_aload_n C 0 dX4_lend_29 rfl ?_
  refine v_iconst (v := 2) C dX4_lend_30 rfl ?_
  refine go_I (run_V C (c_X4_no) k_551 k_5 k_548 k_550 ks_26 dd_X4_no ⟨Nat.le_of_ble_eq_true rfl, Nat.le_of_ble_eq_true rfl⟩ rcM rfl (Nat.le_of_ble_eq_true rfl) dX4_lend_31 ⟨Nat.le_of_ble_eq_true rfl, Nat.le_of_ble_eq_true rfl⟩) ?_
  exact v_iret C dX4_lend_34 (by rw [updd]) rfl
set_option maxHeartbeats 4000000 in
set_option maxRecDepth 100000 in
theorem c_X4_lend_3 {l : Launch} {P : L5} {D : va_G} {N F T : Nat → Nat → Int32} {K : Nat → Int32} {A : Nat → Nat → Int32} {w : Int64} {c : Nat} (hc : K 2 = nI c) (h12 : c ≤ 12) {j : Nat} (hj : j < c) {q : Int32} (h3 : ¬ q < 1) (h4 : ¬ 20 < q) (h : ¬ A 0 (20 * j + 8) + 3 * q ≤ 90) : CtI l yX4_lend cX4_lend 4 .int 5 0 0 P D 97 97 False (cw P N F T K A w) (cw P N F T (upd K 0 3) A w) [.ref (rM P), .int (nI j), .int q] 0 := by
  refine mk_Met pl_X4 [(0, .ref (rM P)), (1, .int (nI j)), (2, .int q)] rfl (Nat.le_of_ble_eq_true rfl) ?_
  intro pg en sg mg ag bg mt cd C
  refine v_aload_n C 0 dX4_lend_0 rfl ?_
  refine v_iconst (v := 0) C dX4_lend_1 rfl ?_
  refine v_pM C 0 (by decide) k_513 dX4_lend_2 ?_
  refine v_aload_n C 0 dX4_lend_5 rfl ?_
  refine v_iload_n C 1 dX4_lend_6 rfl ?_
  refine go_I (run_V C (c_X4_isThere_1 (K := upd K 0 0) hc h12 (nIp (by omega)) (thOk hc h12 hj)) k_559 k_5 k_556 k_558 ks_27 dd_X4_isThere ⟨Nat.le_of_ble_eq_true rfl, Nat.le_of_ble_eq_true rfl⟩ rcM rfl (Nat.le_of_ble_eq_true rfl) dX4_lend_7 ⟨Nat.le_of_ble_eq_true rfl, Nat.le_of_ble_eq_true rfl⟩) ?_
  refine v_if_ne (tgt := 19) C dX4_lend_10 (by decide) (fun _ => ?_) (fun h9 => absurd h9 (by decide))
  refine v_iload_n C 2 dX4_lend_19 rfl ?_
  refine v_iconst (v := 1) C dX4_lend_20 rfl ?_
  refine v_bipush (v := 20) C dX4_lend_21 rfl ?_
  refine go_I (run_S C (c_X4_isIn_1 h3 h4) k_547 k_5 k_545 k_546 dd_X4_isIn ⟨Nat.le_of_ble_eq_true rfl, Nat.le_of_ble_eq_true rfl⟩ rfl (Nat.le_of_ble_eq_true rfl) dX4_lend_23 ⟨Nat.le_of_ble_eq_true rfl, Nat.le_of_ble_eq_true rfl⟩) ?_
  refine v_if_ne (tgt := 35) C dX4_lend_26 (by decide) (fun _ => ?_) (fun h9 => absurd h9 (by decide))
  refine v_bipush (v := 20) C dX4_lend_35 rfl ?_
  refine v_iload_n C 1 dX4_lend_37 rfl ?_
  refine v_imul C dX4_lend_38 ?_
  refine v_topE (ixM rfl rfl) ?_
  refine v_istore_n (lv' := [(3, .int (nI (20 * j))), (0, .ref (rM P)), (1, .int (nI j)), (2, .int q)]) C dX4_lend_39 rfl (by decide) rfl ?_
  refine v_aload_n C 1 dX4_lend_40 rfl ?_
  refine v_gM C 3 (by decide) k_516 rfl dX4_lend_41 ?_
  refine v_iload_n C 0 dX4_lend_44 rfl ?_
  refine v_bipush (v := 8) C dX4_lend_45 rfl ?_
  refine v_iadd C dX4_lend_47 ?_
  refine v_ldAk C ((20 * j) + 8) (by decide) (ixA rfl rfl) (show _ < 240 by omega) rfl dX4_lend_48 ?_
  refine v_iconst (v := 3) C dX4_lend_49 rfl ?_
  refine v_iload_n C 3 dX4_lend_50 rfl ?_
  refine v_imul C dX4_lend_51 ?_
  refine v_iadd C dX4_lend_52 ?_
  refine v_bipush (v := 90) C dX4_lend_53 rfl ?_
  refine v_icmp_le (tgt := 64) C dX4_lend_55 (by decide) (fun h9 => absurd h9 h) (fun _ => ?_)
  refine v_aload_n C 1 dX4_lend_58 rfl ?_
  refine v_iconst (v := 3) C dX4_lend_59 rfl ?_
  refine go_I (run_V C (c_X4_no) k_551 k_5 k_548 k_550 ks_26 dd_X4_no ⟨Nat.le_of_ble_eq_true rfl, Nat.le_of_ble_eq_true rfl⟩ rcM rfl (Nat.le_of_ble_eq_true rfl) dX4_lend_60 ⟨Nat.le_of_ble_eq_true rfl, Nat.le_of_ble_eq_true rfl⟩) ?_
  exact v_iret C dX4_lend_63 (by rw [updd]) rfl
set_option maxHeartbeats 4000000 in
set_option maxRecDepth 100000 in
theorem c_X4_lend {l : Launch} {P : L5} {D : va_G} {N F T : Nat → Nat → Int32} {K : Nat → Int32} {A : Nat → Nat → Int32} {w : Int64} {c : Nat} (hc : K 2 = nI c) (h12 : c ≤ 12) {j : Nat} (hj : j < c) {q : Int32} (h3 : ¬ q < 1) (h4 : ¬ 20 < q) (h : A 0 (20 * j + 8) + 3 * q ≤ 90) : CtI l yX4_lend cX4_lend 4 .int 5 0 0 P D 97 97 False (cw P N F T K A w) (cw P N F T (upd K 0 0) (mLend A j q) w) [.ref (rM P), .int (nI j), .int q] (mLend A j q 0 (20 * j + 8)) := by
  refine mk_Met pl_X4 [(0, .ref (rM P)), (1, .int (nI j)), (2, .int q)] rfl (Nat.le_of_ble_eq_true rfl) ?_
  intro pg en sg mg ag bg mt cd C
  refine v_aload_n C 0 dX4_lend_0 rfl ?_
  refine v_iconst (v := 0) C dX4_lend_1 rfl ?_
  refine v_pM C 0 (by decide) k_513 dX4_lend_2 ?_
  refine v_aload_n C 0 dX4_lend_5 rfl ?_
  refine v_iload_n C 1 dX4_lend_6 rfl ?_
  refine go_I (run_V C (c_X4_isThere_1 (K := upd K 0 0) hc h12 (nIp (by omega)) (thOk hc h12 hj)) k_559 k_5 k_556 k_558 ks_27 dd_X4_isThere ⟨Nat.le_of_ble_eq_true rfl, Nat.le_of_ble_eq_true rfl⟩ rcM rfl (Nat.le_of_ble_eq_true rfl) dX4_lend_7 ⟨Nat.le_of_ble_eq_true rfl, Nat.le_of_ble_eq_true rfl⟩) ?_
  refine v_if_ne (tgt := 19) C dX4_lend_10 (by decide) (fun _ => ?_) (fun h9 => absurd h9 (by decide))
  refine v_iload_n C 2 dX4_lend_19 rfl ?_
  refine v_iconst (v := 1) C dX4_lend_20 rfl ?_
  refine v_bipush (v := 20) C dX4_lend_21 rfl ?_
  refine go_I (run_S C (c_X4_isIn_1 h3 h4) k_547 k_5 k_545 k_546 dd_X4_isIn ⟨Nat.le_of_ble_eq_true rfl, Nat.le_of_ble_eq_true rfl⟩ rfl (Nat.le_of_ble_eq_true rfl) dX4_lend_23 ⟨Nat.le_of_ble_eq_true rfl, Nat.le_of_ble_eq_true rfl⟩) ?_
  refine v_if_ne (tgt := 35) C dX4_lend_26 (by decide) (fun _ => ?_) (fun h9 => absurd h9 (by decide))
  refine v_bipush (v := 20) C dX4_lend_35 rfl ?_
  refine v_iload_n C 1 dX4_lend_37 rfl ?_
  refine v_imul C dX4_lend_38 ?_
  refine v_topE (ixM rfl rfl) ?_
  refine v_istore_n (lv' := [(3, .int (nI (20 * j))), (0, .ref (rM P)), (1, .int (nI j)), (2, .int q)]) C dX4_lend_39 rfl (by decide) rfl ?_
  refine v_aload_n C 1 dX4_lend_40 rfl ?_
  refine v_gM C 3 (by decide) k_516 rfl dX4_lend_41 ?_
  refine v_iload_n C 0 dX4_lend_44 rfl ?_
  refine v_bipush (v := 8) C dX4_lend_45 rfl ?_
  refine v_iadd C dX4_lend_47 ?_
  refine v_ldAk C ((20 * j) + 8) (by decide) (ixA rfl rfl) (show _ < 240 by omega) rfl dX4_lend_48 ?_
  refine v_iconst (v := 3) C dX4_lend_49 rfl ?_
  refine v_iload_n C 3 dX4_lend_50 rfl ?_
  refine v_imul C dX4_lend_51 ?_
  refine v_iadd C dX4_lend_52 ?_
  refine v_bipush (v := 90) C dX4_lend_53 rfl ?_
  refine v_icmp_le (tgt := 64) C dX4_lend_55 (by decide) (fun _ => ?_) (fun h9 => absurd h h9)
  refine v_aload_n C 1 dX4_lend_64 rfl ?_
  refine v_gM C 3 (by decide) k_516 rfl dX4_lend_65 ?_
  refine v_iload_n C 0 dX4_lend_68 rfl ?_
  refine v_bipush (v := 8) C dX4_lend_69 rfl ?_
  refine v_iadd C dX4_lend_71 ?_
  refine v_dup2 C dX4_lend_72 rfl rfl ?_
  refine v_ldAk C ((20 * j) + 8) (by decide) (ixA rfl rfl) (show _ < 240 by omega) rfl dX4_lend_73 ?_
  refine v_iconst (v := 3) C dX4_lend_74 rfl ?_
  refine v_iload_n C 3 dX4_lend_75 rfl ?_
  refine v_imul C dX4_lend_76 ?_
  refine v_iadd C dX4_lend_77 ?_
  refine v_stAk C ((20 * j) + 8) (by decide) (ixA rfl rfl) (show _ < 240 by omega) rfl dX4_lend_78 ?_
  refine v_aload_n C 1 dX4_lend_79 rfl ?_
  refine v_gM C 3 (by decide) k_516 rfl dX4_lend_80 ?_
  refine v_iload_n C 0 dX4_lend_83 rfl ?_
  refine v_iconst (v := 3) C dX4_lend_84 rfl ?_
  refine v_iadd C dX4_lend_85 ?_
  refine v_dup2 C dX4_lend_86 rfl rfl ?_
  refine v_ldAk C ((20 * j) + 3) (by decide) (ixA rfl rfl) (show _ < 240 by omega) rfl dX4_lend_87 ?_
  refine v_iload_n C 3 dX4_lend_88 rfl ?_
  refine v_iadd C dX4_lend_89 ?_
  refine v_stAk C ((20 * j) + 3) (by decide) (ixA rfl rfl) (show _ < 240 by omega) rfl dX4_lend_90 ?_
  refine v_aload_n C 1 dX4_lend_91 rfl ?_
  refine v_gM C 3 (by decide) k_516 rfl dX4_lend_92 ?_
  refine v_iload_n C 0 dX4_lend_95 rfl ?_
  refine v_bipush (v := 8) C dX4_lend_96 rfl ?_
  refine v_iadd C dX4_lend_98 ?_
  refine v_ldAk C ((20 * j) + 8) (by decide) (ixA rfl rfl) (show _ < 240 by omega) rfl dX4_lend_99 ?_
  exact v_iret C dX4_lend_100 rfl rfl
set_option maxHeartbeats 4000000 in
set_option maxRecDepth 100000 in
theorem c_X4_coal_1 {l : Launch} {P : L5} {D : va_G} {N F T : Nat → Nat → Int32} {K : Nat → Int32} {A : Nat → Nat → Int32} {w : Int64} {c : Nat} (hc : K 2 = nI c) (h12 : c ≤ 12) {p q : Int32} (h : p < 0 ∨ ¬ p < K 2) : CtI l yX4_coal cX4_coal 5 .int 5 0 0 P D 97 97 False (cw P N F T K A w) (cw P N F T (upd K 0 1) A w) [.ref (rM P), .int p, .int q] 0 := by
  refine mk_Met pl_X4 [(0, .ref (rM P)), (1, .int p), (2, .int q)] rfl (Nat.le_of_ble_eq_true rfl) ?_
  intro pg en sg mg ag bg mt cd C
  refine v_aload_n C 0 dX4_coal_0 rfl ?_
  refine v_iconst (v := 0) C dX4_coal_1 rfl ?_
  refine v_pM C 0 (by decide) k_513 dX4_coal_2 ?_
  refine v_aload_n C 0 dX4_coal_5 rfl ?_
  refine v_iload_n C 1 dX4_coal_6 rfl ?_
  refine go_I (run_V C (c_X4_isThere_0 (K := upd K 0 0) hc h12 h) k_559 k_5 k_556 k_558 ks_27 dd_X4_isThere ⟨Nat.le_of_ble_eq_true rfl, Nat.le_of_ble_eq_true rfl⟩ rcM rfl (Nat.le_of_ble_eq_true rfl) dX4_coal_7 ⟨Nat.le_of_ble_eq_true rfl, Nat.le_of_ble_eq_true rfl⟩) ?_
  refine v_if_ne (tgt := 19) C dX4_coal_10 (by decide) (fun h9 => absurd h9 (by decide)) (fun _ => ?_)
  refine v_aload_n C 0 dX4_coal_13 rfl ?_
  refine v_iconst (v := 1) C dX4_coal_14 rfl ?_
  refine go_I (run_V C (c_X4_no) k_551 k_5 k_548 k_550 ks_26 dd_X4_no ⟨Nat.le_of_ble_eq_true rfl, Nat.le_of_ble_eq_true rfl⟩ rcM rfl (Nat.le_of_ble_eq_true rfl) dX4_coal_15 ⟨Nat.le_of_ble_eq_true rfl, Nat.le_of_ble_eq_true rfl⟩) ?_
  exact v_iret C dX4_coal_18 (by rw [updd]) rfl
set_option maxHeartbeats 4000000 in
set_option maxRecDepth 100000 in
theorem c_X4_coal_2 {l : Launch} {P : L5} {D : va_G} {N F T : Nat → Nat → Int32} {K : Nat → Int32} {A : Nat → Nat → Int32} {w : Int64} {c : Nat} (hc : K 2 = nI c) (h12 : c ≤ 12) {j : Nat} (hj : j < c) {q : Int32} (h : q < 1 ∨ 99 < q) : CtI l yX4_coal cX4_coal 5 .int 5 0 0 P D 97 97 False (cw P N F T K A w) (cw P N F T (upd K 0 2) A w) [.ref (rM P), .int (nI j), .int q] 0 := by
  refine mk_Met pl_X4 [(0, .ref (rM P)), (1, .int (nI j)), (2, .int q)] rfl (Nat.le_of_ble_eq_true rfl) ?_
  intro pg en sg mg ag bg mt cd C
  refine v_aload_n C 0 dX4_coal_0 rfl ?_
  refine v_iconst (v := 0) C dX4_coal_1 rfl ?_
  refine v_pM C 0 (by decide) k_513 dX4_coal_2 ?_
  refine v_aload_n C 0 dX4_coal_5 rfl ?_
  refine v_iload_n C 1 dX4_coal_6 rfl ?_
  refine go_I (run_V C (c_X4_isThere_1 (K := upd K 0 0) hc h12 (nIp (by omega)) (thOk hc h12 hj)) k_559 k_5 k_556 k_558 ks_27 dd_X4_isThere ⟨Nat.le_of_ble_eq_true rfl, Nat.le_of_ble_eq_true rfl⟩ rcM rfl (Nat.le_of_ble_eq_true rfl) dX4_coal_7 ⟨Nat.le_of_ble_eq_true rfl, Nat.le_of_ble_eq_true rfl⟩) ?_
  refine v_if_ne (tgt := 19) C dX4_coal_10 (by decide) (fun _ => ?_) (fun h9 => absurd h9 (by decide))
  refine v_iload_n C 2 dX4_coal_19 rfl ?_
  refine v_iconst (v := 1) C dX4_coal_20 rfl ?_
  refine v_bipush (v := 99) C dX4_coal_21 rfl ?_
  refine go_I (run_S C (c_X4_isIn_0 h) k_547 k_5 k_545 k_546 dd_X4_isIn ⟨Nat.le_of_ble_eq_true rfl, Nat.le_of_ble_eq_true rfl⟩ rfl (Nat.le_of_ble_eq_true rfl) dX4_coal_23 ⟨Nat.le_of_ble_eq_true rfl, Nat.le_of_ble_eq_true rfl⟩) ?_
  refine v_if_ne (tgt := 35) C dX4_coal_26 (by decide) (fun h9 => absurd h9 (by decide)) (fun _ => ?_)
  refine v_aload_n C 0 dX4_coal_29 rfl ?_
  refine v_iconst (v := 2) C dX4_coal_30 rfl ?_
  refine go_I (run_V C (c_X4_no) k_551 k_5 k_548 k_550 ks_26 dd_X4_no ⟨Nat.le_of_ble_eq_true rfl, Nat.le_of_ble_eq_true rfl⟩ rcM rfl (Nat.le_of_ble_eq_true rfl) dX4_coal_31 ⟨Nat.le_of_ble_eq_true rfl, Nat.le_of_ble_eq_true rfl⟩) ?_
  exact v_iret C dX4_coal_34 (by rw [updd]) rfl
set_option maxHeartbeats 4000000 in
set_option maxRecDepth 100000 in
theorem c_X4_coal_3 {l : Launch} {P : L5} {D : va_G} {N F T : Nat → Nat → Int32} {K : Nat → Int32} {A : Nat → Nat → Int32} {w : Int64} {c : Nat} (hc : K 2 = nI c) (h12 : c ≤ 12) {j : Nat} (hj : j < c) {q : Int32} (h3 : ¬ q < 1) (h4 : ¬ 99 < q) (h : A 0 (20 * j + 7) < (q + 3) / 4) : CtI l yX4_coal cX4_coal 5 .int 5 0 0 P D 97 97 False (cw P N F T K A w) (cw P N F T (upd K 0 3) A w) [.ref (rM P), .int (nI j), .int q] 0 := by
  refine mk_Met pl_X4 [(0, .ref (rM P)), (1, .int (nI j)), (2, .int q)] rfl (Nat.le_of_ble_eq_true rfl) ?_
  intro pg en sg mg ag bg mt cd C
  refine v_aload_n C 0 dX4_coal_0 rfl ?_
  refine v_iconst (v := 0) C dX4_coal_1 rfl ?_
  refine v_pM C 0 (by decide) k_513 dX4_coal_2 ?_
  refine v_aload_n C 0 dX4_coal_5 rfl ?_
  refine v_iload_n C 1 dX4_coal_6 rfl ?_
  refine go_I (run_V C (c_X4_isThere_1 (K := upd K 0 0) hc h12 (nIp (by omega)) (thOk hc h12 hj)) k_559 k_5 k_556 k_558 ks_27 dd_X4_isThere ⟨Nat.le_of_ble_eq_true rfl, Nat.le_of_ble_eq_true rfl⟩ rcM rfl (Nat.le_of_ble_eq_true rfl) dX4_coal_7 ⟨Nat.le_of_ble_eq_true rfl, Nat.le_of_ble_eq_true rfl⟩) ?_
  refine v_if_ne (tgt := 19) C dX4_coal_10 (by decide) (fun _ => ?_) (fun h9 => absurd h9 (by decide))
  refine v_iload_n C 2 dX4_coal_19 rfl ?_
  refine v_iconst (v := 1) C dX4_coal_20 rfl ?_
  refine v_bipush (v := 99) C dX4_coal_21 rfl ?_
  refine go_I (run_S C (c_X4_isIn_1 h3 h4) k_547 k_5 k_545 k_546 dd_X4_isIn ⟨Nat.le_of_ble_eq_true rfl, Nat.le_of_ble_eq_true rfl⟩ rfl (Nat.le_of_ble_eq_true rfl) dX4_coal_23 ⟨Nat.le_of_ble_eq_true rfl, Nat.le_of_ble_eq_true rfl⟩) ?_
  refine v_if_ne (tgt := 35) C dX4_coal_26 (by decide) (fun _ => ?_) (fun h9 => absurd h9 (by decide))
  refine v_bipush (v := 20) C dX4_coal_35 rfl ?_
  refine v_iload_n C 1 dX4_coal_37 rfl ?_
  refine v_imul C dX4_coal_38 ?_
  refine v_topE (ixM rfl rfl) ?_
  refine v_istore_n (lv' := [(3, .int (nI (20 * j))), (0, .ref (rM P)), (1, .int (nI j)), (2, .int q)]) C dX4_coal_39 rfl (by decide) rfl ?_
  refine v_iload_n C 3 dX4_coal_40 rfl ?_
  refine v_iconst (v := 3) C dX4_coal_41 rfl ?_
  refine v_iadd C dX4_coal_42 ?_
  refine v_iconst (v := 4) C dX4_coal_43 rfl ?_
  refine v_idiv C dX4_coal_44 (by decide) ?_
  refine v_istore (lv' := [(4, .int ((q + 3) / 4)), (3, .int (nI (20 * j))), (0, .ref (rM P)), (1, .int (nI j)), (2, .int q)]) C dX4_coal_45 (by decide) rfl ?_
  refine v_aload_n C 2 dX4_coal_47 rfl ?_
  refine v_gM C 3 (by decide) k_516 rfl dX4_coal_48 ?_
  refine v_iload_n C 1 dX4_coal_51 rfl ?_
  refine v_bipush (v := 7) C dX4_coal_52 rfl ?_
  refine v_iadd C dX4_coal_54 ?_
  refine v_ldAk C ((20 * j) + 7) (by decide) (ixA rfl rfl) (show _ < 240 by omega) rfl dX4_coal_55 ?_
  refine v_iload C 0 dX4_coal_56 rfl ?_
  refine v_icmp_lt (tgt := 77) C dX4_coal_58 (by decide) (fun _ => ?_) (fun h9 => absurd h h9)
  refine v_aload_n C 2 dX4_coal_77 rfl ?_
  refine v_iconst (v := 3) C dX4_coal_78 rfl ?_
  refine go_I (run_V C (c_X4_no) k_551 k_5 k_548 k_550 ks_26 dd_X4_no ⟨Nat.le_of_ble_eq_true rfl, Nat.le_of_ble_eq_true rfl⟩ rcM rfl (Nat.le_of_ble_eq_true rfl) dX4_coal_79 ⟨Nat.le_of_ble_eq_true rfl, Nat.le_of_ble_eq_true rfl⟩) ?_
  exact v_iret C dX4_coal_82 (by rw [updd]) rfl
set_option maxHeartbeats 4000000 in
set_option maxRecDepth 100000 in
theorem c_X4_coal_3b {l : Launch} {P : L5} {D : va_G} {N F T : Nat → Nat → Int32} {K : Nat → Int32} {A : Nat → Nat → Int32} {w : Int64} {c : Nat} (hc : K 2 = nI c) (h12 : c ≤ 12) {j : Nat} (hj : j < c) {q : Int32} (h3 : ¬ q < 1) (h4 : ¬ 99 < q) (h : ¬ A 0 (20 * j + 7) < (q + 3) / 4) (h5 : ¬ A 0 (20 * j + 6) + q ≤ 99) : CtI l yX4_coal cX4_coal 5 .int 5 0 0 P D 97 97 False (cw P N F T K A w) (cw P N F T (upd K 0 3) A w) [.ref (rM P), .int (nI j), .int q] 0 := by
  refine mk_Met pl_X4 [(0, .ref (rM P)), (1, .int (nI j)), (2, .int q)] rfl (Nat.le_of_ble_eq_true rfl) ?_
  intro pg en sg mg ag bg mt cd C
  refine v_aload_n C 0 dX4_coal_0 rfl ?_
  refine v_iconst (v := 0) C dX4_coal_1 rfl ?_
  refine v_pM C 0 (by decide) k_513 dX4_coal_2 ?_
  refine v_aload_n C 0 dX4_coal_5 rfl ?_
  refine v_iload_n C 1 dX4_coal_6 rfl ?_
  refine go_I (run_V C (c_X4_isThere_1 (K := upd K 0 0) hc h12 (nIp (by omega)) (thOk hc h12 hj)) k_559 k_5 k_556 k_558 ks_27 dd_X4_isThere ⟨Nat.le_of_ble_eq_true rfl, Nat.le_of_ble_eq_true rfl⟩ rcM rfl (Nat.le_of_ble_eq_true rfl) dX4_coal_7 ⟨Nat.le_of_ble_eq_true rfl, Nat.le_of_ble_eq_true rfl⟩) ?_
  refine v_if_ne (tgt := 19) C dX4_coal_10 (by decide) (fun _ => ?_) (fun h9 => absurd h9 (by decide))
  refine v_iload_n C 2 dX4_coal_19 rfl ?_
  refine v_iconst (v := 1) C dX4_coal_20 rfl ?_
  refine v_bipush (v := 99) C dX4_coal_21 rfl ?_
  refine go_I (run_S C (c_X4_isIn_1 h3 h4) k_547 k_5 k_545 k_546 dd_X4_isIn ⟨Nat.le_of_ble_eq_true rfl, Nat.le_of_ble_eq_true rfl⟩ rfl (Nat.le_of_ble_eq_true rfl) dX4_coal_23 ⟨Nat.le_of_ble_eq_true rfl, Nat.le_of_ble_eq_true rfl⟩) ?_
  refine v_if_ne (tgt := 35) C dX4_coal_26 (by decide) (fun _ => ?_) (fun h9 => absurd h9 (by decide))
  refine v_bipush (v := 20) C dX4_coal_35 rfl ?_
  refine v_iload_n C 1 dX4_coal_37 rfl ?_
  refine v_imul C dX4_coal_38 ?_
  refine v_topE (ixM rfl rfl) ?_
  refine v_istore_n (lv' := [(3, .int (nI (20 * j))), (0, .ref (rM P)), (1, .int (nI j)), (2, .int q)]) C dX4_coal_39 rfl (by decide) rfl ?_
  refine v_iload_n C 3 dX4_coal_40 rfl ?_
  refine v_iconst (v := 3) C dX4_coal_41 rfl ?_
  refine v_iadd C dX4_coal_42 ?_
  refine v_iconst (v := 4) C dX4_coal_43 rfl ?_
  refine v_idiv C dX4_coal_44 (by decide) ?_
  refine v_istore (lv' := [(4, .int ((q + 3) / 4)), (3, .int (nI (20 * j))), (0, .ref (rM P)), (1, .int (nI j)), (2, .int q)]) C dX4_coal_45 (by decide) rfl ?_
  refine v_aload_n C 2 dX4_coal_47 rfl ?_
  refine v_gM C 3 (by decide) k_516 rfl dX4_coal_48 ?_
  refine v_iload_n C 1 dX4_coal_51 rfl ?_
  refine v_bipush (v := 7) C dX4_coal_52 rfl ?_
  refine v_iadd C dX4_coal_54 ?_
  refine v_ldAk C ((20 * j) + 7) (by decide) (ixA rfl rfl) (show _ < 240 by omega) rfl dX4_coal_55 ?_
  refine v_iload C 0 dX4_coal_56 rfl ?_
  refine v_icmp_lt (tgt := 77) C dX4_coal_58 (by decide) (fun h9 => absurd h9 h) (fun _ => ?_)
  refine v_aload_n C 2 dX4_coal_61 rfl ?_
  refine v_gM C 3 (by decide) k_516 rfl dX4_coal_62 ?_
  refine v_iload_n C 1 dX4_coal_65 rfl ?_
  refine v_bipush (v := 6) C dX4_coal_66 rfl ?_
  refine v_iadd C dX4_coal_68 ?_
  refine v_ldAk C ((20 * j) + 6) (by decide) (ixA rfl rfl) (show _ < 240 by omega) rfl dX4_coal_69 ?_
  refine v_iload_n C 4 dX4_coal_70 rfl ?_
  refine v_iadd C dX4_coal_71 ?_
  refine v_bipush (v := 99) C dX4_coal_72 rfl ?_
  refine v_icmp_le (tgt := 83) C dX4_coal_74 (by decide) (fun h9 => absurd h9 h5) (fun _ => ?_)
  refine v_aload_n C 2 dX4_coal_77 rfl ?_
  refine v_iconst (v := 3) C dX4_coal_78 rfl ?_
  refine go_I (run_V C (c_X4_no) k_551 k_5 k_548 k_550 ks_26 dd_X4_no ⟨Nat.le_of_ble_eq_true rfl, Nat.le_of_ble_eq_true rfl⟩ rcM rfl (Nat.le_of_ble_eq_true rfl) dX4_coal_79 ⟨Nat.le_of_ble_eq_true rfl, Nat.le_of_ble_eq_true rfl⟩) ?_
  exact v_iret C dX4_coal_82 (by rw [updd]) rfl
set_option maxHeartbeats 4000000 in
set_option maxRecDepth 100000 in
theorem c_X4_coal {l : Launch} {P : L5} {D : va_G} {N F T : Nat → Nat → Int32} {K : Nat → Int32} {A : Nat → Nat → Int32} {w : Int64} {c : Nat} (hc : K 2 = nI c) (h12 : c ≤ 12) {j : Nat} (hj : j < c) {q : Int32} (h3 : ¬ q < 1) (h4 : ¬ 99 < q) (h : ¬ A 0 (20 * j + 7) < (q + 3) / 4) (h5 : A 0 (20 * j + 6) + q ≤ 99) : CtI l yX4_coal cX4_coal 5 .int 5 0 0 P D 97 97 False (cw P N F T K A w) (cw P N F T (upd K 0 0) (mCoal A j q) w) [.ref (rM P), .int (nI j), .int q] (mCoal A j q 0 (20 * j + 6)) := by
  refine mk_Met pl_X4 [(0, .ref (rM P)), (1, .int (nI j)), (2, .int q)] rfl (Nat.le_of_ble_eq_true rfl) ?_
  intro pg en sg mg ag bg mt cd C
  refine v_aload_n C 0 dX4_coal_0 rfl ?_
  refine v_iconst (v := 0) C dX4_coal_1 rfl ?_
  refine v_pM C 0 (by decide) k_513 dX4_coal_2 ?_
  refine v_aload_n C 0 dX4_coal_5 rfl ?_
  refine v_iload_n C 1 dX4_coal_6 rfl ?_
  refine go_I (run_V C (c_X4_isThere_1 (K := upd K 0 0) hc h12 (nIp (by omega)) (thOk hc h12 hj)) k_559 k_5 k_556 k_558 ks_27 dd_X4_isThere ⟨Nat.le_of_ble_eq_true rfl, Nat.le_of_ble_eq_true rfl⟩ rcM rfl (Nat.le_of_ble_eq_true rfl) dX4_coal_7 ⟨Nat.le_of_ble_eq_true rfl, Nat.le_of_ble_eq_true rfl⟩) ?_
  refine v_if_ne (tgt := 19) C dX4_coal_10 (by decide) (fun _ => ?_) (fun h9 => absurd h9 (by decide))
  refine v_iload_n C 2 dX4_coal_19 rfl ?_
  refine v_iconst (v := 1) C dX4_coal_20 rfl ?_
  refine v_bipush (v := 99) C dX4_coal_21 rfl ?_
  refine go_I (run_S C (c_X4_isIn_1 h3 h4) k_547 k_5 k_545 k_546 dd_X4_isIn ⟨Nat.le_of_ble_eq_true rfl, Nat.le_of_ble_eq_true rfl⟩ rfl (Nat.le_of_ble_eq_true rfl) dX4_coal_23 ⟨Nat.le_of_ble_eq_true rfl, Nat.le_of_ble_eq_true rfl⟩) ?_
  refine v_if_ne (tgt := 35) C dX4_coal_26 (by decide) (fun _ => ?_) (fun h9 => absurd h9 (by decide))
  refine v_bipush (v := 20) C dX4_coal_35 rfl ?_
  refine v_iload_n C 1 dX4_coal_37 rfl ?_
  refine v_imul C dX4_coal_38 ?_
  refine v_topE (ixM rfl rfl) ?_
  refine v_istore_n (lv' := [(3, .int (nI (20 * j))), (0, .ref (rM P)), (1, .int (nI j)), (2, .int q)]) C dX4_coal_39 rfl (by decide) rfl ?_
  refine v_iload_n C 3 dX4_coal_40 rfl ?_
  refine v_iconst (v := 3) C dX4_coal_41 rfl ?_
  refine v_iadd C dX4_coal_42 ?_
  refine v_iconst (v := 4) C dX4_coal_43 rfl ?_
  refine v_idiv C dX4_coal_44 (by decide) ?_
  refine v_istore (lv' := [(4, .int ((q + 3) / 4)), (3, .int (nI (20 * j))), (0, .ref (rM P)), (1, .int (nI j)), (2, .int q)]) C dX4_coal_45 (by decide) rfl ?_
  refine v_aload_n C 2 dX4_coal_47 rfl ?_
  refine v_gM C 3 (by decide) k_516 rfl dX4_coal_48 ?_
  refine v_iload_n C 1 dX4_coal_51 rfl ?_
  refine v_bipush (v := 7) C dX4_coal_52 rfl ?_
  refine v_iadd C dX4_coal_54 ?_
  refine v_ldAk C ((20 * j) + 7) (by decide) (ixA rfl rfl) (show _ < 240 by omega) rfl dX4_coal_55 ?_
  refine v_iload C 0 dX4_coal_56 rfl ?_
  refine v_icmp_lt (tgt := 77) C dX4_coal_58 (by decide) (fun h9 => absurd h9 h) (fun _ => ?_)
  refine v_aload_n C 2 dX4_coal_61 rfl ?_
  refine v_gM C 3 (by decide) k_516 rfl dX4_coal_62 ?_
  refine v_iload_n C 1 dX4_coal_65 rfl ?_
  refine v_bipush (v := 6) C dX4_coal_66 rfl ?_
  refine v_iadd C dX4_coal_68 ?_
  refine v_ldAk C ((20 * j) + 6) (by decide) (ixA rfl rfl) (show _ < 240 by omega) rfl dX4_coal_69 ?_
  refine v_iload_n C 4 dX4_coal_70 rfl ?_
  refine v_iadd C dX4_coal_71 ?_
  refine v_bipush (v := 99) C dX4_coal_72 rfl ?_
  refine v_icmp_le (tgt := 83) C dX4_coal_74 (by decide) (fun _ => ?_) (fun h9 => absurd h5 h9)
  refine v_aload_n C 2 dX4_coal_83 rfl ?_
  refine v_gM C 3 (by decide) k_516 rfl dX4_coal_84 ?_
  refine v_iload_n C 1 dX4_coal_87 rfl ?_
  refine v_bipush (v := 7) C dX4_coal_88 rfl ?_
  refine v_iadd C dX4_coal_90 ?_
  refine v_dup2 C dX4_coal_91 rfl rfl ?_
  refine v_ldAk C ((20 * j) + 7) (by decide) (ixA rfl rfl) (show _ < 240 by omega) rfl dX4_coal_92 ?_
  refine v_iload C 0 dX4_coal_93 rfl ?_
  refine v_isub C dX4_coal_95 ?_
  refine v_stAk C ((20 * j) + 7) (by decide) (ixA rfl rfl) (show _ < 240 by omega) rfl dX4_coal_96 ?_
  refine v_aload_n C 2 dX4_coal_97 rfl ?_
  refine v_gM C 3 (by decide) k_516 rfl dX4_coal_98 ?_
  refine v_iload_n C 1 dX4_coal_101 rfl ?_
  refine v_bipush (v := 6) C dX4_coal_102 rfl ?_
  refine v_iadd C dX4_coal_104 ?_
  refine v_dup2 C dX4_coal_105 rfl rfl ?_
  refine v_ldAk C ((20 * j) + 6) (by decide) (ixA rfl rfl) (show _ < 240 by omega) rfl dX4_coal_106 ?_
  refine v_iload_n C 4 dX4_coal_107 rfl ?_
  refine v_iadd C dX4_coal_108 ?_
  refine v_stAk C ((20 * j) + 6) (by decide) (ixA rfl rfl) (show _ < 240 by omega) rfl dX4_coal_109 ?_
  refine v_aload_n C 2 dX4_coal_110 rfl ?_
  refine v_gM C 3 (by decide) k_516 rfl dX4_coal_111 ?_
  refine v_iload_n C 1 dX4_coal_114 rfl ?_
  refine v_bipush (v := 6) C dX4_coal_115 rfl ?_
  refine v_iadd C dX4_coal_117 ?_
  refine v_ldAk C ((20 * j) + 6) (by decide) (ixA rfl rfl) (show _ < 240 by omega) rfl dX4_coal_118 ?_
  exact v_iret C dX4_coal_119 rfl rfl
set_option maxHeartbeats 4000000 in
set_option maxRecDepth 100000 in
theorem c_X4_put {l : Launch} {P : L5} {D : va_G} {N F T : Nat → Nat → Int32} {K : Nat → Int32} {A : Nat → Nat → Int32} {w : Int64} {t : Nat} (ht : t < 240) {q : Int32} : CtI l yX4_put cX4_put 4 .int 1 0 0 P D 97 97 False (cw P N F T K A w) (cw P N F T K (sA A 0 t q) w) [.ref (rM P), .int (nI t), .int q] (A 0 t) := by
  refine mk_Met pl_X4 [(0, .ref (rM P)), (1, .int (nI t)), (2, .int q)] rfl (Nat.le_of_ble_eq_true rfl) ?_
  intro pg en sg mg ag bg mt cd C
  refine v_aload_n C 0 dX4_put_0 rfl ?_
  refine v_gM C 3 (by decide) k_516 rfl dX4_put_1 ?_
  refine v_iload_n C 1 dX4_put_4 rfl ?_
  refine v_ldAk C t (by decide) rfl (show _ < 240 by omega) rfl dX4_put_5 ?_
  refine v_top (fun x_1 ex_1 => ?_)
  refine v_istore_n (lv' := [(3, .int x_1), (0, .ref (rM P)), (1, .int (nI t)), (2, .int q)]) C dX4_put_6 rfl (by decide) rfl ?_
  refine v_aload_n C 1 dX4_put_7 rfl ?_
  refine v_gM C 3 (by decide) k_516 rfl dX4_put_8 ?_
  refine v_iload_n C 2 dX4_put_11 rfl ?_
  refine v_iload_n C 3 dX4_put_12 rfl ?_
  refine v_stAk C t (by decide) rfl (show _ < 240 by omega) rfl dX4_put_13 ?_
  refine v_iload_n C 0 dX4_put_14 rfl ?_
  exact v_iret C dX4_put_15 rfl ex_1
set_option maxHeartbeats 4000000 in
set_option maxRecDepth 100000 in
theorem c_X4_make_1 {l : Launch} {P : L5} {D : va_G} {N F T : Nat → Nat → Int32} {K : Nat → Int32} {A : Nat → Nat → Int32} {w : Int64} {c : Nat} (hc : K 2 = nI c) (h12 : c ≤ 12) {p q : Int32} (h : p < 0 ∨ ¬ p < K 2) : CtI l yX4_make cX4_make 3 .int 5 0 0 P D 97 97 False (cw P N F T K A w) (cw P N F T (upd K 0 1) A w) [.ref (rM P), .int p, .int q] 0 := by
  refine mk_Met pl_X4 [(0, .ref (rM P)), (1, .int p), (2, .int q)] rfl (Nat.le_of_ble_eq_true rfl) ?_
  intro pg en sg mg ag bg mt cd C
  refine v_aload_n C 0 dX4_make_0 rfl ?_
  refine v_iconst (v := 0) C dX4_make_1 rfl ?_
  refine v_pM C 0 (by decide) k_513 dX4_make_2 ?_
  refine v_aload_n C 0 dX4_make_5 rfl ?_
  refine v_iload_n C 1 dX4_make_6 rfl ?_
  refine go_I (run_V C (c_X4_isThere_0 (K := upd K 0 0) hc h12 h) k_559 k_5 k_556 k_558 ks_27 dd_X4_isThere ⟨Nat.le_of_ble_eq_true rfl, Nat.le_of_ble_eq_true rfl⟩ rcM rfl (Nat.le_of_ble_eq_true rfl) dX4_make_7 ⟨Nat.le_of_ble_eq_true rfl, Nat.le_of_ble_eq_true rfl⟩) ?_
  refine v_if_eq (tgt := 34) C dX4_make_10 (by decide) (fun _ => ?_) (fun h9 => absurd (by decide) h9)
  refine v_aload_n C 0 dX4_make_34 rfl ?_
  refine v_iconst (v := 1) C dX4_make_35 rfl ?_
  refine go_I (run_V C (c_X4_no) k_551 k_5 k_548 k_550 ks_26 dd_X4_no ⟨Nat.le_of_ble_eq_true rfl, Nat.le_of_ble_eq_true rfl⟩ rcM rfl (Nat.le_of_ble_eq_true rfl) dX4_make_36 ⟨Nat.le_of_ble_eq_true rfl, Nat.le_of_ble_eq_true rfl⟩) ?_
  exact v_iret C dX4_make_39 (by rw [updd]) rfl
set_option maxHeartbeats 4000000 in
set_option maxRecDepth 100000 in
theorem c_X4_make_1b {l : Launch} {P : L5} {D : va_G} {N F T : Nat → Nat → Int32} {K : Nat → Int32} {A : Nat → Nat → Int32} {w : Int64} {c : Nat} (hc : K 2 = nI c) (h12 : c ≤ 12) {j : Nat} (hj : j < c) {q : Int32} (h : q < 0 ∨ 3 < q) : CtI l yX4_make cX4_make 3 .int 5 0 0 P D 97 97 False (cw P N F T K A w) (cw P N F T (upd K 0 1) A w) [.ref (rM P), .int (nI j), .int q] 0 := by
  refine mk_Met pl_X4 [(0, .ref (rM P)), (1, .int (nI j)), (2, .int q)] rfl (Nat.le_of_ble_eq_true rfl) ?_
  intro pg en sg mg ag bg mt cd C
  refine v_aload_n C 0 dX4_make_0 rfl ?_
  refine v_iconst (v := 0) C dX4_make_1 rfl ?_
  refine v_pM C 0 (by decide) k_513 dX4_make_2 ?_
  refine v_aload_n C 0 dX4_make_5 rfl ?_
  refine v_iload_n C 1 dX4_make_6 rfl ?_
  refine go_I (run_V C (c_X4_isThere_1 (K := upd K 0 0) hc h12 (nIp (by omega)) (thOk hc h12 hj)) k_559 k_5 k_556 k_558 ks_27 dd_X4_isThere ⟨Nat.le_of_ble_eq_true rfl, Nat.le_of_ble_eq_true rfl⟩ rcM rfl (Nat.le_of_ble_eq_true rfl) dX4_make_7 ⟨Nat.le_of_ble_eq_true rfl, Nat.le_of_ble_eq_true rfl⟩) ?_
  refine v_if_eq (tgt := 34) C dX4_make_10 (by decide) (fun h9 => absurd h9 (by decide)) (fun _ => ?_)
  refine v_iload_n C 2 dX4_make_13 rfl ?_
  refine go_I (run_S C (c_X4_isFour_0 h) k_544 k_5 k_542 k_543 dd_X4_isFour ⟨Nat.le_of_ble_eq_true rfl, Nat.le_of_ble_eq_true rfl⟩ rfl (Nat.le_of_ble_eq_true rfl) dX4_make_14 ⟨Nat.le_of_ble_eq_true rfl, Nat.le_of_ble_eq_true rfl⟩) ?_
  refine v_if_eq (tgt := 34) C dX4_make_17 (by decide) (fun _ => ?_) (fun h9 => absurd (by decide) h9)
  refine v_aload_n C 0 dX4_make_34 rfl ?_
  refine v_iconst (v := 1) C dX4_make_35 rfl ?_
  refine go_I (run_V C (c_X4_no) k_551 k_5 k_548 k_550 ks_26 dd_X4_no ⟨Nat.le_of_ble_eq_true rfl, Nat.le_of_ble_eq_true rfl⟩ rcM rfl (Nat.le_of_ble_eq_true rfl) dX4_make_36 ⟨Nat.le_of_ble_eq_true rfl, Nat.le_of_ble_eq_true rfl⟩) ?_
  exact v_iret C dX4_make_39 (by rw [updd]) rfl
set_option maxHeartbeats 4000000 in
set_option maxRecDepth 100000 in
theorem c_X4_make {l : Launch} {P : L5} {D : va_G} {N F T : Nat → Nat → Int32} {K : Nat → Int32} {A : Nat → Nat → Int32} {w : Int64} {c : Nat} (hc : K 2 = nI c) (h12 : c ≤ 12) {j : Nat} (hj : j < c) {q : Int32} (h3 : ¬ q < 0) (h4 : ¬ 3 < q) : CtI l yX4_make cX4_make 3 .int 5 0 0 P D 97 97 False (cw P N F T K A w) (cw P N F T (upd K 0 0) (sA A 0 (20 * j + 1) q) w) [.ref (rM P), .int (nI j), .int q] (A 0 (20 * j + 1)) := by
  refine mk_Met pl_X4 [(0, .ref (rM P)), (1, .int (nI j)), (2, .int q)] rfl (Nat.le_of_ble_eq_true rfl) ?_
  intro pg en sg mg ag bg mt cd C
  refine v_aload_n C 0 dX4_make_0 rfl ?_
  refine v_iconst (v := 0) C dX4_make_1 rfl ?_
  refine v_pM C 0 (by decide) k_513 dX4_make_2 ?_
  refine v_aload_n C 0 dX4_make_5 rfl ?_
  refine v_iload_n C 1 dX4_make_6 rfl ?_
  refine go_I (run_V C (c_X4_isThere_1 (K := upd K 0 0) hc h12 (nIp (by omega)) (thOk hc h12 hj)) k_559 k_5 k_556 k_558 ks_27 dd_X4_isThere ⟨Nat.le_of_ble_eq_true rfl, Nat.le_of_ble_eq_true rfl⟩ rcM rfl (Nat.le_of_ble_eq_true rfl) dX4_make_7 ⟨Nat.le_of_ble_eq_true rfl, Nat.le_of_ble_eq_true rfl⟩) ?_
  refine v_if_eq (tgt := 34) C dX4_make_10 (by decide) (fun h9 => absurd h9 (by decide)) (fun _ => ?_)
  refine v_iload_n C 2 dX4_make_13 rfl ?_
  refine go_I (run_S C (c_X4_isFour_1 h3 h4) k_544 k_5 k_542 k_543 dd_X4_isFour ⟨Nat.le_of_ble_eq_true rfl, Nat.le_of_ble_eq_true rfl⟩ rfl (Nat.le_of_ble_eq_true rfl) dX4_make_14 ⟨Nat.le_of_ble_eq_true rfl, Nat.le_of_ble_eq_true rfl⟩) ?_
  refine v_if_eq (tgt := 34) C dX4_make_17 (by decide) (fun h9 => absurd h9 (by decide)) (fun _ => ?_)
  refine v_aload_n C 0 dX4_make_20 rfl ?_
  refine v_bipush (v := 20) C dX4_make_21 rfl ?_
  refine v_iload_n C 1 dX4_make_23 rfl ?_
  refine v_imul C dX4_make_24 ?_
  refine v_iconst (v := 1) C dX4_make_25 rfl ?_
  refine v_iadd C dX4_make_26 ?_
  refine v_topE (b := nI ((20 * j) + 1)) (ixA (ixM rfl rfl) rfl) ?_
  refine v_iload_n C 2 dX4_make_27 rfl ?_
  refine go_I (run_V C (c_X4_put (by omega)) k_571 k_5 k_568 k_570 ks_28 dd_X4_put ⟨Nat.le_of_ble_eq_true rfl, Nat.le_of_ble_eq_true rfl⟩ rcM rfl (Nat.le_of_ble_eq_true rfl) dX4_make_28 ⟨Nat.le_of_ble_eq_true rfl, Nat.le_of_ble_eq_true rfl⟩) ?_
  refine v_goto (tgt := 39) C dX4_make_31 (by decide) ?_
  exact v_iret C dX4_make_39 rfl rfl
set_option maxHeartbeats 4000000 in
set_option maxRecDepth 100000 in
theorem c_X4_change_1 {l : Launch} {P : L5} {D : va_G} {N F T : Nat → Nat → Int32} {K : Nat → Int32} {A : Nat → Nat → Int32} {w : Int64} {c : Nat} (hc : K 2 = nI c) (h12 : c ≤ 12) {p q : Int32} (h : p < 0 ∨ ¬ p < K 2) : CtI l yX4_change cX4_change 3 .int 5 0 0 P D 97 97 False (cw P N F T K A w) (cw P N F T (upd K 0 1) A w) [.ref (rM P), .int p, .int q] 0 := by
  refine mk_Met pl_X4 [(0, .ref (rM P)), (1, .int p), (2, .int q)] rfl (Nat.le_of_ble_eq_true rfl) ?_
  intro pg en sg mg ag bg mt cd C
  refine v_aload_n C 0 dX4_change_0 rfl ?_
  refine v_iconst (v := 0) C dX4_change_1 rfl ?_
  refine v_pM C 0 (by decide) k_513 dX4_change_2 ?_
  refine v_aload_n C 0 dX4_change_5 rfl ?_
  refine v_iload_n C 1 dX4_change_6 rfl ?_
  refine go_I (run_V C (c_X4_isThere_0 (K := upd K 0 0) hc h12 h) k_559 k_5 k_556 k_558 ks_27 dd_X4_isThere ⟨Nat.le_of_ble_eq_true rfl, Nat.le_of_ble_eq_true rfl⟩ rcM rfl (Nat.le_of_ble_eq_true rfl) dX4_change_7 ⟨Nat.le_of_ble_eq_true rfl, Nat.le_of_ble_eq_true rfl⟩) ?_
  refine v_if_eq (tgt := 20) C dX4_change_10 (by decide) (fun _ => ?_) (fun h9 => absurd (by decide) h9)
  refine v_aload_n C 0 dX4_change_20 rfl ?_
  refine v_iconst (v := 1) C dX4_change_21 rfl ?_
  refine go_I (run_V C (c_X4_no) k_551 k_5 k_548 k_550 ks_26 dd_X4_no ⟨Nat.le_of_ble_eq_true rfl, Nat.le_of_ble_eq_true rfl⟩ rcM rfl (Nat.le_of_ble_eq_true rfl) dX4_change_22 ⟨Nat.le_of_ble_eq_true rfl, Nat.le_of_ble_eq_true rfl⟩) ?_
  exact v_iret C dX4_change_25 (by rw [updd]) rfl
set_option maxHeartbeats 4000000 in
set_option maxRecDepth 100000 in
theorem c_X4_change_1b {l : Launch} {P : L5} {D : va_G} {N F T : Nat → Nat → Int32} {K : Nat → Int32} {A : Nat → Nat → Int32} {w : Int64} {c : Nat} (hc : K 2 = nI c) (h12 : c ≤ 12) {j : Nat} (hj : j < c) {q : Int32} (h : q < 0 ∨ 3 < q) : CtI l yX4_change cX4_change 3 .int 5 0 0 P D 97 97 False (cw P N F T K A w) (cw P N F T (upd K 0 1) A w) [.ref (rM P), .int (nI j), .int q] 0 := by
  refine mk_Met pl_X4 [(0, .ref (rM P)), (1, .int (nI j)), (2, .int q)] rfl (Nat.le_of_ble_eq_true rfl) ?_
  intro pg en sg mg ag bg mt cd C
  refine v_aload_n C 0 dX4_change_0 rfl ?_
  refine v_iconst (v := 0) C dX4_change_1 rfl ?_
  refine v_pM C 0 (by decide) k_513 dX4_change_2 ?_
  refine v_aload_n C 0 dX4_change_5 rfl ?_
  refine v_iload_n C 1 dX4_change_6 rfl ?_
  refine go_I (run_V C (c_X4_isThere_1 (K := upd K 0 0) hc h12 (nIp (by omega)) (thOk hc h12 hj)) k_559 k_5 k_556 k_558 ks_27 dd_X4_isThere ⟨Nat.le_of_ble_eq_true rfl, Nat.le_of_ble_eq_true rfl⟩ rcM rfl (Nat.le_of_ble_eq_true rfl) dX4_change_7 ⟨Nat.le_of_ble_eq_true rfl, Nat.le_of_ble_eq_true rfl⟩) ?_
  refine v_if_eq (tgt := 20) C dX4_change_10 (by decide) (fun h9 => absurd h9 (by decide)) (fun _ => ?_)
  refine v_iload_n C 2 dX4_change_13 rfl ?_
  refine go_I (run_S C (c_X4_isFour_0 h) k_544 k_5 k_542 k_543 dd_X4_isFour ⟨Nat.le_of_ble_eq_true rfl, Nat.le_of_ble_eq_true rfl⟩ rfl (Nat.le_of_ble_eq_true rfl) dX4_change_14 ⟨Nat.le_of_ble_eq_true rfl, Nat.le_of_ble_eq_true rfl⟩) ?_
  refine v_if_ne (tgt := 26) C dX4_change_17 (by decide) (fun h9 => absurd h9 (by decide)) (fun _ => ?_)
  refine v_aload_n C 0 dX4_change_20 rfl ?_
  refine v_iconst (v := 1) C dX4_change_21 rfl ?_
  refine go_I (run_V C (c_X4_no) k_551 k_5 k_548 k_550 ks_26 dd_X4_no ⟨Nat.le_of_ble_eq_true rfl, Nat.le_of_ble_eq_true rfl⟩ rcM rfl (Nat.le_of_ble_eq_true rfl) dX4_change_22 ⟨Nat.le_of_ble_eq_true rfl, Nat.le_of_ble_eq_true rfl⟩) ?_
  exact v_iret C dX4_change_25 (by rw [updd]) rfl
set_option maxHeartbeats 4000000 in
set_option maxRecDepth 100000 in
theorem c_X4_change_2 {l : Launch} {P : L5} {D : va_G} {N F T : Nat → Nat → Int32} {K : Nat → Int32} {A : Nat → Nat → Int32} {w : Int64} {c : Nat} (hc : K 2 = nI c) (h12 : c ≤ 12) {j : Nat} (hj : j < c) {q : Int32} (h3 : ¬ q < 0) (h4 : ¬ 3 < q) (h : ¬ A 0 (20 * j + 8) ≤ 0) : CtI l yX4_change cX4_change 3 .int 5 0 0 P D 97 97 False (cw P N F T K A w) (cw P N F T (upd K 0 2) A w) [.ref (rM P), .int (nI j), .int q] 0 := by
  refine mk_Met pl_X4 [(0, .ref (rM P)), (1, .int (nI j)), (2, .int q)] rfl (Nat.le_of_ble_eq_true rfl) ?_
  intro pg en sg mg ag bg mt cd C
  refine v_aload_n C 0 dX4_change_0 rfl ?_
  refine v_iconst (v := 0) C dX4_change_1 rfl ?_
  refine v_pM C 0 (by decide) k_513 dX4_change_2 ?_
  refine v_aload_n C 0 dX4_change_5 rfl ?_
  refine v_iload_n C 1 dX4_change_6 rfl ?_
  refine go_I (run_V C (c_X4_isThere_1 (K := upd K 0 0) hc h12 (nIp (by omega)) (thOk hc h12 hj)) k_559 k_5 k_556 k_558 ks_27 dd_X4_isThere ⟨Nat.le_of_ble_eq_true rfl, Nat.le_of_ble_eq_true rfl⟩ rcM rfl (Nat.le_of_ble_eq_true rfl) dX4_change_7 ⟨Nat.le_of_ble_eq_true rfl, Nat.le_of_ble_eq_true rfl⟩) ?_
  refine v_if_eq (tgt := 20) C dX4_change_10 (by decide) (fun h9 => absurd h9 (by decide)) (fun _ => ?_)
  refine v_iload_n C 2 dX4_change_13 rfl ?_
  refine go_I (run_S C (c_X4_isFour_1 h3 h4) k_544 k_5 k_542 k_543 dd_X4_isFour ⟨Nat.le_of_ble_eq_true rfl, Nat.le_of_ble_eq_true rfl⟩ rfl (Nat.le_of_ble_eq_true rfl) dX4_change_14 ⟨Nat.le_of_ble_eq_true rfl, Nat.le_of_ble_eq_true rfl⟩) ?_
  refine v_if_ne (tgt := 26) C dX4_change_17 (by decide) (fun _ => ?_) (fun h9 => absurd h9 (by decide))
  refine v_aload_n C 0 dX4_change_26 rfl ?_
  refine v_gM C 3 (by decide) k_516 rfl dX4_change_27 ?_
  refine v_bipush (v := 20) C dX4_change_30 rfl ?_
  refine v_iload_n C 1 dX4_change_32 rfl ?_
  refine v_imul C dX4_change_33 ?_
  refine v_bipush (v := 8) C dX4_change_34 rfl ?_
  refine v_iadd C dX4_change_36 ?_
  refine v_ldAk C ((20 * j) + 8) (by decide) (ixA (ixM rfl rfl) rfl) (show _ < 240 by omega) rfl dX4_change_37 ?_
  refine v_if_le (tgt := 49) C dX4_change_38 (by decide) (fun h9 => absurd h9 h) (fun _ => ?_)
  refine v_aload_n C 0 dX4_change_41 rfl ?_
  refine v_iconst (v := 2) C dX4_change_42 rfl ?_
  refine go_I (run_V C (c_X4_no) k_551 k_5 k_548 k_550 ks_26 dd_X4_no ⟨Nat.le_of_ble_eq_true rfl, Nat.le_of_ble_eq_true rfl⟩ rcM rfl (Nat.le_of_ble_eq_true rfl) dX4_change_43 ⟨Nat.le_of_ble_eq_true rfl, Nat.le_of_ble_eq_true rfl⟩) ?_
  refine v_goto (tgt := 60) C dX4_change_46 (by decide) ?_
  exact v_iret C dX4_change_60 (by rw [updd]) rfl
set_option maxHeartbeats 4000000 in
set_option maxRecDepth 100000 in
theorem c_X4_change {l : Launch} {P : L5} {D : va_G} {N F T : Nat → Nat → Int32} {K : Nat → Int32} {A : Nat → Nat → Int32} {w : Int64} {c : Nat} (hc : K 2 = nI c) (h12 : c ≤ 12) {j : Nat} (hj : j < c) {q : Int32} (h3 : ¬ q < 0) (h4 : ¬ 3 < q) (h : A 0 (20 * j + 8) ≤ 0) : CtI l yX4_change cX4_change 3 .int 5 0 0 P D 97 97 False (cw P N F T K A w) (cw P N F T (upd K 0 0) (sA A 0 (20 * j + 2) q) w) [.ref (rM P), .int (nI j), .int q] (A 0 (20 * j + 2)) := by
  refine mk_Met pl_X4 [(0, .ref (rM P)), (1, .int (nI j)), (2, .int q)] rfl (Nat.le_of_ble_eq_true rfl) ?_
  intro pg en sg mg ag bg mt cd C
  refine v_aload_n C 0 dX4_change_0 rfl ?_
  refine v_iconst (v := 0) C dX4_change_1 rfl ?_
  refine v_pM C 0 (by decide) k_513 dX4_change_2 ?_
  refine v_aload_n C 0 dX4_change_5 rfl ?_
  refine v_iload_n C 1 dX4_change_6 rfl ?_
  refine go_I (run_V C (c_X4_isThere_1 (K := upd K 0 0) hc h12 (nIp (by omega)) (thOk hc h12 hj)) k_559 k_5 k_556 k_558 ks_27 dd_X4_isThere ⟨Nat.le_of_ble_eq_true rfl, Nat.le_of_ble_eq_true rfl⟩ rcM rfl (Nat.le_of_ble_eq_true rfl) dX4_change_7 ⟨Nat.le_of_ble_eq_true rfl, Nat.le_of_ble_eq_true rfl⟩) ?_
  refine v_if_eq (tgt := 20) C dX4_change_10 (by decide) (fun h9 => absurd h9 (by decide)) (fun _ => ?_)
  refine v_iload_n C 2 dX4_change_13 rfl ?_
  refine go_I (run_S C (c_X4_isFour_1 h3 h4) k_544 k_5 k_542 k_543 dd_X4_isFour ⟨Nat.le_of_ble_eq_true rfl, Nat.le_of_ble_eq_true rfl⟩ rfl (Nat.le_of_ble_eq_true rfl) dX4_change_14 ⟨Nat.le_of_ble_eq_true rfl, Nat.le_of_ble_eq_true rfl⟩) ?_
  refine v_if_ne (tgt := 26) C dX4_change_17 (by decide) (fun _ => ?_) (fun h9 => absurd h9 (by decide))
  refine v_aload_n C 0 dX4_change_26 rfl ?_
  refine v_gM C 3 (by decide) k_516 rfl dX4_change_27 ?_
  refine v_bipush (v := 20) C dX4_change_30 rfl ?_
  refine v_iload_n C 1 dX4_change_32 rfl ?_
  refine v_imul C dX4_change_33 ?_
  refine v_bipush (v := 8) C dX4_change_34 rfl ?_
  refine v_iadd C dX4_change_36 ?_
  refine v_ldAk C ((20 * j) + 8) (by decide) (ixA (ixM rfl rfl) rfl) (show _ < 240 by omega) rfl dX4_change_37 ?_
  refine v_if_le (tgt := 49) C dX4_change_38 (by decide) (fun _ => ?_) (fun h9 => absurd h h9)
  refine v_aload_n C 0 dX4_change_49 rfl ?_
  refine v_bipush (v := 20) C dX4_change_50 rfl ?_
  refine v_iload_n C 1 dX4_change_52 rfl ?_
  refine v_imul C dX4_change_53 ?_
  refine v_iconst (v := 2) C dX4_change_54 rfl ?_
  refine v_iadd C dX4_change_55 ?_
  refine v_topE (b := nI ((20 * j) + 2)) (ixA (ixM rfl rfl) rfl) ?_
  refine v_iload_n C 2 dX4_change_56 rfl ?_
  refine go_I (run_V C (c_X4_put (by omega)) k_571 k_5 k_568 k_570 ks_28 dd_X4_put ⟨Nat.le_of_ble_eq_true rfl, Nat.le_of_ble_eq_true rfl⟩ rcM rfl (Nat.le_of_ble_eq_true rfl) dX4_change_57 ⟨Nat.le_of_ble_eq_true rfl, Nat.le_of_ble_eq_true rfl⟩) ?_
  exact v_iret C dX4_change_60 rfl rfl
set_option maxHeartbeats 4000000 in
set_option maxRecDepth 100000 in
theorem c_X4_told_1 {l : Launch} {P : L5} {D : va_G} {N F T : Nat → Nat → Int32} {K : Nat → Int32} {A : Nat → Nat → Int32} {w : Int64} {c : Nat} (hc : K 2 = nI c) (h12 : c ≤ 12) {p q : Int32} (h : p < 0 ∨ ¬ p < K 2) : CtI l yX4_told cX4_told 3 .int 5 0 0 P D 97 97 False (cw P N F T K A w) (cw P N F T (upd K 0 1) A w) [.ref (rM P), .int p, .int q] 0 := by
  refine mk_Met pl_X4 [(0, .ref (rM P)), (1, .int p), (2, .int q)] rfl (Nat.le_of_ble_eq_true rfl) ?_
  intro pg en sg mg ag bg mt cd C
  refine v_aload_n C 0 dX4_told_0 rfl ?_
  refine v_iconst (v := 0) C dX4_told_1 rfl ?_
  refine v_pM C 0 (by decide) k_513 dX4_told_2 ?_
  refine v_aload_n C 0 dX4_told_5 rfl ?_
  refine v_iload_n C 1 dX4_told_6 rfl ?_
  refine go_I (run_V C (c_X4_isThere_0 (K := upd K 0 0) hc h12 h) k_559 k_5 k_556 k_558 ks_27 dd_X4_isThere ⟨Nat.le_of_ble_eq_true rfl, Nat.le_of_ble_eq_true rfl⟩ rcM rfl (Nat.le_of_ble_eq_true rfl) dX4_told_7 ⟨Nat.le_of_ble_eq_true rfl, Nat.le_of_ble_eq_true rfl⟩) ?_
  refine v_if_eq (tgt := 37) C dX4_told_10 (by decide) (fun _ => ?_) (fun h9 => absurd (by decide) h9)
  refine v_aload_n C 0 dX4_told_37 rfl ?_
  refine v_iconst (v := 1) C dX4_told_38 rfl ?_
  refine go_I (run_V C (c_X4_no) k_551 k_5 k_548 k_550 ks_26 dd_X4_no ⟨Nat.le_of_ble_eq_true rfl, Nat.le_of_ble_eq_true rfl⟩ rcM rfl (Nat.le_of_ble_eq_true rfl) dX4_told_39 ⟨Nat.le_of_ble_eq_true rfl, Nat.le_of_ble_eq_true rfl⟩) ?_
  exact v_iret C dX4_told_42 (by rw [updd]) rfl
set_option maxHeartbeats 4000000 in
set_option maxRecDepth 100000 in
theorem c_X4_told_1b {l : Launch} {P : L5} {D : va_G} {N F T : Nat → Nat → Int32} {K : Nat → Int32} {A : Nat → Nat → Int32} {w : Int64} {c : Nat} (hc : K 2 = nI c) (h12 : c ≤ 12) {j : Nat} (hj : j < c) {q : Int32} (h : q < 0 ∨ 11 < q) : CtI l yX4_told cX4_told 3 .int 5 0 0 P D 97 97 False (cw P N F T K A w) (cw P N F T (upd K 0 1) A w) [.ref (rM P), .int (nI j), .int q] 0 := by
  refine mk_Met pl_X4 [(0, .ref (rM P)), (1, .int (nI j)), (2, .int q)] rfl (Nat.le_of_ble_eq_true rfl) ?_
  intro pg en sg mg ag bg mt cd C
  refine v_aload_n C 0 dX4_told_0 rfl ?_
  refine v_iconst (v := 0) C dX4_told_1 rfl ?_
  refine v_pM C 0 (by decide) k_513 dX4_told_2 ?_
  refine v_aload_n C 0 dX4_told_5 rfl ?_
  refine v_iload_n C 1 dX4_told_6 rfl ?_
  refine go_I (run_V C (c_X4_isThere_1 (K := upd K 0 0) hc h12 (nIp (by omega)) (thOk hc h12 hj)) k_559 k_5 k_556 k_558 ks_27 dd_X4_isThere ⟨Nat.le_of_ble_eq_true rfl, Nat.le_of_ble_eq_true rfl⟩ rcM rfl (Nat.le_of_ble_eq_true rfl) dX4_told_7 ⟨Nat.le_of_ble_eq_true rfl, Nat.le_of_ble_eq_true rfl⟩) ?_
  refine v_if_eq (tgt := 37) C dX4_told_10 (by decide) (fun h9 => absurd h9 (by decide)) (fun _ => ?_)
  refine v_iload_n C 2 dX4_told_13 rfl ?_
  refine v_iconst (v := 0) C dX4_told_14 rfl ?_
  refine v_bipush (v := 11) C dX4_told_15 rfl ?_
  refine go_I (run_S C (c_X4_isIn_0 h) k_547 k_5 k_545 k_546 dd_X4_isIn ⟨Nat.le_of_ble_eq_true rfl, Nat.le_of_ble_eq_true rfl⟩ rfl (Nat.le_of_ble_eq_true rfl) dX4_told_17 ⟨Nat.le_of_ble_eq_true rfl, Nat.le_of_ble_eq_true rfl⟩) ?_
  refine v_if_eq (tgt := 37) C dX4_told_20 (by decide) (fun _ => ?_) (fun h9 => absurd (by decide) h9)
  refine v_aload_n C 0 dX4_told_37 rfl ?_
  refine v_iconst (v := 1) C dX4_told_38 rfl ?_
  refine go_I (run_V C (c_X4_no) k_551 k_5 k_548 k_550 ks_26 dd_X4_no ⟨Nat.le_of_ble_eq_true rfl, Nat.le_of_ble_eq_true rfl⟩ rcM rfl (Nat.le_of_ble_eq_true rfl) dX4_told_39 ⟨Nat.le_of_ble_eq_true rfl, Nat.le_of_ble_eq_true rfl⟩) ?_
  exact v_iret C dX4_told_42 (by rw [updd]) rfl
set_option maxHeartbeats 4000000 in
set_option maxRecDepth 100000 in
theorem c_X4_told {l : Launch} {P : L5} {D : va_G} {N F T : Nat → Nat → Int32} {K : Nat → Int32} {A : Nat → Nat → Int32} {w : Int64} {c : Nat} (hc : K 2 = nI c) (h12 : c ≤ 12) {j : Nat} (hj : j < c) {k : Nat} (hk : k < 12) : CtI l yX4_told cX4_told 3 .int 5 0 0 P D 97 97 False (cw P N F T K A w) (cw P N F T (upd K 0 0) A w) [.ref (rM P), .int (nI j), .int (nI k)] (A 0 (20 * j + k)) := by
  refine mk_Met pl_X4 [(0, .ref (rM P)), (1, .int (nI j)), (2, .int (nI k))] rfl (Nat.le_of_ble_eq_true rfl) ?_
  intro pg en sg mg ag bg mt cd C
  refine v_aload_n C 0 dX4_told_0 rfl ?_
  refine v_iconst (v := 0) C dX4_told_1 rfl ?_
  refine v_pM C 0 (by decide) k_513 dX4_told_2 ?_
  refine v_aload_n C 0 dX4_told_5 rfl ?_
  refine v_iload_n C 1 dX4_told_6 rfl ?_
  refine go_I (run_V C (c_X4_isThere_1 (K := upd K 0 0) hc h12 (nIp (by omega)) (thOk hc h12 hj)) k_559 k_5 k_556 k_558 ks_27 dd_X4_isThere ⟨Nat.le_of_ble_eq_true rfl, Nat.le_of_ble_eq_true rfl⟩ rcM rfl (Nat.le_of_ble_eq_true rfl) dX4_told_7 ⟨Nat.le_of_ble_eq_true rfl, Nat.le_of_ble_eq_true rfl⟩) ?_
  refine v_if_eq (tgt := 37) C dX4_told_10 (by decide) (fun h9 => absurd h9 (by decide)) (fun _ => ?_)
  refine v_iload_n C 2 dX4_told_13 rfl ?_
  refine v_iconst (v := 0) C dX4_told_14 rfl ?_
  refine v_bipush (v := 11) C dX4_told_15 rfl ?_
  refine go_I (run_S C (c_X4_isIn_1 (nIp (by omega)) (nIm (m := 11) (by omega) (by omega))) k_547 k_5 k_545 k_546 dd_X4_isIn ⟨Nat.le_of_ble_eq_true rfl, Nat.le_of_ble_eq_true rfl⟩ rfl (Nat.le_of_ble_eq_true rfl) dX4_told_17 ⟨Nat.le_of_ble_eq_true rfl, Nat.le_of_ble_eq_true rfl⟩) ?_
  refine v_if_eq (tgt := 37) C dX4_told_20 (by decide) (fun h9 => absurd h9 (by decide)) (fun _ => ?_)
  refine v_aload_n C 0 dX4_told_23 rfl ?_
  refine v_gM C 3 (by decide) k_516 rfl dX4_told_24 ?_
  refine v_bipush (v := 20) C dX4_told_27 rfl ?_
  refine v_iload_n C 1 dX4_told_29 rfl ?_
  refine v_imul C dX4_told_30 ?_
  refine v_iload_n C 2 dX4_told_31 rfl ?_
  refine v_iadd C dX4_told_32 ?_
  refine v_ldAk C ((20 * j) + k) (by decide) (ixA (ixM rfl rfl) rfl) (show _ < 240 by omega) rfl dX4_told_33 ?_
  refine v_goto (tgt := 42) C dX4_told_34 (by decide) ?_
  exact v_iret C dX4_told_42 rfl rfl
set_option maxHeartbeats 4000000 in
set_option maxRecDepth 100000 in
theorem c_X4_nails_1 {l : Launch} {P : L5} {D : va_G} {N F T : Nat → Nat → Int32} {K : Nat → Int32} {A : Nat → Nat → Int32} {w : Int64} {c : Nat} (hc : K 2 = nI c) (h12 : c ≤ 12) {p q u : Int32} (h : p < 0 ∨ ¬ p < K 2) : CtI l yX4_nails cX4_nails 4 .int 5 0 0 P D 97 97 False (cw P N F T K A w) (cw P N F T (upd K 0 1) A w) [.ref (rM P), .int p, .int q, .int u] 0 := by
  refine mk_Met pl_X4 [(0, .ref (rM P)), (1, .int p), (2, .int q), (3, .int u)] rfl (Nat.le_of_ble_eq_true rfl) ?_
  intro pg en sg mg ag bg mt cd C
  refine v_aload_n C 0 dX4_nails_0 rfl ?_
  refine v_iconst (v := 0) C dX4_nails_1 rfl ?_
  refine v_pM C 0 (by decide) k_513 dX4_nails_2 ?_
  refine v_aload_n C 0 dX4_nails_5 rfl ?_
  refine v_iload_n C 1 dX4_nails_6 rfl ?_
  refine go_I (run_V C (c_X4_isThere_0 (K := upd K 0 0) hc h12 h) k_559 k_5 k_556 k_558 ks_27 dd_X4_isThere ⟨Nat.le_of_ble_eq_true rfl, Nat.le_of_ble_eq_true rfl⟩ rcM rfl (Nat.le_of_ble_eq_true rfl) dX4_nails_7 ⟨Nat.le_of_ble_eq_true rfl, Nat.le_of_ble_eq_true rfl⟩) ?_
  refine v_if_eq (tgt := 50) C dX4_nails_10 (by decide) (fun _ => ?_) (fun h9 => absurd (by decide) h9)
  refine v_aload_n C 0 dX4_nails_50 rfl ?_
  refine v_iconst (v := 1) C dX4_nails_51 rfl ?_
  refine go_I (run_V C (c_X4_no) k_551 k_5 k_548 k_550 ks_26 dd_X4_no ⟨Nat.le_of_ble_eq_true rfl, Nat.le_of_ble_eq_true rfl⟩ rcM rfl (Nat.le_of_ble_eq_true rfl) dX4_nails_52 ⟨Nat.le_of_ble_eq_true rfl, Nat.le_of_ble_eq_true rfl⟩) ?_
  exact v_iret C dX4_nails_55 (by rw [updd]) rfl
set_option maxHeartbeats 4000000 in
set_option maxRecDepth 100000 in
theorem c_X4_nails_1b {l : Launch} {P : L5} {D : va_G} {N F T : Nat → Nat → Int32} {K : Nat → Int32} {A : Nat → Nat → Int32} {w : Int64} {c : Nat} (hc : K 2 = nI c) (h12 : c ≤ 12) {j : Nat} (hj : j < c) {q u : Int32} (h : q < 0 ∨ 3 < q) : CtI l yX4_nails cX4_nails 4 .int 5 0 0 P D 97 97 False (cw P N F T K A w) (cw P N F T (upd K 0 1) A w) [.ref (rM P), .int (nI j), .int q, .int u] 0 := by
  refine mk_Met pl_X4 [(0, .ref (rM P)), (1, .int (nI j)), (2, .int q), (3, .int u)] rfl (Nat.le_of_ble_eq_true rfl) ?_
  intro pg en sg mg ag bg mt cd C
  refine v_aload_n C 0 dX4_nails_0 rfl ?_
  refine v_iconst (v := 0) C dX4_nails_1 rfl ?_
  refine v_pM C 0 (by decide) k_513 dX4_nails_2 ?_
  refine v_aload_n C 0 dX4_nails_5 rfl ?_
  refine v_iload_n C 1 dX4_nails_6 rfl ?_
  refine go_I (run_V C (c_X4_isThere_1 (K := upd K 0 0) hc h12 (nIp (by omega)) (thOk hc h12 hj)) k_559 k_5 k_556 k_558 ks_27 dd_X4_isThere ⟨Nat.le_of_ble_eq_true rfl, Nat.le_of_ble_eq_true rfl⟩ rcM rfl (Nat.le_of_ble_eq_true rfl) dX4_nails_7 ⟨Nat.le_of_ble_eq_true rfl, Nat.le_of_ble_eq_true rfl⟩) ?_
  refine v_if_eq (tgt := 50) C dX4_nails_10 (by decide) (fun h9 => absurd h9 (by decide)) (fun _ => ?_)
  refine v_iload_n C 2 dX4_nails_13 rfl ?_
  refine go_I (run_S C (c_X4_isFour_0 h) k_544 k_5 k_542 k_543 dd_X4_isFour ⟨Nat.le_of_ble_eq_true rfl, Nat.le_of_ble_eq_true rfl⟩ rfl (Nat.le_of_ble_eq_true rfl) dX4_nails_14 ⟨Nat.le_of_ble_eq_true rfl, Nat.le_of_ble_eq_true rfl⟩) ?_
  refine v_if_eq (tgt := 50) C dX4_nails_17 (by decide) (fun _ => ?_) (fun h9 => absurd (by decide) h9)
  refine v_aload_n C 0 dX4_nails_50 rfl ?_
  refine v_iconst (v := 1) C dX4_nails_51 rfl ?_
  refine go_I (run_V C (c_X4_no) k_551 k_5 k_548 k_550 ks_26 dd_X4_no ⟨Nat.le_of_ble_eq_true rfl, Nat.le_of_ble_eq_true rfl⟩ rcM rfl (Nat.le_of_ble_eq_true rfl) dX4_nails_52 ⟨Nat.le_of_ble_eq_true rfl, Nat.le_of_ble_eq_true rfl⟩) ?_
  exact v_iret C dX4_nails_55 (by rw [updd]) rfl
set_option maxHeartbeats 4000000 in
set_option maxRecDepth 100000 in
theorem c_X4_nails_1c {l : Launch} {P : L5} {D : va_G} {N F T : Nat → Nat → Int32} {K : Nat → Int32} {A : Nat → Nat → Int32} {w : Int64} {c : Nat} (hc : K 2 = nI c) (h12 : c ≤ 12) {j : Nat} (hj : j < c) {q u : Int32} (h3 : ¬ q < 0) (h4 : ¬ 3 < q) (h : u < 0 ∨ 1 < u) : CtI l yX4_nails cX4_nails 4 .int 5 0 0 P D 97 97 False (cw P N F T K A w) (cw P N F T (upd K 0 1) A w) [.ref (rM P), .int (nI j), .int q, .int u] 0 := by
  refine mk_Met pl_X4 [(0, .ref (rM P)), (1, .int (nI j)), (2, .int q), (3, .int u)] rfl (Nat.le_of_ble_eq_true rfl) ?_
  intro pg en sg mg ag bg mt cd C
  refine v_aload_n C 0 dX4_nails_0 rfl ?_
  refine v_iconst (v := 0) C dX4_nails_1 rfl ?_
  refine v_pM C 0 (by decide) k_513 dX4_nails_2 ?_
  refine v_aload_n C 0 dX4_nails_5 rfl ?_
  refine v_iload_n C 1 dX4_nails_6 rfl ?_
  refine go_I (run_V C (c_X4_isThere_1 (K := upd K 0 0) hc h12 (nIp (by omega)) (thOk hc h12 hj)) k_559 k_5 k_556 k_558 ks_27 dd_X4_isThere ⟨Nat.le_of_ble_eq_true rfl, Nat.le_of_ble_eq_true rfl⟩ rcM rfl (Nat.le_of_ble_eq_true rfl) dX4_nails_7 ⟨Nat.le_of_ble_eq_true rfl, Nat.le_of_ble_eq_true rfl⟩) ?_
  refine v_if_eq (tgt := 50) C dX4_nails_10 (by decide) (fun h9 => absurd h9 (by decide)) (fun _ => ?_)
  refine v_iload_n C 2 dX4_nails_13 rfl ?_
  refine go_I (run_S C (c_X4_isFour_1 h3 h4) k_544 k_5 k_542 k_543 dd_X4_isFour ⟨Nat.le_of_ble_eq_true rfl, Nat.le_of_ble_eq_true rfl⟩ rfl (Nat.le_of_ble_eq_true rfl) dX4_nails_14 ⟨Nat.le_of_ble_eq_true rfl, Nat.le_of_ble_eq_true rfl⟩) ?_
  refine v_if_eq (tgt := 50) C dX4_nails_17 (by decide) (fun h9 => absurd h9 (by decide)) (fun _ => ?_)
  refine v_iload_n C 3 dX4_nails_20 rfl ?_
  refine v_iconst (v := 0) C dX4_nails_21 rfl ?_
  refine v_iconst (v := 1) C dX4_nails_22 rfl ?_
  refine go_I (run_S C (c_X4_isIn_0 h) k_547 k_5 k_545 k_546 dd_X4_isIn ⟨Nat.le_of_ble_eq_true rfl, Nat.le_of_ble_eq_true rfl⟩ rfl (Nat.le_of_ble_eq_true rfl) dX4_nails_23 ⟨Nat.le_of_ble_eq_true rfl, Nat.le_of_ble_eq_true rfl⟩) ?_
  refine v_if_eq (tgt := 50) C dX4_nails_26 (by decide) (fun _ => ?_) (fun h9 => absurd (by decide) h9)
  refine v_aload_n C 0 dX4_nails_50 rfl ?_
  refine v_iconst (v := 1) C dX4_nails_51 rfl ?_
  refine go_I (run_V C (c_X4_no) k_551 k_5 k_548 k_550 ks_26 dd_X4_no ⟨Nat.le_of_ble_eq_true rfl, Nat.le_of_ble_eq_true rfl⟩ rcM rfl (Nat.le_of_ble_eq_true rfl) dX4_nails_52 ⟨Nat.le_of_ble_eq_true rfl, Nat.le_of_ble_eq_true rfl⟩) ?_
  exact v_iret C dX4_nails_55 (by rw [updd]) rfl
set_option maxHeartbeats 4000000 in
set_option maxRecDepth 100000 in
theorem c_X4_nails {l : Launch} {P : L5} {D : va_G} {N F T : Nat → Nat → Int32} {K : Nat → Int32} {A : Nat → Nat → Int32} {w : Int64} {c : Nat} (hc : K 2 = nI c) (h12 : c ≤ 12) {j : Nat} (hj : j < c) {k u : Nat} (hk : k < 4) (hu : u < 2) : CtI l yX4_nails cX4_nails 4 .int 5 0 0 P D 97 97 False (cw P N F T K A w) (cw P N F T (upd K 0 0) A w) [.ref (rM P), .int (nI j), .int (nI k), .int (nI u)] (A 0 (20 * j + (12 + 4 * u + k))) := by
  refine mk_Met pl_X4 [(0, .ref (rM P)), (1, .int (nI j)), (2, .int (nI k)), (3, .int (nI u))] rfl (Nat.le_of_ble_eq_true rfl) ?_
  intro pg en sg mg ag bg mt cd C
  refine v_aload_n C 0 dX4_nails_0 rfl ?_
  refine v_iconst (v := 0) C dX4_nails_1 rfl ?_
  refine v_pM C 0 (by decide) k_513 dX4_nails_2 ?_
  refine v_aload_n C 0 dX4_nails_5 rfl ?_
  refine v_iload_n C 1 dX4_nails_6 rfl ?_
  refine go_I (run_V C (c_X4_isThere_1 (K := upd K 0 0) hc h12 (nIp (by omega)) (thOk hc h12 hj)) k_559 k_5 k_556 k_558 ks_27 dd_X4_isThere ⟨Nat.le_of_ble_eq_true rfl, Nat.le_of_ble_eq_true rfl⟩ rcM rfl (Nat.le_of_ble_eq_true rfl) dX4_nails_7 ⟨Nat.le_of_ble_eq_true rfl, Nat.le_of_ble_eq_true rfl⟩) ?_
  refine v_if_eq (tgt := 50) C dX4_nails_10 (by decide) (fun h9 => absurd h9 (by decide)) (fun _ => ?_)
  refine v_iload_n C 2 dX4_nails_13 rfl ?_
  refine go_I (run_S C (c_X4_isFour_1 (nIp (by omega)) (nI3 hk)) k_544 k_5 k_542 k_543 dd_X4_isFour ⟨Nat.le_of_ble_eq_true rfl, Nat.le_of_ble_eq_true rfl⟩ rfl (Nat.le_of_ble_eq_true rfl) dX4_nails_14 ⟨Nat.le_of_ble_eq_true rfl, Nat.le_of_ble_eq_true rfl⟩) ?_
  refine v_if_eq (tgt := 50) C dX4_nails_17 (by decide) (fun h9 => absurd h9 (by decide)) (fun _ => ?_)
  refine v_iload_n C 3 dX4_nails_20 rfl ?_
  refine v_iconst (v := 0) C dX4_nails_21 rfl ?_
  refine v_iconst (v := 1) C dX4_nails_22 rfl ?_
  refine go_I (run_S C (c_X4_isIn_1 (nIp (by omega)) (nIm (m := 1) (by omega) (by omega))) k_547 k_5 k_545 k_546 dd_X4_isIn ⟨Nat.le_of_ble_eq_true rfl, Nat.le_of_ble_eq_true rfl⟩ rfl (Nat.le_of_ble_eq_true rfl) dX4_nails_23 ⟨Nat.le_of_ble_eq_true rfl, Nat.le_of_ble_eq_true rfl⟩) ?_
  refine v_if_eq (tgt := 50) C dX4_nails_26 (by decide) (fun h9 => absurd h9 (by decide)) (fun _ => ?_)
  refine v_aload_n C 0 dX4_nails_29 rfl ?_
  refine v_gM C 3 (by decide) k_516 rfl dX4_nails_30 ?_
  refine v_bipush (v := 20) C dX4_nails_33 rfl ?_
  refine v_iload_n C 1 dX4_nails_35 rfl ?_
  refine v_imul C dX4_nails_36 ?_
  refine v_bipush (v := 12) C dX4_nails_37 rfl ?_
  refine v_iadd C dX4_nails_39 ?_
  refine v_iconst (v := 4) C dX4_nails_40 rfl ?_
  refine v_iload_n C 3 dX4_nails_41 rfl ?_
  refine v_imul C dX4_nails_42 ?_
  refine v_iadd C dX4_nails_43 ?_
  refine v_iload_n C 2 dX4_nails_44 rfl ?_
  refine v_iadd C dX4_nails_45 ?_
  refine v_ldAk C ((20 * j) + ((12 + (4 * u)) + k)) (by decide) (ixB (ixB (ixA (ixM rfl rfl) rfl) (ixM rfl rfl)) rfl) (show _ < 240 by omega) rfl dX4_nails_46 ?_
  refine v_goto (tgt := 55) C dX4_nails_47 (by decide) ?_
  exact v_iret C dX4_nails_55 rfl rfl
set_option maxHeartbeats 4000000 in
set_option maxRecDepth 100000 in
theorem c_X4_keep_1 {l : Launch} {P : L5} {D : va_G} {N F T : Nat → Nat → Int32} {K : Nat → Int32} {A : Nat → Nat → Int32} {w : Int64} {c : Nat} (hc : K 2 = nI c) (h12 : c ≤ 12) {p q : Int32} (h : p < 0 ∨ 3 < p) : CtI l yX4_keep cX4_keep 4 .int 5 0 0 P D 97 97 False (cw P N F T K A w) (cw P N F T (upd K 0 1) A w) [.ref (rM P), .int p, .int q] 0 := by
  refine mk_Met pl_X4 [(0, .ref (rM P)), (1, .int p), (2, .int q)] rfl (Nat.le_of_ble_eq_true rfl) ?_
  intro pg en sg mg ag bg mt cd C
  refine v_aload_n C 0 dX4_keep_0 rfl ?_
  refine v_iconst (v := 0) C dX4_keep_1 rfl ?_
  refine v_pM C 0 (by decide) k_513 dX4_keep_2 ?_
  refine v_iload_n C 1 dX4_keep_5 rfl ?_
  refine go_I (run_S C (c_X4_isFour_0 h) k_544 k_5 k_542 k_543 dd_X4_isFour ⟨Nat.le_of_ble_eq_true rfl, Nat.le_of_ble_eq_true rfl⟩ rfl (Nat.le_of_ble_eq_true rfl) dX4_keep_6 ⟨Nat.le_of_ble_eq_true rfl, Nat.le_of_ble_eq_true rfl⟩) ?_
  refine v_if_ne (tgt := 18) C dX4_keep_9 (by decide) (fun h9 => absurd h9 (by decide)) (fun _ => ?_)
  refine v_aload_n C 0 dX4_keep_12 rfl ?_
  refine v_iconst (v := 1) C dX4_keep_13 rfl ?_
  refine go_I (run_V C (c_X4_no) k_551 k_5 k_548 k_550 ks_26 dd_X4_no ⟨Nat.le_of_ble_eq_true rfl, Nat.le_of_ble_eq_true rfl⟩ rcM rfl (Nat.le_of_ble_eq_true rfl) dX4_keep_14 ⟨Nat.le_of_ble_eq_true rfl, Nat.le_of_ble_eq_true rfl⟩) ?_
  exact v_iret C dX4_keep_17 (by rw [updd]) rfl
set_option maxHeartbeats 4000000 in
set_option maxRecDepth 100000 in
theorem c_X4_keep_2 {l : Launch} {P : L5} {D : va_G} {N F T : Nat → Nat → Int32} {K : Nat → Int32} {A : Nat → Nat → Int32} {w : Int64} {c : Nat} (hc : K 2 = nI c) (h12 : c ≤ 12) {i : Nat} (hi : i < 4) {q : Int32} (h : q < 0 ∨ 60 < q) : CtI l yX4_keep cX4_keep 4 .int 5 0 0 P D 97 97 False (cw P N F T K A w) (cw P N F T (upd K 0 2) A w) [.ref (rM P), .int (nI i), .int q] 0 := by
  refine mk_Met pl_X4 [(0, .ref (rM P)), (1, .int (nI i)), (2, .int q)] rfl (Nat.le_of_ble_eq_true rfl) ?_
  intro pg en sg mg ag bg mt cd C
  refine v_aload_n C 0 dX4_keep_0 rfl ?_
  refine v_iconst (v := 0) C dX4_keep_1 rfl ?_
  refine v_pM C 0 (by decide) k_513 dX4_keep_2 ?_
  refine v_iload_n C 1 dX4_keep_5 rfl ?_
  refine go_I (run_S C (c_X4_isFour_1 (nIp (by omega)) (nI3 hi)) k_544 k_5 k_542 k_543 dd_X4_isFour ⟨Nat.le_of_ble_eq_true rfl, Nat.le_of_ble_eq_true rfl⟩ rfl (Nat.le_of_ble_eq_true rfl) dX4_keep_6 ⟨Nat.le_of_ble_eq_true rfl, Nat.le_of_ble_eq_true rfl⟩) ?_
  refine v_if_ne (tgt := 18) C dX4_keep_9 (by decide) (fun _ => ?_) (fun h9 => absurd h9 (by decide))
  refine v_iload_n C 2 dX4_keep_18 rfl ?_
  refine v_iconst (v := 0) C dX4_keep_19 rfl ?_
  refine v_bipush (v := 60) C dX4_keep_20 rfl ?_
  refine go_I (run_S C (c_X4_isIn_0 h) k_547 k_5 k_545 k_546 dd_X4_isIn ⟨Nat.le_of_ble_eq_true rfl, Nat.le_of_ble_eq_true rfl⟩ rfl (Nat.le_of_ble_eq_true rfl) dX4_keep_22 ⟨Nat.le_of_ble_eq_true rfl, Nat.le_of_ble_eq_true rfl⟩) ?_
  refine v_if_ne (tgt := 34) C dX4_keep_25 (by decide) (fun h9 => absurd h9 (by decide)) (fun _ => ?_)
  refine v_aload_n C 0 dX4_keep_28 rfl ?_
  refine v_iconst (v := 2) C dX4_keep_29 rfl ?_
  refine go_I (run_V C (c_X4_no) k_551 k_5 k_548 k_550 ks_26 dd_X4_no ⟨Nat.le_of_ble_eq_true rfl, Nat.le_of_ble_eq_true rfl⟩ rcM rfl (Nat.le_of_ble_eq_true rfl) dX4_keep_30 ⟨Nat.le_of_ble_eq_true rfl, Nat.le_of_ble_eq_true rfl⟩) ?_
  exact v_iret C dX4_keep_33 (by rw [updd]) rfl
set_option maxHeartbeats 4000000 in
set_option maxRecDepth 100000 in
theorem c_X4_keep {l : Launch} {P : L5} {D : va_G} {N F T : Nat → Nat → Int32} {K : Nat → Int32} {A : Nat → Nat → Int32} {w : Int64} {c : Nat} (hc : K 2 = nI c) (h12 : c ≤ 12) {i : Nat} (hi : i < 4) {q : Int32} (h3 : ¬ q < 0) (h4 : ¬ 60 < q) : CtI l yX4_keep cX4_keep 4 .int 5 0 0 P D 97 97 False (cw P N F T K A w) (cw P N F T (upd K 0 0) (sA A 1 (5 * i + 0) q) w) [.ref (rM P), .int (nI i), .int q] (A 1 (5 * i + 0)) := by
  refine mk_Met pl_X4 [(0, .ref (rM P)), (1, .int (nI i)), (2, .int q)] rfl (Nat.le_of_ble_eq_true rfl) ?_
  intro pg en sg mg ag bg mt cd C
  refine v_aload_n C 0 dX4_keep_0 rfl ?_
  refine v_iconst (v := 0) C dX4_keep_1 rfl ?_
  refine v_pM C 0 (by decide) k_513 dX4_keep_2 ?_
  refine v_iload_n C 1 dX4_keep_5 rfl ?_
  refine go_I (run_S C (c_X4_isFour_1 (nIp (by omega)) (nI3 hi)) k_544 k_5 k_542 k_543 dd_X4_isFour ⟨Nat.le_of_ble_eq_true rfl, Nat.le_of_ble_eq_true rfl⟩ rfl (Nat.le_of_ble_eq_true rfl) dX4_keep_6 ⟨Nat.le_of_ble_eq_true rfl, Nat.le_of_ble_eq_true rfl⟩) ?_
  refine v_if_ne (tgt := 18) C dX4_keep_9 (by decide) (fun _ => ?_) (fun h9 => absurd h9 (by decide))
  refine v_iload_n C 2 dX4_keep_18 rfl ?_
  refine v_iconst (v := 0) C dX4_keep_19 rfl ?_
  refine v_bipush (v := 60) C dX4_keep_20 rfl ?_
  refine go_I (run_S C (c_X4_isIn_1 h3 h4) k_547 k_5 k_545 k_546 dd_X4_isIn ⟨Nat.le_of_ble_eq_true rfl, Nat.le_of_ble_eq_true rfl⟩ rfl (Nat.le_of_ble_eq_true rfl) dX4_keep_22 ⟨Nat.le_of_ble_eq_true rfl, Nat.le_of_ble_eq_true rfl⟩) ?_
  refine v_if_ne (tgt := 34) C dX4_keep_25 (by decide) (fun _ => ?_) (fun h9 => absurd h9 (by decide))
  refine v_aload_n C 0 dX4_keep_34 rfl ?_
  refine v_gM C 4 (by decide) k_517 rfl dX4_keep_35 ?_
  refine v_iconst (v := 5) C dX4_keep_38 rfl ?_
  refine v_iload_n C 1 dX4_keep_39 rfl ?_
  refine v_imul C dX4_keep_40 ?_
  refine v_iconst (v := 0) C dX4_keep_41 rfl ?_
  refine v_iadd C dX4_keep_42 ?_
  refine v_ldAk C ((5 * i) + 0) (by decide) (ixA (ixM rfl rfl) rfl) (show _ < 20 by omega) rfl dX4_keep_43 ?_
  refine v_top (fun x_1 ex_1 => ?_)
  refine v_istore_n (lv' := [(3, .int x_1), (0, .ref (rM P)), (1, .int (nI i)), (2, .int q)]) C dX4_keep_44 rfl (by decide) rfl ?_
  refine v_aload_n C 1 dX4_keep_45 rfl ?_
  refine v_gM C 4 (by decide) k_517 rfl dX4_keep_46 ?_
  refine v_iconst (v := 5) C dX4_keep_49 rfl ?_
  refine v_iload_n C 2 dX4_keep_50 rfl ?_
  refine v_imul C dX4_keep_51 ?_
  refine v_iconst (v := 0) C dX4_keep_52 rfl ?_
  refine v_iadd C dX4_keep_53 ?_
  refine v_iload_n C 3 dX4_keep_54 rfl ?_
  refine v_stAk C ((5 * i) + 0) (by decide) (ixA (ixM rfl rfl) rfl) (show _ < 20 by omega) rfl dX4_keep_55 ?_
  refine v_iload_n C 0 dX4_keep_56 rfl ?_
  exact v_iret C dX4_keep_57 rfl ex_1
