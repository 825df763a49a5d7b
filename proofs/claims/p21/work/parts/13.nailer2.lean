/-! THE CLASSES NAILER AND FOGGER: the rest of their contracts -/
set_option maxHeartbeats 4000000 in
set_option maxRecDepth 100000 in
theorem c_X1_begin {l : Launch} {P : L5} {D : va_G} {N F T : Nat → Nat → Int32} {K : Nat → Int32} {A : Nat → Nat → Int32} {w : Int64} {j : Nat} (hj : j < 25) {v : Nat → Int32} {a b d : Int32} : CtV l yX1_begin cX1_begin 4 1 0 0 P D (nW P) (nW P) False (cw P (va_up N j v) F T K A w) (cw P (va_up N j (upd (upd (upd v 0 a) 1 b) 2 d)) F T K A w) [.ref (rN P j), .int a, .int b, .int d] := by
  refine mk_Met pl_X1 [(0, .ref (rN P j)), (1, .int a), (2, .int b), (3, .int d)] rfl (Nat.le_of_ble_eq_true rfl) ?_
  intro pg en sg mg ag bg mt cd C
  refine v_aload_n C 0 dX1_begin_0 rfl ?_
  refine v_iload_n C 1 dX1_begin_1 rfl ?_
  refine v_pN C hj 0 (by decide) k_322 dX1_begin_2 ?_
  refine v_aload_n C 0 dX1_begin_5 rfl ?_
  refine v_iload_n C 2 dX1_begin_6 rfl ?_
  refine v_pN C hj 1 (by decide) k_323 dX1_begin_7 ?_
  refine v_aload_n C 0 dX1_begin_10 rfl ?_
  refine v_iload_n C 3 dX1_begin_11 rfl ?_
  refine v_pN C hj 2 (by decide) k_325 dX1_begin_12 ?_
  exact v_vret C dX1_begin_15 rfl
set_option maxHeartbeats 4000000 in
set_option maxRecDepth 100000 in
theorem c_X1_sumOfL {l : Launch} {P : L5} {D : va_G} {N F T : Nat → Nat → Int32} {K : Nat → Int32} {A : Nat → Nat → Int32} {w : Int64} {j : Nat} (hj : j < 25) : CtI l yX1_sumOf cX1_sumOf 6 .int 1 0 0 P D (nW P) (nW P) False (cw P N F T K A w) (cw P N F T K A w) [.ref (rL P j)] (0 + N j 12 + N j 13 + N j 14 + N j 15) := by
  refine mk_Met pl_X1 [(0, .ref (rL P j))] rfl (Nat.le_of_ble_eq_true rfl) ?_
  intro pg en sg mg ag bg mt cd C
  refine v_iconst (v := 0) C dX1_sumOf_0 rfl ?_
  refine v_istore_n (lv' := [(1, .int 0), (0, .ref (rL P j))]) C dX1_sumOf_1 rfl (by decide) rfl ?_
  refine v_aload_n C 1 dX1_sumOf_2 rfl ?_
  refine v_astore_n (lv' := [(2, .ref (rL P j)), (1, .int 0), (0, .ref (rL P j))]) C dX1_sumOf_3 rfl (by decide) rfl ?_
  refine v_aload_n C 0 dX1_sumOf_4 rfl ?_
  refine v_lenL (a := 4) C hj rfl dX1_sumOf_5 ?_
  refine v_istore_n (lv' := [(3, .int 4), (2, .ref (rL P j)), (1, .int 0), (0, .ref (rL P j))]) C dX1_sumOf_6 rfl (by decide) rfl ?_
  refine v_iconst (v := 0) C dX1_sumOf_7 rfl ?_
  refine v_istore (lv' := [(4, .int 0), (3, .int 4), (2, .ref (rL P j)), (1, .int 0), (0, .ref (rL P j))]) C dX1_sumOf_8 (by decide) rfl ?_
  refine v_iload C 0 dX1_sumOf_10 rfl ?_
  refine v_iload_n C 1 dX1_sumOf_12 rfl ?_
  refine v_icmp_ge (tgt := 33) C dX1_sumOf_13 (by decide) (fun h9 => absurd h9 (by decide)) (fun _ => ?_)
  refine v_aload_n C 2 dX1_sumOf_16 rfl ?_
  refine v_iload C 0 dX1_sumOf_17 rfl ?_
  refine v_ldLuk C 0 hj tn_0 in4_0 rfl dX1_sumOf_19 ?_
  refine v_top (fun x_1 ex_1 => ?_)
  refine v_istore (lv' := [(5, .int x_1), (4, .int 0), (3, .int 4), (2, .ref (rL P j)), (1, .int 0), (0, .ref (rL P j))]) C dX1_sumOf_20 (by decide) rfl ?_
  refine v_iload_n C 4 dX1_sumOf_22 rfl ?_
  refine v_iload C 0 dX1_sumOf_23 rfl ?_
  refine v_iadd C dX1_sumOf_25 ?_
  refine v_top (fun x_2 ex_2 => ?_)
  refine v_istore_n (lv' := [(1, .int x_2), (5, .int x_1), (4, .int 0), (3, .int 4), (2, .ref (rL P j)), (0, .ref (rL P j))]) C dX1_sumOf_26 rfl (by decide) rfl ?_
  refine v_iinc (b := 1) (lv' := [(4, .int 1), (1, .int x_2), (5, .int x_1), (3, .int 4), (2, .ref (rL P j)), (0, .ref (rL P j))]) C 2 dX1_sumOf_27 rfl rfl (by decide) rfl ?_
  refine v_goto (tgt := 10) C dX1_sumOf_30 (by decide) ?_
  refine v_iload C 0 dX1_sumOf_10 rfl ?_
  refine v_iload_n C 3 dX1_sumOf_12 rfl ?_
  refine v_icmp_ge (tgt := 33) C dX1_sumOf_13 (by decide) (fun h9 => absurd h9 (by decide)) (fun _ => ?_)
  refine v_aload_n C 4 dX1_sumOf_16 rfl ?_
  refine v_iload C 0 dX1_sumOf_17 rfl ?_
  refine v_ldLuk C 1 hj tn_1 in4_1 rfl dX1_sumOf_19 ?_
  refine v_top (fun x_3 ex_3 => ?_)
  refine v_istore (lv' := [(5, .int x_3), (4, .int 1), (1, .int x_2), (3, .int 4), (2, .ref (rL P j)), (0, .ref (rL P j))]) C dX1_sumOf_20 (by decide) rfl ?_
  refine v_iload_n C 2 dX1_sumOf_22 rfl ?_
  refine v_iload C 0 dX1_sumOf_23 rfl ?_
  refine v_iadd C dX1_sumOf_25 ?_
  refine v_top (fun x_4 ex_4 => ?_)
  refine v_istore_n (lv' := [(1, .int x_4), (5, .int x_3), (4, .int 1), (3, .int 4), (2, .ref (rL P j)), (0, .ref (rL P j))]) C dX1_sumOf_26 rfl (by decide) rfl ?_
  refine v_iinc (b := 2) (lv' := [(4, .int 2), (1, .int x_4), (5, .int x_3), (3, .int 4), (2, .ref (rL P j)), (0, .ref (rL P j))]) C 2 dX1_sumOf_27 rfl rfl (by decide) rfl ?_
  refine v_goto (tgt := 10) C dX1_sumOf_30 (by decide) ?_
  refine v_iload C 0 dX1_sumOf_10 rfl ?_
  refine v_iload_n C 3 dX1_sumOf_12 rfl ?_
  refine v_icmp_ge (tgt := 33) C dX1_sumOf_13 (by decide) (fun h9 => absurd h9 (by decide)) (fun _ => ?_)
  refine v_aload_n C 4 dX1_sumOf_16 rfl ?_
  refine v_iload C 0 dX1_sumOf_17 rfl ?_
  refine v_ldLuk C 2 hj tn_2 in4_2 rfl dX1_sumOf_19 ?_
  refine v_top (fun x_5 ex_5 => ?_)
  refine v_istore (lv' := [(5, .int x_5), (4, .int 2), (1, .int x_4), (3, .int 4), (2, .ref (rL P j)), (0, .ref (rL P j))]) C dX1_sumOf_20 (by decide) rfl ?_
  refine v_iload_n C 2 dX1_sumOf_22 rfl ?_
  refine v_iload C 0 dX1_sumOf_23 rfl ?_
  refine v_iadd C dX1_sumOf_25 ?_
  refine v_top (fun x_6 ex_6 => ?_)
  refine v_istore_n (lv' := [(1, .int x_6), (5, .int x_5), (4, .int 2), (3, .int 4), (2, .ref (rL P j)), (0, .ref (rL P j))]) C dX1_sumOf_26 rfl (by decide) rfl ?_
  refine v_iinc (b := 3) (lv' := [(4, .int 3), (1, .int x_6), (5, .int x_5), (3, .int 4), (2, .ref (rL P j)), (0, .ref (rL P j))]) C 2 dX1_sumOf_27 rfl rfl (by decide) rfl ?_
  refine v_goto (tgt := 10) C dX1_sumOf_30 (by decide) ?_
  refine v_iload C 0 dX1_sumOf_10 rfl ?_
  refine v_iload_n C 3 dX1_sumOf_12 rfl ?_
  refine v_icmp_ge (tgt := 33) C dX1_sumOf_13 (by decide) (fun h9 => absurd h9 (by decide)) (fun _ => ?_)
  refine v_aload_n C 4 dX1_sumOf_16 rfl ?_
  refine v_iload C 0 dX1_sumOf_17 rfl ?_
  refine v_ldLuk C 3 hj tn_3 in4_3 rfl dX1_sumOf_19 ?_
  refine v_top (fun x_7 ex_7 => ?_)
  refine v_istore (lv' := [(5, .int x_7), (4, .int 3), (1, .int x_6), (3, .int 4), (2, .ref (rL P j)), (0, .ref (rL P j))]) C dX1_sumOf_20 (by decide) rfl ?_
  refine v_iload_n C 2 dX1_sumOf_22 rfl ?_
  refine v_iload C 0 dX1_sumOf_23 rfl ?_
  refine v_iadd C dX1_sumOf_25 ?_
  refine v_top (fun x_8 ex_8 => ?_)
  refine v_istore_n (lv' := [(1, .int x_8), (5, .int x_7), (4, .int 3), (3, .int 4), (2, .ref (rL P j)), (0, .ref (rL P j))]) C dX1_sumOf_26 rfl (by decide) rfl ?_
  refine v_iinc (b := 4) (lv' := [(4, .int 4), (1, .int x_8), (5, .int x_7), (3, .int 4), (2, .ref (rL P j)), (0, .ref (rL P j))]) C 2 dX1_sumOf_27 rfl rfl (by decide) rfl ?_
  refine v_goto (tgt := 10) C dX1_sumOf_30 (by decide) ?_
  refine v_iload C 0 dX1_sumOf_10 rfl ?_
  refine v_iload_n C 3 dX1_sumOf_12 rfl ?_
  refine v_icmp_ge (tgt := 33) C dX1_sumOf_13 (by decide) (fun _ => ?_) (fun h9 => absurd (by decide) h9)
  refine v_iload_n C 1 dX1_sumOf_33 rfl ?_
  exact v_iret C dX1_sumOf_34 rfl (by subst ex_1 ex_2 ex_3 ex_4 ex_5 ex_6 ex_7 ex_8; rfl)
set_option maxHeartbeats 4000000 in
set_option maxRecDepth 100000 in
theorem c_X1_sumOfB {l : Launch} {P : L5} {D : va_G} {N F T : Nat → Nat → Int32} {K : Nat → Int32} {A : Nat → Nat → Int32} {w : Int64} {j : Nat} (hj : j < 25) : CtI l yX1_sumOf cX1_sumOf 6 .int 1 0 0 P D (nW P) (nW P) False (cw P N F T K A w) (cw P N F T K A w) [.ref (rB P j)] (0 + N j 16 + N j 17 + N j 18 + N j 19) := by
  refine mk_Met pl_X1 [(0, .ref (rB P j))] rfl (Nat.le_of_ble_eq_true rfl) ?_
  intro pg en sg mg ag bg mt cd C
  refine v_iconst (v := 0) C dX1_sumOf_0 rfl ?_
  refine v_istore_n (lv' := [(1, .int 0), (0, .ref (rB P j))]) C dX1_sumOf_1 rfl (by decide) rfl ?_
  refine v_aload_n C 1 dX1_sumOf_2 rfl ?_
  refine v_astore_n (lv' := [(2, .ref (rB P j)), (1, .int 0), (0, .ref (rB P j))]) C dX1_sumOf_3 rfl (by decide) rfl ?_
  refine v_aload_n C 0 dX1_sumOf_4 rfl ?_
  refine v_lenB (a := 4) C hj rfl dX1_sumOf_5 ?_
  refine v_istore_n (lv' := [(3, .int 4), (2, .ref (rB P j)), (1, .int 0), (0, .ref (rB P j))]) C dX1_sumOf_6 rfl (by decide) rfl ?_
  refine v_iconst (v := 0) C dX1_sumOf_7 rfl ?_
  refine v_istore (lv' := [(4, .int 0), (3, .int 4), (2, .ref (rB P j)), (1, .int 0), (0, .ref (rB P j))]) C dX1_sumOf_8 (by decide) rfl ?_
  refine v_iload C 0 dX1_sumOf_10 rfl ?_
  refine v_iload_n C 1 dX1_sumOf_12 rfl ?_
  refine v_icmp_ge (tgt := 33) C dX1_sumOf_13 (by decide) (fun h9 => absurd h9 (by decide)) (fun _ => ?_)
  refine v_aload_n C 2 dX1_sumOf_16 rfl ?_
  refine v_iload C 0 dX1_sumOf_17 rfl ?_
  refine v_ldBuk C 0 hj tn_0 in4_0 rfl dX1_sumOf_19 ?_
  refine v_top (fun x_1 ex_1 => ?_)
  refine v_istore (lv' := [(5, .int x_1), (4, .int 0), (3, .int 4), (2, .ref (rB P j)), (1, .int 0), (0, .ref (rB P j))]) C dX1_sumOf_20 (by decide) rfl ?_
  refine v_iload_n C 4 dX1_sumOf_22 rfl ?_
  refine v_iload C 0 dX1_sumOf_23 rfl ?_
  refine v_iadd C dX1_sumOf_25 ?_
  refine v_top (fun x_2 ex_2 => ?_)
  refine v_istore_n (lv' := [(1, .int x_2), (5, .int x_1), (4, .int 0), (3, .int 4), (2, .ref (rB P j)), (0, .ref (rB P j))]) C dX1_sumOf_26 rfl (by decide) rfl ?_
  refine v_iinc (b := 1) (lv' := [(4, .int 1), (1, .int x_2), (5, .int x_1), (3, .int 4), (2, .ref (rB P j)), (0, .ref (rB P j))]) C 2 dX1_sumOf_27 rfl rfl (by decide) rfl ?_
  refine v_goto (tgt := 10) C dX1_sumOf_30 (by decide) ?_
  refine v_iload C 0 dX1_sumOf_10 rfl ?_
  refine v_iload_n C 3 dX1_sumOf_12 rfl ?_
  refine v_icmp_ge (tgt := 33) C dX1_sumOf_13 (by decide) (fun h9 => absurd h9 (by decide)) (fun _ => ?_)
  refine v_aload_n C 4 dX1_sumOf_16 rfl ?_
  refine v_iload C 0 dX1_sumOf_17 rfl ?_
  refine v_ldBuk C 1 hj tn_1 in4_1 rfl dX1_sumOf_19 ?_
  refine v_top (fun x_3 ex_3 => ?_)
  refine v_istore (lv' := [(5, .int x_3), (4, .int 1), (1, .int x_2), (3, .int 4), (2, .ref (rB P j)), (0, .ref (rB P j))]) C dX1_sumOf_20 (by decide) rfl ?_
  refine v_iload_n C 2 dX1_sumOf_22 rfl ?_
  refine v_iload C 0 dX1_sumOf_23 rfl ?_
  refine v_iadd C dX1_sumOf_25 ?_
  refine v_top (fun x_4 ex_4 => ?_)
  refine v_istore_n (lv' := [(1, .int x_4), (5, .int x_3), (4, .int 1), (3, .int 4), (2, .ref (rB P j)), (0, .ref (rB P j))]) C dX1_sumOf_26 rfl (by decide) rfl ?_
  refine v_iinc (b := 2) (lv' := [(4, .int 2), (1, .int x_4), (5, .int x_3), (3, .int 4), (2, .ref (rB P j)), (0, .ref (rB P j))]) C 2 dX1_sumOf_27 rfl rfl (by decide) rfl ?_
  refine v_goto (tgt := 10) C dX1_sumOf_30 (by decide) ?_
  refine v_iload C 0 dX1_sumOf_10 rfl ?_
  refine v_iload_n C 3 dX1_sumOf_12 rfl ?_
  refine v_icmp_ge (tgt := 33) C dX1_sumOf_13 (by decide) (fun h9 => absurd h9 (by decide)) (fun _ => ?_)
  refine v_aload_n C 4 dX1_sumOf_16 rfl ?_
  refine v_iload C 0 dX1_sumOf_17 rfl ?_
  refine v_ldBuk C 2 hj tn_2 in4_2 rfl dX1_sumOf_19 ?_
  refine v_top (fun x_5 ex_5 => ?_)
  refine v_istore (lv' := [(5, .int x_5), (4, .int 2), (1, .int x_4), (3, .int 4), (2, .ref (rB P j)), (0, .ref (rB P j))]) C dX1_sumOf_20 (by decide) rfl ?_
  refine v_iload_n C 2 dX1_sumOf_22 rfl ?_
  refine v_iload C 0 dX1_sumOf_23 rfl ?_
  refine v_iadd C dX1_sumOf_25 ?_
  refine v_top (fun x_6 ex_6 => ?_)
  refine v_istore_n (lv' := [(1, .int x_6), (5, .int x_5), (4, .int 2), (3, .int 4), (2, .ref (rB P j)), (0, .ref (rB P j))]) C dX1_sumOf_26 rfl (by decide) rfl ?_
  refine v_iinc (b := 3) (lv' := [(4, .int 3), (1, .int x_6), (5, .int x_5), (3, .int 4), (2, .ref (rB P j)), (0, .ref (rB P j))]) C 2 dX1_sumOf_27 rfl rfl (by decide) rfl ?_
  refine v_goto (tgt := 10) C dX1_sumOf_30 (by decide) ?_
  refine v_iload C 0 dX1_sumOf_10 rfl ?_
  refine v_iload_n C 3 dX1_sumOf_12 rfl ?_
  refine v_icmp_ge (tgt := 33) C dX1_sumOf_13 (by decide) (fun h9 => absurd h9 (by decide)) (fun _ => ?_)
  refine v_aload_n C 4 dX1_sumOf_16 rfl ?_
  refine v_iload C 0 dX1_sumOf_17 rfl ?_
  refine v_ldBuk C 3 hj tn_3 in4_3 rfl dX1_sumOf_19 ?_
  refine v_top (fun x_7 ex_7 => ?_)
  refine v_istore (lv' := [(5, .int x_7), (4, .int 3), (1, .int x_6), (3, .int 4), (2, .ref (rB P j)), (0, .ref (rB P j))]) C dX1_sumOf_20 (by decide) rfl ?_
  refine v_iload_n C 2 dX1_sumOf_22 rfl ?_
  refine v_iload C 0 dX1_sumOf_23 rfl ?_
  refine v_iadd C dX1_sumOf_25 ?_
  refine v_top (fun x_8 ex_8 => ?_)
  refine v_istore_n (lv' := [(1, .int x_8), (5, .int x_7), (4, .int 3), (3, .int 4), (2, .ref (rB P j)), (0, .ref (rB P j))]) C dX1_sumOf_26 rfl (by decide) rfl ?_
  refine v_iinc (b := 4) (lv' := [(4, .int 4), (1, .int x_8), (5, .int x_7), (3, .int 4), (2, .ref (rB P j)), (0, .ref (rB P j))]) C 2 dX1_sumOf_27 rfl rfl (by decide) rfl ?_
  refine v_goto (tgt := 10) C dX1_sumOf_30 (by decide) ?_
  refine v_iload C 0 dX1_sumOf_10 rfl ?_
  refine v_iload_n C 3 dX1_sumOf_12 rfl ?_
  refine v_icmp_ge (tgt := 33) C dX1_sumOf_13 (by decide) (fun _ => ?_) (fun h9 => absurd (by decide) h9)
  refine v_iload_n C 1 dX1_sumOf_33 rfl ?_
  exact v_iret C dX1_sumOf_34 rfl (by subst ex_1 ex_2 ex_3 ex_4 ex_5 ex_6 ex_7 ex_8; rfl)
set_option maxHeartbeats 4000000 in
set_option maxRecDepth 100000 in
theorem c_X1_number_0 {l : Launch} {P : L5} {D : va_G} {N F T : Nat → Nat → Int32} {K : Nat → Int32} {A : Nat → Nat → Int32} {w : Int64} {j : Nat} (hj : j < 25) : CtI l yX1_number cX1_number 2 .int 1 0 0 P D (nW P) (nW P) False (cw P N F T K A w) (cw P N F T K A w) [.ref (rN P j), .int 0] (N j 0) := by
  refine mk_Met pl_X1 [(0, .ref (rN P j)), (1, .int 0)] rfl (Nat.le_of_ble_eq_true rfl) ?_
  intro pg en sg mg ag bg mt cd C
  refine v_iload_n C 1 dX1_number_0 rfl ?_
  refine v_tableIn (tgt := 60) C dX1_number_1 (by decide) (by decide) rfl (by decide) ?_
  refine v_aload_n C 0 dX1_number_60 rfl ?_
  refine v_gNu C hj 0 (by decide) k_322 rfl dX1_number_61 ?_
  exact v_iret C dX1_number_64 rfl rfl
set_option maxHeartbeats 4000000 in
set_option maxRecDepth 100000 in
theorem c_X1_number_1 {l : Launch} {P : L5} {D : va_G} {N F T : Nat → Nat → Int32} {K : Nat → Int32} {A : Nat → Nat → Int32} {w : Int64} {j : Nat} (hj : j < 25) : CtI l yX1_number cX1_number 2 .int 1 0 0 P D (nW P) (nW P) False (cw P N F T K A w) (cw P N F T K A w) [.ref (rN P j), .int 1] (N j 1) := by
  refine mk_Met pl_X1 [(0, .ref (rN P j)), (1, .int 1)] rfl (Nat.le_of_ble_eq_true rfl) ?_
  intro pg en sg mg ag bg mt cd C
  refine v_iload_n C 1 dX1_number_0 rfl ?_
  refine v_tableIn (tgt := 65) C dX1_number_1 (by decide) (by decide) rfl (by decide) ?_
  refine v_aload_n C 0 dX1_number_65 rfl ?_
  refine v_gNu C hj 1 (by decide) k_323 rfl dX1_number_66 ?_
  exact v_iret C dX1_number_69 rfl rfl
set_option maxHeartbeats 4000000 in
set_option maxRecDepth 100000 in
theorem c_X1_number_2 {l : Launch} {P : L5} {D : va_G} {N F T : Nat → Nat → Int32} {K : Nat → Int32} {A : Nat → Nat → Int32} {w : Int64} {j : Nat} (hj : j < 25) : CtI l yX1_number cX1_number 2 .int 1 0 0 P D (nW P) (nW P) False (cw P N F T K A w) (cw P N F T K A w) [.ref (rN P j), .int 2] (N j 2) := by
  refine mk_Met pl_X1 [(0, .ref (rN P j)), (1, .int 2)] rfl (Nat.le_of_ble_eq_true rfl) ?_
  intro pg en sg mg ag bg mt cd C
  refine v_iload_n C 1 dX1_number_0 rfl ?_
  refine v_tableIn (tgt := 70) C dX1_number_1 (by decide) (by decide) rfl (by decide) ?_
  refine v_aload_n C 0 dX1_number_70 rfl ?_
  refine v_gNu C hj 2 (by decide) k_325 rfl dX1_number_71 ?_
  exact v_iret C dX1_number_74 rfl rfl
set_option maxHeartbeats 4000000 in
set_option maxRecDepth 100000 in
theorem c_X1_number_3 {l : Launch} {P : L5} {D : va_G} {N F T : Nat → Nat → Int32} {K : Nat → Int32} {A : Nat → Nat → Int32} {w : Int64} {j : Nat} (hj : j < 25) : CtI l yX1_number cX1_number 2 .int 1 0 0 P D (nW P) (nW P) False (cw P N F T K A w) (cw P N F T K A w) [.ref (rN P j), .int 3] (N j 3) := by
  refine mk_Met pl_X1 [(0, .ref (rN P j)), (1, .int 3)] rfl (Nat.le_of_ble_eq_true rfl) ?_
  intro pg en sg mg ag bg mt cd C
  refine v_iload_n C 1 dX1_number_0 rfl ?_
  refine v_tableIn (tgt := 75) C dX1_number_1 (by decide) (by decide) rfl (by decide) ?_
  refine v_aload_n C 0 dX1_number_75 rfl ?_
  refine v_gNu C hj 3 (by decide) k_327 rfl dX1_number_76 ?_
  exact v_iret C dX1_number_79 rfl rfl
set_option maxHeartbeats 4000000 in
set_option maxRecDepth 100000 in
theorem c_X1_number_4 {l : Launch} {P : L5} {D : va_G} {N F T : Nat → Nat → Int32} {K : Nat → Int32} {A : Nat → Nat → Int32} {w : Int64} {j : Nat} (hj : j < 25) : CtI l yX1_number cX1_number 2 .int 1 0 0 P D (nW P) (nW P) False (cw P N F T K A w) (cw P N F T K A w) [.ref (rN P j), .int 4] (N j 4) := by
  refine mk_Met pl_X1 [(0, .ref (rN P j)), (1, .int 4)] rfl (Nat.le_of_ble_eq_true rfl) ?_
  intro pg en sg mg ag bg mt cd C
  refine v_iload_n C 1 dX1_number_0 rfl ?_
  refine v_tableIn (tgt := 80) C dX1_number_1 (by decide) (by decide) rfl (by decide) ?_
  refine v_aload_n C 0 dX1_number_80 rfl ?_
  refine v_gNu C hj 4 (by decide) k_329 rfl dX1_number_81 ?_
  exact v_iret C dX1_number_84 rfl rfl
set_option maxHeartbeats 4000000 in
set_option maxRecDepth 100000 in
theorem c_X1_number_5 {l : Launch} {P : L5} {D : va_G} {N F T : Nat → Nat → Int32} {K : Nat → Int32} {A : Nat → Nat → Int32} {w : Int64} {j : Nat} (hj : j < 25) : CtI l yX1_number cX1_number 2 .int 1 0 0 P D (nW P) (nW P) False (cw P N F T K A w) (cw P N F T K A w) [.ref (rN P j), .int 5] (N j 5) := by
  refine mk_Met pl_X1 [(0, .ref (rN P j)), (1, .int 5)] rfl (Nat.le_of_ble_eq_true rfl) ?_
  intro pg en sg mg ag bg mt cd C
  refine v_iload_n C 1 dX1_number_0 rfl ?_
  refine v_tableIn (tgt := 85) C dX1_number_1 (by decide) (by decide) rfl (by decide) ?_
  refine v_aload_n C 0 dX1_number_85 rfl ?_
  refine v_gNu C hj 5 (by decide) k_330 rfl dX1_number_86 ?_
  exact v_iret C dX1_number_89 rfl rfl
set_option maxHeartbeats 4000000 in
set_option maxRecDepth 100000 in
theorem c_X1_number_6 {l : Launch} {P : L5} {D : va_G} {N F T : Nat → Nat → Int32} {K : Nat → Int32} {A : Nat → Nat → Int32} {w : Int64} {j : Nat} (hj : j < 25) : CtI l yX1_number cX1_number 2 .int 1 0 0 P D (nW P) (nW P) False (cw P N F T K A w) (cw P N F T K A w) [.ref (rN P j), .int 6] (N j 6) := by
  refine mk_Met pl_X1 [(0, .ref (rN P j)), (1, .int 6)] rfl (Nat.le_of_ble_eq_true rfl) ?_
  intro pg en sg mg ag bg mt cd C
  refine v_iload_n C 1 dX1_number_0 rfl ?_
  refine v_tableIn (tgt := 90) C dX1_number_1 (by decide) (by decide) rfl (by decide) ?_
  refine v_aload_n C 0 dX1_number_90 rfl ?_
  refine v_gNu C hj 6 (by decide) k_331 rfl dX1_number_91 ?_
  exact v_iret C dX1_number_94 rfl rfl
set_option maxHeartbeats 4000000 in
set_option maxRecDepth 100000 in
theorem c_X1_number_7 {l : Launch} {P : L5} {D : va_G} {N F T : Nat → Nat → Int32} {K : Nat → Int32} {A : Nat → Nat → Int32} {w : Int64} {j : Nat} (hj : j < 25) : CtI l yX1_number cX1_number 2 .int 1 0 0 P D (nW P) (nW P) False (cw P N F T K A w) (cw P N F T K A w) [.ref (rN P j), .int 7] (N j 7) := by
  refine mk_Met pl_X1 [(0, .ref (rN P j)), (1, .int 7)] rfl (Nat.le_of_ble_eq_true rfl) ?_
  intro pg en sg mg ag bg mt cd C
  refine v_iload_n C 1 dX1_number_0 rfl ?_
  refine v_tableIn (tgt := 95) C dX1_number_1 (by decide) (by decide) rfl (by decide) ?_
  refine v_aload_n C 0 dX1_number_95 rfl ?_
  refine v_gNu C hj 7 (by decide) k_333 rfl dX1_number_96 ?_
  exact v_iret C dX1_number_99 rfl rfl
set_option maxHeartbeats 4000000 in
set_option maxRecDepth 100000 in
theorem c_X1_number_8 {l : Launch} {P : L5} {D : va_G} {N F T : Nat → Nat → Int32} {K : Nat → Int32} {A : Nat → Nat → Int32} {w : Int64} {j : Nat} (hj : j < 25) : CtI l yX1_number cX1_number 2 .int 1 0 0 P D (nW P) (nW P) False (cw P N F T K A w) (cw P N F T K A w) [.ref (rN P j), .int 8] (N j 8) := by
  refine mk_Met pl_X1 [(0, .ref (rN P j)), (1, .int 8)] rfl (Nat.le_of_ble_eq_true rfl) ?_
  intro pg en sg mg ag bg mt cd C
  refine v_iload_n C 1 dX1_number_0 rfl ?_
  refine v_tableIn (tgt := 100) C dX1_number_1 (by decide) (by decide) rfl (by decide) ?_
  refine v_aload_n C 0 dX1_number_100 rfl ?_
  refine v_gNu C hj 8 (by decide) k_337 rfl dX1_number_101 ?_
  exact v_iret C dX1_number_104 rfl rfl
set_option maxHeartbeats 4000000 in
set_option maxRecDepth 100000 in
theorem c_X1_number_9 {l : Launch} {P : L5} {D : va_G} {N F T : Nat → Nat → Int32} {K : Nat → Int32} {A : Nat → Nat → Int32} {w : Int64} {j : Nat} (hj : j < 25) : CtI l yX1_number cX1_number 2 .int 1 0 0 P D (nW P) (nW P) False (cw P N F T K A w) (cw P N F T K A w) [.ref (rN P j), .int 9] (N j 9) := by
  refine mk_Met pl_X1 [(0, .ref (rN P j)), (1, .int 9)] rfl (Nat.le_of_ble_eq_true rfl) ?_
  intro pg en sg mg ag bg mt cd C
  refine v_iload_n C 1 dX1_number_0 rfl ?_
  refine v_tableIn (tgt := 105) C dX1_number_1 (by decide) (by decide) rfl (by decide) ?_
  refine v_aload_n C 0 dX1_number_105 rfl ?_
  refine v_gNu C hj 9 (by decide) k_339 rfl dX1_number_106 ?_
  exact v_iret C dX1_number_109 rfl rfl
set_option maxHeartbeats 4000000 in
set_option maxRecDepth 100000 in
theorem c_X1_number_10 {l : Launch} {P : L5} {D : va_G} {N F T : Nat → Nat → Int32} {K : Nat → Int32} {A : Nat → Nat → Int32} {w : Int64} {j : Nat} (hj : j < 25) : CtI l yX1_number cX1_number 2 .int 1 0 0 P D (nW P) (nW P) False (cw P N F T K A w) (cw P N F T K A w) [.ref (rN P j), .int 10] (N j 10) := by
  refine mk_Met pl_X1 [(0, .ref (rN P j)), (1, .int 10)] rfl (Nat.le_of_ble_eq_true rfl) ?_
  intro pg en sg mg ag bg mt cd C
  refine v_iload_n C 1 dX1_number_0 rfl ?_
  refine v_tableIn (tgt := 110) C dX1_number_1 (by decide) (by decide) rfl (by decide) ?_
  refine v_aload_n C 0 dX1_number_110 rfl ?_
  refine v_gNu C hj 10 (by decide) k_340 rfl dX1_number_111 ?_
  exact v_iret C dX1_number_114 rfl rfl
set_option maxHeartbeats 4000000 in
set_option maxRecDepth 100000 in
theorem c_X1_number_11 {l : Launch} {P : L5} {D : va_G} {N F T : Nat → Nat → Int32} {K : Nat → Int32} {A : Nat → Nat → Int32} {w : Int64} {j : Nat} (hj : j < 25) : CtI l yX1_number cX1_number 2 .int 1 0 0 P D (nW P) (nW P) False (cw P N F T K A w) (cw P N F T K A w) [.ref (rN P j), .int 11] (N j 11) := by
  refine mk_Met pl_X1 [(0, .ref (rN P j)), (1, .int 11)] rfl (Nat.le_of_ble_eq_true rfl) ?_
  intro pg en sg mg ag bg mt cd C
  refine v_iload_n C 1 dX1_number_0 rfl ?_
  refine v_tableOut (tgt := 115) C dX1_number_1 (by decide) (by decide) ?_
  refine v_aload_n C 0 dX1_number_115 rfl ?_
  refine v_gNu C hj 11 (by decide) k_341 rfl dX1_number_116 ?_
  exact v_iret C dX1_number_119 rfl rfl
set_option maxHeartbeats 4000000 in
set_option maxRecDepth 100000 in
theorem c_X1_shareOfTotal_2 {l : Launch} {P : L5} {D : va_G} {N F T : Nat → Nat → Int32} {K : Nat → Int32} {A : Nat → Nat → Int32} {w : Int64} {j : Nat} (hj : j < 25) : CtI l yX1_shareOfTotal cX1_shareOfTotal 2 .int 2 0 0 P D (nW P) (nW P) False (cw P N F T K A w) (cw P N F T K A w) [.ref (rN P j), .int 2] (share (N j) 2) := by
  refine mk_Met pl_X1 [(0, .ref (rN P j)), (1, .int 2)] rfl (Nat.le_of_ble_eq_true rfl) ?_
  intro pg en sg mg ag bg mt cd C
  refine v_iload_n C 1 dX1_shareOfTotal_0 rfl ?_
  refine v_tableIn (tgt := 48) C dX1_shareOfTotal_1 (by decide) (by decide) rfl (by decide) ?_
  refine v_aload_n C 0 dX1_shareOfTotal_48 rfl ?_
  refine v_gNu C hj 5 (by decide) k_330 rfl dX1_shareOfTotal_49 ?_
  refine v_iconst (v := 4) C dX1_shareOfTotal_52 rfl ?_
  refine v_icmp_lt (tgt := 60) C dX1_shareOfTotal_53 (by decide) (fun h53_1 => ?_) (fun h53_1 => ?_)
  · refine v_iconst (v := 0) C dX1_shareOfTotal_60 rfl ?_
    exact v_iret C dX1_shareOfTotal_61 rfl (by show _ = if N j 5 < 4 then _ else _; rw [if_pos (by exact h53_1)])
  · refine v_iconst (v := 1) C dX1_shareOfTotal_56 rfl ?_
    refine v_goto (tgt := 61) C dX1_shareOfTotal_57 (by decide) ?_
    exact v_iret C dX1_shareOfTotal_61 rfl (by show _ = if N j 5 < 4 then _ else _; rw [if_neg (by exact h53_1)])
set_option maxHeartbeats 4000000 in
set_option maxRecDepth 100000 in
theorem c_X1_shareOfTotal_3 {l : Launch} {P : L5} {D : va_G} {N F T : Nat → Nat → Int32} {K : Nat → Int32} {A : Nat → Nat → Int32} {w : Int64} {j : Nat} (hj : j < 25) : CtI l yX1_shareOfTotal cX1_shareOfTotal 2 .int 2 0 0 P D (nW P) (nW P) False (cw P N F T K A w) (cw P N F T K A w) [.ref (rN P j), .int 3] (share (N j) 3) := by
  refine mk_Met pl_X1 [(0, .ref (rN P j)), (1, .int 3)] rfl (Nat.le_of_ble_eq_true rfl) ?_
  intro pg en sg mg ag bg mt cd C
  refine v_iload_n C 1 dX1_shareOfTotal_0 rfl ?_
  refine v_tableIn (tgt := 62) C dX1_shareOfTotal_1 (by decide) (by decide) rfl (by decide) ?_
  refine v_aload_n C 0 dX1_shareOfTotal_62 rfl ?_
  refine v_gNu C hj 3 (by decide) k_327 rfl dX1_shareOfTotal_63 ?_
  exact v_iret C dX1_shareOfTotal_66 rfl rfl
set_option maxHeartbeats 4000000 in
set_option maxRecDepth 100000 in
theorem c_X1_shareOfTotal_4 {l : Launch} {P : L5} {D : va_G} {N F T : Nat → Nat → Int32} {K : Nat → Int32} {A : Nat → Nat → Int32} {w : Int64} {j : Nat} (hj : j < 25) : CtI l yX1_shareOfTotal cX1_shareOfTotal 2 .int 2 0 0 P D (nW P) (nW P) False (cw P N F T K A w) (cw P N F T K A w) [.ref (rN P j), .int 4] (share (N j) 4) := by
  refine mk_Met pl_X1 [(0, .ref (rN P j)), (1, .int 4)] rfl (Nat.le_of_ble_eq_true rfl) ?_
  intro pg en sg mg ag bg mt cd C
  refine v_iload_n C 1 dX1_shareOfTotal_0 rfl ?_
  refine v_tableIn (tgt := 67) C dX1_shareOfTotal_1 (by decide) (by decide) rfl (by decide) ?_
  refine v_aload_n C 0 dX1_shareOfTotal_67 rfl ?_
  refine v_gNu C hj 12 (by decide) k_342 rfl dX1_shareOfTotal_68 ?_
  refine go_I (run_S C (c_X1_sumOfL hj) k_186 k_3 k_184 k_185 dd_X1_sumOf ⟨Nat.le_of_ble_eq_true rfl, Nat.le_of_ble_eq_true rfl⟩ rfl (Nat.le_of_ble_eq_true rfl) dX1_shareOfTotal_71 ⟨Nat.le_of_ble_eq_true rfl, Nat.le_of_ble_eq_true rfl⟩) ?_
  exact v_iret C dX1_shareOfTotal_74 rfl rfl
set_option maxHeartbeats 4000000 in
set_option maxRecDepth 100000 in
theorem c_X1_shareOfTotal_5 {l : Launch} {P : L5} {D : va_G} {N F T : Nat → Nat → Int32} {K : Nat → Int32} {A : Nat → Nat → Int32} {w : Int64} {j : Nat} (hj : j < 25) : CtI l yX1_shareOfTotal cX1_shareOfTotal 2 .int 2 0 0 P D (nW P) (nW P) False (cw P N F T K A w) (cw P N F T K A w) [.ref (rN P j), .int 5] (share (N j) 5) := by
  refine mk_Met pl_X1 [(0, .ref (rN P j)), (1, .int 5)] rfl (Nat.le_of_ble_eq_true rfl) ?_
  intro pg en sg mg ag bg mt cd C
  refine v_iload_n C 1 dX1_shareOfTotal_0 rfl ?_
  refine v_tableIn (tgt := 75) C dX1_shareOfTotal_1 (by decide) (by decide) rfl (by decide) ?_
  refine v_aload_n C 0 dX1_shareOfTotal_75 rfl ?_
  refine v_gNu C hj 13 (by decide) k_344 rfl dX1_shareOfTotal_76 ?_
  refine go_I (run_S C (c_X1_sumOfB hj) k_186 k_3 k_184 k_185 dd_X1_sumOf ⟨Nat.le_of_ble_eq_true rfl, Nat.le_of_ble_eq_true rfl⟩ rfl (Nat.le_of_ble_eq_true rfl) dX1_shareOfTotal_79 ⟨Nat.le_of_ble_eq_true rfl, Nat.le_of_ble_eq_true rfl⟩) ?_
  exact v_iret C dX1_shareOfTotal_82 rfl rfl
set_option maxHeartbeats 4000000 in
set_option maxRecDepth 100000 in
theorem c_X1_shareOfTotal_7 {l : Launch} {P : L5} {D : va_G} {N F T : Nat → Nat → Int32} {K : Nat → Int32} {A : Nat → Nat → Int32} {w : Int64} {j : Nat} (hj : j < 25) : CtI l yX1_shareOfTotal cX1_shareOfTotal 2 .int 2 0 0 P D (nW P) (nW P) False (cw P N F T K A w) (cw P N F T K A w) [.ref (rN P j), .int 7] (share (N j) 7) := by
  refine mk_Met pl_X1 [(0, .ref (rN P j)), (1, .int 7)] rfl (Nat.le_of_ble_eq_true rfl) ?_
  intro pg en sg mg ag bg mt cd C
  refine v_iload_n C 1 dX1_shareOfTotal_0 rfl ?_
  refine v_tableIn (tgt := 83) C dX1_shareOfTotal_1 (by decide) (by decide) rfl (by decide) ?_
  refine v_aload_n C 0 dX1_shareOfTotal_83 rfl ?_
  refine v_gNu C hj 7 (by decide) k_333 rfl dX1_shareOfTotal_84 ?_
  exact v_iret C dX1_shareOfTotal_87 rfl rfl
set_option maxHeartbeats 4000000 in
set_option maxRecDepth 100000 in
theorem c_X1_shareOfTotal_8 {l : Launch} {P : L5} {D : va_G} {N F T : Nat → Nat → Int32} {K : Nat → Int32} {A : Nat → Nat → Int32} {w : Int64} {j : Nat} (hj : j < 25) : CtI l yX1_shareOfTotal cX1_shareOfTotal 2 .int 2 0 0 P D (nW P) (nW P) False (cw P N F T K A w) (cw P N F T K A w) [.ref (rN P j), .int 8] (share (N j) 8) := by
  refine mk_Met pl_X1 [(0, .ref (rN P j)), (1, .int 8)] rfl (Nat.le_of_ble_eq_true rfl) ?_
  intro pg en sg mg ag bg mt cd C
  refine v_iload_n C 1 dX1_shareOfTotal_0 rfl ?_
  refine v_tableIn (tgt := 88) C dX1_shareOfTotal_1 (by decide) (by decide) rfl (by decide) ?_
  refine v_aload_n C 0 dX1_shareOfTotal_88 rfl ?_
  refine v_gNu C hj 8 (by decide) k_337 rfl dX1_shareOfTotal_89 ?_
  exact v_iret C dX1_shareOfTotal_92 rfl rfl
set_option maxHeartbeats 4000000 in
set_option maxRecDepth 100000 in
theorem c_X1_shareOfTotal_9 {l : Launch} {P : L5} {D : va_G} {N F T : Nat → Nat → Int32} {K : Nat → Int32} {A : Nat → Nat → Int32} {w : Int64} {j : Nat} (hj : j < 25) : CtI l yX1_shareOfTotal cX1_shareOfTotal 2 .int 2 0 0 P D (nW P) (nW P) False (cw P N F T K A w) (cw P N F T K A w) [.ref (rN P j), .int 9] (share (N j) 9) := by
  refine mk_Met pl_X1 [(0, .ref (rN P j)), (1, .int 9)] rfl (Nat.le_of_ble_eq_true rfl) ?_
  intro pg en sg mg ag bg mt cd C
  refine v_iload_n C 1 dX1_shareOfTotal_0 rfl ?_
  refine v_tableIn (tgt := 93) C dX1_shareOfTotal_1 (by decide) (by decide) rfl (by decide) ?_
  refine v_aload_n C 0 dX1_shareOfTotal_93 rfl ?_
  refine v_gNu C hj 9 (by decide) k_339 rfl dX1_shareOfTotal_94 ?_
  exact v_iret C dX1_shareOfTotal_97 rfl rfl
set_option maxHeartbeats 4000000 in
set_option maxRecDepth 100000 in
theorem c_X1_shareOfTotal_10 {l : Launch} {P : L5} {D : va_G} {N F T : Nat → Nat → Int32} {K : Nat → Int32} {A : Nat → Nat → Int32} {w : Int64} {j : Nat} (hj : j < 25) : CtI l yX1_shareOfTotal cX1_shareOfTotal 2 .int 2 0 0 P D (nW P) (nW P) False (cw P N F T K A w) (cw P N F T K A w) [.ref (rN P j), .int 10] (share (N j) 10) := by
  refine mk_Met pl_X1 [(0, .ref (rN P j)), (1, .int 10)] rfl (Nat.le_of_ble_eq_true rfl) ?_
  intro pg en sg mg ag bg mt cd C
  refine v_iload_n C 1 dX1_shareOfTotal_0 rfl ?_
  refine v_tableOut (tgt := 98) C dX1_shareOfTotal_1 (by decide) (by decide) ?_
  refine v_aload_n C 0 dX1_shareOfTotal_98 rfl ?_
  refine v_gNu C hj 10 (by decide) k_340 rfl dX1_shareOfTotal_99 ?_
  exact v_iret C dX1_shareOfTotal_102 rfl rfl
set_option maxHeartbeats 4000000 in
set_option maxRecDepth 100000 in
theorem c_X1_addToDigest {l : Launch} {P : L5} {D : va_G} {N F T : Nat → Nat → Int32} {K : Nat → Int32} {A : Nat → Nat → Int32} {w : Int64} {j : Nat} (hj : j < 25) {d : Int64} : CtL l yX1_addToDigest cX1_addToDigest 6 2 0 0 P D (nW P) (nW P) False (cw P N F T K A w) (cw P N F T K A w) [.ref (rN P j), .long d] (addD (N j) d) := by
  refine mk_Met pl_X1 [(0, .ref (rN P j)), (1, .long d)] rfl (Nat.le_of_ble_eq_true rfl) ?_
  intro pg en sg mg ag bg mt cd C
  refine v_lload_n C 1 dX1_addToDigest_0 rfl ?_
  refine v_lstore_n (lv' := [(3, .long d), (0, .ref (rN P j)), (1, .long d)]) C dX1_addToDigest_1 rfl (by decide) rfl ?_
  refine v_iconst (v := 0) C dX1_addToDigest_2 rfl ?_
  refine v_istore (lv' := [(5, .int 0), (3, .long d), (0, .ref (rN P j)), (1, .long d)]) C dX1_addToDigest_3 (by decide) rfl ?_
  refine v_iload C 0 dX1_addToDigest_5 rfl ?_
  refine v_bipush (v := 12) C dX1_addToDigest_7 rfl ?_
  refine v_icmp_ge (tgt := 32) C dX1_addToDigest_9 (by decide) (fun h9 => absurd h9 (by decide)) (fun _ => ?_)
  refine v_lload_n C 1 dX1_addToDigest_12 rfl ?_
  refine v_ldc2 (v := 31) C dX1_addToDigest_13 k_293 ?_
  refine v_lmul C dX1_addToDigest_16 ?_
  refine v_aload_n C 2 dX1_addToDigest_17 rfl ?_
  refine v_iload C 0 dX1_addToDigest_18 rfl ?_
  refine go_I (run_V C (c_X1_number_0 hj) k_142 k_3 k_294 k_140 ks_2 dd_X1_number ⟨Nat.le_of_ble_eq_true rfl, Nat.le_of_ble_eq_true rfl⟩ (rcN hj) rfl (Nat.le_of_ble_eq_true rfl) dX1_addToDigest_20 ⟨Nat.le_of_ble_eq_true rfl, Nat.le_of_ble_eq_true rfl⟩) ?_
  refine v_i2l C dX1_addToDigest_23 ?_
  refine v_ladd C dX1_addToDigest_24 ?_
  refine v_topl (fun y_1 ey_1 => ?_)
  replace ey_1 : y_1 = dg d (N j 0) := ey_1
  refine v_lstore_n (lv' := [(3, .long y_1), (5, .int 0), (0, .ref (rN P j)), (1, .long d)]) C dX1_addToDigest_25 rfl (by decide) rfl ?_
  refine v_iinc (b := 1) (lv' := [(5, .int 1), (3, .long y_1), (0, .ref (rN P j)), (1, .long d)]) C 1 dX1_addToDigest_26 rfl rfl (by decide) rfl ?_
  refine v_goto (tgt := 5) C dX1_addToDigest_29 (by decide) ?_
  refine v_iload C 0 dX1_addToDigest_5 rfl ?_
  refine v_bipush (v := 12) C dX1_addToDigest_7 rfl ?_
  refine v_icmp_ge (tgt := 32) C dX1_addToDigest_9 (by decide) (fun h9 => absurd h9 (by decide)) (fun _ => ?_)
  refine v_lload_n C 1 dX1_addToDigest_12 rfl ?_
  refine v_ldc2 (v := 31) C dX1_addToDigest_13 k_293 ?_
  refine v_lmul C dX1_addToDigest_16 ?_
  refine v_aload_n C 2 dX1_addToDigest_17 rfl ?_
  refine v_iload C 0 dX1_addToDigest_18 rfl ?_
  refine go_I (run_V C (c_X1_number_1 hj) k_142 k_3 k_294 k_140 ks_2 dd_X1_number ⟨Nat.le_of_ble_eq_true rfl, Nat.le_of_ble_eq_true rfl⟩ (rcN hj) rfl (Nat.le_of_ble_eq_true rfl) dX1_addToDigest_20 ⟨Nat.le_of_ble_eq_true rfl, Nat.le_of_ble_eq_true rfl⟩) ?_
  refine v_i2l C dX1_addToDigest_23 ?_
  refine v_ladd C dX1_addToDigest_24 ?_
  refine v_topl (fun y_2 ey_2 => ?_)
  replace ey_2 : y_2 = dg y_1 (N j 1) := ey_2
  refine v_lstore_n (lv' := [(3, .long y_2), (5, .int 1), (0, .ref (rN P j)), (1, .long d)]) C dX1_addToDigest_25 rfl (by decide) rfl ?_
  refine v_iinc (b := 2) (lv' := [(5, .int 2), (3, .long y_2), (0, .ref (rN P j)), (1, .long d)]) C 1 dX1_addToDigest_26 rfl rfl (by decide) rfl ?_
  refine v_goto (tgt := 5) C dX1_addToDigest_29 (by decide) ?_
  refine v_iload C 0 dX1_addToDigest_5 rfl ?_
  refine v_bipush (v := 12) C dX1_addToDigest_7 rfl ?_
  refine v_icmp_ge (tgt := 32) C dX1_addToDigest_9 (by decide) (fun h9 => absurd h9 (by decide)) (fun _ => ?_)
  refine v_lload_n C 1 dX1_addToDigest_12 rfl ?_
  refine v_ldc2 (v := 31) C dX1_addToDigest_13 k_293 ?_
  refine v_lmul C dX1_addToDigest_16 ?_
  refine v_aload_n C 2 dX1_addToDigest_17 rfl ?_
  refine v_iload C 0 dX1_addToDigest_18 rfl ?_
  refine go_I (run_V C (c_X1_number_2 hj) k_142 k_3 k_294 k_140 ks_2 dd_X1_number ⟨Nat.le_of_ble_eq_true rfl, Nat.le_of_ble_eq_true rfl⟩ (rcN hj) rfl (Nat.le_of_ble_eq_true rfl) dX1_addToDigest_20 ⟨Nat.le_of_ble_eq_true rfl, Nat.le_of_ble_eq_true rfl⟩) ?_
  refine v_i2l C dX1_addToDigest_23 ?_
  refine v_ladd C dX1_addToDigest_24 ?_
  refine v_topl (fun y_3 ey_3 => ?_)
  replace ey_3 : y_3 = dg y_2 (N j 2) := ey_3
  refine v_lstore_n (lv' := [(3, .long y_3), (5, .int 2), (0, .ref (rN P j)), (1, .long d)]) C dX1_addToDigest_25 rfl (by decide) rfl ?_
  refine v_iinc (b := 3) (lv' := [(5, .int 3), (3, .long y_3), (0, .ref (rN P j)), (1, .long d)]) C 1 dX1_addToDigest_26 rfl rfl (by decide) rfl ?_
  refine v_goto (tgt := 5) C dX1_addToDigest_29 (by decide) ?_
  refine v_iload C 0 dX1_addToDigest_5 rfl ?_
  refine v_bipush (v := 12) C dX1_addToDigest_7 rfl ?_
  refine v_icmp_ge (tgt := 32) C dX1_addToDigest_9 (by decide) (fun h9 => absurd h9 (by decide)) (fun _ => ?_)
  refine v_lload_n C 1 dX1_addToDigest_12 rfl ?_
  refine v_ldc2 (v := 31) C dX1_addToDigest_13 k_293 ?_
  refine v_lmul C dX1_addToDigest_16 ?_
  refine v_aload_n C 2 dX1_addToDigest_17 rfl ?_
  refine v_iload C 0 dX1_addToDigest_18 rfl ?_
  refine go_I (run_V C (c_X1_number_3 hj) k_142 k_3 k_294 k_140 ks_2 dd_X1_number ⟨Nat.le_of_ble_eq_true rfl, Nat.le_of_ble_eq_true rfl⟩ (rcN hj) rfl (Nat.le_of_ble_eq_true rfl) dX1_addToDigest_20 ⟨Nat.le_of_ble_eq_true rfl, Nat.le_of_ble_eq_true rfl⟩) ?_
  refine v_i2l C dX1_addToDigest_23 ?_
  refine v_ladd C dX1_addToDigest_24 ?_
  refine v_topl (fun y_4 ey_4 => ?_)
  replace ey_4 : y_4 = dg y_3 (N j 3) := ey_4
  refine v_lstore_n (lv' := [(3, .long y_4), (5, .int 3), (0, .ref (rN P j)), (1, .long d)]) C dX1_addToDigest_25 rfl (by decide) rfl ?_
  refine v_iinc (b := 4) (lv' := [(5, .int 4), (3, .long y_4), (0, .ref (rN P j)), (1, .long d)]) C 1 dX1_addToDigest_26 rfl rfl (by decide) rfl ?_
  refine v_goto (tgt := 5) C dX1_addToDigest_29 (by decide) ?_
  refine v_iload C 0 dX1_addToDigest_5 rfl ?_
  refine v_bipush (v := 12) C dX1_addToDigest_7 rfl ?_
  refine v_icmp_ge (tgt := 32) C dX1_addToDigest_9 (by decide) (fun h9 => absurd h9 (by decide)) (fun _ => ?_)
  refine v_lload_n C 1 dX1_addToDigest_12 rfl ?_
  refine v_ldc2 (v := 31) C dX1_addToDigest_13 k_293 ?_
  refine v_lmul C dX1_addToDigest_16 ?_
  refine v_aload_n C 2 dX1_addToDigest_17 rfl ?_
  refine v_iload C 0 dX1_addToDigest_18 rfl ?_
  refine go_I (run_V C (c_X1_number_4 hj) k_142 k_3 k_294 k_140 ks_2 dd_X1_number ⟨Nat.le_of_ble_eq_true rfl, Nat.le_of_ble_eq_true rfl⟩ (rcN hj) rfl (Nat.le_of_ble_eq_true rfl) dX1_addToDigest_20 ⟨Nat.le_of_ble_eq_true rfl, Nat.le_of_ble_eq_true rfl⟩) ?_
  refine v_i2l C dX1_addToDigest_23 ?_
  refine v_ladd C dX1_addToDigest_24 ?_
  refine v_topl (fun y_5 ey_5 => ?_)
  replace ey_5 : y_5 = dg y_4 (N j 4) := ey_5
  refine v_lstore_n (lv' := [(3, .long y_5), (5, .int 4), (0, .ref (rN P j)), (1, .long d)]) C dX1_addToDigest_25 rfl (by decide) rfl ?_
  refine v_iinc (b := 5) (lv' := [(5, .int 5), (3, .long y_5), (0, .ref (rN P j)), (1, .long d)]) C 1 dX1_addToDigest_26 rfl rfl (by decide) rfl ?_
  refine v_goto (tgt := 5) C dX1_addToDigest_29 (by decide) ?_
  refine v_iload C 0 dX1_addToDigest_5 rfl ?_
  refine v_bipush (v := 12) C dX1_addToDigest_7 rfl ?_
  refine v_icmp_ge (tgt := 32) C dX1_addToDigest_9 (by decide) (fun h9 => absurd h9 (by decide)) (fun _ => ?_)
  refine v_lload_n C 1 dX1_addToDigest_12 rfl ?_
  refine v_ldc2 (v := 31) C dX1_addToDigest_13 k_293 ?_
  refine v_lmul C dX1_addToDigest_16 ?_
  refine v_aload_n C 2 dX1_addToDigest_17 rfl ?_
  refine v_iload C 0 dX1_addToDigest_18 rfl ?_
  refine go_I (run_V C (c_X1_number_5 hj) k_142 k_3 k_294 k_140 ks_2 dd_X1_number ⟨Nat.le_of_ble_eq_true rfl, Nat.le_of_ble_eq_true rfl⟩ (rcN hj) rfl (Nat.le_of_ble_eq_true rfl) dX1_addToDigest_20 ⟨Nat.le_of_ble_eq_true rfl, Nat.le_of_ble_eq_true rfl⟩) ?_
  refine v_i2l C dX1_addToDigest_23 ?_
  refine v_ladd C dX1_addToDigest_24 ?_
  refine v_topl (fun y_6 ey_6 => ?_)
  replace ey_6 : y_6 = dg y_5 (N j 5) := ey_6
  refine v_lstore_n (lv' := [(3, .long y_6), (5, .int 5), (0, .ref (rN P j)), (1, .long d)]) C dX1_addToDigest_25 rfl (by decide) rfl ?_
  refine v_iinc (b := 6) (lv' := [(5, .int 6), (3, .long y_6), (0, .ref (rN P j)), (1, .long d)]) C 1 dX1_addToDigest_26 rfl rfl (by decide) rfl ?_
  refine v_goto (tgt := 5) C dX1_addToDigest_29 (by decide) ?_
  refine v_iload C 0 dX1_addToDigest_5 rfl ?_
  refine v_bipush (v := 12) C dX1_addToDigest_7 rfl ?_
  refine v_icmp_ge (tgt := 32) C dX1_addToDigest_9 (by decide) (fun h9 => absurd h9 (by decide)) (fun _ => ?_)
  refine v_lload_n C 1 dX1_addToDigest_12 rfl ?_
  refine v_ldc2 (v := 31) C dX1_addToDigest_13 k_293 ?_
  refine v_lmul C dX1_addToDigest_16 ?_
  refine v_aload_n C 2 dX1_addToDigest_17 rfl ?_
  refine v_iload C 0 dX1_addToDigest_18 rfl ?_
  refine go_I (run_V C (c_X1_number_6 hj) k_142 k_3 k_294 k_140 ks_2 dd_X1_number ⟨Nat.le_of_ble_eq_true rfl, Nat.le_of_ble_eq_true rfl⟩ (rcN hj) rfl (Nat.le_of_ble_eq_true rfl) dX1_addToDigest_20 ⟨Nat.le_of_ble_eq_true rfl, Nat.le_of_ble_eq_true rfl⟩) ?_
  refine v_i2l C dX1_addToDigest_23 ?_
  refine v_ladd C dX1_addToDigest_24 ?_
  refine v_topl (fun y_7 ey_7 => ?_)
  replace ey_7 : y_7 = dg y_6 (N j 6) := ey_7
  refine v_lstore_n (lv' := [(3, .long y_7), (5, .int 6), (0, .ref (rN P j)), (1, .long d)]) C dX1_addToDigest_25 rfl (by decide) rfl ?_
  refine v_iinc (b := 7) (lv' := [(5, .int 7), (3, .long y_7), (0, .ref (rN P j)), (1, .long d)]) C 1 dX1_addToDigest_26 rfl rfl (by decide) rfl ?_
  refine v_goto (tgt := 5) C dX1_addToDigest_29 (by decide) ?_
  refine v_iload C 0 dX1_addToDigest_5 rfl ?_
  refine v_bipush (v := 12) C dX1_addToDigest_7 rfl ?_
  refine v_icmp_ge (tgt := 32) C dX1_addToDigest_9 (by decide) (fun h9 => absurd h9 (by decide)) (fun _ => ?_)
  refine v_lload_n C 1 dX1_addToDigest_12 rfl ?_
  refine v_ldc2 (v := 31) C dX1_addToDigest_13 k_293 ?_
  refine v_lmul C dX1_addToDigest_16 ?_
  refine v_aload_n C 2 dX1_addToDigest_17 rfl ?_
  refine v_iload C 0 dX1_addToDigest_18 rfl ?_
  refine go_I (run_V C (c_X1_number_7 hj) k_142 k_3 k_294 k_140 ks_2 dd_X1_number ⟨Nat.le_of_ble_eq_true rfl, Nat.le_of_ble_eq_true rfl⟩ (rcN hj) rfl (Nat.le_of_ble_eq_true rfl) dX1_addToDigest_20 ⟨Nat.le_of_ble_eq_true rfl, Nat.le_of_ble_eq_true rfl⟩) ?_
  refine v_i2l C dX1_addToDigest_23 ?_
  refine v_ladd C dX1_addToDigest_24 ?_
  refine v_topl (fun y_8 ey_8 => ?_)
  replace ey_8 : y_8 = dg y_7 (N j 7) := ey_8
  refine v_lstore_n (lv' := [(3, .long y_8), (5, .int 7), (0, .ref (rN P j)), (1, .long d)]) C dX1_addToDigest_25 rfl (by decide) rfl ?_
  refine v_iinc (b := 8) (lv' := [(5, .int 8), (3, .long y_8), (0, .ref (rN P j)), (1, .long d)]) C 1 dX1_addToDigest_26 rfl rfl (by decide) rfl ?_
  refine v_goto (tgt := 5) C dX1_addToDigest_29 (by decide) ?_
  refine v_iload C 0 dX1_addToDigest_5 rfl ?_
  refine v_bipush (v := 12) C dX1_addToDigest_7 rfl ?_
  refine v_icmp_ge (tgt := 32) C dX1_addToDigest_9 (by decide) (fun h9 => absurd h9 (by decide)) (fun _ => ?_)
  refine v_lload_n C 1 dX1_addToDigest_12 rfl ?_
  refine v_ldc2 (v := 31) C dX1_addToDigest_13 k_293 ?_
  refine v_lmul C dX1_addToDigest_16 ?_
  refine v_aload_n C 2 dX1_addToDigest_17 rfl ?_
  refine v_iload C 0 dX1_addToDigest_18 rfl ?_
  refine go_I (run_V C (c_X1_number_8 hj) k_142 k_3 k_294 k_140 ks_2 dd_X1_number ⟨Nat.le_of_ble_eq_true rfl, Nat.le_of_ble_eq_true rfl⟩ (rcN hj) rfl (Nat.le_of_ble_eq_true rfl) dX1_addToDigest_20 ⟨Nat.le_of_ble_eq_true rfl, Nat.le_of_ble_eq_true rfl⟩) ?_
  refine v_i2l C dX1_addToDigest_23 ?_
  refine v_ladd C dX1_addToDigest_24 ?_
  refine v_topl (fun y_9 ey_9 => ?_)
  replace ey_9 : y_9 = dg y_8 (N j 8) := ey_9
  refine v_lstore_n (lv' := [(3, .long y_9), (5, .int 8), (0, .ref (rN P j)), (1, .long d)]) C dX1_addToDigest_25 rfl (by decide) rfl ?_
  refine v_iinc (b := 9) (lv' := [(5, .int 9), (3, .long y_9), (0, .ref (rN P j)), (1, .long d)]) C 1 dX1_addToDigest_26 rfl rfl (by decide) rfl ?_
  refine v_goto (tgt := 5) C dX1_addToDigest_29 (by decide) ?_
  refine v_iload C 0 dX1_addToDigest_5 rfl ?_
  refine v_bipush (v := 12) C dX1_addToDigest_7 rfl ?_
  refine v_icmp_ge (tgt := 32) C dX1_addToDigest_9 (by decide) (fun h9 => absurd h9 (by decide)) (fun _ => ?_)
  refine v_lload_n C 1 dX1_addToDigest_12 rfl ?_
  refine v_ldc2 (v := 31) C dX1_addToDigest_13 k_293 ?_
  refine v_lmul C dX1_addToDigest_16 ?_
  refine v_aload_n C 2 dX1_addToDigest_17 rfl ?_
  refine v_iload C 0 dX1_addToDigest_18 rfl ?_
  refine go_I (run_V C (c_X1_number_9 hj) k_142 k_3 k_294 k_140 ks_2 dd_X1_number ⟨Nat.le_of_ble_eq_true rfl, Nat.le_of_ble_eq_true rfl⟩ (rcN hj) rfl (Nat.le_of_ble_eq_true rfl) dX1_addToDigest_20 ⟨Nat.le_of_ble_eq_true rfl, Nat.le_of_ble_eq_true rfl⟩) ?_
  refine v_i2l C dX1_addToDigest_23 ?_
  refine v_ladd C dX1_addToDigest_24 ?_
  refine v_topl (fun y_10 ey_10 => ?_)
  replace ey_10 : y_10 = dg y_9 (N j 9) := ey_10
  refine v_lstore_n (lv' := [(3, .long y_10), (5, .int 9), (0, .ref (rN P j)), (1, .long d)]) C dX1_addToDigest_25 rfl (by decide) rfl ?_
  refine v_iinc (b := 10) (lv' := [(5, .int 10), (3, .long y_10), (0, .ref (rN P j)), (1, .long d)]) C 1 dX1_addToDigest_26 rfl rfl (by decide) rfl ?_
  refine v_goto (tgt := 5) C dX1_addToDigest_29 (by decide) ?_
  refine v_iload C 0 dX1_addToDigest_5 rfl ?_
  refine v_bipush (v := 12) C dX1_addToDigest_7 rfl ?_
  refine v_icmp_ge (tgt := 32) C dX1_addToDigest_9 (by decide) (fun h9 => absurd h9 (by decide)) (fun _ => ?_)
  refine v_lload_n C 1 dX1_addToDigest_12 rfl ?_
  refine v_ldc2 (v := 31) C dX1_addToDigest_13 k_293 ?_
  refine v_lmul C dX1_addToDigest_16 ?_
  refine v_aload_n C 2 dX1_addToDigest_17 rfl ?_
  refine v_iload C 0 dX1_addToDigest_18 rfl ?_
  refine go_I (run_V C (c_X1_number_10 hj) k_142 k_3 k_294 k_140 ks_2 dd_X1_number ⟨Nat.le_of_ble_eq_true rfl, Nat.le_of_ble_eq_true rfl⟩ (rcN hj) rfl (Nat.le_of_ble_eq_true rfl) dX1_addToDigest_20 ⟨Nat.le_of_ble_eq_true rfl, Nat.le_of_ble_eq_true rfl⟩) ?_
  refine v_i2l C dX1_addToDigest_23 ?_
  refine v_ladd C dX1_addToDigest_24 ?_
  refine v_topl (fun y_11 ey_11 => ?_)
  replace ey_11 : y_11 = dg y_10 (N j 10) := ey_11
  refine v_lstore_n (lv' := [(3, .long y_11), (5, .int 10), (0, .ref (rN P j)), (1, .long d)]) C dX1_addToDigest_25 rfl (by decide) rfl ?_
  refine v_iinc (b := 11) (lv' := [(5, .int 11), (3, .long y_11), (0, .ref (rN P j)), (1, .long d)]) C 1 dX1_addToDigest_26 rfl rfl (by decide) rfl ?_
  refine v_goto (tgt := 5) C dX1_addToDigest_29 (by decide) ?_
  refine v_iload C 0 dX1_addToDigest_5 rfl ?_
  refine v_bipush (v := 12) C dX1_addToDigest_7 rfl ?_
  refine v_icmp_ge (tgt := 32) C dX1_addToDigest_9 (by decide) (fun h9 => absurd h9 (by decide)) (fun _ => ?_)
  refine v_lload_n C 1 dX1_addToDigest_12 rfl ?_
  refine v_ldc2 (v := 31) C dX1_addToDigest_13 k_293 ?_
  refine v_lmul C dX1_addToDigest_16 ?_
  refine v_aload_n C 2 dX1_addToDigest_17 rfl ?_
  refine v_iload C 0 dX1_addToDigest_18 rfl ?_
  refine go_I (run_V C (c_X1_number_11 hj) k_142 k_3 k_294 k_140 ks_2 dd_X1_number ⟨Nat.le_of_ble_eq_true rfl, Nat.le_of_ble_eq_true rfl⟩ (rcN hj) rfl (Nat.le_of_ble_eq_true rfl) dX1_addToDigest_20 ⟨Nat.le_of_ble_eq_true rfl, Nat.le_of_ble_eq_true rfl⟩) ?_
  refine v_i2l C dX1_addToDigest_23 ?_
  refine v_ladd C dX1_addToDigest_24 ?_
  refine v_topl (fun y_12 ey_12 => ?_)
  replace ey_12 : y_12 = dg y_11 (N j 11) := ey_12
  refine v_lstore_n (lv' := [(3, .long y_12), (5, .int 11), (0, .ref (rN P j)), (1, .long d)]) C dX1_addToDigest_25 rfl (by decide) rfl ?_
  refine v_iinc (b := 12) (lv' := [(5, .int 12), (3, .long y_12), (0, .ref (rN P j)), (1, .long d)]) C 1 dX1_addToDigest_26 rfl rfl (by decide) rfl ?_
  refine v_goto (tgt := 5) C dX1_addToDigest_29 (by decide) ?_
  refine v_iload C 0 dX1_addToDigest_5 rfl ?_
  refine v_bipush (v := 12) C dX1_addToDigest_7 rfl ?_
  refine v_icmp_ge (tgt := 32) C dX1_addToDigest_9 (by decide) (fun _ => ?_) (fun h9 => absurd (by decide) h9)
  refine v_iconst (v := 0) C dX1_addToDigest_32 rfl ?_
  refine v_istore (lv' := [(5, .int 0), (3, .long y_12), (0, .ref (rN P j)), (1, .long d)]) C dX1_addToDigest_33 (by decide) rfl ?_
  refine v_iload C 0 dX1_addToDigest_35 rfl ?_
  refine v_iconst (v := 4) C dX1_addToDigest_37 rfl ?_
  refine v_icmp_ge (tgt := 77) C dX1_addToDigest_38 (by decide) (fun h9 => absurd h9 (by decide)) (fun _ => ?_)
  refine v_lload_n C 1 dX1_addToDigest_41 rfl ?_
  refine v_ldc2 (v := 31) C dX1_addToDigest_42 k_293 ?_
  refine v_lmul C dX1_addToDigest_45 ?_
  refine v_aload_n C 2 dX1_addToDigest_46 rfl ?_
  refine v_gNu C hj 12 (by decide) k_342 rfl dX1_addToDigest_47 ?_
  refine v_iload C 0 dX1_addToDigest_50 rfl ?_
  refine v_ldLuk C 0 hj tn_0 in4_0 rfl dX1_addToDigest_52 ?_
  refine v_i2l C dX1_addToDigest_53 ?_
  refine v_ladd C dX1_addToDigest_54 ?_
  refine v_topl (fun y_13 ey_13 => ?_)
  replace ey_13 : y_13 = dg y_12 (N j 12) := ey_13
  refine v_lstore_n (lv' := [(3, .long y_13), (5, .int 0), (0, .ref (rN P j)), (1, .long d)]) C dX1_addToDigest_55 rfl (by decide) rfl ?_
  refine v_lload_n C 0 dX1_addToDigest_56 rfl ?_
  refine v_ldc2 (v := 31) C dX1_addToDigest_57 k_293 ?_
  refine v_lmul C dX1_addToDigest_60 ?_
  refine v_aload_n C 2 dX1_addToDigest_61 rfl ?_
  refine v_gNu C hj 13 (by decide) k_344 rfl dX1_addToDigest_62 ?_
  refine v_iload C 1 dX1_addToDigest_65 rfl ?_
  refine v_ldBuk C 0 hj tn_0 in4_0 rfl dX1_addToDigest_67 ?_
  refine v_i2l C dX1_addToDigest_68 ?_
  refine v_ladd C dX1_addToDigest_69 ?_
  refine v_topl (fun y_14 ey_14 => ?_)
  replace ey_14 : y_14 = dg y_13 (N j 16) := ey_14
  refine v_lstore_n (lv' := [(3, .long y_14), (5, .int 0), (0, .ref (rN P j)), (1, .long d)]) C dX1_addToDigest_70 rfl (by decide) rfl ?_
  refine v_iinc (b := 1) (lv' := [(5, .int 1), (3, .long y_14), (0, .ref (rN P j)), (1, .long d)]) C 1 dX1_addToDigest_71 rfl rfl (by decide) rfl ?_
  refine v_goto (tgt := 35) C dX1_addToDigest_74 (by decide) ?_
  refine v_iload C 0 dX1_addToDigest_35 rfl ?_
  refine v_iconst (v := 4) C dX1_addToDigest_37 rfl ?_
  refine v_icmp_ge (tgt := 77) C dX1_addToDigest_38 (by decide) (fun h9 => absurd h9 (by decide)) (fun _ => ?_)
  refine v_lload_n C 1 dX1_addToDigest_41 rfl ?_
  refine v_ldc2 (v := 31) C dX1_addToDigest_42 k_293 ?_
  refine v_lmul C dX1_addToDigest_45 ?_
  refine v_aload_n C 2 dX1_addToDigest_46 rfl ?_
  refine v_gNu C hj 12 (by decide) k_342 rfl dX1_addToDigest_47 ?_
  refine v_iload C 0 dX1_addToDigest_50 rfl ?_
  refine v_ldLuk C 1 hj tn_1 in4_1 rfl dX1_addToDigest_52 ?_
  refine v_i2l C dX1_addToDigest_53 ?_
  refine v_ladd C dX1_addToDigest_54 ?_
  refine v_topl (fun y_15 ey_15 => ?_)
  replace ey_15 : y_15 = dg y_14 (N j 13) := ey_15
  refine v_lstore_n (lv' := [(3, .long y_15), (5, .int 1), (0, .ref (rN P j)), (1, .long d)]) C dX1_addToDigest_55 rfl (by decide) rfl ?_
  refine v_lload_n C 0 dX1_addToDigest_56 rfl ?_
  refine v_ldc2 (v := 31) C dX1_addToDigest_57 k_293 ?_
  refine v_lmul C dX1_addToDigest_60 ?_
  refine v_aload_n C 2 dX1_addToDigest_61 rfl ?_
  refine v_gNu C hj 13 (by decide) k_344 rfl dX1_addToDigest_62 ?_
  refine v_iload C 1 dX1_addToDigest_65 rfl ?_
  refine v_ldBuk C 1 hj tn_1 in4_1 rfl dX1_addToDigest_67 ?_
  refine v_i2l C dX1_addToDigest_68 ?_
  refine v_ladd C dX1_addToDigest_69 ?_
  refine v_topl (fun y_16 ey_16 => ?_)
  replace ey_16 : y_16 = dg y_15 (N j 17) := ey_16
  refine v_lstore_n (lv' := [(3, .long y_16), (5, .int 1), (0, .ref (rN P j)), (1, .long d)]) C dX1_addToDigest_70 rfl (by decide) rfl ?_
  refine v_iinc (b := 2) (lv' := [(5, .int 2), (3, .long y_16), (0, .ref (rN P j)), (1, .long d)]) C 1 dX1_addToDigest_71 rfl rfl (by decide) rfl ?_
  refine v_goto (tgt := 35) C dX1_addToDigest_74 (by decide) ?_
  refine v_iload C 0 dX1_addToDigest_35 rfl ?_
  refine v_iconst (v := 4) C dX1_addToDigest_37 rfl ?_
  refine v_icmp_ge (tgt := 77) C dX1_addToDigest_38 (by decide) (fun h9 => absurd h9 (by decide)) (fun _ => ?_)
  refine v_lload_n C 1 dX1_addToDigest_41 rfl ?_
  refine v_ldc2 (v := 31) C dX1_addToDigest_42 k_293 ?_
  refine v_lmul C dX1_addToDigest_45 ?_
  refine v_aload_n C 2 dX1_addToDigest_46 rfl ?_
  refine v_gNu C hj 12 (by decide) k_342 rfl dX1_addToDigest_47 ?_
  refine v_iload C 0 dX1_addToDigest_50 rfl ?_
  refine v_ldLuk C 2 hj tn_2 in4_2 rfl dX1_addToDigest_52 ?_
  refine v_i2l C dX1_addToDigest_53 ?_
  refine v_ladd C dX1_addToDigest_54 ?_
  refine v_topl (fun y_17 ey_17 => ?_)
  replace ey_17 : y_17 = dg y_16 (N j 14) := ey_17
  refine v_lstore_n (lv' := [(3, .long y_17), (5, .int 2), (0, .ref (rN P j)), (1, .long d)]) C dX1_addToDigest_55 rfl (by decide) rfl ?_
  refine v_lload_n C 0 dX1_addToDigest_56 rfl ?_
  refine v_ldc2 (v := 31) C dX1_addToDigest_57 k_293 ?_
  refine v_lmul C dX1_addToDigest_60 ?_
  refine v_aload_n C 2 dX1_addToDigest_61 rfl ?_
  refine v_gNu C hj 13 (by decide) k_344 rfl dX1_addToDigest_62 ?_
  refine v_iload C 1 dX1_addToDigest_65 rfl ?_
  refine v_ldBuk C 2 hj tn_2 in4_2 rfl dX1_addToDigest_67 ?_
  refine v_i2l C dX1_addToDigest_68 ?_
  refine v_ladd C dX1_addToDigest_69 ?_
  refine v_topl (fun y_18 ey_18 => ?_)
  replace ey_18 : y_18 = dg y_17 (N j 18) := ey_18
  refine v_lstore_n (lv' := [(3, .long y_18), (5, .int 2), (0, .ref (rN P j)), (1, .long d)]) C dX1_addToDigest_70 rfl (by decide) rfl ?_
  refine v_iinc (b := 3) (lv' := [(5, .int 3), (3, .long y_18), (0, .ref (rN P j)), (1, .long d)]) C 1 dX1_addToDigest_71 rfl rfl (by decide) rfl ?_
  refine v_goto (tgt := 35) C dX1_addToDigest_74 (by decide) ?_
  refine v_iload C 0 dX1_addToDigest_35 rfl ?_
  refine v_iconst (v := 4) C dX1_addToDigest_37 rfl ?_
  refine v_icmp_ge (tgt := 77) C dX1_addToDigest_38 (by decide) (fun h9 => absurd h9 (by decide)) (fun _ => ?_)
  refine v_lload_n C 1 dX1_addToDigest_41 rfl ?_
  refine v_ldc2 (v := 31) C dX1_addToDigest_42 k_293 ?_
  refine v_lmul C dX1_addToDigest_45 ?_
  refine v_aload_n C 2 dX1_addToDigest_46 rfl ?_
  refine v_gNu C hj 12 (by decide) k_342 rfl dX1_addToDigest_47 ?_
  refine v_iload C 0 dX1_addToDigest_50 rfl ?_
  refine v_ldLuk C 3 hj tn_3 in4_3 rfl dX1_addToDigest_52 ?_
  refine v_i2l C dX1_addToDigest_53 ?_
  refine v_ladd C dX1_addToDigest_54 ?_
  refine v_topl (fun y_19 ey_19 => ?_)
  replace ey_19 : y_19 = dg y_18 (N j 15) := ey_19
  refine v_lstore_n (lv' := [(3, .long y_19), (5, .int 3), (0, .ref (rN P j)), (1, .long d)]) C dX1_addToDigest_55 rfl (by decide) rfl ?_
  refine v_lload_n C 0 dX1_addToDigest_56 rfl ?_
  refine v_ldc2 (v := 31) C dX1_addToDigest_57 k_293 ?_
  refine v_lmul C dX1_addToDigest_60 ?_
  refine v_aload_n C 2 dX1_addToDigest_61 rfl ?_
  refine v_gNu C hj 13 (by decide) k_344 rfl dX1_addToDigest_62 ?_
  refine v_iload C 1 dX1_addToDigest_65 rfl ?_
  refine v_ldBuk C 3 hj tn_3 in4_3 rfl dX1_addToDigest_67 ?_
  refine v_i2l C dX1_addToDigest_68 ?_
  refine v_ladd C dX1_addToDigest_69 ?_
  refine v_topl (fun y_20 ey_20 => ?_)
  replace ey_20 : y_20 = dg y_19 (N j 19) := ey_20
  refine v_lstore_n (lv' := [(3, .long y_20), (5, .int 3), (0, .ref (rN P j)), (1, .long d)]) C dX1_addToDigest_70 rfl (by decide) rfl ?_
  refine v_iinc (b := 4) (lv' := [(5, .int 4), (3, .long y_20), (0, .ref (rN P j)), (1, .long d)]) C 1 dX1_addToDigest_71 rfl rfl (by decide) rfl ?_
  refine v_goto (tgt := 35) C dX1_addToDigest_74 (by decide) ?_
  refine v_iload C 0 dX1_addToDigest_35 rfl ?_
  refine v_iconst (v := 4) C dX1_addToDigest_37 rfl ?_
  refine v_icmp_ge (tgt := 77) C dX1_addToDigest_38 (by decide) (fun _ => ?_) (fun h9 => absurd (by decide) h9)
  refine v_lload_n C 1 dX1_addToDigest_77 rfl ?_
  exact v_lret C dX1_addToDigest_78 rfl (by rw [ey_20, ey_19, ey_18, ey_17, ey_16, ey_15, ey_14, ey_13, ey_12, ey_11, ey_10, ey_9, ey_8, ey_7, ey_6, ey_5, ey_4, ey_3, ey_2, ey_1]; rfl)
set_option maxHeartbeats 4000000 in
set_option maxRecDepth 100000 in
theorem c_X1_copyFrom {l : Launch} {P : L5} {D : va_G} {N F T : Nat → Nat → Int32} {K : Nat → Int32} {A : Nat → Nat → Int32} {w : Int64} {j : Nat} (hj : j < 25) {v : Nat → Int32} {i : Nat} (hi : i < 25) (hne : i ≠ j) : CtV l yX1_copyFrom cX1_copyFrom 3 1 0 0 P D (nW P) (nW P) False (cw P (va_up N j v) F T K A w) (cw P (va_up N j (N i)) F T K A w) [.ref (rN P j), .ref (rN P i)] := by
  refine mk_Met pl_X1 [(0, .ref (rN P j)), (1, .ref (rN P i))] rfl (Nat.le_of_ble_eq_true rfl) ?_
  intro pg en sg mg ag bg mt cd C
  refine v_aload_n C 0 dX1_copyFrom_0 rfl ?_
  refine v_aload_n C 1 dX1_copyFrom_1 rfl ?_
  refine v_gNu C hi 0 (by decide) k_322 (by rw [va_up_ne _ _ hne]; rfl) dX1_copyFrom_2 ?_
  refine v_pN C hj 0 (by decide) k_322 dX1_copyFrom_5 ?_
  refine v_aload_n C 0 dX1_copyFrom_8 rfl ?_
  refine v_aload_n C 1 dX1_copyFrom_9 rfl ?_
  refine v_gNu C hi 1 (by decide) k_323 (by rw [va_up_ne _ _ hne]; rfl) dX1_copyFrom_10 ?_
  refine v_pN C hj 1 (by decide) k_323 dX1_copyFrom_13 ?_
  refine v_aload_n C 0 dX1_copyFrom_16 rfl ?_
  refine v_aload_n C 1 dX1_copyFrom_17 rfl ?_
  refine v_gNu C hi 2 (by decide) k_325 (by rw [va_up_ne _ _ hne]; rfl) dX1_copyFrom_18 ?_
  refine v_pN C hj 2 (by decide) k_325 dX1_copyFrom_21 ?_
  refine v_aload_n C 0 dX1_copyFrom_24 rfl ?_
  refine v_aload_n C 1 dX1_copyFrom_25 rfl ?_
  refine v_gNu C hi 3 (by decide) k_327 (by rw [va_up_ne _ _ hne]; rfl) dX1_copyFrom_26 ?_
  refine v_pN C hj 3 (by decide) k_327 dX1_copyFrom_29 ?_
  refine v_aload_n C 0 dX1_copyFrom_32 rfl ?_
  refine v_aload_n C 1 dX1_copyFrom_33 rfl ?_
  refine v_gNu C hi 4 (by decide) k_329 (by rw [va_up_ne _ _ hne]; rfl) dX1_copyFrom_34 ?_
  refine v_pN C hj 4 (by decide) k_329 dX1_copyFrom_37 ?_
  refine v_aload_n C 0 dX1_copyFrom_40 rfl ?_
  refine v_aload_n C 1 dX1_copyFrom_41 rfl ?_
  refine v_gNu C hi 5 (by decide) k_330 (by rw [va_up_ne _ _ hne]; rfl) dX1_copyFrom_42 ?_
  refine v_pN C hj 5 (by decide) k_330 dX1_copyFrom_45 ?_
  refine v_aload_n C 0 dX1_copyFrom_48 rfl ?_
  refine v_aload_n C 1 dX1_copyFrom_49 rfl ?_
  refine v_gNu C hi 6 (by decide) k_331 (by rw [va_up_ne _ _ hne]; rfl) dX1_copyFrom_50 ?_
  refine v_pN C hj 6 (by decide) k_331 dX1_copyFrom_53 ?_
  refine v_aload_n C 0 dX1_copyFrom_56 rfl ?_
  refine v_aload_n C 1 dX1_copyFrom_57 rfl ?_
  refine v_gNu C hi 7 (by decide) k_333 (by rw [va_up_ne _ _ hne]; rfl) dX1_copyFrom_58 ?_
  refine v_pN C hj 7 (by decide) k_333 dX1_copyFrom_61 ?_
  refine v_aload_n C 0 dX1_copyFrom_64 rfl ?_
  refine v_aload_n C 1 dX1_copyFrom_65 rfl ?_
  refine v_gNu C hi 8 (by decide) k_337 (by rw [va_up_ne _ _ hne]; rfl) dX1_copyFrom_66 ?_
  refine v_pN C hj 8 (by decide) k_337 dX1_copyFrom_69 ?_
  refine v_aload_n C 0 dX1_copyFrom_72 rfl ?_
  refine v_aload_n C 1 dX1_copyFrom_73 rfl ?_
  refine v_gNu C hi 9 (by decide) k_339 (by rw [va_up_ne _ _ hne]; rfl) dX1_copyFrom_74 ?_
  refine v_pN C hj 9 (by decide) k_339 dX1_copyFrom_77 ?_
  refine v_aload_n C 0 dX1_copyFrom_80 rfl ?_
  refine v_aload_n C 1 dX1_copyFrom_81 rfl ?_
  refine v_gNu C hi 10 (by decide) k_340 (by rw [va_up_ne _ _ hne]; rfl) dX1_copyFrom_82 ?_
  refine v_pN C hj 10 (by decide) k_340 dX1_copyFrom_85 ?_
  refine v_aload_n C 0 dX1_copyFrom_88 rfl ?_
  refine v_aload_n C 1 dX1_copyFrom_89 rfl ?_
  refine v_gNu C hi 11 (by decide) k_341 (by rw [va_up_ne _ _ hne]; rfl) dX1_copyFrom_90 ?_
  refine v_pN C hj 11 (by decide) k_341 dX1_copyFrom_93 ?_
  refine v_iconst (v := 0) C dX1_copyFrom_96 rfl ?_
  refine v_istore_n (lv' := [(2, .int 0), (0, .ref (rN P j)), (1, .ref (rN P i))]) C dX1_copyFrom_97 rfl (by decide) rfl ?_
  refine v_iload_n C 0 dX1_copyFrom_98 rfl ?_
  refine v_iconst (v := 4) C dX1_copyFrom_99 rfl ?_
  refine v_icmp_ge (tgt := 133) C dX1_copyFrom_100 (by decide) (fun h9 => absurd h9 (by decide)) (fun _ => ?_)
  refine v_aload_n C 1 dX1_copyFrom_103 rfl ?_
  refine v_gN C hj 12 (by decide) k_342 rfl dX1_copyFrom_104 ?_
  refine v_iload_n C 0 dX1_copyFrom_107 rfl ?_
  refine v_aload_n C 2 dX1_copyFrom_108 rfl ?_
  refine v_gNu C hi 12 (by decide) k_342 (by rw [va_up_ne _ _ hne]; rfl) dX1_copyFrom_109 ?_
  refine v_iload_n C 0 dX1_copyFrom_112 rfl ?_
  refine v_ldLuk C 0 hi tn_0 in4_0 (by rw [va_up_ne _ _ hne]) dX1_copyFrom_113 ?_
  refine v_stLk C 0 hj tn_0 in4_0 dX1_copyFrom_114 ?_
  refine v_aload_n C 1 dX1_copyFrom_115 rfl ?_
  refine v_gN C hj 13 (by decide) k_344 rfl dX1_copyFrom_116 ?_
  refine v_iload_n C 0 dX1_copyFrom_119 rfl ?_
  refine v_aload_n C 2 dX1_copyFrom_120 rfl ?_
  refine v_gNu C hi 13 (by decide) k_344 (by rw [va_up_ne _ _ hne]; rfl) dX1_copyFrom_121 ?_
  refine v_iload_n C 0 dX1_copyFrom_124 rfl ?_
  refine v_ldBuk C 0 hi tn_0 in4_0 (by rw [va_up_ne _ _ hne]) dX1_copyFrom_125 ?_
  refine v_stBk C 0 hj tn_0 in4_0 dX1_copyFrom_126 ?_
  refine v_iinc (b := 1) (lv' := [(2, .int 1), (0, .ref (rN P j)), (1, .ref (rN P i))]) C 0 dX1_copyFrom_127 rfl rfl (by decide) rfl ?_
  refine v_goto (tgt := 98) C dX1_copyFrom_130 (by decide) ?_
  refine v_iload_n C 0 dX1_copyFrom_98 rfl ?_
  refine v_iconst (v := 4) C dX1_copyFrom_99 rfl ?_
  refine v_icmp_ge (tgt := 133) C dX1_copyFrom_100 (by decide) (fun h9 => absurd h9 (by decide)) (fun _ => ?_)
  refine v_aload_n C 1 dX1_copyFrom_103 rfl ?_
  refine v_gN C hj 12 (by decide) k_342 rfl dX1_copyFrom_104 ?_
  refine v_iload_n C 0 dX1_copyFrom_107 rfl ?_
  refine v_aload_n C 2 dX1_copyFrom_108 rfl ?_
  refine v_gNu C hi 12 (by decide) k_342 (by rw [va_up_ne _ _ hne]; rfl) dX1_copyFrom_109 ?_
  refine v_iload_n C 0 dX1_copyFrom_112 rfl ?_
  refine v_ldLuk C 1 hi tn_1 in4_1 (by rw [va_up_ne _ _ hne]) dX1_copyFrom_113 ?_
  refine v_stLk C 1 hj tn_1 in4_1 dX1_copyFrom_114 ?_
  refine v_aload_n C 1 dX1_copyFrom_115 rfl ?_
  refine v_gN C hj 13 (by decide) k_344 rfl dX1_copyFrom_116 ?_
  refine v_iload_n C 0 dX1_copyFrom_119 rfl ?_
  refine v_aload_n C 2 dX1_copyFrom_120 rfl ?_
  refine v_gNu C hi 13 (by decide) k_344 (by rw [va_up_ne _ _ hne]; rfl) dX1_copyFrom_121 ?_
  refine v_iload_n C 0 dX1_copyFrom_124 rfl ?_
  refine v_ldBuk C 1 hi tn_1 in4_1 (by rw [va_up_ne _ _ hne]) dX1_copyFrom_125 ?_
  refine v_stBk C 1 hj tn_1 in4_1 dX1_copyFrom_126 ?_
  refine v_iinc (b := 2) (lv' := [(2, .int 2), (0, .ref (rN P j)), (1, .ref (rN P i))]) C 0 dX1_copyFrom_127 rfl rfl (by decide) rfl ?_
  refine v_goto (tgt := 98) C dX1_copyFrom_130 (by decide) ?_
  refine v_iload_n C 0 dX1_copyFrom_98 rfl ?_
  refine v_iconst (v := 4) C dX1_copyFrom_99 rfl ?_
  refine v_icmp_ge (tgt := 133) C dX1_copyFrom_100 (by decide) (fun h9 => absurd h9 (by decide)) (fun _ => ?_)
  refine v_aload_n C 1 dX1_copyFrom_103 rfl ?_
  refine v_gN C hj 12 (by decide) k_342 rfl dX1_copyFrom_104 ?_
  refine v_iload_n C 0 dX1_copyFrom_107 rfl ?_
  refine v_aload_n C 2 dX1_copyFrom_108 rfl ?_
  refine v_gNu C hi 12 (by decide) k_342 (by rw [va_up_ne _ _ hne]; rfl) dX1_copyFrom_109 ?_
  refine v_iload_n C 0 dX1_copyFrom_112 rfl ?_
  refine v_ldLuk C 2 hi tn_2 in4_2 (by rw [va_up_ne _ _ hne]) dX1_copyFrom_113 ?_
  refine v_stLk C 2 hj tn_2 in4_2 dX1_copyFrom_114 ?_
  refine v_aload_n C 1 dX1_copyFrom_115 rfl ?_
  refine v_gN C hj 13 (by decide) k_344 rfl dX1_copyFrom_116 ?_
  refine v_iload_n C 0 dX1_copyFrom_119 rfl ?_
  refine v_aload_n C 2 dX1_copyFrom_120 rfl ?_
  refine v_gNu C hi 13 (by decide) k_344 (by rw [va_up_ne _ _ hne]; rfl) dX1_copyFrom_121 ?_
  refine v_iload_n C 0 dX1_copyFrom_124 rfl ?_
  refine v_ldBuk C 2 hi tn_2 in4_2 (by rw [va_up_ne _ _ hne]) dX1_copyFrom_125 ?_
  refine v_stBk C 2 hj tn_2 in4_2 dX1_copyFrom_126 ?_
  refine v_iinc (b := 3) (lv' := [(2, .int 3), (0, .ref (rN P j)), (1, .ref (rN P i))]) C 0 dX1_copyFrom_127 rfl rfl (by decide) rfl ?_
  refine v_goto (tgt := 98) C dX1_copyFrom_130 (by decide) ?_
  refine v_iload_n C 0 dX1_copyFrom_98 rfl ?_
  refine v_iconst (v := 4) C dX1_copyFrom_99 rfl ?_
  refine v_icmp_ge (tgt := 133) C dX1_copyFrom_100 (by decide) (fun h9 => absurd h9 (by decide)) (fun _ => ?_)
  refine v_aload_n C 1 dX1_copyFrom_103 rfl ?_
  refine v_gN C hj 12 (by decide) k_342 rfl dX1_copyFrom_104 ?_
  refine v_iload_n C 0 dX1_copyFrom_107 rfl ?_
  refine v_aload_n C 2 dX1_copyFrom_108 rfl ?_
  refine v_gNu C hi 12 (by decide) k_342 (by rw [va_up_ne _ _ hne]; rfl) dX1_copyFrom_109 ?_
  refine v_iload_n C 0 dX1_copyFrom_112 rfl ?_
  refine v_ldLuk C 3 hi tn_3 in4_3 (by rw [va_up_ne _ _ hne]) dX1_copyFrom_113 ?_
  refine v_stLk C 3 hj tn_3 in4_3 dX1_copyFrom_114 ?_
  refine v_aload_n C 1 dX1_copyFrom_115 rfl ?_
  refine v_gN C hj 13 (by decide) k_344 rfl dX1_copyFrom_116 ?_
  refine v_iload_n C 0 dX1_copyFrom_119 rfl ?_
  refine v_aload_n C 2 dX1_copyFrom_120 rfl ?_
  refine v_gNu C hi 13 (by decide) k_344 (by rw [va_up_ne _ _ hne]; rfl) dX1_copyFrom_121 ?_
  refine v_iload_n C 0 dX1_copyFrom_124 rfl ?_
  refine v_ldBuk C 3 hi tn_3 in4_3 (by rw [va_up_ne _ _ hne]) dX1_copyFrom_125 ?_
  refine v_stBk C 3 hj tn_3 in4_3 dX1_copyFrom_126 ?_
  refine v_iinc (b := 4) (lv' := [(2, .int 4), (0, .ref (rN P j)), (1, .ref (rN P i))]) C 0 dX1_copyFrom_127 rfl rfl (by decide) rfl ?_
  refine v_goto (tgt := 98) C dX1_copyFrom_130 (by decide) ?_
  refine v_iload_n C 0 dX1_copyFrom_98 rfl ?_
  refine v_iconst (v := 4) C dX1_copyFrom_99 rfl ?_
  refine v_icmp_ge (tgt := 133) C dX1_copyFrom_100 (by decide) (fun _ => ?_) (fun h9 => absurd (by decide) h9)
  exact v_vret C dX1_copyFrom_133 (cw_cN (lt20 ⟨rfl, rfl, rfl, rfl, rfl, rfl, rfl, rfl, rfl, rfl, rfl, rfl, rfl, rfl, rfl, rfl, rfl, rfl, rfl, rfl⟩))
set_option maxHeartbeats 4000000 in
set_option maxRecDepth 100000 in
theorem c_X0_copyFrom {l : Launch} {P : L5} {D : va_G} {N F T : Nat → Nat → Int32} {K : Nat → Int32} {A : Nat → Nat → Int32} {w : Int64} {i : Nat} (hi : i < 8) {g : Nat → Int32} {j : Nat} (hj : j < 8) (hne : j ≠ i) : CtV l yX0_copyFrom cX0_copyFrom 2 1 0 0 P D (nW P) (nW P) False (cw P N (va_up F i g) T K A w) (cw P N (va_up F i (F j)) T K A w) [.ref (rF P i), .ref (rF P j)] := by
  refine mk_Met pl_X0 [(0, .ref (rF P i)), (1, .ref (rF P j))] rfl (Nat.le_of_ble_eq_true rfl) ?_
  intro pg en sg mg ag bg mt cd C
  refine v_aload_n C 0 dX0_copyFrom_0 rfl ?_
  refine v_aload_n C 1 dX0_copyFrom_1 rfl ?_
  refine v_gFu C hj 0 (by decide) k_383 (by rw [va_up_ne _ _ hne]; rfl) dX0_copyFrom_2 ?_
  refine v_pF C hi 0 (by decide) k_383 dX0_copyFrom_5 ?_
  refine v_aload_n C 0 dX0_copyFrom_8 rfl ?_
  refine v_aload_n C 1 dX0_copyFrom_9 rfl ?_
  refine v_gFu C hj 1 (by decide) k_386 (by rw [va_up_ne _ _ hne]; rfl) dX0_copyFrom_10 ?_
  refine v_pF C hi 1 (by decide) k_386 dX0_copyFrom_13 ?_
  refine v_aload_n C 0 dX0_copyFrom_16 rfl ?_
  refine v_aload_n C 1 dX0_copyFrom_17 rfl ?_
  refine v_gFu C hj 2 (by decide) k_388 (by rw [va_up_ne _ _ hne]; rfl) dX0_copyFrom_18 ?_
  refine v_pF C hi 2 (by decide) k_388 dX0_copyFrom_21 ?_
  refine v_aload_n C 0 dX0_copyFrom_24 rfl ?_
  refine v_aload_n C 1 dX0_copyFrom_25 rfl ?_
  refine v_gFu C hj 3 (by decide) k_390 (by rw [va_up_ne _ _ hne]; rfl) dX0_copyFrom_26 ?_
  refine v_pF C hi 3 (by decide) k_390 dX0_copyFrom_29 ?_
  refine v_aload_n C 0 dX0_copyFrom_32 rfl ?_
  refine v_aload_n C 1 dX0_copyFrom_33 rfl ?_
  refine v_gFu C hj 4 (by decide) k_392 (by rw [va_up_ne _ _ hne]; rfl) dX0_copyFrom_34 ?_
  refine v_pF C hi 4 (by decide) k_392 dX0_copyFrom_37 ?_
  refine v_aload_n C 0 dX0_copyFrom_40 rfl ?_
  refine v_aload_n C 1 dX0_copyFrom_41 rfl ?_
  refine v_gFu C hj 5 (by decide) k_394 (by rw [va_up_ne _ _ hne]; rfl) dX0_copyFrom_42 ?_
  refine v_pF C hi 5 (by decide) k_394 dX0_copyFrom_45 ?_
  exact v_vret C dX0_copyFrom_48 (cw_cF (lt6 ⟨rfl, rfl, rfl, rfl, rfl, rfl⟩))
set_option maxHeartbeats 4000000 in
set_option maxRecDepth 100000 in
theorem c_X0_deliver {l : Launch} {P : L5} {D : va_G} {N F T : Nat → Nat → Int32} {K : Nat → Int32} {A : Nat → Nat → Int32} {w : Int64} {i : Nat} (hi : i < 8) {g : Nat → Int32} : CtV l yX0_deliver cX0_deliver 1 1 0 0 P D (nW P) (nW P) False (cw P N (va_up F i g) T K A w) (cw P N (va_up F i (dlv g)) T K A w) [.ref (rF P i)] := by
  refine mk_Met pl_X0 [(0, .ref (rF P i))] rfl (Nat.le_of_ble_eq_true rfl) ?_
  intro pg en sg mg ag bg mt cd C
  refine v_aload_n C 0 dX0_deliver_0 rfl ?_
  refine v_dup C dX0_deliver_1 rfl ?_
  refine v_gF C hi 1 (by decide) k_386 rfl dX0_deliver_2 ?_
  refine v_aload_n C 0 dX0_deliver_5 rfl ?_
  refine v_gF C hi 5 (by decide) k_394 rfl dX0_deliver_6 ?_
  refine v_iadd C dX0_deliver_9 ?_
  refine v_pF C hi 1 (by decide) k_386 dX0_deliver_10 ?_
  refine v_aload_n C 0 dX0_deliver_13 rfl ?_
  refine v_dup C dX0_deliver_14 rfl ?_
  refine v_gF C hi 4 (by decide) k_392 rfl dX0_deliver_15 ?_
  refine v_aload_n C 0 dX0_deliver_18 rfl ?_
  refine v_gF C hi 5 (by decide) k_394 rfl dX0_deliver_19 ?_
  refine v_iadd C dX0_deliver_22 ?_
  refine v_pF C hi 4 (by decide) k_392 dX0_deliver_23 ?_
  refine v_aload_n C 0 dX0_deliver_26 rfl ?_
  refine v_iconst (v := 0) C dX0_deliver_27 rfl ?_
  refine v_pF C hi 5 (by decide) k_394 dX0_deliver_28 ?_
  exact v_vret C dX0_deliver_31 rfl
set_option maxHeartbeats 4000000 in
set_option maxRecDepth 100000 in
theorem c_X0_collectDebt {l : Launch} {P : L5} {D : va_G} {N F T : Nat → Nat → Int32} {K : Nat → Int32} {A : Nat → Nat → Int32} {w : Int64} {i : Nat} (hi : i < 8) {g : Nat → Int32} {j : Nat} (hj : j < 25) {v : Nat → Int32} : CtV l yX0_collectDebt cX0_collectDebt 3 1 0 0 P D (nW P) (nW P) False (cw P (va_up N j v) (va_up F i g) T K A w) (cw P (va_up N j (colV v)) (va_up F i (colG v g)) T K A w) [.ref (rF P i), .ref (rN P j)] := by
  refine mk_Met pl_X0 [(0, .ref (rF P i)), (1, .ref (rN P j))] rfl (Nat.le_of_ble_eq_true rfl) ?_
  intro pg en sg mg ag bg mt cd C
  refine v_aload_n C 1 dX0_collectDebt_0 rfl ?_
  refine v_gNN C hj 8 (by decide) (List.mem_of_getElem? (i := 9) rfl) rfl dX0_collectDebt_1 ?_
  refine v_aload_n C 1 dX0_collectDebt_4 rfl ?_
  refine v_gNN C hj 7 (by decide) (List.mem_of_getElem? (i := 6) rfl) rfl dX0_collectDebt_5 ?_
  refine v_min C dX0_collectDebt_8 k_242 k_208 k_11 k_209 (Nat.le_of_ble_eq_true rfl) (Nat.le_of_ble_eq_true rfl) (Nat.le_of_ble_eq_true rfl) (Nat.le_of_ble_eq_true rfl) ?_
  refine v_top (fun x_1 ex_1 => ?_)
  refine v_istore_n (lv' := [(2, .int x_1), (0, .ref (rF P i)), (1, .ref (rN P j))]) C dX0_collectDebt_11 rfl (by decide) rfl ?_
  refine v_aload_n C 2 dX0_collectDebt_12 rfl ?_
  refine v_dup C dX0_collectDebt_13 rfl ?_
  refine v_gNN C hj 8 (by decide) (List.mem_of_getElem? (i := 9) rfl) rfl dX0_collectDebt_14 ?_
  refine v_iload_n C 0 dX0_collectDebt_17 rfl ?_
  refine v_isub C dX0_collectDebt_18 ?_
  refine v_pNN C hj 8 (by decide) (List.mem_of_getElem? (i := 9) rfl) dX0_collectDebt_19 ?_
  refine v_aload_n C 2 dX0_collectDebt_22 rfl ?_
  refine v_dup C dX0_collectDebt_23 rfl ?_
  refine v_gNN C hj 7 (by decide) (List.mem_of_getElem? (i := 6) rfl) rfl dX0_collectDebt_24 ?_
  refine v_iload_n C 0 dX0_collectDebt_27 rfl ?_
  refine v_isub C dX0_collectDebt_28 ?_
  refine v_pNN C hj 7 (by decide) (List.mem_of_getElem? (i := 6) rfl) dX0_collectDebt_29 ?_
  refine v_aload_n C 1 dX0_collectDebt_32 rfl ?_
  refine v_dup C dX0_collectDebt_33 rfl ?_
  refine v_gF C hi 1 (by decide) k_386 rfl dX0_collectDebt_34 ?_
  refine v_iload_n C 0 dX0_collectDebt_37 rfl ?_
  refine v_iadd C dX0_collectDebt_38 ?_
  refine v_pF C hi 1 (by decide) k_386 dX0_collectDebt_39 ?_
  exact v_vret C dX0_collectDebt_42 (by rw [ex_1]; rfl)
set_option maxHeartbeats 4000000 in
set_option maxRecDepth 100000 in
theorem c_X0_buyBags {l : Launch} {P : L5} {D : va_G} {N F T : Nat → Nat → Int32} {K : Nat → Int32} {A : Nat → Nat → Int32} {w : Int64} {i : Nat} (hi : i < 8) {g : Nat → Int32} {j : Nat} (hj : j < 25) {v : Nat → Int32} : CtV l yX0_buyBags cX0_buyBags 4 1 0 0 P D (nW P) (nW P) False (cw P (va_up N j v) (va_up F i g) T K A w) (cw P (va_up N j (buyB v g).1) (va_up F i (buyB v g).2) T K A w) [.ref (rF P i), .ref (rN P j)] := by
  refine mk_Met pl_X0 [(0, .ref (rF P i)), (1, .ref (rN P j))] rfl (Nat.le_of_ble_eq_true rfl) ?_
  intro pg en sg mg ag bg mt cd C
  refine v_iconst (v := 0) C dX0_buyBags_0 rfl ?_
  refine v_istore_n (lv' := [(2, .int 0), (0, .ref (rF P i)), (1, .ref (rN P j))]) C dX0_buyBags_1 rfl (by decide) rfl ?_
  refine v_iload_n C 0 dX0_buyBags_2 rfl ?_
  refine v_iconst (v := 4) C dX0_buyBags_3 rfl ?_
  refine v_icmp_ge (tgt := 114) C dX0_buyBags_4 (by decide) (fun h9 => absurd h9 (by decide)) (fun _ => ?_)
  refine v_gSN C 1 rfl (List.mem_of_getElem? (i := 23) rfl) dX0_buyBags_7 ?_
  refine v_iload_n C 0 dX0_buyBags_10 rfl ?_
  refine v_ldSk C 1 rfl 0 tn_0 in4_0 rfl dX0_buyBags_11 ?_
  refine v_bipush (v := 100) C dX0_buyBags_12 rfl ?_
  refine v_aload_n C 1 dX0_buyBags_14 rfl ?_
  refine v_gF C hi 0 (by decide) k_383 rfl dX0_buyBags_15 ?_
  refine v_isub C dX0_buyBags_18 ?_
  refine v_imul C dX0_buyBags_19 ?_
  refine v_bipush (v := 100) C dX0_buyBags_20 rfl ?_
  refine v_idiv C dX0_buyBags_22 (by decide) ?_
  refine v_top (fun x_1 ex_1 => ?_)
  refine v_istore_n (lv' := [(3, .int x_1), (2, .int 0), (0, .ref (rF P i)), (1, .ref (rN P j))]) C dX0_buyBags_23 rfl (by decide) rfl ?_
  have L_1 : ∀ (n : Nat) (v9 g9 : Nat → Int32), (v9 (16 + 0)).toNatClampNeg < n → V pg l en (rmO 1 0 0) sg mg ag bg mt cd P D (MQ bg (QcV P D (nW P) False (cw P (va_up N j (buyB v g).1) (va_up F i (buyB v g).2) T K A w)) ag sg 0 0 (aO P)) 4 (nW P) False (cw P (va_up N j (bagL n x_1 0 v9 g9).1) (va_up F i (bagL n x_1 0 v9 g9).2) T K A w) 0 0 108 [(3, .int x_1), (2, .int 0), (0, .ref (rF P i)), (1, .ref (rN P j))] [] → V pg l en (rmO 1 0 0) sg mg ag bg mt cd P D (MQ bg (QcV P D (nW P) False (cw P (va_up N j (buyB v g).1) (va_up F i (buyB v g).2) T K A w)) ag sg 0 0 (aO P)) 4 (nW P) False (cw P (va_up N j v9) (va_up F i g9) T K A w) 0 0 24 [(3, .int x_1), (2, .int 0), (0, .ref (rF P i)), (1, .ref (rN P j))] [] := by
    intro n
    induction n with
    | zero => intro v9 g9 h9; exact absurd h9 (Nat.not_lt_zero _)
    | succ n ih =>
      intro v9 g9 h9 hk9
      refine v_aload_n C 3 dX0_buyBags_24 rfl ?_
      refine v_gNN C hj 13 (by decide) (List.mem_of_getElem? (i := 11) rfl) rfl dX0_buyBags_25 ?_
      refine v_iload_n C 1 dX0_buyBags_28 rfl ?_
      refine v_ldBk C 0 hj tn_0 in4_0 dX0_buyBags_29 ?_
      refine v_if_le (tgt := 108) C dX0_buyBags_30 (by decide) (fun h30_1 => ?_) (fun h30_1 => ?_)
      · have e9 : bagL (n + 1) x_1 0 v9 g9 = (v9, g9) := by rw [bagL, if_pos (by exact h30_1)]
        rw [e9] at hk9
        exact hk9
      · refine v_aload_n C 2 dX0_buyBags_33 rfl ?_
        refine v_gF C hi 1 (by decide) k_386 rfl dX0_buyBags_34 ?_
        refine v_iload_n C 0 dX0_buyBags_37 rfl ?_
        refine v_icmp_lt (tgt := 108) C dX0_buyBags_38 (by decide) (fun h38_1 => ?_) (fun h38_1 => ?_)
        · have e9 : bagL (n + 1) x_1 0 v9 g9 = (v9, g9) := by rw [bagL, if_neg (by exact h30_1), if_pos (by exact h38_1)]
          rw [e9] at hk9
          exact hk9
        · refine v_aload_n C 3 dX0_buyBags_41 rfl ?_
          refine v_gNN C hj 13 (by decide) (List.mem_of_getElem? (i := 11) rfl) rfl dX0_buyBags_42 ?_
          refine v_iload_n C 1 dX0_buyBags_45 rfl ?_
          refine v_dup2 C dX0_buyBags_46 rfl rfl ?_
          refine v_ldBk C 0 hj tn_0 in4_0 dX0_buyBags_47 ?_
          refine v_iconst (v := 1) C dX0_buyBags_48 rfl ?_
          refine v_isub C dX0_buyBags_49 ?_
          refine v_stBk C 0 hj tn_0 in4_0 dX0_buyBags_50 ?_
          refine v_aload_n C 3 dX0_buyBags_51 rfl ?_
          refine v_dup C dX0_buyBags_52 rfl ?_
          refine v_gNN C hj 7 (by decide) (List.mem_of_getElem? (i := 6) rfl) rfl dX0_buyBags_53 ?_
          refine v_iload_n C 0 dX0_buyBags_56 rfl ?_
          refine v_iadd C dX0_buyBags_57 ?_
          refine v_pNN C hj 7 (by decide) (List.mem_of_getElem? (i := 6) rfl) dX0_buyBags_58 ?_
          refine v_aload_n C 2 dX0_buyBags_61 rfl ?_
          refine v_dup C dX0_buyBags_62 rfl ?_
          refine v_gF C hi 1 (by decide) k_386 rfl dX0_buyBags_63 ?_
          refine v_iload_n C 0 dX0_buyBags_66 rfl ?_
          refine v_isub C dX0_buyBags_67 ?_
          refine v_pF C hi 1 (by decide) k_386 dX0_buyBags_68 ?_
          refine v_aload_n C 2 dX0_buyBags_71 rfl ?_
          refine v_dup C dX0_buyBags_72 rfl ?_
          refine v_gF C hi 3 (by decide) k_390 rfl dX0_buyBags_73 ?_
          refine v_iload_n C 0 dX0_buyBags_76 rfl ?_
          refine v_iadd C dX0_buyBags_77 ?_
          refine v_pF C hi 3 (by decide) k_390 dX0_buyBags_78 ?_
          refine v_aload_n C 2 dX0_buyBags_81 rfl ?_
          refine v_dup C dX0_buyBags_82 rfl ?_
          refine v_gF C hi 2 (by decide) k_388 rfl dX0_buyBags_83 ?_
          refine v_iconst (v := 1) C dX0_buyBags_86 rfl ?_
          refine v_iadd C dX0_buyBags_87 ?_
          refine v_pF C hi 2 (by decide) k_388 dX0_buyBags_88 ?_
          refine v_aload_n C 2 dX0_buyBags_91 rfl ?_
          refine v_dup C dX0_buyBags_92 rfl ?_
          refine v_gF C hi 5 (by decide) k_394 rfl dX0_buyBags_93 ?_
          refine v_gSN C 1 rfl (List.mem_of_getElem? (i := 23) rfl) dX0_buyBags_96 ?_
          refine v_iload_n C 1 dX0_buyBags_99 rfl ?_
          refine v_ldSk C 1 rfl 0 tn_0 in4_0 rfl dX0_buyBags_100 ?_
          refine v_iadd C dX0_buyBags_101 ?_
          refine v_pF C hi 5 (by decide) k_394 dX0_buyBags_102 ?_
          refine v_goto (tgt := 24) C dX0_buyBags_105 (by decide) ?_
          have e9 : bagL (n + 1) x_1 0 v9 g9 = bagL n x_1 0 (bag1 x_1 0 v9) (bag2 x_1 0 g9) := by rw [bagL, if_neg (by exact h30_1), if_neg (by exact h38_1)]
          rw [e9] at hk9
          refine v_eq (f' := (cw P (va_up N j (bag1 x_1 0 v9)) (va_up F i (bag2 x_1 0 g9)) T K A w)) rfl ?_
          exact ih (bag1 x_1 0 v9) (bag2 x_1 0 g9) (by rw [bag1_dec]; exact dec_lt h9 (by exact h30_1)) hk9
  refine L_1 ((v (16 + 0)).toNatClampNeg + 1) v g (Nat.lt_succ_self _) ?_
  rw [show bagL ((v (16 + 0)).toNatClampNeg + 1) x_1 0 v g = buyK 0 (v, g) by rw [ex_1]; rfl]
  obtain ⟨q1, hq1⟩ : ∃ q, q = buyK 0 (v, g) := ⟨_, rfl⟩
  rw [← hq1]
  refine v_iinc (b := 1) (lv' := [(2, .int 1), (3, .int x_1), (0, .ref (rF P i)), (1, .ref (rN P j))]) C 1 dX0_buyBags_108 rfl rfl (by decide) rfl ?_
  refine v_goto (tgt := 2) C dX0_buyBags_111 (by decide) ?_
  refine v_iload_n C 0 dX0_buyBags_2 rfl ?_
  refine v_iconst (v := 4) C dX0_buyBags_3 rfl ?_
  refine v_icmp_ge (tgt := 114) C dX0_buyBags_4 (by decide) (fun h9 => absurd h9 (by decide)) (fun _ => ?_)
  refine v_gSN C 1 rfl (List.mem_of_getElem? (i := 23) rfl) dX0_buyBags_7 ?_
  refine v_iload_n C 0 dX0_buyBags_10 rfl ?_
  refine v_ldSk C 1 rfl 1 tn_1 in4_1 rfl dX0_buyBags_11 ?_
  refine v_bipush (v := 100) C dX0_buyBags_12 rfl ?_
  refine v_aload_n C 2 dX0_buyBags_14 rfl ?_
  refine v_gF C hi 0 (by decide) k_383 rfl dX0_buyBags_15 ?_
  refine v_isub C dX0_buyBags_18 ?_
  refine v_imul C dX0_buyBags_19 ?_
  refine v_bipush (v := 100) C dX0_buyBags_20 rfl ?_
  refine v_idiv C dX0_buyBags_22 (by decide) ?_
  refine v_top (fun x_2 ex_2 => ?_)
  refine v_istore_n (lv' := [(3, .int x_2), (2, .int 1), (0, .ref (rF P i)), (1, .ref (rN P j))]) C dX0_buyBags_23 rfl (by decide) rfl ?_
  have L_2 : ∀ (n : Nat) (v9 g9 : Nat → Int32), (v9 (16 + 1)).toNatClampNeg < n → V pg l en (rmO 1 0 0) sg mg ag bg mt cd P D (MQ bg (QcV P D (nW P) False (cw P (va_up N j (buyB v g).1) (va_up F i (buyB v g).2) T K A w)) ag sg 0 0 (aO P)) 4 (nW P) False (cw P (va_up N j (bagL n x_2 1 v9 g9).1) (va_up F i (bagL n x_2 1 v9 g9).2) T K A w) 0 0 108 [(3, .int x_2), (2, .int 1), (0, .ref (rF P i)), (1, .ref (rN P j))] [] → V pg l en (rmO 1 0 0) sg mg ag bg mt cd P D (MQ bg (QcV P D (nW P) False (cw P (va_up N j (buyB v g).1) (va_up F i (buyB v g).2) T K A w)) ag sg 0 0 (aO P)) 4 (nW P) False (cw P (va_up N j v9) (va_up F i g9) T K A w) 0 0 24 [(3, .int x_2), (2, .int 1), (0, .ref (rF P i)), (1, .ref (rN P j))] [] := by
    intro n
    induction n with
    | zero => intro v9 g9 h9; exact absurd h9 (Nat.not_lt_zero _)
    | succ n ih =>
      intro v9 g9 h9 hk9
      refine v_aload_n C 3 dX0_buyBags_24 rfl ?_
      refine v_gNN C hj 13 (by decide) (List.mem_of_getElem? (i := 11) rfl) rfl dX0_buyBags_25 ?_
      refine v_iload_n C 1 dX0_buyBags_28 rfl ?_
      refine v_ldBk C 1 hj tn_1 in4_1 dX0_buyBags_29 ?_
      refine v_if_le (tgt := 108) C dX0_buyBags_30 (by decide) (fun h30_2 => ?_) (fun h30_2 => ?_)
      · have e9 : bagL (n + 1) x_2 1 v9 g9 = (v9, g9) := by rw [bagL, if_pos (by exact h30_2)]
        rw [e9] at hk9
        exact hk9
      · refine v_aload_n C 2 dX0_buyBags_33 rfl ?_
        refine v_gF C hi 1 (by decide) k_386 rfl dX0_buyBags_34 ?_
        refine v_iload_n C 0 dX0_buyBags_37 rfl ?_
        refine v_icmp_lt (tgt := 108) C dX0_buyBags_38 (by decide) (fun h38_2 => ?_) (fun h38_2 => ?_)
        · have e9 : bagL (n + 1) x_2 1 v9 g9 = (v9, g9) := by rw [bagL, if_neg (by exact h30_2), if_pos (by exact h38_2)]
          rw [e9] at hk9
          exact hk9
        · refine v_aload_n C 3 dX0_buyBags_41 rfl ?_
          refine v_gNN C hj 13 (by decide) (List.mem_of_getElem? (i := 11) rfl) rfl dX0_buyBags_42 ?_
          refine v_iload_n C 1 dX0_buyBags_45 rfl ?_
          refine v_dup2 C dX0_buyBags_46 rfl rfl ?_
          refine v_ldBk C 1 hj tn_1 in4_1 dX0_buyBags_47 ?_
          refine v_iconst (v := 1) C dX0_buyBags_48 rfl ?_
          refine v_isub C dX0_buyBags_49 ?_
          refine v_stBk C 1 hj tn_1 in4_1 dX0_buyBags_50 ?_
          refine v_aload_n C 3 dX0_buyBags_51 rfl ?_
          refine v_dup C dX0_buyBags_52 rfl ?_
          refine v_gNN C hj 7 (by decide) (List.mem_of_getElem? (i := 6) rfl) rfl dX0_buyBags_53 ?_
          refine v_iload_n C 0 dX0_buyBags_56 rfl ?_
          refine v_iadd C dX0_buyBags_57 ?_
          refine v_pNN C hj 7 (by decide) (List.mem_of_getElem? (i := 6) rfl) dX0_buyBags_58 ?_
          refine v_aload_n C 2 dX0_buyBags_61 rfl ?_
          refine v_dup C dX0_buyBags_62 rfl ?_
          refine v_gF C hi 1 (by decide) k_386 rfl dX0_buyBags_63 ?_
          refine v_iload_n C 0 dX0_buyBags_66 rfl ?_
          refine v_isub C dX0_buyBags_67 ?_
          refine v_pF C hi 1 (by decide) k_386 dX0_buyBags_68 ?_
          refine v_aload_n C 2 dX0_buyBags_71 rfl ?_
          refine v_dup C dX0_buyBags_72 rfl ?_
          refine v_gF C hi 3 (by decide) k_390 rfl dX0_buyBags_73 ?_
          refine v_iload_n C 0 dX0_buyBags_76 rfl ?_
          refine v_iadd C dX0_buyBags_77 ?_
          refine v_pF C hi 3 (by decide) k_390 dX0_buyBags_78 ?_
          refine v_aload_n C 2 dX0_buyBags_81 rfl ?_
          refine v_dup C dX0_buyBags_82 rfl ?_
          refine v_gF C hi 2 (by decide) k_388 rfl dX0_buyBags_83 ?_
          refine v_iconst (v := 1) C dX0_buyBags_86 rfl ?_
          refine v_iadd C dX0_buyBags_87 ?_
          refine v_pF C hi 2 (by decide) k_388 dX0_buyBags_88 ?_
          refine v_aload_n C 2 dX0_buyBags_91 rfl ?_
          refine v_dup C dX0_buyBags_92 rfl ?_
          refine v_gF C hi 5 (by decide) k_394 rfl dX0_buyBags_93 ?_
          refine v_gSN C 1 rfl (List.mem_of_getElem? (i := 23) rfl) dX0_buyBags_96 ?_
          refine v_iload_n C 1 dX0_buyBags_99 rfl ?_
          refine v_ldSk C 1 rfl 1 tn_1 in4_1 rfl dX0_buyBags_100 ?_
          refine v_iadd C dX0_buyBags_101 ?_
          refine v_pF C hi 5 (by decide) k_394 dX0_buyBags_102 ?_
          refine v_goto (tgt := 24) C dX0_buyBags_105 (by decide) ?_
          have e9 : bagL (n + 1) x_2 1 v9 g9 = bagL n x_2 1 (bag1 x_2 1 v9) (bag2 x_2 1 g9) := by rw [bagL, if_neg (by exact h30_2), if_neg (by exact h38_2)]
          rw [e9] at hk9
          refine v_eq (f' := (cw P (va_up N j (bag1 x_2 1 v9)) (va_up F i (bag2 x_2 1 g9)) T K A w)) rfl ?_
          exact ih (bag1 x_2 1 v9) (bag2 x_2 1 g9) (by rw [bag1_dec]; exact dec_lt h9 (by exact h30_2)) hk9
  refine L_2 ((q1.1 (16 + 1)).toNatClampNeg + 1) q1.1 q1.2 (Nat.lt_succ_self _) ?_
  rw [show bagL ((q1.1 (16 + 1)).toNatClampNeg + 1) x_2 1 q1.1 q1.2 = buyK 1 q1 by rw [ex_2]; rfl]
  obtain ⟨q2, hq2⟩ : ∃ q, q = buyK 1 q1 := ⟨_, rfl⟩
  rw [← hq2]
  refine v_iinc (b := 2) (lv' := [(2, .int 2), (3, .int x_2), (0, .ref (rF P i)), (1, .ref (rN P j))]) C 1 dX0_buyBags_108 rfl rfl (by decide) rfl ?_
  refine v_goto (tgt := 2) C dX0_buyBags_111 (by decide) ?_
  refine v_iload_n C 0 dX0_buyBags_2 rfl ?_
  refine v_iconst (v := 4) C dX0_buyBags_3 rfl ?_
  refine v_icmp_ge (tgt := 114) C dX0_buyBags_4 (by decide) (fun h9 => absurd h9 (by decide)) (fun _ => ?_)
  refine v_gSN C 1 rfl (List.mem_of_getElem? (i := 23) rfl) dX0_buyBags_7 ?_
  refine v_iload_n C 0 dX0_buyBags_10 rfl ?_
  refine v_ldSk C 1 rfl 2 tn_2 in4_2 rfl dX0_buyBags_11 ?_
  refine v_bipush (v := 100) C dX0_buyBags_12 rfl ?_
  refine v_aload_n C 2 dX0_buyBags_14 rfl ?_
  refine v_gF C hi 0 (by decide) k_383 rfl dX0_buyBags_15 ?_
  refine v_isub C dX0_buyBags_18 ?_
  refine v_imul C dX0_buyBags_19 ?_
  refine v_bipush (v := 100) C dX0_buyBags_20 rfl ?_
  refine v_idiv C dX0_buyBags_22 (by decide) ?_
  refine v_top (fun x_3 ex_3 => ?_)
  refine v_istore_n (lv' := [(3, .int x_3), (2, .int 2), (0, .ref (rF P i)), (1, .ref (rN P j))]) C dX0_buyBags_23 rfl (by decide) rfl ?_
  have L_3 : ∀ (n : Nat) (v9 g9 : Nat → Int32), (v9 (16 + 2)).toNatClampNeg < n → V pg l en (rmO 1 0 0) sg mg ag bg mt cd P D (MQ bg (QcV P D (nW P) False (cw P (va_up N j (buyB v g).1) (va_up F i (buyB v g).2) T K A w)) ag sg 0 0 (aO P)) 4 (nW P) False (cw P (va_up N j (bagL n x_3 2 v9 g9).1) (va_up F i (bagL n x_3 2 v9 g9).2) T K A w) 0 0 108 [(3, .int x_3), (2, .int 2), (0, .ref (rF P i)), (1, .ref (rN P j))] [] → V pg l en (rmO 1 0 0) sg mg ag bg mt cd P D (MQ bg (QcV P D (nW P) False (cw P (va_up N j (buyB v g).1) (va_up F i (buyB v g).2) T K A w)) ag sg 0 0 (aO P)) 4 (nW P) False (cw P (va_up N j v9) (va_up F i g9) T K A w) 0 0 24 [(3, .int x_3), (2, .int 2), (0, .ref (rF P i)), (1, .ref (rN P j))] [] := by
    intro n
    induction n with
    | zero => intro v9 g9 h9; exact absurd h9 (Nat.not_lt_zero _)
    | succ n ih =>
      intro v9 g9 h9 hk9
      refine v_aload_n C 3 dX0_buyBags_24 rfl ?_
      refine v_gNN C hj 13 (by decide) (List.mem_of_getElem? (i := 11) rfl) rfl dX0_buyBags_25 ?_
      refine v_iload_n C 1 dX0_buyBags_28 rfl ?_
      refine v_ldBk C 2 hj tn_2 in4_2 dX0_buyBags_29 ?_
      refine v_if_le (tgt := 108) C dX0_buyBags_30 (by decide) (fun h30_3 => ?_) (fun h30_3 => ?_)
      · have e9 : bagL (n + 1) x_3 2 v9 g9 = (v9, g9) := by rw [bagL, if_pos (by exact h30_3)]
        rw [e9] at hk9
        exact hk9
      · refine v_aload_n C 2 dX0_buyBags_33 rfl ?_
        refine v_gF C hi 1 (by decide) k_386 rfl dX0_buyBags_34 ?_
        refine v_iload_n C 0 dX0_buyBags_37 rfl ?_
        refine v_icmp_lt (tgt := 108) C dX0_buyBags_38 (by decide) (fun h38_3 => ?_) (fun h38_3 => ?_)
        · have e9 : bagL (n + 1) x_3 2 v9 g9 = (v9, g9) := by rw [bagL, if_neg (by exact h30_3), if_pos (by exact h38_3)]
          rw [e9] at hk9
          exact hk9
        · refine v_aload_n C 3 dX0_buyBags_41 rfl ?_
          refine v_gNN C hj 13 (by decide) (List.mem_of_getElem? (i := 11) rfl) rfl dX0_buyBags_42 ?_
          refine v_iload_n C 1 dX0_buyBags_45 rfl ?_
          refine v_dup2 C dX0_buyBags_46 rfl rfl ?_
          refine v_ldBk C 2 hj tn_2 in4_2 dX0_buyBags_47 ?_
          refine v_iconst (v := 1) C dX0_buyBags_48 rfl ?_
          refine v_isub C dX0_buyBags_49 ?_
          refine v_stBk C 2 hj tn_2 in4_2 dX0_buyBags_50 ?_
          refine v_aload_n C 3 dX0_buyBags_51 rfl ?_
          refine v_dup C dX0_buyBags_52 rfl ?_
          refine v_gNN C hj 7 (by decide) (List.mem_of_getElem? (i := 6) rfl) rfl dX0_buyBags_53 ?_
          refine v_iload_n C 0 dX0_buyBags_56 rfl ?_
          refine v_iadd C dX0_buyBags_57 ?_
          refine v_pNN C hj 7 (by decide) (List.mem_of_getElem? (i := 6) rfl) dX0_buyBags_58 ?_
          refine v_aload_n C 2 dX0_buyBags_61 rfl ?_
          refine v_dup C dX0_buyBags_62 rfl ?_
          refine v_gF C hi 1 (by decide) k_386 rfl dX0_buyBags_63 ?_
          refine v_iload_n C 0 dX0_buyBags_66 rfl ?_
          refine v_isub C dX0_buyBags_67 ?_
          refine v_pF C hi 1 (by decide) k_386 dX0_buyBags_68 ?_
          refine v_aload_n C 2 dX0_buyBags_71 rfl ?_
          refine v_dup C dX0_buyBags_72 rfl ?_
          refine v_gF C hi 3 (by decide) k_390 rfl dX0_buyBags_73 ?_
          refine v_iload_n C 0 dX0_buyBags_76 rfl ?_
          refine v_iadd C dX0_buyBags_77 ?_
          refine v_pF C hi 3 (by decide) k_390 dX0_buyBags_78 ?_
          refine v_aload_n C 2 dX0_buyBags_81 rfl ?_
          refine v_dup C dX0_buyBags_82 rfl ?_
          refine v_gF C hi 2 (by decide) k_388 rfl dX0_buyBags_83 ?_
          refine v_iconst (v := 1) C dX0_buyBags_86 rfl ?_
          refine v_iadd C dX0_buyBags_87 ?_
          refine v_pF C hi 2 (by decide) k_388 dX0_buyBags_88 ?_
          refine v_aload_n C 2 dX0_buyBags_91 rfl ?_
          refine v_dup C dX0_buyBags_92 rfl ?_
          refine v_gF C hi 5 (by decide) k_394 rfl dX0_buyBags_93 ?_
          refine v_gSN C 1 rfl (List.mem_of_getElem? (i := 23) rfl) dX0_buyBags_96 ?_
          refine v_iload_n C 1 dX0_buyBags_99 rfl ?_
          refine v_ldSk C 1 rfl 2 tn_2 in4_2 rfl dX0_buyBags_100 ?_
          refine v_iadd C dX0_buyBags_101 ?_
          refine v_pF C hi 5 (by decide) k_394 dX0_buyBags_102 ?_
          refine v_goto (tgt := 24) C dX0_buyBags_105 (by decide) ?_
          have e9 : bagL (n + 1) x_3 2 v9 g9 = bagL n x_3 2 (bag1 x_3 2 v9) (bag2 x_3 2 g9) := by rw [bagL, if_neg (by exact h30_3), if_neg (by exact h38_3)]
          rw [e9] at hk9
          refine v_eq (f' := (cw P (va_up N j (bag1 x_3 2 v9)) (va_up F i (bag2 x_3 2 g9)) T K A w)) rfl ?_
          exact ih (bag1 x_3 2 v9) (bag2 x_3 2 g9) (by rw [bag1_dec]; exact dec_lt h9 (by exact h30_3)) hk9
  refine L_3 ((q2.1 (16 + 2)).toNatClampNeg + 1) q2.1 q2.2 (Nat.lt_succ_self _) ?_
  rw [show bagL ((q2.1 (16 + 2)).toNatClampNeg + 1) x_3 2 q2.1 q2.2 = buyK 2 q2 by rw [ex_3]; rfl]
  obtain ⟨q3, hq3⟩ : ∃ q, q = buyK 2 q2 := ⟨_, rfl⟩
  rw [← hq3]
  refine v_iinc (b := 3) (lv' := [(2, .int 3), (3, .int x_3), (0, .ref (rF P i)), (1, .ref (rN P j))]) C 1 dX0_buyBags_108 rfl rfl (by decide) rfl ?_
  refine v_goto (tgt := 2) C dX0_buyBags_111 (by decide) ?_
  refine v_iload_n C 0 dX0_buyBags_2 rfl ?_
  refine v_iconst (v := 4) C dX0_buyBags_3 rfl ?_
  refine v_icmp_ge (tgt := 114) C dX0_buyBags_4 (by decide) (fun h9 => absurd h9 (by decide)) (fun _ => ?_)
  refine v_gSN C 1 rfl (List.mem_of_getElem? (i := 23) rfl) dX0_buyBags_7 ?_
  refine v_iload_n C 0 dX0_buyBags_10 rfl ?_
  refine v_ldSk C 1 rfl 3 tn_3 in4_3 rfl dX0_buyBags_11 ?_
  refine v_bipush (v := 100) C dX0_buyBags_12 rfl ?_
  refine v_aload_n C 2 dX0_buyBags_14 rfl ?_
  refine v_gF C hi 0 (by decide) k_383 rfl dX0_buyBags_15 ?_
  refine v_isub C dX0_buyBags_18 ?_
  refine v_imul C dX0_buyBags_19 ?_
  refine v_bipush (v := 100) C dX0_buyBags_20 rfl ?_
  refine v_idiv C dX0_buyBags_22 (by decide) ?_
  refine v_top (fun x_4 ex_4 => ?_)
  refine v_istore_n (lv' := [(3, .int x_4), (2, .int 3), (0, .ref (rF P i)), (1, .ref (rN P j))]) C dX0_buyBags_23 rfl (by decide) rfl ?_
  have L_4 : ∀ (n : Nat) (v9 g9 : Nat → Int32), (v9 (16 + 3)).toNatClampNeg < n → V pg l en (rmO 1 0 0) sg mg ag bg mt cd P D (MQ bg (QcV P D (nW P) False (cw P (va_up N j (buyB v g).1) (va_up F i (buyB v g).2) T K A w)) ag sg 0 0 (aO P)) 4 (nW P) False (cw P (va_up N j (bagL n x_4 3 v9 g9).1) (va_up F i (bagL n x_4 3 v9 g9).2) T K A w) 0 0 108 [(3, .int x_4), (2, .int 3), (0, .ref (rF P i)), (1, .ref (rN P j))] [] → V pg l en (rmO 1 0 0) sg mg ag bg mt cd P D (MQ bg (QcV P D (nW P) False (cw P (va_up N j (buyB v g).1) (va_up F i (buyB v g).2) T K A w)) ag sg 0 0 (aO P)) 4 (nW P) False (cw P (va_up N j v9) (va_up F i g9) T K A w) 0 0 24 [(3, .int x_4), (2, .int 3), (0, .ref (rF P i)), (1, .ref (rN P j))] [] := by
    intro n
    induction n with
    | zero => intro v9 g9 h9; exact absurd h9 (Nat.not_lt_zero _)
    | succ n ih =>
      intro v9 g9 h9 hk9
      refine v_aload_n C 3 dX0_buyBags_24 rfl ?_
      refine v_gNN C hj 13 (by decide) (List.mem_of_getElem? (i := 11) rfl) rfl dX0_buyBags_25 ?_
      refine v_iload_n C 1 dX0_buyBags_28 rfl ?_
      refine v_ldBk C 3 hj tn_3 in4_3 dX0_buyBags_29 ?_
      refine v_if_le (tgt := 108) C dX0_buyBags_30 (by decide) (fun h30_4 => ?_) (fun h30_4 => ?_)
      · have e9 : bagL (n + 1) x_4 3 v9 g9 = (v9, g9) := by rw [bagL, if_pos (by exact h30_4)]
        rw [e9] at hk9
        exact hk9
      · refine v_aload_n C 2 dX0_buyBags_33 rfl ?_
        refine v_gF C hi 1 (by decide) k_386 rfl dX0_buyBags_34 ?_
        refine v_iload_n C 0 dX0_buyBags_37 rfl ?_
        refine v_icmp_lt (tgt := 108) C dX0_buyBags_38 (by decide) (fun h38_4 => ?_) (fun h38_4 => ?_)
        · have e9 : bagL (n + 1) x_4 3 v9 g9 = (v9, g9) := by rw [bagL, if_neg (by exact h30_4), if_pos (by exact h38_4)]
          rw [e9] at hk9
          exact hk9
        · refine v_aload_n C 3 dX0_buyBags_41 rfl ?_
          refine v_gNN C hj 13 (by decide) (List.mem_of_getElem? (i := 11) rfl) rfl dX0_buyBags_42 ?_
          refine v_iload_n C 1 dX0_buyBags_45 rfl ?_
          refine v_dup2 C dX0_buyBags_46 rfl rfl ?_
          refine v_ldBk C 3 hj tn_3 in4_3 dX0_buyBags_47 ?_
          refine v_iconst (v := 1) C dX0_buyBags_48 rfl ?_
          refine v_isub C dX0_buyBags_49 ?_
          refine v_stBk C 3 hj tn_3 in4_3 dX0_buyBags_50 ?_
          refine v_aload_n C 3 dX0_buyBags_51 rfl ?_
          refine v_dup C dX0_buyBags_52 rfl ?_
          refine v_gNN C hj 7 (by decide) (List.mem_of_getElem? (i := 6) rfl) rfl dX0_buyBags_53 ?_
          refine v_iload_n C 0 dX0_buyBags_56 rfl ?_
          refine v_iadd C dX0_buyBags_57 ?_
          refine v_pNN C hj 7 (by decide) (List.mem_of_getElem? (i := 6) rfl) dX0_buyBags_58 ?_
          refine v_aload_n C 2 dX0_buyBags_61 rfl ?_
          refine v_dup C dX0_buyBags_62 rfl ?_
          refine v_gF C hi 1 (by decide) k_386 rfl dX0_buyBags_63 ?_
          refine v_iload_n C 0 dX0_buyBags_66 rfl ?_
          refine v_isub C dX0_buyBags_67 ?_
          refine v_pF C hi 1 (by decide) k_386 dX0_buyBags_68 ?_
          refine v_aload_n C 2 dX0_buyBags_71 rfl ?_
          refine v_dup C dX0_buyBags_72 rfl ?_
          refine v_gF C hi 3 (by decide) k_390 rfl dX0_buyBags_73 ?_
          refine v_iload_n C 0 dX0_buyBags_76 rfl ?_
          refine v_iadd C dX0_buyBags_77 ?_
          refine v_pF C hi 3 (by decide) k_390 dX0_buyBags_78 ?_
          refine v_aload_n C 2 dX0_buyBags_81 rfl ?_
          refine v_dup C dX0_buyBags_82 rfl ?_
          refine v_gF C hi 2 (by decide) k_388 rfl dX0_buyBags_83 ?_
          refine v_iconst (v := 1) C dX0_buyBags_86 rfl ?_
          refine v_iadd C dX0_buyBags_87 ?_
          refine v_pF C hi 2 (by decide) k_388 dX0_buyBags_88 ?_
          refine v_aload_n C 2 dX0_buyBags_91 rfl ?_
          refine v_dup C dX0_buyBags_92 rfl ?_
          refine v_gF C hi 5 (by decide) k_394 rfl dX0_buyBags_93 ?_
          refine v_gSN C 1 rfl (List.mem_of_getElem? (i := 23) rfl) dX0_buyBags_96 ?_
          refine v_iload_n C 1 dX0_buyBags_99 rfl ?_
          refine v_ldSk C 1 rfl 3 tn_3 in4_3 rfl dX0_buyBags_100 ?_
          refine v_iadd C dX0_buyBags_101 ?_
          refine v_pF C hi 5 (by decide) k_394 dX0_buyBags_102 ?_
          refine v_goto (tgt := 24) C dX0_buyBags_105 (by decide) ?_
          have e9 : bagL (n + 1) x_4 3 v9 g9 = bagL n x_4 3 (bag1 x_4 3 v9) (bag2 x_4 3 g9) := by rw [bagL, if_neg (by exact h30_4), if_neg (by exact h38_4)]
          rw [e9] at hk9
          refine v_eq (f' := (cw P (va_up N j (bag1 x_4 3 v9)) (va_up F i (bag2 x_4 3 g9)) T K A w)) rfl ?_
          exact ih (bag1 x_4 3 v9) (bag2 x_4 3 g9) (by rw [bag1_dec]; exact dec_lt h9 (by exact h30_4)) hk9
  refine L_4 ((q3.1 (16 + 3)).toNatClampNeg + 1) q3.1 q3.2 (Nat.lt_succ_self _) ?_
  rw [show bagL ((q3.1 (16 + 3)).toNatClampNeg + 1) x_4 3 q3.1 q3.2 = buyK 3 q3 by rw [ex_4]; rfl]
  obtain ⟨q4, hq4⟩ : ∃ q, q = buyK 3 q3 := ⟨_, rfl⟩
  rw [← hq4]
  refine v_iinc (b := 4) (lv' := [(2, .int 4), (3, .int x_4), (0, .ref (rF P i)), (1, .ref (rN P j))]) C 1 dX0_buyBags_108 rfl rfl (by decide) rfl ?_
  refine v_goto (tgt := 2) C dX0_buyBags_111 (by decide) ?_
  refine v_iload_n C 0 dX0_buyBags_2 rfl ?_
  refine v_iconst (v := 4) C dX0_buyBags_3 rfl ?_
  refine v_icmp_ge (tgt := 114) C dX0_buyBags_4 (by decide) (fun _ => ?_) (fun h9 => absurd (by decide) h9)
  exact v_vret C dX0_buyBags_114 (by rw [hq4, hq3, hq2, hq1]; rfl)
