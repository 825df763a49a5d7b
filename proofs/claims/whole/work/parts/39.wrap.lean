/-! THE LAW'S WRAPPERS -/
set_option maxHeartbeats 4000000 in
theorem w_nailer {l : Launch} {P : L5} {D : va_G} {N F T N1 F1 T1 : Nat → Nat → Int32} {K : Nat → Int32} {A : Nat → Nat → Int32} {w : Int64} {a b d : Int32} {r : Int32} (hM : CtI l yX3_nailer cX3_nailer 5 .int 6 0 0 P D 97 97 False (cw P N F T K A w) (cw P N1 F1 T1 K A w) [.ref (rX P), .int a, .int b, .int d] r) : CtH l yL_nailer cL_nailer 6 [(0, 12, 15, 13), (0, 12, 19, 15), (0, 12, 23, 17)] 9 0 0 P D (cw P N F T K A w) (cw P N1 F1 T1 K A r.toInt64) [.ref (rX P), .int a, .int b, .int d, .ref (rO P)] 0 := by
  refine mk_MetH pl_L [(0, .ref (rX P)), (1, .int a), (2, .int b), (3, .int d), (4, .ref (rO P))] rfl (Nat.le_of_ble_eq_true rfl) ?_
  intro pg en sg mg ag bg mt cd C htab
  refine v_aload C 4 dL_nailer_0 rfl ?_
  refine v_iconst (v := 0) C dL_nailer_2 rfl ?_
  refine v_aload_n C 0 dL_nailer_3 rfl ?_
  refine v_iload_n C 1 dL_nailer_4 rfl ?_
  refine v_iload_n C 2 dL_nailer_5 rfl ?_
  refine v_iload_n C 3 dL_nailer_6 rfl ?_
  refine go_I (run_V C (hM) k_211 k_1 k_208 k_209 k_210 dd_X3_nailer ⟨Nat.le_of_ble_eq_true rfl, Nat.le_of_ble_eq_true rfl⟩ rcX rfl (Nat.le_of_ble_eq_true rfl) dL_nailer_7 ⟨Nat.le_of_ble_eq_true rfl, Nat.le_of_ble_eq_true rfl⟩) ?_
  refine v_i2l C dL_nailer_10 ?_
  refine v_stO C dL_nailer_11 ?_
  refine v_goto (tgt := 27) C dL_nailer_12 (by decide) ?_
  refine v_iconst (v := 0) C dL_nailer_27 rfl ?_
  exact v_iret C dL_nailer_28 rfl rfl
set_option maxHeartbeats 4000000 in
theorem w_nailer_1 {l : Launch} {P : L5} {D : va_G} {N F T N1 F1 T1 : Nat → Nat → Int32} {K : Nat → Int32} {A : Nat → Nat → Int32} {w : Int64} {a b d : Int32} (hM : CxI l yX3_nailer cX3_nailer 5 .int 8 P D (cw P N F T K A w) [.ref (rX P), .int a, .int b, .int d] 1) : CtH l yL_nailer cL_nailer 6 [(0, 12, 15, 13), (0, 12, 19, 15), (0, 12, 23, 17)] 9 1 6 P D (cw P N F T K A w) (cw P N F T K A w) [.ref (rX P), .int a, .int b, .int d, .ref (rO P)] 1 := by
  refine mk_MetH pl_L [(0, .ref (rX P)), (1, .int a), (2, .int b), (3, .int d), (4, .ref (rO P))] rfl (Nat.le_of_ble_eq_true rfl) ?_
  intro pg en sg mg ag bg mt cd C htab
  refine v_aload C 4 dL_nailer_0 rfl ?_
  refine v_iconst (v := 0) C dL_nailer_2 rfl ?_
  refine v_aload_n C 0 dL_nailer_3 rfl ?_
  refine v_iload_n C 1 dL_nailer_4 rfl ?_
  refine v_iload_n C 2 dL_nailer_5 rfl ?_
  refine v_iload_n C 3 dL_nailer_6 rfl ?_
  refine gox_H C (runx_V C (hM) k_211 k_1 k_208 k_209 k_210 dd_X3_nailer ⟨Nat.le_of_ble_eq_true rfl, Nat.le_of_ble_eq_true rfl⟩ rcX rfl (Nat.le_of_ble_eq_true rfl) dL_nailer_7 ⟨Nat.le_of_ble_eq_true rfl, Nat.le_of_ble_eq_true rfl⟩) [] ⟨0, 12, 15, 13⟩ [⟨0, 12, 19, 15⟩, ⟨0, 12, 23, 17⟩] (htab.trans rfl) (fun z hz => ?_) (by decide) (by decide) k_205 (fun q9 => ?_)
  · exact absurd hz (List.not_mem_nil)
  show V _ _ _ _ _ _ _ _ _ _ _ _ _ _ _ _ _ _ _ 15 _ _
  refine v_astore (lv' := [(5, .ref q9), (0, .ref (rX P)), (1, .int a), (2, .int b), (3, .int d), (4, .ref (rO P))]) C dL_nailer_15 (by decide) rfl ?_
  refine v_iconst (v := 1) C dL_nailer_17 rfl ?_
  exact v_iret C dL_nailer_18 rfl rfl
set_option maxHeartbeats 4000000 in
theorem w_nailer_2 {l : Launch} {P : L5} {D : va_G} {N F T N1 F1 T1 : Nat → Nat → Int32} {K : Nat → Int32} {A : Nat → Nat → Int32} {w : Int64} {a b d : Int32} (hM : CxI l yX3_nailer cX3_nailer 5 .int 8 P D (cw P N F T K A w) [.ref (rX P), .int a, .int b, .int d] 2) : CtH l yL_nailer cL_nailer 6 [(0, 12, 15, 13), (0, 12, 19, 15), (0, 12, 23, 17)] 9 1 6 P D (cw P N F T K A w) (cw P N F T K A w) [.ref (rX P), .int a, .int b, .int d, .ref (rO P)] 2 := by
  refine mk_MetH pl_L [(0, .ref (rX P)), (1, .int a), (2, .int b), (3, .int d), (4, .ref (rO P))] rfl (Nat.le_of_ble_eq_true rfl) ?_
  intro pg en sg mg ag bg mt cd C htab
  refine v_aload C 4 dL_nailer_0 rfl ?_
  refine v_iconst (v := 0) C dL_nailer_2 rfl ?_
  refine v_aload_n C 0 dL_nailer_3 rfl ?_
  refine v_iload_n C 1 dL_nailer_4 rfl ?_
  refine v_iload_n C 2 dL_nailer_5 rfl ?_
  refine v_iload_n C 3 dL_nailer_6 rfl ?_
  refine gox_H C (runx_V C (hM) k_211 k_1 k_208 k_209 k_210 dd_X3_nailer ⟨Nat.le_of_ble_eq_true rfl, Nat.le_of_ble_eq_true rfl⟩ rcX rfl (Nat.le_of_ble_eq_true rfl) dL_nailer_7 ⟨Nat.le_of_ble_eq_true rfl, Nat.le_of_ble_eq_true rfl⟩) [⟨0, 12, 15, 13⟩] ⟨0, 12, 19, 15⟩ [⟨0, 12, 23, 17⟩] (htab.trans rfl) (fun z hz => ?_) (by decide) (by decide) k_206 (fun q9 => ?_)
  · rcases List.mem_cons.mp hz with rfl | hz; · exact Or.inr ⟨by decide, 1, k_205, by decide⟩
    exact absurd hz (List.not_mem_nil)
  show V _ _ _ _ _ _ _ _ _ _ _ _ _ _ _ _ _ _ _ 19 _ _
  refine v_astore (lv' := [(5, .ref q9), (0, .ref (rX P)), (1, .int a), (2, .int b), (3, .int d), (4, .ref (rO P))]) C dL_nailer_19 (by decide) rfl ?_
  refine v_iconst (v := 2) C dL_nailer_21 rfl ?_
  exact v_iret C dL_nailer_22 rfl rfl
set_option maxHeartbeats 4000000 in
theorem w_nailer_3 {l : Launch} {P : L5} {D : va_G} {N F T N1 F1 T1 : Nat → Nat → Int32} {K : Nat → Int32} {A : Nat → Nat → Int32} {w : Int64} {a b d : Int32} (hM : CxI l yX3_nailer cX3_nailer 5 .int 8 P D (cw P N F T K A w) [.ref (rX P), .int a, .int b, .int d] 3) : CtH l yL_nailer cL_nailer 6 [(0, 12, 15, 13), (0, 12, 19, 15), (0, 12, 23, 17)] 9 1 6 P D (cw P N F T K A w) (cw P N F T K A w) [.ref (rX P), .int a, .int b, .int d, .ref (rO P)] 3 := by
  refine mk_MetH pl_L [(0, .ref (rX P)), (1, .int a), (2, .int b), (3, .int d), (4, .ref (rO P))] rfl (Nat.le_of_ble_eq_true rfl) ?_
  intro pg en sg mg ag bg mt cd C htab
  refine v_aload C 4 dL_nailer_0 rfl ?_
  refine v_iconst (v := 0) C dL_nailer_2 rfl ?_
  refine v_aload_n C 0 dL_nailer_3 rfl ?_
  refine v_iload_n C 1 dL_nailer_4 rfl ?_
  refine v_iload_n C 2 dL_nailer_5 rfl ?_
  refine v_iload_n C 3 dL_nailer_6 rfl ?_
  refine gox_H C (runx_V C (hM) k_211 k_1 k_208 k_209 k_210 dd_X3_nailer ⟨Nat.le_of_ble_eq_true rfl, Nat.le_of_ble_eq_true rfl⟩ rcX rfl (Nat.le_of_ble_eq_true rfl) dL_nailer_7 ⟨Nat.le_of_ble_eq_true rfl, Nat.le_of_ble_eq_true rfl⟩) [⟨0, 12, 15, 13⟩, ⟨0, 12, 19, 15⟩] ⟨0, 12, 23, 17⟩ [] (htab.trans rfl) (fun z hz => ?_) (by decide) (by decide) k_207 (fun q9 => ?_)
  · rcases List.mem_cons.mp hz with rfl | hz; · exact Or.inr ⟨by decide, 1, k_205, by decide⟩
    rcases List.mem_cons.mp hz with rfl | hz; · exact Or.inr ⟨by decide, 2, k_206, by decide⟩
    exact absurd hz (List.not_mem_nil)
  show V _ _ _ _ _ _ _ _ _ _ _ _ _ _ _ _ _ _ _ 23 _ _
  refine v_astore (lv' := [(5, .ref q9), (0, .ref (rX P)), (1, .int a), (2, .int b), (3, .int d), (4, .ref (rO P))]) C dL_nailer_23 (by decide) rfl ?_
  refine v_iconst (v := 3) C dL_nailer_25 rfl ?_
  exact v_iret C dL_nailer_26 rfl rfl
set_option maxHeartbeats 4000000 in
theorem w_lend {l : Launch} {P : L5} {D : va_G} {N F T N1 F1 T1 : Nat → Nat → Int32} {K : Nat → Int32} {A : Nat → Nat → Int32} {w : Int64} {a b : Int32} {r : Int32} (hM : CtI l yX3_lend cX3_lend 5 .int 6 0 0 P D 97 97 False (cw P N F T K A w) (cw P N1 F1 T1 K A w) [.ref (rX P), .int a, .int b] r) : CtH l yL_lend cL_lend 5 [(0, 10, 13, 13), (0, 10, 17, 15), (0, 10, 21, 17)] 9 0 0 P D (cw P N F T K A w) (cw P N1 F1 T1 K A r.toInt64) [.ref (rX P), .int a, .int b, .ref (rO P)] 0 := by
  refine mk_MetH pl_L [(0, .ref (rX P)), (1, .int a), (2, .int b), (3, .ref (rO P))] rfl (Nat.le_of_ble_eq_true rfl) ?_
  intro pg en sg mg ag bg mt cd C htab
  refine v_aload_n C 3 dL_lend_0 rfl ?_
  refine v_iconst (v := 0) C dL_lend_1 rfl ?_
  refine v_aload_n C 0 dL_lend_2 rfl ?_
  refine v_iload_n C 1 dL_lend_3 rfl ?_
  refine v_iload_n C 2 dL_lend_4 rfl ?_
  refine go_I (run_V C (hM) k_328 k_1 k_325 k_326 k_327 dd_X3_lend ⟨Nat.le_of_ble_eq_true rfl, Nat.le_of_ble_eq_true rfl⟩ rcX rfl (Nat.le_of_ble_eq_true rfl) dL_lend_5 ⟨Nat.le_of_ble_eq_true rfl, Nat.le_of_ble_eq_true rfl⟩) ?_
  refine v_i2l C dL_lend_8 ?_
  refine v_stO C dL_lend_9 ?_
  refine v_goto (tgt := 25) C dL_lend_10 (by decide) ?_
  refine v_iconst (v := 0) C dL_lend_25 rfl ?_
  exact v_iret C dL_lend_26 rfl rfl
set_option maxHeartbeats 4000000 in
theorem w_lend_1 {l : Launch} {P : L5} {D : va_G} {N F T N1 F1 T1 : Nat → Nat → Int32} {K : Nat → Int32} {A : Nat → Nat → Int32} {w : Int64} {a b : Int32} (hM : CxI l yX3_lend cX3_lend 5 .int 8 P D (cw P N F T K A w) [.ref (rX P), .int a, .int b] 1) : CtH l yL_lend cL_lend 5 [(0, 10, 13, 13), (0, 10, 17, 15), (0, 10, 21, 17)] 9 1 6 P D (cw P N F T K A w) (cw P N F T K A w) [.ref (rX P), .int a, .int b, .ref (rO P)] 1 := by
  refine mk_MetH pl_L [(0, .ref (rX P)), (1, .int a), (2, .int b), (3, .ref (rO P))] rfl (Nat.le_of_ble_eq_true rfl) ?_
  intro pg en sg mg ag bg mt cd C htab
  refine v_aload_n C 3 dL_lend_0 rfl ?_
  refine v_iconst (v := 0) C dL_lend_1 rfl ?_
  refine v_aload_n C 0 dL_lend_2 rfl ?_
  refine v_iload_n C 1 dL_lend_3 rfl ?_
  refine v_iload_n C 2 dL_lend_4 rfl ?_
  refine gox_H C (runx_V C (hM) k_328 k_1 k_325 k_326 k_327 dd_X3_lend ⟨Nat.le_of_ble_eq_true rfl, Nat.le_of_ble_eq_true rfl⟩ rcX rfl (Nat.le_of_ble_eq_true rfl) dL_lend_5 ⟨Nat.le_of_ble_eq_true rfl, Nat.le_of_ble_eq_true rfl⟩) [] ⟨0, 10, 13, 13⟩ [⟨0, 10, 17, 15⟩, ⟨0, 10, 21, 17⟩] (htab.trans rfl) (fun z hz => ?_) (by decide) (by decide) k_205 (fun q9 => ?_)
  · exact absurd hz (List.not_mem_nil)
  show V _ _ _ _ _ _ _ _ _ _ _ _ _ _ _ _ _ _ _ 13 _ _
  refine v_astore (lv' := [(4, .ref q9), (0, .ref (rX P)), (1, .int a), (2, .int b), (3, .ref (rO P))]) C dL_lend_13 (by decide) rfl ?_
  refine v_iconst (v := 1) C dL_lend_15 rfl ?_
  exact v_iret C dL_lend_16 rfl rfl
set_option maxHeartbeats 4000000 in
theorem w_lend_2 {l : Launch} {P : L5} {D : va_G} {N F T N1 F1 T1 : Nat → Nat → Int32} {K : Nat → Int32} {A : Nat → Nat → Int32} {w : Int64} {a b : Int32} (hM : CxI l yX3_lend cX3_lend 5 .int 8 P D (cw P N F T K A w) [.ref (rX P), .int a, .int b] 2) : CtH l yL_lend cL_lend 5 [(0, 10, 13, 13), (0, 10, 17, 15), (0, 10, 21, 17)] 9 1 6 P D (cw P N F T K A w) (cw P N F T K A w) [.ref (rX P), .int a, .int b, .ref (rO P)] 2 := by
  refine mk_MetH pl_L [(0, .ref (rX P)), (1, .int a), (2, .int b), (3, .ref (rO P))] rfl (Nat.le_of_ble_eq_true rfl) ?_
  intro pg en sg mg ag bg mt cd C htab
  refine v_aload_n C 3 dL_lend_0 rfl ?_
  refine v_iconst (v := 0) C dL_lend_1 rfl ?_
  refine v_aload_n C 0 dL_lend_2 rfl ?_
  refine v_iload_n C 1 dL_lend_3 rfl ?_
  refine v_iload_n C 2 dL_lend_4 rfl ?_
  refine gox_H C (runx_V C (hM) k_328 k_1 k_325 k_326 k_327 dd_X3_lend ⟨Nat.le_of_ble_eq_true rfl, Nat.le_of_ble_eq_true rfl⟩ rcX rfl (Nat.le_of_ble_eq_true rfl) dL_lend_5 ⟨Nat.le_of_ble_eq_true rfl, Nat.le_of_ble_eq_true rfl⟩) [⟨0, 10, 13, 13⟩] ⟨0, 10, 17, 15⟩ [⟨0, 10, 21, 17⟩] (htab.trans rfl) (fun z hz => ?_) (by decide) (by decide) k_206 (fun q9 => ?_)
  · rcases List.mem_cons.mp hz with rfl | hz; · exact Or.inr ⟨by decide, 1, k_205, by decide⟩
    exact absurd hz (List.not_mem_nil)
  show V _ _ _ _ _ _ _ _ _ _ _ _ _ _ _ _ _ _ _ 17 _ _
  refine v_astore (lv' := [(4, .ref q9), (0, .ref (rX P)), (1, .int a), (2, .int b), (3, .ref (rO P))]) C dL_lend_17 (by decide) rfl ?_
  refine v_iconst (v := 2) C dL_lend_19 rfl ?_
  exact v_iret C dL_lend_20 rfl rfl
set_option maxHeartbeats 4000000 in
theorem w_lend_3 {l : Launch} {P : L5} {D : va_G} {N F T N1 F1 T1 : Nat → Nat → Int32} {K : Nat → Int32} {A : Nat → Nat → Int32} {w : Int64} {a b : Int32} (hM : CxI l yX3_lend cX3_lend 5 .int 8 P D (cw P N F T K A w) [.ref (rX P), .int a, .int b] 3) : CtH l yL_lend cL_lend 5 [(0, 10, 13, 13), (0, 10, 17, 15), (0, 10, 21, 17)] 9 1 6 P D (cw P N F T K A w) (cw P N F T K A w) [.ref (rX P), .int a, .int b, .ref (rO P)] 3 := by
  refine mk_MetH pl_L [(0, .ref (rX P)), (1, .int a), (2, .int b), (3, .ref (rO P))] rfl (Nat.le_of_ble_eq_true rfl) ?_
  intro pg en sg mg ag bg mt cd C htab
  refine v_aload_n C 3 dL_lend_0 rfl ?_
  refine v_iconst (v := 0) C dL_lend_1 rfl ?_
  refine v_aload_n C 0 dL_lend_2 rfl ?_
  refine v_iload_n C 1 dL_lend_3 rfl ?_
  refine v_iload_n C 2 dL_lend_4 rfl ?_
  refine gox_H C (runx_V C (hM) k_328 k_1 k_325 k_326 k_327 dd_X3_lend ⟨Nat.le_of_ble_eq_true rfl, Nat.le_of_ble_eq_true rfl⟩ rcX rfl (Nat.le_of_ble_eq_true rfl) dL_lend_5 ⟨Nat.le_of_ble_eq_true rfl, Nat.le_of_ble_eq_true rfl⟩) [⟨0, 10, 13, 13⟩, ⟨0, 10, 17, 15⟩] ⟨0, 10, 21, 17⟩ [] (htab.trans rfl) (fun z hz => ?_) (by decide) (by decide) k_207 (fun q9 => ?_)
  · rcases List.mem_cons.mp hz with rfl | hz; · exact Or.inr ⟨by decide, 1, k_205, by decide⟩
    rcases List.mem_cons.mp hz with rfl | hz; · exact Or.inr ⟨by decide, 2, k_206, by decide⟩
    exact absurd hz (List.not_mem_nil)
  show V _ _ _ _ _ _ _ _ _ _ _ _ _ _ _ _ _ _ _ 21 _ _
  refine v_astore (lv' := [(4, .ref q9), (0, .ref (rX P)), (1, .int a), (2, .int b), (3, .ref (rO P))]) C dL_lend_21 (by decide) rfl ?_
  refine v_iconst (v := 3) C dL_lend_23 rfl ?_
  exact v_iret C dL_lend_24 rfl rfl
set_option maxHeartbeats 4000000 in
theorem w_coal {l : Launch} {P : L5} {D : va_G} {N F T N1 F1 T1 : Nat → Nat → Int32} {K : Nat → Int32} {A : Nat → Nat → Int32} {w : Int64} {a b : Int32} {r : Int32} (hM : CtI l yX3_coal cX3_coal 5 .int 6 0 0 P D 97 97 False (cw P N F T K A w) (cw P N1 F1 T1 K A w) [.ref (rX P), .int a, .int b] r) : CtH l yL_coal cL_coal 5 [(0, 10, 13, 13), (0, 10, 17, 15), (0, 10, 21, 17)] 9 0 0 P D (cw P N F T K A w) (cw P N1 F1 T1 K A r.toInt64) [.ref (rX P), .int a, .int b, .ref (rO P)] 0 := by
  refine mk_MetH pl_L [(0, .ref (rX P)), (1, .int a), (2, .int b), (3, .ref (rO P))] rfl (Nat.le_of_ble_eq_true rfl) ?_
  intro pg en sg mg ag bg mt cd C htab
  refine v_aload_n C 3 dL_coal_0 rfl ?_
  refine v_iconst (v := 0) C dL_coal_1 rfl ?_
  refine v_aload_n C 0 dL_coal_2 rfl ?_
  refine v_iload_n C 1 dL_coal_3 rfl ?_
  refine v_iload_n C 2 dL_coal_4 rfl ?_
  refine go_I (run_V C (hM) k_340 k_1 k_337 k_338 k_339 dd_X3_coal ⟨Nat.le_of_ble_eq_true rfl, Nat.le_of_ble_eq_true rfl⟩ rcX rfl (Nat.le_of_ble_eq_true rfl) dL_coal_5 ⟨Nat.le_of_ble_eq_true rfl, Nat.le_of_ble_eq_true rfl⟩) ?_
  refine v_i2l C dL_coal_8 ?_
  refine v_stO C dL_coal_9 ?_
  refine v_goto (tgt := 25) C dL_coal_10 (by decide) ?_
  refine v_iconst (v := 0) C dL_coal_25 rfl ?_
  exact v_iret C dL_coal_26 rfl rfl
set_option maxHeartbeats 4000000 in
theorem w_coal_1 {l : Launch} {P : L5} {D : va_G} {N F T N1 F1 T1 : Nat → Nat → Int32} {K : Nat → Int32} {A : Nat → Nat → Int32} {w : Int64} {a b : Int32} (hM : CxI l yX3_coal cX3_coal 5 .int 8 P D (cw P N F T K A w) [.ref (rX P), .int a, .int b] 1) : CtH l yL_coal cL_coal 5 [(0, 10, 13, 13), (0, 10, 17, 15), (0, 10, 21, 17)] 9 1 6 P D (cw P N F T K A w) (cw P N F T K A w) [.ref (rX P), .int a, .int b, .ref (rO P)] 1 := by
  refine mk_MetH pl_L [(0, .ref (rX P)), (1, .int a), (2, .int b), (3, .ref (rO P))] rfl (Nat.le_of_ble_eq_true rfl) ?_
  intro pg en sg mg ag bg mt cd C htab
  refine v_aload_n C 3 dL_coal_0 rfl ?_
  refine v_iconst (v := 0) C dL_coal_1 rfl ?_
  refine v_aload_n C 0 dL_coal_2 rfl ?_
  refine v_iload_n C 1 dL_coal_3 rfl ?_
  refine v_iload_n C 2 dL_coal_4 rfl ?_
  refine gox_H C (runx_V C (hM) k_340 k_1 k_337 k_338 k_339 dd_X3_coal ⟨Nat.le_of_ble_eq_true rfl, Nat.le_of_ble_eq_true rfl⟩ rcX rfl (Nat.le_of_ble_eq_true rfl) dL_coal_5 ⟨Nat.le_of_ble_eq_true rfl, Nat.le_of_ble_eq_true rfl⟩) [] ⟨0, 10, 13, 13⟩ [⟨0, 10, 17, 15⟩, ⟨0, 10, 21, 17⟩] (htab.trans rfl) (fun z hz => ?_) (by decide) (by decide) k_205 (fun q9 => ?_)
  · exact absurd hz (List.not_mem_nil)
  show V _ _ _ _ _ _ _ _ _ _ _ _ _ _ _ _ _ _ _ 13 _ _
  refine v_astore (lv' := [(4, .ref q9), (0, .ref (rX P)), (1, .int a), (2, .int b), (3, .ref (rO P))]) C dL_coal_13 (by decide) rfl ?_
  refine v_iconst (v := 1) C dL_coal_15 rfl ?_
  exact v_iret C dL_coal_16 rfl rfl
set_option maxHeartbeats 4000000 in
theorem w_coal_2 {l : Launch} {P : L5} {D : va_G} {N F T N1 F1 T1 : Nat → Nat → Int32} {K : Nat → Int32} {A : Nat → Nat → Int32} {w : Int64} {a b : Int32} (hM : CxI l yX3_coal cX3_coal 5 .int 8 P D (cw P N F T K A w) [.ref (rX P), .int a, .int b] 2) : CtH l yL_coal cL_coal 5 [(0, 10, 13, 13), (0, 10, 17, 15), (0, 10, 21, 17)] 9 1 6 P D (cw P N F T K A w) (cw P N F T K A w) [.ref (rX P), .int a, .int b, .ref (rO P)] 2 := by
  refine mk_MetH pl_L [(0, .ref (rX P)), (1, .int a), (2, .int b), (3, .ref (rO P))] rfl (Nat.le_of_ble_eq_true rfl) ?_
  intro pg en sg mg ag bg mt cd C htab
  refine v_aload_n C 3 dL_coal_0 rfl ?_
  refine v_iconst (v := 0) C dL_coal_1 rfl ?_
  refine v_aload_n C 0 dL_coal_2 rfl ?_
  refine v_iload_n C 1 dL_coal_3 rfl ?_
  refine v_iload_n C 2 dL_coal_4 rfl ?_
  refine gox_H C (runx_V C (hM) k_340 k_1 k_337 k_338 k_339 dd_X3_coal ⟨Nat.le_of_ble_eq_true rfl, Nat.le_of_ble_eq_true rfl⟩ rcX rfl (Nat.le_of_ble_eq_true rfl) dL_coal_5 ⟨Nat.le_of_ble_eq_true rfl, Nat.le_of_ble_eq_true rfl⟩) [⟨0, 10, 13, 13⟩] ⟨0, 10, 17, 15⟩ [⟨0, 10, 21, 17⟩] (htab.trans rfl) (fun z hz => ?_) (by decide) (by decide) k_206 (fun q9 => ?_)
  · rcases List.mem_cons.mp hz with rfl | hz; · exact Or.inr ⟨by decide, 1, k_205, by decide⟩
    exact absurd hz (List.not_mem_nil)
  show V _ _ _ _ _ _ _ _ _ _ _ _ _ _ _ _ _ _ _ 17 _ _
  refine v_astore (lv' := [(4, .ref q9), (0, .ref (rX P)), (1, .int a), (2, .int b), (3, .ref (rO P))]) C dL_coal_17 (by decide) rfl ?_
  refine v_iconst (v := 2) C dL_coal_19 rfl ?_
  exact v_iret C dL_coal_20 rfl rfl
set_option maxHeartbeats 4000000 in
theorem w_coal_3 {l : Launch} {P : L5} {D : va_G} {N F T N1 F1 T1 : Nat → Nat → Int32} {K : Nat → Int32} {A : Nat → Nat → Int32} {w : Int64} {a b : Int32} (hM : CxI l yX3_coal cX3_coal 5 .int 8 P D (cw P N F T K A w) [.ref (rX P), .int a, .int b] 3) : CtH l yL_coal cL_coal 5 [(0, 10, 13, 13), (0, 10, 17, 15), (0, 10, 21, 17)] 9 1 6 P D (cw P N F T K A w) (cw P N F T K A w) [.ref (rX P), .int a, .int b, .ref (rO P)] 3 := by
  refine mk_MetH pl_L [(0, .ref (rX P)), (1, .int a), (2, .int b), (3, .ref (rO P))] rfl (Nat.le_of_ble_eq_true rfl) ?_
  intro pg en sg mg ag bg mt cd C htab
  refine v_aload_n C 3 dL_coal_0 rfl ?_
  refine v_iconst (v := 0) C dL_coal_1 rfl ?_
  refine v_aload_n C 0 dL_coal_2 rfl ?_
  refine v_iload_n C 1 dL_coal_3 rfl ?_
  refine v_iload_n C 2 dL_coal_4 rfl ?_
  refine gox_H C (runx_V C (hM) k_340 k_1 k_337 k_338 k_339 dd_X3_coal ⟨Nat.le_of_ble_eq_true rfl, Nat.le_of_ble_eq_true rfl⟩ rcX rfl (Nat.le_of_ble_eq_true rfl) dL_coal_5 ⟨Nat.le_of_ble_eq_true rfl, Nat.le_of_ble_eq_true rfl⟩) [⟨0, 10, 13, 13⟩, ⟨0, 10, 17, 15⟩] ⟨0, 10, 21, 17⟩ [] (htab.trans rfl) (fun z hz => ?_) (by decide) (by decide) k_207 (fun q9 => ?_)
  · rcases List.mem_cons.mp hz with rfl | hz; · exact Or.inr ⟨by decide, 1, k_205, by decide⟩
    rcases List.mem_cons.mp hz with rfl | hz; · exact Or.inr ⟨by decide, 2, k_206, by decide⟩
    exact absurd hz (List.not_mem_nil)
  show V _ _ _ _ _ _ _ _ _ _ _ _ _ _ _ _ _ _ _ 21 _ _
  refine v_astore (lv' := [(4, .ref q9), (0, .ref (rX P)), (1, .int a), (2, .int b), (3, .ref (rO P))]) C dL_coal_21 (by decide) rfl ?_
  refine v_iconst (v := 3) C dL_coal_23 rfl ?_
  exact v_iret C dL_coal_24 rfl rfl
set_option maxHeartbeats 4000000 in
theorem w_make {l : Launch} {P : L5} {D : va_G} {N F T N1 F1 T1 : Nat → Nat → Int32} {K : Nat → Int32} {A : Nat → Nat → Int32} {w : Int64} {a b : Int32} {r : Int32} (hM : CtI l yX3_make cX3_make 4 .int 6 0 0 P D 97 97 False (cw P N F T K A w) (cw P N1 F1 T1 K A w) [.ref (rX P), .int a, .int b] r) : CtH l yL_make cL_make 5 [(0, 10, 13, 13)] 9 0 0 P D (cw P N F T K A w) (cw P N1 F1 T1 K A r.toInt64) [.ref (rX P), .int a, .int b, .ref (rO P)] 0 := by
  refine mk_MetH pl_L [(0, .ref (rX P)), (1, .int a), (2, .int b), (3, .ref (rO P))] rfl (Nat.le_of_ble_eq_true rfl) ?_
  intro pg en sg mg ag bg mt cd C htab
  refine v_aload_n C 3 dL_make_0 rfl ?_
  refine v_iconst (v := 0) C dL_make_1 rfl ?_
  refine v_aload_n C 0 dL_make_2 rfl ?_
  refine v_iload_n C 1 dL_make_3 rfl ?_
  refine v_iload_n C 2 dL_make_4 rfl ?_
  refine go_I (run_V C (hM) k_348 k_1 k_345 k_346 k_347 dd_X3_make ⟨Nat.le_of_ble_eq_true rfl, Nat.le_of_ble_eq_true rfl⟩ rcX rfl (Nat.le_of_ble_eq_true rfl) dL_make_5 ⟨Nat.le_of_ble_eq_true rfl, Nat.le_of_ble_eq_true rfl⟩) ?_
  refine v_i2l C dL_make_8 ?_
  refine v_stO C dL_make_9 ?_
  refine v_goto (tgt := 17) C dL_make_10 (by decide) ?_
  refine v_iconst (v := 0) C dL_make_17 rfl ?_
  exact v_iret C dL_make_18 rfl rfl
set_option maxHeartbeats 4000000 in
theorem w_make_1 {l : Launch} {P : L5} {D : va_G} {N F T N1 F1 T1 : Nat → Nat → Int32} {K : Nat → Int32} {A : Nat → Nat → Int32} {w : Int64} {a b : Int32} (hM : CxI l yX3_make cX3_make 4 .int 8 P D (cw P N F T K A w) [.ref (rX P), .int a, .int b] 1) : CtH l yL_make cL_make 5 [(0, 10, 13, 13)] 9 1 6 P D (cw P N F T K A w) (cw P N F T K A w) [.ref (rX P), .int a, .int b, .ref (rO P)] 1 := by
  refine mk_MetH pl_L [(0, .ref (rX P)), (1, .int a), (2, .int b), (3, .ref (rO P))] rfl (Nat.le_of_ble_eq_true rfl) ?_
  intro pg en sg mg ag bg mt cd C htab
  refine v_aload_n C 3 dL_make_0 rfl ?_
  refine v_iconst (v := 0) C dL_make_1 rfl ?_
  refine v_aload_n C 0 dL_make_2 rfl ?_
  refine v_iload_n C 1 dL_make_3 rfl ?_
  refine v_iload_n C 2 dL_make_4 rfl ?_
  refine gox_H C (runx_V C (hM) k_348 k_1 k_345 k_346 k_347 dd_X3_make ⟨Nat.le_of_ble_eq_true rfl, Nat.le_of_ble_eq_true rfl⟩ rcX rfl (Nat.le_of_ble_eq_true rfl) dL_make_5 ⟨Nat.le_of_ble_eq_true rfl, Nat.le_of_ble_eq_true rfl⟩) [] ⟨0, 10, 13, 13⟩ [] (htab.trans rfl) (fun z hz => ?_) (by decide) (by decide) k_205 (fun q9 => ?_)
  · exact absurd hz (List.not_mem_nil)
  show V _ _ _ _ _ _ _ _ _ _ _ _ _ _ _ _ _ _ _ 13 _ _
  refine v_astore (lv' := [(4, .ref q9), (0, .ref (rX P)), (1, .int a), (2, .int b), (3, .ref (rO P))]) C dL_make_13 (by decide) rfl ?_
  refine v_iconst (v := 1) C dL_make_15 rfl ?_
  exact v_iret C dL_make_16 rfl rfl
set_option maxHeartbeats 4000000 in
theorem w_change {l : Launch} {P : L5} {D : va_G} {N F T N1 F1 T1 : Nat → Nat → Int32} {K : Nat → Int32} {A : Nat → Nat → Int32} {w : Int64} {a b : Int32} {r : Int32} (hM : CtI l yX3_change cX3_change 5 .int 6 0 0 P D 97 97 False (cw P N F T K A w) (cw P N1 F1 T1 K A w) [.ref (rX P), .int a, .int b] r) : CtH l yL_change cL_change 5 [(0, 10, 13, 13), (0, 10, 17, 17)] 9 0 0 P D (cw P N F T K A w) (cw P N1 F1 T1 K A r.toInt64) [.ref (rX P), .int a, .int b, .ref (rO P)] 0 := by
  refine mk_MetH pl_L [(0, .ref (rX P)), (1, .int a), (2, .int b), (3, .ref (rO P))] rfl (Nat.le_of_ble_eq_true rfl) ?_
  intro pg en sg mg ag bg mt cd C htab
  refine v_aload_n C 3 dL_change_0 rfl ?_
  refine v_iconst (v := 0) C dL_change_1 rfl ?_
  refine v_aload_n C 0 dL_change_2 rfl ?_
  refine v_iload_n C 1 dL_change_3 rfl ?_
  refine v_iload_n C 2 dL_change_4 rfl ?_
  refine go_I (run_V C (hM) k_355 k_1 k_352 k_353 k_354 dd_X3_change ⟨Nat.le_of_ble_eq_true rfl, Nat.le_of_ble_eq_true rfl⟩ rcX rfl (Nat.le_of_ble_eq_true rfl) dL_change_5 ⟨Nat.le_of_ble_eq_true rfl, Nat.le_of_ble_eq_true rfl⟩) ?_
  refine v_i2l C dL_change_8 ?_
  refine v_stO C dL_change_9 ?_
  refine v_goto (tgt := 21) C dL_change_10 (by decide) ?_
  refine v_iconst (v := 0) C dL_change_21 rfl ?_
  exact v_iret C dL_change_22 rfl rfl
set_option maxHeartbeats 4000000 in
theorem w_change_1 {l : Launch} {P : L5} {D : va_G} {N F T N1 F1 T1 : Nat → Nat → Int32} {K : Nat → Int32} {A : Nat → Nat → Int32} {w : Int64} {a b : Int32} (hM : CxI l yX3_change cX3_change 5 .int 8 P D (cw P N F T K A w) [.ref (rX P), .int a, .int b] 1) : CtH l yL_change cL_change 5 [(0, 10, 13, 13), (0, 10, 17, 17)] 9 1 6 P D (cw P N F T K A w) (cw P N F T K A w) [.ref (rX P), .int a, .int b, .ref (rO P)] 1 := by
  refine mk_MetH pl_L [(0, .ref (rX P)), (1, .int a), (2, .int b), (3, .ref (rO P))] rfl (Nat.le_of_ble_eq_true rfl) ?_
  intro pg en sg mg ag bg mt cd C htab
  refine v_aload_n C 3 dL_change_0 rfl ?_
  refine v_iconst (v := 0) C dL_change_1 rfl ?_
  refine v_aload_n C 0 dL_change_2 rfl ?_
  refine v_iload_n C 1 dL_change_3 rfl ?_
  refine v_iload_n C 2 dL_change_4 rfl ?_
  refine gox_H C (runx_V C (hM) k_355 k_1 k_352 k_353 k_354 dd_X3_change ⟨Nat.le_of_ble_eq_true rfl, Nat.le_of_ble_eq_true rfl⟩ rcX rfl (Nat.le_of_ble_eq_true rfl) dL_change_5 ⟨Nat.le_of_ble_eq_true rfl, Nat.le_of_ble_eq_true rfl⟩) [] ⟨0, 10, 13, 13⟩ [⟨0, 10, 17, 17⟩] (htab.trans rfl) (fun z hz => ?_) (by decide) (by decide) k_205 (fun q9 => ?_)
  · exact absurd hz (List.not_mem_nil)
  show V _ _ _ _ _ _ _ _ _ _ _ _ _ _ _ _ _ _ _ 13 _ _
  refine v_astore (lv' := [(4, .ref q9), (0, .ref (rX P)), (1, .int a), (2, .int b), (3, .ref (rO P))]) C dL_change_13 (by decide) rfl ?_
  refine v_iconst (v := 1) C dL_change_15 rfl ?_
  exact v_iret C dL_change_16 rfl rfl
set_option maxHeartbeats 4000000 in
theorem w_change_3 {l : Launch} {P : L5} {D : va_G} {N F T N1 F1 T1 : Nat → Nat → Int32} {K : Nat → Int32} {A : Nat → Nat → Int32} {w : Int64} {a b : Int32} (hM : CxI l yX3_change cX3_change 5 .int 8 P D (cw P N F T K A w) [.ref (rX P), .int a, .int b] 3) : CtH l yL_change cL_change 5 [(0, 10, 13, 13), (0, 10, 17, 17)] 9 1 6 P D (cw P N F T K A w) (cw P N F T K A w) [.ref (rX P), .int a, .int b, .ref (rO P)] 2 := by
  refine mk_MetH pl_L [(0, .ref (rX P)), (1, .int a), (2, .int b), (3, .ref (rO P))] rfl (Nat.le_of_ble_eq_true rfl) ?_
  intro pg en sg mg ag bg mt cd C htab
  refine v_aload_n C 3 dL_change_0 rfl ?_
  refine v_iconst (v := 0) C dL_change_1 rfl ?_
  refine v_aload_n C 0 dL_change_2 rfl ?_
  refine v_iload_n C 1 dL_change_3 rfl ?_
  refine v_iload_n C 2 dL_change_4 rfl ?_
  refine gox_H C (runx_V C (hM) k_355 k_1 k_352 k_353 k_354 dd_X3_change ⟨Nat.le_of_ble_eq_true rfl, Nat.le_of_ble_eq_true rfl⟩ rcX rfl (Nat.le_of_ble_eq_true rfl) dL_change_5 ⟨Nat.le_of_ble_eq_true rfl, Nat.le_of_ble_eq_true rfl⟩) [⟨0, 10, 13, 13⟩] ⟨0, 10, 17, 17⟩ [] (htab.trans rfl) (fun z hz => ?_) (by decide) (by decide) k_207 (fun q9 => ?_)
  · rcases List.mem_cons.mp hz with rfl | hz; · exact Or.inr ⟨by decide, 1, k_205, by decide⟩
    exact absurd hz (List.not_mem_nil)
  show V _ _ _ _ _ _ _ _ _ _ _ _ _ _ _ _ _ _ _ 17 _ _
  refine v_astore (lv' := [(4, .ref q9), (0, .ref (rX P)), (1, .int a), (2, .int b), (3, .ref (rO P))]) C dL_change_17 (by decide) rfl ?_
  refine v_iconst (v := 2) C dL_change_19 rfl ?_
  exact v_iret C dL_change_20 rfl rfl
set_option maxHeartbeats 4000000 in
theorem w_told {l : Launch} {P : L5} {D : va_G} {N F T N1 F1 T1 : Nat → Nat → Int32} {K : Nat → Int32} {A : Nat → Nat → Int32} {w : Int64} {a b : Int32} {r : Int32} (hM : CtI l yX3_told cX3_told 3 .int 6 0 0 P D 97 97 False (cw P N F T K A w) (cw P N1 F1 T1 K A w) [.ref (rX P), .int a, .int b] r) : CtH l yL_told cL_told 5 [(0, 10, 13, 13)] 9 0 0 P D (cw P N F T K A w) (cw P N1 F1 T1 K A r.toInt64) [.ref (rX P), .int a, .int b, .ref (rO P)] 0 := by
  refine mk_MetH pl_L [(0, .ref (rX P)), (1, .int a), (2, .int b), (3, .ref (rO P))] rfl (Nat.le_of_ble_eq_true rfl) ?_
  intro pg en sg mg ag bg mt cd C htab
  refine v_aload_n C 3 dL_told_0 rfl ?_
  refine v_iconst (v := 0) C dL_told_1 rfl ?_
  refine v_aload_n C 0 dL_told_2 rfl ?_
  refine v_iload_n C 1 dL_told_3 rfl ?_
  refine v_iload_n C 2 dL_told_4 rfl ?_
  refine go_I (run_V C (hM) k_363 k_1 k_360 k_361 k_362 dd_X3_told ⟨Nat.le_of_ble_eq_true rfl, Nat.le_of_ble_eq_true rfl⟩ rcX rfl (Nat.le_of_ble_eq_true rfl) dL_told_5 ⟨Nat.le_of_ble_eq_true rfl, Nat.le_of_ble_eq_true rfl⟩) ?_
  refine v_i2l C dL_told_8 ?_
  refine v_stO C dL_told_9 ?_
  refine v_goto (tgt := 17) C dL_told_10 (by decide) ?_
  refine v_iconst (v := 0) C dL_told_17 rfl ?_
  exact v_iret C dL_told_18 rfl rfl
set_option maxHeartbeats 4000000 in
theorem w_told_1 {l : Launch} {P : L5} {D : va_G} {N F T N1 F1 T1 : Nat → Nat → Int32} {K : Nat → Int32} {A : Nat → Nat → Int32} {w : Int64} {a b : Int32} (hM : CxI l yX3_told cX3_told 3 .int 8 P D (cw P N F T K A w) [.ref (rX P), .int a, .int b] 1) : CtH l yL_told cL_told 5 [(0, 10, 13, 13)] 9 1 6 P D (cw P N F T K A w) (cw P N F T K A w) [.ref (rX P), .int a, .int b, .ref (rO P)] 1 := by
  refine mk_MetH pl_L [(0, .ref (rX P)), (1, .int a), (2, .int b), (3, .ref (rO P))] rfl (Nat.le_of_ble_eq_true rfl) ?_
  intro pg en sg mg ag bg mt cd C htab
  refine v_aload_n C 3 dL_told_0 rfl ?_
  refine v_iconst (v := 0) C dL_told_1 rfl ?_
  refine v_aload_n C 0 dL_told_2 rfl ?_
  refine v_iload_n C 1 dL_told_3 rfl ?_
  refine v_iload_n C 2 dL_told_4 rfl ?_
  refine gox_H C (runx_V C (hM) k_363 k_1 k_360 k_361 k_362 dd_X3_told ⟨Nat.le_of_ble_eq_true rfl, Nat.le_of_ble_eq_true rfl⟩ rcX rfl (Nat.le_of_ble_eq_true rfl) dL_told_5 ⟨Nat.le_of_ble_eq_true rfl, Nat.le_of_ble_eq_true rfl⟩) [] ⟨0, 10, 13, 13⟩ [] (htab.trans rfl) (fun z hz => ?_) (by decide) (by decide) k_205 (fun q9 => ?_)
  · exact absurd hz (List.not_mem_nil)
  show V _ _ _ _ _ _ _ _ _ _ _ _ _ _ _ _ _ _ _ 13 _ _
  refine v_astore (lv' := [(4, .ref q9), (0, .ref (rX P)), (1, .int a), (2, .int b), (3, .ref (rO P))]) C dL_told_13 (by decide) rfl ?_
  refine v_iconst (v := 1) C dL_told_15 rfl ?_
  exact v_iret C dL_told_16 rfl rfl
set_option maxHeartbeats 4000000 in
theorem w_nails {l : Launch} {P : L5} {D : va_G} {N F T N1 F1 T1 : Nat → Nat → Int32} {K : Nat → Int32} {A : Nat → Nat → Int32} {w : Int64} {a b d : Int32} {r : Int32} (hM : CtI l yX3_nails cX3_nails 5 .int 6 0 0 P D 97 97 False (cw P N F T K A w) (cw P N1 F1 T1 K A w) [.ref (rX P), .int a, .int b, .int d] r) : CtH l yL_nails cL_nails 6 [(0, 12, 15, 13)] 9 0 0 P D (cw P N F T K A w) (cw P N1 F1 T1 K A r.toInt64) [.ref (rX P), .int a, .int b, .int d, .ref (rO P)] 0 := by
  refine mk_MetH pl_L [(0, .ref (rX P)), (1, .int a), (2, .int b), (3, .int d), (4, .ref (rO P))] rfl (Nat.le_of_ble_eq_true rfl) ?_
  intro pg en sg mg ag bg mt cd C htab
  refine v_aload C 4 dL_nails_0 rfl ?_
  refine v_iconst (v := 0) C dL_nails_2 rfl ?_
  refine v_aload_n C 0 dL_nails_3 rfl ?_
  refine v_iload_n C 1 dL_nails_4 rfl ?_
  refine v_iload_n C 2 dL_nails_5 rfl ?_
  refine v_iload_n C 3 dL_nails_6 rfl ?_
  refine go_I (run_V C (hM) k_371 k_1 k_368 k_369 k_370 dd_X3_nails ⟨Nat.le_of_ble_eq_true rfl, Nat.le_of_ble_eq_true rfl⟩ rcX rfl (Nat.le_of_ble_eq_true rfl) dL_nails_7 ⟨Nat.le_of_ble_eq_true rfl, Nat.le_of_ble_eq_true rfl⟩) ?_
  refine v_i2l C dL_nails_10 ?_
  refine v_stO C dL_nails_11 ?_
  refine v_goto (tgt := 19) C dL_nails_12 (by decide) ?_
  refine v_iconst (v := 0) C dL_nails_19 rfl ?_
  exact v_iret C dL_nails_20 rfl rfl
set_option maxHeartbeats 4000000 in
theorem w_nails_1 {l : Launch} {P : L5} {D : va_G} {N F T N1 F1 T1 : Nat → Nat → Int32} {K : Nat → Int32} {A : Nat → Nat → Int32} {w : Int64} {a b d : Int32} (hM : CxI l yX3_nails cX3_nails 5 .int 8 P D (cw P N F T K A w) [.ref (rX P), .int a, .int b, .int d] 1) : CtH l yL_nails cL_nails 6 [(0, 12, 15, 13)] 9 1 6 P D (cw P N F T K A w) (cw P N F T K A w) [.ref (rX P), .int a, .int b, .int d, .ref (rO P)] 1 := by
  refine mk_MetH pl_L [(0, .ref (rX P)), (1, .int a), (2, .int b), (3, .int d), (4, .ref (rO P))] rfl (Nat.le_of_ble_eq_true rfl) ?_
  intro pg en sg mg ag bg mt cd C htab
  refine v_aload C 4 dL_nails_0 rfl ?_
  refine v_iconst (v := 0) C dL_nails_2 rfl ?_
  refine v_aload_n C 0 dL_nails_3 rfl ?_
  refine v_iload_n C 1 dL_nails_4 rfl ?_
  refine v_iload_n C 2 dL_nails_5 rfl ?_
  refine v_iload_n C 3 dL_nails_6 rfl ?_
  refine gox_H C (runx_V C (hM) k_371 k_1 k_368 k_369 k_370 dd_X3_nails ⟨Nat.le_of_ble_eq_true rfl, Nat.le_of_ble_eq_true rfl⟩ rcX rfl (Nat.le_of_ble_eq_true rfl) dL_nails_7 ⟨Nat.le_of_ble_eq_true rfl, Nat.le_of_ble_eq_true rfl⟩) [] ⟨0, 12, 15, 13⟩ [] (htab.trans rfl) (fun z hz => ?_) (by decide) (by decide) k_205 (fun q9 => ?_)
  · exact absurd hz (List.not_mem_nil)
  show V _ _ _ _ _ _ _ _ _ _ _ _ _ _ _ _ _ _ _ 15 _ _
  refine v_astore (lv' := [(5, .ref q9), (0, .ref (rX P)), (1, .int a), (2, .int b), (3, .int d), (4, .ref (rO P))]) C dL_nails_15 (by decide) rfl ?_
  refine v_iconst (v := 1) C dL_nails_17 rfl ?_
  exact v_iret C dL_nails_18 rfl rfl
set_option maxHeartbeats 4000000 in
theorem w_keep {l : Launch} {P : L5} {D : va_G} {N F T N1 F1 T1 : Nat → Nat → Int32} {K : Nat → Int32} {A : Nat → Nat → Int32} {w : Int64} {a b : Int32} {r : Int32} (hM : CtI l yX3_keep cX3_keep 4 .int 6 0 0 P D 97 97 False (cw P N F T K A w) (cw P N1 F1 T1 K A w) [.ref (rX P), .int a, .int b] r) : CtH l yL_keep cL_keep 5 [(0, 10, 13, 13), (0, 10, 17, 15)] 9 0 0 P D (cw P N F T K A w) (cw P N1 F1 T1 K A r.toInt64) [.ref (rX P), .int a, .int b, .ref (rO P)] 0 := by
  refine mk_MetH pl_L [(0, .ref (rX P)), (1, .int a), (2, .int b), (3, .ref (rO P))] rfl (Nat.le_of_ble_eq_true rfl) ?_
  intro pg en sg mg ag bg mt cd C htab
  refine v_aload_n C 3 dL_keep_0 rfl ?_
  refine v_iconst (v := 0) C dL_keep_1 rfl ?_
  refine v_aload_n C 0 dL_keep_2 rfl ?_
  refine v_iload_n C 1 dL_keep_3 rfl ?_
  refine v_iload_n C 2 dL_keep_4 rfl ?_
  refine go_I (run_V C (hM) k_378 k_1 k_375 k_376 k_377 dd_X3_keep ⟨Nat.le_of_ble_eq_true rfl, Nat.le_of_ble_eq_true rfl⟩ rcX rfl (Nat.le_of_ble_eq_true rfl) dL_keep_5 ⟨Nat.le_of_ble_eq_true rfl, Nat.le_of_ble_eq_true rfl⟩) ?_
  refine v_i2l C dL_keep_8 ?_
  refine v_stO C dL_keep_9 ?_
  refine v_goto (tgt := 21) C dL_keep_10 (by decide) ?_
  refine v_iconst (v := 0) C dL_keep_21 rfl ?_
  exact v_iret C dL_keep_22 rfl rfl
set_option maxHeartbeats 4000000 in
theorem w_keep_1 {l : Launch} {P : L5} {D : va_G} {N F T N1 F1 T1 : Nat → Nat → Int32} {K : Nat → Int32} {A : Nat → Nat → Int32} {w : Int64} {a b : Int32} (hM : CxI l yX3_keep cX3_keep 4 .int 8 P D (cw P N F T K A w) [.ref (rX P), .int a, .int b] 1) : CtH l yL_keep cL_keep 5 [(0, 10, 13, 13), (0, 10, 17, 15)] 9 1 6 P D (cw P N F T K A w) (cw P N F T K A w) [.ref (rX P), .int a, .int b, .ref (rO P)] 1 := by
  refine mk_MetH pl_L [(0, .ref (rX P)), (1, .int a), (2, .int b), (3, .ref (rO P))] rfl (Nat.le_of_ble_eq_true rfl) ?_
  intro pg en sg mg ag bg mt cd C htab
  refine v_aload_n C 3 dL_keep_0 rfl ?_
  refine v_iconst (v := 0) C dL_keep_1 rfl ?_
  refine v_aload_n C 0 dL_keep_2 rfl ?_
  refine v_iload_n C 1 dL_keep_3 rfl ?_
  refine v_iload_n C 2 dL_keep_4 rfl ?_
  refine gox_H C (runx_V C (hM) k_378 k_1 k_375 k_376 k_377 dd_X3_keep ⟨Nat.le_of_ble_eq_true rfl, Nat.le_of_ble_eq_true rfl⟩ rcX rfl (Nat.le_of_ble_eq_true rfl) dL_keep_5 ⟨Nat.le_of_ble_eq_true rfl, Nat.le_of_ble_eq_true rfl⟩) [] ⟨0, 10, 13, 13⟩ [⟨0, 10, 17, 15⟩] (htab.trans rfl) (fun z hz => ?_) (by decide) (by decide) k_205 (fun q9 => ?_)
  · exact absurd hz (List.not_mem_nil)
  show V _ _ _ _ _ _ _ _ _ _ _ _ _ _ _ _ _ _ _ 13 _ _
  refine v_astore (lv' := [(4, .ref q9), (0, .ref (rX P)), (1, .int a), (2, .int b), (3, .ref (rO P))]) C dL_keep_13 (by decide) rfl ?_
  refine v_iconst (v := 1) C dL_keep_15 rfl ?_
  exact v_iret C dL_keep_16 rfl rfl
set_option maxHeartbeats 4000000 in
theorem w_keep_2 {l : Launch} {P : L5} {D : va_G} {N F T N1 F1 T1 : Nat → Nat → Int32} {K : Nat → Int32} {A : Nat → Nat → Int32} {w : Int64} {a b : Int32} (hM : CxI l yX3_keep cX3_keep 4 .int 8 P D (cw P N F T K A w) [.ref (rX P), .int a, .int b] 2) : CtH l yL_keep cL_keep 5 [(0, 10, 13, 13), (0, 10, 17, 15)] 9 1 6 P D (cw P N F T K A w) (cw P N F T K A w) [.ref (rX P), .int a, .int b, .ref (rO P)] 2 := by
  refine mk_MetH pl_L [(0, .ref (rX P)), (1, .int a), (2, .int b), (3, .ref (rO P))] rfl (Nat.le_of_ble_eq_true rfl) ?_
  intro pg en sg mg ag bg mt cd C htab
  refine v_aload_n C 3 dL_keep_0 rfl ?_
  refine v_iconst (v := 0) C dL_keep_1 rfl ?_
  refine v_aload_n C 0 dL_keep_2 rfl ?_
  refine v_iload_n C 1 dL_keep_3 rfl ?_
  refine v_iload_n C 2 dL_keep_4 rfl ?_
  refine gox_H C (runx_V C (hM) k_378 k_1 k_375 k_376 k_377 dd_X3_keep ⟨Nat.le_of_ble_eq_true rfl, Nat.le_of_ble_eq_true rfl⟩ rcX rfl (Nat.le_of_ble_eq_true rfl) dL_keep_5 ⟨Nat.le_of_ble_eq_true rfl, Nat.le_of_ble_eq_true rfl⟩) [⟨0, 10, 13, 13⟩] ⟨0, 10, 17, 15⟩ [] (htab.trans rfl) (fun z hz => ?_) (by decide) (by decide) k_206 (fun q9 => ?_)
  · rcases List.mem_cons.mp hz with rfl | hz; · exact Or.inr ⟨by decide, 1, k_205, by decide⟩
    exact absurd hz (List.not_mem_nil)
  show V _ _ _ _ _ _ _ _ _ _ _ _ _ _ _ _ _ _ _ 17 _ _
  refine v_astore (lv' := [(4, .ref q9), (0, .ref (rX P)), (1, .int a), (2, .int b), (3, .ref (rO P))]) C dL_keep_17 (by decide) rfl ?_
  refine v_iconst (v := 2) C dL_keep_19 rfl ?_
  exact v_iret C dL_keep_20 rfl rfl
set_option maxHeartbeats 4000000 in
theorem w_fogger {l : Launch} {P : L5} {D : va_G} {N F T N1 F1 T1 : Nat → Nat → Int32} {K : Nat → Int32} {A : Nat → Nat → Int32} {w : Int64} {a b : Int32} {r : Int32} (hM : CtI l yX3_fogger cX3_fogger 3 .int 6 0 0 P D 97 97 False (cw P N F T K A w) (cw P N1 F1 T1 K A w) [.ref (rX P), .int a, .int b] r) : CtH l yL_fogger cL_fogger 5 [(0, 10, 13, 13)] 9 0 0 P D (cw P N F T K A w) (cw P N1 F1 T1 K A r.toInt64) [.ref (rX P), .int a, .int b, .ref (rO P)] 0 := by
  refine mk_MetH pl_L [(0, .ref (rX P)), (1, .int a), (2, .int b), (3, .ref (rO P))] rfl (Nat.le_of_ble_eq_true rfl) ?_
  intro pg en sg mg ag bg mt cd C htab
  refine v_aload_n C 3 dL_fogger_0 rfl ?_
  refine v_iconst (v := 0) C dL_fogger_1 rfl ?_
  refine v_aload_n C 0 dL_fogger_2 rfl ?_
  refine v_iload_n C 1 dL_fogger_3 rfl ?_
  refine v_iload_n C 2 dL_fogger_4 rfl ?_
  refine go_I (run_V C (hM) k_385 k_1 k_382 k_383 k_384 dd_X3_fogger ⟨Nat.le_of_ble_eq_true rfl, Nat.le_of_ble_eq_true rfl⟩ rcX rfl (Nat.le_of_ble_eq_true rfl) dL_fogger_5 ⟨Nat.le_of_ble_eq_true rfl, Nat.le_of_ble_eq_true rfl⟩) ?_
  refine v_i2l C dL_fogger_8 ?_
  refine v_stO C dL_fogger_9 ?_
  refine v_goto (tgt := 17) C dL_fogger_10 (by decide) ?_
  refine v_iconst (v := 0) C dL_fogger_17 rfl ?_
  exact v_iret C dL_fogger_18 rfl rfl
set_option maxHeartbeats 4000000 in
theorem w_fogger_1 {l : Launch} {P : L5} {D : va_G} {N F T N1 F1 T1 : Nat → Nat → Int32} {K : Nat → Int32} {A : Nat → Nat → Int32} {w : Int64} {a b : Int32} (hM : CxI l yX3_fogger cX3_fogger 3 .int 8 P D (cw P N F T K A w) [.ref (rX P), .int a, .int b] 1) : CtH l yL_fogger cL_fogger 5 [(0, 10, 13, 13)] 9 1 6 P D (cw P N F T K A w) (cw P N F T K A w) [.ref (rX P), .int a, .int b, .ref (rO P)] 1 := by
  refine mk_MetH pl_L [(0, .ref (rX P)), (1, .int a), (2, .int b), (3, .ref (rO P))] rfl (Nat.le_of_ble_eq_true rfl) ?_
  intro pg en sg mg ag bg mt cd C htab
  refine v_aload_n C 3 dL_fogger_0 rfl ?_
  refine v_iconst (v := 0) C dL_fogger_1 rfl ?_
  refine v_aload_n C 0 dL_fogger_2 rfl ?_
  refine v_iload_n C 1 dL_fogger_3 rfl ?_
  refine v_iload_n C 2 dL_fogger_4 rfl ?_
  refine gox_H C (runx_V C (hM) k_385 k_1 k_382 k_383 k_384 dd_X3_fogger ⟨Nat.le_of_ble_eq_true rfl, Nat.le_of_ble_eq_true rfl⟩ rcX rfl (Nat.le_of_ble_eq_true rfl) dL_fogger_5 ⟨Nat.le_of_ble_eq_true rfl, Nat.le_of_ble_eq_true rfl⟩) [] ⟨0, 10, 13, 13⟩ [] (htab.trans rfl) (fun z hz => ?_) (by decide) (by decide) k_205 (fun q9 => ?_)
  · exact absurd hz (List.not_mem_nil)
  show V _ _ _ _ _ _ _ _ _ _ _ _ _ _ _ _ _ _ _ 13 _ _
  refine v_astore (lv' := [(4, .ref q9), (0, .ref (rX P)), (1, .int a), (2, .int b), (3, .ref (rO P))]) C dL_fogger_13 (by decide) rfl ?_
  refine v_iconst (v := 1) C dL_fogger_15 rfl ?_
  exact v_iret C dL_fogger_16 rfl rfl
set_option maxHeartbeats 4000000 in
theorem w_count {l : Launch} {P : L5} {D : va_G} {N F T N1 F1 T1 : Nat → Nat → Int32} {K : Nat → Int32} {A : Nat → Nat → Int32} {w : Int64} {a : Int32} {r : Int32} (hM : CtI l yX3_count cX3_count 2 .int 6 0 0 P D 97 97 False (cw P N F T K A w) (cw P N1 F1 T1 K A w) [.ref (rX P), .int a] r) : CtH l yL_count cL_count 4 [(0, 9, 12, 13)] 9 0 0 P D (cw P N F T K A w) (cw P N1 F1 T1 K A r.toInt64) [.ref (rX P), .int a, .ref (rO P)] 0 := by
  refine mk_MetH pl_L [(0, .ref (rX P)), (1, .int a), (2, .ref (rO P))] rfl (Nat.le_of_ble_eq_true rfl) ?_
  intro pg en sg mg ag bg mt cd C htab
  refine v_aload_n C 2 dL_count_0 rfl ?_
  refine v_iconst (v := 0) C dL_count_1 rfl ?_
  refine v_aload_n C 0 dL_count_2 rfl ?_
  refine v_iload_n C 1 dL_count_3 rfl ?_
  refine go_I (run_V C (hM) k_392 k_1 k_389 k_390 k_391 dd_X3_count ⟨Nat.le_of_ble_eq_true rfl, Nat.le_of_ble_eq_true rfl⟩ rcX rfl (Nat.le_of_ble_eq_true rfl) dL_count_4 ⟨Nat.le_of_ble_eq_true rfl, Nat.le_of_ble_eq_true rfl⟩) ?_
  refine v_i2l C dL_count_7 ?_
  refine v_stO C dL_count_8 ?_
  refine v_goto (tgt := 15) C dL_count_9 (by decide) ?_
  refine v_iconst (v := 0) C dL_count_15 rfl ?_
  exact v_iret C dL_count_16 rfl rfl
set_option maxHeartbeats 4000000 in
theorem w_count_1 {l : Launch} {P : L5} {D : va_G} {N F T N1 F1 T1 : Nat → Nat → Int32} {K : Nat → Int32} {A : Nat → Nat → Int32} {w : Int64} {a : Int32} (hM : CxI l yX3_count cX3_count 2 .int 8 P D (cw P N F T K A w) [.ref (rX P), .int a] 1) : CtH l yL_count cL_count 4 [(0, 9, 12, 13)] 9 1 6 P D (cw P N F T K A w) (cw P N F T K A w) [.ref (rX P), .int a, .ref (rO P)] 1 := by
  refine mk_MetH pl_L [(0, .ref (rX P)), (1, .int a), (2, .ref (rO P))] rfl (Nat.le_of_ble_eq_true rfl) ?_
  intro pg en sg mg ag bg mt cd C htab
  refine v_aload_n C 2 dL_count_0 rfl ?_
  refine v_iconst (v := 0) C dL_count_1 rfl ?_
  refine v_aload_n C 0 dL_count_2 rfl ?_
  refine v_iload_n C 1 dL_count_3 rfl ?_
  refine gox_H C (runx_V C (hM) k_392 k_1 k_389 k_390 k_391 dd_X3_count ⟨Nat.le_of_ble_eq_true rfl, Nat.le_of_ble_eq_true rfl⟩ rcX rfl (Nat.le_of_ble_eq_true rfl) dL_count_4 ⟨Nat.le_of_ble_eq_true rfl, Nat.le_of_ble_eq_true rfl⟩) [] ⟨0, 9, 12, 13⟩ [] (htab.trans rfl) (fun z hz => ?_) (by decide) (by decide) k_205 (fun q9 => ?_)
  · exact absurd hz (List.not_mem_nil)
  show V _ _ _ _ _ _ _ _ _ _ _ _ _ _ _ _ _ _ _ 12 _ _
  refine v_astore_n (lv' := [(3, .ref q9), (0, .ref (rX P)), (1, .int a), (2, .ref (rO P))]) C dL_count_12 rfl (by decide) rfl ?_
  refine v_iconst (v := 1) C dL_count_13 rfl ?_
  exact v_iret C dL_count_14 rfl rfl
set_option maxHeartbeats 4000000 in
theorem w_pass {l : Launch} {P : L5} {D : va_G} {N F T N1 F1 T1 : Nat → Nat → Int32} {K : Nat → Int32} {A : Nat → Nat → Int32} {w : Int64} {a : Int32} {r : Int32} (hM : CtI l yX3_pass cX3_pass 2 .int 6 0 0 P D 97 97 False (cw P N F T K A w) (cw P N1 F1 T1 K A w) [.ref (rX P), .int a] r) : CtH l yL_pass cL_pass 4 [(0, 9, 12, 15)] 9 0 0 P D (cw P N F T K A w) (cw P N1 F1 T1 K A r.toInt64) [.ref (rX P), .int a, .ref (rO P)] 0 := by
  refine mk_MetH pl_L [(0, .ref (rX P)), (1, .int a), (2, .ref (rO P))] rfl (Nat.le_of_ble_eq_true rfl) ?_
  intro pg en sg mg ag bg mt cd C htab
  refine v_aload_n C 2 dL_pass_0 rfl ?_
  refine v_iconst (v := 0) C dL_pass_1 rfl ?_
  refine v_aload_n C 0 dL_pass_2 rfl ?_
  refine v_iload_n C 1 dL_pass_3 rfl ?_
  refine go_I (run_V C (hM) k_399 k_1 k_396 k_397 k_398 dd_X3_pass ⟨Nat.le_of_ble_eq_true rfl, Nat.le_of_ble_eq_true rfl⟩ rcX rfl (Nat.le_of_ble_eq_true rfl) dL_pass_4 ⟨Nat.le_of_ble_eq_true rfl, Nat.le_of_ble_eq_true rfl⟩) ?_
  refine v_i2l C dL_pass_7 ?_
  refine v_stO C dL_pass_8 ?_
  refine v_goto (tgt := 15) C dL_pass_9 (by decide) ?_
  refine v_iconst (v := 0) C dL_pass_15 rfl ?_
  exact v_iret C dL_pass_16 rfl rfl
set_option maxHeartbeats 4000000 in
theorem w_pass_2 {l : Launch} {P : L5} {D : va_G} {N F T N1 F1 T1 : Nat → Nat → Int32} {K : Nat → Int32} {A : Nat → Nat → Int32} {w : Int64} {a : Int32} (hM : CxI l yX3_pass cX3_pass 2 .int 8 P D (cw P N F T K A w) [.ref (rX P), .int a] 2) : CtH l yL_pass cL_pass 4 [(0, 9, 12, 15)] 9 1 6 P D (cw P N F T K A w) (cw P N F T K A w) [.ref (rX P), .int a, .ref (rO P)] 1 := by
  refine mk_MetH pl_L [(0, .ref (rX P)), (1, .int a), (2, .ref (rO P))] rfl (Nat.le_of_ble_eq_true rfl) ?_
  intro pg en sg mg ag bg mt cd C htab
  refine v_aload_n C 2 dL_pass_0 rfl ?_
  refine v_iconst (v := 0) C dL_pass_1 rfl ?_
  refine v_aload_n C 0 dL_pass_2 rfl ?_
  refine v_iload_n C 1 dL_pass_3 rfl ?_
  refine gox_H C (runx_V C (hM) k_399 k_1 k_396 k_397 k_398 dd_X3_pass ⟨Nat.le_of_ble_eq_true rfl, Nat.le_of_ble_eq_true rfl⟩ rcX rfl (Nat.le_of_ble_eq_true rfl) dL_pass_4 ⟨Nat.le_of_ble_eq_true rfl, Nat.le_of_ble_eq_true rfl⟩) [] ⟨0, 9, 12, 15⟩ [] (htab.trans rfl) (fun z hz => ?_) (by decide) (by decide) k_206 (fun q9 => ?_)
  · exact absurd hz (List.not_mem_nil)
  show V _ _ _ _ _ _ _ _ _ _ _ _ _ _ _ _ _ _ _ 12 _ _
  refine v_astore_n (lv' := [(3, .ref q9), (0, .ref (rX P)), (1, .int a), (2, .ref (rO P))]) C dL_pass_12 rfl (by decide) rfl ?_
  refine v_iconst (v := 1) C dL_pass_13 rfl ?_
  exact v_iret C dL_pass_14 rfl rfl
set_option maxHeartbeats 4000000 in
theorem w_rate {l : Launch} {P : L5} {D : va_G} {N F T N1 F1 T1 : Nat → Nat → Int32} {K : Nat → Int32} {A : Nat → Nat → Int32} {w : Int64} {a : Int32} {r : Int32} (hM : CtI l yX3_rate cX3_rate 2 .int 6 0 0 P D 97 97 False (cw P N F T K A w) (cw P N1 F1 T1 K A w) [.ref (rX P), .int a] r) : CtH l yL_rate cL_rate 4 [(0, 9, 12, 13)] 9 0 0 P D (cw P N F T K A w) (cw P N1 F1 T1 K A r.toInt64) [.ref (rX P), .int a, .ref (rO P)] 0 := by
  refine mk_MetH pl_L [(0, .ref (rX P)), (1, .int a), (2, .ref (rO P))] rfl (Nat.le_of_ble_eq_true rfl) ?_
  intro pg en sg mg ag bg mt cd C htab
  refine v_aload_n C 2 dL_rate_0 rfl ?_
  refine v_iconst (v := 0) C dL_rate_1 rfl ?_
  refine v_aload_n C 0 dL_rate_2 rfl ?_
  refine v_iload_n C 1 dL_rate_3 rfl ?_
  refine go_I (run_V C (hM) k_461 k_1 k_458 k_459 k_460 dd_X3_rate ⟨Nat.le_of_ble_eq_true rfl, Nat.le_of_ble_eq_true rfl⟩ rcX rfl (Nat.le_of_ble_eq_true rfl) dL_rate_4 ⟨Nat.le_of_ble_eq_true rfl, Nat.le_of_ble_eq_true rfl⟩) ?_
  refine v_i2l C dL_rate_7 ?_
  refine v_stO C dL_rate_8 ?_
  refine v_goto (tgt := 15) C dL_rate_9 (by decide) ?_
  refine v_iconst (v := 0) C dL_rate_15 rfl ?_
  exact v_iret C dL_rate_16 rfl rfl
set_option maxHeartbeats 4000000 in
theorem w_rate_1 {l : Launch} {P : L5} {D : va_G} {N F T N1 F1 T1 : Nat → Nat → Int32} {K : Nat → Int32} {A : Nat → Nat → Int32} {w : Int64} {a : Int32} (hM : CxI l yX3_rate cX3_rate 2 .int 8 P D (cw P N F T K A w) [.ref (rX P), .int a] 1) : CtH l yL_rate cL_rate 4 [(0, 9, 12, 13)] 9 1 6 P D (cw P N F T K A w) (cw P N F T K A w) [.ref (rX P), .int a, .ref (rO P)] 1 := by
  refine mk_MetH pl_L [(0, .ref (rX P)), (1, .int a), (2, .ref (rO P))] rfl (Nat.le_of_ble_eq_true rfl) ?_
  intro pg en sg mg ag bg mt cd C htab
  refine v_aload_n C 2 dL_rate_0 rfl ?_
  refine v_iconst (v := 0) C dL_rate_1 rfl ?_
  refine v_aload_n C 0 dL_rate_2 rfl ?_
  refine v_iload_n C 1 dL_rate_3 rfl ?_
  refine gox_H C (runx_V C (hM) k_461 k_1 k_458 k_459 k_460 dd_X3_rate ⟨Nat.le_of_ble_eq_true rfl, Nat.le_of_ble_eq_true rfl⟩ rcX rfl (Nat.le_of_ble_eq_true rfl) dL_rate_4 ⟨Nat.le_of_ble_eq_true rfl, Nat.le_of_ble_eq_true rfl⟩) [] ⟨0, 9, 12, 13⟩ [] (htab.trans rfl) (fun z hz => ?_) (by decide) (by decide) k_205 (fun q9 => ?_)
  · exact absurd hz (List.not_mem_nil)
  show V _ _ _ _ _ _ _ _ _ _ _ _ _ _ _ _ _ _ _ 12 _ _
  refine v_astore_n (lv' := [(3, .ref q9), (0, .ref (rX P)), (1, .int a), (2, .ref (rO P))]) C dL_rate_12 rfl (by decide) rfl ?_
  refine v_iconst (v := 1) C dL_rate_13 rfl ?_
  exact v_iret C dL_rate_14 rfl rfl
set_option maxHeartbeats 4000000 in
theorem w_when {l : Launch} {P : L5} {D : va_G} {N F T N1 F1 T1 : Nat → Nat → Int32} {K : Nat → Int32} {A : Nat → Nat → Int32} {w : Int64} {a b : Int32} {r : Int32} (hM : CtI l yX3_when cX3_when 5 .int 6 0 0 P D 97 97 False (cw P N F T K A w) (cw P N1 F1 T1 K A w) [.ref (rX P), .int a, .int b] r) : CtH l yL_when cL_when 5 [(0, 10, 13, 13), (0, 10, 17, 15)] 9 0 0 P D (cw P N F T K A w) (cw P N1 F1 T1 K A r.toInt64) [.ref (rX P), .int a, .int b, .ref (rO P)] 0 := by
  refine mk_MetH pl_L [(0, .ref (rX P)), (1, .int a), (2, .int b), (3, .ref (rO P))] rfl (Nat.le_of_ble_eq_true rfl) ?_
  intro pg en sg mg ag bg mt cd C htab
  refine v_aload_n C 3 dL_when_0 rfl ?_
  refine v_iconst (v := 0) C dL_when_1 rfl ?_
  refine v_aload_n C 0 dL_when_2 rfl ?_
  refine v_iload_n C 1 dL_when_3 rfl ?_
  refine v_iload_n C 2 dL_when_4 rfl ?_
  refine go_I (run_V C (hM) k_477 k_1 k_474 k_475 k_476 dd_X3_when ⟨Nat.le_of_ble_eq_true rfl, Nat.le_of_ble_eq_true rfl⟩ rcX rfl (Nat.le_of_ble_eq_true rfl) dL_when_5 ⟨Nat.le_of_ble_eq_true rfl, Nat.le_of_ble_eq_true rfl⟩) ?_
  refine v_i2l C dL_when_8 ?_
  refine v_stO C dL_when_9 ?_
  refine v_goto (tgt := 21) C dL_when_10 (by decide) ?_
  refine v_iconst (v := 0) C dL_when_21 rfl ?_
  exact v_iret C dL_when_22 rfl rfl
set_option maxHeartbeats 4000000 in
theorem w_when_1 {l : Launch} {P : L5} {D : va_G} {N F T N1 F1 T1 : Nat → Nat → Int32} {K : Nat → Int32} {A : Nat → Nat → Int32} {w : Int64} {a b : Int32} (hM : CxI l yX3_when cX3_when 5 .int 8 P D (cw P N F T K A w) [.ref (rX P), .int a, .int b] 1) : CtH l yL_when cL_when 5 [(0, 10, 13, 13), (0, 10, 17, 15)] 9 1 6 P D (cw P N F T K A w) (cw P N F T K A w) [.ref (rX P), .int a, .int b, .ref (rO P)] 1 := by
  refine mk_MetH pl_L [(0, .ref (rX P)), (1, .int a), (2, .int b), (3, .ref (rO P))] rfl (Nat.le_of_ble_eq_true rfl) ?_
  intro pg en sg mg ag bg mt cd C htab
  refine v_aload_n C 3 dL_when_0 rfl ?_
  refine v_iconst (v := 0) C dL_when_1 rfl ?_
  refine v_aload_n C 0 dL_when_2 rfl ?_
  refine v_iload_n C 1 dL_when_3 rfl ?_
  refine v_iload_n C 2 dL_when_4 rfl ?_
  refine gox_H C (runx_V C (hM) k_477 k_1 k_474 k_475 k_476 dd_X3_when ⟨Nat.le_of_ble_eq_true rfl, Nat.le_of_ble_eq_true rfl⟩ rcX rfl (Nat.le_of_ble_eq_true rfl) dL_when_5 ⟨Nat.le_of_ble_eq_true rfl, Nat.le_of_ble_eq_true rfl⟩) [] ⟨0, 10, 13, 13⟩ [⟨0, 10, 17, 15⟩] (htab.trans rfl) (fun z hz => ?_) (by decide) (by decide) k_205 (fun q9 => ?_)
  · exact absurd hz (List.not_mem_nil)
  show V _ _ _ _ _ _ _ _ _ _ _ _ _ _ _ _ _ _ _ 13 _ _
  refine v_astore (lv' := [(4, .ref q9), (0, .ref (rX P)), (1, .int a), (2, .int b), (3, .ref (rO P))]) C dL_when_13 (by decide) rfl ?_
  refine v_iconst (v := 1) C dL_when_15 rfl ?_
  exact v_iret C dL_when_16 rfl rfl
set_option maxHeartbeats 4000000 in
theorem w_when_2 {l : Launch} {P : L5} {D : va_G} {N F T N1 F1 T1 : Nat → Nat → Int32} {K : Nat → Int32} {A : Nat → Nat → Int32} {w : Int64} {a b : Int32} (hM : CxI l yX3_when cX3_when 5 .int 8 P D (cw P N F T K A w) [.ref (rX P), .int a, .int b] 2) : CtH l yL_when cL_when 5 [(0, 10, 13, 13), (0, 10, 17, 15)] 9 1 6 P D (cw P N F T K A w) (cw P N F T K A w) [.ref (rX P), .int a, .int b, .ref (rO P)] 2 := by
  refine mk_MetH pl_L [(0, .ref (rX P)), (1, .int a), (2, .int b), (3, .ref (rO P))] rfl (Nat.le_of_ble_eq_true rfl) ?_
  intro pg en sg mg ag bg mt cd C htab
  refine v_aload_n C 3 dL_when_0 rfl ?_
  refine v_iconst (v := 0) C dL_when_1 rfl ?_
  refine v_aload_n C 0 dL_when_2 rfl ?_
  refine v_iload_n C 1 dL_when_3 rfl ?_
  refine v_iload_n C 2 dL_when_4 rfl ?_
  refine gox_H C (runx_V C (hM) k_477 k_1 k_474 k_475 k_476 dd_X3_when ⟨Nat.le_of_ble_eq_true rfl, Nat.le_of_ble_eq_true rfl⟩ rcX rfl (Nat.le_of_ble_eq_true rfl) dL_when_5 ⟨Nat.le_of_ble_eq_true rfl, Nat.le_of_ble_eq_true rfl⟩) [⟨0, 10, 13, 13⟩] ⟨0, 10, 17, 15⟩ [] (htab.trans rfl) (fun z hz => ?_) (by decide) (by decide) k_206 (fun q9 => ?_)
  · rcases List.mem_cons.mp hz with rfl | hz; · exact Or.inr ⟨by decide, 1, k_205, by decide⟩
    exact absurd hz (List.not_mem_nil)
  show V _ _ _ _ _ _ _ _ _ _ _ _ _ _ _ _ _ _ _ 17 _ _
  refine v_astore (lv' := [(4, .ref q9), (0, .ref (rX P)), (1, .int a), (2, .int b), (3, .ref (rO P))]) C dL_when_17 (by decide) rfl ?_
  refine v_iconst (v := 2) C dL_when_19 rfl ?_
  exact v_iret C dL_when_20 rfl rfl
set_option maxHeartbeats 4000000 in
theorem w_foresee {l : Launch} {P : L5} {D : va_G} {N F T N1 F1 T1 : Nat → Nat → Int32} {K : Nat → Int32} {A : Nat → Nat → Int32} {w : Int64} {a b : Int32} {r : Int32} (hM : CtI l yX3_foresee cX3_foresee 3 .int 6 0 0 P D 97 97 False (cw P N F T K A w) (cw P N1 F1 T1 K A w) [.ref (rX P), .int a, .int b] r) : CtH l yL_foresee cL_foresee 5 [(0, 10, 13, 15), (0, 10, 17, 13)] 9 0 0 P D (cw P N F T K A w) (cw P N1 F1 T1 K A r.toInt64) [.ref (rX P), .int a, .int b, .ref (rO P)] 0 := by
  refine mk_MetH pl_L [(0, .ref (rX P)), (1, .int a), (2, .int b), (3, .ref (rO P))] rfl (Nat.le_of_ble_eq_true rfl) ?_
  intro pg en sg mg ag bg mt cd C htab
  refine v_aload_n C 3 dL_foresee_0 rfl ?_
  refine v_iconst (v := 0) C dL_foresee_1 rfl ?_
  refine v_aload_n C 0 dL_foresee_2 rfl ?_
  refine v_iload_n C 1 dL_foresee_3 rfl ?_
  refine v_iload_n C 2 dL_foresee_4 rfl ?_
  refine go_I (run_V C (hM) k_484 k_1 k_481 k_482 k_483 dd_X3_foresee ⟨Nat.le_of_ble_eq_true rfl, Nat.le_of_ble_eq_true rfl⟩ rcX rfl (Nat.le_of_ble_eq_true rfl) dL_foresee_5 ⟨Nat.le_of_ble_eq_true rfl, Nat.le_of_ble_eq_true rfl⟩) ?_
  refine v_i2l C dL_foresee_8 ?_
  refine v_stO C dL_foresee_9 ?_
  refine v_goto (tgt := 21) C dL_foresee_10 (by decide) ?_
  refine v_iconst (v := 0) C dL_foresee_21 rfl ?_
  exact v_iret C dL_foresee_22 rfl rfl
set_option maxHeartbeats 4000000 in
theorem w_foresee_2 {l : Launch} {P : L5} {D : va_G} {N F T N1 F1 T1 : Nat → Nat → Int32} {K : Nat → Int32} {A : Nat → Nat → Int32} {w : Int64} {a b : Int32} (hM : CxI l yX3_foresee cX3_foresee 3 .int 8 P D (cw P N F T K A w) [.ref (rX P), .int a, .int b] 2) : CtH l yL_foresee cL_foresee 5 [(0, 10, 13, 15), (0, 10, 17, 13)] 9 1 6 P D (cw P N F T K A w) (cw P N F T K A w) [.ref (rX P), .int a, .int b, .ref (rO P)] 1 := by
  refine mk_MetH pl_L [(0, .ref (rX P)), (1, .int a), (2, .int b), (3, .ref (rO P))] rfl (Nat.le_of_ble_eq_true rfl) ?_
  intro pg en sg mg ag bg mt cd C htab
  refine v_aload_n C 3 dL_foresee_0 rfl ?_
  refine v_iconst (v := 0) C dL_foresee_1 rfl ?_
  refine v_aload_n C 0 dL_foresee_2 rfl ?_
  refine v_iload_n C 1 dL_foresee_3 rfl ?_
  refine v_iload_n C 2 dL_foresee_4 rfl ?_
  refine gox_H C (runx_V C (hM) k_484 k_1 k_481 k_482 k_483 dd_X3_foresee ⟨Nat.le_of_ble_eq_true rfl, Nat.le_of_ble_eq_true rfl⟩ rcX rfl (Nat.le_of_ble_eq_true rfl) dL_foresee_5 ⟨Nat.le_of_ble_eq_true rfl, Nat.le_of_ble_eq_true rfl⟩) [] ⟨0, 10, 13, 15⟩ [⟨0, 10, 17, 13⟩] (htab.trans rfl) (fun z hz => ?_) (by decide) (by decide) k_206 (fun q9 => ?_)
  · exact absurd hz (List.not_mem_nil)
  show V _ _ _ _ _ _ _ _ _ _ _ _ _ _ _ _ _ _ _ 13 _ _
  refine v_astore (lv' := [(4, .ref q9), (0, .ref (rX P)), (1, .int a), (2, .int b), (3, .ref (rO P))]) C dL_foresee_13 (by decide) rfl ?_
  refine v_iconst (v := 1) C dL_foresee_15 rfl ?_
  exact v_iret C dL_foresee_16 rfl rfl
set_option maxHeartbeats 4000000 in
theorem w_foresee_1 {l : Launch} {P : L5} {D : va_G} {N F T N1 F1 T1 : Nat → Nat → Int32} {K : Nat → Int32} {A : Nat → Nat → Int32} {w : Int64} {a b : Int32} (hM : CxI l yX3_foresee cX3_foresee 3 .int 8 P D (cw P N F T K A w) [.ref (rX P), .int a, .int b] 1) : CtH l yL_foresee cL_foresee 5 [(0, 10, 13, 15), (0, 10, 17, 13)] 9 1 6 P D (cw P N F T K A w) (cw P N F T K A w) [.ref (rX P), .int a, .int b, .ref (rO P)] 2 := by
  refine mk_MetH pl_L [(0, .ref (rX P)), (1, .int a), (2, .int b), (3, .ref (rO P))] rfl (Nat.le_of_ble_eq_true rfl) ?_
  intro pg en sg mg ag bg mt cd C htab
  refine v_aload_n C 3 dL_foresee_0 rfl ?_
  refine v_iconst (v := 0) C dL_foresee_1 rfl ?_
  refine v_aload_n C 0 dL_foresee_2 rfl ?_
  refine v_iload_n C 1 dL_foresee_3 rfl ?_
  refine v_iload_n C 2 dL_foresee_4 rfl ?_
  refine gox_H C (runx_V C (hM) k_484 k_1 k_481 k_482 k_483 dd_X3_foresee ⟨Nat.le_of_ble_eq_true rfl, Nat.le_of_ble_eq_true rfl⟩ rcX rfl (Nat.le_of_ble_eq_true rfl) dL_foresee_5 ⟨Nat.le_of_ble_eq_true rfl, Nat.le_of_ble_eq_true rfl⟩) [⟨0, 10, 13, 15⟩] ⟨0, 10, 17, 13⟩ [] (htab.trans rfl) (fun z hz => ?_) (by decide) (by decide) k_205 (fun q9 => ?_)
  · rcases List.mem_cons.mp hz with rfl | hz; · exact Or.inr ⟨by decide, 2, k_206, by decide⟩
    exact absurd hz (List.not_mem_nil)
  show V _ _ _ _ _ _ _ _ _ _ _ _ _ _ _ _ _ _ _ 17 _ _
  refine v_astore (lv' := [(4, .ref q9), (0, .ref (rX P)), (1, .int a), (2, .int b), (3, .ref (rO P))]) C dL_foresee_17 (by decide) rfl ?_
  refine v_iconst (v := 2) C dL_foresee_19 rfl ?_
  exact v_iret C dL_foresee_20 rfl rfl
set_option maxHeartbeats 4000000 in
theorem w_advise {l : Launch} {P : L5} {D : va_G} {N F T N1 F1 T1 : Nat → Nat → Int32} {K : Nat → Int32} {A : Nat → Nat → Int32} {w : Int64} {a b : Int32} {r : Int32} (hM : CtI l yX3_advise cX3_advise 7 .int 6 0 0 P D 97 97 False (cw P N F T K A w) (cw P N1 F1 T1 K A w) [.ref (rX P), .int a, .int b] r) : CtH l yL_advise cL_advise 5 [(0, 10, 13, 13), (0, 10, 17, 15)] 9 0 0 P D (cw P N F T K A w) (cw P N1 F1 T1 K A r.toInt64) [.ref (rX P), .int a, .int b, .ref (rO P)] 0 := by
  refine mk_MetH pl_L [(0, .ref (rX P)), (1, .int a), (2, .int b), (3, .ref (rO P))] rfl (Nat.le_of_ble_eq_true rfl) ?_
  intro pg en sg mg ag bg mt cd C htab
  refine v_aload_n C 3 dL_advise_0 rfl ?_
  refine v_iconst (v := 0) C dL_advise_1 rfl ?_
  refine v_aload_n C 0 dL_advise_2 rfl ?_
  refine v_iload_n C 1 dL_advise_3 rfl ?_
  refine v_iload_n C 2 dL_advise_4 rfl ?_
  refine go_I (run_V C (hM) k_501 k_1 k_498 k_499 k_500 dd_X3_advise ⟨Nat.le_of_ble_eq_true rfl, Nat.le_of_ble_eq_true rfl⟩ rcX rfl (Nat.le_of_ble_eq_true rfl) dL_advise_5 ⟨Nat.le_of_ble_eq_true rfl, Nat.le_of_ble_eq_true rfl⟩) ?_
  refine v_i2l C dL_advise_8 ?_
  refine v_stO C dL_advise_9 ?_
  refine v_goto (tgt := 21) C dL_advise_10 (by decide) ?_
  refine v_iconst (v := 0) C dL_advise_21 rfl ?_
  exact v_iret C dL_advise_22 rfl rfl
set_option maxHeartbeats 4000000 in
theorem w_advise_1 {l : Launch} {P : L5} {D : va_G} {N F T N1 F1 T1 : Nat → Nat → Int32} {K : Nat → Int32} {A : Nat → Nat → Int32} {w : Int64} {a b : Int32} (hM : CxI l yX3_advise cX3_advise 7 .int 8 P D (cw P N F T K A w) [.ref (rX P), .int a, .int b] 1) : CtH l yL_advise cL_advise 5 [(0, 10, 13, 13), (0, 10, 17, 15)] 9 1 6 P D (cw P N F T K A w) (cw P N F T K A w) [.ref (rX P), .int a, .int b, .ref (rO P)] 1 := by
  refine mk_MetH pl_L [(0, .ref (rX P)), (1, .int a), (2, .int b), (3, .ref (rO P))] rfl (Nat.le_of_ble_eq_true rfl) ?_
  intro pg en sg mg ag bg mt cd C htab
  refine v_aload_n C 3 dL_advise_0 rfl ?_
  refine v_iconst (v := 0) C dL_advise_1 rfl ?_
  refine v_aload_n C 0 dL_advise_2 rfl ?_
  refine v_iload_n C 1 dL_advise_3 rfl ?_
  refine v_iload_n C 2 dL_advise_4 rfl ?_
  refine gox_H C (runx_V C (hM) k_501 k_1 k_498 k_499 k_500 dd_X3_advise ⟨Nat.le_of_ble_eq_true rfl, Nat.le_of_ble_eq_true rfl⟩ rcX rfl (Nat.le_of_ble_eq_true rfl) dL_advise_5 ⟨Nat.le_of_ble_eq_true rfl, Nat.le_of_ble_eq_true rfl⟩) [] ⟨0, 10, 13, 13⟩ [⟨0, 10, 17, 15⟩] (htab.trans rfl) (fun z hz => ?_) (by decide) (by decide) k_205 (fun q9 => ?_)
  · exact absurd hz (List.not_mem_nil)
  show V _ _ _ _ _ _ _ _ _ _ _ _ _ _ _ _ _ _ _ 13 _ _
  refine v_astore (lv' := [(4, .ref q9), (0, .ref (rX P)), (1, .int a), (2, .int b), (3, .ref (rO P))]) C dL_advise_13 (by decide) rfl ?_
  refine v_iconst (v := 1) C dL_advise_15 rfl ?_
  exact v_iret C dL_advise_16 rfl rfl
set_option maxHeartbeats 4000000 in
theorem w_advise_2 {l : Launch} {P : L5} {D : va_G} {N F T N1 F1 T1 : Nat → Nat → Int32} {K : Nat → Int32} {A : Nat → Nat → Int32} {w : Int64} {a b : Int32} (hM : CxI l yX3_advise cX3_advise 7 .int 8 P D (cw P N F T K A w) [.ref (rX P), .int a, .int b] 2) : CtH l yL_advise cL_advise 5 [(0, 10, 13, 13), (0, 10, 17, 15)] 9 1 6 P D (cw P N F T K A w) (cw P N F T K A w) [.ref (rX P), .int a, .int b, .ref (rO P)] 2 := by
  refine mk_MetH pl_L [(0, .ref (rX P)), (1, .int a), (2, .int b), (3, .ref (rO P))] rfl (Nat.le_of_ble_eq_true rfl) ?_
  intro pg en sg mg ag bg mt cd C htab
  refine v_aload_n C 3 dL_advise_0 rfl ?_
  refine v_iconst (v := 0) C dL_advise_1 rfl ?_
  refine v_aload_n C 0 dL_advise_2 rfl ?_
  refine v_iload_n C 1 dL_advise_3 rfl ?_
  refine v_iload_n C 2 dL_advise_4 rfl ?_
  refine gox_H C (runx_V C (hM) k_501 k_1 k_498 k_499 k_500 dd_X3_advise ⟨Nat.le_of_ble_eq_true rfl, Nat.le_of_ble_eq_true rfl⟩ rcX rfl (Nat.le_of_ble_eq_true rfl) dL_advise_5 ⟨Nat.le_of_ble_eq_true rfl, Nat.le_of_ble_eq_true rfl⟩) [⟨0, 10, 13, 13⟩] ⟨0, 10, 17, 15⟩ [] (htab.trans rfl) (fun z hz => ?_) (by decide) (by decide) k_206 (fun q9 => ?_)
  · rcases List.mem_cons.mp hz with rfl | hz; · exact Or.inr ⟨by decide, 1, k_205, by decide⟩
    exact absurd hz (List.not_mem_nil)
  show V _ _ _ _ _ _ _ _ _ _ _ _ _ _ _ _ _ _ _ 17 _ _
  refine v_astore (lv' := [(4, .ref q9), (0, .ref (rX P)), (1, .int a), (2, .int b), (3, .ref (rO P))]) C dL_advise_17 (by decide) rfl ?_
  refine v_iconst (v := 2) C dL_advise_19 rfl ?_
  exact v_iret C dL_advise_20 rfl rfl
