/-! THE LAW: its start, from nothing to the world -/
theorem fr_A : ∀ i, i < 4 → ∀ j, j < 5 → frF j = fA0 (5 * i + j) := by decide +kernel
theorem Inv_0 : Inv (fun _ => frN) (fun _ => frF) (fun _ _ => 0) (fun _ => 0) frA 0 0 := by
  refine ⟨by omega, rfl, rfl, rfl, fun k hk => absurd hk (by omega), fun k hk => absurd hk (by omega), fun i hi => ⟨fun j hj => fr_A i hi j hj, rfl⟩, fun k _ _ => ⟨rfl, ?_⟩⟩
  funext j
  unfold rowO
  split <;> rfl
theorem cwF_96 {P : L5} {K : Nat → Int32} {A : Nat → Nat → Int32} : cwF0 P K A 0 96 = .inl (P.2.2.2.2.1, 1, .inr (.inl (fun _ => 0))) := rfl
set_option maxHeartbeats 4000000 in
theorem law_start {p : Program} {l : Launch} {e : Env} {s : State} {m : MethodId} {below : List Frame} {meth : Method} {c : Code} {P : L5} {D : va_G} {Q : State → Prop} {b : Nat} {f : Nat → va_E} (C : Cx p l s m #[Value.ref b] meth c P D code 9 ret RL)
    (kk : V p l e room_1 s m #[Value.ref b] below meth c P D Q 9 97 False (cwF0 P (fun _ => 0) frA 0) 97 1174 23 [(4, .int (nI 0)), (3, .ref (rO P)), (2, .ref (rM P)), (1, .ref (rX P)), (0, .ref b)] []) : V p l e room_1 s m #[Value.ref b] below meth c P D Q 9 0 True f 0 0 0 [(0, .ref b)] [] := by
  refine c_new (n := 0) (ci := 3) C (r := (RX3, TX3, 3)) rfl inX3g tyX3 tyX3_ok k_14 k_15 k_1 (fs := bkX) bkX_ok (Nat.le_of_ble_eq_true rfl) (Nat.le_of_ble_eq_true rfl) dL_law_0 ?_
  refine v_dup C dL_law_3 rfl ?_
  refine go_V (n' := 90) (run_I C (c_X3_init (K := fun _ => 0) (A := frA) (w := 0) (va_up_self _ _ _)) k_18 k_1 k_16 k_17 rfl dd_X3_init ⟨(Nat.le_of_ble_eq_true rfl), (Nat.le_of_ble_eq_true rfl)⟩ rfl (Nat.le_of_ble_eq_true rfl) dL_law_4 ⟨(Nat.le_of_ble_eq_true rfl), (Nat.le_of_ble_eq_true rfl)⟩) ?_
  refine v_astore_n (lv' := [(1, .ref (rX P)), (0, .ref b)]) C dL_law_7 rfl (by decide) rfl ?_
  refine c_new (n := 90) (ci := 4) C (r := (RX4, TX4, 8)) rfl inX4g tyX4 tyX4_ok k_507 k_508 k_5 (fs := bkM) bkM_ok (Nat.le_of_ble_eq_true rfl) (Nat.le_of_ble_eq_true rfl) dL_law_8 ?_
  refine v_dup C dL_law_11 rfl ?_
  refine go_V (n' := 96) (run_I C (c_X4_init (w := 0) (va_up_self _ _ _)) k_511 k_5 k_509 k_510 rfl dd_X4_init ⟨(Nat.le_of_ble_eq_true rfl), (Nat.le_of_ble_eq_true rfl)⟩ rfl (Nat.le_of_ble_eq_true rfl) dL_law_12 ⟨(Nat.le_of_ble_eq_true rfl), (Nat.le_of_ble_eq_true rfl)⟩) ?_
  refine v_astore_n (lv' := [(2, .ref (rM P)), (1, .ref (rX P)), (0, .ref b)]) C dL_law_15 rfl (by decide) rfl ?_
  refine v_iconst (v := 1) C dL_law_16 rfl ?_
  refine c_newa (n := 96) (atype := .long) (ty := .long) (t0 := 3) (a0 := (1, .inr (.inl (fun _ => 0)))) (N' := 1) C k_705 rfl rfl (fun h => h) (fun _ => rfl) (by decide) (by decide) (by decide) (Nat.le_of_ble_eq_true rfl) (Nat.le_of_ble_eq_true rfl) dL_law_17 ?_
  refine v_astore_n (lv' := [(3, .ref (rO P)), (2, .ref (rM P)), (1, .ref (rX P)), (0, .ref b)]) C dL_law_19 rfl (by decide) rfl ?_
  refine v_iconst (v := nI 0) C dL_law_20 rfl ?_
  refine v_istore (lv' := [(4, .int (nI 0)), (3, .ref (rO P)), (2, .ref (rM P)), (1, .ref (rX P)), (0, .ref b)]) C dL_law_21 (by decide) rfl ?_
  refine c_cong (f' := cwF0 P (fun _ => 0) frA 0) (fun a ha => ?_) (v_open kk)
  by_cases h1 : a = 96
  · subst h1
    rw [va_up_self, cwF_96]
  · rw [va_up_ne _ _ h1]
    by_cases h2 : a < 90
    · rw [if_pos h2, va_up_ne _ _ (by omega)]
    · rw [if_neg h2]
