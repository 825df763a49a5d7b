/-! THE CONSTRUCTORS OF NAILRODS AND OF THE MODEL -/
theorem z4_of {P : L5} {b : Nat} (hb : 12 ≤ b) : (.inl (P.2.1, 4, .inl (fun i => if i < 4 then frN (b + i) else 0)) : va_E) = z4 P := by
  unfold z4
  congr 4
  funext q
  split
  · show upd (upd (fun _ => 0) 6 10) 7 5 (b + q) = 0
    rw [upd_ge (by omega), upd_ge (by omega)]
  · rfl
theorem cwF_88 {P : L5} {K : Nat → Int32} {A : Nat → Nat → Int32} {w : Int64} : cwF0 P K A w 88 = z4 P := z4_of (b := 12) (by omega)
theorem cwF_89 {P : L5} {K : Nat → Int32} {A : Nat → Nat → Int32} {w : Int64} : cwF0 P K A w 89 = z4 P := z4_of (b := 16) (by omega)
theorem cwF_87 {P : L5} {K : Nat → Int32} {A : Nat → Nat → Int32} {w : Int64} : cwF0 P K A w 87 = .inr (1, frNv P 87) := rfl
theorem cwF_0 {P : L5} {K : Nat → Int32} {A : Nat → Nat → Int32} {w : Int64} : cwF0 P K A w 0 = .inr (3, [.ref (P.1 + 1), .ref (P.1 + 44), .ref (P.1 + 87)]) := rfl
set_option maxHeartbeats 4000000 in
theorem c_X3_init {l : Launch} {P : L5} {D : va_G} {K : Nat → Int32} {A : Nat → Nat → Int32} {w : Int64} {f : Nat → va_E} (hf : f 0 = .inr (3, bkX)) : CtV l yX3_init cX3_init 1 3 89 638 P D 1 90 True f (cwF0 P K A w) [.ref (P.1 + 0)] := by
  refine mk_MetI pl_X3 rfl [(0, .ref (P.1 + 0))] rfl (Nat.le_of_ble_eq_true rfl) ?_
  intro pg en sg mg ag bg mt cd C hni
  obtain ⟨g, hg⟩ : ∃ z, z = cwF0 P K A w := ⟨_, rfl⟩
  refine v_aload_n C 0 dX3_init_0 rfl ?_
  refine c_obj C k_19 k_20 k_21 (Nat.le_of_ble_eq_true rfl) (Nat.le_of_ble_eq_true rfl) dX3_init_1 ?_
  refine v_aload_n C 0 dX3_init_4 rfl ?_
  refine c_new (n := 1) (ci := 2) C (r := (RX2, TX2, 4)) rfl inX2g tyX2 tyX2_ok k_22 k_23 k_2 (fs := bkT) bkT_ok (Nat.le_of_ble_eq_true rfl) (Nat.le_of_ble_eq_true rfl) dX3_init_5 ?_
  refine v_dup C dX3_init_8 rfl ?_
  refine go_V (n' := 44) (run_IN C (c_X2_init (t := 0) (K := K) (A := A) (w := w) (by omega) (va_up_self _ _ _)) k_26 k_2 (List.mem_of_getElem? (i := 0) rfl) k_25 rfl dd_X2_init ⟨(Nat.le_of_ble_eq_true rfl), (Nat.le_of_ble_eq_true rfl)⟩ rfl (Nat.le_of_ble_eq_true rfl) dX3_init_9 ⟨(Nat.le_of_ble_eq_true rfl), (Nat.le_of_ble_eq_true rfl)⟩) ?_
  refine c_put C 0 (by omega) (r := (RX3, TX3, 3)) ((if_pos (show 0 < bT 0 by decide)).trans ((va_up_ne _ _ (by omega)).trans hf)) rfl inX3g tyX3 tyX3_ok nmX3 0 (by decide) k_142 hni rfl rfl rfl (Nat.le_of_ble_eq_true rfl) dX3_init_12 ?_
  refine v_aload_n C 0 dX3_init_15 rfl ?_
  refine c_new (n := 44) (ci := 2) C (r := (RX2, TX2, 4)) rfl inX2g tyX2 tyX2_ok k_22 k_23 k_2 (fs := bkT) bkT_ok (Nat.le_of_ble_eq_true rfl) (Nat.le_of_ble_eq_true rfl) dX3_init_16 ?_
  refine v_dup C dX3_init_19 rfl ?_
  refine go_V (n' := 87) (run_IN C (c_X2_init (t := 1) (K := K) (A := A) (w := w) (by omega) (va_up_self _ _ _)) k_26 k_2 (List.mem_of_getElem? (i := 0) rfl) k_25 rfl dd_X2_init ⟨(Nat.le_of_ble_eq_true rfl), (Nat.le_of_ble_eq_true rfl)⟩ rfl (Nat.le_of_ble_eq_true rfl) dX3_init_20 ⟨(Nat.le_of_ble_eq_true rfl), (Nat.le_of_ble_eq_true rfl)⟩) ?_
  refine c_put C 0 (by omega) (r := (RX3, TX3, 3)) ((if_pos (show 0 < bT 1 by decide)).trans ((va_up_ne _ _ (by omega)).trans (va_up_self _ _ _))) rfl inX3g tyX3 tyX3_ok nmX3 1 (by decide) k_143 hni rfl rfl rfl (Nat.le_of_ble_eq_true rfl) dX3_init_23 ?_
  refine v_aload_n C 0 dX3_init_26 rfl ?_
  refine c_new (n := 87) (ci := 1) C (r := (RX1, TX1, 14)) rfl inX1g tyX1 tyX1_ok k_140 k_30 k_3 (fs := bkN) bkN_ok (Nat.le_of_ble_eq_true rfl) (Nat.le_of_ble_eq_true rfl) dX3_init_27 ?_
  refine v_dup C dX3_init_30 rfl ?_
  refine go_V (n' := 90) (run_IN C (c_X1_init (b := 87) (va_up_self _ _ _)) k_33 k_3 (List.mem_of_getElem? (i := 3) rfl) k_32 rfl dd_X1_init ⟨(Nat.le_of_ble_eq_true rfl), (Nat.le_of_ble_eq_true rfl)⟩ rfl (Nat.le_of_ble_eq_true rfl) dX3_init_31 ⟨(Nat.le_of_ble_eq_true rfl), (Nat.le_of_ble_eq_true rfl)⟩) ?_
  refine c_put C 0 (by omega) (r := (RX3, TX3, 3)) ((va_up_ne _ _ (by omega)).trans ((va_up_ne _ _ (by omega)).trans ((va_up_ne _ _ (by omega)).trans ((va_up_ne _ _ (by omega)).trans (va_up_self _ _ _))))) rfl inX3g tyX3 tyX3_ok nmX3 2 (by decide) k_144 hni rfl rfl rfl (Nat.le_of_ble_eq_true rfl) dX3_init_34 ?_
  refine c_cong (f' := cwF0 P K A w) (fun a ha => ?_) (v_vret C dX3_init_37 rfl)
  rw [← hg]
  by_cases h0 : a = 0
  · subst h0
    rw [va_up_self, hg, cwF_0]
    rfl
  · rw [va_up_ne _ _ h0]
    by_cases h1 : a = 87
    · subst h1
      rw [va_up_ne _ _ (by omega), va_up_ne _ _ (by omega), va_up_self, hg, cwF_87]
    · by_cases h2 : a = 88
      · subst h2
        rw [va_up_ne _ _ (by omega), va_up_self, hg, cwF_88]
      · by_cases h3 : a = 89
        · subst h3
          rw [va_up_self, hg, cwF_89]
        · rw [va_up_ne _ _ (show a ≠ 87 + 2 from h3), va_up_ne _ _ (show a ≠ 87 + 1 from h2), va_up_ne _ _ h1, va_up_ne _ _ h1, va_up_ne _ _ h0]
          by_cases h4 : a < bT 1
          · rw [if_pos h4, va_up_ne _ _ (show a ≠ 44 from Nat.ne_of_lt h4), va_up_ne _ _ h0, if_neg (show ¬ a < bT 0 from fun z => h0 (Nat.lt_one_iff.mp z)), hg]
          · rw [if_neg h4, hg]
def fA0 : Nat → Int32 := upd (upd (upd (upd (upd (upd (upd (upd (fun _ => 0) 0 20) 1 60) 5 20) 6 60) 10 20) 11 60) 15 20) 16 60
def frA (b : Nat) : Nat → Int32 := if b = 1 then fA0 else fun _ => 0
section VCi
variable {p : Program} {l : Launch} {e : Env} {R : Room} {s : State} {m : MethodId} {args : Array Value} {below : List Frame} {meth : Method} {c : Code} {P : L5} {D : va_G} {Q : State → Prop} {nL n : Nat} {f : Nat → va_E} {k z pc : Nat} {lv : List (Nat × Value)} {st : List Value} {cc : ByteArray} {ret : Option FieldType} {own : String}
theorem c_iastk (C : Cx p l s m args meth c P D cc nL ret own) (q0 t : Nat) (hq0 : q0 < n) {len : Nat} {g : Nat → Int32} (hf : f q0 = .inl (P.2.1, len, .inl g)) {i a : Int32} (hi : i = nI t) (ht : t < len) (h240 : len ≤ 240) (hdg : decode cc pc = .ok (.iastore, 1)) (kk : V p l e R s m args below meth c P D Q nL n True (va_up f q0 (.inl (P.2.1, len, .inl (upd g t a)))) k z (pc + 1) lv st) : V p l e R s m args below meth c P D Q nL n True f k z pc lv (.int a :: .int i :: .ref (P.1 + q0) :: st) := by
  subst hi
  have e0 : (nI t).toNatClampNeg = t := nI_clamp (by omega)
  refine c_iast C q0 hq0 hf (vp_in_nI ht (by omega)) hdg ?_
  rw [e0]
  exact kk
end VCi
set_option maxHeartbeats 4000000 in
theorem c_X4_init {l : Launch} {P : L5} {D : va_G} {w : Int64} {f : Nat → va_E} (hf : f 90 = .inr (4, bkM)) : CtV l yX4_init cX4_init 2 1 5 524 P D 91 96 True f (fun a => if a < 90 then f a else cwF0 P (fun _ => 0) frA w a) [.ref (P.1 + 90)] := by
  refine mk_MetI pl_X4 rfl [(0, .ref (P.1 + 90))] rfl (Nat.le_of_ble_eq_true rfl) ?_
  intro pg en sg mg ag bg mt cd C hni
  obtain ⟨g, hg⟩ : ∃ z, z = cwF0 P (fun _ => 0) frA w := ⟨_, rfl⟩
  refine v_aload_n C 0 dX4_init_0 rfl ?_
  refine c_obj C k_512 k_20 k_21 (Nat.le_of_ble_eq_true rfl) (Nat.le_of_ble_eq_true rfl) dX4_init_1 ?_
  refine v_aload_n C 0 dX4_init_4 rfl ?_
  refine v_sipush (v := 240) C dX4_init_5 rfl ?_
  refine c_newa (n := 91) (atype := .int) (ty := .int) (t0 := 0) (a0 := (240, .inl (fun _ => 0))) (N' := 240) C k_91 rfl rfl (fun h => h) (fun _ => rfl) (by decide) (by decide) (by decide) (Nat.le_of_ble_eq_true rfl) (Nat.le_of_ble_eq_true rfl) dX4_init_8 ?_
  refine c_put C 90 (by omega) (r := (RX4, TX4, 8)) ((va_up_ne _ _ (by omega)).trans hf) rfl inX4g tyX4 tyX4_ok nmX4 3 (by decide) k_516 hni rfl rfl rfl (Nat.le_of_ble_eq_true rfl) dX4_init_10 ?_
  refine v_aload_n C 0 dX4_init_13 rfl ?_
  refine v_bipush (v := 20) C dX4_init_14 rfl ?_
  refine c_newa (n := 92) (atype := .int) (ty := .int) (t0 := 0) (a0 := (20, .inl (fun _ => 0))) (N' := 20) C k_91 rfl rfl (fun h => h) (fun _ => rfl) (by decide) (by decide) (by decide) (Nat.le_of_ble_eq_true rfl) (Nat.le_of_ble_eq_true rfl) dX4_init_16 ?_
  refine c_put C 90 (by omega) (r := (RX4, TX4, 8)) ((va_up_ne _ _ (by omega)).trans (va_up_self _ _ _)) rfl inX4g tyX4 tyX4_ok nmX4 4 (by decide) k_517 hni rfl rfl rfl (Nat.le_of_ble_eq_true rfl) dX4_init_18 ?_
  refine v_aload_n C 0 dX4_init_21 rfl ?_
  refine v_sipush (v := 240) C dX4_init_22 rfl ?_
  refine c_newa (n := 93) (atype := .int) (ty := .int) (t0 := 0) (a0 := (240, .inl (fun _ => 0))) (N' := 240) C k_91 rfl rfl (fun h => h) (fun _ => rfl) (by decide) (by decide) (by decide) (Nat.le_of_ble_eq_true rfl) (Nat.le_of_ble_eq_true rfl) dX4_init_25 ?_
  refine c_put C 90 (by omega) (r := (RX4, TX4, 8)) ((va_up_ne _ _ (by omega)).trans (va_up_self _ _ _)) rfl inX4g tyX4 tyX4_ok nmX4 5 (by decide) k_518 hni rfl rfl rfl (Nat.le_of_ble_eq_true rfl) dX4_init_27 ?_
  refine v_aload_n C 0 dX4_init_30 rfl ?_
  refine v_bipush (v := 20) C dX4_init_31 rfl ?_
  refine c_newa (n := 94) (atype := .int) (ty := .int) (t0 := 0) (a0 := (20, .inl (fun _ => 0))) (N' := 20) C k_91 rfl rfl (fun h => h) (fun _ => rfl) (by decide) (by decide) (by decide) (Nat.le_of_ble_eq_true rfl) (Nat.le_of_ble_eq_true rfl) dX4_init_33 ?_
  refine c_put C 90 (by omega) (r := (RX4, TX4, 8)) ((va_up_ne _ _ (by omega)).trans (va_up_self _ _ _)) rfl inX4g tyX4 tyX4_ok nmX4 6 (by decide) k_519 hni rfl rfl rfl (Nat.le_of_ble_eq_true rfl) dX4_init_35 ?_
  refine v_aload_n C 0 dX4_init_38 rfl ?_
  refine v_iconst (v := 4) C dX4_init_39 rfl ?_
  refine c_newa (n := 95) (atype := .int) (ty := .int) (t0 := 0) (a0 := (4, .inl (fun _ => 0))) (N' := 4) C k_91 rfl rfl (fun h => h) (fun _ => rfl) (by decide) (by decide) (by decide) (Nat.le_of_ble_eq_true rfl) (Nat.le_of_ble_eq_true rfl) dX4_init_40 ?_
  refine c_put C 90 (by omega) (r := (RX4, TX4, 8)) ((va_up_ne _ _ (by omega)).trans (va_up_self _ _ _)) rfl inX4g tyX4 tyX4_ok nmX4 7 (by decide) k_520 hni rfl rfl rfl (Nat.le_of_ble_eq_true rfl) dX4_init_42 ?_
  have E52 : V pg l en (rmO 1 5 524) sg mg ag bg mt cd P D (MQ bg (QcV P D 96 True (fun a => if a < 90 then f a else cwF0 P (fun _ => 0) frA w a)) ag sg 5 524 (aO P)) 2 96 True (va_up (fun a => if a < 90 then f a else g a) 92 (.inl (P.2.1, 20, .inl (fun _ => 0)))) 5 524 45 [(0, .ref (P.1 + 90))] [] := by
    refine v_iconst (v := 0) C dX4_init_45 rfl ?_
    refine v_istore_n (lv' := [(1, .int 0), (0, .ref (P.1 + 90))]) C dX4_init_46 rfl (by decide) rfl ?_
    refine v_iload_n C 0 dX4_init_47 rfl ?_
    refine v_iconst (v := 4) C dX4_init_48 rfl ?_
    refine v_icmp_ge (tgt := 82) C dX4_init_49 (by decide) (fun h9 => absurd h9 (by decide)) (fun _ => ?_)
    refine v_aload_n C 1 dX4_init_52 rfl ?_
    refine c_get C 90 (by omega) (ci := 4) (r := (RX4, TX4, 8)) (fs := mF P (fun _ => 0)) ((va_up_ne _ _ (by omega)).trans ((if_neg (by omega)).trans (by rw [hg]; rfl))) rfl inX4g 4 (by decide) k_517 rfl dX4_init_53 ?_
    refine v_iconst (v := 5) C dX4_init_56 rfl ?_
    refine v_iload_n C 0 dX4_init_57 rfl ?_
    refine v_imul C dX4_init_58 ?_
    refine v_iconst (v := 0) C dX4_init_59 rfl ?_
    refine v_iadd C dX4_init_60 ?_
    refine v_bipush (v := 20) C dX4_init_61 rfl ?_
    refine c_iastk C 92 0 (by omega) (va_up_self _ _ _) (by decide) (by decide) (by decide) dX4_init_63 ?_
    rw [va_up_two]
    refine v_aload_n C 1 dX4_init_64 rfl ?_
    refine c_get C 90 (by omega) (ci := 4) (r := (RX4, TX4, 8)) (fs := mF P (fun _ => 0)) ((va_up_ne _ _ (by omega)).trans ((if_neg (by omega)).trans (by rw [hg]; rfl))) rfl inX4g 4 (by decide) k_517 rfl dX4_init_65 ?_
    refine v_iconst (v := 5) C dX4_init_68 rfl ?_
    refine v_iload_n C 0 dX4_init_69 rfl ?_
    refine v_imul C dX4_init_70 ?_
    refine v_iconst (v := 1) C dX4_init_71 rfl ?_
    refine v_iadd C dX4_init_72 ?_
    refine v_bipush (v := 60) C dX4_init_73 rfl ?_
    refine c_iastk C 92 1 (by omega) (va_up_self _ _ _) (by decide) (by decide) (by decide) dX4_init_75 ?_
    rw [va_up_two]
    refine v_iinc (b := 1) (lv' := [(1, .int 1), (0, .ref (P.1 + 90))]) C 0 dX4_init_76 rfl rfl (by decide) rfl ?_
    refine v_goto (tgt := 47) C dX4_init_79 (by decide) ?_
    refine v_iload_n C 0 dX4_init_47 rfl ?_
    refine v_iconst (v := 4) C dX4_init_48 rfl ?_
    refine v_icmp_ge (tgt := 82) C dX4_init_49 (by decide) (fun h9 => absurd h9 (by decide)) (fun _ => ?_)
    refine v_aload_n C 1 dX4_init_52 rfl ?_
    refine c_get C 90 (by omega) (ci := 4) (r := (RX4, TX4, 8)) (fs := mF P (fun _ => 0)) ((va_up_ne _ _ (by omega)).trans ((if_neg (by omega)).trans (by rw [hg]; rfl))) rfl inX4g 4 (by decide) k_517 rfl dX4_init_53 ?_
    refine v_iconst (v := 5) C dX4_init_56 rfl ?_
    refine v_iload_n C 0 dX4_init_57 rfl ?_
    refine v_imul C dX4_init_58 ?_
    refine v_iconst (v := 0) C dX4_init_59 rfl ?_
    refine v_iadd C dX4_init_60 ?_
    refine v_bipush (v := 20) C dX4_init_61 rfl ?_
    refine c_iastk C 92 5 (by omega) (va_up_self _ _ _) (by decide) (by decide) (by decide) dX4_init_63 ?_
    rw [va_up_two]
    refine v_aload_n C 1 dX4_init_64 rfl ?_
    refine c_get C 90 (by omega) (ci := 4) (r := (RX4, TX4, 8)) (fs := mF P (fun _ => 0)) ((va_up_ne _ _ (by omega)).trans ((if_neg (by omega)).trans (by rw [hg]; rfl))) rfl inX4g 4 (by decide) k_517 rfl dX4_init_65 ?_
    refine v_iconst (v := 5) C dX4_init_68 rfl ?_
    refine v_iload_n C 0 dX4_init_69 rfl ?_
    refine v_imul C dX4_init_70 ?_
    refine v_iconst (v := 1) C dX4_init_71 rfl ?_
    refine v_iadd C dX4_init_72 ?_
    refine v_bipush (v := 60) C dX4_init_73 rfl ?_
    refine c_iastk C 92 6 (by omega) (va_up_self _ _ _) (by decide) (by decide) (by decide) dX4_init_75 ?_
    rw [va_up_two]
    refine v_iinc (b := 2) (lv' := [(1, .int 2), (0, .ref (P.1 + 90))]) C 0 dX4_init_76 rfl rfl (by decide) rfl ?_
    refine v_goto (tgt := 47) C dX4_init_79 (by decide) ?_
    refine v_iload_n C 0 dX4_init_47 rfl ?_
    refine v_iconst (v := 4) C dX4_init_48 rfl ?_
    refine v_icmp_ge (tgt := 82) C dX4_init_49 (by decide) (fun h9 => absurd h9 (by decide)) (fun _ => ?_)
    refine v_aload_n C 1 dX4_init_52 rfl ?_
    refine c_get C 90 (by omega) (ci := 4) (r := (RX4, TX4, 8)) (fs := mF P (fun _ => 0)) ((va_up_ne _ _ (by omega)).trans ((if_neg (by omega)).trans (by rw [hg]; rfl))) rfl inX4g 4 (by decide) k_517 rfl dX4_init_53 ?_
    refine v_iconst (v := 5) C dX4_init_56 rfl ?_
    refine v_iload_n C 0 dX4_init_57 rfl ?_
    refine v_imul C dX4_init_58 ?_
    refine v_iconst (v := 0) C dX4_init_59 rfl ?_
    refine v_iadd C dX4_init_60 ?_
    refine v_bipush (v := 20) C dX4_init_61 rfl ?_
    refine c_iastk C 92 10 (by omega) (va_up_self _ _ _) (by decide) (by decide) (by decide) dX4_init_63 ?_
    rw [va_up_two]
    refine v_aload_n C 1 dX4_init_64 rfl ?_
    refine c_get C 90 (by omega) (ci := 4) (r := (RX4, TX4, 8)) (fs := mF P (fun _ => 0)) ((va_up_ne _ _ (by omega)).trans ((if_neg (by omega)).trans (by rw [hg]; rfl))) rfl inX4g 4 (by decide) k_517 rfl dX4_init_65 ?_
    refine v_iconst (v := 5) C dX4_init_68 rfl ?_
    refine v_iload_n C 0 dX4_init_69 rfl ?_
    refine v_imul C dX4_init_70 ?_
    refine v_iconst (v := 1) C dX4_init_71 rfl ?_
    refine v_iadd C dX4_init_72 ?_
    refine v_bipush (v := 60) C dX4_init_73 rfl ?_
    refine c_iastk C 92 11 (by omega) (va_up_self _ _ _) (by decide) (by decide) (by decide) dX4_init_75 ?_
    rw [va_up_two]
    refine v_iinc (b := 3) (lv' := [(1, .int 3), (0, .ref (P.1 + 90))]) C 0 dX4_init_76 rfl rfl (by decide) rfl ?_
    refine v_goto (tgt := 47) C dX4_init_79 (by decide) ?_
    refine v_iload_n C 0 dX4_init_47 rfl ?_
    refine v_iconst (v := 4) C dX4_init_48 rfl ?_
    refine v_icmp_ge (tgt := 82) C dX4_init_49 (by decide) (fun h9 => absurd h9 (by decide)) (fun _ => ?_)
    refine v_aload_n C 1 dX4_init_52 rfl ?_
    refine c_get C 90 (by omega) (ci := 4) (r := (RX4, TX4, 8)) (fs := mF P (fun _ => 0)) ((va_up_ne _ _ (by omega)).trans ((if_neg (by omega)).trans (by rw [hg]; rfl))) rfl inX4g 4 (by decide) k_517 rfl dX4_init_53 ?_
    refine v_iconst (v := 5) C dX4_init_56 rfl ?_
    refine v_iload_n C 0 dX4_init_57 rfl ?_
    refine v_imul C dX4_init_58 ?_
    refine v_iconst (v := 0) C dX4_init_59 rfl ?_
    refine v_iadd C dX4_init_60 ?_
    refine v_bipush (v := 20) C dX4_init_61 rfl ?_
    refine c_iastk C 92 15 (by omega) (va_up_self _ _ _) (by decide) (by decide) (by decide) dX4_init_63 ?_
    rw [va_up_two]
    refine v_aload_n C 1 dX4_init_64 rfl ?_
    refine c_get C 90 (by omega) (ci := 4) (r := (RX4, TX4, 8)) (fs := mF P (fun _ => 0)) ((va_up_ne _ _ (by omega)).trans ((if_neg (by omega)).trans (by rw [hg]; rfl))) rfl inX4g 4 (by decide) k_517 rfl dX4_init_65 ?_
    refine v_iconst (v := 5) C dX4_init_68 rfl ?_
    refine v_iload_n C 0 dX4_init_69 rfl ?_
    refine v_imul C dX4_init_70 ?_
    refine v_iconst (v := 1) C dX4_init_71 rfl ?_
    refine v_iadd C dX4_init_72 ?_
    refine v_bipush (v := 60) C dX4_init_73 rfl ?_
    refine c_iastk C 92 16 (by omega) (va_up_self _ _ _) (by decide) (by decide) (by decide) dX4_init_75 ?_
    rw [va_up_two]
    refine v_iinc (b := 4) (lv' := [(1, .int 4), (0, .ref (P.1 + 90))]) C 0 dX4_init_76 rfl rfl (by decide) rfl ?_
    refine v_goto (tgt := 47) C dX4_init_79 (by decide) ?_
    refine v_iload_n C 0 dX4_init_47 rfl ?_
    refine v_iconst (v := 4) C dX4_init_48 rfl ?_
    refine v_icmp_ge (tgt := 82) C dX4_init_49 (by decide) (fun _ => ?_) (fun h9 => absurd (by decide) h9)
    refine c_cong (f' := fun a => if a < 90 then f a else cwF0 P (fun _ => 0) frA w a) (fun a ha => ?_) (v_lv [] rfl (v_vret C dX4_init_82 rfl))
    show _ = if a < 90 then f a else cwF0 P (fun _ => 0) frA w a
    by_cases h1 : a = 92
    · subst h1
      rw [va_up_self, if_neg (by omega)]
      rfl
    · rw [va_up_ne _ _ h1, hg]
  refine c_cong (fun a ha => ?_) E52
  by_cases h0 : a = 92
  · subst h0
    rw [va_up_self, va_up_ne _ _ (by omega), va_up_ne _ _ (by omega), va_up_ne _ _ (by omega), va_up_ne _ _ (by omega), va_up_ne _ _ (by omega), va_up_ne _ _ (by omega), va_up_ne _ _ (by omega), va_up_self]
  · rw [va_up_ne (fun a => if a < 90 then f a else g a) _ h0]
    by_cases h1 : a = 90
    · subst h1
      rw [va_up_self, hg]
      rfl
    · by_cases h2 : a = 91
      · subst h2
        rw [va_up_ne _ _ (by omega), va_up_ne _ _ (by omega), va_up_ne _ _ (by omega), va_up_ne _ _ (by omega), va_up_ne _ _ (by omega), va_up_ne _ _ (by omega), va_up_ne _ _ (by omega), va_up_ne _ _ (by omega), va_up_ne _ _ (by omega), va_up_self, hg]
        rfl
      · by_cases h3 : a = 93
        · subst h3
          rw [va_up_ne _ _ (by omega), va_up_ne _ _ (by omega), va_up_ne _ _ (by omega), va_up_ne _ _ (by omega), va_up_ne _ _ (by omega), va_up_self, hg]
          rfl
        · by_cases h4 : a = 94
          · subst h4
            rw [va_up_ne _ _ (by omega), va_up_ne _ _ (by omega), va_up_ne _ _ (by omega), va_up_self, hg]
            rfl
          · by_cases h5 : a = 95
            · subst h5
              rw [va_up_ne _ _ (by omega), va_up_self, hg]
              rfl
            · rw [va_up_ne _ _ h1, va_up_ne _ _ h5, va_up_ne _ _ h1, va_up_ne _ _ h4, va_up_ne _ _ h1, va_up_ne _ _ h3, va_up_ne _ _ h1, va_up_ne _ _ h0, va_up_ne _ _ h1, va_up_ne _ _ h2]
              show f a = if a < 90 then f a else g a
              rw [if_pos (by omega)]
