/-! THE CONSTRUCTORS OF NAILRODS AND OF THE MODEL -/
theorem z4_of {P : L5} {b : Nat} (hb : 12 ≤ b) : (.inl (P.2.1, 4, .inl (fun i => if i < 4 then frN (b + i) else 0)) : va_E) = z4 P := by
  unfold z4
  congr 4
  funext q
  split
  · show upd (upd (fun _ => 0) 6 10) 7 5 (b + q) = 0
    rw [upd_ge (by omega), upd_ge (by omega)]
  · rfl
theorem cwF_88 {P : L5} {K : Nat → Int32} {A : Nat → Nat → Int32} {w : Int64} : cwF0 P K A w 88 = z4 P := z4_of (b := 12) (by omega)
theorem cwF_89 {P : L5} {K : Nat → Int32} {A : Nat → Nat → Int32} {w : Int64} : cwF0 P K A w 89 = z4 P := z4_of (b := 16) (by omega)
theorem cwF_87 {P : L5} {K : Nat → Int32} {A : Nat → Nat → Int32} {w : Int64} : cwF0 P K A w 87 = .inr (1, frNv P 87) := rfl
theorem cwF_0 {P : L5} {K : Nat → Int32} {A : Nat → Nat → Int32} {w : Int64} : cwF0 P K A w 0 = .inr (3, [.ref (P.1 + 1), .ref (P.1 + 44), .ref (P.1 + 87)]) := rfl
set_option maxHeartbeats 4000000 in
theorem c_X3_init {l : Launch} {P : L5} {D : va_G} {K : Nat → Int32} {A : Nat → Nat → Int32} {w : Int64} {f : Nat → va_E} (hf : f 0 = .inr (3, bkX)) : CtV l yX3_init cX3_init 1 3 89 638 P D 1 90 True f (cwF0 P K A w) [.ref (P.1 + 0)] := by
  refine mk_MetI pl_X3 rfl [(0, .ref (P.1 + 0))] rfl (Nat.le_of_ble_eq_true rfl) ?_
  intro pg en sg mg ag bg mt cd C hni
  obtain ⟨g, hg⟩ : ∃ z, z = cwF0 P K A w := ⟨_, rfl⟩
  refine v_aload_n C 0 dX3_init_0 rfl ?_
  refine c_obj C k_310 k_50 k_51 (Nat.le_of_ble_eq_true rfl) (Nat.le_of_ble_eq_true rfl) dX3_init_1 ?_
  refine v_aload_n C 0 dX3_init_4 rfl ?_
  refine c_new (n := 1) (ci := 2) C (r := (RX2, TX2, 4)) rfl inX2g tyX2 tyX2_ok k_311 k_158 k_2 (fs := bkT) bkT_ok (Nat.le_of_ble_eq_true rfl) (Nat.le_of_ble_eq_true rfl) dX3_init_5 ?_
  refine v_dup C dX3_init_8 rfl ?_
  refine go_V (n' := 44) (run_IN C (c_X2_init (t := 0) (K := K) (A := A) (w := w) (by omega) (va_up_self _ _ _)) k_314 k_2 (List.mem_of_getElem? (i := 0) rfl) k_313 rfl dd_X2_init ⟨(Nat.le_of_ble_eq_true rfl), (Nat.le_of_ble_eq_true rfl)⟩ rfl (Nat.le_of_ble_eq_true rfl) dX3_init_9 ⟨(Nat.le_of_ble_eq_true rfl), (Nat.le_of_ble_eq_true rfl)⟩) ?_
  refine c_put C 0 (by omega) (r := (RX3, TX3, 3)) ((if_pos (show 0 < bT 0 by decide)).trans ((va_up_ne _ _ (by omega)).trans hf)) rfl inX3g tyX3 tyX3_ok nmX3 0 (by decide) k_426 hni rfl rfl rfl (Nat.le_of_ble_eq_true rfl) dX3_init_12 ?_
  refine v_aload_n C 0 dX3_init_15 rfl ?_
  refine c_new (n := 44) (ci := 2) C (r := (RX2, TX2, 4)) rfl inX2g tyX2 tyX2_ok k_311 k_158 k_2 (fs := bkT) bkT_ok (Nat.le_of_ble_eq_true rfl) (Nat.le_of_ble_eq_true rfl) dX3_init_16 ?_
  refine v_dup C dX3_init_19 rfl ?_
  refine go_V (n' := 87) (run_IN C (c_X2_init (t := 1) (K := K) (A := A) (w := w) (by omega) (va_up_self _ _ _)) k_314 k_2 (List.mem_of_getElem? (i := 0) rfl) k_313 rfl dd_X2_init ⟨(Nat.le_of_ble_eq_true rfl), (Nat.le_of_ble_eq_true rfl)⟩ rfl (Nat.le_of_ble_eq_true rfl) dX3_init_20 ⟨(Nat.le_of_ble_eq_true rfl), (Nat.le_of_ble_eq_true rfl)⟩) ?_
  refine c_put C 0 (by omega) (r := (RX3, TX3, 3)) ((if_pos (show 0 < bT 1 by decide)).trans ((va_up_ne _ _ (by omega)).trans (va_up_self _ _ _))) rfl inX3g tyX3 tyX3_ok nmX3 1 (by decide) k_427 hni rfl rfl rfl (Nat.le_of_ble_eq_true rfl) dX3_init_23 ?_
  refine v_aload_n C 0 dX3_init_26 rfl ?_
  refine c_new (n := 87) (ci := 1) C (r := (RX1, TX1, 14)) rfl inX1g tyX1 tyX1_ok k_424 k_141 k_3 (fs := bkN) bkN_ok (Nat.le_of_ble_eq_true rfl) (Nat.le_of_ble_eq_true rfl) dX3_init_27 ?_
  refine v_dup C dX3_init_30 rfl ?_
  refine go_V (n' := 90) (run_IN C (c_X1_init (b := 87) (va_up_self _ _ _)) k_320 k_3 (List.mem_of_getElem? (i := 3) rfl) k_319 rfl dd_X1_init ⟨(Nat.le_of_ble_eq_true rfl), (Nat.le_of_ble_eq_true rfl)⟩ rfl (Nat.le_of_ble_eq_true rfl) dX3_init_31 ⟨(Nat.le_of_ble_eq_true rfl), (Nat.le_of_ble_eq_true rfl)⟩) ?_
  refine c_put C 0 (by omega) (r := (RX3, TX3, 3)) ((va_up_ne _ _ (by omega)).trans ((va_up_ne _ _ (by omega)).trans ((va_up_ne _ _ (by omega)).trans ((va_up_ne _ _ (by omega)).trans (va_up_self _ _ _))))) rfl inX3g tyX3 tyX3_ok nmX3 2 (by decide) k_428 hni rfl rfl rfl (Nat.le_of_ble_eq_true rfl) dX3_init_34 ?_
  refine c_cong (f' := cwF0 P K A w) (fun a ha => ?_) (v_vret C dX3_init_37 rfl)
  rw [← hg]
  by_cases h0 : a = 0
  · subst h0
    rw [va_up_self, hg, cwF_0]
    rfl
  · rw [va_up_ne _ _ h0]
    by_cases h1 : a = 87
    · subst h1
      rw [va_up_ne _ _ (by omega), va_up_ne _ _ (by omega), va_up_self, hg, cwF_87]
    · by_cases h2 : a = 88
      · subst h2
        rw [va_up_ne _ _ (by omega), va_up_self, hg, cwF_88]
      · by_cases h3 : a = 89
        · subst h3
          rw [va_up_self, hg, cwF_89]
        · rw [va_up_ne _ _ (show a ≠ 87 + 2 from h3), va_up_ne _ _ (show a ≠ 87 + 1 from h2), va_up_ne _ _ h1, va_up_ne _ _ h1, va_up_ne _ _ h0]
          by_cases h4 : a < bT 1
          · rw [if_pos h4, va_up_ne _ _ (show a ≠ 44 from Nat.ne_of_lt h4), va_up_ne _ _ h0, if_neg (show ¬ a < bT 0 from fun z => h0 (Nat.lt_one_iff.mp z)), hg]
          · rw [if_neg h4, hg]
section VCi
variable {p : Program} {l : Launch} {e : Env} {R : Room} {s : State} {m : MethodId} {args : Array Value} {below : List Frame} {meth : Method} {c : Code} {P : L5} {D : va_G} {Q : State → Prop} {nL n : Nat} {f : Nat → va_E} {k z pc : Nat} {lv : List (Nat × Value)} {st : List Value} {cc : ByteArray} {ret : Option FieldType} {own : String}
theorem c_iastk (C : Cx p l s m args meth c P D cc nL ret own) (q0 t : Nat) (hq0 : q0 < n) {len : Nat} {g : Nat → Int32} (hf : f q0 = .inl (P.2.1, len, .inl g)) {i a : Int32} (hi : i = nI t) (ht : t < len) (h240 : len ≤ 240) (hdg : decode cc pc = .ok (.iastore, 1)) (kk : V p l e R s m args below meth c P D Q nL n True (va_up f q0 (.inl (P.2.1, len, .inl (upd g t a)))) k z (pc + 1) lv st) : V p l e R s m args below meth c P D Q nL n True f k z pc lv (.int a :: .int i :: .ref (P.1 + q0) :: st) := by
  subst hi
  have e0 : (nI t).toNatClampNeg = t := nI_clamp (by omega)
  refine c_iast C q0 hq0 hf (vp_in_nI ht (by omega)) hdg ?_
  rw [e0]
  exact kk
end VCi
