/-! THE LAW, from its entry -/
theorem law_known {p : Program} {s : State} {m : MethodId} {meth : Method} {c : Code} {b L : Nat} {xs : Nat → Int32} (hL : L ≤ 260) (C0 : lw_At p s m meth c b L xs) : ∃ (P : L5) (D : va_G), P.1 = s.heap.size ∧ P.2.2.2.2.1 = false ∧ rS P 5 = b ∧ va_K D vwCl (tyP P) s ∧ ST P s := by
  obtain ⟨-, -, -, -, -, hts, hX, hbl, -, hgv⟩ := C0
  have hs := flat_of_before _ hgv
  have hg : ∀ w ∈ gtb, w.before #[Value.ref b] s = true := gtb_hts hts
  obtain ⟨c0, i0, hK0⟩ := u_known (C := RX0) (T := TX0) (N := 6) (n := 6) hg inX0g (hg _ k_234)
  obtain ⟨c1, i1, hK1⟩ := u_known (C := RX1) (T := TX1) (N := 14) (n := 14) hg inX1g (hg _ k_141)
  obtain ⟨c2, i2, hK2⟩ := u_known (C := RX2) (T := TX2) (N := 4) (n := 4) hg inX2g (hg _ k_158)
  obtain ⟨c3, i3, hK3⟩ := u_known (C := RX3) (T := TX3) (N := 3) (n := 3) hg inX3g (hg _ k_19)
  obtain ⟨aI, hI1, hI2⟩ := arr_of (fun C h => by cases h) (hg _ k_376)
  have oN : (Cond.arrayOver (.object RX1)).before #[Value.ref b] s = true := hts _ (ltw2 77 (by decide +kernel))
  have oF : (Cond.arrayOver (.object RX0)).before #[Value.ref b] s = true := hts _ (ltw2 138 (by decide +kernel))
  obtain ⟨aN, hN1, hN2⟩ := arr_ob oN
  obtain ⟨aF, hF1, hF2⟩ := arr_ob oF
  have hA : ∀ a : Nat, a < s.heap.size → ¬ (fun a => s.heap.size ≤ a) a := fun a h => Nat.not_le.mpr h
  have hst : ∀ b9 : Nat, ∃ t : Nat, ∀ q, stQ[b9]? = some q → va_Z q.1 q.2.1 "[I" (.ref t) (fun a => s.heap.size ≤ a) s s.heap ∧ va_T .int t 4 (fun j => .int (q.2.2 j)) (fun a => s.heap.size ≤ a) s s.heap := by
    intro b9
    cases hq : stQ[b9]? with
    | none => exact ⟨0, fun q h => by cases h⟩
    | some q =>
      obtain ⟨-, h1, h2, h3, h4, h5⟩ := stQ_in b9 q hq
      obtain ⟨t, ht, hT⟩ := va_Tof (f := fun j => .int (q.2.2 j)) (A := fun a => s.heap.size ≤ a) (N := 4) (by decide) (hs _ h3) (va_eqt (hs _ h4)) (fun j hj => va_eqt (hs _ (h5 j hj))) hA
      refine ⟨t, fun q' h' => ?_⟩
      cases h'
      exact ⟨va_Zof (hts _ h1) (hts _ h2) ht hA, hT⟩
  obtain ⟨S, hS⟩ := Classical.axiomOfChoice hst
  refine ⟨(s.heap.size, aI, aN, aF, false, fun j => if j = 5 then b else if j = 6 then L else S j), (fun k => match k with | 0 => c0 | 1 => c1 | 2 => c2 | _ => c3, fun k => match k with | 0 => i0 | 1 => i1 | 2 => i2 | _ => i3), rfl, rfl, rfl, ⟨fun k q hq => ?_, fun k q hq => ?_⟩, ?_⟩
  · match k, hq with
    | 0, hq => cases hq; exact hK0
    | 1, hq => cases hq; exact hK1
    | 2, hq => cases hq; exact hK2
    | 3, hq => cases hq; exact hK3
    | k + 4, hq => simp at hq
  · match k, hq with
    | 0, hq => cases hq; exact ⟨hI1, hI2⟩
    | 1, hq => cases hq; exact ⟨hN1, hN2⟩
    | 2, hq => cases hq; exact ⟨hF1, hF2⟩
    | k + 3, hq => simp [tyP] at hq
  · refine ⟨fun b9 q hq => ?_, ⟨xs, hX⟩, ⟨hL, hbl⟩, fun q hq => va_Nw.of rfl (hts _ (nwF_in q hq)), fun q hq => va_Nw.of rfl (hts _ (nwM_in q hq)), ⟨va_AO.of oN, va_AO.of oF⟩, trivial⟩
    have hb := (stQ_in b9 q hq).1
    have e : (if b9 = 5 then b else if b9 = 6 then L else S b9) = S b9 := by rw [if_neg (by omega), if_neg (by omega)]
    show va_Z q.1 q.2.1 "[I" (.ref (if b9 = 5 then b else if b9 = 6 then L else S b9)) (fun a => s.heap.size ≤ a) s s.heap ∧ va_T .int (if b9 = 5 then b else if b9 = 6 then L else S b9) 4 (fun j => .int (q.2.2 j)) (fun a => s.heap.size ≤ a) s s.heap
    rw [e]
    exact hS b9 q hq
section LawPre
variable {p : Program} {l : Launch} {e : Env} {s : State} {m : MethodId} {below : List Frame} {meth : Method} {c : Code} {P : L5} {D : va_G} {Q : State → Prop} {N F T : Nat → Nat → Int32} {K : Nat → Int32} {A : Nat → Nat → Int32} {w : Int64} {i : Nat}
set_option maxHeartbeats 4000000 in
theorem law_pre (C : Cx p l s m #[Value.ref (rS P 5)] meth c P D code 14 ret RL) (hfl : P.2.2.2.2.1 = true) (hM : MkI N F T) (hend : ∀ (N F T A : Nat → Nat → Int32), V p l e room_1 s m #[Value.ref (rS P 5)] below meth c P D Q 14 (nW P) False (cw P N F T K A w) 91 644 593 [(3, .int (nI 14)), (2, .ref (rA P 0)), (1, .ref (rX P)), (0, .ref (rS P 5))] []) : V p l e room_1 s m #[Value.ref (rS P 5)] below meth c P D Q 14 (nW P) False (cw P N F T K A w) 91 644 8 [(1, .ref (rX P)), (0, .ref (rS P 5))] [.ref (rA P 0)] := by
  refine v_dup C dL_law_8 rfl ?_
  refine v_iconst (v := nI 0) C dL_law_9 rfl ?_
  refine v_aload_n C 0 dL_law_10 rfl ?_
  refine v_iconst (v := nI 0) C dL_law_11 rfl ?_
  refine v_iconst (v := 3) C dL_law_12 rfl ?_
  refine go_I (run_V C (t_told_3 (k := 0) hM.1.1 (by omega) (by omega)) k_137 k_1 k_134 k_135 k_136 dd_X3_told ⟨Nat.le_of_ble_eq_true rfl, Nat.le_of_ble_eq_true rfl⟩ rcX rfl (Nat.le_of_ble_eq_true rfl) dL_law_13 ⟨Nat.le_of_ble_eq_true rfl, Nat.le_of_ble_eq_true rfl⟩) ?_
  refine v_stE C hfl 0 rfl (by omega) dL_law_16 ?_
  refine v_dup C dL_law_17 rfl ?_
  refine v_iconst (v := nI 1) C dL_law_18 rfl ?_
  refine v_aload_n C 0 dL_law_19 rfl ?_
  refine v_iconst (v := nI 1) C dL_law_20 rfl ?_
  refine v_iconst (v := 3) C dL_law_21 rfl ?_
  refine go_I (run_V C (t_told_3 (k := 1) hM.1.1 (by omega) (by omega)) k_137 k_1 k_134 k_135 k_136 dd_X3_told ⟨Nat.le_of_ble_eq_true rfl, Nat.le_of_ble_eq_true rfl⟩ rcX rfl (Nat.le_of_ble_eq_true rfl) dL_law_22 ⟨Nat.le_of_ble_eq_true rfl, Nat.le_of_ble_eq_true rfl⟩) ?_
  refine v_stE C hfl 1 rfl (by omega) dL_law_25 ?_
  refine v_dup C dL_law_26 rfl ?_
  refine v_iconst (v := nI 2) C dL_law_27 rfl ?_
  refine v_aload_n C 0 dL_law_28 rfl ?_
  refine v_iconst (v := nI 2) C dL_law_29 rfl ?_
  refine v_iconst (v := 3) C dL_law_30 rfl ?_
  refine go_I (run_V C (t_told_3 (k := 2) hM.1.1 (by omega) (by omega)) k_137 k_1 k_134 k_135 k_136 dd_X3_told ⟨Nat.le_of_ble_eq_true rfl, Nat.le_of_ble_eq_true rfl⟩ rcX rfl (Nat.le_of_ble_eq_true rfl) dL_law_31 ⟨Nat.le_of_ble_eq_true rfl, Nat.le_of_ble_eq_true rfl⟩) ?_
  refine v_stE C hfl 2 rfl (by omega) dL_law_34 ?_
  refine v_astore_n (lv' := [(2, .ref (rA P 0)), (1, .ref (rX P)), (0, .ref (rS P 5))]) C dL_law_35 rfl (by decide) rfl ?_
  refine v_iconst (v := nI 0) C dL_law_36 rfl ?_
  refine v_istore_n (lv' := [(3, .int (nI 0)), (2, .ref (rA P 0)), (1, .ref (rX P)), (0, .ref (rS P 5))]) C dL_law_37 rfl (by decide) rfl ?_
  refine law_loop C hfl hend 14 0 N F T _ (by omega) (MkI_LI hM ?_ ?_ ?_)
  · rw [va_up_self, upd_ge (by omega), va_up_self, upd_ge (by omega), va_up_self, upd_at]
  · rw [va_up_self, upd_ge (by omega), va_up_self, upd_at]
  · rw [va_up_self, upd_at]
end LawPre
set_option maxHeartbeats 4000000 in
/-- from the entry, for every script of at most 260 ints, the law comes to its end with true -/
theorem whole_start {p : Program} {e : Env} {s : State} {m : MethodId} {below : List Frame} {meth : Method} {c : Code} (l : Launch) (hflags : l.flags = flags0) {b L : Nat} {xs : Nat → Int32} (hL : L ≤ 260) (C0 : lw_At p s m meth c b L xs) : W p l e room_1 s m #[Value.ref b] below meth c s.heap [] 0 0 (lw_Z below #[Value.ref b] s) (entryFrame m ([Value.ref b] : List Value).toArray 14) := by
  obtain ⟨P, D, hP1, hfl, hb5, hK, hST⟩ := law_known hL C0
  subst hb5
  obtain ⟨hx, hb, hr, hml, hown, hts, hX, hbl, hlocks, -⟩ := id C0
  have C : Cx p l s m #[Value.ref (rS P 5)] meth c P D code 14 ret RL := ⟨hx, hb, hml, hown, gtb_hts hts, hr, hlocks, hK, by rw [hP1]; exact Nat.le_refl _, hST⟩
  have hl := lv_entry ([.ref (rS P 5)]) (n := 14) (Nat.le_of_ble_eq_true rfl)
  rw [lg_entry_eq]
  generalize (lg_sl ([.ref (rS P 5)]) ++ List.replicate (14 - (lg_sl ([.ref (rS P 5)])).length) Slot.unset).toArray = ls at hl ⊢
  have hl : lv_has ls 14 [(0, .ref (rS P 5))] := hl
  have J : V p l e room_1 s m #[Value.ref (rS P 5)] below meth c P D (lw_Z below #[Value.ref (rS P 5)] s) 14 0 True (cwF0 P (fun _ => 0) (fun _ _ => 0) 0) 0 0 0 [(0, .ref (rS P 5))] [] := by
    refine v_aload_n C 0 dL_law_0 rfl ?_
    refine go_M (run_S C (c_L_makers (K := fun _ => 0) (A := fun _ _ => 0) (w := 0) hfl) k_305 k_0 k_303 k_304 dd_L_makers ⟨Nat.le_of_ble_eq_true rfl, Nat.le_of_ble_eq_true rfl⟩ rfl (Nat.le_of_ble_eq_true rfl) dL_law_1 ⟨Nat.le_of_ble_eq_true rfl, Nat.le_of_ble_eq_true rfl⟩) (fun N F T hM => ?_)
    refine v_astore_n (lv' := [(1, .ref (rX P)), (0, .ref (rS P 5))]) C dL_law_4 rfl (by decide) rfl ?_
    refine c_n (nW_f hfl) ?_
    refine v_size hP1.symm rfl (by omega) ?_
    refine v_iconst (v := 3) C dL_law_5 rfl ?_
    refine c_newa (n := 90) (atype := .int) (ty := .int) (t0 := 0) (a0 := (3, .inl (fun _ => 0))) (N' := 3) C k_376 rfl rfl (fun h => h) (fun _ => rfl) (by decide) (by decide) (by decide) (Nat.le_of_ble_eq_true rfl) (Nat.le_of_ble_eq_true rfl) dL_law_6 ?_
    refine c_cong (f' := cw P N F T (fun _ => 0) (fun _ _ => 0) 0) (fun a ha => ?_) (v_open ?_)
    · by_cases h9 : a = 90
      · subst h9
        rw [va_up_self]
        rfl
      · rw [va_up_ne _ _ h9]
    · refine v_flag (b := true) ?_
      refine c_n (n' := nW (setF P true)) rfl ?_
      refine v_eq (f' := cw (setF P true) N F T (fun _ => 0) (fun _ _ => 0) 0) rfl ?_
      have z := law_pre (P := setF P true) (e := e) (below := below) (Q := lw_Z below #[Value.ref (rS P 5)] s) (K := fun _ => 0) (w := 0) (A := fun _ _ => 0) (Cx.flag C) rfl hM (fun N F T A => v_iconst (v := 1) (Cx.flag C) dL_law_593 rfl (v_end (Cx.flag C) (by show s.heap.size ≤ P.1; rw [hP1]; exact Nat.le_refl _) (Nat.le_of_ble_eq_true rfl) (Nat.le_of_ble_eq_true rfl) dL_law_594))
      exact z
  exact J s.heap [] ls (fun k q hq => by simp [wl] at hq) (fun _ => hP1.symm) va_S.rf hl
