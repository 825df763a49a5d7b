/-! THE CONSTRUCTOR OF TRADE -/
section VN
variable {p : Program} {l : Launch} {e : Env} {R : Room} {s : State} {m : MethodId} {args : Array Value} {below : List Frame} {meth : Method} {c : Code} {P : L5} {D : va_G} {Q : State → Prop} {nL n : Nat} {f : Nat → va_E} {k z pc : Nat} {lv : List (Nat × Value)} {st : List Value} {x : Prop}
theorem c_n {n' : Nat} (h : n = n') (kk : V p l e R s m args below meth c P D Q nL n' x f k z pc lv st) : V p l e R s m args below meth c P D Q nL n x f k z pc lv st := by subst h; exact kk
end VN
theorem cellq_cong {cI : ClassId} {N : Nat} {f g : Nat → Option Nat} (h : ∀ j, j < N → f j = g j) : vp_cell cI (N, .inr (.inr (.inr (.inr f)))) = vp_cell cI (N, .inr (.inr (.inr (.inr g)))) := by
  rw [vp_cell_q, vp_cell_q]
  exact arrV_cong fun j hj => by rw [h j hj]
theorem nrI_0 {P : L5} {t : Nat} : nrI P t 0 = .inl (P.2.2.1, 12, .inr (.inr (.inr (.inr (fun _ => none))))) := rfl
theorem frI_0 {P : L5} {t : Nat} : frI P t 0 = .inl (P.2.2.2.1, 4, .inr (.inr (.inr (.inr (fun _ => none))))) := rfl
theorem nrI_s {P : L5} {t i : Nat} (ht : t < 2) (hi : i < 12) : (.inl (P.2.2.1, 12, .inr (.inr (.inr (.inr (va_up (fun k => if k < i then some (rN P (12 * t + k)) else none) (nI i).toNatClampNeg (some (P.1 + (bT t + 2 + 3 * i)))))))) : va_E) = nrI P t (i + 1) := by
  unfold nrI
  congr 7
  funext k
  rw [nI_clamp (by omega)]
  by_cases h : k = i
  · subst h
    rw [va_up_self, if_pos (by omega)]
    unfold rN
    rw [nA_t ht hi]
  · rw [va_up_ne _ _ h]
    by_cases h2 : k < i
    · rw [if_pos h2, if_pos (by omega)]
    · rw [if_neg h2, if_neg (by omega)]
theorem frI_s {P : L5} {t i : Nat} (ht : t < 2) (hi : i < 4) : (.inl (P.2.2.2.1, 4, .inr (.inr (.inr (.inr (va_up (fun k => if k < i then some (rF P (4 * t + k)) else none) (nI i).toNatClampNeg (some (P.1 + (bT t + 39 + i)))))))) : va_E) = frI P t (i + 1) := by
  unfold frI
  congr 7
  funext k
  rw [nI_clamp (by omega)]
  by_cases h : k = i
  · subst h
    rw [va_up_self, if_pos (by omega)]
    unfold rF
    rw [fA_t ht hi]
  · rw [va_up_ne _ _ h]
    by_cases h2 : k < i
    · rw [if_pos h2, if_pos (by omega)]
    · rw [if_neg h2, if_neg (by omega)]
/-- one more nailer, one more fogger -/
theorem tw_N {P : L5} {K : Nat → Int32} {A : Nat → Nat → Int32} {w : Int64} {f : Nat → va_E} {t i : Nat} (ht : t < 2) (hi : i < 12) {ob fr nr nr' : va_E} : ∀ a, a < bT t + 2 + 3 * (i + 1) → va_up (niW P (va_up (tw f (cwF0 P K A w) (bT t) ob nr fr) (bT t + 2 + 3 * i) (.inr (1, bkN))) (bT t + 2 + 3 * i)) (bT t + 1) nr' a = tw f (cwF0 P K A w) (bT t) ob nr' fr a := by
  intro a ha
  by_cases h1 : a = bT t + 1
  · subst h1
    rw [va_up_self, tw_1]
  · rw [va_up_ne _ _ h1]
    unfold niW
    by_cases h2 : a = bT t + 2 + 3 * i
    · subst h2
      rw [va_up_ne _ _ (by omega), va_up_ne _ _ (by omega), va_up_self, tw_hi (by omega) (by omega), cwF_N ht hi]
    · by_cases h3 : a = bT t + 2 + 3 * i + 1
      · subst h3
        rw [va_up_ne _ _ (by omega), va_up_self, tw_hi (by omega) (by omega), cwF_L ht hi]
      · by_cases h4 : a = bT t + 2 + 3 * i + 2
        · subst h4
          rw [va_up_self, tw_hi (by omega) (by omega), cwF_B ht hi]
        · rw [va_up_ne _ _ h4, va_up_ne _ _ h3, va_up_ne _ _ h2, va_up_ne _ _ h2]
          unfold tw
          rw [if_neg h1, if_neg h1]
theorem tw_F {P : L5} {K : Nat → Int32} {A : Nat → Nat → Int32} {w : Int64} {f : Nat → va_E} {t i : Nat} (ht : t < 2) (hi : i < 4) {ob fr nr fr' : va_E} : ∀ a, a < bT t + 39 + (i + 1) → va_up (va_up (va_up (tw f (cwF0 P K A w) (bT t) ob nr fr) (bT t + 39 + i) (.inr (0, bkF))) (bT t + 39 + i) (.inr (0, frFv))) (bT t + 38) fr' a = tw f (cwF0 P K A w) (bT t) ob nr fr' a := by
  intro a ha
  by_cases h1 : a = bT t + 38
  · subst h1
    rw [va_up_self, tw_38]
  · rw [va_up_ne _ _ h1]
    by_cases h2 : a = bT t + 39 + i
    · subst h2
      rw [va_up_self, tw_hi (by omega) (by omega), cwF_F ht hi]
    · rw [va_up_ne _ _ h2, va_up_ne _ _ h2]
      unfold tw
      rw [if_neg h1, if_neg h1]
set_option maxHeartbeats 4000000 in
theorem c_X2_init {l : Launch} {P : L5} {D : va_G} {K : Nat → Int32} {A : Nat → Nat → Int32} {w : Int64} {t : Nat} (ht : t < 2) {f : Nat → va_E} (hf : f (bT t) = .inr (2, bkT)) : CtV l yX2_init cX2_init 2 2 42 304 P D (bT t + 1) (bT t + 43) True f (fun a => if a < bT t then f a else cwF0 P K A w a) [.ref (P.1 + bT t)] := by
  refine mk_MetI pl_X2 rfl [(0, .ref (P.1 + bT t))] rfl (Nat.le_of_ble_eq_true rfl) ?_
  intro pg en sg mg ag bg mt cd C hni
  have hAO := C.2.2.2.2.2.2.2.2.2.2.2.2.2.2.1
  obtain ⟨g, hg⟩ : ∃ z, z = cwF0 P K A w := ⟨_, rfl⟩
  refine v_aload_n C 0 dX2_init_0 rfl ?_
  refine c_obj C k_315 k_50 k_51 (Nat.le_of_ble_eq_true rfl) (Nat.le_of_ble_eq_true rfl) dX2_init_1 ?_
  refine v_aload_n C 0 dX2_init_4 rfl ?_
  refine v_bipush (v := 12) C dX2_init_5 rfl ?_
  refine c_newq (Cn := RX1) (t0 := 1) (cA0 := P.2.2.1) (N' := 12) C k_316 hAO.1 rfl (by decide) (by decide) (by decide) (Nat.le_of_ble_eq_true rfl) (Nat.le_of_ble_eq_true rfl) dX2_init_7 ?_
  refine c_put C (bT t) (by omega) (r := (RX2, TX2, 4)) ((va_up_ne _ _ (by omega)).trans hf) rfl inX2g tyX2 tyX2_ok nmX2 2 (by decide) k_411 hni rfl rfl rfl (Nat.le_of_ble_eq_true rfl) dX2_init_10 ?_
  refine v_iconst (v := 0) C dX2_init_13 rfl ?_
  refine v_istore_n (lv' := [(1, .int 0), (0, .ref (P.1 + bT t))]) C dX2_init_14 rfl (by decide) rfl ?_
  have E50 : V pg l en (rmO 2 42 304) sg mg ag bg mt cd P D (MQ bg (QcV P D (bT t + 43) True (fun a => if a < bT t then f a else cwF0 P K A w a)) ag sg 42 304 (aO P)) 2 (bT t + 43) True (tw f g (bT t) (ob2 P (bT t)) (nrI P t 12) (frI P t 4)) 42 304 74 [] [] := by
    refine c_cell (bT t + 1) (by omega) (cI := P.2.2.1) (a1 := (12, .inr (.inr (.inr (.inr (fun k => if k < 12 then some (rN P (12 * t + k)) else none)))))) (a2 := (12, .inr (.inr (.inr (.inr (fun k => some (rN P (12 * t + k)))))))) tw_1 (cellq_cong fun j hj => if_pos hj) ?_
    refine c_cell (bT t + 38) (by omega) (cI := P.2.2.2.1) (a1 := (4, .inr (.inr (.inr (.inr (fun k => if k < 4 then some (rF P (4 * t + k)) else none)))))) (a2 := (4, .inr (.inr (.inr (.inr (fun k => some (rF P (4 * t + k)))))))) ((va_up_ne _ _ (by omega)).trans tw_38) (cellq_cong fun j hj => if_pos hj) ?_
    refine c_cong (f' := fun a => if a < bT t then f a else cwF0 P K A w a) (fun a ha => ?_) (v_vret C dX2_init_74 rfl)
    show _ = if a < bT t then f a else cwF0 P K A w a
    by_cases h1 : a = bT t + 38
    · subst h1
      rw [va_up_self, if_neg (by omega), cwF_FA ht]
    · by_cases h2 : a = bT t + 1
      · subst h2
        rw [va_up_ne _ _ h1, va_up_self, if_neg (by omega), cwF_NA ht]
      · rw [va_up_ne _ _ h1, va_up_ne _ _ h2]
        unfold tw
        rw [if_neg h1, if_neg h2]
        by_cases h3 : a = bT t
        · subst h3
          rw [if_neg (by omega), if_pos rfl, if_neg (by omega), cwF_T ht]
        · rw [if_neg h3, hg]
  have L50 : ∀ m i, i + m = 4 → V pg l en (rmO 2 42 304) sg mg ag bg mt cd P D (MQ bg (QcV P D (bT t + 43) True (fun a => if a < bT t then f a else cwF0 P K A w a)) ag sg 42 304 (aO P)) 2 (bT t + 39 + i) True (tw f g (bT t) (ob2 P (bT t)) (nrI P t 12) (frI P t i)) (38 + i) (280 + 6 * i) 50 [(1, .int (nI i)), (0, .ref (P.1 + bT t))] [] := by
    intro m
    induction m with
    | zero =>
      intro i him
      obtain rfl : i = 4 := by omega
      refine v_iload_n C 0 dX2_init_50 rfl ?_
      refine v_iconst (v := 4) C dX2_init_51 rfl ?_
      refine v_icmp_ge (tgt := 74) C dX2_init_52 (by decide) (fun _ => ?_) (fun h => absurd (by decide) h)
      exact v_lv [] rfl (c_n (by omega) E50)
    | succ m ih =>
      intro i him
      have hi : i < 4 := by omega
      refine v_iload_n C 0 dX2_init_50 rfl ?_
      refine v_iconst (v := 4) C dX2_init_51 rfl ?_
      refine v_icmp_ge (tgt := 74) C dX2_init_52 (by decide) (fun h => absurd h (by rw [le4i (by omega)]; omega)) (fun _ => ?_)
      refine v_aload_n C 1 dX2_init_55 rfl ?_
      refine c_get C (bT t) (by omega) (r := (RX2, TX2, 4)) tw_0 rfl inX2g 3 (by decide) k_413 rfl dX2_init_56 ?_
      refine v_iload_n C 0 dX2_init_59 rfl ?_
      refine c_new (ci := 0) C (r := (RX0, TX0, 6)) rfl inX0g tyX0 tyX0_ok k_377 k_234 k_4 (fs := bkF) bkF_ok (show _ ≤ 42 by omega) (show 280 + 6 * i + 6 ≤ 304 by omega) dX2_init_60 ?_
      refine v_dup C dX2_init_63 rfl ?_
      refine go_V (run_IN C (c_X0_init (b := bT t + 39 + i) (by omega) (va_up_self _ _ _)) k_381 k_4 (List.mem_of_getElem? (i := 2) rfl) k_380 rfl dd_X0_init ⟨Nat.le_of_ble_eq_true rfl, Nat.le_of_ble_eq_true rfl⟩ rfl (Nat.le_of_ble_eq_true rfl) dX2_init_64 ⟨show _ ≤ 42 by omega, show 280 + 6 * i + 6 + 0 ≤ 304 by omega⟩) ?_
      refine c_aast C (bT t + 38) (bT t + 39 + i) (by omega) (by omega) (ci := 0) (len := 4) (t0 := 2) (r := (RX0, TX0, 6)) ((va_up_ne _ _ (by omega)).trans ((va_up_ne _ _ (by omega)).trans tw_38)) rfl (va_up_self _ _ _) rfl (vp_in_nI hi (by omega)) dX2_init_67 ?_
      rw [frI_s ht hi]
      refine v_iinc (b := nI (i + 1)) (lv' := [(1, .int (nI (i + 1))), (0, .ref (P.1 + bT t))]) C 0 dX2_init_68 rfl (nI_1 _) (by decide) rfl ?_
      refine v_goto (tgt := 50) C dX2_init_71 (by decide) ?_
      refine v_widen (k' := 38 + (i + 1)) (z' := 280 + 6 * (i + 1)) (by omega) (show 280 + 6 * i + 6 + 0 ≤ _ by omega) ?_
      refine c_n (n' := bT t + 39 + (i + 1)) (by omega) ?_
      refine c_cong (fun a ha => ?_) (ih (i + 1) (by omega))
      rw [hg]
      exact tw_F ht hi a ha
  have E40 : V pg l en (rmO 2 42 304) sg mg ag bg mt cd P D (MQ bg (QcV P D (bT t + 43) True (fun a => if a < bT t then f a else cwF0 P K A w a)) ag sg 42 304 (aO P)) 2 (bT t + 38) True (tw f g (bT t) (ob1 P (bT t)) (nrI P t 12) (frI P t 0)) 37 276 40 [(0, .ref (P.1 + bT t))] [] := by
    refine v_aload_n C 0 dX2_init_40 rfl ?_
    refine v_iconst (v := 4) C dX2_init_41 rfl ?_
    refine c_newq (Cn := RX0) (t0 := 2) (cA0 := P.2.2.2.1) (N' := 4) C k_377 hAO.2 rfl (by decide) (by decide) (by decide) (Nat.le_of_ble_eq_true rfl) (Nat.le_of_ble_eq_true rfl) dX2_init_42 ?_
    refine c_put C (bT t) (by omega) (r := (RX2, TX2, 4)) ((va_up_ne _ _ (by omega)).trans tw_0) rfl inX2g tyX2 tyX2_ok nmX2 3 (by decide) k_413 hni rfl rfl rfl (Nat.le_of_ble_eq_true rfl) dX2_init_45 ?_
    refine v_iconst (v := 0) C dX2_init_48 rfl ?_
    refine v_istore_n (lv' := [(1, .int 0), (0, .ref (P.1 + bT t))]) C dX2_init_49 rfl (by decide) rfl ?_
    refine c_cong (f' := tw f g (bT t) (ob2 P (bT t)) (nrI P t 12) (frI P t 0)) (fun a ha => ?_) (c_n (by omega) (L50 4 0 (by omega)))
    by_cases h1 : a = bT t
    · subst h1
      rw [va_up_self, tw_0]
      rfl
    · rw [va_up_ne _ _ h1]
      by_cases h2 : a = bT t + 38
      · subst h2
        rw [va_up_self, tw_38]
        rfl
      · rw [va_up_ne _ _ h2]
        unfold tw
        rw [if_neg h1, if_neg h1]
  have L15 : ∀ m i, i + m = 12 → V pg l en (rmO 2 42 304) sg mg ag bg mt cd P D (MQ bg (QcV P D (bT t + 43) True (fun a => if a < bT t then f a else cwF0 P K A w a)) ag sg 42 304 (aO P)) 2 (bT t + 2 + 3 * i) True (tw f g (bT t) (ob1 P (bT t)) (nrI P t i) (frI P t 0)) (1 + 3 * i) (12 + 22 * i) 15 [(1, .int (nI i)), (0, .ref (P.1 + bT t))] [] := by
    intro m
    induction m with
    | zero =>
      intro i him
      obtain rfl : i = 12 := by omega
      refine v_iload_n C 0 dX2_init_15 rfl ?_
      refine v_bipush (v := 12) C dX2_init_16 rfl ?_
      refine v_icmp_ge (tgt := 40) C dX2_init_18 (by decide) (fun _ => ?_) (fun h => absurd (by decide) h)
      exact v_lv [1] rfl (c_n (by omega) E40)
    | succ m ih =>
      intro i him
      have hi : i < 12 := by omega
      refine v_iload_n C 0 dX2_init_15 rfl ?_
      refine v_bipush (v := 12) C dX2_init_16 rfl ?_
      refine v_icmp_ge (tgt := 40) C dX2_init_18 (by decide) (fun h => absurd h (by rw [show (12 : Int32) = nI 12 from rfl, nI_leI (by omega) (by omega)]; omega)) (fun _ => ?_)
      refine v_aload_n C 1 dX2_init_21 rfl ?_
      refine c_get C (bT t) (by omega) (r := (RX2, TX2, 4)) tw_0 rfl inX2g 2 (by decide) k_411 rfl dX2_init_22 ?_
      refine v_iload_n C 0 dX2_init_25 rfl ?_
      refine c_new (ci := 1) C (r := (RX1, TX1, 14)) rfl inX1g tyX1 tyX1_ok k_316 k_141 k_3 (fs := bkN) bkN_ok (show _ ≤ 42 by omega) (show 12 + 22 * i + 14 ≤ 304 by omega) dX2_init_26 ?_
      refine v_dup C dX2_init_29 rfl ?_
      refine go_V (run_IN C (c_X1_init (b := bT t + 2 + 3 * i) (va_up_self _ _ _)) k_320 k_3 (List.mem_of_getElem? (i := 1) rfl) k_319 rfl dd_X1_init ⟨Nat.le_of_ble_eq_true rfl, Nat.le_of_ble_eq_true rfl⟩ rfl (Nat.le_of_ble_eq_true rfl) dX2_init_30 ⟨show _ ≤ 42 by omega, show 12 + 22 * i + 14 + 8 ≤ 304 by omega⟩) ?_
      refine c_aast C (bT t + 1) (bT t + 2 + 3 * i) (by omega) (by omega) (ci := 1) (len := 12) (t0 := 1) (r := (RX1, TX1, 14)) ((va_up_ne _ _ (by omega)).trans ((va_up_ne _ _ (by omega)).trans ((va_up_ne _ _ (by omega)).trans ((va_up_ne _ _ (by omega)).trans tw_1)))) rfl ((va_up_ne _ _ (by omega)).trans ((va_up_ne _ _ (by omega)).trans (va_up_self _ _ _))) rfl (vp_in_nI hi (by omega)) dX2_init_33 ?_
      rw [nrI_s ht hi]
      refine v_iinc (b := nI (i + 1)) (lv' := [(1, .int (nI (i + 1))), (0, .ref (P.1 + bT t))]) C 0 dX2_init_34 rfl (nI_1 _) (by decide) rfl ?_
      refine v_goto (tgt := 15) C dX2_init_37 (by decide) ?_
      refine v_widen (k' := 1 + 3 * (i + 1)) (z' := 12 + 22 * (i + 1)) (by omega) (show 12 + 22 * i + 14 + 8 ≤ _ by omega) ?_
      refine c_n (n' := bT t + 2 + 3 * (i + 1)) (by omega) ?_
      refine c_cong (fun a ha => ?_) (ih (i + 1) (by omega))
      rw [hg]
      exact tw_N ht hi a ha
  refine c_cong (f' := tw f g (bT t) (ob1 P (bT t)) (nrI P t 0) (frI P t 0)) (fun a ha => ?_) (c_n (by omega) (L15 12 0 (by omega)))
  by_cases h1 : a = bT t
  · subst h1
    rw [va_up_self, tw_0]
    rfl
  · rw [va_up_ne _ _ h1]
    by_cases h2 : a = bT t + 1
    · subst h2
      rw [va_up_self, tw_1]
      rfl
    · rw [va_up_ne _ _ h2, tw_lo (by omega)]
