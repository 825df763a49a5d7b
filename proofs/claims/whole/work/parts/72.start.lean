/-! THE LAW, from its entry -/
theorem law_known {p : Program} {s : State} {m : MethodId} {meth : Method} {c : Code} {b L : Nat} {xs : Nat → Int32} (C0 : lw_At p s m meth c b L xs) : ∃ (P : L5) (D : va_G), P.1 = s.heap.size ∧ va_K D vwCl (tyP P) s ∧ ST P s := by
  obtain ⟨-, -, -, -, -, hts, -, -, -, hgv⟩ := C0
  have hs := flat_of_before _ hgv
  have hg : ∀ w ∈ gtb, w.before #[Value.ref b] s = true := gtb_hts hts
  obtain ⟨c0, i0, hK0⟩ := u_known (C := RX0) (T := TX0) (N := 6) (n := 6) hg inX0g (hg _ k_94)
  obtain ⟨c1, i1, hK1⟩ := u_known (C := RX1) (T := TX1) (N := 14) (n := 14) hg inX1g (hg _ k_30)
  obtain ⟨c2, i2, hK2⟩ := u_known (C := RX2) (T := TX2) (N := 4) (n := 4) hg inX2g (hg _ k_23)
  obtain ⟨c3, i3, hK3⟩ := u_known (C := RX3) (T := TX3) (N := 3) (n := 3) hg inX3g (hg _ k_15)
  obtain ⟨c4, i4, hK4⟩ := u_known (C := RX4) (T := TX4) (N := 8) (n := 8) hg inX4g (hg _ k_508)
  obtain ⟨aI, hI1, hI2⟩ := arr_of (fun C h => by cases h) (hg _ k_91)
  obtain ⟨aL, hL1, hL2⟩ := arr_of (fun C h => by cases h) (hg _ k_705)
  have oN : (Cond.arrayOver (.object RX1)).before #[Value.ref b] s = true := hts _ (ltw1 29 (by decide +kernel))
  have oF : (Cond.arrayOver (.object RX0)).before #[Value.ref b] s = true := hts _ (ltw1 93 (by decide +kernel))
  obtain ⟨aN, hN1, hN2⟩ := arr_ob oN
  obtain ⟨aF, hF1, hF2⟩ := arr_ob oF
  have hA : ∀ a : Nat, a < s.heap.size → ¬ (fun a => s.heap.size ≤ a) a := fun a h => Nat.not_le.mpr h
  have hst : ∀ b9 : Nat, ∃ t : Nat, ∀ q, stQ[b9]? = some q → va_Z q.1 q.2.1 "[I" (.ref t) (fun a => s.heap.size ≤ a) s s.heap ∧ va_T .int t 4 (fun j => .int (q.2.2 j)) (fun a => s.heap.size ≤ a) s s.heap := by
    intro b9
    cases hq : stQ[b9]? with
    | none => exact ⟨0, fun q h => by cases h⟩
    | some q =>
      obtain ⟨h1, h2, h3, h4, h5⟩ := stQ_in b9 q hq
      obtain ⟨t, ht, hT⟩ := va_Tof (f := fun j => .int (q.2.2 j)) (A := fun a => s.heap.size ≤ a) (N := 4) (by decide) (hs _ h3) (va_eqt (hs _ h4)) (fun j hj => va_eqt (hs _ (h5 j hj))) hA
      refine ⟨t, fun q' h' => ?_⟩
      cases h'
      exact ⟨va_Zof (hts _ h1) (hts _ h2) ht hA, hT⟩
  obtain ⟨S, hS⟩ := Classical.axiomOfChoice hst
  refine ⟨(s.heap.size, aI, aN, aF, aL, S), (fun k => match k with | 0 => c0 | 1 => c1 | 2 => c2 | 3 => c3 | _ => c4, fun k => match k with | 0 => i0 | 1 => i1 | 2 => i2 | 3 => i3 | _ => i4), rfl, ⟨fun k q hq => ?_, fun k q hq => ?_⟩, ?_⟩
  · match k, hq with
    | 0, hq => cases hq; exact hK0
    | 1, hq => cases hq; exact hK1
    | 2, hq => cases hq; exact hK2
    | 3, hq => cases hq; exact hK3
    | 4, hq => cases hq; exact hK4
    | k + 5, hq => simp at hq
  · match k, hq with
    | 0, hq => cases hq; exact ⟨hI1, hI2⟩
    | 1, hq => cases hq; exact ⟨hN1, hN2⟩
    | 2, hq => cases hq; exact ⟨hF1, hF2⟩
    | 3, hq => cases hq; exact ⟨hL1, hL2⟩
    | k + 4, hq => simp [tyP] at hq
  · refine ⟨fun b9 q hq => hS b9 q hq, ⟨vx_Zqof (hts _ (ltw2 2 (by decide +kernel))) (hg _ k_6) (hs _ (by decide +kernel)) hA, vx_Zqof (hts _ (ltw2 4 (by decide +kernel))) (hg _ k_6) (hs _ (by decide +kernel)) hA⟩, fun q hq => ?_, fun q hq => va_Nw.of rfl (hts _ (nwF_in q hq)), fun q hq => va_Nw.of rfl (hts _ (nwM_in q hq)), ⟨va_AO.of oN, va_AO.of oF⟩, fun n => va_Nw.of rfl (hts _ (xn_in n)), fun a b h => va_Nc.of (hs _ (xn_no a b h)), fun Y hY => va_Nw.of rfl (hts _ (dcN_in Y hY))⟩
    obtain ⟨a, _, _, _, q1, -⟩ := Cond.exactly_spec (args := #[Value.ref b]) (first := s) (o := none) (s := s) (idx := []) (t := .string RX3 q.1) (cls := "java/lang/String") (hs _ (strQ_ex q hq))
    exact ⟨a, vk_R.of (hts _ (strQ_in q hq)) q1⟩
theorem law_flags {l : Launch} (h : l.flags = flags0) : l.stackTraces = false := by
  unfold Launch.stackTraces
  rw [h]
  decide +kernel
/-- from the entry, for every script of at most 2048 ints, the law comes to its end with true -/
theorem whole_start {p : Program} {e : Env} {s : State} {m : MethodId} {below : List Frame} {meth : Method} {c : Code} (l : Launch) (hflags : l.flags = flags0) {b L : Nat} {xs : Nat → Int32} (hL : L ≤ 2048) (C0 : lw_At p s m meth c b L xs) : W p l e room_1 s m #[Value.ref b] below meth c s.heap [] 0 0 (lw_Z below #[Value.ref b] s) (entryFrame m ([Value.ref b] : List Value).toArray 9) := by
  obtain ⟨P, D, hP1, hK, hST⟩ := law_known C0
  obtain ⟨hx, hb, hr, hml, hown, hts, hX, hbl, hlocks, -⟩ := id C0
  have C : Cx p l s m #[Value.ref b] meth c P D code 9 ret RL := ⟨hx, hb, hml, hown, gtb_hts hts, hr, hlocks, hK, by rw [hP1]; exact Nat.le_refl _, hST⟩
  have hbP : b < P.1 := by rw [hP1]; exact hbl
  have hl := lv_entry ([.ref b]) (n := 9) (Nat.le_of_ble_eq_true rfl)
  rw [lg_entry_eq]
  generalize (lg_sl ([.ref b]) ++ List.replicate (9 - (lg_sl ([.ref b])).length) Slot.unset).toArray = ls at hl ⊢
  have hl : lv_has ls 9 [(0, .ref b)] := hl
  have J : V p l e room_1 s m #[Value.ref b] below meth c P D (lw_Z below #[Value.ref b] s) 9 0 True (cwF0 P (fun _ => 0) frA 0) 0 0 0 [(0, .ref b)] [] :=
    law_start C (law_loop C hX hbl hbP hL (law_flags hflags) (fun f k z lv hk hz => v_iconst (v := 1) C dL_law_1206 rfl (v_end C (by rw [hP1]; exact Nat.le_refl _) hk hz dL_law_1207)) (L + 1) (fun _ => frN) (fun _ => frF) (fun _ _ => 0) (fun _ => 0) frA 0 0 0 0 97 1174 (by omega) (by omega) Inv_0 (by omega) (by omega) (by omega))
  exact J s.heap [] ls (fun k q hq => by simp [wl] at hq) (fun _ => hP1.symm) va_S.rf hl
