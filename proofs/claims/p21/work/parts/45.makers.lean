/-! THE MAKERS -/
def n0N : Nat → Nat := nup (nup (fun _ => 0) 6 10) 7 5
theorem rep_frN : rep frN n0N 20 := rep_up (rep_up (fun _ _ => nI_0.symm) rfl) rfl
theorem rep_frF : Fgr frF (Bh 0) := ⟨nup (nup (fun _ => 0) 0 20) 1 60, rep_up (rep_up (fun _ _ => nI_0.symm) rfl) rfl, by decide, by decide, by decide, by decide, by decide, rfl⟩
theorem rep_begin {v : Nat → Int32} {n : Nat → Nat} {a b d : Nat} (h : rep v n 20) : rep (upd (upd (upd v 0 (nI a)) 1 (nI b)) 2 (nI d)) (nup (nup (nup n 0 a) 1 b) 2 d) 20 := rep_up (rep_up (rep_up h rfl) rfl) rfl
theorem rep_lend {v : Nat → Int32} {n : Nat → Nat} {q : Nat} (h : rep v n 20) : rep (upd (upd v 3 (v 3 + nI q)) 8 (v 8 + nI q * 3)) (nup (nup n 3 (n 3 + q)) 8 (n 8 + q * 3)) 20 := by
  refine rep_up (rep_up h ?_) ?_
  · rw [h 3 (by omega), nI_add]
  · rw [h 8 (by omega), show (3 : Int32) = nI 3 from rfl, nI_mul, nI_add]
theorem price_nI {q : Nat} (hq : q < 1000) : (nI q + 4 - 1) / 4 = nI ((q + 3) / 4) := by
  rw [show nI q + 4 = nI (q + 3 + 1) from nI_add q 4, nI_pred, show (4 : Int32) = nI 4 from rfl, nI_div (by omega) (by omega)]
theorem rep_coal {v : Nat → Int32} {n : Nat → Nat} {q : Nat} (h : rep v n 20) (hq : q < 1000) (h7 : (q + 3) / 4 ≤ n 7) : rep (upd (upd v 7 (v 7 - (nI q + 4 - 1) / 4)) 6 (v 6 + nI q)) (nup (nup n 7 (n 7 - (q + 3) / 4)) 6 (n 6 + q)) 20 := by
  refine rep_up (rep_up h ?_) ?_
  · rw [h 7 (by omega), price_nI hq, nI_sub h7]
  · rw [h 6 (by omega), nI_add]
theorem Nn_lend {n : Nat → Nat} {L h q : Nat} (a : Nn n L h) (hq : n 8 + q * 3 ≤ 90) : Nn (nup (nup n 3 (n 3 + q)) 8 (n 8 + q * 3)) (L + q) h := by
  obtain ⟨h0, h1, h2, h4, h5, h6, h8, hl, he, hb⟩ := a
  refine ⟨h0, h1, h2, h4, h5, h6, hq, fun k hk => ?_, ?_, hb⟩
  · rw [nup_ne (by omega), nup_ne (by omega)]
    exact hl k hk
  · show n 9 + n 4 + 240 * (n 3 + q) + ozN (n 1) * (n 10 + n 11) = 240 * (L + q)
    omega
theorem Nn_coal {n : Nat → Nat} {L h q : Nat} (a : Nn n L h) (hq : n 6 + q ≤ 99) : Nn (nup (nup n 7 (n 7 - (q + 3) / 4)) 6 (n 6 + q)) L h := by
  obtain ⟨h0, h1, h2, h4, h5, h6, h8, hl, he, hb⟩ := a
  refine ⟨h0, h1, h2, h4, h5, hq, h8, fun k hk => ?_, he, ?_⟩
  · rw [nup_ne (by omega), nup_ne (by omega)]
    exact hl k hk
  · show n 7 - (q + 3) / 4 + 36 * (n 16 + n 17 + n 18 + n 19) ≤ 5 + 36 * h
    omega
theorem Fgr_keep {g : Nat → Int32} {B j : Nat} (h : Fgr g B) (hj : j < 61) : Fgr (upd g 0 (nI j)) B := by
  obtain ⟨m, q, q1, q2, q3, q4, q5, q6⟩ := h
  exact ⟨nup m 0 j, rep_up q rfl, q1, q2, q3, q4, show j ≤ 60 by omega, q6⟩
/-- c nailers stand -/
def Mk (N T : Nat → Nat → Int32) (c : Nat) : Prop := T 0 1 = nI c ∧ (∀ k, k < c → ∃ L, L ≤ 20 ∧ N k 3 = nI L ∧ Nv (N k) L 0) ∧ ∀ k, c ≤ k → k < 12 → N k = frN
def MkI (N F T : Nat → Nat → Int32) : Prop := Mk N T 3 ∧ IF F (Bh 0)
theorem Mk_0 : Mk (fun _ => frN) (fun _ _ => 0) 0 := ⟨rfl, fun k hk => absurd hk (Nat.not_lt_zero k), fun _ _ _ => rfl⟩
def mkA (N : Nat → Nat → Int32) (c a b d : Nat) : Nat → Nat → Int32 := va_up N c (upd (upd (upd (N c) 0 (nI a)) 1 (nI b)) 2 (nI d))
def mkB (N : Nat → Nat → Int32) (c q : Nat) : Nat → Nat → Int32 := va_up N c (upd (upd (N c) 3 (N c 3 + nI q)) 8 (N c 8 + nI q * 3))
def mkC (N : Nat → Nat → Int32) (c q : Nat) : Nat → Nat → Int32 := va_up N c (upd (upd (N c) 7 (N c 7 - (nI q + 4 - 1) / 4)) 6 (N c 6 + nI q))
def mkT (T : Nat → Nat → Int32) : Nat → Nat → Int32 := va_up T 0 (upd (T 0) 1 (T 0 1 + 1))
theorem Mk_row {N T : Nat → Nat → Int32} {c a b d : Nat} (h : Mk N T c) (hc : c < 3) : rep (mkA N c a b d c) (nup (nup (nup n0N 0 a) 1 b) 2 d) 20 := by
  unfold mkA
  rw [va_up_self, h.2.2 c (Nat.le_refl _) (by omega)]
  exact rep_begin rep_frN
theorem Mk_row2 {N T : Nat → Nat → Int32} {c a b d q : Nat} (h : Mk N T c) (hc : c < 3) : rep (mkB (mkA N c a b d) c q c) (nup (nup (nup (nup (nup n0N 0 a) 1 b) 2 d) 3 (0 + q)) 8 (0 + q * 3)) 20 := by
  unfold mkB
  rw [va_up_self]
  exact rep_lend (Mk_row h hc)
theorem mkT_1 {T : Nat → Nat → Int32} {c : Nat} (h : T 0 1 = nI c) : mkT T 0 1 = nI (c + 1) := by
  unfold mkT
  rw [va_up_self, upd_at, h, nI_1]
theorem Mk_step {N T : Nat → Nat → Int32} {c a b d q y : Nat} (h : Mk N T c) (hc : c < 3) (ha : a ≤ 9) (hb : b < 4) (hd : d < 4) (hq : q ≤ 20) (hy : y ≤ 20) : Mk (mkC (mkB (mkA N c a b d) c q) c y) (mkT T) (c + 1) := by
  have r := Mk_row2 (a := a) (b := b) (d := d) (q := q) h hc
  have e7 : (nup (nup (nup (nup (nup n0N 0 a) 1 b) 2 d) 3 (0 + q)) 8 (0 + q * 3)) 7 = 5 := rfl
  have r3 := rep_coal (q := y) r (by omega) (by rw [e7]; omega)
  refine ⟨mkT_1 h.1, fun k hk => ?_, fun k hk hk2 => ?_⟩
  · by_cases e : k = c
    · subst e
      refine ⟨q, hq, ?_, ?_⟩
      · unfold mkC
        rw [va_up_self, r3 3 (by omega)]
        exact congrArg nI (Nat.zero_add q)
      · unfold mkC
        rw [va_up_self]
        refine ⟨_, r3, Nn_coal (L := q) ?_ (show 10 + y ≤ 99 by omega)⟩
        have z : Nn (nup (nup (nup n0N 0 a) 1 b) 2 d) 0 0 := by
          refine ⟨ha, hb, hd, (show (0 : Nat) ≤ 240 by omega), (show (0 : Nat) ≤ 9 by omega), (show (10 : Nat) ≤ 99 by omega), (show (0 : Nat) ≤ 90 by omega), fun k hk => ?_, ?_, ?_⟩
          · rw [nup_ne (by omega), nup_ne (by omega), nup_ne (by omega)]
            unfold n0N
            rw [nup_ne (by omega), nup_ne (by omega)]
            omega
          · show 0 + 0 + 240 * 0 + ozN b * (0 + 0) = 240 * 0
            omega
          · show 5 + 36 * (0 + 0 + 0 + 0) ≤ 5 + 36 * 0
            omega
        have z2 := Nn_lend (q := q) z (show 0 + q * 3 ≤ 90 by omega)
        rw [Nat.zero_add] at z2
        exact z2
    · obtain ⟨L, hL, h3, hv⟩ := h.2.1 k (by omega)
      have e9 : mkC (mkB (mkA N c a b d) c q) c y k = N k := by
        unfold mkC mkB mkA
        rw [va_up_ne _ _ e, va_up_ne _ _ e, va_up_ne _ _ e]
      rw [e9]
      exact ⟨L, hL, h3, hv⟩
  · unfold mkC mkB mkA
    rw [va_up_ne _ _ (by omega), va_up_ne _ _ (by omega), va_up_ne _ _ (by omega)]
    exact h.2.2 k (by omega) hk2
/-- what makers leaves -/
abbrev QcM (P : L5) (D : va_G) (K : Nat → Int32) (A : Nat → Nat → Int32) (w : Int64) := va_Qr (fun (_ : Unit) => True) (fun _ ra t => ra = rX P ∧ ∃ N F T, MkI N F T ∧ va_P D vwCl (wl P.1 (nW P) (cw P N F T K A w)) t.heap) (aO P)
section Makers
variable {p : Program} {l : Launch} {e : Env} {R : Room} {s : State} {m : MethodId} {args : Array Value} {below : List Frame} {meth : Method} {c : Code} {P : L5} {D : va_G} {Q : State → Prop} {nL n : Nat} {x : Prop} {f : Nat → va_E} {k z pc : Nat} {lv : List (Nat × Value)} {st : List Value} {cc : ByteArray} {ret : Option FieldType} {own : String}
variable {N F T : Nat → Nat → Int32} {K : Nat → Int32} {A : Nat → Nat → Int32} {w : Int64}
theorem v_topE {a b : Int32} (h : a = b) (kk : V p l e R s m args below meth c P D Q nL n x f k z pc lv (.int b :: st)) : V p l e R s m args below meth c P D Q nL n x f k z pc lv (.int a :: st) := by rw [h]; exact kk
theorem v_aretM {cn : String} (C : Cx p l s m args meth c P D cc nL (some (.object cn)) own) (hdg : decode cc pc = .ok (.areturn, 1)) (hM : MkI N F T) : V p l e R s m args below meth c P D (MQ below (QcM P D K A w) args s k z (aO P)) nL (nW P) False (cw P N F T K A w) k z pc lv [.ref (rX P)] := by
  intro H locs ls hP hz hS hl
  exact W.aret C.1 C.2.1 C.2.2.2.2.2.1 (Or.inl ⟨_, rfl⟩) (Or.inr ⟨_, rfl⟩) (fun t ht hW => ⟨⟨(), rX P, rfl, trivial, rfl, N, F, T, hM, by rw [ht]; exact hP⟩, hS.F ht⟩) hS.2.2 hdg C.2.2.2.2.2.2.1
theorem go_M {mc ms : Nat} {rest : List Value} {a : Array Value} (hr : ∀ (H : Heap) (locs : List Loc) (ls : Array Slot), va_P D vwCl (wl P.1 n f) H → (x → H.size = P.1 + n) → va_S (fun q => P.1 ≤ q) s.heap H locs → lv_has ls nL lv → va_Run p l e R s m args below meth c H locs k z mc ms (F0 m pc ls st) rest ((QcM P D K A w) a) (aO P)) (kk : ∀ N F T, MkI N F T → V p l e R s m args below meth c P D Q nL (nW P) False (cw P N F T K A w) (k + mc) (z + ms) (pc + 3) lv (.ref (rX P) :: rest)) : V p l e R s m args below meth c P D Q nL n x f k z pc lv st := by
  intro H locs ls hP hz hS hl
  refine va_callr (hr H locs ls hP hz hS hl) hS (fun q _ h => h) (fun q h => h) (fun u ra t H1 locs1 ht hvm hw hB hz1 hk1 hS1 => ?_)
  subst ht
  obtain ⟨rfl, N9, F9, T9, hM, hP9⟩ := hB
  exact kk N9 F9 T9 hM _ locs1 ls hP9 (fun h => h.elim) hS1 hl
end Makers
set_option maxHeartbeats 4000000 in
theorem c_L_makers {l : Launch} {P : L5} {D : va_G} {K : Nat → Int32} {A : Nat → Nat → Int32} {w : Int64} {f : Nat → va_E} (hfl : P.2.2.2.2.1 = false) : Met l yL_makers (.code yL_makers cL_makers 4 (some (.object "NailRods")) :: gtb) (rmO 8 90 641) (va_Pc [.ref (rS P 5)] (PreI P D 0 True f)) (QcM P D K A w) 90 641 (aO P) := by
  refine mk_Met pl_L [(0, .ref (rS P 5))] rfl (Nat.le_of_ble_eq_true rfl) ?_
  intro pg en sg mg ag bg mt cd C
  have L2 : ∀ (n c : Nat) (N F T : Nat → Nat → Int32), c + n = 4 → MkI N F T → V pg l en (rmO 8 90 641) sg mg ag bg mt cd P D (MQ bg (QcM P D K A w) ag sg 90 641 (aO P)) 4 (nW P) False (cw P N F T K A w) 90 641 91 [(2, .int (nI c)), (1, .ref (rX P)), (0, .ref (rS P 5))] [] := by
    intro n
    induction n with
    | zero =>
      intro c N F T hc hM
      refine v_iload_n C 0 dL_makers_91 rfl ?_
      refine v_iconst (v := nI 4) C dL_makers_92 rfl ?_
      refine v_icmp_ge (tgt := 123) C dL_makers_93 (by decide) (fun _ => ?_) (fun h => absurd (nI_le (show 4 ≤ c by omega) (by omega)) h)
      refine v_aload_n C 1 dL_makers_123 rfl ?_
      exact v_aretM C dL_makers_124 hM
    | succ n ih =>
      intro c N F T hc hM
      refine v_iload_n C 0 dL_makers_91 rfl ?_
      refine v_iconst (v := nI 4) C dL_makers_92 rfl ?_
      refine v_icmp_ge (tgt := 123) C dL_makers_93 (by decide) (fun h => absurd h (nI_ge (show c < 4 by omega) (by omega))) (fun _ => ?_)
      refine v_aload_n C 1 dL_makers_96 rfl ?_
      refine v_iload_n C 0 dL_makers_97 rfl ?_
      refine v_aload_n C 2 dL_makers_98 rfl ?_
      refine v_iconst (v := nI 3) C dL_makers_99 rfl ?_
      refine go_P (run_S C (c_L_cell (by omega)) k_301 k_0 k_299 k_300 dd_L_cell ⟨Nat.le_of_ble_eq_true rfl, Nat.le_of_ble_eq_true rfl⟩ rfl (Nat.le_of_ble_eq_true rfl) dL_makers_100 ⟨Nat.le_of_ble_eq_true rfl, Nat.le_of_ble_eq_true rfl⟩) (fun x _ => ?_)
      refine v_bipush (v := 6) C dL_makers_103 rfl ?_
      refine v_iload_n C 0 dL_makers_105 rfl ?_
      refine v_imul C dL_makers_106 ?_
      refine v_ishr C dL_makers_107 ?_
      refine v_bipush (v := nI 61) C dL_makers_108 rfl ?_
      refine go_P (run_S C (c_L_below (by omega) (by omega)) k_297 k_0 k_295 k_296 dd_L_below ⟨Nat.le_of_ble_eq_true rfl, Nat.le_of_ble_eq_true rfl⟩ rfl (Nat.le_of_ble_eq_true rfl) dL_makers_110 ⟨Nat.le_of_ble_eq_true rfl, Nat.le_of_ble_eq_true rfl⟩) (fun r hr => ?_)
      obtain ⟨j, hj, rfl⟩ := hr
      refine go_I (run_V C (t_keep (by omega) (nI_pos (by omega)) (nI_le (b := 60) (show j ≤ 60 by omega) (by omega))) k_150 k_1 k_147 k_148 k_149 dd_X3_keep ⟨Nat.le_of_ble_eq_true rfl, Nat.le_of_ble_eq_true rfl⟩ rcX rfl (Nat.le_of_ble_eq_true rfl) dL_makers_113 ⟨Nat.le_of_ble_eq_true rfl, Nat.le_of_ble_eq_true rfl⟩) ?_
      refine v_pop C dL_makers_116 rfl ?_
      refine v_iinc (b := nI (c + 1)) (lv' := [(2, .int (nI (c + 1))), (1, .ref (rX P)), (0, .ref (rS P 5))]) C 0 dL_makers_117 rfl (nI_1 _) (by decide) rfl ?_
      refine v_goto (tgt := 91) C dL_makers_120 (by decide) ?_
      refine ih (c + 1) _ _ _ (by omega) ⟨hM.1, fun i hi => ?_⟩
      by_cases e : i = c
      · subst e
        rw [va_up_self]
        exact Fgr_keep (hM.2 i hi) hj
      · rw [va_up_ne _ _ e]
        exact hM.2 i hi
  have L1 : ∀ (n c : Nat) (N F T : Nat → Nat → Int32), c + n = 3 → Mk N T c → IF F (Bh 0) → V pg l en (rmO 8 90 641) sg mg ag bg mt cd P D (MQ bg (QcM P D K A w) ag sg 90 641 (aO P)) 4 (nW P) False (cw P N F T K A w) 90 641 10 [(2, .int (nI c)), (1, .ref (rX P)), (0, .ref (rS P 5))] [] := by
    intro n
    induction n with
    | zero =>
      intro c N F T hc hM hF
      refine v_iload_n C 0 dL_makers_10 rfl ?_
      refine v_iconst (v := nI 3) C dL_makers_11 rfl ?_
      refine v_icmp_ge (tgt := 89) C dL_makers_12 (by decide) (fun _ => ?_) (fun h => absurd (nI_le (show 3 ≤ c by omega) (by omega)) h)
      obtain rfl : c = 3 := by omega
      refine v_iconst (v := nI 0) C dL_makers_89 rfl ?_
      refine v_istore_n (lv' := [(2, .int (nI 0)), (1, .ref (rX P)), (0, .ref (rS P 5))]) C dL_makers_90 rfl (by decide) rfl ?_
      exact L2 4 0 N F T (by omega) ⟨hM, hF⟩
    | succ n ih =>
      intro c N F T hc hM hF
      refine v_iload_n C 0 dL_makers_10 rfl ?_
      refine v_iconst (v := nI 3) C dL_makers_11 rfl ?_
      refine v_icmp_ge (tgt := 89) C dL_makers_12 (by decide) (fun h => absurd h (nI_ge (show c < 3 by omega) (by omega))) (fun _ => ?_)
      refine v_aload_n C 2 dL_makers_15 rfl ?_
      refine v_iload_n C 0 dL_makers_16 rfl ?_
      refine go_P (run_S C (c_L_cell (by omega)) k_301 k_0 k_299 k_300 dd_L_cell ⟨Nat.le_of_ble_eq_true rfl, Nat.le_of_ble_eq_true rfl⟩ rfl (Nat.le_of_ble_eq_true rfl) dL_makers_17 ⟨Nat.le_of_ble_eq_true rfl, Nat.le_of_ble_eq_true rfl⟩) (fun x _ => ?_)
      refine v_istore_n (lv' := [(3, .int x), (2, .int (nI c)), (1, .ref (rX P)), (0, .ref (rS P 5))]) C dL_makers_20 rfl (by decide) rfl ?_
      refine v_aload_n C 2 dL_makers_21 rfl ?_
      refine v_iconst (v := nI 1) C dL_makers_22 rfl ?_
      refine v_iload_n C 0 dL_makers_23 rfl ?_
      refine v_bipush (v := nI 9) C dL_makers_24 rfl ?_
      refine go_P (run_S C (c_L_below (by omega) (by omega)) k_297 k_0 k_295 k_296 dd_L_below ⟨Nat.le_of_ble_eq_true rfl, Nat.le_of_ble_eq_true rfl⟩ rfl (Nat.le_of_ble_eq_true rfl) dL_makers_26 ⟨Nat.le_of_ble_eq_true rfl, Nat.le_of_ble_eq_true rfl⟩) (fun ra ha => ?_)
      obtain ⟨a, ha, rfl⟩ := ha
      refine v_iadd C dL_makers_29 ?_
      refine v_topE (b := nI (1 + a)) (nI_add 1 a) ?_
      refine v_iload_n C 0 dL_makers_30 rfl ?_
      refine v_iconst (v := 4) C dL_makers_31 rfl ?_
      refine v_ishr C dL_makers_32 ?_
      refine v_iconst (v := nI 4) C dL_makers_33 rfl ?_
      refine go_P (run_S C (c_L_below (by omega) (by omega)) k_297 k_0 k_295 k_296 dd_L_below ⟨Nat.le_of_ble_eq_true rfl, Nat.le_of_ble_eq_true rfl⟩ rfl (Nat.le_of_ble_eq_true rfl) dL_makers_34 ⟨Nat.le_of_ble_eq_true rfl, Nat.le_of_ble_eq_true rfl⟩) (fun rb hb => ?_)
      obtain ⟨b, hb, rfl⟩ := hb
      refine v_iload_n C 0 dL_makers_37 rfl ?_
      refine v_bipush (v := 6) C dL_makers_38 rfl ?_
      refine v_ishr C dL_makers_40 ?_
      refine v_iconst (v := nI 4) C dL_makers_41 rfl ?_
      refine go_P (run_S C (c_L_below (by omega) (by omega)) k_297 k_0 k_295 k_296 dd_L_below ⟨Nat.le_of_ble_eq_true rfl, Nat.le_of_ble_eq_true rfl⟩ rfl (Nat.le_of_ble_eq_true rfl) dL_makers_42 ⟨Nat.le_of_ble_eq_true rfl, Nat.le_of_ble_eq_true rfl⟩) (fun rd hd => ?_)
      obtain ⟨d, hd, rfl⟩ := hd
      refine go_I (run_V C (t_nailer hM.1 (by omega) (nI_pos (by omega)) (nI_lt (b := 4) hb (by omega)) (nI_pos (by omega)) (nI_lt (b := 4) hd (by omega)) (nI_nlt (b := 1) (show 1 ≤ 1 + a by omega) (by omega)) (nI_le (b := 9) (show 1 + a ≤ 9 by omega) (by omega))) k_439 k_1 k_436 k_437 k_438 dd_X3_nailer ⟨Nat.le_of_ble_eq_true rfl, Nat.le_of_ble_eq_true rfl⟩ rcX rfl (Nat.le_of_ble_eq_true rfl) dL_makers_45 ⟨Nat.le_of_ble_eq_true rfl, Nat.le_of_ble_eq_true rfl⟩) ?_
      refine v_pop C dL_makers_48 rfl ?_
      have hT2 : mkT T 0 1 = nI (c + 1) := mkT_1 hM.1
      have ra := Mk_row (a := 1 + a) (b := b) (d := d) hM (show c < 3 by omega)
      refine v_aload_n C 2 dL_makers_49 rfl ?_
      refine v_iload_n C 1 dL_makers_50 rfl ?_
      refine v_iconst (v := nI 1) C dL_makers_51 rfl ?_
      refine v_iload_n C 0 dL_makers_52 rfl ?_
      refine v_bipush (v := 8) C dL_makers_53 rfl ?_
      refine v_ishr C dL_makers_55 ?_
      refine v_bipush (v := nI 20) C dL_makers_56 rfl ?_
      refine go_P (run_S C (c_L_below (by omega) (by omega)) k_297 k_0 k_295 k_296 dd_L_below ⟨Nat.le_of_ble_eq_true rfl, Nat.le_of_ble_eq_true rfl⟩ rfl (Nat.le_of_ble_eq_true rfl) dL_makers_58 ⟨Nat.le_of_ble_eq_true rfl, Nat.le_of_ble_eq_true rfl⟩) (fun rq hq => ?_)
      obtain ⟨q, hq, rfl⟩ := hq
      refine v_iadd C dL_makers_61 ?_
      refine v_topE (b := nI (1 + q)) (nI_add 1 q) ?_
      have h8 : mkA N c (1 + a) b d c 8 + nI (1 + q) * 3 ≤ 90 := by
        rw [ra 8 (by omega), show (3 : Int32) = nI 3 from rfl, nI_mul, nI_add]
        exact nI_le (b := 90) (show 0 + (1 + q) * 3 ≤ 90 by omega) (by omega)
      refine go_I (run_V C (t_lend (N := mkA N c (1 + a) b d) (T := mkT T) hT2 (by omega) (by omega) (nI_nlt (b := 1) (show 1 ≤ 1 + q by omega) (by omega)) (nI_le (b := 20) (show 1 + q ≤ 20 by omega) (by omega)) h8) k_15 k_1 k_12 k_13 k_14 dd_X3_lend ⟨Nat.le_of_ble_eq_true rfl, Nat.le_of_ble_eq_true rfl⟩ rcX rfl (Nat.le_of_ble_eq_true rfl) dL_makers_62 ⟨Nat.le_of_ble_eq_true rfl, Nat.le_of_ble_eq_true rfl⟩) ?_
      refine v_pop C dL_makers_65 rfl ?_
      have rb := Mk_row2 (a := 1 + a) (b := b) (d := d) (q := 1 + q) hM (show c < 3 by omega)
      refine v_aload_n C 2 dL_makers_66 rfl ?_
      refine v_iload_n C 1 dL_makers_67 rfl ?_
      refine v_iconst (v := nI 1) C dL_makers_68 rfl ?_
      refine v_iload_n C 0 dL_makers_69 rfl ?_
      refine v_bipush (v := 13) C dL_makers_70 rfl ?_
      refine v_ishr C dL_makers_72 ?_
      refine v_bipush (v := nI 20) C dL_makers_73 rfl ?_
      refine go_P (run_S C (c_L_below (by omega) (by omega)) k_297 k_0 k_295 k_296 dd_L_below ⟨Nat.le_of_ble_eq_true rfl, Nat.le_of_ble_eq_true rfl⟩ rfl (Nat.le_of_ble_eq_true rfl) dL_makers_75 ⟨Nat.le_of_ble_eq_true rfl, Nat.le_of_ble_eq_true rfl⟩) (fun ry hy => ?_)
      obtain ⟨y, hy, rfl⟩ := hy
      refine v_iadd C dL_makers_78 ?_
      refine v_topE (b := nI (1 + y)) (nI_add 1 y) ?_
      have g7 : ¬ mkB (mkA N c (1 + a) b d) c (1 + q) c 7 < (nI (1 + y) + 4 - 1) / 4 := by
        rw [rb 7 (by omega), price_nI (by omega)]
        exact nI_nlt (a := 5) (show (1 + y + 3) / 4 ≤ 5 by omega) (by omega)
      have g6 : mkB (mkA N c (1 + a) b d) c (1 + q) c 6 + nI (1 + y) ≤ 99 := by
        rw [rb 6 (by omega), nI_add]
        exact nI_le (b := 99) (show 10 + (1 + y) ≤ 99 by omega) (by omega)
      refine go_I (run_V C (t_coal (N := mkB (mkA N c (1 + a) b d) c (1 + q)) (T := mkT T) hT2 (by omega) (by omega) (nI_nlt (b := 1) (show 1 ≤ 1 + y by omega) (by omega)) (nI_le (b := 99) (show 1 + y ≤ 99 by omega) (by omega)) g7 g6) k_132 k_1 k_129 k_130 k_131 dd_X3_coal ⟨Nat.le_of_ble_eq_true rfl, Nat.le_of_ble_eq_true rfl⟩ rcX rfl (Nat.le_of_ble_eq_true rfl) dL_makers_79 ⟨Nat.le_of_ble_eq_true rfl, Nat.le_of_ble_eq_true rfl⟩) ?_
      refine v_pop C dL_makers_82 rfl ?_
      refine v_iinc (b := nI (c + 1)) (lv' := [(2, .int (nI (c + 1))), (3, .int x), (1, .ref (rX P)), (0, .ref (rS P 5))]) C 1 dL_makers_83 rfl (nI_1 _) (by decide) rfl ?_
      refine v_goto (tgt := 10) C dL_makers_86 (by decide) ?_
      refine v_lv [0, 2, 3] rfl ?_
      exact ih (c + 1) (mkC (mkB (mkA N c (1 + a) b d) c (1 + q)) c (1 + y)) F (mkT T) (by omega) (Mk_step hM (by omega) (by omega) hb hd (by omega) (by omega)) hF
  refine c_new (n := 0) (ci := 3) C (r := (RX3, TX3, 3)) rfl inX3g tyX3 tyX3_ok k_306 k_19 k_1 (fs := bkX) bkX_ok (Nat.le_of_ble_eq_true rfl) (Nat.le_of_ble_eq_true rfl) dL_makers_0 ?_
  refine v_dup C dL_makers_3 rfl ?_
  refine go_V (n' := 90) (run_I C (c_X3_init (K := K) (A := A) (w := w) (va_up_self _ _ _)) k_309 k_1 k_307 k_308 rfl dd_X3_init ⟨Nat.le_of_ble_eq_true rfl, Nat.le_of_ble_eq_true rfl⟩ rfl (Nat.le_of_ble_eq_true rfl) dL_makers_4 ⟨Nat.le_of_ble_eq_true rfl, Nat.le_of_ble_eq_true rfl⟩) ?_
  refine v_astore_n (lv' := [(1, .ref (rX P)), (0, .ref (rS P 5))]) C dL_makers_7 rfl (by decide) rfl ?_
  refine v_iconst (v := nI 0) C dL_makers_8 rfl ?_
  refine v_istore_n (lv' := [(2, .int (nI 0)), (1, .ref (rX P)), (0, .ref (rS P 5))]) C dL_makers_9 rfl (by decide) rfl ?_
  refine v_open ?_
  refine c_n (nW_f hfl).symm ?_
  exact L1 3 0 (fun _ => frN) (fun _ => frF) (fun _ _ => 0) rfl Mk_0 (fun _ _ => rep_frF)
