/-! THE LAW, block by block -/
section LawBlocks
variable {p : Program} {l : Launch} {e : Env} {s : State} {m : MethodId} {below : List Frame} {meth : Method} {c : Code} {P : L5} {D : va_G} {Q : State → Prop} {N F T : Nat → Nat → Int32} {K : Nat → Int32} {A : Nat → Nat → Int32} {w : Int64} {i : Nat}
set_option maxHeartbeats 4000000 in
theorem law_A (C : Cx p l s m #[Value.ref (rS P 5)] meth c P D code 14 ret RL) (hfl : P.2.2.2.2.1 = true) (hI : LI N F T A i) (hi : i < 14) (kk : ∀ (N F T : Nat → Nat → Int32) (x : Int32) (of : Nat) (sn : Int32), LI N F T A i → of < 3 → sn = SN N F T → V p l e room_1 s m #[Value.ref (rS P 5)] below meth c P D Q 14 (nW P) False (cw P N F T K A w) 91 644 130 [(8, .int sn), (5, .int (nI of)), (4, .int x), (3, .int (nI i)), (2, .ref (rA P 0)), (1, .ref (rX P)), (0, .ref (rS P 5))] []) : V p l e room_1 s m #[Value.ref (rS P 5)] below meth c P D Q 14 (nW P) False (cw P N F T K A w) 91 644 44 [(3, .int (nI i)), (2, .ref (rA P 0)), (1, .ref (rX P)), (0, .ref (rS P 5))] [] := by
  have hT := LI_T hI
  have hKF := LI_KF hI
  refine v_aload_n C 3 dL_law_44 rfl ?_
  refine v_iconst (v := nI 4) C dL_law_45 rfl ?_
  refine v_iload_n C 0 dL_law_46 rfl ?_
  refine v_iadd C dL_law_47 ?_
  refine v_topE (b := nI (4 + i)) (nI_add 4 i) ?_
  refine go_P (run_S C (c_L_cell (by omega)) k_301 k_0 k_299 k_300 dd_L_cell ⟨Nat.le_of_ble_eq_true rfl, Nat.le_of_ble_eq_true rfl⟩ rfl (Nat.le_of_ble_eq_true rfl) dL_law_48 ⟨Nat.le_of_ble_eq_true rfl, Nat.le_of_ble_eq_true rfl⟩) (fun r _ => ?_)
  refine v_iconst (v := 2) C dL_law_51 rfl ?_
  refine v_ishr C dL_law_52 ?_
  refine v_top (fun x ex => ?_)
  refine v_istore (lv' := [(4, .int x), (3, .int (nI i)), (2, .ref (rA P 0)), (1, .ref (rX P)), (0, .ref (rS P 5))]) C dL_law_53 (by decide) rfl ?_
  refine v_iload C 0 dL_law_55 rfl ?_
  refine v_iconst (v := nI 3) C dL_law_57 rfl ?_
  refine go_P (run_S C (c_L_below (by omega) (by omega)) k_297 k_0 k_295 k_296 dd_L_below ⟨Nat.le_of_ble_eq_true rfl, Nat.le_of_ble_eq_true rfl⟩ rfl (Nat.le_of_ble_eq_true rfl) dL_law_58 ⟨Nat.le_of_ble_eq_true rfl, Nat.le_of_ble_eq_true rfl⟩) (fun rq hof => ?_)
  obtain ⟨of, hof, rfl⟩ := hof
  refine v_istore (lv' := [(5, .int (nI of)), (4, .int x), (3, .int (nI i)), (2, .ref (rA P 0)), (1, .ref (rX P)), (0, .ref (rS P 5))]) C dL_law_61 (by decide) rfl ?_
  refine v_aload_n C 4 dL_law_63 rfl ?_
  refine go_L (run_V C (c_X3_digest hT (by omega)) k_286 k_1 k_283 k_284 k_285 dd_X3_digest ⟨Nat.le_of_ble_eq_true rfl, Nat.le_of_ble_eq_true rfl⟩ rcX rfl (Nat.le_of_ble_eq_true rfl) dL_law_64 ⟨Nat.le_of_ble_eq_true rfl, Nat.le_of_ble_eq_true rfl⟩) ?_
  refine v_topl (fun d0 ed => ?_)
  refine v_lstore (lv' := [(6, .long d0), (5, .int (nI of)), (4, .int x), (3, .int (nI i)), (2, .ref (rA P 0)), (1, .ref (rX P)), (0, .ref (rS P 5))]) C dL_law_67 (by decide) rfl ?_
  refine v_aload_n C 5 dL_law_69 rfl ?_
  refine v_iconst (v := 5) C dL_law_70 rfl ?_
  refine v_iconst (v := 4) C dL_law_71 rfl ?_
  obtain ⟨N1, F1, T1, hN1, hFF1, hTT1, hF1⟩ := t_foresee (l := l) (P := P) (D := D) (N := N) (F := F) (T := T) (K := K) (A := A) (w := w) hT hKF
  have hT1 : T1 0 1 = nI 3 := by rw [hTT1]; exact hT
  obtain ⟨n, L9, rn, hn, hA9, hL9⟩ := LI_row hI hof (by omega)
  have hv1 : vp_in (N1 of 1) 4 := by
    rw [hN1 of (by omega), rn 1 (by omega)]
    exact vp_in_nI hn.2.1 (by omega)
  obtain ⟨g, hg, eg⟩ : ∃ g, g ≤ 162 ∧ (whl1 (N1 of)).2 = nI g := by
    rw [hN1 of (by omega)]
    exact work_rate rn hn hL9
  refine go_I (run_V C (hF1) k_263 k_1 k_260 k_261 k_262 dd_X3_foresee ⟨Nat.le_of_ble_eq_true rfl, Nat.le_of_ble_eq_true rfl⟩ rcX rfl (Nat.le_of_ble_eq_true rfl) dL_law_72 ⟨Nat.le_of_ble_eq_true rfl, Nat.le_of_ble_eq_true rfl⟩) ?_
  refine v_top (fun sn esn => ?_)
  refine v_istore (lv' := [(8, .int sn), (6, .long d0), (5, .int (nI of)), (4, .int x), (3, .int (nI i)), (2, .ref (rA P 0)), (1, .ref (rX P)), (0, .ref (rS P 5))]) C dL_law_75 (by decide) rfl ?_
  refine v_aload_n C 6 dL_law_77 rfl ?_
  refine v_iload C 2 dL_law_78 rfl ?_
  refine go_I (run_V C (t_rate hT1 (by omega) hof hv1) k_250 k_1 k_247 k_248 k_249 dd_X3_rate ⟨Nat.le_of_ble_eq_true rfl, Nat.le_of_ble_eq_true rfl⟩ rcX rfl (Nat.le_of_ble_eq_true rfl) dL_law_80 ⟨Nat.le_of_ble_eq_true rfl, Nat.le_of_ble_eq_true rfl⟩) ?_
  refine v_topE (b := nI g) eg ?_
  refine v_istore (lv' := [(9, .int (nI g)), (8, .int sn), (6, .long d0), (5, .int (nI of)), (4, .int x), (3, .int (nI i)), (2, .ref (rA P 0)), (1, .ref (rX P)), (0, .ref (rS P 5))]) C dL_law_83 (by decide) rfl ?_
  refine v_aload_n C 7 dL_law_85 rfl ?_
  refine v_iload C 3 dL_law_86 rfl ?_
  refine v_iconst (v := 3) C dL_law_88 rfl ?_
  obtain ⟨N2, eN2⟩ : ∃ z, z = va_up (trialN N1 of) 24 (whl1 (N1 of)).1 := ⟨_, rfl⟩
  rw [← eN2]
  obtain ⟨ad, had, ead⟩ := advL_le (q := 3) (j := of) 5 0 N2 0 (-1) ⟨0, by omega, rfl⟩
  refine go_I (run_V C (t_advise hT1 (by omega) hof) k_277 k_1 k_274 k_275 k_276 dd_X3_advise ⟨Nat.le_of_ble_eq_true rfl, Nat.le_of_ble_eq_true rfl⟩ rcX rfl (Nat.le_of_ble_eq_true rfl) dL_law_89 ⟨Nat.le_of_ble_eq_true rfl, Nat.le_of_ble_eq_true rfl⟩) ?_
  refine v_topE (b := nI ad) ead ?_
  refine v_istore (lv' := [(10, .int (nI ad)), (9, .int (nI g)), (8, .int sn), (6, .long d0), (5, .int (nI of)), (4, .int x), (3, .int (nI i)), (2, .ref (rA P 0)), (1, .ref (rX P)), (0, .ref (rS P 5))]) C dL_law_92 (by decide) rfl ?_
  refine v_aload_n C 8 dL_law_94 rfl ?_
  obtain ⟨N3, eN3⟩ : ∃ z, z = (advL 5 3 of 0 N2 0 (-1)).1 := ⟨_, rfl⟩
  rw [← eN3]
  have h3 : ∀ k, k < 3 → N3 k = N k := fun k hk => by
    rw [eN3, advL_of (by omega), eN2, va_up_ne _ _ (by omega)]
    unfold trialN
    rw [va_up_ne _ _ (by omega)]
    exact hN1 k (by omega)
  have h4 : ∀ k, k < 4 → F1 k = F k := fun k hk => hFF1 k hk
  have ecmp : lg_cmp (digC N3 F1 T1 3) d0 = 0 := by
    rw [ed, dig_sim (N := N) (F := F) (T := T) (fun k hk => h3 _ (by omega)) (fun k hk => h4 _ (by omega)) hTT1]
    unfold lg_cmp
    rw [if_neg (Int64.lt_irrefl), if_pos rfl]
  refine go_L (run_V C (c_X3_digest hT1 (by omega)) k_286 k_1 k_283 k_284 k_285 dd_X3_digest ⟨Nat.le_of_ble_eq_true rfl, Nat.le_of_ble_eq_true rfl⟩ rcX rfl (Nat.le_of_ble_eq_true rfl) dL_law_95 ⟨Nat.le_of_ble_eq_true rfl, Nat.le_of_ble_eq_true rfl⟩) ?_
  refine v_lload C 3 dL_law_98 rfl ?_
  refine v_lcmp C dL_law_100 ?_
  refine v_topE (b := 0) ecmp ?_
  refine v_if_ne (tgt := 128) C dL_law_101 (by decide) (fun h9 => absurd rfl h9) (fun _ => ?_)
  refine v_iload C 1 dL_law_104 rfl ?_
  refine v_if_lt (tgt := 128) C dL_law_106 (by decide) (fun h9 => absurd h9 (nI_pos (by omega))) (fun _ => ?_)
  refine v_iload C 1 dL_law_109 rfl ?_
  refine v_sipush (v := nI 162) C dL_law_111 rfl ?_
  refine v_icmp_gt (tgt := 128) C dL_law_114 (by decide) (fun h9 => absurd h9 (nI_nlt hg (by omega))) (fun _ => ?_)
  refine v_iload C 0 dL_law_117 rfl ?_
  refine v_if_lt (tgt := 128) C dL_law_119 (by decide) (fun h9 => absurd h9 (nI_pos (by omega))) (fun _ => ?_)
  refine v_iload C 0 dL_law_122 rfl ?_
  refine v_iconst (v := nI 3) C dL_law_124 rfl ?_
  refine v_icmp_le (tgt := 130) C dL_law_125 (by decide) (fun _ => ?_) (fun h9 => absurd (nI_le (show ad ≤ 3 by omega) (by omega)) h9)
  refine v_lv [2, 4, 5, 6, 7, 8, 9] rfl ?_
  exact kk N3 F1 T1 x of sn (LI_cong hI h3 h4 hTT1) hof (by rw [esn, SN_cong hKF h3 h4 hTT1])
set_option maxHeartbeats 4000000 in
theorem law_B4 (C : Cx p l s m #[Value.ref (rS P 5)] meth c P D code 14 ret RL) (hfl : P.2.2.2.2.1 = true) (hI : LI N F T A i) (hi : i < 14) {x : Int32} {of : Nat} {sn : Int32} (hof : of < 3) (hsn : sn = SN N F T) (kk : ∀ (N F T A : Nat → Nat → Int32), LI N F T A (i + 1) → V p l e room_1 s m #[Value.ref (rS P 5)] below meth c P D Q 14 (nW P) False (cw P N F T K A w) 91 644 289 [(3, .int (nI i)), (2, .ref (rA P 0)), (1, .ref (rX P)), (0, .ref (rS P 5))] []) : V p l e room_1 s m #[Value.ref (rS P 5)] below meth c P D Q 14 (nW P) False (cw P N F T K A w) 91 644 269 [(8, .int sn), (5, .int (nI of)), (4, .int x), (3, .int (nI i)), (2, .ref (rA P 0)), (1, .ref (rX P)), (0, .ref (rS P 5))] [] := by
  have hT := LI_T hI
  have hKF := LI_KF hI
  obtain ⟨hI2, hs⟩ := LI_pass hI hi
  have hT2 := LI_T hI2
  refine v_aload_n C 5 dL_law_269 rfl ?_
  refine v_iconst (v := 5) C dL_law_270 rfl ?_
  refine go_I (run_V C (c_X3_pass hT (by omega) hKF (p := 5) (by decide) (by decide)) k_190 k_1 k_187 k_188 k_189 dd_X3_pass ⟨Nat.le_of_ble_eq_true rfl, Nat.le_of_ble_eq_true rfl⟩ rcX rfl (Nat.le_of_ble_eq_true rfl) dL_law_271 ⟨Nat.le_of_ble_eq_true rfl, Nat.le_of_ble_eq_true rfl⟩) ?_
  refine v_if_lt (tgt := 287) C dL_law_274 (by decide) (fun h9 => absurd h9 hs) (fun _ => ?_)
  refine v_aload_n C 5 dL_law_277 rfl ?_
  refine v_iconst (v := 4) C dL_law_278 rfl ?_
  refine go_I (run_V C (c_X3_count_4 hT2 (by omega)) k_167 k_1 k_164 k_165 k_166 dd_X3_count ⟨Nat.le_of_ble_eq_true rfl, Nat.le_of_ble_eq_true rfl⟩ rcX rfl (Nat.le_of_ble_eq_true rfl) dL_law_279 ⟨Nat.le_of_ble_eq_true rfl, Nat.le_of_ble_eq_true rfl⟩) ?_
  have esn : totN (goB (fuel 5 0) 5 0 3 0 N F T 0).1 (goB (fuel 5 0) 5 0 3 0 N F T 0).2.1 (goB (fuel 5 0) 5 0 3 0 N F T 0).2.2.1 0 3 4 = sn := by
    rw [hsn]
    unfold totN SN
    rw [if_neg (by omega), if_neg (by omega), if_neg (by omega)]
  refine v_iload C 0 dL_law_282 rfl ?_
  refine v_icmp_eq (tgt := 289) C dL_law_284 (by decide) (fun _ => ?_) (fun h9 => absurd esn h9)
  refine v_lv [3, 4, 5, 6] rfl ?_
  exact kk _ _ _ _ hI2
set_option maxHeartbeats 4000000 in
theorem law_B3 (C : Cx p l s m #[Value.ref (rS P 5)] meth c P D code 14 ret RL) (hfl : P.2.2.2.2.1 = true) (hI : LI N F T A i) (hi : i < 14) {x : Int32} {of : Nat} {sn : Int32} (hof : of < 3) (hsn : sn = SN N F T) (kk : ∀ (N F T A : Nat → Nat → Int32), LI N F T A (i + 1) → V p l e room_1 s m #[Value.ref (rS P 5)] below meth c P D Q 14 (nW P) False (cw P N F T K A w) 91 644 289 [(3, .int (nI i)), (2, .ref (rA P 0)), (1, .ref (rX P)), (0, .ref (rS P 5))] []) : V p l e room_1 s m #[Value.ref (rS P 5)] below meth c P D Q 14 (nW P) False (cw P N F T K A w) 91 644 231 [(8, .int sn), (5, .int (nI of)), (4, .int x), (3, .int (nI i)), (2, .ref (rA P 0)), (1, .ref (rX P)), (0, .ref (rS P 5))] [] := by
  have hT := LI_T hI
  refine v_iload C 2 dL_law_231 rfl ?_
  refine v_iconst (v := 2) C dL_law_233 rfl ?_
  refine v_ishr C dL_law_234 ?_
  refine v_iconst (v := nI 4) C dL_law_235 rfl ?_
  refine go_P (run_S C (c_L_below (by omega) (by omega)) k_297 k_0 k_295 k_296 dd_L_below ⟨Nat.le_of_ble_eq_true rfl, Nat.le_of_ble_eq_true rfl⟩ rfl (Nat.le_of_ble_eq_true rfl) dL_law_236 ⟨Nat.le_of_ble_eq_true rfl, Nat.le_of_ble_eq_true rfl⟩) (fun ra ha => ?_)
  refine v_iconst (v := nI 2) C dL_law_239 rfl ?_
  refine v_icmp_ne (tgt := 269) C dL_law_240 (by decide) (fun h => law_B4 C hfl hI hi hof hsn kk) (fun h => ?_)
  refine v_aload_n C 5 dL_law_243 rfl ?_
  refine v_iload C 2 dL_law_244 rfl ?_
  refine v_iconst (v := 4) C dL_law_246 rfl ?_
  refine v_ishr C dL_law_247 ?_
  refine v_iconst (v := nI 4) C dL_law_248 rfl ?_
  refine go_P (run_S C (c_L_below (by omega) (by omega)) k_297 k_0 k_295 k_296 dd_L_below ⟨Nat.le_of_ble_eq_true rfl, Nat.le_of_ble_eq_true rfl⟩ rfl (Nat.le_of_ble_eq_true rfl) dL_law_249 ⟨Nat.le_of_ble_eq_true rfl, Nat.le_of_ble_eq_true rfl⟩) (fun rj hj => ?_)
  obtain ⟨j, hj, rfl⟩ := hj
  refine v_iload C 2 dL_law_252 rfl ?_
  refine v_bipush (v := 6) C dL_law_254 rfl ?_
  refine v_ishr C dL_law_256 ?_
  refine v_bipush (v := nI 61) C dL_law_257 rfl ?_
  refine go_P (run_S C (c_L_below (by omega) (by omega)) k_297 k_0 k_295 k_296 dd_L_below ⟨Nat.le_of_ble_eq_true rfl, Nat.le_of_ble_eq_true rfl⟩ rfl (Nat.le_of_ble_eq_true rfl) dL_law_259 ⟨Nat.le_of_ble_eq_true rfl, Nat.le_of_ble_eq_true rfl⟩) (fun rq hq => ?_)
  obtain ⟨q, hq, rfl⟩ := hq
  refine go_I (run_V C (t_keep hj (nI_pos (by omega)) (nI_le (b := 60) (show q ≤ 60 by omega) (by omega))) k_150 k_1 k_147 k_148 k_149 dd_X3_keep ⟨Nat.le_of_ble_eq_true rfl, Nat.le_of_ble_eq_true rfl⟩ rcX rfl (Nat.le_of_ble_eq_true rfl) dL_law_262 ⟨Nat.le_of_ble_eq_true rfl, Nat.le_of_ble_eq_true rfl⟩) ?_
  refine v_pop C dL_law_265 rfl ?_
  refine v_goto (tgt := 289) C dL_law_266 (by decide) ?_
  refine v_lv [3, 4, 5, 6] rfl ?_
  exact kk _ _ _ _ (LI_keep hI hq)
set_option maxHeartbeats 4000000 in
theorem law_B2 (C : Cx p l s m #[Value.ref (rS P 5)] meth c P D code 14 ret RL) (hfl : P.2.2.2.2.1 = true) (hI : LI N F T A i) (hi : i < 14) {x : Int32} {of : Nat} {sn : Int32} (hof : of < 3) (hsn : sn = SN N F T) (kk : ∀ (N F T A : Nat → Nat → Int32), LI N F T A (i + 1) → V p l e room_1 s m #[Value.ref (rS P 5)] below meth c P D Q 14 (nW P) False (cw P N F T K A w) 91 644 289 [(3, .int (nI i)), (2, .ref (rA P 0)), (1, .ref (rX P)), (0, .ref (rS P 5))] []) : V p l e room_1 s m #[Value.ref (rS P 5)] below meth c P D Q 14 (nW P) False (cw P N F T K A w) 91 644 175 [(8, .int sn), (5, .int (nI of)), (4, .int x), (3, .int (nI i)), (2, .ref (rA P 0)), (1, .ref (rX P)), (0, .ref (rS P 5))] [] := by
  have hT := LI_T hI
  refine v_iload C 2 dL_law_175 rfl ?_
  refine v_iconst (v := 2) C dL_law_177 rfl ?_
  refine v_ishr C dL_law_178 ?_
  refine v_iconst (v := nI 4) C dL_law_179 rfl ?_
  refine go_P (run_S C (c_L_below (by omega) (by omega)) k_297 k_0 k_295 k_296 dd_L_below ⟨Nat.le_of_ble_eq_true rfl, Nat.le_of_ble_eq_true rfl⟩ rfl (Nat.le_of_ble_eq_true rfl) dL_law_180 ⟨Nat.le_of_ble_eq_true rfl, Nat.le_of_ble_eq_true rfl⟩) (fun ra ha => ?_)
  refine v_iconst (v := nI 1) C dL_law_183 rfl ?_
  refine v_icmp_ne (tgt := 231) C dL_law_184 (by decide) (fun h => law_B3 C hfl hI hi hof hsn kk) (fun h => ?_)
  refine v_aload_n C 5 dL_law_187 rfl ?_
  refine v_iload C 1 dL_law_188 rfl ?_
  refine v_bipush (v := 7) C dL_law_190 rfl ?_
  refine go_I (run_V C (t_told_7 hT (by omega) hof) k_137 k_1 k_134 k_135 k_136 dd_X3_told ⟨Nat.le_of_ble_eq_true rfl, Nat.le_of_ble_eq_true rfl⟩ rcX rfl (Nat.le_of_ble_eq_true rfl) dL_law_192 ⟨Nat.le_of_ble_eq_true rfl, Nat.le_of_ble_eq_true rfl⟩) ?_
  refine v_if_le (tgt := 231) C dL_law_195 (by decide) (fun h7 => law_B3 C hfl hI hi hof hsn kk) (fun h7 => ?_)
  refine v_aload_n C 5 dL_law_198 rfl ?_
  refine v_iload C 1 dL_law_199 rfl ?_
  refine v_bipush (v := 6) C dL_law_201 rfl ?_
  refine go_I (run_V C (t_told_6 hT (by omega) hof) k_137 k_1 k_134 k_135 k_136 dd_X3_told ⟨Nat.le_of_ble_eq_true rfl, Nat.le_of_ble_eq_true rfl⟩ rcX rfl (Nat.le_of_ble_eq_true rfl) dL_law_203 ⟨Nat.le_of_ble_eq_true rfl, Nat.le_of_ble_eq_true rfl⟩) ?_
  refine v_bipush (v := nI 96) C dL_law_206 rfl ?_
  refine v_icmp_ge (tgt := 231) C dL_law_208 (by decide) (fun h6 => law_B3 C hfl hI hi hof hsn kk) (fun h6 => ?_)
  refine v_aload_n C 5 dL_law_211 rfl ?_
  refine v_iload C 1 dL_law_212 rfl ?_
  refine v_iconst (v := nI 1) C dL_law_214 rfl ?_
  refine v_iload C 2 dL_law_215 rfl ?_
  refine v_iconst (v := 4) C dL_law_217 rfl ?_
  refine v_ishr C dL_law_218 ?_
  refine v_iconst (v := nI 4) C dL_law_219 rfl ?_
  refine go_P (run_S C (c_L_below (by omega) (by omega)) k_297 k_0 k_295 k_296 dd_L_below ⟨Nat.le_of_ble_eq_true rfl, Nat.le_of_ble_eq_true rfl⟩ rfl (Nat.le_of_ble_eq_true rfl) dL_law_220 ⟨Nat.le_of_ble_eq_true rfl, Nat.le_of_ble_eq_true rfl⟩) (fun ry hy => ?_)
  obtain ⟨y, hy, rfl⟩ := hy
  refine v_iadd C dL_law_223 ?_
  refine v_topE (b := nI (1 + y)) (nI_add 1 y) ?_
  obtain ⟨g7, g6, hI2⟩ := LI_coal hI hof hi hy h7 h6
  refine go_I (run_V C (t_coal hT (by omega) hof (nI_nlt (b := 1) (show 1 ≤ 1 + y by omega) (by omega)) (nI_le (b := 99) (show 1 + y ≤ 99 by omega) (by omega)) g7 g6) k_132 k_1 k_129 k_130 k_131 dd_X3_coal ⟨Nat.le_of_ble_eq_true rfl, Nat.le_of_ble_eq_true rfl⟩ rcX rfl (Nat.le_of_ble_eq_true rfl) dL_law_224 ⟨Nat.le_of_ble_eq_true rfl, Nat.le_of_ble_eq_true rfl⟩) ?_
  refine v_pop C dL_law_227 rfl ?_
  refine v_goto (tgt := 289) C dL_law_228 (by decide) ?_
  refine v_lv [3, 4, 5, 6] rfl ?_
  exact kk _ _ _ _ hI2
set_option maxHeartbeats 4000000 in
theorem law_B (C : Cx p l s m #[Value.ref (rS P 5)] meth c P D code 14 ret RL) (hfl : P.2.2.2.2.1 = true) (hI : LI N F T A i) (hi : i < 14) {x : Int32} {of : Nat} {sn : Int32} (hof : of < 3) (hsn : sn = SN N F T) (kk : ∀ (N F T A : Nat → Nat → Int32), LI N F T A (i + 1) → V p l e room_1 s m #[Value.ref (rS P 5)] below meth c P D Q 14 (nW P) False (cw P N F T K A w) 91 644 289 [(3, .int (nI i)), (2, .ref (rA P 0)), (1, .ref (rX P)), (0, .ref (rS P 5))] []) : V p l e room_1 s m #[Value.ref (rS P 5)] below meth c P D Q 14 (nW P) False (cw P N F T K A w) 91 644 130 [(8, .int sn), (5, .int (nI of)), (4, .int x), (3, .int (nI i)), (2, .ref (rA P 0)), (1, .ref (rX P)), (0, .ref (rS P 5))] [] := by
  have hT := LI_T hI
  refine v_iload C 2 dL_law_130 rfl ?_
  refine v_iconst (v := 2) C dL_law_132 rfl ?_
  refine v_ishr C dL_law_133 ?_
  refine v_iconst (v := nI 4) C dL_law_134 rfl ?_
  refine go_P (run_S C (c_L_below (by omega) (by omega)) k_297 k_0 k_295 k_296 dd_L_below ⟨Nat.le_of_ble_eq_true rfl, Nat.le_of_ble_eq_true rfl⟩ rfl (Nat.le_of_ble_eq_true rfl) dL_law_135 ⟨Nat.le_of_ble_eq_true rfl, Nat.le_of_ble_eq_true rfl⟩) (fun ra ha => ?_)
  refine v_if_ne (tgt := 175) C dL_law_138 (by decide) (fun h => law_B2 C hfl hI hi hof hsn kk) (fun h => ?_)
  refine v_aload_n C 5 dL_law_141 rfl ?_
  refine v_iload C 1 dL_law_142 rfl ?_
  refine v_bipush (v := 8) C dL_law_144 rfl ?_
  refine go_I (run_V C (t_told_8 hT (by omega) hof) k_137 k_1 k_134 k_135 k_136 dd_X3_told ⟨Nat.le_of_ble_eq_true rfl, Nat.le_of_ble_eq_true rfl⟩ rcX rfl (Nat.le_of_ble_eq_true rfl) dL_law_146 ⟨Nat.le_of_ble_eq_true rfl, Nat.le_of_ble_eq_true rfl⟩) ?_
  refine v_bipush (v := nI 60) C dL_law_149 rfl ?_
  refine v_icmp_gt (tgt := 175) C dL_law_151 (by decide) (fun h8 => law_B2 C hfl hI hi hof hsn kk) (fun h8 => ?_)
  obtain ⟨g8, hI2⟩ := LI_lend hI hof hi h8
  refine v_aload_n C 5 dL_law_154 rfl ?_
  refine v_iload C 1 dL_law_155 rfl ?_
  refine v_bipush (v := nI 10) C dL_law_157 rfl ?_
  refine go_I (run_V C (t_lend hT (by omega) hof (by decide) (by decide) g8) k_15 k_1 k_12 k_13 k_14 dd_X3_lend ⟨Nat.le_of_ble_eq_true rfl, Nat.le_of_ble_eq_true rfl⟩ rcX rfl (Nat.le_of_ble_eq_true rfl) dL_law_159 ⟨Nat.le_of_ble_eq_true rfl, Nat.le_of_ble_eq_true rfl⟩) ?_
  refine v_pop C dL_law_162 rfl ?_
  refine v_aload_n C 4 dL_law_163 rfl ?_
  refine v_iload C 1 dL_law_164 rfl ?_
  refine v_dup2 C dL_law_166 rfl rfl ?_
  refine v_ldE C hfl of rfl hof dL_law_167 ?_
  refine v_bipush (v := nI 10) C dL_law_168 rfl ?_
  refine v_iadd C dL_law_170 ?_
  refine v_stE C hfl of rfl hof dL_law_171 ?_
  refine v_goto (tgt := 289) C dL_law_172 (by decide) ?_
  refine v_lv [3, 4, 5, 6] rfl ?_
  exact kk _ _ _ _ hI2
set_option maxHeartbeats 4000000 in
theorem law_Ci (C : Cx p l s m #[Value.ref (rS P 5)] meth c P D code 14 ret RL) (hfl : P.2.2.2.2.1 = true) {i2 : Nat} (hI : LI N F T A i2) (hi : i2 ≤ 14) {k : Nat} (hk : k < 3) (kk : V p l e room_1 s m #[Value.ref (rS P 5)] below meth c P D Q 14 (nW P) False (cw P N F T K A w) 91 644 499 [(11, .int (nI k)), (3, .int (nI i)), (2, .ref (rA P 0)), (1, .ref (rX P)), (0, .ref (rS P 5))] []) : ∀ (n t : Nat), t + n = 4 → V p l e room_1 s m #[Value.ref (rS P 5)] below meth c P D Q 14 (nW P) False (cw P N F T K A w) 91 644 446 [(13, .int (nI t)), (11, .int (nI k)), (3, .int (nI i)), (2, .ref (rA P 0)), (1, .ref (rX P)), (0, .ref (rS P 5))] [] := by
  have hT := LI_T hI
  obtain ⟨n9, L9, rn, hn, hA9, hL9⟩ := LI_row hI hk hi
  have hl : ∀ t, t < 4 → N k (12 + t) = nI (n9 (12 + t)) ∧ n9 (12 + t) < 1000 := fun t ht => ⟨rn _ (by omega), hn.2.2.2.2.2.2.2.1 t ht⟩
  intro n
  induction n with
  | zero =>
    intro t ht
    refine v_iload C 0 dL_law_446 rfl ?_
    refine v_iconst (v := nI 4) C dL_law_448 rfl ?_
    refine v_icmp_ge (tgt := 499) C dL_law_449 (by decide) (fun _ => ?_) (fun h9 => absurd (nI_le (show 4 ≤ t by omega) (by omega)) h9)
    refine v_lv [1, 2, 3, 4, 5] rfl ?_
    exact kk
  | succ n ih =>
    intro t ht
    obtain ⟨e12, b12⟩ := hl t (by omega)
    have hb : ∃ b, b < 2 ^ 31 ∧ N k (16 + t) = nI b := by
      refine ⟨n9 (16 + t), ?_, rn _ (by omega)⟩
      have hs := hn.2.2.2.2.2.2.2.2.2
      rcases (show t = 0 ∨ t = 1 ∨ t = 2 ∨ t = 3 by omega) with rfl | rfl | rfl | rfl <;> simp only [Nat.reduceAdd] <;> omega
    obtain ⟨b, hb, e16⟩ := hb
    refine v_iload C 0 dL_law_446 rfl ?_
    refine v_iconst (v := nI 4) C dL_law_448 rfl ?_
    refine v_icmp_ge (tgt := 499) C dL_law_449 (by decide) (fun h9 => absurd h9 (nI_ge (show t < 4 by omega) (by omega))) (fun _ => ?_)
    refine v_aload_n C 4 dL_law_452 rfl ?_
    refine v_iload C 1 dL_law_453 rfl ?_
    refine v_iload C 0 dL_law_455 rfl ?_
    refine v_iconst (v := 0) C dL_law_457 rfl ?_
    refine go_I (run_V C (t_nails_0 hT (by omega) hk (by omega)) k_146 k_1 k_143 k_144 k_145 dd_X3_nails ⟨Nat.le_of_ble_eq_true rfl, Nat.le_of_ble_eq_true rfl⟩ rcX rfl (Nat.le_of_ble_eq_true rfl) dL_law_458 ⟨Nat.le_of_ble_eq_true rfl, Nat.le_of_ble_eq_true rfl⟩) ?_
    refine v_if_lt (tgt := 491) C dL_law_461 (by decide) (fun h9 => absurd h9 (by rw [e12]; exact nI_pos (by omega))) (fun _ => ?_)
    refine v_aload_n C 4 dL_law_464 rfl ?_
    refine v_iload C 1 dL_law_465 rfl ?_
    refine v_iload C 0 dL_law_467 rfl ?_
    refine v_iconst (v := 0) C dL_law_469 rfl ?_
    refine go_I (run_V C (t_nails_0 hT (by omega) hk (by omega)) k_146 k_1 k_143 k_144 k_145 dd_X3_nails ⟨Nat.le_of_ble_eq_true rfl, Nat.le_of_ble_eq_true rfl⟩ rcX rfl (Nat.le_of_ble_eq_true rfl) dL_law_470 ⟨Nat.le_of_ble_eq_true rfl, Nat.le_of_ble_eq_true rfl⟩) ?_
    refine v_sipush (v := nI 999) C dL_law_473 rfl ?_
    refine v_icmp_gt (tgt := 491) C dL_law_476 (by decide) (fun h9 => absurd h9 (by rw [e12]; exact nI_nlt (by omega) (by omega))) (fun _ => ?_)
    refine v_aload_n C 4 dL_law_479 rfl ?_
    refine v_iload C 1 dL_law_480 rfl ?_
    refine v_iload C 0 dL_law_482 rfl ?_
    refine v_iconst (v := 1) C dL_law_484 rfl ?_
    refine go_I (run_V C (t_nails_1 hT (by omega) hk (by omega)) k_146 k_1 k_143 k_144 k_145 dd_X3_nails ⟨Nat.le_of_ble_eq_true rfl, Nat.le_of_ble_eq_true rfl⟩ rcX rfl (Nat.le_of_ble_eq_true rfl) dL_law_485 ⟨Nat.le_of_ble_eq_true rfl, Nat.le_of_ble_eq_true rfl⟩) ?_
    refine v_if_ge (tgt := 493) C dL_law_488 (by decide) (fun _ => ?_) (fun h9 => absurd (by rw [e16]; exact nI_pos' hb) h9)
    refine v_iinc (b := nI (t + 1)) (lv' := [(13, .int (nI (t + 1))), (11, .int (nI k)), (3, .int (nI i)), (2, .ref (rA P 0)), (1, .ref (rX P)), (0, .ref (rS P 5))]) C 0 dL_law_493 rfl (nI_1 _) (by decide) rfl ?_
    refine v_goto (tgt := 446) C dL_law_496 (by decide) ?_
    refine v_lv [0, 1, 2, 3, 4, 5] rfl ?_
    exact ih (t + 1) (by omega)
set_option maxHeartbeats 4000000 in
theorem law_C (C : Cx p l s m #[Value.ref (rS P 5)] meth c P D code 14 ret RL) (hfl : P.2.2.2.2.1 = true) {i2 : Nat} (hI : LI N F T A i2) (hi : i2 ≤ 14) (kk : V p l e room_1 s m #[Value.ref (rS P 5)] below meth c P D Q 14 (nW P) False (cw P N F T K A w) 91 644 505 [(3, .int (nI i)), (2, .ref (rA P 0)), (1, .ref (rX P)), (0, .ref (rS P 5))] []) : ∀ (n k : Nat), k + n = 3 → V p l e room_1 s m #[Value.ref (rS P 5)] below meth c P D Q 14 (nW P) False (cw P N F T K A w) 91 644 292 [(11, .int (nI k)), (3, .int (nI i)), (2, .ref (rA P 0)), (1, .ref (rX P)), (0, .ref (rS P 5))] [] := by
  have hT := LI_T hI
  intro n
  induction n with
  | zero =>
    intro k hk9
    refine v_iload C 0 dL_law_292 rfl ?_
    refine v_iconst (v := nI 3) C dL_law_294 rfl ?_
    refine v_icmp_ge (tgt := 505) C dL_law_295 (by decide) (fun _ => ?_) (fun h9 => absurd (nI_le (show 3 ≤ k by omega) (by omega)) h9)
    refine v_lv [1, 2, 3, 4] rfl ?_
    exact kk
  | succ n ih =>
    intro k hk9
    have hk : k < 3 := by omega
    obtain ⟨n9, L9, rn, hn, hA9, hL9⟩ := LI_row hI hk hi
    have hir := iron_ok rn hn
    rw [← hA9] at hir
    have h1 : vp_in (N k 1) 4 := by
      rw [rn 1 (by omega)]
      exact vp_in_nI hn.2.1 (by omega)
    obtain ⟨-, -, -, -, h5, h6, h8, -, -, hb⟩ := hn
    have e5 := rn 5 (by omega)
    have e6 := rn 6 (by omega)
    have e7 := rn 7 (by omega)
    have e8 := rn 8 (by omega)
    refine v_iload C 0 dL_law_292 rfl ?_
    refine v_iconst (v := nI 3) C dL_law_294 rfl ?_
    refine v_icmp_ge (tgt := 505) C dL_law_295 (by decide) (fun h9 => absurd h9 (nI_ge (show k < 3 by omega) (by omega))) (fun _ => ?_)
    refine v_aload_n C 3 dL_law_298 rfl ?_
    refine v_iload C 0 dL_law_299 rfl ?_
    refine v_iconst (v := 4) C dL_law_301 rfl ?_
    refine go_I (run_V C (t_told_4 hT (by omega) hk) k_137 k_1 k_134 k_135 k_136 dd_X3_told ⟨Nat.le_of_ble_eq_true rfl, Nat.le_of_ble_eq_true rfl⟩ rcX rfl (Nat.le_of_ble_eq_true rfl) dL_law_302 ⟨Nat.le_of_ble_eq_true rfl, Nat.le_of_ble_eq_true rfl⟩) ?_
    refine v_aload_n C 3 dL_law_305 rfl ?_
    refine v_iload C 0 dL_law_306 rfl ?_
    refine v_bipush (v := 9) C dL_law_308 rfl ?_
    refine go_I (run_V C (t_told_9 hT (by omega) hk) k_137 k_1 k_134 k_135 k_136 dd_X3_told ⟨Nat.le_of_ble_eq_true rfl, Nat.le_of_ble_eq_true rfl⟩ rcX rfl (Nat.le_of_ble_eq_true rfl) dL_law_310 ⟨Nat.le_of_ble_eq_true rfl, Nat.le_of_ble_eq_true rfl⟩) ?_
    refine v_iadd C dL_law_313 ?_
    refine v_sipush (v := nI 240) C dL_law_314 rfl ?_
    refine v_aload_n C 3 dL_law_317 rfl ?_
    refine v_iload C 0 dL_law_318 rfl ?_
    refine v_iconst (v := 3) C dL_law_320 rfl ?_
    refine go_I (run_V C (t_told_3 hT (by omega) hk) k_137 k_1 k_134 k_135 k_136 dd_X3_told ⟨Nat.le_of_ble_eq_true rfl, Nat.le_of_ble_eq_true rfl⟩ rcX rfl (Nat.le_of_ble_eq_true rfl) dL_law_321 ⟨Nat.le_of_ble_eq_true rfl, Nat.le_of_ble_eq_true rfl⟩) ?_
    refine v_imul C dL_law_324 ?_
    refine v_iadd C dL_law_325 ?_
    refine v_gS C 2 rfl k_445 dL_law_326 ?_
    refine v_aload_n C 3 dL_law_329 rfl ?_
    refine v_iload C 0 dL_law_330 rfl ?_
    refine v_iconst (v := 1) C dL_law_332 rfl ?_
    refine go_I (run_V C (t_told_1 hT (by omega) hk) k_137 k_1 k_134 k_135 k_136 dd_X3_told ⟨Nat.le_of_ble_eq_true rfl, Nat.le_of_ble_eq_true rfl⟩ rcX rfl (Nat.le_of_ble_eq_true rfl) dL_law_333 ⟨Nat.le_of_ble_eq_true rfl, Nat.le_of_ble_eq_true rfl⟩) ?_
    refine v_ldS C 2 rfl h1 dL_law_336 ?_
    refine v_aload_n C 3 dL_law_337 rfl ?_
    refine v_iload C 0 dL_law_338 rfl ?_
    refine v_bipush (v := 10) C dL_law_340 rfl ?_
    refine go_I (run_V C (t_told_10 hT (by omega) hk) k_137 k_1 k_134 k_135 k_136 dd_X3_told ⟨Nat.le_of_ble_eq_true rfl, Nat.le_of_ble_eq_true rfl⟩ rcX rfl (Nat.le_of_ble_eq_true rfl) dL_law_342 ⟨Nat.le_of_ble_eq_true rfl, Nat.le_of_ble_eq_true rfl⟩) ?_
    refine v_aload_n C 3 dL_law_345 rfl ?_
    refine v_iload C 0 dL_law_346 rfl ?_
    refine v_bipush (v := 11) C dL_law_348 rfl ?_
    refine go_I (run_V C (t_told_11 hT (by omega) hk) k_137 k_1 k_134 k_135 k_136 dd_X3_told ⟨Nat.le_of_ble_eq_true rfl, Nat.le_of_ble_eq_true rfl⟩ rcX rfl (Nat.le_of_ble_eq_true rfl) dL_law_350 ⟨Nat.le_of_ble_eq_true rfl, Nat.le_of_ble_eq_true rfl⟩) ?_
    refine v_iadd C dL_law_353 ?_
    refine v_imul C dL_law_354 ?_
    refine v_iadd C dL_law_355 ?_
    refine v_top (fun y ey => ?_)
    refine v_istore (lv' := [(12, .int y), (11, .int (nI k)), (3, .int (nI i)), (2, .ref (rA P 0)), (1, .ref (rX P)), (0, .ref (rS P 5))]) C dL_law_356 (by decide) rfl ?_
    refine v_iload C 0 dL_law_358 rfl ?_
    refine v_sipush (v := nI 240) C dL_law_360 rfl ?_
    refine v_aload_n C 3 dL_law_363 rfl ?_
    refine v_iload C 1 dL_law_364 rfl ?_
    refine v_ldE C hfl k rfl hk dL_law_366 ?_
    refine v_imul C dL_law_367 ?_
    refine v_icmp_ne (tgt := 441) C dL_law_368 (by decide) (fun h9 => absurd (ey.trans hir) h9) (fun _ => ?_)
    refine v_aload_n C 4 dL_law_371 rfl ?_
    refine v_iload C 1 dL_law_372 rfl ?_
    refine v_iconst (v := 5) C dL_law_374 rfl ?_
    refine go_I (run_V C (t_told_5 hT (by omega) hk) k_137 k_1 k_134 k_135 k_136 dd_X3_told ⟨Nat.le_of_ble_eq_true rfl, Nat.le_of_ble_eq_true rfl⟩ rcX rfl (Nat.le_of_ble_eq_true rfl) dL_law_375 ⟨Nat.le_of_ble_eq_true rfl, Nat.le_of_ble_eq_true rfl⟩) ?_
    refine v_if_lt (tgt := 441) C dL_law_378 (by decide) (fun h9 => absurd h9 (by rw [e5]; exact nI_pos (by omega))) (fun _ => ?_)
    refine v_aload_n C 4 dL_law_381 rfl ?_
    refine v_iload C 1 dL_law_382 rfl ?_
    refine v_iconst (v := 5) C dL_law_384 rfl ?_
    refine go_I (run_V C (t_told_5 hT (by omega) hk) k_137 k_1 k_134 k_135 k_136 dd_X3_told ⟨Nat.le_of_ble_eq_true rfl, Nat.le_of_ble_eq_true rfl⟩ rcX rfl (Nat.le_of_ble_eq_true rfl) dL_law_385 ⟨Nat.le_of_ble_eq_true rfl, Nat.le_of_ble_eq_true rfl⟩) ?_
    refine v_bipush (v := nI 9) C dL_law_388 rfl ?_
    refine v_icmp_gt (tgt := 441) C dL_law_390 (by decide) (fun h9 => absurd h9 (by rw [e5]; exact nI_nlt h5 (by omega))) (fun _ => ?_)
    refine v_aload_n C 4 dL_law_393 rfl ?_
    refine v_iload C 1 dL_law_394 rfl ?_
    refine v_bipush (v := 6) C dL_law_396 rfl ?_
    refine go_I (run_V C (t_told_6 hT (by omega) hk) k_137 k_1 k_134 k_135 k_136 dd_X3_told ⟨Nat.le_of_ble_eq_true rfl, Nat.le_of_ble_eq_true rfl⟩ rcX rfl (Nat.le_of_ble_eq_true rfl) dL_law_398 ⟨Nat.le_of_ble_eq_true rfl, Nat.le_of_ble_eq_true rfl⟩) ?_
    refine v_bipush (v := nI 99) C dL_law_401 rfl ?_
    refine v_icmp_gt (tgt := 441) C dL_law_403 (by decide) (fun h9 => absurd h9 (by rw [e6]; exact nI_nlt h6 (by omega))) (fun _ => ?_)
    refine v_aload_n C 4 dL_law_406 rfl ?_
    refine v_iload C 1 dL_law_407 rfl ?_
    refine v_bipush (v := 7) C dL_law_409 rfl ?_
    refine go_I (run_V C (t_told_7 hT (by omega) hk) k_137 k_1 k_134 k_135 k_136 dd_X3_told ⟨Nat.le_of_ble_eq_true rfl, Nat.le_of_ble_eq_true rfl⟩ rcX rfl (Nat.le_of_ble_eq_true rfl) dL_law_411 ⟨Nat.le_of_ble_eq_true rfl, Nat.le_of_ble_eq_true rfl⟩) ?_
    refine v_if_lt (tgt := 441) C dL_law_414 (by decide) (fun h9 => absurd h9 (by rw [e7]; exact nI_pos (by omega))) (fun _ => ?_)
    refine v_aload_n C 4 dL_law_417 rfl ?_
    refine v_iload C 1 dL_law_418 rfl ?_
    refine v_bipush (v := 8) C dL_law_420 rfl ?_
    refine go_I (run_V C (t_told_8 hT (by omega) hk) k_137 k_1 k_134 k_135 k_136 dd_X3_told ⟨Nat.le_of_ble_eq_true rfl, Nat.le_of_ble_eq_true rfl⟩ rcX rfl (Nat.le_of_ble_eq_true rfl) dL_law_422 ⟨Nat.le_of_ble_eq_true rfl, Nat.le_of_ble_eq_true rfl⟩) ?_
    refine v_if_lt (tgt := 441) C dL_law_425 (by decide) (fun h9 => absurd h9 (by rw [e8]; exact nI_pos (by omega))) (fun _ => ?_)
    refine v_aload_n C 4 dL_law_428 rfl ?_
    refine v_iload C 1 dL_law_429 rfl ?_
    refine v_bipush (v := 8) C dL_law_431 rfl ?_
    refine go_I (run_V C (t_told_8 hT (by omega) hk) k_137 k_1 k_134 k_135 k_136 dd_X3_told ⟨Nat.le_of_ble_eq_true rfl, Nat.le_of_ble_eq_true rfl⟩ rcX rfl (Nat.le_of_ble_eq_true rfl) dL_law_433 ⟨Nat.le_of_ble_eq_true rfl, Nat.le_of_ble_eq_true rfl⟩) ?_
    refine v_bipush (v := nI 90) C dL_law_436 rfl ?_
    refine v_icmp_le (tgt := 443) C dL_law_438 (by decide) (fun _ => ?_) (fun h9 => absurd (by rw [e8]; exact nI_le h8 (by omega)) h9)
    refine v_iconst (v := nI 0) C dL_law_443 rfl ?_
    refine v_istore (lv' := [(13, .int (nI 0)), (12, .int y), (11, .int (nI k)), (3, .int (nI i)), (2, .ref (rA P 0)), (1, .ref (rX P)), (0, .ref (rS P 5))]) C dL_law_444 (by decide) rfl ?_
    refine v_lv [0, 2, 3, 4, 5, 6] rfl ?_
    refine law_Ci C hfl hI hi hk ?_ 4 0 (by omega)
    refine v_iinc (b := nI (k + 1)) (lv' := [(11, .int (nI (k + 1))), (3, .int (nI i)), (2, .ref (rA P 0)), (1, .ref (rX P)), (0, .ref (rS P 5))]) C 0 dL_law_499 rfl (nI_1 _) (by decide) rfl ?_
    refine v_goto (tgt := 292) C dL_law_502 (by decide) ?_
    exact ih (k + 1) (by omega)
set_option maxHeartbeats 4000000 in
theorem law_D (C : Cx p l s m #[Value.ref (rS P 5)] meth c P D code 14 ret RL) (hfl : P.2.2.2.2.1 = true) {i2 : Nat} (hI : LI N F T A i2) (hi : i2 ≤ 14) (kk : V p l e room_1 s m #[Value.ref (rS P 5)] below meth c P D Q 14 (nW P) False (cw P N F T K A w) 91 644 542 [(3, .int (nI i)), (2, .ref (rA P 0)), (1, .ref (rX P)), (0, .ref (rS P 5))] []) : ∀ (n k : Nat), k + n = 4 → V p l e room_1 s m #[Value.ref (rS P 5)] below meth c P D Q 14 (nW P) False (cw P N F T K A w) 91 644 508 [(11, .int (nI k)), (3, .int (nI i)), (2, .ref (rA P 0)), (1, .ref (rX P)), (0, .ref (rS P 5))] [] := by
  have hT := LI_T hI
  intro n
  induction n with
  | zero =>
    intro k hk9
    refine v_iload C 0 dL_law_508 rfl ?_
    refine v_iconst (v := nI 4) C dL_law_510 rfl ?_
    refine v_icmp_ge (tgt := 542) C dL_law_511 (by decide) (fun _ => ?_) (fun h9 => absurd (nI_le (show 4 ≤ k by omega) (by omega)) h9)
    refine v_lv [1, 2, 3, 4] rfl ?_
    exact kk
  | succ n ih =>
    intro k hk9
    have hk : k < 4 := by omega
    obtain ⟨Lf, -, -, hF, -⟩ := id hI
    obtain ⟨m9, rm, q1, q2, q3, q4, q5, q6⟩ := hF k hk
    unfold Bh at q1 q2
    have e5 : ¬ F k 4 - F k 3 < 0 := by
      rw [rm 4 (by omega), rm 3 (by omega), nI_sub q4]
      exact nI_pos (by omega)
    have e1 : 0 ≤ F k 1 := by
      rw [rm 1 (by omega)]
      exact nI_pos' (by omega)
    refine v_iload C 0 dL_law_508 rfl ?_
    refine v_iconst (v := nI 4) C dL_law_510 rfl ?_
    refine v_icmp_ge (tgt := 542) C dL_law_511 (by decide) (fun h9 => absurd h9 (nI_ge (show k < 4 by omega) (by omega))) (fun _ => ?_)
    refine v_aload_n C 3 dL_law_514 rfl ?_
    refine v_iload C 0 dL_law_515 rfl ?_
    refine v_iconst (v := 5) C dL_law_517 rfl ?_
    refine go_I (run_V C (t_fogger_5 hT (by omega) hk) k_154 k_1 k_151 k_152 k_153 dd_X3_fogger ⟨Nat.le_of_ble_eq_true rfl, Nat.le_of_ble_eq_true rfl⟩ rcX rfl (Nat.le_of_ble_eq_true rfl) dL_law_518 ⟨Nat.le_of_ble_eq_true rfl, Nat.le_of_ble_eq_true rfl⟩) ?_
    refine v_if_lt (tgt := 534) C dL_law_521 (by decide) (fun h9 => absurd h9 e5) (fun _ => ?_)
    refine v_aload_n C 3 dL_law_524 rfl ?_
    refine v_iload C 0 dL_law_525 rfl ?_
    refine v_iconst (v := 1) C dL_law_527 rfl ?_
    refine go_I (run_V C (t_fogger_1 hT (by omega) hk) k_154 k_1 k_151 k_152 k_153 dd_X3_fogger ⟨Nat.le_of_ble_eq_true rfl, Nat.le_of_ble_eq_true rfl⟩ rcX rfl (Nat.le_of_ble_eq_true rfl) dL_law_528 ⟨Nat.le_of_ble_eq_true rfl, Nat.le_of_ble_eq_true rfl⟩) ?_
    refine v_if_ge (tgt := 536) C dL_law_531 (by decide) (fun _ => ?_) (fun h9 => absurd e1 h9)
    refine v_iinc (b := nI (k + 1)) (lv' := [(11, .int (nI (k + 1))), (3, .int (nI i)), (2, .ref (rA P 0)), (1, .ref (rX P)), (0, .ref (rS P 5))]) C 0 dL_law_536 rfl (nI_1 _) (by decide) rfl ?_
    refine v_goto (tgt := 508) C dL_law_539 (by decide) ?_
    exact ih (k + 1) (by omega)
set_option maxHeartbeats 4000000 in
theorem law_E (C : Cx p l s m #[Value.ref (rS P 5)] meth c P D code 14 ret RL) (hfl : P.2.2.2.2.1 = true) {i2 : Nat} (hI : LI N F T A i2) (hi : i2 ≤ 14) (kk : V p l e room_1 s m #[Value.ref (rS P 5)] below meth c P D Q 14 (nW P) False (cw P N F T K A w) 91 644 38 [(3, .int (nI (i + 1))), (2, .ref (rA P 0)), (1, .ref (rX P)), (0, .ref (rS P 5))] []) : V p l e room_1 s m #[Value.ref (rS P 5)] below meth c P D Q 14 (nW P) False (cw P N F T K A w) 91 644 542 [(3, .int (nI i)), (2, .ref (rA P 0)), (1, .ref (rX P)), (0, .ref (rS P 5))] [] := by
  have hT := LI_T hI
  obtain ⟨kr, hkr, er⟩ := ric_ok (N := N)
  refine v_aload_n C 2 dL_law_542 rfl ?_
  refine v_bipush (v := 6) C dL_law_543 rfl ?_
  refine go_I (run_V C (c_X3_count_6 hT (by omega)) k_167 k_1 k_164 k_165 k_166 dd_X3_count ⟨Nat.le_of_ble_eq_true rfl, Nat.le_of_ble_eq_true rfl⟩ rcX rfl (Nat.le_of_ble_eq_true rfl) dL_law_545 ⟨Nat.le_of_ble_eq_true rfl, Nat.le_of_ble_eq_true rfl⟩) ?_
  refine v_aload_n C 2 dL_law_548 rfl ?_
  refine v_iconst (v := nI 0) C dL_law_549 rfl ?_
  refine v_iconst (v := 3) C dL_law_550 rfl ?_
  refine go_I (run_V C (t_fogger_3 (k := 0) hT (by omega) (by omega)) k_154 k_1 k_151 k_152 k_153 dd_X3_fogger ⟨Nat.le_of_ble_eq_true rfl, Nat.le_of_ble_eq_true rfl⟩ rcX rfl (Nat.le_of_ble_eq_true rfl) dL_law_551 ⟨Nat.le_of_ble_eq_true rfl, Nat.le_of_ble_eq_true rfl⟩) ?_
  refine v_aload_n C 2 dL_law_554 rfl ?_
  refine v_iconst (v := nI 1) C dL_law_555 rfl ?_
  refine v_iconst (v := 3) C dL_law_556 rfl ?_
  refine go_I (run_V C (t_fogger_3 (k := 1) hT (by omega) (by omega)) k_154 k_1 k_151 k_152 k_153 dd_X3_fogger ⟨Nat.le_of_ble_eq_true rfl, Nat.le_of_ble_eq_true rfl⟩ rcX rfl (Nat.le_of_ble_eq_true rfl) dL_law_557 ⟨Nat.le_of_ble_eq_true rfl, Nat.le_of_ble_eq_true rfl⟩) ?_
  refine v_iadd C dL_law_560 ?_
  refine v_aload_n C 2 dL_law_561 rfl ?_
  refine v_iconst (v := nI 2) C dL_law_562 rfl ?_
  refine v_iconst (v := 3) C dL_law_563 rfl ?_
  refine go_I (run_V C (t_fogger_3 (k := 2) hT (by omega) (by omega)) k_154 k_1 k_151 k_152 k_153 dd_X3_fogger ⟨Nat.le_of_ble_eq_true rfl, Nat.le_of_ble_eq_true rfl⟩ rcX rfl (Nat.le_of_ble_eq_true rfl) dL_law_564 ⟨Nat.le_of_ble_eq_true rfl, Nat.le_of_ble_eq_true rfl⟩) ?_
  refine v_iadd C dL_law_567 ?_
  refine v_aload_n C 2 dL_law_568 rfl ?_
  refine v_iconst (v := nI 3) C dL_law_569 rfl ?_
  refine v_iconst (v := 3) C dL_law_570 rfl ?_
  refine go_I (run_V C (t_fogger_3 (k := 3) hT (by omega) (by omega)) k_154 k_1 k_151 k_152 k_153 dd_X3_fogger ⟨Nat.le_of_ble_eq_true rfl, Nat.le_of_ble_eq_true rfl⟩ rcX rfl (Nat.le_of_ble_eq_true rfl) dL_law_571 ⟨Nat.le_of_ble_eq_true rfl, Nat.le_of_ble_eq_true rfl⟩) ?_
  refine v_iadd C dL_law_574 ?_
  refine v_icmp_ne (tgt := 585) C dL_law_575 (by decide) (fun h9 => absurd (show boughtF F (4 * 0) = _ from bought_eq.symm) h9) (fun _ => ?_)
  refine v_aload_n C 2 dL_law_578 rfl ?_
  refine go_I (run_V C (c_X3_richest hT (by omega)) k_282 k_1 k_279 k_280 k_281 dd_X3_richest ⟨Nat.le_of_ble_eq_true rfl, Nat.le_of_ble_eq_true rfl⟩ rcX rfl (Nat.le_of_ble_eq_true rfl) dL_law_579 ⟨Nat.le_of_ble_eq_true rfl, Nat.le_of_ble_eq_true rfl⟩) ?_
  refine v_if_ge (tgt := 587) C dL_law_582 (by decide) (fun _ => ?_) (fun h9 => absurd (by rw [er]; exact nI_pos' (by omega)) h9)
  refine v_iinc (b := nI (i + 1)) (lv' := [(3, .int (nI (i + 1))), (2, .ref (rA P 0)), (1, .ref (rX P)), (0, .ref (rS P 5))]) C 0 dL_law_587 rfl (nI_1 _) (by decide) rfl ?_
  refine v_goto (tgt := 38) C dL_law_590 (by decide) ?_
  exact kk
set_option maxHeartbeats 4000000 in
theorem law_loop (C : Cx p l s m #[Value.ref (rS P 5)] meth c P D code 14 ret RL) (hfl : P.2.2.2.2.1 = true) (hend : ∀ (N F T A : Nat → Nat → Int32), V p l e room_1 s m #[Value.ref (rS P 5)] below meth c P D Q 14 (nW P) False (cw P N F T K A w) 91 644 593 [(3, .int (nI 14)), (2, .ref (rA P 0)), (1, .ref (rX P)), (0, .ref (rS P 5))] []) : ∀ (n i : Nat) (N F T A : Nat → Nat → Int32), i + n = 14 → LI N F T A i → V p l e room_1 s m #[Value.ref (rS P 5)] below meth c P D Q 14 (nW P) False (cw P N F T K A w) 91 644 38 [(3, .int (nI i)), (2, .ref (rA P 0)), (1, .ref (rX P)), (0, .ref (rS P 5))] [] := by
  intro n
  induction n with
  | zero =>
    intro i N F T A hi hI
    obtain rfl : i = 14 := by omega
    refine v_iload_n C 0 dL_law_38 rfl ?_
    refine v_bipush (v := nI 14) C dL_law_39 rfl ?_
    refine v_icmp_ge (tgt := 593) C dL_law_41 (by decide) (fun _ => ?_) (fun h9 => absurd (Int32.le_refl _) h9)
    exact hend N F T A
  | succ n ih =>
    intro i N F T A hi hI
    refine v_iload_n C 0 dL_law_38 rfl ?_
    refine v_bipush (v := nI 14) C dL_law_39 rfl ?_
    refine v_icmp_ge (tgt := 593) C dL_law_41 (by decide) (fun h9 => absurd h9 (nI_ge (show i < 14 by omega) (by omega))) (fun _ => ?_)
    refine law_A C hfl hI (by omega) (fun N F T x of sn hI hof hsn => ?_)
    refine law_B C hfl hI (by omega) hof hsn (fun N F T A hI => ?_)
    refine v_iconst (v := nI 0) C dL_law_289 rfl ?_
    refine v_istore (lv' := [(11, .int (nI 0)), (3, .int (nI i)), (2, .ref (rA P 0)), (1, .ref (rX P)), (0, .ref (rS P 5))]) C dL_law_290 (by decide) rfl ?_
    refine law_C C hfl hI (by omega) ?_ 3 0 (by omega)
    refine v_iconst (v := nI 0) C dL_law_505 rfl ?_
    refine v_istore (lv' := [(11, .int (nI 0)), (3, .int (nI i)), (2, .ref (rA P 0)), (1, .ref (rX P)), (0, .ref (rS P 5))]) C dL_law_506 (by decide) rfl ?_
    refine law_D C hfl hI (by omega) ?_ 4 0 (by omega)
    refine law_E C hfl hI (by omega) ?_
    exact ih (i + 1) N F T A (by omega) hI
end LawBlocks
