/-! THE LAW: a block for each call (A) -/
theorem lg_self (x : Int64) : lg_cmp x x = 0 := by
  unfold lg_cmp
  rw [if_neg (fun h => Int64.lt_irrefl h), if_pos rfl]
section LawBlocks
variable {p : Program} {l : Launch} {e : Env} {s : State} {m : MethodId} {below : List Frame} {meth : Method} {c : Code} {P : L5} {D : va_G} {Q : State → Prop} {b L : Nat} {xs : Nat → Int32} {N F T : Nat → Nat → Int32} {K : Nat → Int32} {A : Nat → Nat → Int32} {w : Int64} {cn B i k z : Nat}
set_option maxHeartbeats 4000000 in
theorem b_nailer (C : Cx p l s m #[Value.ref b] meth c P D code 9 ret RL) (hX : va_X b L xs s s.heap) (hbl : b < s.heap.size) (hbP : b < P.1) (hL : L ≤ 2048) (hi : i + 4 ≤ L) (hl9 : l.stackTraces = false) (hI : Inv N F T K A cn B) (hB : B < 2 ^ 28) (hk : k + 1 ≤ 672103) (hz : z + 6 ≤ 7079794) (kk : ∀ (N2 F2 T2 : Nat → Nat → Int32) (K2 : Nat → Int32) (A2 : Nat → Nat → Int32) (c2 : Nat) (w2 : Int64) (k2 z2 : Nat), Inv N2 F2 T2 K2 A2 c2 (B + 20) → k2 ≤ k + 1 → z2 ≤ z + 6 → V p l e room_1 s m #[Value.ref b] below meth c P D Q 9 97 False (cw P N2 F2 T2 K2 A2 w2) k2 z2 1200 [(4, .int (nI i)), (3, .ref (rO P)), (2, .ref (rM P)), (1, .ref (rX P)), (0, .ref b)] []) : V p l e room_1 s m #[Value.ref b] below meth c P D Q 9 97 False (cw P N F T K A w) k z 124 [(4, .int (nI i)), (3, .ref (rO P)), (2, .ref (rM P)), (1, .ref (rX P)), (0, .ref b)] [] := by
  obtain ⟨N2, F2, T2, K2, A2, c2, w2, mc, ms, h2, mc2, ms2, k9, r9, hW, hM, hk9, hr9, hI2, hmc, hms, hh9⟩ := s_nailer (l := l) (P := P) (D := D) (w := w) hI hB hl9 (xs (i + 1)) (xs (i + 2)) (xs (i + 3))
  refine v_aload_n C 3 dL_law_124 rfl ?_
  refine v_aload_n C 4 dL_law_125 rfl ?_
  refine v_iload C 0 dL_law_126 rfl ?_
  refine v_iconst (v := 1) C dL_law_128 rfl ?_
  refine v_iadd C dL_law_129 ?_
  refine v_sld (t := i + 1) C hX hbl hbP (ixA rfl rfl) (by omega) hL dL_law_130 ?_
  refine v_aload_n C 4 dL_law_131 rfl ?_
  refine v_iload C 0 dL_law_132 rfl ?_
  refine v_iconst (v := 2) C dL_law_134 rfl ?_
  refine v_iadd C dL_law_135 ?_
  refine v_sld (t := i + 2) C hX hbl hbP (ixA rfl rfl) (by omega) hL dL_law_136 ?_
  refine v_aload_n C 4 dL_law_137 rfl ?_
  refine v_iload C 0 dL_law_138 rfl ?_
  refine v_iconst (v := 3) C dL_law_140 rfl ?_
  refine v_iadd C dL_law_141 ?_
  refine v_sld (t := i + 3) C hX hbl hbP (ixA rfl rfl) (by omega) hL dL_law_142 ?_
  refine v_aload_n C 1 dL_law_143 rfl ?_
  refine go_I (run_SW C hW k_204 k_0 k_202 k_203 dd_L_nailer ⟨Nat.le_of_ble_eq_true rfl, Nat.le_of_ble_eq_true rfl⟩ rfl (Nat.le_of_ble_eq_true rfl) dL_law_144 ⟨by show k + mc ≤ 672103; omega, by show z + ms ≤ 7079794; omega⟩) ?_
  refine v_istore (lv' := [(5, .int k9), (4, .int (nI i)), (3, .ref (rO P)), (2, .ref (rM P)), (1, .ref (rX P)), (0, .ref b)]) C dL_law_147 (by decide) rfl ?_
  refine v_aload_n C 3 dL_law_149 rfl ?_
  refine v_aload_n C 5 dL_law_150 rfl ?_
  refine v_iload C 1 dL_law_151 rfl ?_
  refine v_iconst (v := 1) C dL_law_153 rfl ?_
  refine v_iadd C dL_law_154 ?_
  refine v_sld (t := i + 1) C hX hbl hbP (ixA rfl rfl) (by omega) hL dL_law_155 ?_
  refine v_aload_n C 5 dL_law_156 rfl ?_
  refine v_iload C 1 dL_law_157 rfl ?_
  refine v_iconst (v := 2) C dL_law_159 rfl ?_
  refine v_iadd C dL_law_160 ?_
  refine v_sld (t := i + 2) C hX hbl hbP (ixA rfl rfl) (by omega) hL dL_law_161 ?_
  refine v_aload_n C 5 dL_law_162 rfl ?_
  refine v_iload C 1 dL_law_163 rfl ?_
  refine v_iconst (v := 3) C dL_law_165 rfl ?_
  refine v_iadd C dL_law_166 ?_
  refine v_sld (t := i + 3) C hX hbl hbP (ixA rfl rfl) (by omega) hL dL_law_167 ?_
  refine go_I (run_V C hM k_541 k_5 k_538 k_539 k_540 dd_X4_nailer ⟨by show h2 + 1 ≤ 12; omega, by show 8 + (5 + 11) + 28 * h2 ≤ 434; omega⟩ rcM rfl (Nat.le_of_ble_eq_true rfl) dL_law_168 ⟨by show k + mc + mc2 ≤ 672103; omega, by show z + ms + ms2 ≤ 7079794; omega⟩) ?_
  refine v_istore (lv' := [(6, .int r9), (5, .int k9), (4, .int (nI i)), (3, .ref (rO P)), (2, .ref (rM P)), (1, .ref (rX P)), (0, .ref b)]) C dL_law_171 (by decide) rfl ?_
  refine v_aload_n C 4 dL_law_173 rfl ?_
  refine go_I (run_V C c_X4_thrown k_506 k_5 k_503 k_504 k_505 dd_X4_thrown ⟨Nat.le_of_ble_eq_true rfl, Nat.le_of_ble_eq_true rfl⟩ rcM rfl (Nat.le_of_ble_eq_true rfl) dL_law_174 ⟨by show k + mc + mc2 + 0 ≤ 672103; omega, by show z + ms + ms2 + 0 ≤ 7079794; omega⟩) ?_
  refine v_iload C 1 dL_law_177 rfl ?_
  refine v_icmp_eq (tgt := 184) C dL_law_179 (by decide) (fun _ => ?_) (fun h9 => absurd hk9 h9)
  refine v_iload C 1 dL_law_184 rfl ?_
  refine v_if_ne (tgt := 201) C dL_law_186 (by decide) (fun _ => ?_) (fun h9 => ?_)
  · refine v_goto (tgt := 1200) C dL_law_201 (by decide) ?_
    refine v_lv [2, 3, 4, 5, 6] rfl ?_
    exact kk _ _ _ _ _ _ _ _ _ hI2 (by omega) (by omega)
  · refine v_aload_n C 3 dL_law_189 rfl ?_
    refine v_iconst (v := 0) C dL_law_190 rfl ?_
    refine v_ldO C dL_law_191 ?_
    refine v_iload C 0 dL_law_192 rfl ?_
    refine v_i2l C dL_law_194 ?_
    refine v_lcmp C dL_law_195 ?_
    refine v_if_eq (tgt := 201) C dL_law_196 (by decide) (fun _ => ?_) (fun h8 => absurd (by rw [hr9 h9]; exact lg_self _) h8)
    refine v_goto (tgt := 1200) C dL_law_201 (by decide) ?_
    refine v_lv [2, 3, 4, 5, 6] rfl ?_
    exact kk _ _ _ _ _ _ _ _ _ hI2 (by omega) (by omega)
set_option maxHeartbeats 4000000 in
theorem b_lend (C : Cx p l s m #[Value.ref b] meth c P D code 9 ret RL) (hX : va_X b L xs s s.heap) (hbl : b < s.heap.size) (hbP : b < P.1) (hL : L ≤ 2048) (hi : i + 4 ≤ L) (hl9 : l.stackTraces = false) (hI : Inv N F T K A cn B) (hB : B < 2 ^ 28) (hk : k + 1 ≤ 672103) (hz : z + 6 ≤ 7079794) (kk : ∀ (N2 F2 T2 : Nat → Nat → Int32) (K2 : Nat → Int32) (A2 : Nat → Nat → Int32) (c2 : Nat) (w2 : Int64) (k2 z2 : Nat), Inv N2 F2 T2 K2 A2 c2 (B + 20) → k2 ≤ k + 1 → z2 ≤ z + 6 → V p l e room_1 s m #[Value.ref b] below meth c P D Q 9 97 False (cw P N2 F2 T2 K2 A2 w2) k2 z2 1200 [(4, .int (nI i)), (3, .ref (rO P)), (2, .ref (rM P)), (1, .ref (rX P)), (0, .ref b)] []) : V p l e room_1 s m #[Value.ref b] below meth c P D Q 9 97 False (cw P N F T K A w) k z 204 [(4, .int (nI i)), (3, .ref (rO P)), (2, .ref (rM P)), (1, .ref (rX P)), (0, .ref b)] [] := by
  obtain ⟨N2, F2, T2, K2, A2, c2, w2, mc, ms, h2, mc2, ms2, k9, r9, hW, hM, hk9, hr9, hI2, hmc, hms, hh9⟩ := s_lend (l := l) (P := P) (D := D) (w := w) hI hB hl9 (xs (i + 1)) (xs (i + 2))
  refine v_aload_n C 3 dL_law_204 rfl ?_
  refine v_aload_n C 4 dL_law_205 rfl ?_
  refine v_iload C 0 dL_law_206 rfl ?_
  refine v_iconst (v := 1) C dL_law_208 rfl ?_
  refine v_iadd C dL_law_209 ?_
  refine v_sld (t := i + 1) C hX hbl hbP (ixA rfl rfl) (by omega) hL dL_law_210 ?_
  refine v_aload_n C 4 dL_law_211 rfl ?_
  refine v_iload C 0 dL_law_212 rfl ?_
  refine v_iconst (v := 2) C dL_law_214 rfl ?_
  refine v_iadd C dL_law_215 ?_
  refine v_sld (t := i + 2) C hX hbl hbP (ixA rfl rfl) (by omega) hL dL_law_216 ?_
  refine v_aload_n C 1 dL_law_217 rfl ?_
  refine go_I (run_SW C hW k_324 k_0 k_322 k_323 dd_L_lend ⟨Nat.le_of_ble_eq_true rfl, Nat.le_of_ble_eq_true rfl⟩ rfl (Nat.le_of_ble_eq_true rfl) dL_law_218 ⟨by show k + mc ≤ 672103; omega, by show z + ms ≤ 7079794; omega⟩) ?_
  refine v_istore (lv' := [(5, .int k9), (4, .int (nI i)), (3, .ref (rO P)), (2, .ref (rM P)), (1, .ref (rX P)), (0, .ref b)]) C dL_law_221 (by decide) rfl ?_
  refine v_aload_n C 3 dL_law_223 rfl ?_
  refine v_aload_n C 5 dL_law_224 rfl ?_
  refine v_iload C 1 dL_law_225 rfl ?_
  refine v_iconst (v := 1) C dL_law_227 rfl ?_
  refine v_iadd C dL_law_228 ?_
  refine v_sld (t := i + 1) C hX hbl hbP (ixA rfl rfl) (by omega) hL dL_law_229 ?_
  refine v_aload_n C 5 dL_law_230 rfl ?_
  refine v_iload C 1 dL_law_231 rfl ?_
  refine v_iconst (v := 2) C dL_law_233 rfl ?_
  refine v_iadd C dL_law_234 ?_
  refine v_sld (t := i + 2) C hX hbl hbP (ixA rfl rfl) (by omega) hL dL_law_235 ?_
  refine go_I (run_V C hM k_555 k_5 k_552 k_553 k_554 dd_X4_lend ⟨by show h2 + 1 ≤ 12; omega, by show 8 + (4 + 11) + 28 * h2 ≤ 434; omega⟩ rcM rfl (Nat.le_of_ble_eq_true rfl) dL_law_236 ⟨by show k + mc + mc2 ≤ 672103; omega, by show z + ms + ms2 ≤ 7079794; omega⟩) ?_
  refine v_istore (lv' := [(6, .int r9), (5, .int k9), (4, .int (nI i)), (3, .ref (rO P)), (2, .ref (rM P)), (1, .ref (rX P)), (0, .ref b)]) C dL_law_239 (by decide) rfl ?_
  refine v_aload_n C 4 dL_law_241 rfl ?_
  refine go_I (run_V C c_X4_thrown k_506 k_5 k_503 k_504 k_505 dd_X4_thrown ⟨Nat.le_of_ble_eq_true rfl, Nat.le_of_ble_eq_true rfl⟩ rcM rfl (Nat.le_of_ble_eq_true rfl) dL_law_242 ⟨by show k + mc + mc2 + 0 ≤ 672103; omega, by show z + ms + ms2 + 0 ≤ 7079794; omega⟩) ?_
  refine v_iload C 1 dL_law_245 rfl ?_
  refine v_icmp_eq (tgt := 252) C dL_law_247 (by decide) (fun _ => ?_) (fun h9 => absurd hk9 h9)
  refine v_iload C 1 dL_law_252 rfl ?_
  refine v_if_ne (tgt := 269) C dL_law_254 (by decide) (fun _ => ?_) (fun h9 => ?_)
  · refine v_goto (tgt := 1200) C dL_law_269 (by decide) ?_
    refine v_lv [2, 3, 4, 5, 6] rfl ?_
    exact kk _ _ _ _ _ _ _ _ _ hI2 (by omega) (by omega)
  · refine v_aload_n C 3 dL_law_257 rfl ?_
    refine v_iconst (v := 0) C dL_law_258 rfl ?_
    refine v_ldO C dL_law_259 ?_
    refine v_iload C 0 dL_law_260 rfl ?_
    refine v_i2l C dL_law_262 ?_
    refine v_lcmp C dL_law_263 ?_
    refine v_if_eq (tgt := 269) C dL_law_264 (by decide) (fun _ => ?_) (fun h8 => absurd (by rw [hr9 h9]; exact lg_self _) h8)
    refine v_goto (tgt := 1200) C dL_law_269 (by decide) ?_
    refine v_lv [2, 3, 4, 5, 6] rfl ?_
    exact kk _ _ _ _ _ _ _ _ _ hI2 (by omega) (by omega)
set_option maxHeartbeats 4000000 in
theorem b_coal (C : Cx p l s m #[Value.ref b] meth c P D code 9 ret RL) (hX : va_X b L xs s s.heap) (hbl : b < s.heap.size) (hbP : b < P.1) (hL : L ≤ 2048) (hi : i + 4 ≤ L) (hl9 : l.stackTraces = false) (hI : Inv N F T K A cn B) (hB : B < 2 ^ 28) (hk : k + 1 ≤ 672103) (hz : z + 6 ≤ 7079794) (kk : ∀ (N2 F2 T2 : Nat → Nat → Int32) (K2 : Nat → Int32) (A2 : Nat → Nat → Int32) (c2 : Nat) (w2 : Int64) (k2 z2 : Nat), Inv N2 F2 T2 K2 A2 c2 (B + 20) → k2 ≤ k + 1 → z2 ≤ z + 6 → V p l e room_1 s m #[Value.ref b] below meth c P D Q 9 97 False (cw P N2 F2 T2 K2 A2 w2) k2 z2 1200 [(4, .int (nI i)), (3, .ref (rO P)), (2, .ref (rM P)), (1, .ref (rX P)), (0, .ref b)] []) : V p l e room_1 s m #[Value.ref b] below meth c P D Q 9 97 False (cw P N F T K A w) k z 272 [(4, .int (nI i)), (3, .ref (rO P)), (2, .ref (rM P)), (1, .ref (rX P)), (0, .ref b)] [] := by
  obtain ⟨N2, F2, T2, K2, A2, c2, w2, mc, ms, h2, mc2, ms2, k9, r9, hW, hM, hk9, hr9, hI2, hmc, hms, hh9⟩ := s_coal (l := l) (P := P) (D := D) (w := w) hI hB hl9 (xs (i + 1)) (xs (i + 2))
  refine v_aload_n C 3 dL_law_272 rfl ?_
  refine v_aload_n C 4 dL_law_273 rfl ?_
  refine v_iload C 0 dL_law_274 rfl ?_
  refine v_iconst (v := 1) C dL_law_276 rfl ?_
  refine v_iadd C dL_law_277 ?_
  refine v_sld (t := i + 1) C hX hbl hbP (ixA rfl rfl) (by omega) hL dL_law_278 ?_
  refine v_aload_n C 4 dL_law_279 rfl ?_
  refine v_iload C 0 dL_law_280 rfl ?_
  refine v_iconst (v := 2) C dL_law_282 rfl ?_
  refine v_iadd C dL_law_283 ?_
  refine v_sld (t := i + 2) C hX hbl hbP (ixA rfl rfl) (by omega) hL dL_law_284 ?_
  refine v_aload_n C 1 dL_law_285 rfl ?_
  refine go_I (run_SW C hW k_336 k_0 k_334 k_335 dd_L_coal ⟨Nat.le_of_ble_eq_true rfl, Nat.le_of_ble_eq_true rfl⟩ rfl (Nat.le_of_ble_eq_true rfl) dL_law_286 ⟨by show k + mc ≤ 672103; omega, by show z + ms ≤ 7079794; omega⟩) ?_
  refine v_istore (lv' := [(5, .int k9), (4, .int (nI i)), (3, .ref (rO P)), (2, .ref (rM P)), (1, .ref (rX P)), (0, .ref b)]) C dL_law_289 (by decide) rfl ?_
  refine v_aload_n C 3 dL_law_291 rfl ?_
  refine v_aload_n C 5 dL_law_292 rfl ?_
  refine v_iload C 1 dL_law_293 rfl ?_
  refine v_iconst (v := 1) C dL_law_295 rfl ?_
  refine v_iadd C dL_law_296 ?_
  refine v_sld (t := i + 1) C hX hbl hbP (ixA rfl rfl) (by omega) hL dL_law_297 ?_
  refine v_aload_n C 5 dL_law_298 rfl ?_
  refine v_iload C 1 dL_law_299 rfl ?_
  refine v_iconst (v := 2) C dL_law_301 rfl ?_
  refine v_iadd C dL_law_302 ?_
  refine v_sld (t := i + 2) C hX hbl hbP (ixA rfl rfl) (by omega) hL dL_law_303 ?_
  refine go_I (run_V C hM k_563 k_5 k_560 k_561 k_562 dd_X4_coal ⟨by show h2 + 1 ≤ 12; omega, by show 8 + (5 + 11) + 28 * h2 ≤ 434; omega⟩ rcM rfl (Nat.le_of_ble_eq_true rfl) dL_law_304 ⟨by show k + mc + mc2 ≤ 672103; omega, by show z + ms + ms2 ≤ 7079794; omega⟩) ?_
  refine v_istore (lv' := [(6, .int r9), (5, .int k9), (4, .int (nI i)), (3, .ref (rO P)), (2, .ref (rM P)), (1, .ref (rX P)), (0, .ref b)]) C dL_law_307 (by decide) rfl ?_
  refine v_aload_n C 4 dL_law_309 rfl ?_
  refine go_I (run_V C c_X4_thrown k_506 k_5 k_503 k_504 k_505 dd_X4_thrown ⟨Nat.le_of_ble_eq_true rfl, Nat.le_of_ble_eq_true rfl⟩ rcM rfl (Nat.le_of_ble_eq_true rfl) dL_law_310 ⟨by show k + mc + mc2 + 0 ≤ 672103; omega, by show z + ms + ms2 + 0 ≤ 7079794; omega⟩) ?_
  refine v_iload C 1 dL_law_313 rfl ?_
  refine v_icmp_eq (tgt := 320) C dL_law_315 (by decide) (fun _ => ?_) (fun h9 => absurd hk9 h9)
  refine v_iload C 1 dL_law_320 rfl ?_
  refine v_if_ne (tgt := 337) C dL_law_322 (by decide) (fun _ => ?_) (fun h9 => ?_)
  · refine v_goto (tgt := 1200) C dL_law_337 (by decide) ?_
    refine v_lv [2, 3, 4, 5, 6] rfl ?_
    exact kk _ _ _ _ _ _ _ _ _ hI2 (by omega) (by omega)
  · refine v_aload_n C 3 dL_law_325 rfl ?_
    refine v_iconst (v := 0) C dL_law_326 rfl ?_
    refine v_ldO C dL_law_327 ?_
    refine v_iload C 0 dL_law_328 rfl ?_
    refine v_i2l C dL_law_330 ?_
    refine v_lcmp C dL_law_331 ?_
    refine v_if_eq (tgt := 337) C dL_law_332 (by decide) (fun _ => ?_) (fun h8 => absurd (by rw [hr9 h9]; exact lg_self _) h8)
    refine v_goto (tgt := 1200) C dL_law_337 (by decide) ?_
    refine v_lv [2, 3, 4, 5, 6] rfl ?_
    exact kk _ _ _ _ _ _ _ _ _ hI2 (by omega) (by omega)
set_option maxHeartbeats 4000000 in
theorem b_make (C : Cx p l s m #[Value.ref b] meth c P D code 9 ret RL) (hX : va_X b L xs s s.heap) (hbl : b < s.heap.size) (hbP : b < P.1) (hL : L ≤ 2048) (hi : i + 4 ≤ L) (hl9 : l.stackTraces = false) (hI : Inv N F T K A cn B) (hB : B < 2 ^ 28) (hk : k + 1 ≤ 672103) (hz : z + 6 ≤ 7079794) (kk : ∀ (N2 F2 T2 : Nat → Nat → Int32) (K2 : Nat → Int32) (A2 : Nat → Nat → Int32) (c2 : Nat) (w2 : Int64) (k2 z2 : Nat), Inv N2 F2 T2 K2 A2 c2 (B + 20) → k2 ≤ k + 1 → z2 ≤ z + 6 → V p l e room_1 s m #[Value.ref b] below meth c P D Q 9 97 False (cw P N2 F2 T2 K2 A2 w2) k2 z2 1200 [(4, .int (nI i)), (3, .ref (rO P)), (2, .ref (rM P)), (1, .ref (rX P)), (0, .ref b)] []) : V p l e room_1 s m #[Value.ref b] below meth c P D Q 9 97 False (cw P N F T K A w) k z 340 [(4, .int (nI i)), (3, .ref (rO P)), (2, .ref (rM P)), (1, .ref (rX P)), (0, .ref b)] [] := by
  obtain ⟨N2, F2, T2, K2, A2, c2, w2, mc, ms, h2, mc2, ms2, k9, r9, hW, hM, hk9, hr9, hI2, hmc, hms, hh9⟩ := s_make (l := l) (P := P) (D := D) (w := w) hI hB hl9 (xs (i + 1)) (xs (i + 2))
  refine v_aload_n C 3 dL_law_340 rfl ?_
  refine v_aload_n C 4 dL_law_341 rfl ?_
  refine v_iload C 0 dL_law_342 rfl ?_
  refine v_iconst (v := 1) C dL_law_344 rfl ?_
  refine v_iadd C dL_law_345 ?_
  refine v_sld (t := i + 1) C hX hbl hbP (ixA rfl rfl) (by omega) hL dL_law_346 ?_
  refine v_aload_n C 4 dL_law_347 rfl ?_
  refine v_iload C 0 dL_law_348 rfl ?_
  refine v_iconst (v := 2) C dL_law_350 rfl ?_
  refine v_iadd C dL_law_351 ?_
  refine v_sld (t := i + 2) C hX hbl hbP (ixA rfl rfl) (by omega) hL dL_law_352 ?_
  refine v_aload_n C 1 dL_law_353 rfl ?_
  refine go_I (run_SW C hW k_344 k_0 k_342 k_343 dd_L_make ⟨Nat.le_of_ble_eq_true rfl, Nat.le_of_ble_eq_true rfl⟩ rfl (Nat.le_of_ble_eq_true rfl) dL_law_354 ⟨by show k + mc ≤ 672103; omega, by show z + ms ≤ 7079794; omega⟩) ?_
  refine v_istore (lv' := [(5, .int k9), (4, .int (nI i)), (3, .ref (rO P)), (2, .ref (rM P)), (1, .ref (rX P)), (0, .ref b)]) C dL_law_357 (by decide) rfl ?_
  refine v_aload_n C 3 dL_law_359 rfl ?_
  refine v_aload_n C 5 dL_law_360 rfl ?_
  refine v_iload C 1 dL_law_361 rfl ?_
  refine v_iconst (v := 1) C dL_law_363 rfl ?_
  refine v_iadd C dL_law_364 ?_
  refine v_sld (t := i + 1) C hX hbl hbP (ixA rfl rfl) (by omega) hL dL_law_365 ?_
  refine v_aload_n C 5 dL_law_366 rfl ?_
  refine v_iload C 1 dL_law_367 rfl ?_
  refine v_iconst (v := 2) C dL_law_369 rfl ?_
  refine v_iadd C dL_law_370 ?_
  refine v_sld (t := i + 2) C hX hbl hbP (ixA rfl rfl) (by omega) hL dL_law_371 ?_
  refine go_I (run_V C hM k_567 k_5 k_564 k_565 k_566 dd_X4_make ⟨by show h2 + 1 ≤ 12; omega, by show 8 + (3 + 11) + 28 * h2 ≤ 434; omega⟩ rcM rfl (Nat.le_of_ble_eq_true rfl) dL_law_372 ⟨by show k + mc + mc2 ≤ 672103; omega, by show z + ms + ms2 ≤ 7079794; omega⟩) ?_
  refine v_istore (lv' := [(6, .int r9), (5, .int k9), (4, .int (nI i)), (3, .ref (rO P)), (2, .ref (rM P)), (1, .ref (rX P)), (0, .ref b)]) C dL_law_375 (by decide) rfl ?_
  refine v_aload_n C 4 dL_law_377 rfl ?_
  refine go_I (run_V C c_X4_thrown k_506 k_5 k_503 k_504 k_505 dd_X4_thrown ⟨Nat.le_of_ble_eq_true rfl, Nat.le_of_ble_eq_true rfl⟩ rcM rfl (Nat.le_of_ble_eq_true rfl) dL_law_378 ⟨by show k + mc + mc2 + 0 ≤ 672103; omega, by show z + ms + ms2 + 0 ≤ 7079794; omega⟩) ?_
  refine v_iload C 1 dL_law_381 rfl ?_
  refine v_icmp_eq (tgt := 388) C dL_law_383 (by decide) (fun _ => ?_) (fun h9 => absurd hk9 h9)
  refine v_iload C 1 dL_law_388 rfl ?_
  refine v_if_ne (tgt := 405) C dL_law_390 (by decide) (fun _ => ?_) (fun h9 => ?_)
  · refine v_goto (tgt := 1200) C dL_law_405 (by decide) ?_
    refine v_lv [2, 3, 4, 5, 6] rfl ?_
    exact kk _ _ _ _ _ _ _ _ _ hI2 (by omega) (by omega)
  · refine v_aload_n C 3 dL_law_393 rfl ?_
    refine v_iconst (v := 0) C dL_law_394 rfl ?_
    refine v_ldO C dL_law_395 ?_
    refine v_iload C 0 dL_law_396 rfl ?_
    refine v_i2l C dL_law_398 ?_
    refine v_lcmp C dL_law_399 ?_
    refine v_if_eq (tgt := 405) C dL_law_400 (by decide) (fun _ => ?_) (fun h8 => absurd (by rw [hr9 h9]; exact lg_self _) h8)
    refine v_goto (tgt := 1200) C dL_law_405 (by decide) ?_
    refine v_lv [2, 3, 4, 5, 6] rfl ?_
    exact kk _ _ _ _ _ _ _ _ _ hI2 (by omega) (by omega)
set_option maxHeartbeats 4000000 in
theorem b_change (C : Cx p l s m #[Value.ref b] meth c P D code 9 ret RL) (hX : va_X b L xs s s.heap) (hbl : b < s.heap.size) (hbP : b < P.1) (hL : L ≤ 2048) (hi : i + 4 ≤ L) (hl9 : l.stackTraces = false) (hI : Inv N F T K A cn B) (hB : B < 2 ^ 28) (hk : k + 1 ≤ 672103) (hz : z + 6 ≤ 7079794) (kk : ∀ (N2 F2 T2 : Nat → Nat → Int32) (K2 : Nat → Int32) (A2 : Nat → Nat → Int32) (c2 : Nat) (w2 : Int64) (k2 z2 : Nat), Inv N2 F2 T2 K2 A2 c2 (B + 20) → k2 ≤ k + 1 → z2 ≤ z + 6 → V p l e room_1 s m #[Value.ref b] below meth c P D Q 9 97 False (cw P N2 F2 T2 K2 A2 w2) k2 z2 1200 [(4, .int (nI i)), (3, .ref (rO P)), (2, .ref (rM P)), (1, .ref (rX P)), (0, .ref b)] []) : V p l e room_1 s m #[Value.ref b] below meth c P D Q 9 97 False (cw P N F T K A w) k z 408 [(4, .int (nI i)), (3, .ref (rO P)), (2, .ref (rM P)), (1, .ref (rX P)), (0, .ref b)] [] := by
  obtain ⟨N2, F2, T2, K2, A2, c2, w2, mc, ms, h2, mc2, ms2, k9, r9, hW, hM, hk9, hr9, hI2, hmc, hms, hh9⟩ := s_change (l := l) (P := P) (D := D) (w := w) hI hB hl9 (xs (i + 1)) (xs (i + 2))
  refine v_aload_n C 3 dL_law_408 rfl ?_
  refine v_aload_n C 4 dL_law_409 rfl ?_
  refine v_iload C 0 dL_law_410 rfl ?_
  refine v_iconst (v := 1) C dL_law_412 rfl ?_
  refine v_iadd C dL_law_413 ?_
  refine v_sld (t := i + 1) C hX hbl hbP (ixA rfl rfl) (by omega) hL dL_law_414 ?_
  refine v_aload_n C 4 dL_law_415 rfl ?_
  refine v_iload C 0 dL_law_416 rfl ?_
  refine v_iconst (v := 2) C dL_law_418 rfl ?_
  refine v_iadd C dL_law_419 ?_
  refine v_sld (t := i + 2) C hX hbl hbP (ixA rfl rfl) (by omega) hL dL_law_420 ?_
  refine v_aload_n C 1 dL_law_421 rfl ?_
  refine go_I (run_SW C hW k_351 k_0 k_349 k_350 dd_L_change ⟨Nat.le_of_ble_eq_true rfl, Nat.le_of_ble_eq_true rfl⟩ rfl (Nat.le_of_ble_eq_true rfl) dL_law_422 ⟨by show k + mc ≤ 672103; omega, by show z + ms ≤ 7079794; omega⟩) ?_
  refine v_istore (lv' := [(5, .int k9), (4, .int (nI i)), (3, .ref (rO P)), (2, .ref (rM P)), (1, .ref (rX P)), (0, .ref b)]) C dL_law_425 (by decide) rfl ?_
  refine v_aload_n C 3 dL_law_427 rfl ?_
  refine v_aload_n C 5 dL_law_428 rfl ?_
  refine v_iload C 1 dL_law_429 rfl ?_
  refine v_iconst (v := 1) C dL_law_431 rfl ?_
  refine v_iadd C dL_law_432 ?_
  refine v_sld (t := i + 1) C hX hbl hbP (ixA rfl rfl) (by omega) hL dL_law_433 ?_
  refine v_aload_n C 5 dL_law_434 rfl ?_
  refine v_iload C 1 dL_law_435 rfl ?_
  refine v_iconst (v := 2) C dL_law_437 rfl ?_
  refine v_iadd C dL_law_438 ?_
  refine v_sld (t := i + 2) C hX hbl hbP (ixA rfl rfl) (by omega) hL dL_law_439 ?_
  refine go_I (run_V C hM k_575 k_5 k_572 k_573 k_574 dd_X4_change ⟨by show h2 + 1 ≤ 12; omega, by show 8 + (3 + 11) + 28 * h2 ≤ 434; omega⟩ rcM rfl (Nat.le_of_ble_eq_true rfl) dL_law_440 ⟨by show k + mc + mc2 ≤ 672103; omega, by show z + ms + ms2 ≤ 7079794; omega⟩) ?_
  refine v_istore (lv' := [(6, .int r9), (5, .int k9), (4, .int (nI i)), (3, .ref (rO P)), (2, .ref (rM P)), (1, .ref (rX P)), (0, .ref b)]) C dL_law_443 (by decide) rfl ?_
  refine v_aload_n C 4 dL_law_445 rfl ?_
  refine go_I (run_V C c_X4_thrown k_506 k_5 k_503 k_504 k_505 dd_X4_thrown ⟨Nat.le_of_ble_eq_true rfl, Nat.le_of_ble_eq_true rfl⟩ rcM rfl (Nat.le_of_ble_eq_true rfl) dL_law_446 ⟨by show k + mc + mc2 + 0 ≤ 672103; omega, by show z + ms + ms2 + 0 ≤ 7079794; omega⟩) ?_
  refine v_iload C 1 dL_law_449 rfl ?_
  refine v_icmp_eq (tgt := 456) C dL_law_451 (by decide) (fun _ => ?_) (fun h9 => absurd hk9 h9)
  refine v_iload C 1 dL_law_456 rfl ?_
  refine v_if_ne (tgt := 473) C dL_law_458 (by decide) (fun _ => ?_) (fun h9 => ?_)
  · refine v_goto (tgt := 1200) C dL_law_473 (by decide) ?_
    refine v_lv [2, 3, 4, 5, 6] rfl ?_
    exact kk _ _ _ _ _ _ _ _ _ hI2 (by omega) (by omega)
  · refine v_aload_n C 3 dL_law_461 rfl ?_
    refine v_iconst (v := 0) C dL_law_462 rfl ?_
    refine v_ldO C dL_law_463 ?_
    refine v_iload C 0 dL_law_464 rfl ?_
    refine v_i2l C dL_law_466 ?_
    refine v_lcmp C dL_law_467 ?_
    refine v_if_eq (tgt := 473) C dL_law_468 (by decide) (fun _ => ?_) (fun h8 => absurd (by rw [hr9 h9]; exact lg_self _) h8)
    refine v_goto (tgt := 1200) C dL_law_473 (by decide) ?_
    refine v_lv [2, 3, 4, 5, 6] rfl ?_
    exact kk _ _ _ _ _ _ _ _ _ hI2 (by omega) (by omega)
set_option maxHeartbeats 4000000 in
theorem b_told (C : Cx p l s m #[Value.ref b] meth c P D code 9 ret RL) (hX : va_X b L xs s s.heap) (hbl : b < s.heap.size) (hbP : b < P.1) (hL : L ≤ 2048) (hi : i + 4 ≤ L) (hl9 : l.stackTraces = false) (hI : Inv N F T K A cn B) (hB : B < 2 ^ 28) (hk : k + 1 ≤ 672103) (hz : z + 6 ≤ 7079794) (kk : ∀ (N2 F2 T2 : Nat → Nat → Int32) (K2 : Nat → Int32) (A2 : Nat → Nat → Int32) (c2 : Nat) (w2 : Int64) (k2 z2 : Nat), Inv N2 F2 T2 K2 A2 c2 (B + 20) → k2 ≤ k + 1 → z2 ≤ z + 6 → V p l e room_1 s m #[Value.ref b] below meth c P D Q 9 97 False (cw P N2 F2 T2 K2 A2 w2) k2 z2 1200 [(4, .int (nI i)), (3, .ref (rO P)), (2, .ref (rM P)), (1, .ref (rX P)), (0, .ref b)] []) : V p l e room_1 s m #[Value.ref b] below meth c P D Q 9 97 False (cw P N F T K A w) k z 476 [(4, .int (nI i)), (3, .ref (rO P)), (2, .ref (rM P)), (1, .ref (rX P)), (0, .ref b)] [] := by
  obtain ⟨N2, F2, T2, K2, A2, c2, w2, mc, ms, h2, mc2, ms2, k9, r9, hW, hM, hk9, hr9, hI2, hmc, hms, hh9⟩ := s_told (l := l) (P := P) (D := D) (w := w) hI hB hl9 (xs (i + 1)) (xs (i + 2))
  refine v_aload_n C 3 dL_law_476 rfl ?_
  refine v_aload_n C 4 dL_law_477 rfl ?_
  refine v_iload C 0 dL_law_478 rfl ?_
  refine v_iconst (v := 1) C dL_law_480 rfl ?_
  refine v_iadd C dL_law_481 ?_
  refine v_sld (t := i + 1) C hX hbl hbP (ixA rfl rfl) (by omega) hL dL_law_482 ?_
  refine v_aload_n C 4 dL_law_483 rfl ?_
  refine v_iload C 0 dL_law_484 rfl ?_
  refine v_iconst (v := 2) C dL_law_486 rfl ?_
  refine v_iadd C dL_law_487 ?_
  refine v_sld (t := i + 2) C hX hbl hbP (ixA rfl rfl) (by omega) hL dL_law_488 ?_
  refine v_aload_n C 1 dL_law_489 rfl ?_
  refine go_I (run_SW C hW k_359 k_0 k_357 k_358 dd_L_told ⟨Nat.le_of_ble_eq_true rfl, Nat.le_of_ble_eq_true rfl⟩ rfl (Nat.le_of_ble_eq_true rfl) dL_law_490 ⟨by show k + mc ≤ 672103; omega, by show z + ms ≤ 7079794; omega⟩) ?_
  refine v_istore (lv' := [(5, .int k9), (4, .int (nI i)), (3, .ref (rO P)), (2, .ref (rM P)), (1, .ref (rX P)), (0, .ref b)]) C dL_law_493 (by decide) rfl ?_
  refine v_aload_n C 3 dL_law_495 rfl ?_
  refine v_aload_n C 5 dL_law_496 rfl ?_
  refine v_iload C 1 dL_law_497 rfl ?_
  refine v_iconst (v := 1) C dL_law_499 rfl ?_
  refine v_iadd C dL_law_500 ?_
  refine v_sld (t := i + 1) C hX hbl hbP (ixA rfl rfl) (by omega) hL dL_law_501 ?_
  refine v_aload_n C 5 dL_law_502 rfl ?_
  refine v_iload C 1 dL_law_503 rfl ?_
  refine v_iconst (v := 2) C dL_law_505 rfl ?_
  refine v_iadd C dL_law_506 ?_
  refine v_sld (t := i + 2) C hX hbl hbP (ixA rfl rfl) (by omega) hL dL_law_507 ?_
  refine go_I (run_V C hM k_579 k_5 k_576 k_577 k_578 dd_X4_told ⟨by show h2 + 1 ≤ 12; omega, by show 8 + (3 + 11) + 28 * h2 ≤ 434; omega⟩ rcM rfl (Nat.le_of_ble_eq_true rfl) dL_law_508 ⟨by show k + mc + mc2 ≤ 672103; omega, by show z + ms + ms2 ≤ 7079794; omega⟩) ?_
  refine v_istore (lv' := [(6, .int r9), (5, .int k9), (4, .int (nI i)), (3, .ref (rO P)), (2, .ref (rM P)), (1, .ref (rX P)), (0, .ref b)]) C dL_law_511 (by decide) rfl ?_
  refine v_aload_n C 4 dL_law_513 rfl ?_
  refine go_I (run_V C c_X4_thrown k_506 k_5 k_503 k_504 k_505 dd_X4_thrown ⟨Nat.le_of_ble_eq_true rfl, Nat.le_of_ble_eq_true rfl⟩ rcM rfl (Nat.le_of_ble_eq_true rfl) dL_law_514 ⟨by show k + mc + mc2 + 0 ≤ 672103; omega, by show z + ms + ms2 + 0 ≤ 7079794; omega⟩) ?_
  refine v_iload C 1 dL_law_517 rfl ?_
  refine v_icmp_eq (tgt := 524) C dL_law_519 (by decide) (fun _ => ?_) (fun h9 => absurd hk9 h9)
  refine v_iload C 1 dL_law_524 rfl ?_
  refine v_if_ne (tgt := 541) C dL_law_526 (by decide) (fun _ => ?_) (fun h9 => ?_)
  · refine v_goto (tgt := 1200) C dL_law_541 (by decide) ?_
    refine v_lv [2, 3, 4, 5, 6] rfl ?_
    exact kk _ _ _ _ _ _ _ _ _ hI2 (by omega) (by omega)
  · refine v_aload_n C 3 dL_law_529 rfl ?_
    refine v_iconst (v := 0) C dL_law_530 rfl ?_
    refine v_ldO C dL_law_531 ?_
    refine v_iload C 0 dL_law_532 rfl ?_
    refine v_i2l C dL_law_534 ?_
    refine v_lcmp C dL_law_535 ?_
    refine v_if_eq (tgt := 541) C dL_law_536 (by decide) (fun _ => ?_) (fun h8 => absurd (by rw [hr9 h9]; exact lg_self _) h8)
    refine v_goto (tgt := 1200) C dL_law_541 (by decide) ?_
    refine v_lv [2, 3, 4, 5, 6] rfl ?_
    exact kk _ _ _ _ _ _ _ _ _ hI2 (by omega) (by omega)
set_option maxHeartbeats 4000000 in
theorem b_nails (C : Cx p l s m #[Value.ref b] meth c P D code 9 ret RL) (hX : va_X b L xs s s.heap) (hbl : b < s.heap.size) (hbP : b < P.1) (hL : L ≤ 2048) (hi : i + 4 ≤ L) (hl9 : l.stackTraces = false) (hI : Inv N F T K A cn B) (hB : B < 2 ^ 28) (hk : k + 1 ≤ 672103) (hz : z + 6 ≤ 7079794) (kk : ∀ (N2 F2 T2 : Nat → Nat → Int32) (K2 : Nat → Int32) (A2 : Nat → Nat → Int32) (c2 : Nat) (w2 : Int64) (k2 z2 : Nat), Inv N2 F2 T2 K2 A2 c2 (B + 20) → k2 ≤ k + 1 → z2 ≤ z + 6 → V p l e room_1 s m #[Value.ref b] below meth c P D Q 9 97 False (cw P N2 F2 T2 K2 A2 w2) k2 z2 1200 [(4, .int (nI i)), (3, .ref (rO P)), (2, .ref (rM P)), (1, .ref (rX P)), (0, .ref b)] []) : V p l e room_1 s m #[Value.ref b] below meth c P D Q 9 97 False (cw P N F T K A w) k z 544 [(4, .int (nI i)), (3, .ref (rO P)), (2, .ref (rM P)), (1, .ref (rX P)), (0, .ref b)] [] := by
  obtain ⟨N2, F2, T2, K2, A2, c2, w2, mc, ms, h2, mc2, ms2, k9, r9, hW, hM, hk9, hr9, hI2, hmc, hms, hh9⟩ := s_nails (l := l) (P := P) (D := D) (w := w) hI hB hl9 (xs (i + 1)) (xs (i + 2)) (xs (i + 3))
  refine v_aload_n C 3 dL_law_544 rfl ?_
  refine v_aload_n C 4 dL_law_545 rfl ?_
  refine v_iload C 0 dL_law_546 rfl ?_
  refine v_iconst (v := 1) C dL_law_548 rfl ?_
  refine v_iadd C dL_law_549 ?_
  refine v_sld (t := i + 1) C hX hbl hbP (ixA rfl rfl) (by omega) hL dL_law_550 ?_
  refine v_aload_n C 4 dL_law_551 rfl ?_
  refine v_iload C 0 dL_law_552 rfl ?_
  refine v_iconst (v := 2) C dL_law_554 rfl ?_
  refine v_iadd C dL_law_555 ?_
  refine v_sld (t := i + 2) C hX hbl hbP (ixA rfl rfl) (by omega) hL dL_law_556 ?_
  refine v_aload_n C 4 dL_law_557 rfl ?_
  refine v_iload C 0 dL_law_558 rfl ?_
  refine v_iconst (v := 3) C dL_law_560 rfl ?_
  refine v_iadd C dL_law_561 ?_
  refine v_sld (t := i + 3) C hX hbl hbP (ixA rfl rfl) (by omega) hL dL_law_562 ?_
  refine v_aload_n C 1 dL_law_563 rfl ?_
  refine go_I (run_SW C hW k_367 k_0 k_365 k_366 dd_L_nails ⟨Nat.le_of_ble_eq_true rfl, Nat.le_of_ble_eq_true rfl⟩ rfl (Nat.le_of_ble_eq_true rfl) dL_law_564 ⟨by show k + mc ≤ 672103; omega, by show z + ms ≤ 7079794; omega⟩) ?_
  refine v_istore (lv' := [(5, .int k9), (4, .int (nI i)), (3, .ref (rO P)), (2, .ref (rM P)), (1, .ref (rX P)), (0, .ref b)]) C dL_law_567 (by decide) rfl ?_
  refine v_aload_n C 3 dL_law_569 rfl ?_
  refine v_aload_n C 5 dL_law_570 rfl ?_
  refine v_iload C 1 dL_law_571 rfl ?_
  refine v_iconst (v := 1) C dL_law_573 rfl ?_
  refine v_iadd C dL_law_574 ?_
  refine v_sld (t := i + 1) C hX hbl hbP (ixA rfl rfl) (by omega) hL dL_law_575 ?_
  refine v_aload_n C 5 dL_law_576 rfl ?_
  refine v_iload C 1 dL_law_577 rfl ?_
  refine v_iconst (v := 2) C dL_law_579 rfl ?_
  refine v_iadd C dL_law_580 ?_
  refine v_sld (t := i + 2) C hX hbl hbP (ixA rfl rfl) (by omega) hL dL_law_581 ?_
  refine v_aload_n C 5 dL_law_582 rfl ?_
  refine v_iload C 1 dL_law_583 rfl ?_
  refine v_iconst (v := 3) C dL_law_585 rfl ?_
  refine v_iadd C dL_law_586 ?_
  refine v_sld (t := i + 3) C hX hbl hbP (ixA rfl rfl) (by omega) hL dL_law_587 ?_
  refine go_I (run_V C hM k_583 k_5 k_580 k_581 k_582 dd_X4_nails ⟨by show h2 + 1 ≤ 12; omega, by show 8 + (4 + 11) + 28 * h2 ≤ 434; omega⟩ rcM rfl (Nat.le_of_ble_eq_true rfl) dL_law_588 ⟨by show k + mc + mc2 ≤ 672103; omega, by show z + ms + ms2 ≤ 7079794; omega⟩) ?_
  refine v_istore (lv' := [(6, .int r9), (5, .int k9), (4, .int (nI i)), (3, .ref (rO P)), (2, .ref (rM P)), (1, .ref (rX P)), (0, .ref b)]) C dL_law_591 (by decide) rfl ?_
  refine v_aload_n C 4 dL_law_593 rfl ?_
  refine go_I (run_V C c_X4_thrown k_506 k_5 k_503 k_504 k_505 dd_X4_thrown ⟨Nat.le_of_ble_eq_true rfl, Nat.le_of_ble_eq_true rfl⟩ rcM rfl (Nat.le_of_ble_eq_true rfl) dL_law_594 ⟨by show k + mc + mc2 + 0 ≤ 672103; omega, by show z + ms + ms2 + 0 ≤ 7079794; omega⟩) ?_
  refine v_iload C 1 dL_law_597 rfl ?_
  refine v_icmp_eq (tgt := 604) C dL_law_599 (by decide) (fun _ => ?_) (fun h9 => absurd hk9 h9)
  refine v_iload C 1 dL_law_604 rfl ?_
  refine v_if_ne (tgt := 621) C dL_law_606 (by decide) (fun _ => ?_) (fun h9 => ?_)
  · refine v_goto (tgt := 1200) C dL_law_621 (by decide) ?_
    refine v_lv [2, 3, 4, 5, 6] rfl ?_
    exact kk _ _ _ _ _ _ _ _ _ hI2 (by omega) (by omega)
  · refine v_aload_n C 3 dL_law_609 rfl ?_
    refine v_iconst (v := 0) C dL_law_610 rfl ?_
    refine v_ldO C dL_law_611 ?_
    refine v_iload C 0 dL_law_612 rfl ?_
    refine v_i2l C dL_law_614 ?_
    refine v_lcmp C dL_law_615 ?_
    refine v_if_eq (tgt := 621) C dL_law_616 (by decide) (fun _ => ?_) (fun h8 => absurd (by rw [hr9 h9]; exact lg_self _) h8)
    refine v_goto (tgt := 1200) C dL_law_621 (by decide) ?_
    refine v_lv [2, 3, 4, 5, 6] rfl ?_
    exact kk _ _ _ _ _ _ _ _ _ hI2 (by omega) (by omega)
set_option maxHeartbeats 4000000 in
theorem b_keep (C : Cx p l s m #[Value.ref b] meth c P D code 9 ret RL) (hX : va_X b L xs s s.heap) (hbl : b < s.heap.size) (hbP : b < P.1) (hL : L ≤ 2048) (hi : i + 4 ≤ L) (hl9 : l.stackTraces = false) (hI : Inv N F T K A cn B) (hB : B < 2 ^ 28) (hk : k + 1 ≤ 672103) (hz : z + 6 ≤ 7079794) (kk : ∀ (N2 F2 T2 : Nat → Nat → Int32) (K2 : Nat → Int32) (A2 : Nat → Nat → Int32) (c2 : Nat) (w2 : Int64) (k2 z2 : Nat), Inv N2 F2 T2 K2 A2 c2 (B + 20) → k2 ≤ k + 1 → z2 ≤ z + 6 → V p l e room_1 s m #[Value.ref b] below meth c P D Q 9 97 False (cw P N2 F2 T2 K2 A2 w2) k2 z2 1200 [(4, .int (nI i)), (3, .ref (rO P)), (2, .ref (rM P)), (1, .ref (rX P)), (0, .ref b)] []) : V p l e room_1 s m #[Value.ref b] below meth c P D Q 9 97 False (cw P N F T K A w) k z 624 [(4, .int (nI i)), (3, .ref (rO P)), (2, .ref (rM P)), (1, .ref (rX P)), (0, .ref b)] [] := by
  obtain ⟨N2, F2, T2, K2, A2, c2, w2, mc, ms, h2, mc2, ms2, k9, r9, hW, hM, hk9, hr9, hI2, hmc, hms, hh9⟩ := s_keep (l := l) (P := P) (D := D) (w := w) hI hB hl9 (xs (i + 1)) (xs (i + 2))
  refine v_aload_n C 3 dL_law_624 rfl ?_
  refine v_aload_n C 4 dL_law_625 rfl ?_
  refine v_iload C 0 dL_law_626 rfl ?_
  refine v_iconst (v := 1) C dL_law_628 rfl ?_
  refine v_iadd C dL_law_629 ?_
  refine v_sld (t := i + 1) C hX hbl hbP (ixA rfl rfl) (by omega) hL dL_law_630 ?_
  refine v_aload_n C 4 dL_law_631 rfl ?_
  refine v_iload C 0 dL_law_632 rfl ?_
  refine v_iconst (v := 2) C dL_law_634 rfl ?_
  refine v_iadd C dL_law_635 ?_
  refine v_sld (t := i + 2) C hX hbl hbP (ixA rfl rfl) (by omega) hL dL_law_636 ?_
  refine v_aload_n C 1 dL_law_637 rfl ?_
  refine go_I (run_SW C hW k_374 k_0 k_372 k_373 dd_L_keep ⟨Nat.le_of_ble_eq_true rfl, Nat.le_of_ble_eq_true rfl⟩ rfl (Nat.le_of_ble_eq_true rfl) dL_law_638 ⟨by show k + mc ≤ 672103; omega, by show z + ms ≤ 7079794; omega⟩) ?_
  refine v_istore (lv' := [(5, .int k9), (4, .int (nI i)), (3, .ref (rO P)), (2, .ref (rM P)), (1, .ref (rX P)), (0, .ref b)]) C dL_law_641 (by decide) rfl ?_
  refine v_aload_n C 3 dL_law_643 rfl ?_
  refine v_aload_n C 5 dL_law_644 rfl ?_
  refine v_iload C 1 dL_law_645 rfl ?_
  refine v_iconst (v := 1) C dL_law_647 rfl ?_
  refine v_iadd C dL_law_648 ?_
  refine v_sld (t := i + 1) C hX hbl hbP (ixA rfl rfl) (by omega) hL dL_law_649 ?_
  refine v_aload_n C 5 dL_law_650 rfl ?_
  refine v_iload C 1 dL_law_651 rfl ?_
  refine v_iconst (v := 2) C dL_law_653 rfl ?_
  refine v_iadd C dL_law_654 ?_
  refine v_sld (t := i + 2) C hX hbl hbP (ixA rfl rfl) (by omega) hL dL_law_655 ?_
  refine go_I (run_V C hM k_587 k_5 k_584 k_585 k_586 dd_X4_keep ⟨by show h2 + 1 ≤ 12; omega, by show 8 + (4 + 11) + 28 * h2 ≤ 434; omega⟩ rcM rfl (Nat.le_of_ble_eq_true rfl) dL_law_656 ⟨by show k + mc + mc2 ≤ 672103; omega, by show z + ms + ms2 ≤ 7079794; omega⟩) ?_
  refine v_istore (lv' := [(6, .int r9), (5, .int k9), (4, .int (nI i)), (3, .ref (rO P)), (2, .ref (rM P)), (1, .ref (rX P)), (0, .ref b)]) C dL_law_659 (by decide) rfl ?_
  refine v_aload_n C 4 dL_law_661 rfl ?_
  refine go_I (run_V C c_X4_thrown k_506 k_5 k_503 k_504 k_505 dd_X4_thrown ⟨Nat.le_of_ble_eq_true rfl, Nat.le_of_ble_eq_true rfl⟩ rcM rfl (Nat.le_of_ble_eq_true rfl) dL_law_662 ⟨by show k + mc + mc2 + 0 ≤ 672103; omega, by show z + ms + ms2 + 0 ≤ 7079794; omega⟩) ?_
  refine v_iload C 1 dL_law_665 rfl ?_
  refine v_icmp_eq (tgt := 672) C dL_law_667 (by decide) (fun _ => ?_) (fun h9 => absurd hk9 h9)
  refine v_iload C 1 dL_law_672 rfl ?_
  refine v_if_ne (tgt := 689) C dL_law_674 (by decide) (fun _ => ?_) (fun h9 => ?_)
  · refine v_goto (tgt := 1200) C dL_law_689 (by decide) ?_
    refine v_lv [2, 3, 4, 5, 6] rfl ?_
    exact kk _ _ _ _ _ _ _ _ _ hI2 (by omega) (by omega)
  · refine v_aload_n C 3 dL_law_677 rfl ?_
    refine v_iconst (v := 0) C dL_law_678 rfl ?_
    refine v_ldO C dL_law_679 ?_
    refine v_iload C 0 dL_law_680 rfl ?_
    refine v_i2l C dL_law_682 ?_
    refine v_lcmp C dL_law_683 ?_
    refine v_if_eq (tgt := 689) C dL_law_684 (by decide) (fun _ => ?_) (fun h8 => absurd (by rw [hr9 h9]; exact lg_self _) h8)
    refine v_goto (tgt := 1200) C dL_law_689 (by decide) ?_
    refine v_lv [2, 3, 4, 5, 6] rfl ?_
    exact kk _ _ _ _ _ _ _ _ _ hI2 (by omega) (by omega)
end LawBlocks
