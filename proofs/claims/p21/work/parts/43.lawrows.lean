/-! THE LAW'S OWN ROWS -/
def setF (P : L5) (b : Bool) : L5 := (P.1, P.2.1, P.2.2.1, P.2.2.2.1, b, P.2.2.2.2.2)
theorem cw_flag {P : L5} {b : Bool} {N F T : Nat → Nat → Int32} {K : Nat → Int32} {A : Nat → Nat → Int32} {w : Int64} : cw (setF P b) N F T K A w = cw P N F T K A w := rfl
theorem nW_t {P : L5} (h : P.2.2.2.2.1 = true) : nW P = 91 := by unfold nW; rw [h]; rfl
theorem nW_f {P : L5} (h : P.2.2.2.2.1 = false) : nW P = 90 := by unfold nW; rw [h]; rfl
theorem kd_90 : ∀ a, a < 91 → a ≠ 90 → kd a ≠ (9, 0) := by decide +kernel
section LawRows
variable {p : Program} {l : Launch} {e : Env} {R : Room} {s : State} {m : MethodId} {args : Array Value} {below : List Frame} {meth : Method} {c : Code} {P : L5} {D : va_G} {Q : State → Prop} {nL n : Nat} {x : Prop} {f : Nat → va_E} {k z pc : Nat} {lv : List (Nat × Value)} {st : List Value} {cc : ByteArray} {ret : Option FieldType} {own : String}
variable {N F T : Nat → Nat → Int32} {K : Nat → Int32} {A : Nat → Nat → Int32} {w : Int64}
theorem Cx.flag {b : Bool} (C : Cx p l s m args meth c P D cc nL ret own) : Cx p l s m args meth c (setF P b) D cc nL ret own := C
theorem v_flag {b : Bool} (kk : V p l e R s m args below meth c (setF P b) D Q nL n x f k z pc lv st) : V p l e R s m args below meth c P D Q nL n x f k z pc lv st := kk
theorem v_ldc (C : Cx p l s m args meth c P D cc nL ret own) {index : Nat} {v : Int32} (hk : Cond.constant own index v ∈ gtb) (hdg : decode cc pc = .ok (.ldc index, 2)) (kk : V p l e R s m args below meth c P D Q nL n x f k z (pc + 2) lv (.int v :: st)) : V p l e R s m args below meth c P D Q nL n x f k z pc lv st := fun H locs ls hP hz hS hl => lv_ldc C.1 C.2.1 C.2.2.2.1 (C.2.2.2.2.1 _ hk) hdg (kk H locs ls hP hz hS hl)
theorem v_ishr (C : Cx p l s m args meth c P D cc nL ret own) {a b : Int32} (hdg : decode cc pc = .ok (.ishr, 1)) (kk : V p l e R s m args below meth c P D Q nL n x f k z (pc + 1) lv (.int (a >>> (b &&& 31)) :: st)) : V p l e R s m args below meth c P D Q nL n x f k z pc lv (.int b :: .int a :: st) := fun H locs ls hP hz hS hl => lv_ishr C.1 C.2.1 hdg (kk H locs ls hP hz hS hl)
theorem v_lload (C : Cx p l s m args meth c P D cc nL ret own) {i : Nat} {a : Int64} (q : Nat) (hdg : decode cc pc = .ok (.lload i, 2)) (hq : lv[q]? = some (i, .long a)) (kk : V p l e R s m args below meth c P D Q nL n x f k z (pc + 2) lv (.long a :: st)) : V p l e R s m args below meth c P D Q nL n x f k z pc lv st := fun H locs ls hP hz hS hl => lv_lload C.1 C.2.1 hdg (lv_at hl q hq) (kk H locs ls hP hz hS hl)
theorem v_lstore (C : Cx p l s m args meth c P D cc nL ret own) {i : Nat} {a : Int64} {lv' : List (Nat × Value)} (hdg : decode cc pc = .ok (.lstore i, 2)) (hn : i + 1 < nL) (hl2 : (i, Value.long a) :: lv.filter (fun q => !(q.1 == i) && (!(q.1 == i + 1) && !(q.1 + 1 == i && q.2.category == 2))) = lv') (kk : V p l e R s m args below meth c P D Q nL n x f k z (pc + 2) lv' st) : V p l e R s m args below meth c P D Q nL n x f k z pc lv (.long a :: st) := fun H locs ls hP hz hS hl => lv_lstore C.1 C.2.1 hdg hl hn hl2 (fun ls' hl' => kk H locs ls' hP hz hS hl')
theorem v_slen (C : Cx p l s m args meth c P D cc nL ret own) {b L : Nat} {xs : Nat → Int32} (hX : va_X b L xs s s.heap) (hbl : b < s.heap.size) (hbP : b < P.1) (hdg : decode cc pc = .ok (.arraylength, 1)) (kk : V p l e R s m args below meth c P D Q nL n x f k z (pc + 1) lv (.int (nI L) :: st)) : V p l e R s m args below meth c P D Q nL n x f k z pc lv (.ref b :: st) := by
  intro H locs ls hP hz hS hl
  obtain ⟨hx, hb, -⟩ := C
  exact va_slen hx hb hX hbl (Nat.not_le.mpr hbP) hS hdg (kk H locs ls hP hz hS hl)
theorem v_sld (C : Cx p l s m args meth c P D cc nL ret own) {b L : Nat} {xs : Nat → Int32} (hX : va_X b L xs s s.heap) (hbl : b < s.heap.size) (hbP : b < P.1) {i : Int32} {t : Nat} (hi : i = nI t) (ht : t < L) (hL : L ≤ 2048) (hdg : decode cc pc = .ok (.iaload, 1)) (kk : V p l e R s m args below meth c P D Q nL n x f k z (pc + 1) lv (.int (xs t) :: st)) : V p l e R s m args below meth c P D Q nL n x f k z pc lv (.int i :: .ref b :: st) := by
  subst hi
  intro H locs ls hP hz hS hl
  obtain ⟨hx, hb, -⟩ := C
  have e0 : (nI t).toNatClampNeg = t := nI_clamp (by omega)
  refine va_sld hx hb hX hbl (Nat.not_le.mpr hbP) hS (vp_in_nI ht (by omega)) hdg ?_
  rw [e0]
  exact kk H locs ls hP hz hS hl
/-- of a world that grows: the rest forgets that nothing else was made -/
theorem v_open (kk : V p l e R s m args below meth c P D Q nL n False f k z pc lv st) : V p l e R s m args below meth c P D Q nL n x f k z pc lv st := fun H locs ls hP _ hS hl => kk H locs ls hP (fun h => h.elim) hS hl
/-- as many cells were made as the world has: nothing else was made -/
theorem v_size (hs : s.heap.size = P.1) (hn : n = k) (hn0 : 0 < n) (kk : V p l e R s m args below meth c P D Q nL n True f k z pc lv st) : V p l e R s m args below meth c P D Q nL n False f k z pc lv st := by
  intro H locs ls hP hz hS hl T9 hT X
  refine kk H locs ls hP (fun _ => ?_) hS hl T9 hT X
  have h1 := X.heapSize
  have h2 : P.1 + (n - 1) < H.size := (hP (n - 1) _ (wl_get (by omega))).lt
  rw [hT, hs] at h1
  omega
theorem v_iretP {Rp : Int32 → Prop} (C : Cx p l s m args meth c P D cc nL (some .int) own) {f' : Nat → va_E} {a : Int32} (hdg : decode cc pc = .ok (.ireturn, 1)) (hf : f = f') (hr : Rp a) : V p l e R s m args below meth c P D (MQ below (va_Qi (fun (r : Int32) (_ : Unit) => Rp r) (PostB P D n x f') (aO P)) args s k z (aO P)) nL n x f k z pc lv [.int a] := by
  subst hf
  intro H locs ls hP hz hS hl
  exact W.iret C.1 C.2.1 C.2.2.2.2.2.1 (fun t ht hW => ⟨⟨a, (), rfl, hr, by rw [ht]; exact hP, fun hx => by rw [ht]; exact hz hx⟩, hS.F ht⟩) hS.2.2 hdg C.2.2.2.2.2.2.1
theorem go_P {Rp : Int32 → Prop} {mc ms n' : Nat} {f' : Nat → va_E} {rest : List Value} {a : Array Value} (hr : ∀ (H : Heap) (locs : List Loc) (ls : Array Slot), va_P D vwCl (wl P.1 n f) H → (x → H.size = P.1 + n) → va_S (fun q => P.1 ≤ q) s.heap H locs → lv_has ls nL lv → va_Run p l e R s m args below meth c H locs k z mc ms (F0 m pc ls st) rest ((va_Qi (fun (r : Int32) (_ : Unit) => Rp r) (PostB P D n' x f') (aO P)) a) (aO P)) (kk : ∀ r, Rp r → V p l e R s m args below meth c P D Q nL n' x f' (k + mc) (z + ms) (pc + 3) lv (.int r :: rest)) : V p l e R s m args below meth c P D Q nL n x f k z pc lv st := by
  intro H locs ls hP hz hS hl
  refine va_calli (hr H locs ls hP hz hS hl) hS (fun q _ h => h) (fun q h => h) (fun r9 u t H1 locs1 ht hvm hw hB hz1 hk1 hS1 => ?_)
  subst ht
  exact kk r9 hw _ locs1 ls hB.1 hB.2 hS1 hl
theorem wl_90 (hfl : P.2.2.2.2.1 = true) : (wl P.1 (nW P) (cw P N F T K A w))[90]? = some (rA P 0, .inl (P.2.1, 3, .inl (A 0))) := by
  rw [nW_t hfl, wl_get (by omega)]
  rfl
theorem v_ldE (C : Cx p l s m args meth c P D cc nL ret own) (hfl : P.2.2.2.2.1 = true) (t : Nat) {i : Int32} (hi : i = nI t) (ht : t < 3) (hdg : decode cc pc = .ok (.iaload, 1)) (kk : V p l e R s m args below meth c P D Q nL (nW P) False (cw P N F T K A w) k z (pc + 1) lv (.int (A 0 t) :: st)) : V p l e R s m args below meth c P D Q nL (nW P) False (cw P N F T K A w) k z pc lv (.int i :: .ref (rA P 0) :: st) := by
  subst hi
  have e0 : (nI t).toNatClampNeg = t := nI_clamp (by omega)
  intro H locs ls hP hz hS hl
  obtain ⟨hx, hb, hml, hown, hts, hr, hlk, hK, ho, hST⟩ := C
  refine va_iald (n := 3) (f := A 0) hx hb hK hP 90 0 (wl_90 hfl) rfl (vp_in_nI ht (by omega)) hdg ?_
  rw [e0]
  exact kk H locs ls hP hz hS hl
theorem v_stE (C : Cx p l s m args meth c P D cc nL ret own) (hfl : P.2.2.2.2.1 = true) (t : Nat) {i a : Int32} (hi : i = nI t) (ht : t < 3) (hdg : decode cc pc = .ok (.iastore, 1)) (kk : V p l e R s m args below meth c P D Q nL (nW P) False (cw P N F T K (va_up A 0 (upd (A 0) t a)) w) k z (pc + 1) lv st) : V p l e R s m args below meth c P D Q nL (nW P) False (cw P N F T K A w) k z pc lv (.int a :: .int i :: .ref (rA P 0) :: st) := by
  subst hi
  have e0 : (nI t).toNatClampNeg = t := nI_clamp (by omega)
  intro H locs ls hP hz hS hl
  obtain ⟨hx, hb, hml, hown, hts, hr, hlk, hK, ho, hST⟩ := C
  refine va_iast (n := 3) (f := A 0) hx hb hK hP (wl_D _ _ _) hS 90 0 (wl_90 hfl) rfl (vp_in_nI ht (by omega)) hdg (fun H1 locs1 hP1 _ hS1 => ?_)
  have e1 : (wl P.1 (nW P) (cw P N F T K A w)).set 90 (rA P 0, .inl (P.2.1, 3, .inl (upd (A 0) (nI t).toNatClampNeg a))) = wl P.1 (nW P) (cw P N F T K (va_up A 0 (upd (A 0) t a)) w) := by
    rw [e0, nW_t hfl]
    show (wl P.1 91 (cw P N F T K A w)).set 90 (P.1 + 90, _) = _
    rw [wl_set (by omega)]
    refine wl_cong fun a9 ha => ?_
    by_cases h9 : a9 = 90
    · subst h9
      rw [va_up_self]
      show _ = (.inl (P.2.1, 3, .inl (va_up A 0 (upd (A 0) t a) 0)) : va_E)
      rw [va_up_self]
    · rw [va_up_ne _ _ h9]
      exact cK_frA (fun i9 hi9 => (va_up_ne _ _ hi9).symm) (kd_90 a9 ha h9)
  rw [e1] at hP1
  exact kk H1 locs1 ls hP1 (fun h9 => h9.elim) hS1 hl
end LawRows
/-- a contract whose answer is told by a property -/
def CtP (l : Launch) (y : MethodName) (b : ByteArray) (nL : Nat) (h : Nat) (P : L5) (D : va_G) (n : Nat) (x : Prop) (f : Nat → va_E) (av : List Value) (Rp : Int32 → Prop) : Prop := Met l y (.code y b nL (some .int) :: gtb) (rmO h 0 0) (va_Pc av (PreI P D n x f)) (va_Qi (fun (r : Int32) (_ : Unit) => Rp r) (PostB P D n x f) (aO P)) 0 0 (aO P)
theorem and_max {v : Int32} : ∃ j, j < 2 ^ 31 ∧ v &&& 2147483647 = nI j := by
  refine nI_of ?_
  rw [Int32.lt_iff_toInt_lt]
  have h : (v &&& 2147483647).toBitVec.msb = false := by
    rw [Int32.toBitVec_and, BitVec.msb_and]
    rw [show (2147483647 : Int32).toBitVec.msb = false by decide, Bool.and_false]
  have h2 : 0 ≤ (v &&& 2147483647).toInt := BitVec.toInt_nonneg_of_msb_false h
  rw [show (0 : Int32).toInt = 0 from rfl]
  omega
theorem mod_nI {a m : Nat} (ha : a < 2 ^ 31) (hm0 : 0 < m) (hm : m < 2 ^ 31) : nI a - nI a / nI m * nI m = nI (a % m) := by
  rw [nI_div ha hm, nI_mul, nI_sub (Nat.div_mul_le_self _ _)]
  congr 1
  have := Nat.div_add_mod a m
  rw [Nat.mul_comm] at this
  omega
set_option maxHeartbeats 4000000 in
theorem c_L_below {l : Launch} {P : L5} {D : va_G} {n : Nat} {x : Prop} {f : Nat → va_E} {v : Int32} {m : Nat} (hm0 : 0 < m) (hm : m < 2 ^ 31) : CtP l yL_below cL_below 2 1 P D n x f [.int v, .int (nI m)] (fun r => ∃ j, j < m ∧ r = nI j) := by
  refine mk_Met pl_L [(0, .int v), (1, .int (nI m))] rfl (Nat.le_of_ble_eq_true rfl) ?_
  intro pg en sg mg ag bg mt cd C
  refine v_iload_n C 0 dL_below_0 rfl ?_
  refine v_ldc (v := 2147483647) C k_298 dL_below_1 ?_
  refine v_iand C dL_below_3 ?_
  obtain ⟨j, hj, ej⟩ := and_max (v := v)
  rw [ej]
  refine v_iload_n C 1 dL_below_4 rfl ?_
  refine v_irem C dL_below_5 (nI_ne0 hm0 hm) ?_
  exact v_iretP C dL_below_6 rfl ⟨j % m, Nat.mod_lt _ hm0, mod_nI hj hm0 hm⟩
set_option maxHeartbeats 4000000 in
theorem c_L_cell {l : Launch} {P : L5} {D : va_G} {n : Nat} {x : Prop} {f : Nat → va_E} {t : Nat} (ht : t < 1000) : CtP l yL_cell cL_cell 2 1 P D n x f [.ref (rS P 5), .int (nI t)] (fun _ => True) := by
  refine mk_Met pl_L [(0, .ref (rS P 5)), (1, .int (nI t))] rfl (Nat.le_of_ble_eq_true rfl) ?_
  intro pg en sg mg ag bg mt cd C
  obtain ⟨xs, hX⟩ := C.2.2.2.2.2.2.2.2.2.2.1
  have h3 := C.2.2.2.2.2.2.2.2.2.2.2.1
  have hbl : rS P 5 < sg.heap.size := by
    obtain ⟨scr, hc, -⟩ := hX
    exact (Array.getElem?_eq_some_iff.mp hc).1
  refine v_iload_n C 1 dL_cell_0 rfl ?_
  refine v_aload_n C 0 dL_cell_1 rfl ?_
  refine v_slen C hX hbl h3.2 dL_cell_2 ?_
  refine v_icmp_ge (tgt := 12) C dL_cell_3 (by decide) (fun h => ?_) (fun h => ?_)
  · refine v_ldc (v := 461243603) C k_302 dL_cell_12 ?_
    refine v_iload_n C 1 dL_cell_14 rfl ?_
    refine v_iconst (v := 3) C dL_cell_15 rfl ?_
    refine v_iadd C dL_cell_16 ?_
    refine v_imul C dL_cell_17 ?_
    exact v_iretP C dL_cell_18 rfl trivial
  · have h31 := h3.1
    have hlt : t < rS P 6 := Nat.not_le.mp fun z => h ((nI_leI (by omega) (by omega)).mpr z)
    refine v_aload_n C 0 dL_cell_6 rfl ?_
    refine v_iload_n C 1 dL_cell_7 rfl ?_
    refine v_sld (t := t) C hX hbl h3.2 rfl hlt (by omega) dL_cell_8 ?_
    refine v_goto (tgt := 18) C dL_cell_9 (by decide) ?_
    exact v_iretP C dL_cell_18 rfl trivial
