/-! THROWS: a method that throws always, in the case that its contract names; the world stays -/
def nms : List String := ["java/lang/RuntimeException", "java/lang/Exception"]
def icX (n : Nat) : Nat := if n = 1 then 121 else if n = 2 then 145 else 42
theorem thr_in3 : ∀ w ∈ (vx_atS RX3 (icX 3) (xn 3) nms).filter goodWord, w ∈ lw_tbl := by decide +kernel
theorem thr_in1 : ∀ w ∈ (vx_atS RX3 (icX 1) (xn 1) nms).filter goodWord, w ∈ lw_tbl := by decide +kernel
theorem thr_in2 : ∀ w ∈ (vx_atS RX3 (icX 2) (xn 2) nms).filter goodWord, w ∈ lw_tbl := by decide +kernel
theorem thr_bad3 : ∀ w ∈ (vx_atS RX3 (icX 3) (xn 3) nms).filter (fun w => !goodWord w), w ∈ Cond.castable (xn 3) (xn 3) :: dcN.map (fun Y => Cond.declares (Bundle.initS Y)) := by decide +kernel
theorem thr_bad1 : ∀ w ∈ (vx_atS RX3 (icX 1) (xn 1) nms).filter (fun w => !goodWord w), w ∈ Cond.castable (xn 1) (xn 1) :: dcN.map (fun Y => Cond.declares (Bundle.initS Y)) := by decide +kernel
theorem thr_bad2 : ∀ w ∈ (vx_atS RX3 (icX 2) (xn 2) nms).filter (fun w => !goodWord w), w ∈ Cond.castable (xn 2) (xn 2) :: dcN.map (fun Y => Cond.declares (Bundle.initS Y)) := by decide +kernel
def ikX (n : Nat) : Nat := if n = 1 then 117 else if n = 2 then 141 else 38
theorem thr_ot : ∀ n, n = 1 ∨ n = 2 ∨ n = 3 → ∀ w ∈ Cond.classLink RX3 (ikX n) (xn n) :: Cond.initialized (xn n) :: vx_atS RX3 (icX n) (xn n) nms, vx_ot w = true := by
  intro n hn
  rcases hn with rfl | rfl | rfl <;> exact List.all_eq_true.mp (by decide +kernel)
theorem thr_at {args : Array Value} {s : State} {P : L5} (hts : ∀ w ∈ gtb, w.before args s = true) (hST : ST P s) : ∀ n, n = 1 ∨ n = 2 ∨ n = 3 → ∀ w ∈ vx_atS RX3 (icX n) (xn n) nms, w.before args s = true := by
  intro n hn
  have hc : ∀ w ∈ Cond.castable (xn n) (xn n) :: dcN.map (fun Y => Cond.declares (Bundle.initS Y)), w.before args s = true := by
    intro w hw
    rcases List.mem_cons.mp hw with rfl | hw
    · exact va_Nw.use rfl (hST.2.2.2.2.2.2.1 n)
    · obtain ⟨Y, hY, rfl⟩ := List.mem_map.mp hw
      exact va_Nw.use rfl (hST.2.2.2.2.2.2.2.2 Y hY)
  rcases hn with rfl | rfl | rfl
  · exact vx_hat (fun w hw => hts w (List.mem_filter.mpr ⟨thr_in1 w hw, (List.mem_filter.mp hw).2⟩)) thr_bad1 hc
  · exact vx_hat (fun w hw => hts w (List.mem_filter.mpr ⟨thr_in2 w hw, (List.mem_filter.mp hw).2⟩)) thr_bad2 hc
  · exact vx_hat (fun w hw => hts w (List.mem_filter.mpr ⟨thr_in3 w hw, (List.mem_filter.mp hw).2⟩)) thr_bad3 hc
theorem thr_k : ∀ n, n = 1 ∨ n = 2 ∨ n = 3 → Cond.classLink RX3 (ikX n) (xn n) ∈ gtb ∧ Cond.initialized (xn n) ∈ gtb := by
  intro n hn
  rcases hn with rfl | rfl | rfl
  · exact ⟨k_215, k_9⟩
  · exact ⟨k_286, k_10⟩
  · exact ⟨k_302, k_11⟩
theorem thr_fit : ∀ n, n = 1 ∨ n = 2 ∨ n = 3 → Bundle.fit (xn n) = true := by
  intro n hn
  rcases hn with rfl | rfl | rfl <;> decide +kernel
theorem thr_nms : ∀ n ∈ nms, Bundle.fit n = true := by decide +kernel
abbrev XcX (P : L5) (D : va_G) (f : Nat → va_E) (n : Nat) : String → State → State → Prop := vx_X (fun (_ : Unit) => True) (fun E _ t => E = xn n ∧ va_P D vwCl (wl P.1 97 f) t.heap) (aO P)
abbrev QxI (P : L5) : Array Value → State → Outcome → State → Prop := va_Qi (fun (_ : Int32) (_ : Unit) => False) (fun _ _ => True) (aO P)
abbrev QxV (P : L5) : Array Value → State → Outcome → State → Prop := va_Qv (fun (_ : Unit) => False) (fun _ _ => True) (aO P)
def CxV (l : Launch) (y : MethodName) (b : ByteArray) (nL : Nat) (h : Nat) (P : L5) (D : va_G) (f : Nat → va_E) (av : List Value) (n : Nat) : Prop := vx_Met l y (.code y b nL none :: gtb) (rmO h 1 6) (va_Pc av (PreI P D 97 False f)) (QxV P) (XcX P D f n) 1 6 (aO P)
def CxI (l : Launch) (y : MethodName) (b : ByteArray) (nL : Nat) (rt : FieldType) (h : Nat) (P : L5) (D : va_G) (f : Nat → va_E) (av : List Value) (n : Nat) : Prop := vx_Met l y (.code y b nL (some rt) :: gtb) (rmO h 1 6) (va_Pc av (PreI P D 97 False f)) (QxI P) (XcX P D f n) 1 6 (aO P)
theorem mk_MetX {l : Launch} {y : MethodName} {b : ByteArray} {nL : Nat} {rt : Option FieldType} {h mc ms : Nat} {P : L5} {D : va_G} {n : Nat} {x : Prop} {f : Nat → va_E} {av : List Value} {Qc : Array Value → State → Outcome → State → Prop} {XC : String → State → State → Prop} (hy : plainName y.cls = true) (lv : List (Nat × Value)) (hlv : lv_args 0 av = lv) (hlen : (lg_sl av).length ≤ nL)
    (body : ∀ (p : Program) (e : Env) (s : State) (m : MethodId) (args : Array Value) (below : List Frame) (meth : Method) (c : Code), Cx p l s m args meth c P D b nL rt y.cls → (∀ x ∈ c.exceptionTable.toList, False) → V p l e (rmO h mc ms) s m args below meth c P D (vx_MQ below Qc XC args s mc ms (aO P)) nL n x f 0 0 0 lv []) :
    vx_Met l y (.code y b nL rt :: gtb) (rmO h mc ms) (va_Pc av (PreI P D n x f)) Qc XC mc ms (aO P) := by
  refine vx_ofW (cc := b) (maxL := nL) (ret := rt) hy rfl ?_
  intro p e s m args below meth c s₁ B hml hnt hv
  obtain ⟨rfl, hP, hK, ho, hz, hST⟩ := hv
  have hts := atoms_spec (ws := (.code y b nL rt :: gtb)) B.pre
  have hown : s.vm.findClass y.cls = some m.cls := findClass_of_methodNamed B.named
  have C : Cx p l s m av.toArray meth c P D b nL rt y.cls := ⟨B.exec, B.bytes, hml, hown, fun w hw => hts w (List.mem_cons_of_mem _ hw), B.returns, B.notSynchronized, hK, ho, hST⟩
  have hl := lv_entry av hlen
  rw [lg_entry_eq]
  rw [hlv] at hl
  exact body p e s m av.toArray below meth c C hnt s.heap [] _ hP hz va_S.rf hl
section VThrow
variable {p : Program} {l : Launch} {e : Env} {R : Room} {s : State} {m : MethodId} {args : Array Value} {below : List Frame} {meth : Method} {c : Code} {P : L5} {D : va_G} {Q : State → Prop} {nL : Nat} {f : Nat → va_E} {k z pc : Nat} {lv : List (Nat × Value)} {st : List Value} {cc : ByteArray} {ret : Option FieldType}
theorem v_throw (C : Cx p l s m args meth c P D cc nL ret RX3) (hnt : ∀ x ∈ c.exceptionTable.toList, False) (hl9 : l.stackTraces = false) (n : Nat) (hn : n = 1 ∨ n = 2 ∨ n = 3) {is : Nat} {text : String} (hs9 : (is, text) ∈ strQ) {mc ms : Nat} {Qc : Array Value → State → Outcome → State → Prop}
    (d0 : decode cc pc = .ok (.new (ikX n), 3)) (d3 : decode cc (pc + 3) = .ok (.dup, 1)) (d4 : decode cc (pc + 4) = .ok (.ldc is, 2)) (d6 : decode cc (pc + 6) = .ok (.invokespecial (icX n), 3)) (d9 : decode cc (pc + 9) = .ok (.athrow, 1))
    (hR : 5 < R.frames) (hlo : (st.map fun v => v.category).sum + 82 ≤ R.locals) (hRc : k + 1 ≤ R.cells) (hRs : z + 6 ≤ R.slots) (hc : k + 1 ≤ mc) (hs : z + 6 ≤ ms) :
    V p l e R s m args below meth c P D (vx_MQ below Qc (XcX P D f n) args s mc ms (aO P)) nL 97 False f k z pc lv st := by
  intro H locs ls hP hz hS hl
  obtain ⟨hx, hb, hml, hown, hts, hr, hlk, hK, ho, hST⟩ := id C
  obtain ⟨sa, hsa⟩ := hST.2.2.1 _ hs9
  refine vx_throwS (names := nms) (sa := sa) hx hb hl9 hown (thr_fit n hn) thr_nms (hts _ (thr_k n hn).1) (hts _ (thr_k n hn).2) hsa (thr_at hts hST n hn) (thr_ot n hn) hST.2.1.1 hST.2.1.2 hS (hl.1.trans hml.symm) d0 d3 d4 d6 d9 (fun x9 h9 => (hnt x9 h9).elim) hR hlo hRc hRs hlk (fun t ht h1 h2 => ⟨(), trivial, ⟨rfl, ?_⟩, ?_⟩) hS.2.2 hc hs
  · exact hP.kept (fun k9 q9 h9 => h2 q9.1 ((hP k9 q9 h9).lt))
  · exact ⟨Nat.le_trans hS.1 h1, fun q h3 h4 => (h2 q (Nat.lt_of_lt_of_le h3 hS.1)).trans (hS.2.1 q h3 h4)⟩
theorem gox_V {own : String} (C : Cx p l s m args meth c P D cc nL ret own) (hnt : ∀ x ∈ c.exceptionTable.toList, False) {n mc ms : Nat} {Qc : Array Value → State → Outcome → State → Prop} {rest : List Value} {a : Array Value} (hr : ∀ (H : Heap) (locs : List Loc) (ls : Array Slot), va_P D vwCl (wl P.1 97 f) H → (False → H.size = P.1 + 97) → va_S (fun q => P.1 ≤ q) s.heap H locs → lv_has ls nL lv → vx_Run p l e R s m args below meth c H locs k z 1 6 (F0 m pc ls st) rest (QxV P a) (XcX P D f n) (aO P)) (hc : k + 1 ≤ mc) (hs : z + 6 ≤ ms) :
    V p l e R s m args below meth c P D (vx_MQ below Qc (XcX P D f n) args s mc ms (aO P)) nL 97 False f k z pc lv st := by
  intro H locs ls hP hz hS hl
  refine vx_callv (hr H locs ls hP hz hS hl) hS (fun q _ h => h) (fun q h => h) (fun q _ h => h) (fun E ce q9 u t H1 locs1 ht hvm hp hB hz1 hk1 hS1 hce hcv hcl => ?_) (fun u t H1 locs1 ht hvm hw => hw.elim)
  refine vx_out (fun x9 h9 => (hnt x9 h9).elim) C.2.2.2.2.2.2.1 hce hcv hcl (fun t9 h9 h10 => ⟨(), trivial, ⟨hB.1, ?_⟩, ?_⟩) hS1.2.2 hc hs
  · rw [h9, ← ht]; exact hB.2
  · exact ⟨by rw [h9]; exact hS1.1, fun q h3 h4 => by rw [h9]; exact hS1.2.1 q h3 h4⟩
end VThrow
