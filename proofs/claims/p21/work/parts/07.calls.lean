/-! CONTRACTS, THEIR BODIES, RETURNS, CALLS -/
abbrev aO (P : L5) : Nat → Prop := fun q => P.1 ≤ q
/-- behind a method: the cells hold f' -/
def PostB (P : L5) (D : va_G) (n : Nat) (x : Prop) (f : Nat → va_E) : Unit → State → Prop := fun _ t => va_P D vwCl (wl P.1 n f) t.heap ∧ (x → t.heap.size = P.1 + n)
abbrev QcI (P : L5) (D : va_G) (n : Nat) (x : Prop) (f : Nat → va_E) (r : Int32) := va_Qi (fun (r' : Int32) (_ : Unit) => r' = r) (PostB P D n x f) (aO P)
abbrev QcL (P : L5) (D : va_G) (n : Nat) (x : Prop) (f : Nat → va_E) (r : Int64) := va_Ql (fun (r' : Int64) (_ : Unit) => r' = r) (PostB P D n x f) (aO P)
abbrev QcV (P : L5) (D : va_G) (n : Nat) (x : Prop) (f : Nat → va_E) := va_Qv (fun (_ : Unit) => True) (PostB P D n x f) (aO P)
def CtI (l : Launch) (y : MethodName) (b : ByteArray) (nL : Nat) (rt : FieldType) (h mc ms : Nat) (P : L5) (D : va_G) (n n' : Nat) (x : Prop) (f f' : Nat → va_E) (av : List Value) (r : Int32) : Prop := Met l y (.code y b nL (some rt) :: gtb) (rmO h mc ms) (va_Pc av (PreI P D n x f)) (QcI P D n' x f' r) mc ms (aO P)
def CtL (l : Launch) (y : MethodName) (b : ByteArray) (nL : Nat) (h mc ms : Nat) (P : L5) (D : va_G) (n n' : Nat) (x : Prop) (f f' : Nat → va_E) (av : List Value) (r : Int64) : Prop := Met l y (.code y b nL (some .long) :: gtb) (rmO h mc ms) (va_Pc av (PreI P D n x f)) (QcL P D n' x f' r) mc ms (aO P)
def CtV (l : Launch) (y : MethodName) (b : ByteArray) (nL : Nat) (h mc ms : Nat) (P : L5) (D : va_G) (n n' : Nat) (x : Prop) (f f' : Nat → va_E) (av : List Value) : Prop := Met l y (.code y b nL none :: gtb) (rmO h mc ms) (va_Pc av (PreI P D n x f)) (QcV P D n' x f') mc ms (aO P)
/-- a method's body: from its walk -/
theorem mk_Met {l : Launch} {y : MethodName} {b : ByteArray} {nL : Nat} {rt : Option FieldType} {h mc ms : Nat} {P : L5} {D : va_G} {n : Nat} {x : Prop} {f : Nat → va_E} {av : List Value} {Qc : Array Value → State → Outcome → State → Prop} (hy : plainName y.cls = true) (lv : List (Nat × Value)) (hlv : lv_args 0 av = lv) (hlen : (lg_sl av).length ≤ nL)
    (body : ∀ (p : Program) (e : Env) (s : State) (m : MethodId) (args : Array Value) (below : List Frame) (meth : Method) (c : Code), Cx p l s m args meth c P D b nL rt y.cls → V p l e (rmO h mc ms) s m args below meth c P D (MQ below Qc args s mc ms (aO P)) nL n x f 0 0 0 lv []) :
    Met l y (.code y b nL rt :: gtb) (rmO h mc ms) (va_Pc av (PreI P D n x f)) Qc mc ms (aO P) := by
  refine Met.ofW (cc := b) (maxL := nL) (ret := rt) hy rfl ?_
  intro p e s m args below meth c s₁ B hml hv
  obtain ⟨rfl, hP, hK, ho, hz, hST⟩ := hv
  have hts := atoms_spec (ws := (.code y b nL rt :: gtb)) B.pre
  have hown : s.vm.findClass y.cls = some m.cls := findClass_of_methodNamed B.named
  have C : Cx p l s m av.toArray meth c P D b nL rt y.cls := ⟨B.exec, B.bytes, hml, hown, fun w hw => hts w (List.mem_cons_of_mem _ hw), B.returns, B.notSynchronized, hK, ho, hST⟩
  have hl := lv_entry av hlen
  rw [lg_entry_eq]
  rw [hlv] at hl
  exact body p e s m av.toArray below meth c C s.heap [] _ hP hz va_S.rf hl
section VCalls
variable {p : Program} {l : Launch} {e : Env} {R : Room} {s : State} {m : MethodId} {args : Array Value} {below : List Frame} {meth : Method} {c : Code} {P : L5} {D : va_G} {Q : State → Prop} {nL n : Nat} {x : Prop} {f : Nat → va_E} {k z pc : Nat} {lv : List (Nat × Value)} {st : List Value} {cc : ByteArray} {ret : Option FieldType} {own : String}
theorem v_iret (C : Cx p l s m args meth c P D cc nL (some .int) own) {f' : Nat → va_E} {a r : Int32} (hdg : decode cc pc = .ok (.ireturn, 1)) (hf : f = f') (hr : a = r) : V p l e R s m args below meth c P D (MQ below (QcI P D n x f' r) args s k z (aO P)) nL n x f k z pc lv [.int a] := by
  subst hf; subst hr
  intro H locs ls hP hz hS hl
  exact W.iret C.1 C.2.1 C.2.2.2.2.2.1 (fun t ht hW => ⟨⟨a, (), rfl, rfl, by rw [ht]; exact hP, fun hx => by rw [ht]; exact hz hx⟩, hS.F ht⟩) hS.2.2 hdg C.2.2.2.2.2.2.1
theorem v_zret (C : Cx p l s m args meth c P D cc nL (some .boolean) own) {f' : Nat → va_E} {a r : Int32} (hdg : decode cc pc = .ok (.ireturn, 1)) (hn : narrow .boolean (.int a) = .int a) (hf : f = f') (hr : a = r) : V p l e R s m args below meth c P D (MQ below (QcI P D n x f' r) args s k z (aO P)) nL n x f k z pc lv [.int a] := by
  subst hf; subst hr
  intro H locs ls hP hz hS hl
  exact W.zret C.1 C.2.1 C.2.2.2.2.2.1 hn (fun t ht hW => ⟨⟨a, (), rfl, rfl, by rw [ht]; exact hP, fun hx => by rw [ht]; exact hz hx⟩, hS.F ht⟩) hS.2.2 hdg C.2.2.2.2.2.2.1
theorem v_lret (C : Cx p l s m args meth c P D cc nL (some .long) own) {f' : Nat → va_E} {a r : Int64} (hdg : decode cc pc = .ok (.lreturn, 1)) (hf : f = f') (hr : a = r) : V p l e R s m args below meth c P D (MQ below (QcL P D n x f' r) args s k z (aO P)) nL n x f k z pc lv [.long a] := by
  subst hf; subst hr
  intro H locs ls hP hz hS hl
  exact W.lret C.1 C.2.1 C.2.2.2.2.2.1 (fun t ht hW => ⟨⟨a, (), rfl, rfl, by rw [ht]; exact hP, fun hx => by rw [ht]; exact hz hx⟩, hS.F ht⟩) hS.2.2 hdg C.2.2.2.2.2.2.1
theorem v_vret (C : Cx p l s m args meth c P D cc nL none own) {f' : Nat → va_E} (hdg : decode cc pc = .ok (.return_, 1)) (hf : f = f') : V p l e R s m args below meth c P D (MQ below (QcV P D n x f') args s k z (aO P)) nL n x f k z pc lv [] := by
  subst hf
  intro H locs ls hP hz hS hl
  exact W.vret C.1 C.2.1 C.2.2.2.2.2.1 (fun t ht hW => ⟨⟨(), rfl, trivial, by rw [ht]; exact hP, fun hx => by rw [ht]; exact hz hx⟩, hS.F ht⟩) hS.2.2 hdg C.2.2.2.2.2.2.1
theorem pre_of (C : Cx p l s m args meth c P D cc nL ret own) {H : Heap} {locs : List Loc} (hP : va_P D vwCl (wl P.1 n f) H) (hz : x → H.size = P.1 + n) (hS : va_S (fun q => P.1 ≤ q) s.heap H locs) {av : List Value} : ∀ U : State, U.heap = H → s.WarmedH U.vm → va_Pc av (PreI P D n x f) av.toArray U := by
  obtain ⟨hx, hb, hml, hown, hts, hr, hlk, hK, ho, hST⟩ := C
  intro U hU hW
  exact ⟨rfl, by rw [hU]; exact hP, va_K.moved hW.alike hK, by rw [hU]; exact Nat.le_trans ho hS.1, fun h9 => by rw [hU]; exact hz h9, ST.move hST hW (by rw [hU]; exact hS.2.1)⟩
/-- the receiver: a cell of the world, of the class Cn -/
def rcv (P : L5) (n : Nat) (f : Nat → va_E) (b : Nat) (Cn : String) : Prop := ∃ (q ci : Nat) (fs : List Value) (r : vw_C), (wl P.1 n f)[q]? = some (b, .inr (ci, fs)) ∧ vwCl[ci]? = some r ∧ r.1 = Cn
theorem run_V (C : Cx p l s m args meth c P D cc nL ret own) {y : MethodName} {b : ByteArray} {nb : Nat} {rt : Option FieldType} {h mc ms : Nat} {As rest : List Value} {a index : Nat} {Qc : Array Value → State → Outcome → State → Prop} (hM : Met l y (.code y b nb rt :: gtb) (rmO h mc ms) (va_Pc (.ref a :: As) (PreI P D n x f)) Qc mc ms (aO P)) (hk : Cond.code y b nb rt ∈ gtb) (hini : Cond.initialized y.cls ∈ gtb) (hl9 : Cond.methodLink own index y ∈ gtb) (hin : Cond.instanceMethod y ∈ gtb) (hse : Cond.selects y.cls y y ∈ gtb) (hd : y.cls ≠ "java/lang/invoke/MethodHandle" ∧ y.cls ≠ "java/lang/invoke/VarHandle" ∧ (parseMethodDescriptor y.desc).map (fun d => d.parameters.length) = some As.length) (hR : h + 1 ≤ R.frames ∧ 8 + (nb + 11) + 28 * h ≤ R.locals) (hrc : rcv P n f a y.cls) (hst : st = As.reverse ++ .ref a :: rest) (hW : (rest.map fun v => v.category).sum ≤ 8) (hdg : decode cc pc = .ok (.invokevirtual index, 3)) (hf : k + mc ≤ R.cells ∧ z + ms ≤ R.slots) : ∀ (H : Heap) (locs : List Loc) (ls : Array Slot), va_P D vwCl (wl P.1 n f) H → (x → H.size = P.1 + n) → va_S (fun q => P.1 ≤ q) s.heap H locs → lv_has ls nL lv → va_Run p l e R s m args below meth c H locs k z mc ms (F0 m pc ls st) rest (Qc (Value.ref a :: As).toArray) (aO P) := by
  intro H locs ls hP hz hS hl
  obtain ⟨hx, hb, hml, hown, hts, hr, hlk, hK, ho, hST⟩ := id C
  obtain ⟨q, ci, fs, r, h1, h2, h3⟩ := hrc
  have hG := gtb_in (w0 := .code y b nb rt) hk
  have hts' : ∀ w ∈ (.code y b nb rt :: gtb : List Cond), w.before args s = true := fun w hw => (List.mem_cons.mp hw).elim (fun e9 => by rw [e9]; exact hts _ hk) (hts w)
  exact va_runV (Ts := (.code y b nb rt :: gtb)) ⟨hx, hb, hml, hown, hts'⟩ hM ⟨callB_of As.length hts' hG rfl rfl rfl (hts _ hini) (hts _ hl9) hd hR, hts _ hin, hts _ hse⟩ ⟨PreI.blind, by rw [← h3]; exact va_recv hK hP h2 h1, pre_of C hP hz hS⟩ rfl rfl hl.1 hst (lv_room hW) hdg hf
theorem run_S (C : Cx p l s m args meth c P D cc nL ret own) {y : MethodName} {b : ByteArray} {nb : Nat} {rt : Option FieldType} {h mc ms : Nat} {As rest : List Value} {index : Nat} {Qc : Array Value → State → Outcome → State → Prop} (hM : Met l y (.code y b nb rt :: gtb) (rmO h mc ms) (va_Pc As (PreI P D n x f)) Qc mc ms (aO P)) (hk : Cond.code y b nb rt ∈ gtb) (hini : Cond.initialized y.cls ∈ gtb) (hl9 : Cond.methodLink own index y ∈ gtb) (hin : Cond.static y ∈ gtb) (hd : y.cls ≠ "java/lang/invoke/MethodHandle" ∧ y.cls ≠ "java/lang/invoke/VarHandle" ∧ (parseMethodDescriptor y.desc).map (fun d => d.parameters.length) = some As.length) (hR : h + 1 ≤ R.frames ∧ 8 + (nb + 11) + 28 * h ≤ R.locals) (hst : st = As.reverse ++ rest) (hW : (rest.map fun v => v.category).sum ≤ 8) (hdg : decode cc pc = .ok (.invokestatic index, 3)) (hf : k + mc ≤ R.cells ∧ z + ms ≤ R.slots) : ∀ (H : Heap) (locs : List Loc) (ls : Array Slot), va_P D vwCl (wl P.1 n f) H → (x → H.size = P.1 + n) → va_S (fun q => P.1 ≤ q) s.heap H locs → lv_has ls nL lv → va_Run p l e R s m args below meth c H locs k z mc ms (F0 m pc ls st) rest (Qc As.toArray) (aO P) := by
  intro H locs ls hP hz hS hl
  obtain ⟨hx, hb, hml, hown, hts, hr, hlk, hK, ho, hST⟩ := id C
  have hG := gtb_in (w0 := .code y b nb rt) hk
  have hts' : ∀ w ∈ (.code y b nb rt :: gtb : List Cond), w.before args s = true := fun w hw => (List.mem_cons.mp hw).elim (fun e9 => by rw [e9]; exact hts _ hk) (hts w)
  exact va_runS (Ts := (.code y b nb rt :: gtb)) ⟨hx, hb, hml, hown, hts'⟩ hM ⟨callB_of As.length hts' hG rfl rfl rfl (hts _ hini) (hts _ hl9) hd hR, hts _ hin⟩ ⟨PreI.blind, pre_of C hP hz hS⟩ rfl rfl hl.1 hst (lv_room hW) hdg hf
theorem run_VN (C : Cx p l s m args meth c P D cc nL ret own) {y : MethodName} {b : ByteArray} {nb : Nat} {rt : Option FieldType} {h mc ms : Nat} {As rest : List Value} {a index : Nat} {Qc : Array Value → State → Outcome → State → Prop} (hM : Met l y (.code y b nb rt :: gtb) (rmO h mc ms) (va_Pc (.ref a :: As) (PreI P D n x f)) Qc mc ms (aO P)) (hk : Cond.code y b nb rt ∈ gtb) (hini : Cond.initialized y.cls ∈ gtb) (hl9 : (own, index, y) ∈ nwM) (hin : Cond.instanceMethod y ∈ gtb) (hse : Cond.selects y.cls y y ∈ gtb) (hd : y.cls ≠ "java/lang/invoke/MethodHandle" ∧ y.cls ≠ "java/lang/invoke/VarHandle" ∧ (parseMethodDescriptor y.desc).map (fun d => d.parameters.length) = some As.length) (hR : h + 1 ≤ R.frames ∧ 8 + (nb + 11) + 28 * h ≤ R.locals) (hrc : rcv P n f a y.cls) (hst : st = As.reverse ++ .ref a :: rest) (hW : (rest.map fun v => v.category).sum ≤ 8) (hdg : decode cc pc = .ok (.invokevirtual index, 3)) (hf : k + mc ≤ R.cells ∧ z + ms ≤ R.slots) : ∀ (H : Heap) (locs : List Loc) (ls : Array Slot), va_P D vwCl (wl P.1 n f) H → (x → H.size = P.1 + n) → va_S (fun q => P.1 ≤ q) s.heap H locs → lv_has ls nL lv → va_Run p l e R s m args below meth c H locs k z mc ms (F0 m pc ls st) rest (Qc (Value.ref a :: As).toArray) (aO P) := by
  intro H locs ls hP hz hS hl
  obtain ⟨hx, hb, hml, hown, hts, hr, hlk, hK, ho, hST⟩ := id C
  obtain ⟨q, ci, fs, r, h1, h2, h3⟩ := hrc
  have hG := gtb_in (w0 := .code y b nb rt) hk
  have hts' : ∀ w ∈ (.code y b nb rt :: gtb : List Cond), w.before args s = true := fun w hw => (List.mem_cons.mp hw).elim (fun e9 => by rw [e9]; exact hts _ hk) (hts w)
  exact va_runVN (Ts := (.code y b nb rt :: gtb)) ⟨hx, hb, hml, hown, hts'⟩ hM ⟨va_cnB As.length hts' hG rfl rfl rfl (hST.2.2.2.2.1 _ hl9) (hts _ hini) hd hR, hts _ hin, hts _ hse⟩ ⟨PreI.blind, by rw [← h3]; exact va_recv hK hP h2 h1, pre_of C hP hz hS⟩ rfl rfl hl.1 hst (lv_room hW) hdg hf
theorem run_IN (C : Cx p l s m args meth c P D cc nL ret own) {y : MethodName} {b : ByteArray} {nb : Nat} {h mc ms : Nat} {As rest : List Value} {a index : Nat} {Qc : Array Value → State → Outcome → State → Prop} (hM : Met l y (.code y b nb none :: gtb) (rmO h mc ms) (va_Pc (.ref a :: As) (PreI P D n x f)) Qc mc ms (aO P)) (hk : Cond.code y b nb none ∈ gtb) (hini : Cond.initialized y.cls ∈ gtb) (hl9 : (own, index, y) ∈ nwM) (hin : Cond.instanceMethod y ∈ gtb) (hy1 : y.name = "<init>") (hd : y.cls ≠ "java/lang/invoke/MethodHandle" ∧ y.cls ≠ "java/lang/invoke/VarHandle" ∧ (parseMethodDescriptor y.desc).map (fun d => d.parameters.length) = some As.length) (hR : h + 1 ≤ R.frames ∧ 8 + (nb + 11) + 28 * h ≤ R.locals) (hst : st = As.reverse ++ .ref a :: rest) (hW : (rest.map fun v => v.category).sum ≤ 8) (hdg : decode cc pc = .ok (.invokespecial index, 3)) (hf : k + mc ≤ R.cells ∧ z + ms ≤ R.slots) : ∀ (H : Heap) (locs : List Loc) (ls : Array Slot), va_P D vwCl (wl P.1 n f) H → (x → H.size = P.1 + n) → va_S (fun q => P.1 ≤ q) s.heap H locs → lv_has ls nL lv → va_Run p l e R s m args below meth c H locs k z mc ms (F0 m pc ls st) rest (Qc (Value.ref a :: As).toArray) (aO P) := by
  intro H locs ls hP hz hS hl
  obtain ⟨hx, hb, hml, hown, hts, hr, hlk, hK, ho, hST⟩ := id C
  have hG := gtb_in (w0 := .code y b nb none) hk
  have hts' : ∀ w ∈ (.code y b nb none :: gtb : List Cond), w.before args s = true := fun w hw => (List.mem_cons.mp hw).elim (fun e9 => by rw [e9]; exact hts _ hk) (hts w)
  exact va_runIN (Ts := (.code y b nb none :: gtb)) ⟨hx, hb, hml, hown, hts'⟩ hM ⟨va_cnB As.length hts' hG rfl rfl rfl (hST.2.2.2.2.1 _ hl9) (hts _ hini) hd hR, hy1, hts _ hin⟩ ⟨PreI.blind, pre_of C hP hz hS⟩ rfl rfl hl.1 hst (lv_room hW) hdg hf
theorem go_I {mc ms n' : Nat} {f' : Nat → va_E} {r : Int32} {rest : List Value} {a : Array Value} (hr : ∀ (H : Heap) (locs : List Loc) (ls : Array Slot), va_P D vwCl (wl P.1 n f) H → (x → H.size = P.1 + n) → va_S (fun q => P.1 ≤ q) s.heap H locs → lv_has ls nL lv → va_Run p l e R s m args below meth c H locs k z mc ms (F0 m pc ls st) rest ((QcI P D n' x f' r) a) (aO P)) (kk : V p l e R s m args below meth c P D Q nL n' x f' (k + mc) (z + ms) (pc + 3) lv (.int r :: rest)) : V p l e R s m args below meth c P D Q nL n x f k z pc lv st := by
  intro H locs ls hP hz hS hl
  refine va_calli (hr H locs ls hP hz hS hl) hS (fun q _ h => h) (fun q h => h) (fun r9 u t H1 locs1 ht hvm hw hB hz1 hk1 hS1 => ?_)
  subst ht
  subst hw
  exact kk _ locs1 ls hB.1 hB.2 hS1 hl
theorem go_L {mc ms n' : Nat} {f' : Nat → va_E} {r : Int64} {rest : List Value} {a : Array Value} (hr : ∀ (H : Heap) (locs : List Loc) (ls : Array Slot), va_P D vwCl (wl P.1 n f) H → (x → H.size = P.1 + n) → va_S (fun q => P.1 ≤ q) s.heap H locs → lv_has ls nL lv → va_Run p l e R s m args below meth c H locs k z mc ms (F0 m pc ls st) rest ((QcL P D n' x f' r) a) (aO P)) (kk : V p l e R s m args below meth c P D Q nL n' x f' (k + mc) (z + ms) (pc + 3) lv (.long r :: rest)) : V p l e R s m args below meth c P D Q nL n x f k z pc lv st := by
  intro H locs ls hP hz hS hl
  refine va_calll (hr H locs ls hP hz hS hl) hS (fun q _ h => h) (fun q h => h) (fun r9 u t H1 locs1 ht hvm hw hB hz1 hk1 hS1 => ?_)
  subst ht
  subst hw
  exact kk _ locs1 ls hB.1 hB.2 hS1 hl
theorem go_V {mc ms n' : Nat} {f' : Nat → va_E} {rest : List Value} {a : Array Value} (hr : ∀ (H : Heap) (locs : List Loc) (ls : Array Slot), va_P D vwCl (wl P.1 n f) H → (x → H.size = P.1 + n) → va_S (fun q => P.1 ≤ q) s.heap H locs → lv_has ls nL lv → va_Run p l e R s m args below meth c H locs k z mc ms (F0 m pc ls st) rest ((QcV P D n' x f') a) (aO P)) (kk : V p l e R s m args below meth c P D Q nL n' x f' (k + mc) (z + ms) (pc + 3) lv rest) : V p l e R s m args below meth c P D Q nL n x f k z pc lv st := by
  intro H locs ls hP hz hS hl
  refine va_callv (hr H locs ls hP hz hS hl) hS (fun q _ h => h) (fun q h => h) (fun u t H1 locs1 ht hvm hw hB hz1 hk1 hS1 => ?_)
  subst ht
  clear hw
  exact kk _ locs1 ls hB.1 hB.2 hS1 hl
theorem rcN {N F T : Nat → Nat → Int32} {K : Nat → Int32} {A : Nat → Nat → Int32} {w : Int64} {j : Nat} (hj : j < 25) : rcv P (nW P) (cw P N F T K A w) (rN P j) RX1 := ⟨ik (3, j), 1, _, _, cw_get (3, j) (kdN j hj).1 (kdN j hj).2, rfl, rfl⟩
theorem rcF {N F T : Nat → Nat → Int32} {K : Nat → Int32} {A : Nat → Nat → Int32} {w : Int64} {j : Nat} (hj : j < 8) : rcv P (nW P) (cw P N F T K A w) (rF P j) RX0 := ⟨ik (7, j), 0, _, _, cw_get (7, j) (kdF j hj).1 (kdF j hj).2, rfl, rfl⟩
theorem rcT {N F T : Nat → Nat → Int32} {K : Nat → Int32} {A : Nat → Nat → Int32} {w : Int64} {j : Nat} (hj : j < 2) : rcv P (nW P) (cw P N F T K A w) (rT P j) RX2 := ⟨ik (1, j), 2, _, _, cw_get (1, j) (kdT j hj).1 (kdT j hj).2, rfl, rfl⟩
theorem rcX {N F T : Nat → Nat → Int32} {K : Nat → Int32} {A : Nat → Nat → Int32} {w : Int64} : rcv P (nW P) (cw P N F T K A w) (rX P) RX3 := ⟨ik (0, 0), 3, _, _, cw_get (0, 0) kdX.1 kdX.2, rfl, rfl⟩
end VCalls
