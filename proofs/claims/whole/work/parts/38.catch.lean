/-! METHODS WITH HANDLERS -/
theorem mk_MetH {l : Launch} {y : MethodName} {b : ByteArray} {nL : Nat} {rt : Option FieldType} {hh : List (Nat × Nat × Nat × Nat)} {h mc ms : Nat} {P : L5} {D : va_G} {n : Nat} {x : Prop} {f : Nat → va_E} {av : List Value} {Qc : Array Value → State → Outcome → State → Prop} (hy : plainName y.cls = true) (lv : List (Nat × Value)) (hlv : lv_args 0 av = lv) (hlen : (lg_sl av).length ≤ nL)
    (body : ∀ (p : Program) (e : Env) (s : State) (m : MethodId) (args : Array Value) (below : List Frame) (meth : Method) (c : Code), Cx p l s m args meth c P D b nL rt y.cls → c.exceptionTable.toList = tableOf hh → V p l e (rmO h mc ms) s m args below meth c P D (MQ below Qc args s mc ms (aO P)) nL n x f 0 0 0 lv []) :
    Met l y (.codeWith y b nL rt hh :: gtb) (rmO h mc ms) (va_Pc av (PreI P D n x f)) Qc mc ms (aO P) := by
  refine va_MetW (cc := b) (maxL := nL) (ret := rt) (hh := hh) hy rfl ?_
  intro p e s m args below meth c s₁ B hml hv
  obtain ⟨rfl, hP, hK, ho, hz, hST⟩ := hv
  have hts := atoms_spec (ws := (.codeWith y b nL rt hh :: gtb)) B.pre
  have htab := vx_table (x := y) B (hts _ List.mem_cons_self)
  have hown : s.vm.findClass y.cls = some m.cls := findClass_of_methodNamed B.named
  have C : Cx p l s m av.toArray meth c P D b nL rt y.cls := ⟨B.exec, B.bytes, hml, hown, fun w hw => hts w (List.mem_cons_of_mem _ hw), B.returns, B.notSynchronized, hK, ho, hST⟩
  have hl := lv_entry av hlen
  rw [lg_entry_eq]
  rw [hlv] at hl
  exact body p e s m av.toArray below meth c C htab s.heap [] _ hP hz va_S.rf hl
def CtH (l : Launch) (y : MethodName) (b : ByteArray) (nL : Nat) (hh : List (Nat × Nat × Nat × Nat)) (h mc ms : Nat) (P : L5) (D : va_G) (f f' : Nat → va_E) (av : List Value) (r : Int32) : Prop := Met l y (.codeWith y b nL (some .int) hh :: gtb) (rmO h mc ms) (va_Pc av (PreI P D 97 False f)) (QcI P D 97 False f' r) mc ms (aO P)
theorem kd10 : ∀ a, a < 97 → 10 ≤ (kd a).1 → kd a = (10, 0) := by decide +kernel
theorem cK_frw {P : L5} {N F T : Nat → Nat → Int32} {K : Nat → Int32} {A : Nat → Nat → Int32} {w w' : Int64} {q' : Nat × Nat} (h3 : q'.1 < 10) : cK P N F T K A w q' = cK P N F T K A w' q' := by
  obtain ⟨κ, i⟩ := q'
  match κ, h3 with
  | 0, _ => rfl
  | 1, _ => rfl
  | 2, _ => rfl
  | 3, _ => rfl
  | 4, _ => rfl
  | 5, _ => rfl
  | 6, _ => rfl
  | 7, _ => rfl
  | 8, _ => rfl
  | 9, _ => rfl
section VCatch
variable {p : Program} {l : Launch} {e : Env} {R : Room} {s : State} {m : MethodId} {args : Array Value} {below : List Frame} {meth : Method} {c : Code} {P : L5} {D : va_G} {Q : State → Prop} {nL n : Nat} {x : Prop} {f : Nat → va_E} {k z pc : Nat} {lv : List (Nat × Value)} {st : List Value} {cc : ByteArray} {ret : Option FieldType} {own : String}
variable {N F T : Nat → Nat → Int32} {K : Nat → Int32} {A : Nat → Nat → Int32} {w : Int64}
theorem v_ldO (C : Cx p l s m args meth c P D cc nL ret own) (hdg : decode cc pc = .ok (.laload, 1)) (kk : V p l e R s m args below meth c P D Q nL 97 False (cw P N F T K A w) k z (pc + 1) lv (.long w :: st)) : V p l e R s m args below meth c P D Q nL 97 False (cw P N F T K A w) k z pc lv (.int 0 :: .ref (rO P) :: st) := by
  intro H locs ls hP hz hS hl
  obtain ⟨hx, hb, hml, hown, hts, hr, hlk, hK, ho, hST⟩ := C
  exact va_lald (n := 1) (f := fun _ => w) hx hb hK hP (ik (10, 0)) 3 (cw_get (10, 0) kdO.1 kdO.2) rfl (by unfold vp_in; decide) hdg (kk H locs ls hP hz hS hl)
theorem v_stO (C : Cx p l s m args meth c P D cc nL ret own) {a : Int64} (hdg : decode cc pc = .ok (.lastore, 1)) (kk : V p l e R s m args below meth c P D Q nL 97 False (cw P N F T K A a) k z (pc + 1) lv st) : V p l e R s m args below meth c P D Q nL 97 False (cw P N F T K A w) k z pc lv (.long a :: .int 0 :: .ref (rO P) :: st) := by
  intro H locs ls hP hz hS hl
  obtain ⟨hx, hb, hml, hown, hts, hr, hlk, hK, ho, hST⟩ := C
  refine va_last (n := 1) (f := fun _ => w) hx hb hK hP (wl_D _ _ _) hS (ik (10, 0)) 3 (cw_get (10, 0) kdO.1 kdO.2) rfl (by unfold vp_in; decide) hdg (fun H1 locs1 hP1 _ hS1 => ?_)
  have h9 : va_P D vwCl ((wl P.1 97 (cw P N F T K A w)).set (ik (10, 0)) (P.1 + ik (10, 0), cK P N F T K A a (10, 0))) H1 := by
    have h8 := hP1.set (wl_D _ _ _ |>.set (wl_get kdO.2)) (List.getElem?_set_self (by rw [wl_len]; exact kdO.2)) (H1 := H1) (e := .inl (P.2.2.2.2.1, 1, .inr (.inl (fun _ => a)))) (by
      have h7 := hP1 (ik (10, 0)) _ (List.getElem?_set_self (by rw [wl_len]; exact kdO.2))
      show H1[_]? = some (vp_cell _ _)
      rw [show H1[P.1 + ik (10, 0)]? = some (vp_cell _ _) from h7, vp_cell_l, vp_cell_l]
      exact congrArg some (arrV_cong fun j hj => by
        have : j = 0 := by omega
        subst this
        rfl)) (fun _ _ => rfl)
    rw [List.set_set] at h8
    exact h8
  rw [cw_set (P := P) (N := N) (F := F) (T := T) (K := K) (A := A) (w := w) (N' := N) (F' := F) (T' := T) (K' := K) (A' := A) (w' := a) (10, 0) kdO.1 kdO.2 rfl (fun q9 h9 hr9 => by
    obtain ⟨a9, ha9, rfl⟩ := hr9
    exact cK_frw (Nat.not_le.mp fun h10 => h9 (kd10 a9 ha9 h10)))] at h9
  exact kk H1 locs1 ls h9 (fun h9 => h9.elim) hS1 hl
/-- a call that throws, caught here -/
theorem gox_H (C : Cx p l s m args meth c P D cc nL ret RL) {n : Nat} {rest : List Value} {a : Array Value} (hr : ∀ (H : Heap) (locs : List Loc) (ls : Array Slot), va_P D vwCl (wl P.1 97 f) H → (False → H.size = P.1 + 97) → va_S (fun q => P.1 ≤ q) s.heap H locs → lv_has ls nL lv → vx_Run p l e R s m args below meth c H locs k z 1 6 (F0 m pc ls st) rest (QxI P a) (XcX P D f n) (aO P))
    (pre : List ExceptionTableEntry) (x : ExceptionTableEntry) (suf : List ExceptionTableEntry) (hsplit : c.exceptionTable.toList = pre ++ x :: suf) (hpass : ∀ z ∈ pre, covers z pc = false ∨ (z.catchType ≠ 0 ∧ ∃ n2, Cond.classLink RL z.catchType (xn n2) ∈ gtb ∧ xn n ≠ xn n2)) (hx : covers x pc = true) (h0 : x.catchType ≠ 0) (hlink : Cond.classLink RL x.catchType (xn n) ∈ gtb)
    (kk : ∀ q9 : Nat, V p l e R s m args below meth c P D Q nL 97 False f (k + 1) (z + 6) x.handlerPc lv [.ref q9]) : V p l e R s m args below meth c P D Q nL 97 False f k z pc lv st := by
  intro H locs ls hP hz hS hl
  obtain ⟨hx9, hb, hml, hown, hts, hr9, hlk, hK, ho, hST⟩ := C
  refine vx_calli (hr H locs ls hP hz hS hl) hS (fun q _ h => h) (fun q h => h) (fun q _ h => h) (fun E ce q9 u t H1 locs1 ht hvm hp hB hz1 hk1 hS1 hce hcv hcl => ?_) (fun r u t H1 locs1 ht hvm hw => hw.elim)
  obtain ⟨rfl, hB2⟩ := hB
  refine vx_catch hown pre x suf hsplit (fun z9 hz9 => ?_) hx h0 (hts _ hlink) (va_Nw.use rfl (hST.2.2.2.2.2.2.1 n)) hce hcv hcl ?_
  · rcases hpass z9 hz9 with h | ⟨h1, n2, h2, h3⟩
    · exact Or.inl h
    · exact Or.inr ⟨h1, _, hts _ h2, hST.2.2.2.2.2.2.2.1 _ _ h3⟩
  · exact kk q9 H1 locs1 ls (by rw [← ht]; exact hB2) (fun h => h.elim) hS1 hl
/-- a static call of a method with handlers -/
theorem run_SW (C : Cx p l s m args meth c P D cc nL ret own) {y : MethodName} {b : ByteArray} {nb : Nat} {hh : List (Nat × Nat × Nat × Nat)} {rt : Option FieldType} {h mc ms : Nat} {As rest : List Value} {index : Nat} {Qc : Array Value → State → Outcome → State → Prop} (hM : Met l y (.codeWith y b nb rt hh :: gtb) (rmO h mc ms) (va_Pc As (PreI P D n x f)) Qc mc ms (aO P)) (hk : Cond.codeWith y b nb rt hh ∈ gtb) (hini : Cond.initialized y.cls ∈ gtb) (hl9 : Cond.methodLink own index y ∈ gtb) (hin : Cond.static y ∈ gtb) (hd : y.cls ≠ "java/lang/invoke/MethodHandle" ∧ y.cls ≠ "java/lang/invoke/VarHandle" ∧ (parseMethodDescriptor y.desc).map (fun d => d.parameters.length) = some As.length) (hR : h + 1 ≤ R.frames ∧ 8 + (nb + 11) + 28 * h ≤ R.locals) (hst : st = As.reverse ++ rest) (hW : (rest.map fun v => v.category).sum ≤ 8) (hdg : decode cc pc = .ok (.invokestatic index, 3)) (hf : k + mc ≤ R.cells ∧ z + ms ≤ R.slots) : ∀ (H : Heap) (locs : List Loc) (ls : Array Slot), va_P D vwCl (wl P.1 n f) H → (x → H.size = P.1 + n) → va_S (fun q => P.1 ≤ q) s.heap H locs → lv_has ls nL lv → va_Run p l e R s m args below meth c H locs k z mc ms (F0 m pc ls st) rest (Qc As.toArray) (aO P) := by
  intro H locs ls hP hz hS hl
  obtain ⟨hx, hb, hml, hown, hts, hr, hlk, hK, ho, hST⟩ := id C
  have hG := gtb_in (w0 := .codeWith y b nb rt hh) hk
  have hts' : ∀ w ∈ (.codeWith y b nb rt hh :: gtb : List Cond), w.before args s = true := fun w hw => (List.mem_cons.mp hw).elim (fun e9 => by rw [e9]; exact hts _ hk) (hts w)
  have hlen : ∀ sig, parseMethodDescriptor y.desc = some sig → As.length = sig.parameters.length := fun sig h9 => by
    have h2 := hd.2.2
    rw [h9] at h2
    exact (Option.some.inj h2).symm
  exact vx_runSW (Ts := (.codeWith y b nb rt hh :: gtb)) (n := As.length) ⟨hx, hb, hml, hown, hts'⟩ hM ⟨⟨rfl, rfl, hR.1, hR.2, pay_in hts' hG, List.mem_cons_self⟩, hts _ hk, hts _ hini, ⟨hd.1, hd.2.1⟩, hlen, hts _ hl9, hts _ hin⟩ ⟨PreI.blind, pre_of C hP hz hS⟩ rfl rfl hl.1 hst (lv_room hW) hdg hf
end VCatch
