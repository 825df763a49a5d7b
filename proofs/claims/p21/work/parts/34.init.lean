/-! THE CLASS'S CONSTRUCTORS -/
theorem va_up_two {α : Type} (f : Nat → α) (k : Nat) (a b : α) : va_up (va_up f k a) k b = va_up f k b := by
  funext i
  by_cases h : i = k
  · rw [h, va_up_self, va_up_self]
  · rw [va_up_ne _ _ h, va_up_ne _ _ h, va_up_ne _ _ h]
theorem va_up_swap {α : Type} (f : Nat → α) {k j : Nat} (a b : α) (h : k ≠ j) : va_up (va_up f k a) j b = va_up (va_up f j b) k a := by
  funext i
  by_cases h1 : i = k
  · rw [h1, va_up_ne _ _ h, va_up_self, va_up_self]
  · by_cases h2 : i = j
    · rw [h2, va_up_self, va_up_ne _ _ (Ne.symm h), va_up_self]
    · rw [va_up_ne _ _ h2, va_up_ne _ _ h1, va_up_ne _ _ h1, va_up_ne _ _ h2]
theorem mk_MetI {l : Launch} {y : MethodName} {b : ByteArray} {nL : Nat} {rt : Option FieldType} {h mc ms : Nat} {P : L5} {D : va_G} {n : Nat} {x : Prop} {f : Nat → va_E} {av : List Value} {Qc : Array Value → State → Outcome → State → Prop} (hy : plainName y.cls = true) (hni : y.name = "<init>") (lv : List (Nat × Value)) (hlv : lv_args 0 av = lv) (hlen : (lg_sl av).length ≤ nL)
    (body : ∀ (p : Program) (e : Env) (s : State) (m : MethodId) (args : Array Value) (below : List Frame) (meth : Method) (c : Code), Cx p l s m args meth c P D b nL rt y.cls → meth.name = "<init>" → V p l e (rmO h mc ms) s m args below meth c P D (MQ below Qc args s mc ms (aO P)) nL n x f 0 0 0 lv []) :
    Met l y (.code y b nL rt :: gtb) (rmO h mc ms) (va_Pc av (PreI P D n x f)) Qc mc ms (aO P) := by
  refine Met.ofW (cc := b) (maxL := nL) (ret := rt) hy rfl ?_
  intro p e s m args below meth c s₁ B hml hv
  obtain ⟨rfl, hP, hK, ho, hz, hST⟩ := hv
  have hts := atoms_spec (ws := (.code y b nL rt :: gtb)) B.pre
  have hown : s.vm.findClass y.cls = some m.cls := findClass_of_methodNamed B.named
  have C : Cx p l s m av.toArray meth c P D b nL rt y.cls := ⟨B.exec, B.bytes, hml, hown, fun w hw => hts w (List.mem_cons_of_mem _ hw), B.returns, B.notSynchronized, hK, ho, hST⟩
  have hl := lv_entry av hlen
  rw [lg_entry_eq]
  rw [hlv] at hl
  exact body p e s m av.toArray below meth c C ((name_of_methodNamed B.named B.method).1.trans hni) s.heap [] _ hP hz va_S.rf hl
section VRunI
variable {p : Program} {l : Launch} {e : Env} {R : Room} {s : State} {m : MethodId} {args : Array Value} {below : List Frame} {meth : Method} {c : Code} {P : L5} {D : va_G} {Q : State → Prop} {nL n : Nat} {x : Prop} {f : Nat → va_E} {k z pc : Nat} {lv : List (Nat × Value)} {st : List Value} {cc : ByteArray} {ret : Option FieldType} {own : String}
theorem run_I (C : Cx p l s m args meth c P D cc nL ret own) {y : MethodName} {b : ByteArray} {nb : Nat} {h mc ms : Nat} {As rest : List Value} {a index : Nat} {Qc : Array Value → State → Outcome → State → Prop} (hM : Met l y (.code y b nb none :: gtb) (rmO h mc ms) (va_Pc (.ref a :: As) (PreI P D n x f)) Qc mc ms (aO P)) (hk : Cond.code y b nb none ∈ gtb) (hini : Cond.initialized y.cls ∈ gtb) (hl9 : Cond.methodLink own index y ∈ gtb) (hin : Cond.instanceMethod y ∈ gtb) (hy1 : y.name = "<init>") (hd : y.cls ≠ "java/lang/invoke/MethodHandle" ∧ y.cls ≠ "java/lang/invoke/VarHandle" ∧ (parseMethodDescriptor y.desc).map (fun d => d.parameters.length) = some As.length) (hR : h + 1 ≤ R.frames ∧ 8 + (nb + 11) + 28 * h ≤ R.locals) (hst : st = As.reverse ++ .ref a :: rest) (hW : (rest.map fun v => v.category).sum ≤ 8) (hdg : decode cc pc = .ok (.invokespecial index, 3)) (hf : k + mc ≤ R.cells ∧ z + ms ≤ R.slots) : ∀ (H : Heap) (locs : List Loc) (ls : Array Slot), va_P D vwCl (wl P.1 n f) H → (x → H.size = P.1 + n) → va_S (fun q => P.1 ≤ q) s.heap H locs → lv_has ls nL lv → va_Run p l e R s m args below meth c H locs k z mc ms (F0 m pc ls st) rest (Qc (Value.ref a :: As).toArray) (aO P) := by
  intro H locs ls hP hz hS hl
  obtain ⟨hx, hb, hml, hown, hts, hr, hlk, hK, ho, hST⟩ := id C
  have hG := gtb_in (w0 := .code y b nb none) hk
  have hts' : ∀ w ∈ (.code y b nb none :: gtb : List Cond), w.before args s = true := fun w hw => (List.mem_cons.mp hw).elim (fun e9 => by rw [e9]; exact hts _ hk) (hts w)
  exact va_runI (Ts := (.code y b nb none :: gtb)) ⟨hx, hb, hml, hown, hts'⟩ hM ⟨callB_of As.length hts' hG rfl rfl rfl (hts _ hini) (hts _ hl9) hd hR, hy1, hts _ hin⟩ ⟨PreI.blind, pre_of C hP hz hS⟩ rfl rfl hl.1 hst (lv_room hW) hdg hf
end VRunI
/-- fresh ones -/
def frN : Nat → Int32 := upd (upd (fun _ => 0) 6 10) 7 5
def frF : Nat → Int32 := upd (upd (fun _ => 0) 0 20) 1 60
def bkN : List Value := [.int 0, .int 0, .int 0, .int 0, .int 0, .int 0, .int 0, .int 0, .int 0, .int 0, .int 0, .int 0, .null, .null]
def bkF : List Value := [.int 0, .int 0, .int 0, .int 0, .int 0, .int 0]
def bkT : List Value := [.int 0, .int 0, .null, .null]
def bkX : List Value := [.null, .null, .null]
def frNv (P : L5) (b : Nat) : List Value := [.int 0, .int 0, .int 0, .int 0, .int 0, .int 0, .int 10, .int 5, .int 0, .int 0, .int 0, .int 0, .ref (P.1 + (b + 1)), .ref (P.1 + (b + 2))]
def frFv : List Value := [.int 20, .int 60, .int 0, .int 0, .int 0, .int 0]
def z4 (P : L5) : va_E := .inl (P.2.1, 4, .inl (fun _ => 0))
def niW (P : L5) (f : Nat → va_E) (b : Nat) : Nat → va_E := va_up (va_up (va_up f b (.inr (1, frNv P b))) (b + 1) (z4 P)) (b + 2) (z4 P)
set_option maxHeartbeats 4000000 in
theorem c_X0_init {l : Launch} {P : L5} {D : va_G} {n b : Nat} {f : Nat → va_E} (hb : b < n) (hf : f b = .inr (0, bkF)) : CtV l yX0_init cX0_init 1 1 0 0 P D n n True f (va_up f b (.inr (0, frFv))) [.ref (P.1 + b)] := by
  refine mk_MetI pl_X0 rfl [(0, .ref (P.1 + b))] rfl (Nat.le_of_ble_eq_true rfl) ?_
  intro pg en sg mg ag bg mt cd C hni
  refine v_aload_n C 0 dX0_init_0 rfl ?_
  refine c_obj C k_382 k_50 k_51 (Nat.le_of_ble_eq_true rfl) (Nat.le_of_ble_eq_true rfl) dX0_init_1 ?_
  refine v_aload_n C 0 dX0_init_4 rfl ?_
  refine v_bipush (v := 20) C dX0_init_5 rfl ?_
  refine c_put C b hb (r := (RX0, TX0, 6)) hf rfl inX0g tyX0 tyX0_ok nmX0 0 (by decide) k_383 hni rfl rfl rfl (by decide) dX0_init_7 ?_
  refine v_aload_n C 0 dX0_init_10 rfl ?_
  refine v_bipush (v := 60) C dX0_init_11 rfl ?_
  refine c_put C b hb (r := (RX0, TX0, 6)) (va_up_self _ _ _) rfl inX0g tyX0 tyX0_ok nmX0 1 (by decide) k_386 hni rfl rfl rfl (by decide) dX0_init_13 ?_
  exact v_vret C dX0_init_16 (by rw [va_up_two]; rfl)
set_option maxHeartbeats 4000000 in
theorem c_X1_init {l : Launch} {P : L5} {D : va_G} {b : Nat} {f : Nat → va_E} (hf : f b = .inr (1, bkN)) : CtV l yX1_init cX1_init 1 1 2 8 P D (b + 1) (b + 3) True f (niW P f b) [.ref (P.1 + b)] := by
  refine mk_MetI pl_X1 rfl [(0, .ref (P.1 + b))] rfl (Nat.le_of_ble_eq_true rfl) ?_
  intro pg en sg mg ag bg mt cd C hni
  refine v_aload_n C 0 dX1_init_0 rfl ?_
  refine c_obj C k_321 k_50 k_51 (Nat.le_of_ble_eq_true rfl) (Nat.le_of_ble_eq_true rfl) dX1_init_1 ?_
  refine v_aload_n C 0 dX1_init_4 rfl ?_
  refine v_bipush (v := 10) C dX1_init_5 rfl ?_
  refine c_put C b (by omega) (r := (RX1, TX1, 14)) hf rfl inX1g tyX1 tyX1_ok nmX1 6 (by decide) k_331 hni rfl rfl rfl (by decide) dX1_init_7 ?_
  refine v_aload_n C 0 dX1_init_10 rfl ?_
  refine v_iconst (v := 5) C dX1_init_11 rfl ?_
  refine c_put C b (by omega) (r := (RX1, TX1, 14)) (va_up_self _ _ _) rfl inX1g tyX1 tyX1_ok nmX1 7 (by decide) k_333 hni rfl rfl rfl (by decide) dX1_init_12 ?_
  refine v_aload_n C 0 dX1_init_15 rfl ?_
  refine v_iconst (v := 4) C dX1_init_16 rfl ?_
  refine c_newa (atype := .int) (ty := .int) (t0 := 0) (a0 := (4, .inl (fun _ => 0))) (N' := 4) C k_376 rfl rfl (fun h => h) (fun _ => rfl) (by decide) (by decide) (by decide) (Nat.le_of_ble_eq_true rfl) (Nat.le_of_ble_eq_true rfl) dX1_init_17 ?_
  refine c_put C b (by omega) (r := (RX1, TX1, 14)) ((va_up_ne _ _ (by omega)).trans (va_up_self _ _ _)) rfl inX1g tyX1 tyX1_ok nmX1 12 (by decide) k_342 hni rfl rfl rfl (Nat.le_of_ble_eq_true rfl) dX1_init_19 ?_
  refine v_aload_n C 0 dX1_init_22 rfl ?_
  refine v_iconst (v := 4) C dX1_init_23 rfl ?_
  refine c_newa (atype := .int) (ty := .int) (t0 := 0) (a0 := (4, .inl (fun _ => 0))) (N' := 4) C k_376 rfl rfl (fun h => h) (fun _ => rfl) (by decide) (by decide) (by decide) (Nat.le_of_ble_eq_true rfl) (Nat.le_of_ble_eq_true rfl) dX1_init_24 ?_
  refine c_put C b (by omega) (r := (RX1, TX1, 14)) ((va_up_ne _ _ (by omega)).trans (va_up_self _ _ _)) rfl inX1g tyX1 tyX1_ok nmX1 13 (by decide) k_344 hni rfl rfl rfl (Nat.le_of_ble_eq_true rfl) dX1_init_26 ?_
  refine c_cong (f' := niW P f b) (fun a ha => ?_) (v_vret C dX1_init_29 rfl)
  by_cases h0 : a = b
  · subst h0
    rw [va_up_self]
    unfold niW
    rw [va_up_ne _ _ (by omega), va_up_ne _ _ (by omega), va_up_self]
    rfl
  · by_cases h1 : a = b + 1
    · subst h1
      unfold niW
      rw [va_up_ne _ _ (by omega), va_up_ne _ _ (by omega), va_up_ne _ _ (by omega), va_up_self, va_up_ne _ _ (by omega), va_up_self]
      rfl
    · by_cases h2 : a = b + 2
      · subst h2
        unfold niW
        rw [va_up_ne _ _ (by omega), va_up_self, va_up_self]
        rfl
      · unfold niW
        rw [va_up_ne _ _ h0, va_up_ne _ _ h2, va_up_ne _ _ h0, va_up_ne _ _ h1, va_up_ne _ _ h0, va_up_ne _ _ h0, va_up_ne _ _ h2, va_up_ne _ _ h1, va_up_ne _ _ h0]
