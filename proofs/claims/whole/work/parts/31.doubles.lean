/-! DOUBLES -/
abbrev QcD (P : L5) (D : va_G) (n : Nat) (x : Prop) (f : Nat → va_E) (r : UInt64) := va_Qd (fun (r' : UInt64) (_ : Unit) => r' = r) (PostB P D n x f) (aO P)
def CtD (l : Launch) (y : MethodName) (b : ByteArray) (nL : Nat) (h mc ms : Nat) (P : L5) (D : va_G) (n n' : Nat) (x : Prop) (f f' : Nat → va_E) (av : List Value) (r : UInt64) : Prop := Met l y (.code y b nL (some .double) :: gtb) (rmO h mc ms) (va_Pc av (PreI P D n x f)) (QcD P D n' x f' r) mc ms (aO P)
theorem vf_of_notNaN {a : UInt64} (h : FP.Core.dIsNaN a = false) : vf_n64 a := by
  unfold vf_n64
  have h2 : ¬ 9218868437227405312 < a.toNat % 2 ^ 63 := fun q => by
    rw [(FP.Core.isNaN_bits a).mpr q] at h
    cases h
  have e1 : (0x7fffffffffffffff : UInt64).toNat = 2 ^ 63 - 1 := by decide
  have e2 : (0x7ff0000000000000 : UInt64).toNat = 9218868437227405312 := by decide
  rw [UInt64.le_iff_toNat_le, UInt64.toNat_and, e1, e2, Nat.and_two_pow_sub_one_eq_mod]
  exact Nat.not_lt.mp h2
theorem mean_ok {a b : Int32} (h : ¬ b = 0) : FP.Core.dIsNaN (FP.ddiv (FP.i2d a) (FP.i2d b)) = false := FP.Core.ddiv_out (FP.Core.i2d_fin a).notNaN (FP.Core.i2d_fin b) (fun q => FP.Core.i2d_ne_zero h ((FP.Core.zero_bits2 _).mp q))
section VD
variable {p : Program} {l : Launch} {e : Env} {R : Room} {s : State} {m : MethodId} {args : Array Value} {below : List Frame} {meth : Method} {c : Code} {P : L5} {D : va_G} {Q : State → Prop} {nL n : Nat} {x : Prop} {f : Nat → va_E} {k z pc : Nat} {lv : List (Nat × Value)} {st : List Value} {cc : ByteArray} {ret : Option FieldType} {own : String}
theorem v_dconst0 (C : Cx p l s m args meth c P D cc nL ret own) (hdg : decode cc pc = .ok (.dconst 0, 1)) (kk : V p l e R s m args below meth c P D Q nL n x f k z (pc + 1) lv (.double FP.dconst0 :: st)) : V p l e R s m args below meth c P D Q nL n x f k z pc lv st := fun H locs ls hP hz hS hl => lv_dconst0 C.1 C.2.1 hdg (kk H locs ls hP hz hS hl)
theorem v_i2d (C : Cx p l s m args meth c P D cc nL ret own) {a : Int32} (hdg : decode cc pc = .ok (.i2d, 1)) (kk : V p l e R s m args below meth c P D Q nL n x f k z (pc + 1) lv (.double (FP.i2d a) :: st)) : V p l e R s m args below meth c P D Q nL n x f k z pc lv (.int a :: st) := fun H locs ls hP hz hS hl => lv_i2d C.1 C.2.1 hdg (kk H locs ls hP hz hS hl)
theorem v_ddiv (C : Cx p l s m args meth c P D cc nL ret own) {a b : UInt64} (hne : vf_n64 (FP.ddiv a b)) (hdg : decode cc pc = .ok (.ddiv, 1)) (kk : V p l e R s m args below meth c P D Q nL n x f k z (pc + 1) lv (.double (FP.ddiv a b) :: st)) : V p l e R s m args below meth c P D Q nL n x f k z pc lv (.double b :: .double a :: st) := fun H locs ls hP hz hS hl => lv_ddiv C.1 C.2.1 hdg hne (kk H locs ls hP hz hS hl)
theorem v_dret (C : Cx p l s m args meth c P D cc nL (some .double) own) {f' : Nat → va_E} {a r : UInt64} (hdg : decode cc pc = .ok (.dreturn, 1)) (hf : f = f') (hr : a = r) : V p l e R s m args below meth c P D (MQ below (QcD P D n x f' r) args s k z (aO P)) nL n x f k z pc lv [.double a] := by
  subst hf; subst hr
  intro H locs ls hP hz hS hl
  exact W.dret C.1 C.2.1 C.2.2.2.2.2.1 (fun t ht hW => ⟨⟨a, (), rfl, rfl, by rw [ht]; exact hP, fun hx => by rw [ht]; exact hz hx⟩, hS.F ht⟩) hS.2.2 hdg C.2.2.2.2.2.2.1
end VD
