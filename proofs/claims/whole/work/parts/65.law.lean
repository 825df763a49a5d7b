/-! THE LAW: rows of its own -/
section LawRows
variable {p : Program} {l : Launch} {e : Env} {R : Room} {s : State} {m : MethodId} {args : Array Value} {below : List Frame} {meth : Method} {c : Code} {P : L5} {D : va_G} {Q : State → Prop} {nL n : Nat} {x : Prop} {f : Nat → va_E} {k z pc : Nat} {lv : List (Nat × Value)} {st : List Value} {cc : ByteArray} {ret : Option FieldType} {own : String}
theorem v_slen (C : Cx p l s m args meth c P D cc nL ret own) {b L : Nat} {xs : Nat → Int32} (hX : va_X b L xs s s.heap) (hbl : b < s.heap.size) (hbP : b < P.1) (hdg : decode cc pc = .ok (.arraylength, 1)) (kk : V p l e R s m args below meth c P D Q nL n x f k z (pc + 1) lv (.int (nI L) :: st)) : V p l e R s m args below meth c P D Q nL n x f k z pc lv (.ref b :: st) := by
  intro H locs ls hP hz hS hl
  obtain ⟨hx, hb, -⟩ := C
  exact va_slen hx hb hX hbl (Nat.not_le.mpr hbP) hS hdg (kk H locs ls hP hz hS hl)
theorem v_sld (C : Cx p l s m args meth c P D cc nL ret own) {b L : Nat} {xs : Nat → Int32} (hX : va_X b L xs s s.heap) (hbl : b < s.heap.size) (hbP : b < P.1) {i : Int32} {t : Nat} (hi : i = nI t) (ht : t < L) (hL : L ≤ 2048) (hdg : decode cc pc = .ok (.iaload, 1)) (kk : V p l e R s m args below meth c P D Q nL n x f k z (pc + 1) lv (.int (xs t) :: st)) : V p l e R s m args below meth c P D Q nL n x f k z pc lv (.int i :: .ref b :: st) := by
  subst hi
  intro H locs ls hP hz hS hl
  obtain ⟨hx, hb, -⟩ := C
  have e0 : (nI t).toNatClampNeg = t := nI_clamp (by omega)
  refine va_sld hx hb hX hbl (Nat.not_le.mpr hbP) hS (vp_in_nI ht (by omega)) hdg ?_
  rw [e0]
  exact kk H locs ls hP hz hS hl
theorem v_dcmp (C : Cx p l s m args meth c P D cc nL ret own) {a b : UInt64} {op : CmpOp} (hdg : decode cc pc = .ok (.dcmp op, 1)) (kk : V p l e R s m args below meth c P D Q nL n x f k z (pc + 1) lv (.int (Op.cmpValue (FP.dcmp a b) op) :: st)) : V p l e R s m args below meth c P D Q nL n x f k z pc lv (.double b :: .double a :: st) := fun H locs ls hP hz hS hl => lv_dcmp C.1 C.2.1 hdg (kk H locs ls hP hz hS hl)
theorem go_D {mc ms n' : Nat} {f' : Nat → va_E} {r : UInt64} {rest : List Value} {a : Array Value} (hr : ∀ (H : Heap) (locs : List Loc) (ls : Array Slot), va_P D vwCl (wl P.1 n f) H → (x → H.size = P.1 + n) → va_S (fun q => P.1 ≤ q) s.heap H locs → lv_has ls nL lv → va_Run p l e R s m args below meth c H locs k z mc ms (F0 m pc ls st) rest ((QcD P D n' x f' r) a) (aO P)) (kk : V p l e R s m args below meth c P D Q nL n' x f' (k + mc) (z + ms) (pc + 3) lv (.double r :: rest)) : V p l e R s m args below meth c P D Q nL n x f k z pc lv st := by
  intro H locs ls hP hz hS hl
  refine va_calld (hr H locs ls hP hz hS hl) hS (fun q _ h => h) (fun q h => h) (fun r9 u t H1 locs1 ht hvm hw hB hz1 hk1 hS1 => ?_)
  subst ht
  subst hw
  exact kk _ locs1 ls hB.1 hB.2 hS1 hl
/-- of a world that grows: the rest forgets that nothing else was made -/
theorem v_open (kk : V p l e R s m args below meth c P D Q nL n False f k z pc lv st) : V p l e R s m args below meth c P D Q nL n x f k z pc lv st := fun H locs ls hP _ hS hl => kk H locs ls hP (fun h => h.elim) hS hl
end LawRows
