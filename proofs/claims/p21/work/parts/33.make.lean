/-! ROWS THAT MAKE CELLS -/
theorem wl_succ {o n : Nat} {f : Nat → va_E} : wl o (n + 1) f = wl o n f ++ [(o + n, f n)] := by
  unfold wl
  rw [List.range_succ, List.map_append]
  rfl
theorem wl_pus2 {o n : Nat} {f : Nat → va_E} {e : va_E} : wl o n f ++ [(o + n, e)] = wl o (n + 1) (va_up f n e) := by
  rw [wl_succ, va_up_self, wl_cong (o := o) (n := n) (f := va_up f n e) (g := f) (fun a ha => va_up_ne _ _ (by omega))]
section VMake
variable {p : Program} {l : Launch} {e : Env} {R : Room} {s : State} {m : MethodId} {args : Array Value} {below : List Frame} {meth : Method} {c : Code} {P : L5} {D : va_G} {Q : State → Prop} {nL n : Nat} {f : Nat → va_E} {k z pc : Nat} {lv : List (Nat × Value)} {st : List Value} {cc : ByteArray} {ret : Option FieldType} {own : String}
theorem c_cong {f' : Nat → va_E} (h : ∀ a, a < n → f a = f' a) (kk : V p l e R s m args below meth c P D Q nL n True f' k z pc lv st) : V p l e R s m args below meth c P D Q nL n True f k z pc lv st := by
  intro H locs ls hP hz hS hl
  rw [wl_cong h] at hP
  exact kk H locs ls hP hz hS hl
theorem c_new (C : Cx p l s m args meth c P D cc nL ret own) {ci index : Nat} {r : vw_C} (hc : vwCl[ci]? = some r) (hin : ∀ w ∈ u_ws r.1 r.2.1 r.2.2, w ∈ gtb) (ty : Nat → FieldType) (hty : ∀ k, k < r.2.2 → parseFieldDescriptor (r.2.1 k).2.2.1 = some (ty k)) (hcl : Cond.classLink own index r.1 ∈ gtb) (hinst : Cond.instantiable r.1 r.2.2 ∈ gtb) (hini : Cond.initialized r.1 ∈ gtb) {fs : List Value} (hfs : ∀ j, j < r.2.2 → defaultValue (ty j) = vp_V fs j) (hcells : k + 1 ≤ R.cells) (hslots : z + r.2.2 ≤ R.slots) (hdg : decode cc pc = .ok (.new index, 3))
    (kk : V p l e R s m args below meth c P D Q nL (n + 1) True (va_up f n (.inr (ci, fs))) (k + 1) (z + r.2.2) (pc + 3) lv (.ref (P.1 + n) :: st)) : V p l e R s m args below meth c P D Q nL n True f k z pc lv st := by
  obtain ⟨C0, T0, N0⟩ := r
  intro H locs ls hP hz hS hl
  obtain ⟨hx, hb, hml, hown, hts, hr, hlk, hK, ho, hST⟩ := C
  have hsz := hz trivial
  have hKn := hK.1 ci _ hc
  refine W.newcK hx hb hown (hts _ hcl) (hts _ hinst) (hts _ hini) rfl hdg hcells hslots hKn.2.1 hsz fun H1 kC hkC e1 z1 o1 => ?_
  have hk : ∀ (k : Nat) (x : Nat × va_E), (wl P.1 n f)[k]? = some x → H1[x.1]? = H[x.1]? := fun k x hx => o1 x.1 (by rw [← hsz]; exact (hP k x hx).lt)
  have hS0 := hS.1
  refine kk H1 locs ls ?_ (fun _ => by rw [z1]; rfl) ⟨by omega, fun x h1 h2 => (o1 x (by omega)).trans (hS.2.1 x h1 h2), hS.2.2⟩ hl
  rw [← wl_pus2]
  refine (hP.kept hk).app (fun k x hx => ?_)
  have hz0 : k < 1 := (List.getElem?_eq_some_iff.mp hx).1
  rw [show k = 0 by omega] at hx
  cases hx
  exact ⟨_, hc, (u_born ty hts hin hKn hkC e1 hty).to hfs⟩
theorem c_newa (C : Cx p l s m args meth c P D cc nL ret own) {atype : ArrayType} {ty : FieldType} {a0 : vp_A} {N' t0 : Nat} {cA0 : ClassId} {i : Int32} (harr : Cond.arrayClass (newarray.typeOf atype) ∈ gtb) (hty : newarray.typeOf atype = ty) (ht : (tyP P)[t0]? = some (cA0, ty)) (hra : va_RA s cA0 ty → s.vm.findClass ("[" ++ ty.toString) = some cA0) (ha : ∀ cA : ClassId, vp_cell cA a0 = arrV cA N' (fun _ => defaultValue ty)) (hn : ¬ i < 0) (hN : i.toNatClampNeg = N') (hbytes : N' * componentBytes ty ≤ 536870912) (hcells : k + 1 ≤ R.cells) (hslots : z + N' ≤ R.slots) (hdg : decode cc pc = .ok (.newarray atype, 2))
    (kk : V p l e R s m args below meth c P D Q nL (n + 1) True (va_up f n (.inl (cA0, a0))) (k + 1) (z + N') (pc + 2) lv (.ref (P.1 + n) :: st)) : V p l e R s m args below meth c P D Q nL n True f k z pc lv (.int i :: st) := by
  subst hty
  intro H locs ls hP hz hS hl
  obtain ⟨hx, hb, hml, hown, hts, hr, hlk, hK, ho, hST⟩ := C
  have hsz := hz trivial
  refine va_newaK hx hb (hts _ harr) rfl hdg rfl hn hN hbytes hcells hslots hsz fun H1 cA e1 z1 o1 hAr hNm => ?_
  have hcA : cA = cA0 := Option.some.inj (hNm.symm.trans (hra (hK.2 t0 _ ht).2))
  subst hcA
  have hk : ∀ (k : Nat) (x : Nat × va_E), (wl P.1 n f)[k]? = some x → H1[x.1]? = H[x.1]? := fun k x hx => o1 x.1 (by rw [← hsz]; exact (hP k x hx).lt)
  have hS0 := hS.1
  refine kk H1 locs ls ?_ (fun _ => by rw [z1]; rfl) ⟨by omega, fun x h1 h2 => (o1 x (by omega)).trans (hS.2.1 x h1 h2), hS.2.2⟩ hl
  rw [← wl_pus2]
  refine (hP.kept hk).app (fun k x hx => ?_)
  have hz0 : k < 1 := (List.getElem?_eq_some_iff.mp hx).1
  rw [show k = 0 by omega] at hx
  cases hx
  show H1[P.1 + n]? = some (vp_cell _ _)
  rw [ha]
  exact e1
theorem c_newq (C : Cx p l s m args meth c P D cc nL ret own) {Cn : String} {index N' t0 : Nat} {cA0 : ClassId} {i : Int32} (hcl : Cond.classLink own index Cn ∈ gtb) (hover : va_AO Cn s) (ht : (tyP P)[t0]? = some (cA0, .object Cn)) (hn : ¬ i < 0) (hN : i.toNatClampNeg = N') (hbytes : N' * 4 ≤ 536870912) (hcells : k + 1 ≤ R.cells) (hslots : z + N' ≤ R.slots) (hdg : decode cc pc = .ok (.anewarray index, 3))
    (kk : V p l e R s m args below meth c P D Q nL (n + 1) True (va_up f n (.inl (cA0, N', .inr (.inr (.inr (.inr (fun _ => none))))))) (k + 1) (z + N') (pc + 3) lv (.ref (P.1 + n) :: st)) : V p l e R s m args below meth c P D Q nL n True f k z pc lv (.int i :: st) := by
  subst hN
  intro H locs ls hP hz hS hl
  obtain ⟨hx, hb, hml, hown, hts, hr, hlk, hK, ho, hST⟩ := C
  have hsz := hz trivial
  refine W.anew hx hb hown (hts _ hcl) (va_AO.use hover) rfl hdg rfl hn hbytes hcells hslots fun cA kA comp f1 f2 f3 f4 => ?_
  obtain ⟨-, kA0, comp0, -, -, -, g4⟩ := hK.2 t0 _ ht
  have hcA : cA = cA0 := Option.some.inj (f1.symm.trans g4)
  subst hcA
  generalize hH1 : H.push ({ cls := cA, slots := Array.replicate i.toNatClampNeg .null, vm := .none } : Cell) = H1
  have z1 : H1.size = H.size + 1 := by rw [← hH1, Array.size_push]
  have e1 : H1[H.size]? = some (arrV cA i.toNatClampNeg (fun _ => .null)) := by rw [← hH1, Array.getElem?_push_size, ← arrV_new]
  have o1 : ∀ q : Nat, q < H.size → H1[q]? = H[q]? := fun q hq => by rw [← hH1, Array.getElem?_push, if_neg (Nat.ne_of_lt hq)]
  have hk : ∀ (k : Nat) (x : Nat × va_E), (wl P.1 n f)[k]? = some x → H1[x.1]? = H[x.1]? := fun k x hx => o1 x.1 ((hP k x hx).lt)
  have hS0 := hS.1
  rw [hsz] at e1 ⊢
  refine kk H1 locs ls ?_ (fun _ => by rw [z1, hsz]; rfl) ⟨by omega, fun x h1 h2 => (o1 x (by omega)).trans (hS.2.1 x h1 h2), hS.2.2⟩ hl
  rw [← wl_pus2]
  refine (hP.kept hk).app (fun k x hx => ?_)
  have hz0 : k < 1 := (List.getElem?_eq_some_iff.mp hx).1
  rw [show k = 0 by omega] at hx
  cases hx
  exact e1
theorem c_get (C : Cx p l s m args meth c P D cc nL ret own) (q0 : Nat) (hq0 : q0 < n) {ci index : Nat} {r : vw_C} {fs : List Value} (hf : f q0 = .inr (ci, fs)) (hc : vwCl[ci]? = some r) (hin : ∀ w ∈ u_ws r.1 r.2.1 r.2.2, w ∈ gtb) (kf : Nat) (hk : kf < r.2.2) (hlink : Cond.fieldLink own index (r.2.1 kf).1 (r.2.1 kf).2.1 (r.2.1 kf).2.2.1 ∈ gtb) {u : Value} (hv : fs[kf]? = some u) (hdg : decode cc pc = .ok (.getfield index, 3)) (kk : V p l e R s m args below meth c P D Q nL n True f k z (pc + 3) lv (u :: st)) : V p l e R s m args below meth c P D Q nL n True f k z pc lv (.ref (P.1 + q0) :: st) := by
  intro H locs ls hP hz hS hl
  obtain ⟨hx, hb, hml, hown, hts, hr, hlk, hK, ho, hST⟩ := C
  exact va_get hx hb hts hin hown hK hP q0 (by rw [wl_get hq0, hf]) hc kf hk (hts _ hlink) (fun _ h9 => h9) hv hdg (kk H locs ls hP hz hS hl)
theorem c_put (C : Cx p l s m args meth c P D cc nL ret own) (q0 : Nat) (hq0 : q0 < n) {ci index : Nat} {r : vw_C} {fs : List Value} (hf : f q0 = .inr (ci, fs)) (hc : vwCl[ci]? = some r) (hin : ∀ w ∈ u_ws r.1 r.2.1 r.2.2, w ∈ gtb) (ty0 : Nat → FieldType) (hty : ∀ k, k < r.2.2 → parseFieldDescriptor (r.2.1 k).2.2.1 = some (ty0 k)) (hnm : ∀ a, a < r.2.2 → ∀ b, b < r.2.2 → a ≠ b → (r.2.1 a).2.1 ≠ (r.2.1 b).2.1) (kf : Nat) (hk : kf < r.2.2) (hlink : Cond.fieldLink own index (r.2.1 kf).1 (r.2.1 kf).2.1 (r.2.1 kf).2.2.1 ∈ gtb) (hni : meth.name = "<init>") (hdecl : (r.2.1 kf).1 = own) {v : Value} (hn : narrow (ty0 kf) v = v) (hfit : fits (ty0 kf) v = true) (hlen : kf < fs.length) (hdg : decode cc pc = .ok (.putfield index, 3))
    (kk : V p l e R s m args below meth c P D Q nL n True (va_up f q0 (.inr (ci, fs.set kf v))) k z (pc + 3) lv st) : V p l e R s m args below meth c P D Q nL n True f k z pc lv (v :: .ref (P.1 + q0) :: st) := by
  obtain ⟨C0, T0, N0⟩ := r
  intro H locs ls hP hz hS0 hl
  obtain ⟨hx, hb, hml, hown, hts, hr, hlk, hK, ho, hST⟩ := C
  have he : (wl P.1 n f)[q0]? = some (P.1 + q0, .inr (ci, fs)) := by rw [wl_get hq0, hf]
  have hap := va_apart (own := own) hts hin ty0 hty hnm hK hc
  obtain ⟨r9, h1, cell, q1, q2, q3, q4⟩ := hP q0 _ he
  have hr9 : r9 = (C0, T0, N0) := Option.some.inj (h1.symm.trans hc)
  subst hr9
  obtain ⟨hS, hfc, kC, hkC, hkind⟩ := hK.1 ci _ hc
  obtain ⟨cf, kf', fi, f9, hi, hsl⟩ := hS kf hk
  have hlay := hts _ (hin _ (u_in_lay hk))
  have hst := (u_facts hfc hkC (u_lays hts hin hk) hi).1
  have fin : ∀ H' : Heap, H'[P.1 + q0]? = some (cell.setSlot f9.slot v) → H'.size = H.size → (∀ q, q ≠ P.1 + q0 → H'[q]? = H[q]?) → W p l e R s m args below meth c H' (locs ++ [⟨P.1 + q0, f9.slot⟩]) k z Q (F0 m (pc + 3) ls st) := by
    intro H' e1 e2 e3
    rw [hsl] at e1
    refine kk H' _ ls ?_ (fun h9 => by rw [e2]; exact hz h9) (hS0.put e2 e3 (Nat.le_add_right _ _)) hl
    rw [← wl_set hq0]
    exact hP.set (wl_D _ _ _) he ⟨_, hc, t_OB.to (V := updV (vp_V fs) kf v) ⟨_, e1, q2, q3, t_set q4 hap hk v⟩ (fun j _ => vp_updV_set hlen v j)⟩ e3
  unfold u_lay at hlay
  by_cases hfin : (T0 kf).2.2.2 = true
  · rw [if_pos hfin] at hlay
    have hcf : m.cls = cf := by
      obtain ⟨_, _, c', _, _, _, -, -, hf', -, -, -, hown2, -⟩ := Cond.laysFinal_spec hlay
      have e1 : c' = cf := by have := hi.symm.trans hf'; simp at this; exact this.1.symm
      rw [show (T0 kf).1 = own from hdecl] at hown2
      rw [← e1]; exact Option.some.inj (hown.symm.trans hown2)
    have h6 := u_fits hfc hkC hkind (Or.inr hlay) hi (hty kf hk) hn hfit
    exact W.putFinK hx hb hown (hts _ hlink) hi hst hcf hni (by rw [q2]; exact h6) q1 q3 (by rw [hsl]; exact k2_hasslot (q4 kf hk)) rfl rfl hdg fin
  · rw [if_neg hfin] at hlay
    have h6 := u_store hfc hkC hkind hlay hi (hty kf hk) hn hfit
    exact W.putK hx hb (f := f9) ⟨hown, hts _ hlink, ⟨_, _, _, hi⟩, hst⟩ (by rw [q2]; exact h6) q1 q3 (by rw [hsl]; exact k2_hasslot (q4 kf hk)) rfl rfl hdg fin
theorem c_obj (C : Cx p l s m args meth c P D cc nL ret own) {a index : Nat} (hlink : Cond.methodLink own index objectInit ∈ gtb) (hinst : Cond.instanceMethod objectInit ∈ gtb) (hcode : Cond.code objectInit ⟨#[0xb1]⟩ 1 none ∈ gtb) (hR : 1 ≤ R.frames) (hlo : (st.map fun v => v.category).sum + 12 ≤ R.locals) (hdg : decode cc pc = .ok (.invokespecial index, 3)) (kk : V p l e R s m args below meth c P D Q nL n True f k z (pc + 3) lv st) : V p l e R s m args below meth c P D Q nL n True f k z pc lv (.ref a :: st) := by
  intro H locs ls hP hz hS hl
  obtain ⟨hx, hb, hml, hown, hts, hr, hlk, hK, ho, hST⟩ := C
  exact W.objInit hx hb hown (hts _ hlink) (hts _ hinst) (hts _ hcode) rfl (by rw [hml]; exact hl.1) rfl hdg hR (by show 2 * 0 + _ + 12 ≤ _; omega) (kk H locs ls hP hz hS hl)
theorem c_iast (C : Cx p l s m args meth c P D cc nL ret own) (q0 : Nat) (hq0 : q0 < n) {len : Nat} {g : Nat → Int32} (hf : f q0 = .inl (P.2.1, len, .inl g)) {i a : Int32} (hin : vp_in i len) (hdg : decode cc pc = .ok (.iastore, 1)) (kk : V p l e R s m args below meth c P D Q nL n True (va_up f q0 (.inl (P.2.1, len, .inl (upd g i.toNatClampNeg a)))) k z (pc + 1) lv st) : V p l e R s m args below meth c P D Q nL n True f k z pc lv (.int a :: .int i :: .ref (P.1 + q0) :: st) := by
  intro H locs ls hP hz hS hl
  obtain ⟨hx, hb, hml, hown, hts, hr, hlk, hK, ho, hST⟩ := C
  have he : (wl P.1 n f)[q0]? = some (P.1 + q0, .inl (P.2.1, len, .inl g)) := by rw [wl_get hq0, hf]
  refine W.iast hx hb (hP q0 _ he) ((hK.2 0 _ rfl).1 len (fun j => .int (g j))) (fun q => by cases q) (by show ¬ (i < 0 ∨ (arrV _ _ _).slots.size ≤ _); rw [arrV_size]; exact hin) rfl rfl hdg fun H1 e1 z1 oq => ?_
  refine kk H1 _ ls ?_ (fun h9 => by rw [z1]; exact hz h9) (hS.put z1 oq (Nat.le_add_right _ _)) hl
  rw [← wl_set hq0]
  refine hP.set (wl_D _ _ _) he ?_ oq
  show H1[P.1 + q0]? = some (vp_cell _ _)
  rw [e1, vp_cell_i, vp_cell_i, arrV_store]
  congr 2
  funext q
  by_cases hq : q = i.toNatClampNeg
  · subst hq
    simp [updV, upd]
  · simp [updV, upd, hq]
theorem c_aast (C : Cx p l s m args meth c P D cc nL ret own) (q0 qv : Nat) (hq0 : q0 < n) (hqv : qv < n) {ci len t0 : Nat} {r : vw_C} {cA : ClassId} {vs : List Value} {g : Nat → Option Nat} (hf : f q0 = .inl (cA, len, .inr (.inr (.inr (.inr g))))) (ht : (tyP P)[t0]? = some (cA, .object r.1)) (hv : f qv = .inr (ci, vs)) (hc : vwCl[ci]? = some r) {i : Int32} (hin : vp_in i len) (hdg : decode cc pc = .ok (.aastore, 1)) (kk : V p l e R s m args below meth c P D Q nL n True (va_up f q0 (.inl (cA, len, .inr (.inr (.inr (.inr (va_up g i.toNatClampNeg (some (P.1 + qv))))))))) k z (pc + 1) lv st) : V p l e R s m args below meth c P D Q nL n True f k z pc lv (.ref (P.1 + qv) :: .int i :: .ref (P.1 + q0) :: st) := by
  intro H locs ls hP hz hS hl
  obtain ⟨hx, hb, hml, hown, hts, hr, hlk, hK, ho, hST⟩ := C
  have he : (wl P.1 n f)[q0]? = some (P.1 + q0, .inl (cA, len, .inr (.inr (.inr (.inr g))))) := by rw [wl_get hq0, hf]
  have hev : (wl P.1 n f)[qv]? = some (P.1 + qv, .inr (ci, vs)) := by rw [wl_get hqv, hv]
  have hlt : i.toNatClampNeg < len := Nat.not_le.mp fun q => hin (Or.inr q)
  have h0 : ¬ i < 0 := fun q => hin (Or.inl q)
  obtain ⟨r', hr', cellV, g1, g2, g3, -⟩ := hP qv _ hev
  have hcls := (hK.1 ci r hc).2
  obtain ⟨kA, comp, k1, k2, k3, -⟩ := (hK.2 t0 _ ht).2
  have hcomp : comp = D.1 ci := Option.some.inj (k3.symm.trans hcls.1)
  subst hcomp
  obtain ⟨kC, hkC, -⟩ := hcls.2
  refine W.aast hx hb (hP q0 _ he) (fun q h => by cases h) (fun h => by cases h) k1 k2 rfl hkC ⟨h0, by show _ < (arrV _ _ _).slots.size; rw [arrV_size]; exact hlt⟩ g1 (fun q h => by rw [g3] at h; cases h) (by rw [g2]; exact hkC) (by rw [g2]; exact va_assign hcls) rfl rfl hdg fun H1 e1 z1 oq => ?_
  refine kk H1 _ ls ?_ (fun h9 => by rw [z1]; exact hz h9) (hS.put z1 oq (Nat.le_add_right _ _)) hl
  rw [← wl_set hq0]
  refine hP.set (wl_D _ _ _) he ?_ oq
  show H1[P.1 + q0]? = some (vp_cell _ _)
  rw [e1, vp_cell_q, vp_cell_q, arrV_store]
  congr 2
  funext q
  by_cases hq : q = i.toNatClampNeg
  · subst hq
    simp [updV, va_up, va_rf]
  · simp [updV, va_up, hq]
end VMake
