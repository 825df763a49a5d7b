/-! A WALK BESIDE A CELL THAT IS NOT OF THE WORLD -/
def V2 (p : Program) (l : Launch) (e : Env) (R : Room) (s : State) (m : MethodId) (args : Array Value) (below : List Frame) (meth : Method) (c : Code) (P : L5) (D : va_G) (Q : State → Prop) (nL : Nat) (Fr : Nat → Prop) (f : Nat → va_E) (tl : va_W) (k z pc : Nat) (lv : List (Nat × Value)) (st : List Value) : Prop :=
  ∀ (H : Heap) (locs : List Loc) (ls : Array Slot), va_P D vwCl (wl P.1 97 f ++ tl) H → va_S Fr s.heap H locs → lv_has ls nL lv → W p l e R s m args below meth c H locs k z Q (F0 m pc ls st)
section V2Rows
variable {p : Program} {l : Launch} {e : Env} {R : Room} {s : State} {m : MethodId} {args : Array Value} {below : List Frame} {meth : Method} {c : Code} {P : L5} {D : va_G} {Q : State → Prop} {nL n : Nat} {x : Prop} {f : Nat → va_E} {k z pc : Nat} {lv : List (Nat × Value)} {st : List Value} {cc : ByteArray} {ret : Option FieldType} {own : String}
variable {Fr : Nat → Prop} {tl : va_W}
theorem y_iconst (C : Cx p l s m args meth c P D cc nL ret own) {i : Int} {v : Int32} (hdg : decode cc pc = .ok (.iconst i, 1)) (hv : Int32.ofInt i = v) (kk : V2 p l e R s m args below meth c P D Q nL Fr f tl k z (pc + 1) lv (.int v :: st)) : V2 p l e R s m args below meth c P D Q nL Fr f tl k z pc lv st := fun H locs ls hP hS hl => lv_iconst C.1 C.2.1 hdg hv (kk H locs ls hP hS hl)
theorem y_bipush (C : Cx p l s m args meth c P D cc nL ret own) {i : Int} {v : Int32} (hdg : decode cc pc = .ok (.bipush i, 2)) (hv : (Int8.ofInt i).toInt32 = v) (kk : V2 p l e R s m args below meth c P D Q nL Fr f tl k z (pc + 2) lv (.int v :: st)) : V2 p l e R s m args below meth c P D Q nL Fr f tl k z pc lv st := fun H locs ls hP hS hl => lv_bipush C.1 C.2.1 hdg hv (kk H locs ls hP hS hl)
theorem y_iload_n (C : Cx p l s m args meth c P D cc nL ret own) {i : Fin 4} {a : Int32} (q : Nat) (hdg : decode cc pc = .ok (.iload_n i, 1)) (hq : lv[q]? = some ((i : Nat), .int a)) (kk : V2 p l e R s m args below meth c P D Q nL Fr f tl k z (pc + 1) lv (.int a :: st)) : V2 p l e R s m args below meth c P D Q nL Fr f tl k z pc lv st := fun H locs ls hP hS hl => lv_iload_n C.1 C.2.1 hdg rfl (lv_at hl q hq) (kk H locs ls hP hS hl)
theorem y_iload (C : Cx p l s m args meth c P D cc nL ret own) {i : Nat} {a : Int32} (q : Nat) (hdg : decode cc pc = .ok (.iload i, 2)) (hq : lv[q]? = some (i, .int a)) (kk : V2 p l e R s m args below meth c P D Q nL Fr f tl k z (pc + 2) lv (.int a :: st)) : V2 p l e R s m args below meth c P D Q nL Fr f tl k z pc lv st := fun H locs ls hP hS hl => lv_iload C.1 C.2.1 hdg (lv_at hl q hq) (kk H locs ls hP hS hl)
theorem y_aload_n (C : Cx p l s m args meth c P D cc nL ret own) {i : Fin 4} {a : Nat} (q : Nat) (hdg : decode cc pc = .ok (.aload_n i, 1)) (hq : lv[q]? = some ((i : Nat), .ref a)) (kk : V2 p l e R s m args below meth c P D Q nL Fr f tl k z (pc + 1) lv (.ref a :: st)) : V2 p l e R s m args below meth c P D Q nL Fr f tl k z pc lv st := fun H locs ls hP hS hl => lv_aload_n C.1 C.2.1 hdg rfl (lv_at hl q hq) (kk H locs ls hP hS hl)
theorem y_aload (C : Cx p l s m args meth c P D cc nL ret own) {i : Nat} {a : Nat} (q : Nat) (hdg : decode cc pc = .ok (.aload i, 2)) (hq : lv[q]? = some (i, .ref a)) (kk : V2 p l e R s m args below meth c P D Q nL Fr f tl k z (pc + 2) lv (.ref a :: st)) : V2 p l e R s m args below meth c P D Q nL Fr f tl k z pc lv st := fun H locs ls hP hS hl => lv_aload C.1 C.2.1 hdg (lv_at hl q hq) (kk H locs ls hP hS hl)
theorem y_istore_n (C : Cx p l s m args meth c P D cc nL ret own) {u : Fin 4} {i : Nat} {a : Int32} {lv' : List (Nat × Value)} (hdg : decode cc pc = .ok (.istore_n u, 1)) (hi : (u : Nat) = i) (hn : i < nL) (hl2 : (i, Value.int a) :: lv.filter (fun q => !(q.1 == i) && !(q.1 + 1 == i && q.2.category == 2)) = lv') (kk : V2 p l e R s m args below meth c P D Q nL Fr f tl k z (pc + 1) lv' st) : V2 p l e R s m args below meth c P D Q nL Fr f tl k z pc lv (.int a :: st) := fun H locs ls hP hS hl => lv_istore_n C.1 C.2.1 hdg hi hl hn hl2 (fun ls' hl' => kk H locs ls' hP hS hl')
theorem y_istore (C : Cx p l s m args meth c P D cc nL ret own) {i : Nat} {a : Int32} {lv' : List (Nat × Value)} (hdg : decode cc pc = .ok (.istore i, 2)) (hn : i < nL) (hl2 : (i, Value.int a) :: lv.filter (fun q => !(q.1 == i) && !(q.1 + 1 == i && q.2.category == 2)) = lv') (kk : V2 p l e R s m args below meth c P D Q nL Fr f tl k z (pc + 2) lv' st) : V2 p l e R s m args below meth c P D Q nL Fr f tl k z pc lv (.int a :: st) := fun H locs ls hP hS hl => lv_istore C.1 C.2.1 hdg hl hn hl2 (fun ls' hl' => kk H locs ls' hP hS hl')
theorem y_astore (C : Cx p l s m args meth c P D cc nL ret own) {i : Nat} {a : Nat} {lv' : List (Nat × Value)} (hdg : decode cc pc = .ok (.astore i, 2)) (hn : i < nL) (hl2 : (i, Value.ref a) :: lv.filter (fun q => !(q.1 == i) && !(q.1 + 1 == i && q.2.category == 2)) = lv') (kk : V2 p l e R s m args below meth c P D Q nL Fr f tl k z (pc + 2) lv' st) : V2 p l e R s m args below meth c P D Q nL Fr f tl k z pc lv (.ref a :: st) := fun H locs ls hP hS hl => lv_astore C.1 C.2.1 hdg hl hn hl2 (fun ls' hl' => kk H locs ls' hP hS hl')
theorem y_iinc (C : Cx p l s m args meth c P D cc nL ret own) {i : Nat} {d : Int} {a b : Int32} {lv' : List (Nat × Value)} (q : Nat) (hdg : decode cc pc = .ok (.iinc i d, 3)) (hq : lv[q]? = some (i, .int a)) (hv : a + Int32.ofInt d = b) (hn : i < nL) (hl2 : (i, Value.int b) :: lv.filter (fun q => !(q.1 == i) && !(q.1 + 1 == i && q.2.category == 2)) = lv') (kk : V2 p l e R s m args below meth c P D Q nL Fr f tl k z (pc + 3) lv' st) : V2 p l e R s m args below meth c P D Q nL Fr f tl k z pc lv st := fun H locs ls hP hS hl => lv_iinc C.1 C.2.1 hdg hl hq hv hn hl2 (fun ls' hl' => kk H locs ls' hP hS hl')
theorem y_iadd (C : Cx p l s m args meth c P D cc nL ret own) {a b : Int32} (hdg : decode cc pc = .ok (.iadd, 1))  (kk : V2 p l e R s m args below meth c P D Q nL Fr f tl k z (pc + 1) lv (.int (a + b) :: st)) : V2 p l e R s m args below meth c P D Q nL Fr f tl k z pc lv (.int b :: .int a :: st) := fun H locs ls hP hS hl => lv_iadd C.1 C.2.1 hdg (kk H locs ls hP hS hl)
theorem y_isub (C : Cx p l s m args meth c P D cc nL ret own) {a b : Int32} (hdg : decode cc pc = .ok (.isub, 1))  (kk : V2 p l e R s m args below meth c P D Q nL Fr f tl k z (pc + 1) lv (.int (a - b) :: st)) : V2 p l e R s m args below meth c P D Q nL Fr f tl k z pc lv (.int b :: .int a :: st) := fun H locs ls hP hS hl => lv_isub C.1 C.2.1 hdg (kk H locs ls hP hS hl)
theorem y_imul (C : Cx p l s m args meth c P D cc nL ret own) {a b : Int32} (hdg : decode cc pc = .ok (.imul, 1))  (kk : V2 p l e R s m args below meth c P D Q nL Fr f tl k z (pc + 1) lv (.int (a * b) :: st)) : V2 p l e R s m args below meth c P D Q nL Fr f tl k z pc lv (.int b :: .int a :: st) := fun H locs ls hP hS hl => lv_imul C.1 C.2.1 hdg (kk H locs ls hP hS hl)
theorem y_dup (C : Cx p l s m args meth c P D cc nL ret own) {a : Value} (hdg : decode cc pc = .ok (.dup, 1)) (ha : a.category = 1) (kk : V2 p l e R s m args below meth c P D Q nL Fr f tl k z (pc + 1) lv (a :: a :: st)) : V2 p l e R s m args below meth c P D Q nL Fr f tl k z pc lv (a :: st) := fun H locs ls hP hS hl => lv_dup C.1 C.2.1 hdg ha (kk H locs ls hP hS hl)
theorem y_goto (C : Cx p l s m args meth c P D cc nL ret own) {off : Int} {tgt : Nat} (hdg : decode cc pc = .ok (.goto off, 3)) (ht : (pc : Int) + off = (tgt : Int)) (kk : V2 p l e R s m args below meth c P D Q nL Fr f tl k z tgt lv st) : V2 p l e R s m args below meth c P D Q nL Fr f tl k z pc lv st := fun H locs ls hP hS hl => lv_goto C.1 C.2.1 hdg ht (kk H locs ls hP hS hl)
theorem y_icmp_ge (C : Cx p l s m args meth c P D cc nL ret own) {a b : Int32} {off : Int} {tgt : Nat} (hdg : decode cc pc = .ok (.if_icmp .ge off, 3)) (ht : (pc : Int) + off = (tgt : Int)) (kt : (b ≤ a) → V2 p l e R s m args below meth c P D Q nL Fr f tl k z tgt lv st) (kf : ¬ (b ≤ a) → V2 p l e R s m args below meth c P D Q nL Fr f tl k z (pc + 3) lv st) : V2 p l e R s m args below meth c P D Q nL Fr f tl k z pc lv (.int b :: .int a :: st) := fun H locs ls hP hS hl => lv_icmp_ge C.1 C.2.1 hdg ht (fun h => kt h H locs ls hP hS hl) (fun h => kf h H locs ls hP hS hl)
theorem y_icmp_ne (C : Cx p l s m args meth c P D cc nL ret own) {a b : Int32} {off : Int} {tgt : Nat} (hdg : decode cc pc = .ok (.if_icmp .ne off, 3)) (ht : (pc : Int) + off = (tgt : Int)) (kt : (¬ a = b) → V2 p l e R s m args below meth c P D Q nL Fr f tl k z tgt lv st) (kf : a = b → V2 p l e R s m args below meth c P D Q nL Fr f tl k z (pc + 3) lv st) : V2 p l e R s m args below meth c P D Q nL Fr f tl k z pc lv (.int b :: .int a :: st) := fun H locs ls hP hS hl => lv_icmp_ne C.1 C.2.1 hdg ht (fun h => kt h H locs ls hP hS hl) (fun h => kf h H locs ls hP hS hl)
theorem y_lv {lv' : List (Nat × Value)} (ks : List Nat) (h : lv_pick lv ks = lv') (kk : V2 p l e R s m args below meth c P D Q nL Fr f tl k z pc lv' st) : V2 p l e R s m args below meth c P D Q nL Fr f tl k z pc lv st := fun H locs ls hP hS hl => kk H locs ls hP hS (lv_sub hl ks h)
theorem y_top {a : Int32} (kk : ∀ b : Int32, b = a → V2 p l e R s m args below meth c P D Q nL Fr f tl k z pc lv (.int b :: st)) : V2 p l e R s m args below meth c P D Q nL Fr f tl k z pc lv (.int a :: st) := kk a rfl
theorem y_topE {a b : Int32} (h : a = b) (kk : V2 p l e R s m args below meth c P D Q nL Fr f tl k z pc lv (.int b :: st)) : V2 p l e R s m args below meth c P D Q nL Fr f tl k z pc lv (.int a :: st) := by rw [h]; exact kk
theorem wl2 {o : Nat} {a : Nat} (h : a < 97) : (wl o 97 f ++ tl)[a]? = (wl o 97 f)[a]? := List.getElem?_append_left (by rw [wl_len]; exact h)
theorem wl2P {H : Heap} (hP : va_P D vwCl (wl P.1 97 f ++ tl) H) : va_P D vwCl (wl P.1 97 f) H := fun k q hq => hP k q (by
  have h := (wl_of hq).1
  rw [wl2 h]
  exact hq)
variable {N F T : Nat → Nat → Int32} {K : Nat → Int32} {A : Nat → Nat → Int32} {w : Int64}
theorem y_gM (C : Cx p l s m args meth c P D cc nL ret own) (kf : Nat) (hk : kf < 8) {index : Nat} (hlink : Cond.fieldLink own index (((RX4, TX4, 8) : vw_C).2.1 kf).1 (((RX4, TX4, 8) : vw_C).2.1 kf).2.1 (((RX4, TX4, 8) : vw_C).2.1 kf).2.2.1 ∈ gtb) {u : Value} (hv : (mF P K)[kf]? = some u) (hdg : decode cc pc = .ok (.getfield index, 3)) (kk : V2 p l e R s m args below meth c P D Q nL Fr (cw P N F T K A w) tl k z (pc + 3) lv (u :: st)) : V2 p l e R s m args below meth c P D Q nL Fr (cw P N F T K A w) tl k z pc lv (.ref (rM P) :: st) := by
  intro H locs ls hP hS hl
  obtain ⟨hx, hb, hml, hown, hts, hr, hlk, hK, ho, hST⟩ := C
  exact va_get (ci := 4) (C := RX4) (T := TX4) (N := 8) (fs := mF P K) hx hb hts inX4g hown hK hP (ik (8, 0)) ((wl2 kdM.2).trans (cw_get (8, 0) kdM.1 kdM.2)) rfl kf hk (hts _ hlink) (fun _ h9 => h9) hv hdg (kk H locs ls hP hS hl)
theorem y_ldAk (C : Cx p l s m args meth c P D cc nL ret own) {b : Nat} (t : Nat) (hb : b < 5) {i a : Int32} (hi : i = nI t) (ht : t < lenA b) (hv : A b t = a) (hdg : decode cc pc = .ok (.iaload, 1)) (kk : V2 p l e R s m args below meth c P D Q nL Fr (cw P N F T K A w) tl k z (pc + 1) lv (.int a :: st)) : V2 p l e R s m args below meth c P D Q nL Fr (cw P N F T K A w) tl k z pc lv (.int i :: .ref (rA P b) :: st) := by
  subst hi
  have h240 : lenA b ≤ 240 := by
    match b, hb with
    | 0, _ => exact Nat.le_refl _
    | 1, _ => exact Nat.le_of_ble_eq_true rfl
    | 2, _ => exact Nat.le_refl _
    | 3, _ => exact Nat.le_of_ble_eq_true rfl
    | 4, _ => exact Nat.le_of_ble_eq_true rfl
  have e0 : (nI t).toNatClampNeg = t := nI_clamp (by omega)
  intro H locs ls hP hS hl
  obtain ⟨hx, hbb, hml, hown, hts, hr, hlk, hK, ho, hST⟩ := C
  refine va_iald (n := lenA b) (f := A b) hx hbb hK hP (ik (9, b)) 0 ((wl2 (kdA b hb).2).trans (cw_get (9, b) (kdA b hb).1 (kdA b hb).2)) rfl (vp_in_nI ht (by omega)) hdg ?_
  rw [e0, hv]
  exact kk H locs ls hP hS hl
/-- the array that is made beside the world -/
theorem v_newT (C : Cx p l s m args meth c P D cc nL ret own) (harr : Cond.arrayClass FieldType.int ∈ gtb) (hdg : decode cc pc = .ok (.newarray .int, 2)) (h1 : k + 1 ≤ R.cells) (h2 : z + 6 ≤ R.slots)
    (kk : ∀ (q : Nat) (cA : ClassId), va_K D vwCl (tyP P ++ [(cA, .int)]) s → (∀ g : Nat → Int32, va_D (aO P) (wl P.1 97 (cw P N F T K A w) ++ [(q, .inl (cA, 6, .inl g))])) → V2 p l e R s m args below meth c P D Q nL (aO P) (cw P N F T K A w) [(q, .inl (cA, 6, .inl (fun _ => 0)))] (k + 1) (z + 6) (pc + 2) lv (.ref q :: st)) : V p l e R s m args below meth c P D Q nL 97 False (cw P N F T K A w) k z pc lv (.int 6 :: st) := by
  intro H locs ls hP hz hS hl
  obtain ⟨hx, hb, hml, hown, hts, hr, hlk, hK, ho, hST⟩ := C
  refine va_newa (atype := .int) (ty := .int) hx hb (hts _ harr) rfl hK hP (wl_D _ _ _) hS (fun q hq => Nat.le_trans ho hq) (a0 := (6, .inl (fun _ => 0))) (N' := 6) (fun cA => rfl) (by decide) (by decide) (by decide) h1 h2 hdg (fun q cA H1 hK1 hP1 hD1 hS1 => ?_)
  refine kk q cA hK1 (fun g => ?_) H1 locs ls hP1 hS1 hl
  have h9 : (wl P.1 97 (cw P N F T K A w) ++ [(q, (.inl (cA, 6, .inl (fun _ => 0)) : va_E))])[97]? = some (q, .inl (cA, 6, .inl (fun _ => 0))) := by
    rw [List.getElem?_append_right (by rw [wl_len]; omega), wl_len]
    rfl
  have h8 := hD1.set (e := .inl (cA, 6, .inl g)) h9
  rw [List.set_append_right _ _ (by rw [wl_len]; omega), wl_len] at h8
  exact h8
theorem y_stT (C : Cx p l s m args meth c P D cc nL ret own) {q : Nat} {cA : ClassId} {g : Nat → Int32} (hK2 : va_K D vwCl (tyP P ++ [(cA, .int)]) s) (hD2 : ∀ g : Nat → Int32, va_D (aO P) (wl P.1 97 (cw P N F T K A w) ++ [(q, .inl (cA, 6, .inl g))])) (t : Nat) {i a : Int32} (hi : i = nI t) (ht : t < 6) (hdg : decode cc pc = .ok (.iastore, 1)) (kk : V2 p l e R s m args below meth c P D Q nL (aO P) (cw P N F T K A w) [(q, .inl (cA, 6, .inl (upd g t a)))] k z (pc + 1) lv st) : V2 p l e R s m args below meth c P D Q nL (aO P) (cw P N F T K A w) [(q, .inl (cA, 6, .inl g))] k z pc lv (.int a :: .int i :: .ref q :: st) := by
  subst hi
  have e0 : (nI t).toNatClampNeg = t := nI_clamp (by omega)
  intro H locs ls hP hS hl
  obtain ⟨hx, hb, hml, hown, hts, hr, hlk, hK, ho, hST⟩ := C
  have h9 : (wl P.1 97 (cw P N F T K A w) ++ [(q, (.inl (cA, 6, .inl g) : va_E))])[97]? = some (q, .inl (cA, 6, .inl g)) := by
    rw [List.getElem?_append_right (by rw [wl_len]; omega), wl_len]
    rfl
  refine va_iast (n := 6) (f := g) (cA := cA) (a := q) (tys := tyP P ++ [(cA, .int)]) hx hb hK2 hP (hD2 g) hS 97 4 h9 rfl (vp_in_nI ht (by omega)) hdg (fun H1 locs1 hP1 _ hS1 => ?_)
  rw [List.set_append_right _ _ (by rw [wl_len]; omega), wl_len, e0] at hP1
  exact kk H1 locs1 ls hP1 hS1 hl
theorem y_ldT (C : Cx p l s m args meth c P D cc nL ret own) {q : Nat} {cA : ClassId} {g : Nat → Int32} (hK2 : va_K D vwCl (tyP P ++ [(cA, .int)]) s) (t : Nat) {i a : Int32} (hi : i = nI t) (ht : t < 6) (hv : g t = a) (hdg : decode cc pc = .ok (.iaload, 1)) (kk : V2 p l e R s m args below meth c P D Q nL (aO P) (cw P N F T K A w) [(q, .inl (cA, 6, .inl g))] k z (pc + 1) lv (.int a :: st)) : V2 p l e R s m args below meth c P D Q nL (aO P) (cw P N F T K A w) [(q, .inl (cA, 6, .inl g))] k z pc lv (.int i :: .ref q :: st) := by
  subst hi
  have e0 : (nI t).toNatClampNeg = t := nI_clamp (by omega)
  intro H locs ls hP hS hl
  obtain ⟨hx, hb, hml, hown, hts, hr, hlk, hK, ho, hST⟩ := C
  have h9 : (wl P.1 97 (cw P N F T K A w) ++ [(q, (.inl (cA, 6, .inl g) : va_E))])[97]? = some (q, .inl (cA, 6, .inl g)) := by
    rw [List.getElem?_append_right (by rw [wl_len]; omega), wl_len]
    rfl
  refine va_iald (n := 6) (f := g) (cA := cA) (a := q) (tys := tyP P ++ [(cA, .int)]) hx hb hK2 hP 97 4 h9 rfl (vp_in_nI ht (by omega)) hdg ?_
  rw [e0, hv]
  exact kk H locs ls hP hS hl
abbrev QcN (r : Int32) := va_Qi (fun (r' : Int32) (_ : Unit) => r' = r) (fun _ _ => True) (fun _ => False)
theorem y_iretN (C : Cx p l s m args meth c P D cc nL (some .int) own) {a r : Int32} (hdg : decode cc pc = .ok (.ireturn, 1)) (hr : a = r) : V2 p l e R s m args below meth c P D (MQ below (QcN r) args s k z (fun _ => False)) nL (fun _ => False) f tl k z pc lv [.int a] := by
  subst hr
  intro H locs ls hP hS hl
  exact W.iret C.1 C.2.1 C.2.2.2.2.2.1 (fun t ht hW => ⟨⟨a, (), rfl, rfl, trivial⟩, hS.F ht⟩) hS.2.2 hdg C.2.2.2.2.2.2.1
theorem y_iretT (C : Cx p l s m args meth c P D cc nL (some .int) own) {f' : Nat → va_E} {a r : Int32} (hdg : decode cc pc = .ok (.ireturn, 1)) (hf : f = f') (hr : a = r) : V2 p l e R s m args below meth c P D (MQ below (QcI P D 97 False f' r) args s k z (aO P)) nL (aO P) f tl k z pc lv [.int a] := by
  subst hf; subst hr
  intro H locs ls hP hS hl
  exact W.iret C.1 C.2.1 C.2.2.2.2.2.1 (fun t ht hW => ⟨⟨a, (), rfl, rfl, by rw [ht]; exact wl2P hP, fun hx => hx.elim⟩, hS.F ht⟩) hS.2.2 hdg C.2.2.2.2.2.2.1
end V2Rows
def CtN (l : Launch) (y : MethodName) (b : ByteArray) (nL : Nat) (h : Nat) (P : L5) (D : va_G) (f : Nat → va_E) (av : List Value) (r : Int32) : Prop := Met l y (.code y b nL (some .int) :: gtb) (rmO h 0 0) (va_Pc av (PreI P D 97 False f)) (QcN r) 0 0 (fun _ => False)
theorem mk_MetN {l : Launch} {y : MethodName} {b : ByteArray} {nL : Nat} {rt : Option FieldType} {h mc ms : Nat} {P : L5} {D : va_G} {f : Nat → va_E} {av : List Value} {Qc : Array Value → State → Outcome → State → Prop} (hy : plainName y.cls = true) (lv : List (Nat × Value)) (hlv : lv_args 0 av = lv) (hlen : (lg_sl av).length ≤ nL)
    (body : ∀ (p : Program) (e : Env) (s : State) (m : MethodId) (args : Array Value) (below : List Frame) (meth : Method) (c : Code), Cx p l s m args meth c P D b nL rt y.cls → V2 p l e (rmO h mc ms) s m args below meth c P D (MQ below Qc args s mc ms (fun _ => False)) nL (fun _ => False) f [] 0 0 0 lv []) :
    Met l y (.code y b nL rt :: gtb) (rmO h mc ms) (va_Pc av (PreI P D 97 False f)) Qc mc ms (fun _ => False) := by
  refine Met.ofW (cc := b) (maxL := nL) (ret := rt) hy rfl ?_
  intro p e s m args below meth c s₁ B hml hv
  obtain ⟨rfl, hP, hK, ho, hz, hST⟩ := hv
  have hts := atoms_spec (ws := (.code y b nL rt :: gtb)) B.pre
  have hown : s.vm.findClass y.cls = some m.cls := findClass_of_methodNamed B.named
  have C : Cx p l s m av.toArray meth c P D b nL rt y.cls := ⟨B.exec, B.bytes, hml, hown, fun w hw => hts w (List.mem_cons_of_mem _ hw), B.returns, B.notSynchronized, hK, ho, hST⟩
  have hl := lv_entry av hlen
  rw [lg_entry_eq]
  rw [hlv] at hl
  exact body p e s m av.toArray below meth c C s.heap [] _ (by rw [List.append_nil]; exact hP) va_S.rf hl
section V2Calls
variable {p : Program} {l : Launch} {e : Env} {R : Room} {s : State} {m : MethodId} {args : Array Value} {below : List Frame} {meth : Method} {c : Code} {P : L5} {D : va_G} {Q : State → Prop} {nL n : Nat} {x : Prop} {f : Nat → va_E} {k z pc : Nat} {lv : List (Nat × Value)} {st : List Value} {cc : ByteArray} {ret : Option FieldType} {own : String}
variable {N F T : Nat → Nat → Int32} {K : Nat → Int32} {A : Nat → Nat → Int32} {w : Int64} {tl : va_W}
theorem y_callN (C : Cx p l s m args meth c P D cc nL ret own) {y : MethodName} {b : ByteArray} {nb h index : Nat} {q r : Int32} (hM : CtN l y b nb h P D (cw P N F T K A w) [.ref (rM P), .int q] r) (hk : Cond.code y b nb (some .int) ∈ gtb) (hini : Cond.initialized y.cls ∈ gtb) (hl9 : Cond.methodLink own index y ∈ gtb) (hin : Cond.instanceMethod y ∈ gtb) (hse : Cond.selects y.cls y y ∈ gtb) (hd : y.cls ≠ "java/lang/invoke/MethodHandle" ∧ y.cls ≠ "java/lang/invoke/VarHandle" ∧ (parseMethodDescriptor y.desc).map (fun d => d.parameters.length) = some [Value.int q].length) (hR : h + 1 ≤ R.frames ∧ 8 + (nb + 11) + 28 * h ≤ R.locals) (hrc : y.cls = RX4) (hW : (st.map fun v => v.category).sum ≤ 8) (hdg : decode cc pc = .ok (.invokevirtual index, 3)) (hf : k ≤ R.cells ∧ z ≤ R.slots)
    (kk : V2 p l e R s m args below meth c P D Q nL (aO P) (cw P N F T K A w) tl k z (pc + 3) lv (.int r :: st)) : V2 p l e R s m args below meth c P D Q nL (aO P) (cw P N F T K A w) tl k z pc lv (.int q :: .ref (rM P) :: st) := by
  intro H locs ls hP hS hl
  obtain ⟨hx, hb, hml, hown, hts, hr, hlk, hK, ho, hST⟩ := id C
  have hP9 := wl2P hP
  have hG := gtb_in (w0 := .code y b nb (some .int)) hk
  have hts' : ∀ w ∈ (.code y b nb (some .int) :: gtb : List Cond), w.before args s = true := fun w hw => (List.mem_cons.mp hw).elim (fun e9 => by rw [e9]; exact hts _ hk) (hts w)
  obtain ⟨q9, ci, fs9, r9, g1, g2, g3⟩ := (rcM : rcv P 97 (cw P N F T K A w) (rM P) RX4)
  have run : va_Run p l e R s m args below meth c H locs k z 0 0 (F0 m pc ls (.int q :: .ref (rM P) :: st)) st ((QcN r) (Value.ref (rM P) :: [.int q]).toArray) (fun _ => False) := by
    exact va_runV (Ts := (.code y b nb (some .int) :: gtb)) ⟨hx, hb, hml, hown, hts'⟩ hM ⟨callB_of [Value.int q].length hts' hG rfl rfl rfl (hts _ hini) (hts _ hl9) hd hR, hts _ hin, hts _ hse⟩ ⟨PreI.blind, by rw [hrc, ← g3]; exact va_recv hK hP9 g2 g1, pre_of C hP9 (fun h => h.elim) hS⟩ rfl rfl hl.1 rfl (lv_room hW) hdg hf
  refine va_calli run hS (fun q _ h => h.elim) (fun q h => h.elim) (fun r9 u t H1 locs1 ht hvm hw hB hz1 hk1 hS1 => ?_)
  subst hw
  exact kk H1 locs1 ls (hP.kept (fun k q hq => hk1 q.1 ((hP k q hq).lt) (fun h => h))) hS1 hl
end V2Calls
