/-! THE COPY OF AN ARRAY OF THE MODEL; one nailer's row out of an array -/
section VCopy
variable {p : Program} {l : Launch} {e : Env} {R : Room} {s : State} {m : MethodId} {args : Array Value} {below : List Frame} {meth : Method} {c : Code} {P : L5} {D : va_G} {Q : State → Prop} {nL n : Nat} {x : Prop} {f : Nat → va_E} {k z pc : Nat} {lv : List (Nat × Value)} {st : List Value} {cc : ByteArray} {ret : Option FieldType} {own : String}
variable {N F T : Nat → Nat → Int32} {K : Nat → Int32} {A : Nat → Nat → Int32} {w : Int64}
theorem v_copy (C : Cx p l s m args meth c P D cc nL ret own) {b0 b1 n9 index : Nat} (hb0 : b0 < 5) (hb1 : b1 < 5) (h0 : lenA b0 = n9) (h1 : lenA b1 = n9) (h240 : n9 ≤ 240) {a : Int32} (ha : a = nI n9) (hlink : Cond.methodLink own index arraycopyName ∈ gtb) (hnat : Cond.native arraycopyName ∈ gtb) (hstat : Cond.static arraycopyName ∈ gtb) (hini : Cond.initialized "java/lang/System" ∈ gtb) (hR : 1 ≤ R.frames) (hlo : (st.map fun v => v.category).sum + (nativeFrameWords "java/lang/System" "arraycopy" 5 + 11) ≤ R.locals) (hdg : decode cc pc = .ok (.invokestatic index, 3))
    (kk : V p l e R s m args below meth c P D Q nL 97 False (cw P N F T K (cp1M A b0 b1 n9) w) k z (pc + 3) lv st) : V p l e R s m args below meth c P D Q nL 97 False (cw P N F T K A w) k z pc lv (.int a :: .int 0 :: .ref (rA P b1) :: .int 0 :: .ref (rA P b0) :: st) := by
  intro H locs ls hP hz hS hl
  obtain ⟨hx, hb, hml, hown, hts, hr, hlk, hK, ho, hST⟩ := C
  subst ha
  have e0 : (nI n9).toNatClampNeg = n9 := nI_clamp (by omega)
  have ez : (0 : Int32).toNatClampNeg = 0 := tn_0
  refine va_copyi hx hb (hml.trans hl.1.symm) hown (hts _ hlink) (hts _ hnat) (hts _ hstat) (hts _ hini) hK hP (wl_D _ _ _) hS (ik (9, b0)) (ik (9, b1)) 0 0 (cw_get (9, b0) (kdA b0 hb0).1 (kdA b0 hb0).2) (cw_get (9, b1) (kdA b1 hb1).1 (kdA b1 hb1).2) rfl rfl rfl (by decide) (by decide) (nI_pos (by omega)) (by rw [e0, ez, h0]; omega) (by rw [e0, ez, h1]; omega) (fun _ _ => rfl) hR hlo hdg (fun H1 locs1 hP1 _ hS1 => ?_)
  rw [e0, ez] at hP1
  rw [cw_set (P := P) (N := N) (F := F) (T := T) (K := K) (A := A) (w := w) (N' := N) (F' := F) (T' := T) (K' := K) (A' := cp1M A b0 b1 n9) (w' := w) (9, b1) (kdA b1 hb1).1 (kdA b1 hb1).2 (by simp only [cK, cp1M, va_up_self]) (fun q9 h9 _ => cK_frA (fun i9 hi9 => va_up_ne _ _ hi9) h9)] at hP1
  exact kk H1 locs1 ls hP1 (fun h9 => h9.elim) hS1 hl
end VCopy
section VU2
variable {l : Launch} {P : L5} {D : va_G} {N F T : Nat → Nat → Int32} {K : Nat → Int32} {A : Nat → Nat → Int32} {w : Int64}
theorem u_X4_work {b a : Nat} (hb : b < 5) (hL : lenA b = 240) (ha : a + 20 ≤ 240) (hk : vp_in (A b (a + 1)) 4) : CtI l yX4_work cX4_work 9 .int 2 0 0 P D 97 97 False (cw P N F T K A w) (cw P N F T K (mWA A b a) w) [.ref (rM P), .ref (rA P b), .int (nI a)] (mWr (rowO (A b) a)).2 := by
  obtain ⟨h1, h2⟩ := kx_of (v := rowO (A b) a) hk
  have h := c_X4_work (l := l) (P := P) (D := D) (N := N) (F := F) (T := T) (K := K) (A := A) (w := w) (f0 := A b) (v := rowO (A b) a) hb hL ha h1 h2
  have e : R1 A b (A b) a (rowO (A b) a) = A := by
    unfold R1
    rw [upR_eta _ _ _ (by omega), va_up_eta]
  rw [e] at h
  exact h
end VU2
