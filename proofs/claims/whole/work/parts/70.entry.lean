/-! WHAT HOLDS AT THE LAW'S ENTRY: classes, arrays, statics, strings, links -/
theorem ltw1 {w : Cond} (i : Nat) (h : tables_1_1[i]? = some w) : w ∈ lw_tbl := List.mem_append_right _ (List.mem_append_left _ (List.mem_of_getElem? h))
theorem ltw2 {w : Cond} (i : Nat) (h : tables_1_2[i]? = some w) : w ∈ lw_tbl := List.mem_append_right _ (List.mem_append_right _ (List.mem_append_left _ (List.mem_of_getElem? h)))
theorem ltw3 {w : Cond} (i : Nat) (h : tables_1_3[i]? = some w) : w ∈ lw_tbl := List.mem_append_right _ (List.mem_append_right _ (List.mem_append_right _ (List.mem_of_getElem? h)))
theorem nwF_in : ∀ q ∈ nwF, Cond.fieldLinkNest q.1 q.2.1 q.2.2.1 q.2.2.2.1 q.2.2.2.2 RX3 ∈ lw_tbl := by
  intro q hq
  unfold nwF at hq
  rcases List.mem_cons.mp hq with rfl | hq
  · exact (ltw1 37 (by decide +kernel))
  rcases List.mem_cons.mp hq with rfl | hq
  · exact (ltw1 39 (by decide +kernel))
  rcases List.mem_cons.mp hq with rfl | hq
  · exact (ltw1 40 (by decide +kernel))
  rcases List.mem_cons.mp hq with rfl | hq
  · exact (ltw1 42 (by decide +kernel))
  rcases List.mem_cons.mp hq with rfl | hq
  · exact (ltw1 45 (by decide +kernel))
  rcases List.mem_cons.mp hq with rfl | hq
  · exact (ltw1 47 (by decide +kernel))
  rcases List.mem_cons.mp hq with rfl | hq
  · exact (ltw1 49 (by decide +kernel))
  rcases List.mem_cons.mp hq with rfl | hq
  · exact (ltw1 50 (by decide +kernel))
  rcases List.mem_cons.mp hq with rfl | hq
  · exact (ltw1 51 (by decide +kernel))
  rcases List.mem_cons.mp hq with rfl | hq
  · exact (ltw1 53 (by decide +kernel))
  rcases List.mem_cons.mp hq with rfl | hq
  · exact (ltw1 58 (by decide +kernel))
  rcases List.mem_cons.mp hq with rfl | hq
  · exact (ltw1 60 (by decide +kernel))
  rcases List.mem_cons.mp hq with rfl | hq
  · exact (ltw1 61 (by decide +kernel))
  rcases List.mem_cons.mp hq with rfl | hq
  · exact (ltw1 100 (by decide +kernel))
  rcases List.mem_cons.mp hq with rfl | hq
  · exact (ltw1 101 (by decide +kernel))
  rcases List.mem_cons.mp hq with rfl | hq
  · exact (ltw1 103 (by decide +kernel))
  rcases List.mem_cons.mp hq with rfl | hq
  · exact (ltw1 105 (by decide +kernel))
  rcases List.mem_cons.mp hq with rfl | hq
  · exact (ltw1 107 (by decide +kernel))
  rcases List.mem_cons.mp hq with rfl | hq
  · exact (ltw1 109 (by decide +kernel))
  rcases List.mem_cons.mp hq with rfl | hq
  · exact (ltw1 126 (by decide +kernel))
  rcases List.mem_cons.mp hq with rfl | hq
  · exact (ltw1 128 (by decide +kernel))
  rcases List.mem_cons.mp hq with rfl | hq
  · exact (ltw1 130 (by decide +kernel))
  rcases List.mem_cons.mp hq with rfl | hq
  · exact (ltw2 190 (by decide +kernel))
  rcases List.mem_cons.mp hq with rfl | hq
  · exact (ltw2 204 (by decide +kernel))
  exact absurd hq List.not_mem_nil
theorem nwM_in : ∀ q ∈ nwM, Cond.methodLinkNest q.1 q.2.1 q.2.2 RX3 ∈ lw_tbl := by
  intro q hq
  unfold nwM at hq
  rcases List.mem_cons.mp hq with rfl | hq
  · exact (ltw1 24 (by decide +kernel))
  rcases List.mem_cons.mp hq with rfl | hq
  · exact (ltw1 31 (by decide +kernel))
  rcases List.mem_cons.mp hq with rfl | hq
  · exact (ltw1 95 (by decide +kernel))
  rcases List.mem_cons.mp hq with rfl | hq
  · exact (ltw1 141 (by decide +kernel))
  rcases List.mem_cons.mp hq with rfl | hq
  · exact (ltw1 166 (by decide +kernel))
  rcases List.mem_cons.mp hq with rfl | hq
  · exact (ltw1 178 (by decide +kernel))
  rcases List.mem_cons.mp hq with rfl | hq
  · exact (ltw1 185 (by decide +kernel))
  rcases List.mem_cons.mp hq with rfl | hq
  · exact (ltw1 194 (by decide +kernel))
  rcases List.mem_cons.mp hq with rfl | hq
  · exact (ltw2 78 (by decide +kernel))
  rcases List.mem_cons.mp hq with rfl | hq
  · exact (ltw2 124 (by decide +kernel))
  rcases List.mem_cons.mp hq with rfl | hq
  · exact (ltw2 160 (by decide +kernel))
  rcases List.mem_cons.mp hq with rfl | hq
  · exact (ltw2 168 (by decide +kernel))
  rcases List.mem_cons.mp hq with rfl | hq
  · exact (ltw2 200 (by decide +kernel))
  rcases List.mem_cons.mp hq with rfl | hq
  · exact (ltw2 206 (by decide +kernel))
  rcases List.mem_cons.mp hq with rfl | hq
  · exact (ltw2 211 (by decide +kernel))
  rcases List.mem_cons.mp hq with rfl | hq
  · exact (ltw2 222 (by decide +kernel))
  rcases List.mem_cons.mp hq with rfl | hq
  · exact (ltw2 226 (by decide +kernel))
  rcases List.mem_cons.mp hq with rfl | hq
  · exact (ltw3 6 (by decide +kernel))
  rcases List.mem_cons.mp hq with rfl | hq
  · exact (ltw3 10 (by decide +kernel))
  rcases List.mem_cons.mp hq with rfl | hq
  · exact (ltw3 11 (by decide +kernel))
  exact absurd hq List.not_mem_nil
theorem strQ_in : ∀ q ∈ strQ, Cond.stringRef RX3 q.1 q.2 ∈ lw_tbl := by
  intro q hq
  unfold strQ at hq
  rcases List.mem_cons.mp hq with rfl | hq
  · exact (ltw2 16 (by decide +kernel))
  rcases List.mem_cons.mp hq with rfl | hq
  · exact (ltw2 55 (by decide +kernel))
  rcases List.mem_cons.mp hq with rfl | hq
  · exact (ltw2 71 (by decide +kernel))
  rcases List.mem_cons.mp hq with rfl | hq
  · exact (ltw2 93 (by decide +kernel))
  rcases List.mem_cons.mp hq with rfl | hq
  · exact (ltw2 101 (by decide +kernel))
  rcases List.mem_cons.mp hq with rfl | hq
  · exact (ltw2 116 (by decide +kernel))
  rcases List.mem_cons.mp hq with rfl | hq
  · exact (ltw3 5 (by decide +kernel))
  exact absurd hq List.not_mem_nil
theorem strQ_ex : ∀ q ∈ strQ, Cond.exactly (.string RX3 q.1) "java/lang/String" ∈ flatC (Jvm.Cond.and given_1 narrow_1) := by
  intro q hq
  unfold strQ at hq
  rcases List.mem_cons.mp hq with rfl | hq
  · exact (by decide +kernel)
  rcases List.mem_cons.mp hq with rfl | hq
  · exact (by decide +kernel)
  rcases List.mem_cons.mp hq with rfl | hq
  · exact (by decide +kernel)
  rcases List.mem_cons.mp hq with rfl | hq
  · exact (by decide +kernel)
  rcases List.mem_cons.mp hq with rfl | hq
  · exact (by decide +kernel)
  rcases List.mem_cons.mp hq with rfl | hq
  · exact (by decide +kernel)
  rcases List.mem_cons.mp hq with rfl | hq
  · exact (by decide +kernel)
  exact absurd hq List.not_mem_nil
theorem dcN_in : ∀ q ∈ dcN, Cond.declares (Bundle.initS q) ∈ lw_tbl := by
  intro q hq
  unfold dcN at hq
  rcases List.mem_cons.mp hq with rfl | hq
  · exact (ltw1 219 (by decide +kernel))
  rcases List.mem_cons.mp hq with rfl | hq
  · exact (ltw1 221 (by decide +kernel))
  rcases List.mem_cons.mp hq with rfl | hq
  · exact (ltw1 223 (by decide +kernel))
  exact absurd hq List.not_mem_nil
theorem xn_in (n : Nat) : Cond.castable (xn n) (xn n) ∈ lw_tbl := by
  unfold xn
  split
  · exact (ltw1 217 (by decide +kernel))
  · split
    · exact (ltw2 48 (by decide +kernel))
    · exact (ltw2 64 (by decide +kernel))
theorem xn_no (a b : Nat) (h : xn a ≠ xn b) : Cond.not (.castable (xn a) (xn b)) ∈ flatC (Jvm.Cond.and given_1 narrow_1) := by
  unfold xn at h ⊢
  by_cases a1 : a = 1 <;> by_cases a2 : a = 2 <;> by_cases b1 : b = 1 <;> by_cases b2 : b = 2 <;> simp only [a1, a2, b1, b2, if_true, if_false, ne_eq, not_true_eq_false] at h ⊢ <;> first | (exact absurd rfl h) | decide +kernel | omega
theorem stQ_in : ∀ (b : Nat) (q : String × String × (Nat → Int32)), stQ[b]? = some q → Cond.laysStatic q.1 q.2.1 "[I" ∈ lw_tbl ∧ Cond.initialized q.1 ∈ lw_tbl ∧ Cond.arrayOf (.static q.1 q.2.1 "[I") .int ∈ flatC (Jvm.Cond.and given_1 narrow_1) ∧ Cond.eq (.length (.static q.1 q.2.1 "[I")) (.int 4) ∈ flatC (Jvm.Cond.and given_1 narrow_1) ∧ ∀ j : Nat, j < 4 → Cond.eq (.elem (.static q.1 q.2.1 "[I") (.int (Int32.ofNat j))) (.int (q.2.2 j)) ∈ flatC (Jvm.Cond.and given_1 narrow_1)
  | 0, _, rfl => ⟨(ltw2 191 (by decide +kernel)), (ltw1 1 (by decide +kernel)), by decide +kernel, by decide +kernel, fun j hj => by rcases (show j = 0 ∨ j = 1 ∨ j = 2 ∨ j = 3 by omega) with rfl | rfl | rfl | rfl <;> decide +kernel⟩
  | 1, _, rfl => ⟨(ltw2 205 (by decide +kernel)), (ltw1 1 (by decide +kernel)), by decide +kernel, by decide +kernel, fun j hj => by rcases (show j = 0 ∨ j = 1 ∨ j = 2 ∨ j = 3 by omega) with rfl | rfl | rfl | rfl <;> decide +kernel⟩
  | 2, _, rfl => ⟨(ltw3 166 (by decide +kernel)), (ltw1 5 (by decide +kernel)), by decide +kernel, by decide +kernel, fun j hj => by rcases (show j = 0 ∨ j = 1 ∨ j = 2 ∨ j = 3 by omega) with rfl | rfl | rfl | rfl <;> decide +kernel⟩
  | 3, _, rfl => ⟨(ltw3 175 (by decide +kernel)), (ltw1 5 (by decide +kernel)), by decide +kernel, by decide +kernel, fun j hj => by rcases (show j = 0 ∨ j = 1 ∨ j = 2 ∨ j = 3 by omega) with rfl | rfl | rfl | rfl <;> decide +kernel⟩
theorem arr_of {args : Array Value} {s : State} {ty : FieldType} (hty : ∀ C, ty ≠ .object C) (h : (Cond.arrayClass ty).before args s = true) : ∃ cA : ClassId, ArrOfT s cA ty ∧ va_RA s cA ty := by
  obtain ⟨cA, kA, comp, h1, h2, h3⟩ := Cond.arrayClass_spec h
  refine ⟨cA, fun n z => ⟨fun k h => (by cases h), kA, h2, comp, h3⟩, ?_⟩
  cases ty with
  | object C => exact absurd rfl (hty C)
  | _ => exact h1
theorem arr_ob {args : Array Value} {s : State} {C : String} (h : (Cond.arrayOver (.object C)).before args s = true) : ∃ cA : ClassId, ArrOfT s cA (.object C) ∧ va_RA s cA (.object C) := by
  obtain ⟨comp, cA, kA, h1, h2, h3, h4, h5⟩ := Cond.arrayOver_spec h
  exact ⟨cA, fun n z => ⟨fun k h => (by cases h), kA, h3, comp, h4⟩, kA, comp, h3, h4, h1, h5⟩
