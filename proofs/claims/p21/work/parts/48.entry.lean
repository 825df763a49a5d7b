/-! WHAT HOLDS AT THE LAW'S ENTRY: classes, arrays, statics, links; the script -/
theorem ltw1 {w : Cond} (i : Nat) (h : tables_1_1[i]? = some w) : w ∈ lw_tbl := List.mem_append_right _ (List.mem_append_left _ (List.mem_of_getElem? h))
theorem ltw2 {w : Cond} (i : Nat) (h : tables_1_2[i]? = some w) : w ∈ lw_tbl := List.mem_append_right _ (List.mem_append_right _ (List.mem_of_getElem? h))
theorem nwF_in : ∀ q ∈ nwF, Cond.fieldLinkNest q.1 q.2.1 q.2.2.1 q.2.2.2.1 q.2.2.2.2 RX3 ∈ lw_tbl := by
  intro q hq
  unfold nwF at hq
  rcases List.mem_cons.mp hq with rfl | hq
  · exact (ltw2 84 (by decide +kernel))
  rcases List.mem_cons.mp hq with rfl | hq
  · exact (ltw2 86 (by decide +kernel))
  rcases List.mem_cons.mp hq with rfl | hq
  · exact (ltw1 221 (by decide +kernel))
  rcases List.mem_cons.mp hq with rfl | hq
  · exact (ltw2 88 (by decide +kernel))
  rcases List.mem_cons.mp hq with rfl | hq
  · exact (ltw1 221 (by decide +kernel))
  rcases List.mem_cons.mp hq with rfl | hq
  · exact (ltw2 92 (by decide +kernel))
  rcases List.mem_cons.mp hq with rfl | hq
  · exact (ltw2 94 (by decide +kernel))
  rcases List.mem_cons.mp hq with rfl | hq
  · exact (ltw2 95 (by decide +kernel))
  rcases List.mem_cons.mp hq with rfl | hq
  · exact (ltw2 96 (by decide +kernel))
  rcases List.mem_cons.mp hq with rfl | hq
  · exact (ltw2 98 (by decide +kernel))
  rcases List.mem_cons.mp hq with rfl | hq
  · exact (ltw2 103 (by decide +kernel))
  rcases List.mem_cons.mp hq with rfl | hq
  · exact (ltw2 105 (by decide +kernel))
  rcases List.mem_cons.mp hq with rfl | hq
  · exact (ltw2 106 (by decide +kernel))
  rcases List.mem_cons.mp hq with rfl | hq
  · exact (ltw2 144 (by decide +kernel))
  rcases List.mem_cons.mp hq with rfl | hq
  · exact (ltw2 145 (by decide +kernel))
  rcases List.mem_cons.mp hq with rfl | hq
  · exact (ltw2 147 (by decide +kernel))
  rcases List.mem_cons.mp hq with rfl | hq
  · exact (ltw2 149 (by decide +kernel))
  rcases List.mem_cons.mp hq with rfl | hq
  · exact (ltw2 151 (by decide +kernel))
  rcases List.mem_cons.mp hq with rfl | hq
  · exact (ltw2 153 (by decide +kernel))
  rcases List.mem_cons.mp hq with rfl | hq
  · exact (ltw2 170 (by decide +kernel))
  rcases List.mem_cons.mp hq with rfl | hq
  · exact (ltw2 172 (by decide +kernel))
  rcases List.mem_cons.mp hq with rfl | hq
  · exact (ltw2 174 (by decide +kernel))
  rcases List.mem_cons.mp hq with rfl | hq
  · exact (ltw1 221 (by decide +kernel))
  rcases List.mem_cons.mp hq with rfl | hq
  · exact (ltw1 236 (by decide +kernel))
  exact absurd hq List.not_mem_nil
theorem nwM_in : ∀ q ∈ nwM, Cond.methodLinkNest q.1 q.2.1 q.2.2 RX3 ∈ lw_tbl := by
  intro q hq
  unfold nwM at hq
  rcases List.mem_cons.mp hq with rfl | hq
  · exact (ltw2 72 (by decide +kernel))
  rcases List.mem_cons.mp hq with rfl | hq
  · exact (ltw2 78 (by decide +kernel))
  rcases List.mem_cons.mp hq with rfl | hq
  · exact (ltw2 139 (by decide +kernel))
  rcases List.mem_cons.mp hq with rfl | hq
  · exact (ltw2 185 (by decide +kernel))
  rcases List.mem_cons.mp hq with rfl | hq
  · exact (ltw1 168 (by decide +kernel))
  rcases List.mem_cons.mp hq with rfl | hq
  · exact (ltw1 180 (by decide +kernel))
  rcases List.mem_cons.mp hq with rfl | hq
  · exact (ltw2 49 (by decide +kernel))
  rcases List.mem_cons.mp hq with rfl | hq
  · exact (ltw1 155 (by decide +kernel))
  rcases List.mem_cons.mp hq with rfl | hq
  · exact (ltw2 201 (by decide +kernel))
  rcases List.mem_cons.mp hq with rfl | hq
  · exact (ltw1 138 (by decide +kernel))
  rcases List.mem_cons.mp hq with rfl | hq
  · exact (ltw1 191 (by decide +kernel))
  rcases List.mem_cons.mp hq with rfl | hq
  · exact (ltw1 199 (by decide +kernel))
  rcases List.mem_cons.mp hq with rfl | hq
  · exact (ltw1 231 (by decide +kernel))
  rcases List.mem_cons.mp hq with rfl | hq
  · exact (ltw1 238 (by decide +kernel))
  rcases List.mem_cons.mp hq with rfl | hq
  · exact (ltw2 3 (by decide +kernel))
  rcases List.mem_cons.mp hq with rfl | hq
  · exact (ltw2 11 (by decide +kernel))
  rcases List.mem_cons.mp hq with rfl | hq
  · exact (ltw2 15 (by decide +kernel))
  rcases List.mem_cons.mp hq with rfl | hq
  · exact (ltw2 25 (by decide +kernel))
  rcases List.mem_cons.mp hq with rfl | hq
  · exact (ltw2 29 (by decide +kernel))
  rcases List.mem_cons.mp hq with rfl | hq
  · exact (ltw2 30 (by decide +kernel))
  exact absurd hq List.not_mem_nil
theorem stQ_in : ∀ (b : Nat) (q : String × String × (Nat → Int32)), stQ[b]? = some q → b < 3 ∧ Cond.laysStatic q.1 q.2.1 "[I" ∈ lw_tbl ∧ Cond.initialized q.1 ∈ lw_tbl ∧ Cond.arrayOf (.static q.1 q.2.1 "[I") .int ∈ flatC (Jvm.Cond.and given_1 narrow_1) ∧ Cond.eq (.length (.static q.1 q.2.1 "[I")) (.int 4) ∈ flatC (Jvm.Cond.and given_1 narrow_1) ∧ ∀ j : Nat, j < 4 → Cond.eq (.elem (.static q.1 q.2.1 "[I") (.int (Int32.ofNat j))) (.int (q.2.2 j)) ∈ flatC (Jvm.Cond.and given_1 narrow_1)
  | 0, _, rfl => ⟨by omega, (ltw1 222 (by decide +kernel)), (ltw1 1 (by decide +kernel)), by decide +kernel, by decide +kernel, fun j hj => by rcases (show j = 0 ∨ j = 1 ∨ j = 2 ∨ j = 3 by omega) with rfl | rfl | rfl | rfl <;> decide +kernel⟩
  | 1, _, rfl => ⟨by omega, (ltw1 237 (by decide +kernel)), (ltw1 1 (by decide +kernel)), by decide +kernel, by decide +kernel, fun j hj => by rcases (show j = 0 ∨ j = 1 ∨ j = 2 ∨ j = 3 by omega) with rfl | rfl | rfl | rfl <;> decide +kernel⟩
  | 2, _, rfl => ⟨by omega, (ltw2 206 (by decide +kernel)), (ltw1 0 (by decide +kernel)), by decide +kernel, by decide +kernel, fun j hj => by rcases (show j = 0 ∨ j = 1 ∨ j = 2 ∨ j = 3 by omega) with rfl | rfl | rfl | rfl <;> decide +kernel⟩
theorem arr_of {args : Array Value} {s : State} {ty : FieldType} (hty : ∀ C, ty ≠ .object C) (h : (Cond.arrayClass ty).before args s = true) : ∃ cA : ClassId, ArrOfT s cA ty ∧ va_RA s cA ty := by
  obtain ⟨cA, kA, comp, h1, h2, h3⟩ := Cond.arrayClass_spec h
  refine ⟨cA, fun n z => ⟨fun k h => (by cases h), kA, h2, comp, h3⟩, ?_⟩
  cases ty with
  | object C => exact absurd rfl (hty C)
  | _ => exact h1
theorem arr_ob {args : Array Value} {s : State} {C : String} (h : (Cond.arrayOver (.object C)).before args s = true) : ∃ cA : ClassId, ArrOfT s cA (.object C) ∧ va_RA s cA (.object C) := by
  obtain ⟨comp, cA, kA, h1, h2, h3, h4, h5⟩ := Cond.arrayOver_spec h
  exact ⟨cA, fun n z => ⟨fun k h => (by cases h), kA, h3, comp, h4⟩, kA, comp, h3, h4, h1, h5⟩
