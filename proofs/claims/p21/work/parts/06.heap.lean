/-! ROWS THAT READ AND WRITE CELLS -/
section VHeap
variable {p : Program} {l : Launch} {e : Env} {R : Room} {s : State} {m : MethodId} {args : Array Value} {below : List Frame} {meth : Method} {c : Code} {P : L5} {D : va_G} {Q : State → Prop} {nL n : Nat} {x : Prop} {f : Nat → va_E} {k z pc : Nat} {lv : List (Nat × Value)} {st : List Value} {cc : ByteArray} {ret : Option FieldType} {own : String}
variable {N F T : Nat → Nat → Int32} {K : Nat → Int32} {A : Nat → Nat → Int32} {w : Int64}
theorem v_get (C : Cx p l s m args meth c P D cc nL ret own) (q : Nat × Nat) (hq : kd (ik q) = q ∧ ik q < 90) {ci : Nat} {r : vw_C} {fs : List Value} (hc : vwCl[ci]? = some r) (hfs : cK P N F T K A w q = .inr (ci, fs)) (hin : ∀ w ∈ u_ws r.1 r.2.1 r.2.2, w ∈ gtb) (kf : Nat) (hk : kf < r.2.2) {index : Nat} (hlink : Cond.fieldLink own index (r.2.1 kf).1 (r.2.1 kf).2.1 (r.2.1 kf).2.2.1 ∈ gtb) {u : Value} (hv : fs[kf]? = some u) (hdg : decode cc pc = .ok (.getfield index, 3)) (kk : V p l e R s m args below meth c P D Q nL (nW P) False (cw P N F T K A w) k z (pc + 3) lv (u :: st)) : V p l e R s m args below meth c P D Q nL (nW P) False (cw P N F T K A w) k z pc lv (.ref (P.1 + ik q) :: st) := by
  intro H locs ls hP hz hS hl
  obtain ⟨hx, hb, hml, hown, hts, hr, hlk, hK, ho, hST⟩ := C
  exact va_get hx hb hts hin hown hK hP (ik q) (by rw [cw_get q hq.1 hq.2, hfs]) hc kf hk (hts _ hlink) (fun _ h9 => h9) hv hdg (kk H locs ls hP hz hS hl)
theorem v_put (C : Cx p l s m args meth c P D cc nL ret own) {N' F' T' : Nat → Nat → Int32} {K' : Nat → Int32} (q : Nat × Nat) (hq : kd (ik q) = q ∧ ik q < 90) {ci : Nat} {r : vw_C} {fs : List Value} (hc : vwCl[ci]? = some r) (hfs : cK P N F T K A w q = .inr (ci, fs)) (hin : ∀ w ∈ u_ws r.1 r.2.1 r.2.2, w ∈ gtb) (ty0 : Nat → FieldType) (hty : ∀ k, k < r.2.2 → parseFieldDescriptor (r.2.1 k).2.2.1 = some (ty0 k)) (hnm : ∀ a, a < r.2.2 → ∀ b, b < r.2.2 → a ≠ b → (r.2.1 a).2.1 ≠ (r.2.1 b).2.1) (kf : Nat) (hk : kf < r.2.2) (hti : ty0 kf = .int) (hfin : (r.2.1 kf).2.2.2 = false) (hlen : kf < fs.length) {index : Nat} (hlink : Cond.fieldLink own index (r.2.1 kf).1 (r.2.1 kf).2.1 (r.2.1 kf).2.2.1 ∈ gtb) {a : Int32} (hdg : decode cc pc = .ok (.putfield index, 3)) (he : cK P N' F' T' K' A w q = .inr (ci, fs.set kf (.int a))) (ho9 : ∀ q', q' ≠ q → (∃ a, a < 91 ∧ kd a = q') → cK P N' F' T' K' A w q' = cK P N F T K A w q') (kk : V p l e R s m args below meth c P D Q nL (nW P) False (cw P N' F' T' K' A w) k z (pc + 3) lv st) : V p l e R s m args below meth c P D Q nL (nW P) False (cw P N F T K A w) k z pc lv (.int a :: .ref (P.1 + ik q) :: st) := by
  intro H locs ls hP hz hS hl
  obtain ⟨hx, hb, hml, hown, hts, hr, hlk, hK, ho, hST⟩ := C
  refine va_put (ty := .int) hx hb hts hin ty0 hty hnm hown hK hP (wl_D _ _ _) hS (ik q) (by rw [cw_get q hq.1 hq.2, hfs]) hc kf hk (hts _ hlink) (fun _ h9 => h9) hfin (by rw [hty kf hk, hti]) (vp_nar_int a) rfl hlen hdg (fun H1 locs1 hP1 _ hS1 => ?_)
  rw [cw_set (P := P) (N := N) (F := F) (T := T) (K := K) (A := A) (w := w) (N' := N') (F' := F') (T' := T') (K' := K') (A' := A) (w' := w) q hq.1 hq.2 he ho9] at hP1
  exact kk H1 locs1 ls hP1 (fun h9 => h9.elim) hS1 hl
theorem v_getN (C : Cx p l s m args meth c P D cc nL ret own) (q : Nat × Nat) (hq : kd (ik q) = q ∧ ik q < 90) {ci : Nat} {r : vw_C} {fs : List Value} (hc : vwCl[ci]? = some r) (hfs : cK P N F T K A w q = .inr (ci, fs)) (hin : ∀ w ∈ u_ws r.1 r.2.1 r.2.2, w ∈ gtb) (kf : Nat) (hk : kf < r.2.2) {index : Nat} (hlink : (own, index, (r.2.1 kf).1, (r.2.1 kf).2.1, (r.2.1 kf).2.2.1) ∈ nwF) {u : Value} (hv : fs[kf]? = some u) (hdg : decode cc pc = .ok (.getfield index, 3)) (kk : V p l e R s m args below meth c P D Q nL (nW P) False (cw P N F T K A w) k z (pc + 3) lv (u :: st)) : V p l e R s m args below meth c P D Q nL (nW P) False (cw P N F T K A w) k z pc lv (.ref (P.1 + ik q) :: st) := by
  intro H locs ls hP hz hS hl
  obtain ⟨hx, hb, hml, hown, hts, hr, hlk, hK, ho, hST⟩ := C
  exact va_getN hx hb hts hin hown hK hP (ik q) (by rw [cw_get q hq.1 hq.2, hfs]) hc kf hk (va_Nw.use rfl (hST.2.2.2.1 _ hlink)) (fun _ h9 => h9) hv hdg (kk H locs ls hP hz hS hl)
theorem v_putN (C : Cx p l s m args meth c P D cc nL ret own) {N' F' T' : Nat → Nat → Int32} {K' : Nat → Int32} (q : Nat × Nat) (hq : kd (ik q) = q ∧ ik q < 90) {ci : Nat} {r : vw_C} {fs : List Value} (hc : vwCl[ci]? = some r) (hfs : cK P N F T K A w q = .inr (ci, fs)) (hin : ∀ w ∈ u_ws r.1 r.2.1 r.2.2, w ∈ gtb) (ty0 : Nat → FieldType) (hty : ∀ k, k < r.2.2 → parseFieldDescriptor (r.2.1 k).2.2.1 = some (ty0 k)) (hnm : ∀ a, a < r.2.2 → ∀ b, b < r.2.2 → a ≠ b → (r.2.1 a).2.1 ≠ (r.2.1 b).2.1) (kf : Nat) (hk : kf < r.2.2) (hti : ty0 kf = .int) (hfin : (r.2.1 kf).2.2.2 = false) (hlen : kf < fs.length) {index : Nat} (hlink : (own, index, (r.2.1 kf).1, (r.2.1 kf).2.1, (r.2.1 kf).2.2.1) ∈ nwF) {a : Int32} (hdg : decode cc pc = .ok (.putfield index, 3)) (he : cK P N' F' T' K' A w q = .inr (ci, fs.set kf (.int a))) (ho9 : ∀ q', q' ≠ q → (∃ a, a < 91 ∧ kd a = q') → cK P N' F' T' K' A w q' = cK P N F T K A w q') (kk : V p l e R s m args below meth c P D Q nL (nW P) False (cw P N' F' T' K' A w) k z (pc + 3) lv st) : V p l e R s m args below meth c P D Q nL (nW P) False (cw P N F T K A w) k z pc lv (.int a :: .ref (P.1 + ik q) :: st) := by
  intro H locs ls hP hz hS hl
  obtain ⟨hx, hb, hml, hown, hts, hr, hlk, hK, ho, hST⟩ := C
  refine va_putN (ty := .int) hx hb hts hin ty0 hty hnm hown hK hP (wl_D _ _ _) hS (ik q) (by rw [cw_get q hq.1 hq.2, hfs]) hc kf hk (va_Nw.use rfl (hST.2.2.2.1 _ hlink)) (fun _ h9 => h9) hfin (by rw [hty kf hk, hti]) (vp_nar_int a) rfl hlen hdg (fun H1 locs1 hP1 _ hS1 => ?_)
  rw [cw_set (P := P) (N := N) (F := F) (T := T) (K := K) (A := A) (w := w) (N' := N') (F' := F') (T' := T') (K' := K') (A' := A) (w' := w) q hq.1 hq.2 he ho9] at hP1
  exact kk H1 locs1 ls hP1 (fun h9 => h9.elim) hS1 hl
theorem v_ldG (C : Cx p l s m args meth c P D cc nL ret own) (q : Nat × Nat) (hq : kd (ik q) = q ∧ ik q < 90) {len : Nat} {g : Nat → Int32} (hg : cK P N F T K A w q = .inl (P.2.1, len, .inl g)) {i a : Int32} (hin : vp_in i len) (ha : g i.toNatClampNeg = a) (hdg : decode cc pc = .ok (.iaload, 1)) (kk : V p l e R s m args below meth c P D Q nL (nW P) False (cw P N F T K A w) k z (pc + 1) lv (.int a :: st)) : V p l e R s m args below meth c P D Q nL (nW P) False (cw P N F T K A w) k z pc lv (.int i :: .ref (P.1 + ik q) :: st) := by
  intro H locs ls hP hz hS hl
  obtain ⟨hx, hb, hml, hown, hts, hr, hlk, hK, ho, hST⟩ := C
  refine va_iald hx hb hK hP (ik q) 0 (by rw [cw_get q hq.1 hq.2, hg]) rfl hin hdg ?_
  rw [ha]
  exact kk H locs ls hP hz hS hl
theorem v_lenG (C : Cx p l s m args meth c P D cc nL ret own) (q : Nat × Nat) (hq : kd (ik q) = q ∧ ik q < 90) {len : Nat} {g : Nat → Int32} (hg : cK P N F T K A w q = .inl (P.2.1, len, .inl g)) {a : Int32} (ha : Int32.ofNat len = a) (hdg : decode cc pc = .ok (.arraylength, 1)) (kk : V p l e R s m args below meth c P D Q nL (nW P) False (cw P N F T K A w) k z (pc + 1) lv (.int a :: st)) : V p l e R s m args below meth c P D Q nL (nW P) False (cw P N F T K A w) k z pc lv (.ref (P.1 + ik q) :: st) := by
  intro H locs ls hP hz hS hl
  obtain ⟨hx, hb, hml, hown, hts, hr, hlk, hK, ho, hST⟩ := C
  exact va_alen hx hb hK hP (ik q) 0 (by rw [cw_get q hq.1 hq.2, hg]) rfl ha hdg (kk H locs ls hP hz hS hl)
theorem v_stG (C : Cx p l s m args meth c P D cc nL ret own) {N' : Nat → Nat → Int32} {A' : Nat → Nat → Int32} (q : Nat × Nat) (hq : kd (ik q) = q ∧ ik q < 90) {len : Nat} {g : Nat → Int32} (hg : cK P N F T K A w q = .inl (P.2.1, len, .inl g)) {i a : Int32} (hin : vp_in i len) (hdg : decode cc pc = .ok (.iastore, 1)) (he : cK P N' F T K A' w q = .inl (P.2.1, len, .inl (upd g i.toNatClampNeg a))) (ho9 : ∀ q', q' ≠ q → (∃ a, a < 91 ∧ kd a = q') → cK P N' F T K A' w q' = cK P N F T K A w q') (kk : V p l e R s m args below meth c P D Q nL (nW P) False (cw P N' F T K A' w) k z (pc + 1) lv st) : V p l e R s m args below meth c P D Q nL (nW P) False (cw P N F T K A w) k z pc lv (.int a :: .int i :: .ref (P.1 + ik q) :: st) := by
  intro H locs ls hP hz hS hl
  obtain ⟨hx, hb, hml, hown, hts, hr, hlk, hK, ho, hST⟩ := C
  refine va_iast hx hb hK hP (wl_D _ _ _) hS (ik q) 0 (by rw [cw_get q hq.1 hq.2, hg]) rfl hin hdg (fun H1 locs1 hP1 _ hS1 => ?_)
  rw [cw_set (P := P) (N := N) (F := F) (T := T) (K := K) (A := A) (w := w) (N' := N') (F' := F) (T' := T) (K' := K) (A' := A') (w' := w) q hq.1 hq.2 he ho9] at hP1
  exact kk H1 locs1 ls hP1 (fun h9 => h9.elim) hS1 hl
theorem v_aaN (C : Cx p l s m args meth c P D cc nL ret own) {t : Nat} (ht : t < 2) {i : Int32} (hin : vp_in i 12) (hdg : decode cc pc = .ok (.aaload, 1)) (kk : V p l e R s m args below meth c P D Q nL (nW P) False (cw P N F T K A w) k z (pc + 1) lv (.ref (rN P (12 * t + i.toNatClampNeg)) :: st)) : V p l e R s m args below meth c P D Q nL (nW P) False (cw P N F T K A w) k z pc lv (.int i :: .ref (rNA P t) :: st) := by
  intro H locs ls hP hz hS hl
  obtain ⟨hx, hb, hml, hown, hts, hr, hlk, hK, ho, hST⟩ := C
  exact va_aldq hx hb hK hP (ik (2, t)) 1 (cw_get (2, t) (kdNA t ht).1 (kdNA t ht).2) rfl hin hdg (kk H locs ls hP hz hS hl)
theorem v_aaF (C : Cx p l s m args meth c P D cc nL ret own) {t : Nat} (ht : t < 2) {i : Int32} (hin : vp_in i 4) (hdg : decode cc pc = .ok (.aaload, 1)) (kk : V p l e R s m args below meth c P D Q nL (nW P) False (cw P N F T K A w) k z (pc + 1) lv (.ref (rF P (4 * t + i.toNatClampNeg)) :: st)) : V p l e R s m args below meth c P D Q nL (nW P) False (cw P N F T K A w) k z pc lv (.int i :: .ref (rFA P t) :: st) := by
  intro H locs ls hP hz hS hl
  obtain ⟨hx, hb, hml, hown, hts, hr, hlk, hK, ho, hST⟩ := C
  exact va_aldq hx hb hK hP (ik (6, t)) 2 (cw_get (6, t) (kdFA t ht).1 (kdFA t ht).2) rfl hin hdg (kk H locs ls hP hz hS hl)
theorem v_gS (C : Cx p l s m args meth c P D cc nL ret own) (b : Nat) {q : String × String × (Nat → Int32)} (hq : stQ[b]? = some q) {index : Nat} (hlink : Cond.fieldLink own index q.1 q.2.1 "[I" ∈ gtb) (hdg : decode cc pc = .ok (.getstatic index, 3)) (kk : V p l e R s m args below meth c P D Q nL n x f k z (pc + 3) lv (.ref (rS P b) :: st)) : V p l e R s m args below meth c P D Q nL n x f k z pc lv st := by
  intro H locs ls hP hz hS hl
  obtain ⟨hx, hb, hml, hown, hts, hr, hlk, hK, ho, hST⟩ := C
  exact va_gets hx hb (hST.1 b q hq).1 hS hown (hts _ hlink) (fun _ h9 => h9) hdg (kk H locs ls hP hz hS hl)
theorem v_gSN (C : Cx p l s m args meth c P D cc nL ret own) (b : Nat) {q : String × String × (Nat → Int32)} (hq : stQ[b]? = some q) {index : Nat} (hlink : (own, index, q.1, q.2.1, "[I") ∈ nwF) (hdg : decode cc pc = .ok (.getstatic index, 3)) (kk : V p l e R s m args below meth c P D Q nL n x f k z (pc + 3) lv (.ref (rS P b) :: st)) : V p l e R s m args below meth c P D Q nL n x f k z pc lv st := by
  intro H locs ls hP hz hS hl
  obtain ⟨hx, hb, hml, hown, hts, hr, hlk, hK, ho, hST⟩ := C
  exact va_getsN hx hb (hST.1 b q hq).1 hS hown (va_Nw.use rfl (hST.2.2.2.1 _ hlink)) (fun _ h9 => h9) hdg (kk H locs ls hP hz hS hl)
theorem v_ldS (C : Cx p l s m args meth c P D cc nL ret own) (b : Nat) {q : String × String × (Nat → Int32)} (hq : stQ[b]? = some q) {i : Int32} (hin : vp_in i 4) (hdg : decode cc pc = .ok (.iaload, 1)) (kk : V p l e R s m args below meth c P D Q nL n x f k z (pc + 1) lv (.int (q.2.2 i.toNatClampNeg) :: st)) : V p l e R s m args below meth c P D Q nL n x f k z pc lv (.int i :: .ref (rS P b) :: st) := by
  intro H locs ls hP hz hS hl
  obtain ⟨hx, hb, hml, hown, hts, hr, hlk, hK, ho, hST⟩ := C
  exact va_ti hx hb (hST.1 b q hq).2 hS hin rfl hdg (kk H locs ls hP hz hS hl)
theorem cK_frN {N1 N2 : Nat → Nat → Int32} {j : Nat} (h : ∀ i, i ≠ j → N1 i = N2 i) {q' : Nat × Nat} (h3 : q' ≠ (3, j) ∨ ∀ t, t < 12 → N1 j t = N2 j t) (h4 : q' ≠ (4, j) ∨ ∀ t, t < 4 → N1 j (12 + t) = N2 j (12 + t)) (h5 : q' ≠ (5, j) ∨ ∀ t, t < 4 → N1 j (16 + t) = N2 j (16 + t)) : cK P N1 F T K A w q' = cK P N2 F T K A w q' := by
  obtain ⟨κ, i⟩ := q'
  by_cases hi : i = j
  · subst hi
    match κ with
    | 0 => rfl
    | 1 => rfl
    | 2 => rfl
    | 3 =>
      have g := h3.resolve_left (fun z => z rfl)
      simp only [cK, g 0 (by omega), g 1 (by omega), g 2 (by omega), g 3 (by omega), g 4 (by omega), g 5 (by omega), g 6 (by omega), g 7 (by omega), g 8 (by omega), g 9 (by omega), g 10 (by omega), g 11 (by omega)]
    | 4 =>
      have g := h4.resolve_left (fun z => z rfl)
      have e : (fun t => if t < 4 then N1 i (12 + t) else 0) = (fun t => if t < 4 then N2 i (12 + t) else 0) := by
        funext t
        by_cases ht : t < 4
        · rw [if_pos ht, if_pos ht, g t ht]
        · rw [if_neg ht, if_neg ht]
      simp only [cK, e]
    | 5 =>
      have g := h5.resolve_left (fun z => z rfl)
      have e : (fun t => if t < 4 then N1 i (16 + t) else 0) = (fun t => if t < 4 then N2 i (16 + t) else 0) := by
        funext t
        by_cases ht : t < 4
        · rw [if_pos ht, if_pos ht, g t ht]
        · rw [if_neg ht, if_neg ht]
      simp only [cK, e]
    | 6 => rfl
    | 7 => rfl
    | 8 => rfl
    | 9 => rfl
    | κ + 10 => rfl
  · have e := h i hi
    match κ with
    | 0 => rfl
    | 1 => rfl
    | 2 => rfl
    | 3 => simp only [cK, e]
    | 4 => simp only [cK, e]
    | 5 => simp only [cK, e]
    | 6 => rfl
    | 7 => rfl
    | 8 => rfl
    | 9 => rfl
    | κ + 10 => rfl
theorem cK_frF {F1 F2 : Nat → Nat → Int32} {j : Nat} (h : ∀ i, i ≠ j → F1 i = F2 i) {q' : Nat × Nat} (h3 : q' ≠ (7, j)) : cK P N F1 T K A w q' = cK P N F2 T K A w q' := by
  obtain ⟨κ, i⟩ := q'
  match κ with
  | 0 => rfl
  | 1 => rfl
  | 2 => rfl
  | 3 => rfl
  | 4 => rfl
  | 5 => rfl
  | 6 => rfl
  | 7 =>
    have e := h i (fun z => h3 (by rw [z]))
    simp only [cK, e]
  | 8 => rfl
  | 9 => rfl
  | κ + 10 => rfl
theorem cK_frT {T1 T2 : Nat → Nat → Int32} {j : Nat} (h : ∀ i, i ≠ j → T1 i = T2 i) {q' : Nat × Nat} (h3 : q' ≠ (1, j)) : cK P N F T1 K A w q' = cK P N F T2 K A w q' := by
  obtain ⟨κ, i⟩ := q'
  match κ with
  | 0 => rfl
  | 1 =>
    have e := h i (fun z => h3 (by rw [z]))
    simp only [cK, e]
  | 2 => rfl
  | 3 => rfl
  | 4 => rfl
  | 5 => rfl
  | 6 => rfl
  | 7 => rfl
  | 8 => rfl
  | 9 => rfl
  | κ + 10 => rfl
theorem cK_frA {A1 A2 : Nat → Nat → Int32} {j : Nat} (h : ∀ i, i ≠ j → A1 i = A2 i) {q' : Nat × Nat} (h3 : q' ≠ (9, j)) : cK P N F T K A1 w q' = cK P N F T K A2 w q' := by
  obtain ⟨κ, i⟩ := q'
  match κ with
  | 0 => rfl
  | 1 => rfl
  | 2 => rfl
  | 3 => rfl
  | 4 => rfl
  | 5 => rfl
  | 6 => rfl
  | 7 => rfl
  | 8 => rfl
  | 9 =>
    have e := h i (fun z => h3 (by rw [z]))
    simp only [cK, e]
  | κ + 10 => rfl
theorem cK_frK {K1 K2 : Nat → Int32} {q' : Nat × Nat} (h3 : q'.1 ≠ 8) : cK P N F T K1 A w q' = cK P N F T K2 A w q' := by
  obtain ⟨κ, i⟩ := q'
  match κ with
  | 0 => rfl
  | 1 => rfl
  | 2 => rfl
  | 3 => rfl
  | 4 => rfl
  | 5 => rfl
  | 6 => rfl
  | 7 => rfl
  | 8 => exact absurd rfl h3
  | 9 => rfl
  | κ + 10 => rfl
theorem up_off {α : Type} {f : Nat → α} {j : Nat} {a b : α} : ∀ i, i ≠ j → va_up f j a i = va_up f j b i := fun i hi => by rw [va_up_ne _ _ hi, va_up_ne _ _ hi]
/-- the fields of a nailer, of a fogger, of a trade, of the model, by their rows of numbers -/
def nF (P : L5) (j : Nat) (v : Nat → Int32) : List Value := [.int (v 0), .int (v 1), .int (v 2), .int (v 3), .int (v 4), .int (v 5), .int (v 6), .int (v 7), .int (v 8), .int (v 9), .int (v 10), .int (v 11), .ref (rL P j), .ref (rB P j)]
def fF (v : Nat → Int32) : List Value := [.int (v 0), .int (v 1), .int (v 2), .int (v 3), .int (v 4), .int (v 5)]
def tF (P : L5) (t : Nat) (v : Nat → Int32) : List Value := [.int (v 0), .int (v 1), .ref (rNA P t), .ref (rFA P t)]
def xF (P : L5) : List Value := [.ref (rT P 0), .ref (rT P 1), .ref (rN P 24)]
def mF (P : L5) (v : Nat → Int32) : List Value := [.int (v 0), .int (v 1), .int (v 2), .ref (rA P 0), .ref (rA P 1), .ref (rA P 2), .ref (rA P 3), .ref (rA P 4)]
theorem cK3 {j : Nat} {v : Nat → Int32} : cK P (va_up N j v) F T K A w (3, j) = .inr (1, nF P j v) := by
  simp only [cK, nF, va_up_self]
theorem cK4 {j : Nat} {v : Nat → Int32} : cK P (va_up N j v) F T K A w (4, j) = .inl (P.2.1, 4, .inl (fun i => if i < 4 then v (12 + i) else 0)) := by
  simp only [cK, va_up_self]
theorem cK5 {j : Nat} {v : Nat → Int32} : cK P (va_up N j v) F T K A w (5, j) = .inl (P.2.1, 4, .inl (fun i => if i < 4 then v (16 + i) else 0)) := by
  simp only [cK, va_up_self]
theorem cK7 {j : Nat} {v : Nat → Int32} : cK P N (va_up F j v) T K A w (7, j) = .inr (0, fF v) := by
  simp only [cK, fF, va_up_self]
theorem cK1 {j : Nat} {v : Nat → Int32} : cK P N F (va_up T j v) K A w (1, j) = .inr (2, tF P j v) := by
  simp only [cK, tF, va_up_self]
theorem nF_set {j : Nat} {v : Nat → Int32} {a : Int32} : ∀ kf, kf < 12 → nF P j (upd v kf a) = (nF P j v).set kf (.int a) := by
  intro kf hk
  rcases (show kf = 0 ∨ kf = 1 ∨ kf = 2 ∨ kf = 3 ∨ kf = 4 ∨ kf = 5 ∨ kf = 6 ∨ kf = 7 ∨ kf = 8 ∨ kf = 9 ∨ kf = 10 ∨ kf = 11 by omega) with rfl | rfl | rfl | rfl | rfl | rfl | rfl | rfl | rfl | rfl | rfl | rfl <;> rfl
theorem fF_set {v : Nat → Int32} {a : Int32} : ∀ kf, kf < 6 → fF (upd v kf a) = (fF v).set kf (.int a) := by
  intro kf hk
  rcases (show kf = 0 ∨ kf = 1 ∨ kf = 2 ∨ kf = 3 ∨ kf = 4 ∨ kf = 5 by omega) with rfl | rfl | rfl | rfl | rfl | rfl <;> rfl
theorem tF_set {t : Nat} {v : Nat → Int32} {a : Int32} : ∀ kf, kf < 2 → tF P t (upd v kf a) = (tF P t v).set kf (.int a) := by
  intro kf hk
  rcases (show kf = 0 ∨ kf = 1 by omega) with rfl | rfl <;> rfl
theorem upd_ge {v : Nat → Int32} {kf t : Nat} {a : Int32} (h : t ≠ kf) : upd v kf a t = v t := if_neg h
theorem tyN_int : ∀ kf, kf < 12 → tyX1 kf = .int ∧ (TX1 kf).2.2.2 = false := by decide +kernel
theorem tyF_int : ∀ kf, kf < 6 → tyX0 kf = .int ∧ (TX0 kf).2.2.2 = false := by decide +kernel
theorem tyT_int : ∀ kf, kf < 2 → tyX2 kf = .int ∧ (TX2 kf).2.2.2 = false := by decide +kernel
theorem v_gN (C : Cx p l s m args meth c P D cc nL ret own) {j : Nat} {v : Nat → Int32} (hj : j < 25) (kf : Nat) (hk : kf < 14) {index : Nat} (hlink : Cond.fieldLink own index (((RX1, TX1, 14)).2.1 kf).1 (((RX1, TX1, 14)).2.1 kf).2.1 (((RX1, TX1, 14)).2.1 kf).2.2.1 ∈ gtb) {u : Value} (hv : (nF P j v)[kf]? = some u) (hdg : decode cc pc = .ok (.getfield index, 3)) (kk : V p l e R s m args below meth c P D Q nL (nW P) False (cw P (va_up N j v) F T K A w) k z (pc + 3) lv (u :: st)) : V p l e R s m args below meth c P D Q nL (nW P) False (cw P (va_up N j v) F T K A w) k z pc lv (.ref (rN P j) :: st) := v_get C (3, j) (kdN j hj) (ci := 1) (r := (RX1, TX1, 14)) rfl cK3 inX1g kf hk hlink hv hdg kk
theorem v_gF (C : Cx p l s m args meth c P D cc nL ret own) {j : Nat} {v : Nat → Int32} (hj : j < 8) (kf : Nat) (hk : kf < 6) {index : Nat} (hlink : Cond.fieldLink own index (((RX0, TX0, 6)).2.1 kf).1 (((RX0, TX0, 6)).2.1 kf).2.1 (((RX0, TX0, 6)).2.1 kf).2.2.1 ∈ gtb) {u : Value} (hv : (fF v)[kf]? = some u) (hdg : decode cc pc = .ok (.getfield index, 3)) (kk : V p l e R s m args below meth c P D Q nL (nW P) False (cw P N (va_up F j v) T K A w) k z (pc + 3) lv (u :: st)) : V p l e R s m args below meth c P D Q nL (nW P) False (cw P N (va_up F j v) T K A w) k z pc lv (.ref (rF P j) :: st) := v_get C (7, j) (kdF j hj) (ci := 0) (r := (RX0, TX0, 6)) rfl cK7 inX0g kf hk hlink hv hdg kk
theorem v_gT (C : Cx p l s m args meth c P D cc nL ret own) {j : Nat} {v : Nat → Int32} (hj : j < 2) (kf : Nat) (hk : kf < 4) {index : Nat} (hlink : Cond.fieldLink own index (((RX2, TX2, 4)).2.1 kf).1 (((RX2, TX2, 4)).2.1 kf).2.1 (((RX2, TX2, 4)).2.1 kf).2.2.1 ∈ gtb) {u : Value} (hv : (tF P j v)[kf]? = some u) (hdg : decode cc pc = .ok (.getfield index, 3)) (kk : V p l e R s m args below meth c P D Q nL (nW P) False (cw P N F (va_up T j v) K A w) k z (pc + 3) lv (u :: st)) : V p l e R s m args below meth c P D Q nL (nW P) False (cw P N F (va_up T j v) K A w) k z pc lv (.ref (rT P j) :: st) := v_get C (1, j) (kdT j hj) (ci := 2) (r := (RX2, TX2, 4)) rfl cK1 inX2g kf hk hlink hv hdg kk
theorem v_gX (C : Cx p l s m args meth c P D cc nL ret own)  (kf : Nat) (hk : kf < 3) {index : Nat} (hlink : Cond.fieldLink own index (((RX3, TX3, 3)).2.1 kf).1 (((RX3, TX3, 3)).2.1 kf).2.1 (((RX3, TX3, 3)).2.1 kf).2.2.1 ∈ gtb) {u : Value} (hv : (xF P)[kf]? = some u) (hdg : decode cc pc = .ok (.getfield index, 3)) (kk : V p l e R s m args below meth c P D Q nL (nW P) False (cw P N F T K A w) k z (pc + 3) lv (u :: st)) : V p l e R s m args below meth c P D Q nL (nW P) False (cw P N F T K A w) k z pc lv (.ref (rX P) :: st) := v_get C (0, 0) kdX (ci := 3) (r := (RX3, TX3, 3)) rfl rfl inX3g kf hk hlink hv hdg kk
theorem v_pN (C : Cx p l s m args meth c P D cc nL ret own) {j : Nat} {v : Nat → Int32} (hj : j < 25) (kf : Nat) (hk : kf < 12) {index : Nat} (hlink : Cond.fieldLink own index (((RX1, TX1, 14)).2.1 kf).1 (((RX1, TX1, 14)).2.1 kf).2.1 (((RX1, TX1, 14)).2.1 kf).2.2.1 ∈ gtb) {a : Int32} (hdg : decode cc pc = .ok (.putfield index, 3)) (kk : V p l e R s m args below meth c P D Q nL (nW P) False (cw P (va_up N j (upd v kf a)) F T K A w) k z (pc + 3) lv st) : V p l e R s m args below meth c P D Q nL (nW P) False (cw P (va_up N j v) F T K A w) k z pc lv (.int a :: .ref (rN P j) :: st) := v_put C (3, j) (kdN j hj) (ci := 1) (r := (RX1, TX1, 14)) (fs := (nF P j v)) rfl cK3 inX1g tyX1 tyX1_ok nmX1 kf (show kf < 14 by omega) (tyN_int kf hk).1 (tyN_int kf hk).2 (show kf < 14 by omega) hlink hdg (cK3.trans (by rw [nF_set kf hk])) (fun q9 h9 _ => cK_frN up_off (Or.inl h9) (Or.inr fun t _ => by rw [va_up_self, va_up_self, upd_ge (by omega)]) (Or.inr fun t _ => by rw [va_up_self, va_up_self, upd_ge (by omega)])) kk
theorem v_pF (C : Cx p l s m args meth c P D cc nL ret own) {j : Nat} {v : Nat → Int32} (hj : j < 8) (kf : Nat) (hk : kf < 6) {index : Nat} (hlink : Cond.fieldLink own index (((RX0, TX0, 6)).2.1 kf).1 (((RX0, TX0, 6)).2.1 kf).2.1 (((RX0, TX0, 6)).2.1 kf).2.2.1 ∈ gtb) {a : Int32} (hdg : decode cc pc = .ok (.putfield index, 3)) (kk : V p l e R s m args below meth c P D Q nL (nW P) False (cw P N (va_up F j (upd v kf a)) T K A w) k z (pc + 3) lv st) : V p l e R s m args below meth c P D Q nL (nW P) False (cw P N (va_up F j v) T K A w) k z pc lv (.int a :: .ref (rF P j) :: st) := v_put C (7, j) (kdF j hj) (ci := 0) (r := (RX0, TX0, 6)) (fs := (fF v)) rfl cK7 inX0g tyX0 tyX0_ok nmX0 kf (show kf < 6 by omega) (tyF_int kf hk).1 (tyF_int kf hk).2 (show kf < 6 by omega) hlink hdg (cK7.trans (by rw [fF_set kf hk])) (fun q9 h9 _ => cK_frF up_off h9) kk
theorem v_pT (C : Cx p l s m args meth c P D cc nL ret own) {j : Nat} {v : Nat → Int32} (hj : j < 2) (kf : Nat) (hk : kf < 2) {index : Nat} (hlink : Cond.fieldLink own index (((RX2, TX2, 4)).2.1 kf).1 (((RX2, TX2, 4)).2.1 kf).2.1 (((RX2, TX2, 4)).2.1 kf).2.2.1 ∈ gtb) {a : Int32} (hdg : decode cc pc = .ok (.putfield index, 3)) (kk : V p l e R s m args below meth c P D Q nL (nW P) False (cw P N F (va_up T j (upd v kf a)) K A w) k z (pc + 3) lv st) : V p l e R s m args below meth c P D Q nL (nW P) False (cw P N F (va_up T j v) K A w) k z pc lv (.int a :: .ref (rT P j) :: st) := v_put C (1, j) (kdT j hj) (ci := 2) (r := (RX2, TX2, 4)) (fs := (tF P j v)) rfl cK1 inX2g tyX2 tyX2_ok nmX2 kf (show kf < 4 by omega) (tyT_int kf hk).1 (tyT_int kf hk).2 (show kf < 4 by omega) hlink hdg (cK1.trans (by rw [tF_set kf hk])) (fun q9 h9 _ => cK_frT up_off h9) kk
theorem v_gNN (C : Cx p l s m args meth c P D cc nL ret own) {j : Nat} {v : Nat → Int32} (hj : j < 25) (kf : Nat) (hk : kf < 14) {index : Nat} (hlink : (own, index, (((RX1, TX1, 14)).2.1 kf).1, (((RX1, TX1, 14)).2.1 kf).2.1, (((RX1, TX1, 14)).2.1 kf).2.2.1) ∈ nwF) {u : Value} (hv : (nF P j v)[kf]? = some u) (hdg : decode cc pc = .ok (.getfield index, 3)) (kk : V p l e R s m args below meth c P D Q nL (nW P) False (cw P (va_up N j v) F T K A w) k z (pc + 3) lv (u :: st)) : V p l e R s m args below meth c P D Q nL (nW P) False (cw P (va_up N j v) F T K A w) k z pc lv (.ref (rN P j) :: st) := v_getN C (3, j) (kdN j hj) (ci := 1) (r := (RX1, TX1, 14)) rfl cK3 inX1g kf hk hlink hv hdg kk
theorem v_gFN (C : Cx p l s m args meth c P D cc nL ret own) {j : Nat} {v : Nat → Int32} (hj : j < 8) (kf : Nat) (hk : kf < 6) {index : Nat} (hlink : (own, index, (((RX0, TX0, 6)).2.1 kf).1, (((RX0, TX0, 6)).2.1 kf).2.1, (((RX0, TX0, 6)).2.1 kf).2.2.1) ∈ nwF) {u : Value} (hv : (fF v)[kf]? = some u) (hdg : decode cc pc = .ok (.getfield index, 3)) (kk : V p l e R s m args below meth c P D Q nL (nW P) False (cw P N (va_up F j v) T K A w) k z (pc + 3) lv (u :: st)) : V p l e R s m args below meth c P D Q nL (nW P) False (cw P N (va_up F j v) T K A w) k z pc lv (.ref (rF P j) :: st) := v_getN C (7, j) (kdF j hj) (ci := 0) (r := (RX0, TX0, 6)) rfl cK7 inX0g kf hk hlink hv hdg kk
theorem v_gTN (C : Cx p l s m args meth c P D cc nL ret own) {j : Nat} {v : Nat → Int32} (hj : j < 2) (kf : Nat) (hk : kf < 4) {index : Nat} (hlink : (own, index, (((RX2, TX2, 4)).2.1 kf).1, (((RX2, TX2, 4)).2.1 kf).2.1, (((RX2, TX2, 4)).2.1 kf).2.2.1) ∈ nwF) {u : Value} (hv : (tF P j v)[kf]? = some u) (hdg : decode cc pc = .ok (.getfield index, 3)) (kk : V p l e R s m args below meth c P D Q nL (nW P) False (cw P N F (va_up T j v) K A w) k z (pc + 3) lv (u :: st)) : V p l e R s m args below meth c P D Q nL (nW P) False (cw P N F (va_up T j v) K A w) k z pc lv (.ref (rT P j) :: st) := v_getN C (1, j) (kdT j hj) (ci := 2) (r := (RX2, TX2, 4)) rfl cK1 inX2g kf hk hlink hv hdg kk
theorem v_gXN (C : Cx p l s m args meth c P D cc nL ret own)  (kf : Nat) (hk : kf < 3) {index : Nat} (hlink : (own, index, (((RX3, TX3, 3)).2.1 kf).1, (((RX3, TX3, 3)).2.1 kf).2.1, (((RX3, TX3, 3)).2.1 kf).2.2.1) ∈ nwF) {u : Value} (hv : (xF P)[kf]? = some u) (hdg : decode cc pc = .ok (.getfield index, 3)) (kk : V p l e R s m args below meth c P D Q nL (nW P) False (cw P N F T K A w) k z (pc + 3) lv (u :: st)) : V p l e R s m args below meth c P D Q nL (nW P) False (cw P N F T K A w) k z pc lv (.ref (rX P) :: st) := v_getN C (0, 0) kdX (ci := 3) (r := (RX3, TX3, 3)) rfl rfl inX3g kf hk hlink hv hdg kk
theorem v_pNN (C : Cx p l s m args meth c P D cc nL ret own) {j : Nat} {v : Nat → Int32} (hj : j < 25) (kf : Nat) (hk : kf < 12) {index : Nat} (hlink : (own, index, (((RX1, TX1, 14)).2.1 kf).1, (((RX1, TX1, 14)).2.1 kf).2.1, (((RX1, TX1, 14)).2.1 kf).2.2.1) ∈ nwF) {a : Int32} (hdg : decode cc pc = .ok (.putfield index, 3)) (kk : V p l e R s m args below meth c P D Q nL (nW P) False (cw P (va_up N j (upd v kf a)) F T K A w) k z (pc + 3) lv st) : V p l e R s m args below meth c P D Q nL (nW P) False (cw P (va_up N j v) F T K A w) k z pc lv (.int a :: .ref (rN P j) :: st) := v_putN C (3, j) (kdN j hj) (ci := 1) (r := (RX1, TX1, 14)) (fs := (nF P j v)) rfl cK3 inX1g tyX1 tyX1_ok nmX1 kf (show kf < 14 by omega) (tyN_int kf hk).1 (tyN_int kf hk).2 (show kf < 14 by omega) hlink hdg (cK3.trans (by rw [nF_set kf hk])) (fun q9 h9 _ => cK_frN up_off (Or.inl h9) (Or.inr fun t _ => by rw [va_up_self, va_up_self, upd_ge (by omega)]) (Or.inr fun t _ => by rw [va_up_self, va_up_self, upd_ge (by omega)])) kk
theorem v_pFN (C : Cx p l s m args meth c P D cc nL ret own) {j : Nat} {v : Nat → Int32} (hj : j < 8) (kf : Nat) (hk : kf < 6) {index : Nat} (hlink : (own, index, (((RX0, TX0, 6)).2.1 kf).1, (((RX0, TX0, 6)).2.1 kf).2.1, (((RX0, TX0, 6)).2.1 kf).2.2.1) ∈ nwF) {a : Int32} (hdg : decode cc pc = .ok (.putfield index, 3)) (kk : V p l e R s m args below meth c P D Q nL (nW P) False (cw P N (va_up F j (upd v kf a)) T K A w) k z (pc + 3) lv st) : V p l e R s m args below meth c P D Q nL (nW P) False (cw P N (va_up F j v) T K A w) k z pc lv (.int a :: .ref (rF P j) :: st) := v_putN C (7, j) (kdF j hj) (ci := 0) (r := (RX0, TX0, 6)) (fs := (fF v)) rfl cK7 inX0g tyX0 tyX0_ok nmX0 kf (show kf < 6 by omega) (tyF_int kf hk).1 (tyF_int kf hk).2 (show kf < 6 by omega) hlink hdg (cK7.trans (by rw [fF_set kf hk])) (fun q9 h9 _ => cK_frF up_off h9) kk
theorem v_pTN (C : Cx p l s m args meth c P D cc nL ret own) {j : Nat} {v : Nat → Int32} (hj : j < 2) (kf : Nat) (hk : kf < 2) {index : Nat} (hlink : (own, index, (((RX2, TX2, 4)).2.1 kf).1, (((RX2, TX2, 4)).2.1 kf).2.1, (((RX2, TX2, 4)).2.1 kf).2.2.1) ∈ nwF) {a : Int32} (hdg : decode cc pc = .ok (.putfield index, 3)) (kk : V p l e R s m args below meth c P D Q nL (nW P) False (cw P N F (va_up T j (upd v kf a)) K A w) k z (pc + 3) lv st) : V p l e R s m args below meth c P D Q nL (nW P) False (cw P N F (va_up T j v) K A w) k z pc lv (.int a :: .ref (rT P j) :: st) := v_putN C (1, j) (kdT j hj) (ci := 2) (r := (RX2, TX2, 4)) (fs := (tF P j v)) rfl cK1 inX2g tyX2 tyX2_ok nmX2 kf (show kf < 4 by omega) (tyT_int kf hk).1 (tyT_int kf hk).2 (show kf < 4 by omega) hlink hdg (cK1.trans (by rw [tF_set kf hk])) (fun q9 h9 _ => cK_frT up_off h9) kk
theorem v_ldL (C : Cx p l s m args meth c P D cc nL ret own) {j : Nat} {v : Nat → Int32} (hj : j < 25) {i : Int32} (hin : vp_in i 4) (hdg : decode cc pc = .ok (.iaload, 1)) (kk : V p l e R s m args below meth c P D Q nL (nW P) False (cw P (va_up N j v) F T K A w) k z (pc + 1) lv (.int (v (12 + i.toNatClampNeg)) :: st)) : V p l e R s m args below meth c P D Q nL (nW P) False (cw P (va_up N j v) F T K A w) k z pc lv (.int i :: .ref (rL P j) :: st) := v_ldG C (4, j) (kdL j hj) cK4 hin (if_pos (Nat.not_le.mp fun q => hin (Or.inr q))) hdg kk
theorem v_ldB (C : Cx p l s m args meth c P D cc nL ret own) {j : Nat} {v : Nat → Int32} (hj : j < 25) {i : Int32} (hin : vp_in i 4) (hdg : decode cc pc = .ok (.iaload, 1)) (kk : V p l e R s m args below meth c P D Q nL (nW P) False (cw P (va_up N j v) F T K A w) k z (pc + 1) lv (.int (v (16 + i.toNatClampNeg)) :: st)) : V p l e R s m args below meth c P D Q nL (nW P) False (cw P (va_up N j v) F T K A w) k z pc lv (.int i :: .ref (rB P j) :: st) := v_ldG C (5, j) (kdB j hj) cK5 hin (if_pos (Nat.not_le.mp fun q => hin (Or.inr q))) hdg kk
theorem upd_sh {v : Nat → Int32} {b t : Nat} {a : Int32} (ht : t < 4) : (fun i => if i < 4 then upd v (b + t) a (b + i) else 0) = upd (fun i => if i < 4 then v (b + i) else 0) t a := by
  funext i
  by_cases hi : i = t
  · subst hi
    simp [upd, ht]
  · by_cases h4 : i < 4
    · simp only [upd, h4, if_true, if_neg hi, if_neg (show ¬ b + i = b + t by omega)]
    · simp only [upd, h4, if_false, if_neg hi]
theorem v_stL (C : Cx p l s m args meth c P D cc nL ret own) {j : Nat} {v : Nat → Int32} (hj : j < 25) {i a : Int32} (hin : vp_in i 4) (hdg : decode cc pc = .ok (.iastore, 1)) (kk : V p l e R s m args below meth c P D Q nL (nW P) False (cw P (va_up N j (upd v (12 + i.toNatClampNeg) a)) F T K A w) k z (pc + 1) lv st) : V p l e R s m args below meth c P D Q nL (nW P) False (cw P (va_up N j v) F T K A w) k z pc lv (.int a :: .int i :: .ref (rL P j) :: st) := by
  have h4 : i.toNatClampNeg < 4 := Nat.not_le.mp fun q => hin (Or.inr q)
  exact v_stG C (4, j) (kdL j hj) cK4 hin hdg (cK4.trans (by rw [upd_sh h4])) (fun q9 h9 _ => cK_frN up_off (Or.inr fun t ht => by rw [va_up_self, va_up_self, upd_ge (by omega)]) (Or.inl h9) (Or.inr fun t _ => by rw [va_up_self, va_up_self, upd_ge (by omega)])) kk
theorem v_stB (C : Cx p l s m args meth c P D cc nL ret own) {j : Nat} {v : Nat → Int32} (hj : j < 25) {i a : Int32} (hin : vp_in i 4) (hdg : decode cc pc = .ok (.iastore, 1)) (kk : V p l e R s m args below meth c P D Q nL (nW P) False (cw P (va_up N j (upd v (16 + i.toNatClampNeg) a)) F T K A w) k z (pc + 1) lv st) : V p l e R s m args below meth c P D Q nL (nW P) False (cw P (va_up N j v) F T K A w) k z pc lv (.int a :: .int i :: .ref (rB P j) :: st) := by
  have h4 : i.toNatClampNeg < 4 := Nat.not_le.mp fun q => hin (Or.inr q)
  exact v_stG C (5, j) (kdB j hj) cK5 hin hdg (cK5.trans (by rw [upd_sh h4])) (fun q9 h9 _ => cK_frN up_off (Or.inr fun t ht => by rw [va_up_self, va_up_self, upd_ge (by omega)]) (Or.inr fun t _ => by rw [va_up_self, va_up_self, upd_ge (by omega)]) (Or.inl h9)) kk
end VHeap
