/-! THE CONSTRUCTORS OF TRADE AND NAILRODS -/
theorem arrV_cong {cI : ClassId} {N : Nat} {f g : Nat → Value} (h : ∀ j, j < N → f j = g j) : arrV cI N f = arrV cI N g := by
  have e : (fun j : Fin N => f j.val) = (fun j : Fin N => g j.val) := funext fun j => h j.val j.isLt
  show ({ cls := cI, slots := Array.ofFn (n := N) fun j => f j.val, vm := .none } : Cell) = _
  rw [e]
  rfl
section VCell
variable {p : Program} {l : Launch} {e : Env} {R : Room} {s : State} {m : MethodId} {args : Array Value} {below : List Frame} {meth : Method} {c : Code} {P : L5} {D : va_G} {Q : State → Prop} {nL n : Nat} {f : Nat → va_E} {k z pc : Nat} {lv : List (Nat × Value)} {st : List Value} {x : Prop}
theorem c_cell (q0 : Nat) (hq0 : q0 < n) {cI : ClassId} {a1 a2 : vp_A} (hf : f q0 = .inl (cI, a1)) (he : vp_cell cI a1 = vp_cell cI a2) (kk : V p l e R s m args below meth c P D Q nL n x (va_up f q0 (.inl (cI, a2))) k z pc lv st) : V p l e R s m args below meth c P D Q nL n x f k z pc lv st := by
  intro H locs ls hP hz hS hl
  refine kk H locs ls ?_ hz hS hl
  have h9 : (wl P.1 n f)[q0]? = some (P.1 + q0, .inl (cI, a1)) := by rw [wl_get hq0, hf]
  rw [← wl_set hq0]
  refine hP.set (wl_D _ _ _) h9 ?_ (fun _ _ => rfl)
  show H[P.1 + q0]? = some (vp_cell _ _)
  rw [← he]
  exact hP q0 _ h9
end VCell
theorem bkN_ok : ∀ j, j < 14 → defaultValue (tyX1 j) = vp_V bkN j := by
  intro j hj
  rcases (show j = 0 ∨ j = 1 ∨ j = 2 ∨ j = 3 ∨ j = 4 ∨ j = 5 ∨ j = 6 ∨ j = 7 ∨ j = 8 ∨ j = 9 ∨ j = 10 ∨ j = 11 ∨ j = 12 ∨ j = 13 by omega) with rfl | rfl | rfl | rfl | rfl | rfl | rfl | rfl | rfl | rfl | rfl | rfl | rfl | rfl <;> rfl
theorem bkF_ok : ∀ j, j < 6 → defaultValue (tyX0 j) = vp_V bkF j := by
  intro j hj
  rcases (show j = 0 ∨ j = 1 ∨ j = 2 ∨ j = 3 ∨ j = 4 ∨ j = 5 by omega) with rfl | rfl | rfl | rfl | rfl | rfl <;> rfl
theorem bkT_ok : ∀ j, j < 4 → defaultValue (tyX2 j) = vp_V bkT j := by
  intro j hj
  rcases (show j = 0 ∨ j = 1 ∨ j = 2 ∨ j = 3 by omega) with rfl | rfl | rfl | rfl <;> rfl
theorem bkX_ok : ∀ j, j < 3 → defaultValue (tyX3 j) = vp_V bkX j := by
  intro j hj
  rcases (show j = 0 ∨ j = 1 ∨ j = 2 by omega) with rfl | rfl | rfl <;> rfl
/-- fresh: what the cells hold behind the constructors -/
def cwF0 (P : L5) (K : Nat → Int32) (A : Nat → Nat → Int32) (w : Int64) : Nat → va_E := cw P (fun _ => frN) (fun _ => frF) (fun _ _ => 0) K A w
def bT (t : Nat) : Nat := 1 + 43 * t
def tw (f g : Nat → va_E) (B : Nat) (ob nr fr : va_E) : Nat → va_E := fun a => if a < B then f a else if a = B then ob else if a = B + 1 then nr else if a = B + 38 then fr else g a
theorem tw_0 {f g : Nat → va_E} {B : Nat} {ob nr fr : va_E} : tw f g B ob nr fr B = ob := by
  unfold tw
  rw [if_neg (by omega), if_pos rfl]
theorem tw_1 {f g : Nat → va_E} {B : Nat} {ob nr fr : va_E} : tw f g B ob nr fr (B + 1) = nr := by
  unfold tw
  rw [if_neg (by omega), if_neg (by omega), if_pos rfl]
theorem tw_38 {f g : Nat → va_E} {B : Nat} {ob nr fr : va_E} : tw f g B ob nr fr (B + 38) = fr := by
  unfold tw
  rw [if_neg (by omega), if_neg (by omega), if_neg (by omega), if_pos rfl]
theorem tw_lo {f g : Nat → va_E} {B a : Nat} {ob nr fr : va_E} (h : a < B) : tw f g B ob nr fr a = f a := if_pos h
theorem tw_hi {f g : Nat → va_E} {B a : Nat} {ob nr fr : va_E} (h : B + 1 < a) (h2 : a ≠ B + 38) : tw f g B ob nr fr a = g a := by
  unfold tw
  rw [if_neg (by omega), if_neg (by omega), if_neg (by omega), if_neg h2]
def ob1 (P : L5) (B : Nat) : va_E := .inr (2, [.int 0, .int 0, .ref (P.1 + (B + 1)), .null])
def ob2 (P : L5) (B : Nat) : va_E := .inr (2, [.int 0, .int 0, .ref (P.1 + (B + 1)), .ref (P.1 + (B + 38))])
def nrI (P : L5) (t i : Nat) : va_E := .inl (P.2.2.1, 12, .inr (.inr (.inr (.inr (fun k => if k < i then some (rN P (12 * t + k)) else none)))))
def frI (P : L5) (t i : Nat) : va_E := .inl (P.2.2.2.1, 4, .inr (.inr (.inr (.inr (fun k => if k < i then some (rF P (4 * t + k)) else none)))))
theorem nA_t {t i : Nat} (ht : t < 2) (hi : i < 12) : nA (12 * t + i) = bT t + 2 + 3 * i := by
  unfold nA bT
  rcases (show t = 0 ∨ t = 1 by omega) with rfl | rfl
  · rw [if_pos (by omega)]
    omega
  · rw [if_neg (by omega), if_pos (by omega)]
    omega
theorem fA_t {t i : Nat} (ht : t < 2) (hi : i < 4) : fA (4 * t + i) = bT t + 39 + i := by
  unfold fA bT
  rcases (show t = 0 ∨ t = 1 by omega) with rfl | rfl
  · rw [if_pos (by omega)]
    omega
  · rw [if_neg (by omega)]
    omega
section Fresh
variable {P : L5} {K : Nat → Int32} {A : Nat → Nat → Int32} {w : Int64} {t i : Nat}
theorem cwF_N (ht : t < 2) (hi : i < 12) : cwF0 P K A w (bT t + 2 + 3 * i) = .inr (1, frNv P (bT t + 2 + 3 * i)) := by
  have h := (kdN (12 * t + i) (by omega)).1
  rw [show ik (3, 12 * t + i) = bT t + 2 + 3 * i from nA_t ht hi] at h
  unfold cwF0 cw
  rw [h]
  show (.inr (1, nF P (12 * t + i) frN) : va_E) = _
  unfold nF rL rB
  rw [nA_t ht hi]
  rfl
theorem cwF_L (ht : t < 2) (hi : i < 12) : cwF0 P K A w (bT t + 2 + 3 * i + 1) = z4 P := by
  have h := (kdL (12 * t + i) (by omega)).1
  rw [show ik (4, 12 * t + i) = bT t + 2 + 3 * i + 1 from by show nA _ + 1 = _; rw [nA_t ht hi]] at h
  unfold cwF0 cw
  rw [h]
  show (.inl (P.2.1, 4, .inl (fun i => if i < 4 then frN (12 + i) else 0)) : va_E) = _
  unfold z4
  congr 4
  funext q
  split
  · show upd (upd (fun _ => 0) 6 10) 7 5 (12 + q) = 0
    rw [upd_ge (by omega), upd_ge (by omega)]
  · rfl
theorem cwF_B (ht : t < 2) (hi : i < 12) : cwF0 P K A w (bT t + 2 + 3 * i + 2) = z4 P := by
  have h := (kdB (12 * t + i) (by omega)).1
  rw [show ik (5, 12 * t + i) = bT t + 2 + 3 * i + 2 from by show nA _ + 2 = _; rw [nA_t ht hi]] at h
  unfold cwF0 cw
  rw [h]
  show (.inl (P.2.1, 4, .inl (fun i => if i < 4 then frN (16 + i) else 0)) : va_E) = _
  unfold z4
  congr 4
  funext q
  split
  · show upd (upd (fun _ => 0) 6 10) 7 5 (16 + q) = 0
    rw [upd_ge (by omega), upd_ge (by omega)]
  · rfl
theorem cwF_F (ht : t < 2) (hi : i < 4) : cwF0 P K A w (bT t + 39 + i) = .inr (0, frFv) := by
  have h := (kdF (4 * t + i) (by omega)).1
  rw [show ik (7, 4 * t + i) = bT t + 39 + i from fA_t ht hi] at h
  unfold cwF0 cw
  rw [h]
  rfl
theorem cwF_T (ht : t < 2) : cwF0 P K A w (bT t) = ob2 P (bT t) := by
  rcases (show t = 0 ∨ t = 1 by omega) with rfl | rfl <;> rfl
theorem cwF_NA (ht : t < 2) : cwF0 P K A w (bT t + 1) = .inl (P.2.2.1, 12, .inr (.inr (.inr (.inr (fun k => some (rN P (12 * t + k))))))) := by
  rcases (show t = 0 ∨ t = 1 by omega) with rfl | rfl <;> rfl
theorem cwF_FA (ht : t < 2) : cwF0 P K A w (bT t + 38) = .inl (P.2.2.2.1, 4, .inr (.inr (.inr (.inr (fun k => some (rF P (4 * t + k))))))) := by
  rcases (show t = 0 ∨ t = 1 by omega) with rfl | rfl <;> rfl
end Fresh
