/-! THE LAYOUT. All cells lie side by side from o on: NailRods (0), its Trade (1) with its rows and 12 nailers of 3 cells and 4 foggers (2 .. 43), the foreseen Trade (44 .. 86), the trial nailer (87 .. 89), the law's row (90). -/
/-- o, and what arrays are: int rows, Nailer rows, Fogger rows; whether the law's row is there; where the static tables lie -/
abbrev L5 : Type := Nat × ClassId × ClassId × ClassId × Bool × (Nat → Nat)
/-- so many cells: 90 of the class, or one more, the law's row -/
def nB (b : Bool) : Nat := match b with
  | true => 91
  | false => 90
theorem nB_ge (b : Bool) : 90 ≤ nB b ∧ nB b ≤ 91 := by cases b <;> decide
def nW (P : L5) : Nat := nB P.2.2.2.2.1
theorem nW_ge (P : L5) : 90 ≤ nW P ∧ nW P ≤ 91 := nB_ge _
def tyP (P : L5) : List (ClassId × FieldType) := [(P.2.1, .int), (P.2.2.1, .object RX1), (P.2.2.2.1, .object RX0)]
def nA (j : Nat) : Nat := if j < 12 then 3 + 3 * j else if j < 24 then 10 + 3 * j else 87
def fA (j : Nat) : Nat := if j < 4 then 40 + j else 79 + j
def rX (P : L5) : Nat := P.1 + 0
def rT (P : L5) (t : Nat) : Nat := P.1 + (1 + 43 * t)
def rNA (P : L5) (t : Nat) : Nat := P.1 + (2 + 43 * t)
def rFA (P : L5) (t : Nat) : Nat := P.1 + (39 + 43 * t)
def rN (P : L5) (j : Nat) : Nat := P.1 + nA j
def rL (P : L5) (j : Nat) : Nat := P.1 + (nA j + 1)
def rB (P : L5) (j : Nat) : Nat := P.1 + (nA j + 2)
def rF (P : L5) (j : Nat) : Nat := P.1 + fA j
def rA (P : L5) (b : Nat) : Nat := P.1 + (90 + b)
def rS (P : L5) (b : Nat) : Nat := P.2.2.2.2.2 b
/-- the kind of a place, and which of its kind -/
def kd (a : Nat) : Nat × Nat :=
  if a = 0 then (0, 0) else if a = 1 then (1, 0) else if a = 2 then (2, 0) else if a < 39 then (3 + a % 3, (a - 3) / 3) else if a = 39 then (6, 0) else if a < 44 then (7, a - 40)
  else if a = 44 then (1, 1) else if a = 45 then (2, 1) else if a < 82 then (3 + (a - 46) % 3, 12 + (a - 46) / 3) else if a = 82 then (6, 1) else if a < 87 then (7, a - 79)
  else if a = 87 then (3, 24) else if a = 88 then (4, 24) else if a = 89 then (5, 24) else (9, 0)
def ik (q : Nat × Nat) : Nat := match q.1 with
  | 0 => 0 | 1 => 1 + 43 * q.2 | 2 => 2 + 43 * q.2 | 3 => nA q.2 | 4 => nA q.2 + 1 | 5 => nA q.2 + 2 | 6 => 39 + 43 * q.2 | 7 => fA q.2 | 8 => 96 | 9 => 90 + q.2 | _ => 96
theorem ik_kd : ∀ a, a < 91 → ik (kd a) = a := by decide +kernel
/-- what a cell holds: nailers' rows N (20 numbers each: 12 fields, 4 loose, 4 bags), foggers' rows F, trades' T, the model's numbers K and rows A, the law's w -/
def cK (P : L5) (N F T : Nat → Nat → Int32) (K : Nat → Int32) (A : Nat → Nat → Int32) (w : Int64) (q : Nat × Nat) : va_E := match q.1 with
  | 0 => .inr (3, [.ref (rT P 0), .ref (rT P 1), .ref (rN P 24)])
  | 1 => .inr (2, [.int (T q.2 0), .int (T q.2 1), .ref (rNA P q.2), .ref (rFA P q.2)])
  | 2 => .inl (P.2.2.1, 12, .inr (.inr (.inr (.inr (fun i => some (rN P (12 * q.2 + i)))))))
  | 3 => .inr (1, [.int (N q.2 0), .int (N q.2 1), .int (N q.2 2), .int (N q.2 3), .int (N q.2 4), .int (N q.2 5), .int (N q.2 6), .int (N q.2 7), .int (N q.2 8), .int (N q.2 9), .int (N q.2 10), .int (N q.2 11), .ref (rL P q.2), .ref (rB P q.2)])
  | 4 => .inl (P.2.1, 4, .inl (fun i => if i < 4 then N q.2 (12 + i) else 0))
  | 5 => .inl (P.2.1, 4, .inl (fun i => if i < 4 then N q.2 (16 + i) else 0))
  | 6 => .inl (P.2.2.2.1, 4, .inr (.inr (.inr (.inr (fun i => some (rF P (4 * q.2 + i)))))))
  | 7 => .inr (0, [.int (F q.2 0), .int (F q.2 1), .int (F q.2 2), .int (F q.2 3), .int (F q.2 4), .int (F q.2 5)])
  | 8 => .inl (P.2.1, 3, .inl (fun _ => 0))
  | 9 => .inl (P.2.1, 3, .inl (A q.2))
  | _ => .inl (P.2.1, 3, .inl (fun _ => 0))
def cw (P : L5) (N F T : Nat → Nat → Int32) (K : Nat → Int32) (A : Nat → Nat → Int32) (w : Int64) : Nat → va_E := fun a => cK P N F T K A w (kd a)
/-- n cells from o on -/
def wl (o n : Nat) (f : Nat → va_E) : va_W := (List.range n).map (fun a => (o + a, f a))
theorem wl_len {o n : Nat} {f : Nat → va_E} : (wl o n f).length = n := by simp [wl]
theorem wl_get {o n : Nat} {f : Nat → va_E} {a : Nat} (h : a < n) : (wl o n f)[a]? = some (o + a, f a) := by simp [wl, h]
theorem wl_of {o n : Nat} {f : Nat → va_E} {k : Nat} {q : Nat × va_E} (h : (wl o n f)[k]? = some q) : k < n ∧ q = (o + k, f k) := by
  have hk : k < n := by
    have := (List.getElem?_eq_some_iff.mp h).1
    rwa [wl_len] at this
  rw [wl_get hk] at h
  exact ⟨hk, (Option.some.inj h).symm⟩
theorem wl_cong {o n : Nat} {f g : Nat → va_E} (h : ∀ a, a < n → f a = g a) : wl o n f = wl o n g := by
  unfold wl
  apply List.map_congr_left
  intro a ha
  rw [h a (List.mem_range.mp ha)]
theorem wl_set {o n : Nat} {f : Nat → va_E} {a : Nat} {e : va_E} (h : a < n) : (wl o n f).set a (o + a, e) = wl o n (va_up f a e) := by
  apply List.ext_getElem?
  intro j
  by_cases hj : j = a
  · subst hj
    rw [List.getElem?_set_self (by rw [wl_len]; exact h), wl_get h, va_up_self]
  · rw [List.getElem?_set_ne (Ne.symm hj)]
    by_cases hl : j < n
    · rw [wl_get hl, wl_get hl, va_up_ne _ _ hj]
    · rw [List.getElem?_eq_none (by rw [wl_len]; omega), List.getElem?_eq_none (by rw [wl_len]; omega)]
theorem wl_push {o n : Nat} {f : Nat → va_E} {e : va_E} : wl o n f ++ [(o + n, e)] = wl o (n + 1) (va_up f n e) := by
  unfold wl
  rw [List.range_succ, List.map_append, List.map_cons, List.map_nil, va_up_self]
  congr 1
  apply List.map_congr_left
  intro a ha
  rw [va_up_ne _ _ (Nat.ne_of_lt (List.mem_range.mp ha))]
theorem wl_D (o n : Nat) (f : Nat → va_E) : va_D (fun q => o ≤ q) (wl o n f) := by
  refine ⟨fun i j p q hi hj h => ?_, fun k q hk => ?_⟩
  · obtain ⟨-, rfl⟩ := wl_of hi
    obtain ⟨-, rfl⟩ := wl_of hj
    exact Nat.add_left_cancel h
  · obtain ⟨-, rfl⟩ := wl_of hk
    exact Nat.le_add_right _ _
theorem wl_sub {D : va_G} {cl : List vw_C} {o n n' : Nat} {f : Nat → va_E} {H : Heap} (hn : n' ≤ n) (h : va_P D cl (wl o n f) H) : va_P D cl (wl o n' f) H := by
  intro k q hk
  obtain ⟨h1, rfl⟩ := wl_of hk
  exact h k _ (wl_get (Nat.lt_of_lt_of_le h1 hn))
theorem cw_get {P : L5} {N F T : Nat → Nat → Int32} {K : Nat → Int32} {A : Nat → Nat → Int32} {w : Int64} (q : Nat × Nat) (h : kd (ik q) = q) (h2 : ik q < 90) : (wl P.1 (nW P) (cw P N F T K A w))[ik q]? = some (P.1 + ik q, cK P N F T K A w q) := by
  rw [wl_get (Nat.lt_of_lt_of_le h2 (nW_ge P).1)]
  unfold cw
  rw [h]
theorem cw_set {P : L5} {N F T : Nat → Nat → Int32} {K : Nat → Int32} {A : Nat → Nat → Int32} {w : Int64} {N' F' T' : Nat → Nat → Int32} {K' : Nat → Int32} {A' : Nat → Nat → Int32} {w' : Int64} (q : Nat × Nat) (h : kd (ik q) = q) (h2 : ik q < 90) {e : va_E} (he : cK P N' F' T' K' A' w' q = e) (ho : ∀ q', q' ≠ q → (∃ a, a < 91 ∧ kd a = q') → cK P N' F' T' K' A' w' q' = cK P N F T K A w q') :
    (wl P.1 (nW P) (cw P N F T K A w)).set (ik q) (P.1 + ik q, e) = wl P.1 (nW P) (cw P N' F' T' K' A' w') := by
  rw [wl_set (Nat.lt_of_lt_of_le h2 (nW_ge P).1)]
  apply wl_cong
  intro a ha
  by_cases hq : a = ik q
  · subst hq
    rw [va_up_self]
    unfold cw
    rw [h, he]
  · rw [va_up_ne _ _ hq]
    unfold cw
    rw [ho (kd a) (fun z => hq (by rw [← z, ik_kd a (Nat.lt_of_lt_of_le ha (nW_ge P).2)])) ⟨a, Nat.lt_of_lt_of_le ha (nW_ge P).2, rfl⟩]
theorem kdN : ∀ j, j < 25 → kd (ik (3, j)) = (3, j) ∧ ik (3, j) < 90 := by decide +kernel
theorem kdL : ∀ j, j < 25 → kd (ik (4, j)) = (4, j) ∧ ik (4, j) < 90 := by decide +kernel
theorem kdB : ∀ j, j < 25 → kd (ik (5, j)) = (5, j) ∧ ik (5, j) < 90 := by decide +kernel
theorem kdF : ∀ j, j < 8 → kd (ik (7, j)) = (7, j) ∧ ik (7, j) < 90 := by decide +kernel
theorem kdT : ∀ j, j < 2 → kd (ik (1, j)) = (1, j) ∧ ik (1, j) < 90 := by decide +kernel
theorem kdNA : ∀ j, j < 2 → kd (ik (2, j)) = (2, j) ∧ ik (2, j) < 90 := by decide +kernel
theorem kdFA : ∀ j, j < 2 → kd (ik (6, j)) = (6, j) ∧ ik (6, j) < 90 := by decide +kernel
theorem kdA : kd (ik (9, 0)) = (9, 0) ∧ ik (9, 0) = 90 := by decide +kernel
theorem kdX : kd (ik (0, 0)) = (0, 0) ∧ ik (0, 0) < 90 := by decide +kernel
theorem va_up_eta {α : Type} (f : Nat → α) (k : Nat) : va_up f k (f k) = f := by
  funext j
  by_cases h : j = k
  · subst h; rw [va_up_self]
  · rw [va_up_ne _ _ h]
theorem va_up_up {α : Type} (f : Nat → α) (k : Nat) (a b : α) : va_up (va_up f k a) k b = va_up f k b := by
  funext j
  by_cases h : j = k
  · subst h; rw [va_up_self, va_up_self]
  · rw [va_up_ne _ _ h, va_up_ne _ _ h, va_up_ne _ _ h]
