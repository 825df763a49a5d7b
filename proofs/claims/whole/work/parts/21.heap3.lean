/-! THE MODEL'S ROWS OF NUMBERS -/
def upR (f : Nat → Int32) (a n : Nat) (v : Nat → Int32) : Nat → Int32 := fun t => if a ≤ t ∧ t < a + n then v (t - a) else f t
def rowO (f : Nat → Int32) (a : Nat) : Nat → Int32 := fun j => if j < 20 then f (a + j) else 0
theorem upR_at {f v : Nat → Int32} {a n j : Nat} (h : j < n) : upR f a n v (a + j) = v j := by
  unfold upR
  rw [if_pos (by omega), Nat.add_sub_cancel_left]
theorem upR_off {f v : Nat → Int32} {a n t : Nat} (h : ¬ (a ≤ t ∧ t < a + n)) : upR f a n v t = f t := if_neg h
theorem upR_set {f v : Nat → Int32} {a n j : Nat} {x : Int32} (h : j < n) : upd (upR f a n v) (a + j) x = upR f a n (upd v j x) := by
  funext t
  by_cases ht : t = a + j
  · subst ht
    rw [upR_at h]
    simp [upd]
  · rw [upd_ge ht]
    unfold upR
    split
    · rename_i hr
      rw [upd_ge (by omega)]
    · rfl
theorem upR_eta (f : Nat → Int32) (a n : Nat) (hn : n ≤ 20) : upR f a n (rowO f a) = f := by
  funext t
  unfold upR rowO
  split
  · rename_i h
    rw [if_pos (by omega)]
    congr 1
    omega
  · rfl
theorem upR_two (f v u : Nat → Int32) (a n : Nat) : upR (upR f a n v) a n u = upR f a n u := by
  funext t
  unfold upR
  split
  · rfl
  · rfl
theorem va_up_two {α : Type} (f : Nat → α) (k : Nat) (a b : α) : va_up (va_up f k a) k b = va_up f k b := by
  funext i
  by_cases h : i = k
  · rw [h, va_up_self, va_up_self]
  · rw [va_up_ne _ _ h, va_up_ne _ _ h, va_up_ne _ _ h]
theorem va_up_swap {α : Type} (f : Nat → α) {k j : Nat} (a b : α) (h : k ≠ j) : va_up (va_up f k a) j b = va_up (va_up f j b) k a := by
  funext i
  by_cases h1 : i = k
  · rw [h1, va_up_ne _ _ h, va_up_self, va_up_self]
  · by_cases h2 : i = j
    · rw [h2, va_up_self, va_up_ne _ _ (Ne.symm h), va_up_self]
    · rw [va_up_ne _ _ h2, va_up_ne _ _ h1, va_up_ne _ _ h1, va_up_ne _ _ h2]
/-- one number of one of the model's arrays is set -/
def sA (A : Nat → Nat → Int32) (b t : Nat) (x : Int32) : Nat → Nat → Int32 := va_up A b (upd (A b) t x)
/-- a nailer's row within array b -/
def R1 (A : Nat → Nat → Int32) (b : Nat) (f : Nat → Int32) (a : Nat) (v : Nat → Int32) : Nat → Nat → Int32 := va_up A b (upR f a 20 v)
theorem r1_get {A : Nat → Nat → Int32} {b a : Nat} {f v : Nat → Int32} {j : Nat} (h : j < 20) : R1 A b f a v b (a + j) = v j := by
  unfold R1
  rw [va_up_self, upR_at h]
theorem r1_set {A : Nat → Nat → Int32} {b a : Nat} {f v : Nat → Int32} {j : Nat} {x : Int32} (h : j < 20) : sA (R1 A b f a v) b (a + j) x = R1 A b f a (upd v j x) := by
  unfold sA R1
  rw [va_up_self, va_up_two, upR_set h]
/-- a nailer's row, a fogger's row, the worths -/
def R3 (A : Nat → Nat → Int32) (b : Nat) (f : Nat → Int32) (a : Nat) (v : Nat → Int32) (b2 : Nat) (f2 : Nat → Int32) (a2 : Nat) (g wv : Nat → Int32) : Nat → Nat → Int32 := va_up (va_up (va_up A b (upR f a 20 v)) b2 (upR f2 a2 5 g)) 4 wv
section R3rows
variable {A : Nat → Nat → Int32} {b a b2 a2 : Nat} {f v f2 g wv : Nat → Int32}
theorem r3_getN (h1 : b ≠ 4) (h2 : b ≠ b2) {j : Nat} (h : j < 20) : R3 A b f a v b2 f2 a2 g wv b (a + j) = v j := by
  unfold R3
  rw [va_up_ne _ _ h1, va_up_ne _ _ h2, va_up_self, upR_at h]
theorem r3_getF (h1 : b2 ≠ 4) {j : Nat} (h : j < 5) : R3 A b f a v b2 f2 a2 g wv b2 (a2 + j) = g j := by
  unfold R3
  rw [va_up_ne _ _ h1, va_up_self, upR_at h]
theorem r3_getW {j : Nat} : R3 A b f a v b2 f2 a2 g wv 4 j = wv j := by
  unfold R3
  rw [va_up_self]
theorem r3_setN (h1 : b ≠ 4) (h2 : b ≠ b2) {j : Nat} {x : Int32} (h : j < 20) : sA (R3 A b f a v b2 f2 a2 g wv) b (a + j) x = R3 A b f a (upd v j x) b2 f2 a2 g wv := by
  unfold sA R3
  rw [va_up_ne _ _ h1, va_up_ne _ _ h2, va_up_self, upR_set h, va_up_swap _ _ _ (Ne.symm h1), va_up_swap _ _ _ (Ne.symm h2), va_up_two]
theorem r3_setF (h1 : b2 ≠ 4) {j : Nat} {x : Int32} (h : j < 5) : sA (R3 A b f a v b2 f2 a2 g wv) b2 (a2 + j) x = R3 A b f a v b2 f2 a2 (upd g j x) wv := by
  unfold sA R3
  rw [va_up_ne _ _ h1, va_up_self, upR_set h, va_up_swap _ _ _ (Ne.symm h1), va_up_two]
theorem r3_setW {j : Nat} {x : Int32} : sA (R3 A b f a v b2 f2 a2 g wv) 4 j x = R3 A b f a v b2 f2 a2 g (upd wv j x) := by
  unfold sA R3
  rw [va_up_self, va_up_two]
end R3rows
theorem ixA {x y : Int32} {a b : Nat} (h : x = nI a) (h2 : y = nI b) : x + y = nI (a + b) := by rw [h, h2, nI_add]
theorem ixB {x y : Int32} {a m k : Nat} (h : x = nI (a + m)) (h2 : y = nI k) : x + y = nI (a + (m + k)) := by rw [h, h2, nI_add, Nat.add_assoc]
theorem ixM {x y : Int32} {a b : Nat} (h : x = nI a) (h2 : y = nI b) : x * y = nI (a * b) := by rw [h, h2]; exact (Int32.ofNat_mul a b).symm
theorem isThT {p m : Int32} {c : Nat} (hc : m = nI c) (h12 : c ≤ 12) (h : ¬ p < 0) (h2 : p < m) : ¬ m - 1 < p := by
  obtain ⟨j, hj, rfl⟩ := nI_of h
  rw [hc, nI_ltI hj (by omega)] at h2
  rw [hc]
  cases c with
  | zero => omega
  | succ c =>
    rw [nI_pred]
    rw [nI_ltI (by omega) hj]
    omega
theorem isThF {p m : Int32} {c : Nat} (hc : m = nI c) (h12 : c ≤ 12) (h : ¬ p < m) : m - 1 < p := by
  rw [hc] at h ⊢
  cases c with
  | zero =>
    rw [Int32.lt_iff_toInt_lt] at h ⊢
    rw [show (nI 0).toInt = 0 from rfl] at h
    rw [show (nI 0 - 1 : Int32).toInt = -1 from rfl]
    omega
  | succ c =>
    rw [nI_pred]
    rw [Int32.lt_iff_toInt_lt] at h ⊢
    rw [nI_toInt (by omega)] at h ⊢
    omega
section VHeap4
variable {p : Program} {l : Launch} {e : Env} {R : Room} {s : State} {m : MethodId} {args : Array Value} {below : List Frame} {meth : Method} {c : Code} {P : L5} {D : va_G} {Q : State → Prop} {nL n : Nat} {x : Prop} {f : Nat → va_E} {k z pc : Nat} {lv : List (Nat × Value)} {st : List Value} {cc : ByteArray} {ret : Option FieldType} {own : String}
variable {N F T : Nat → Nat → Int32} {K : Nat → Int32} {A : Nat → Nat → Int32} {w : Int64}
theorem v_topE {a b : Int32} (h : a = b) (kk : V p l e R s m args below meth c P D Q nL n x f k z pc lv (.int b :: st)) : V p l e R s m args below meth c P D Q nL n x f k z pc lv (.int a :: st) := by rw [h]; exact kk
theorem v_ldAk (C : Cx p l s m args meth c P D cc nL ret own) {b : Nat} (t : Nat) (hb : b < 5) {i a : Int32} (hi : i = nI t) (ht : t < lenA b) (hv : A b t = a) (hdg : decode cc pc = .ok (.iaload, 1)) (kk : V p l e R s m args below meth c P D Q nL 97 False (cw P N F T K A w) k z (pc + 1) lv (.int a :: st)) : V p l e R s m args below meth c P D Q nL 97 False (cw P N F T K A w) k z pc lv (.int i :: .ref (rA P b) :: st) := by
  subst hi
  have h240 : lenA b ≤ 240 := by
    match b, hb with
    | 0, _ => exact Nat.le_refl _
    | 1, _ => exact Nat.le_of_ble_eq_true rfl
    | 2, _ => exact Nat.le_refl _
    | 3, _ => exact Nat.le_of_ble_eq_true rfl
    | 4, _ => exact Nat.le_of_ble_eq_true rfl
  exact v_ldA C hb (vp_in_nI ht (by omega)) (by rw [nI_clamp (by omega)]; exact hv) hdg kk
theorem v_stAk (C : Cx p l s m args meth c P D cc nL ret own) {b : Nat} (t : Nat) (hb : b < 5) {i a : Int32} (hi : i = nI t) (ht : t < lenA b) {A' : Nat → Nat → Int32} (hA : sA A b t a = A') (hdg : decode cc pc = .ok (.iastore, 1)) (kk : V p l e R s m args below meth c P D Q nL 97 False (cw P N F T K A' w) k z (pc + 1) lv st) : V p l e R s m args below meth c P D Q nL 97 False (cw P N F T K A w) k z pc lv (.int a :: .int i :: .ref (rA P b) :: st) := by
  subst hi
  have h240 : lenA b ≤ 240 := by
    match b, hb with
    | 0, _ => exact Nat.le_refl _
    | 1, _ => exact Nat.le_of_ble_eq_true rfl
    | 2, _ => exact Nat.le_refl _
    | 3, _ => exact Nat.le_of_ble_eq_true rfl
    | 4, _ => exact Nat.le_of_ble_eq_true rfl
  exact v_stA C hb (vp_in_nI ht (by omega)) (by rw [nI_clamp (by omega)]; exact hA) hdg kk
end VHeap4
