/-! WHAT THE CLASS'S METHODS DO TO THE ROWS, in the code's own order -/
def imin (a b : Int32) : Int32 := if b < a then b else a
def imax (a b : Int32) : Int32 := if a < b then b else a
def kx (v : Nat → Int32) : Nat := (v 1).toNatClampNeg
theorem ozT_ne (k : Nat) : ¬ ozT k = 0 := by
  unfold ozT
  split
  · decide
  · split
    · decide
    · split <;> decide
def tend (v : Nat → Int32) : Nat → Int32 := if v 6 ≤ 0 then upd v 5 (imax (v 5 - 3) 0) else upd (upd v 6 (v 6 - 1)) 5 (imin (v 5 + 2) 9)
def hfh (v : Nat → Int32) (most : Int32) : (Nat → Int32) × Int32 := (upd v 4 (v 4 - imin most (v 4 / ozT (kx v)) * ozT (kx v)), imin most (v 4 / ozT (kx v)))
def rod (v : Nat → Int32) : Nat → Int32 := upd (upd (upd v 3 (v 3 - 1)) 9 (v 9 + v 4)) 4 240
def hlp : Nat → Int32 → (Nat → Int32) → Int32 → (Nat → Int32) × Int32
  | 0, _, v, hd => (v, hd)
  | n + 1, most, v, hd => if most ≤ hd then (v, hd) else if v 3 ≤ 0 then (v, hd) else hlp n most (hfh (rod v) (most - hd)).1 (hd + (hfh (rod v) (most - hd)).2)
def head (v : Nat → Int32) (most : Int32) : (Nat → Int32) × Int32 := hlp (((hfh v most).1 3).toNatClampNeg + 1) most (hfh v most).1 (hfh v most).2
def sto1 (v : Nat → Int32) (a : Int32) : Nat → Int32 := upd v 11 (v 11 + a)
def sto2 (v : Nat → Int32) (a : Int32) : Nat → Int32 := upd (sto1 v a) (12 + kx (sto1 v a)) (sto1 v a (12 + kx (sto1 v a)) + a)
def sto3 (v : Nat → Int32) (a : Int32) : Nat → Int32 := upd (sto2 v a) (16 + kx (sto2 v a)) (sto2 v a (16 + kx (sto2 v a)) + sto2 v a (12 + kx (sto2 v a)) / 1000)
def store (v : Nat → Int32) (a : Int32) : Nat → Int32 := upd (sto3 v a) (12 + kx (sto3 v a)) (sto3 v a (12 + kx (sto3 v a)) - sto3 v a (12 + kx (sto3 v a)) / 1000 * 1000)
def canN (v : Nat → Int32) : Int32 := v 0 * v 5 * 2 / (v 1 + 1)
def spo (v : Nat → Int32) (a : Int32) : Int32 := if v 5 < 8 then 0 else a / 10
def workB (v : Nat → Int32) : (Nat → Int32) × Int32 :=
  (store (upd (head v (canN v)).1 10 ((head v (canN v)).1 10 + spo (head v (canN v)).1 (head v (canN v)).2)) ((head v (canN v)).2 - spo (head v (canN v)).1 (head v (canN v)).2), (head v (canN v)).2 - spo (head v (canN v)).1 (head v (canN v)).2)
def workH (v : Nat → Int32) : (Nat → Int32) × Int32 := if 4 ≤ tend v 5 then workB (tend v) else (tend v, 0)
def wHl : Nat → Int32 → Int32 → (Nat → Int32) → Int32 → (Nat → Int32) × Int32
  | 0, _, _, v, sm => (v, sm)
  | n + 1, h, i, v, sm => if h ≤ i then (v, sm) else wHl n h (i + 1) (workH v).1 (sm + (workH v).2)
def fuel (h i : Int32) : Nat := (h.toInt - i.toInt).toNat + 1
/-- kinds stay -/
theorem tend_1 (v : Nat → Int32) : tend v 1 = v 1 := by unfold tend; split <;> rfl
theorem hfh_1 (v : Nat → Int32) (a : Int32) : (hfh v a).1 1 = v 1 := rfl
theorem hlp_1 : ∀ (n : Nat) (most : Int32) (v : Nat → Int32) (hd : Int32), (hlp n most v hd).1 1 = v 1
  | 0, _, _, _ => rfl
  | n + 1, most, v, hd => by
    unfold hlp
    split
    · rfl
    · split
      · rfl
      · rw [hlp_1 n]; rfl
theorem head_1 (v : Nat → Int32) (a : Int32) : (head v a).1 1 = v 1 := by unfold head; rw [hlp_1]; rfl
theorem sto1_1 (v : Nat → Int32) (a : Int32) : sto1 v a 1 = v 1 := rfl
theorem sto2_1 (v : Nat → Int32) (a : Int32) : sto2 v a 1 = v 1 := by unfold sto2; rw [upd_ge (by omega)]; rfl
theorem sto3_1 (v : Nat → Int32) (a : Int32) : sto3 v a 1 = v 1 := by unfold sto3; rw [upd_ge (by omega), sto2_1]
theorem store_1 (v : Nat → Int32) (a : Int32) : store v a 1 = v 1 := by unfold store; rw [upd_ge (by omega), sto3_1]
theorem workB_1 (v : Nat → Int32) : (workB v).1 1 = v 1 := by
  simp only [workB, store_1]
  rw [upd_ge (by omega), head_1]
theorem workH_1 (v : Nat → Int32) : (workH v).1 1 = v 1 := by
  unfold workH
  split
  · rw [workB_1, tend_1]
  · exact tend_1 v
/-- counters -/
theorem dec_lt {a : Int32} {n : Nat} (h : a.toNatClampNeg < n + 1) (h0 : ¬ a ≤ 0) : (a - 1).toNatClampNeg < n := by
  obtain ⟨j, hj, rfl⟩ := nI_of (x := a) (fun q => h0 (Int32.le_of_lt q))
  cases j with
  | zero => exact absurd (by rw [nI_0]; exact Int32.le_refl _) h0
  | succ j =>
    rw [nI_pred, nI_clamp (by omega)]
    rw [nI_clamp hj] at h
    omega
theorem fuel_step {h i : Int32} {n : Nat} (hf : fuel h i ≤ n + 1) (hh : ¬ h ≤ i) : fuel h (i + 1) ≤ n := by
  unfold fuel at *
  have h1 : i.toInt < h.toInt := by
    rw [Int32.le_iff_toInt_le] at hh
    omega
  have h2 : (i + 1).toInt = i.toInt + 1 := by
    have a1 := h.toInt_lt
    have a2 := i.le_toInt
    rw [Int32.toInt_add, show (1 : Int32).toInt = 1 from rfl]
    rw [Int.bmod_eq_of_le (by omega) (by omega)]
  rw [h2]
  omega
theorem vk1 {v : Nat → Int32} (hk : vp_in (v 1) 4) : ¬ v 1 + 1 = 0 := by
  obtain ⟨j, hj, e⟩ := vp_in_of hk (by omega)
  rw [e, nI_1]
  exact nI_ne0 (by omega) (by omega)
