/-! WHAT THE MODEL'S CALLS ANSWER -/
theorem updd {K : Nat → Int32} {k : Nat} {a b : Int32} : upd (upd K k a) k b = upd K k b := by
  funext t
  by_cases h : t = k
  · subst h
    simp [upd]
  · rw [upd_ge h, upd_ge h, upd_ge h]
theorem thOk {m : Int32} {c j : Nat} (hc : m = nI c) (h12 : c ≤ 12) (hj : j < c) : nI j < m := by
  rw [hc]
  exact nI_lt hj (by omega)
theorem nIp {j : Nat} (h : j < 2147483648) : ¬ nI j < 0 := nI_pos h
theorem nI3 {j : Nat} (h : j < 4) : ¬ (3 : Int32) < nI j := by
  rw [show (3 : Int32) = nI 3 from rfl]
  exact nI_nlt (by omega) (by omega)
theorem nIm {m j : Nat} (h : j ≤ m) (hm : m < 2147483648) : ¬ nI m < nI j := nI_nlt h hm
def mLend (A : Nat → Nat → Int32) (j : Nat) (q : Int32) : Nat → Nat → Int32 := sA (sA A 0 (20 * j + 8) (A 0 (20 * j + 8) + 3 * q)) 0 (20 * j + 3) (sA A 0 (20 * j + 8) (A 0 (20 * j + 8) + 3 * q) 0 (20 * j + 3) + q)
def mCo1 (A : Nat → Nat → Int32) (j : Nat) (q : Int32) : Nat → Nat → Int32 := sA A 0 (20 * j + 7) (A 0 (20 * j + 7) - (q + 3) / 4)
def mCoal (A : Nat → Nat → Int32) (j : Nat) (q : Int32) : Nat → Nat → Int32 := sA (mCo1 A j q) 0 (20 * j + 6) (mCo1 A j q 0 (20 * j + 6) + q)
def mNew (A : Nat → Nat → Int32) (c : Nat) (a b d : Int32) : Nat → Nat → Int32 := sA (sA (sA (sA (sA A 0 (20 * c + 0) a) 0 (20 * c + 1) b) 0 (20 * c + 2) d) 0 (20 * c + 6) 10) 0 (20 * c + 7) 5
def wkM : Nat → Int32 → Nat → Nat → (Nat → Nat → Int32) → Int32 → Int32
  | 0, _, _, _, _, sm => sm
  | n + 1, q, c, i, A, sm => if c ≤ i then sm else wkM n q c (i + 1) A (if A 0 (20 * i + 2) = q then sm + 1 else sm + 0)
def suM : Nat → Nat → Nat → Nat → Nat → (Nat → Nat → Int32) → Int32 → Int32
  | 0, _, _, _, _, _, sm => sm
  | n + 1, b, t, c, i, A, sm => if c ≤ i then sm else suM n b t c (i + 1) A (sm + A b (20 * i + t))
def s4M (b t c : Nat) (A : Nat → Nat → Int32) : Int32 := suM (c + 1) b t c 0 A 0 + suM (c + 1) b (t + 1) c 0 A 0 + suM (c + 1) b (t + 2) c 0 A 0 + suM (c + 1) b (t + 3) c 0 A 0
def hoM : Nat → Nat → Nat → (Nat → Nat → Int32) → Int32 → Int32
  | 0, _, _, _, sm => sm
  | n + 1, c, i, A, sm => if c ≤ i then sm else hoM n c (i + 1) A (if A 0 (20 * i + 5) < 4 then sm + 0 else sm + 1)
def boM (A : Nat → Nat → Int32) (b2 : Nat) : Int32 := A b2 2 + A b2 7 + A b2 12 + A b2 17
def sdM (A : Nat → Nat → Int32) (b b2 c k : Nat) : Int32 := if k = 4 then s4M b 12 c A else if k = 5 then s4M b 16 c A else if k = 6 then boM A b2 else suM (c + 1) b k c 0 A 0
def cdM (K : Nat → Int32) (A : Nat → Nat → Int32) (c k : Nat) : Int32 := if k = 0 then K 1 else if k = 1 then K 2 else if k = 2 then hoM (c + 1) c 0 A 0 else sdM A 0 1 c k
def whM : Nat → Int32 → Int32 → Nat → (Nat → Nat → Int32) → (Nat → Nat → Int32) × Int32
  | 0, _, _, _, A => (A, -1)
  | n + 1, left, h, a, A => if 480 < h then (A, -1) else if 0 < left - (mWr (rowO (A 2) a)).2 then whM n (left - (mWr (rowO (A 2) a)).2) (h + 1) a (mWA A 2 a) else (mWA A 2 a, h)
def woM : Nat → Int32 → Int32 → Nat → (Nat → Nat → Int32) → Int32 → (Nat → Nat → Int32) × Int32
  | 0, _, _, _, A, sm => (A, sm)
  | n + 1, h, i, a, A, sm => if h ≤ i then (A, sm) else woM n h (i + 1) a (mWA A 2 a) (sm + (mWr (rowO (A 2) a)).2)
def wofA (A : Nat → Nat → Int32) (j kd : Nat) : Nat → Nat → Int32 := sA (lookM A) 2 (20 * j + 1) (nI kd)
def wofQ (A : Nat → Nat → Int32) (j kd : Nat) (h : Int32) : (Nat → Nat → Int32) × Int32 := ((woM (fuel h 0) h 0 (20 * j) (wofA A j kd) 0).1, (woM (fuel h 0) h 0 (20 * j) (wofA A j kd) 0).2 * woT kd)
def adM : Nat → Int32 → Nat → Nat → Nat → (Nat → Nat → Int32) → (Nat → Nat → Int32) × Int32
  | 0, _, _, _, best, A => (A, nI best)
  | n + 1, h, j, i, best, A => if 4 ≤ i then (A, nI best) else if (wofQ A j i h).2 ≤ (wofQ (wofQ A j i h).1 j best h).2 then adM n h j (i + 1) best (wofQ (wofQ A j i h).1 j best h).1 else adM n h j (i + 1) i (wofQ (wofQ A j i h).1 j best h).1
def weM (A : Nat → Nat → Int32) (j : Nat) : Int32 := A 0 (20 * j + 7) - A 0 (20 * j + 8)
def riM : Nat → Nat → Nat → Int32 → (Nat → Nat → Int32) → Int32
  | 0, _, _, best, _ => best
  | n + 1, c, i, best, A => if c ≤ i then best else if best < 0 then riM n c (i + 1) (nI i) A else if weM A i ≤ weM A best.toNatClampNeg then riM n c (i + 1) best A else riM n c (i + 1) (nI i) A
def ftM (A : Nat → Nat → Int32) (c i k : Nat) : Int32 := if k = 0 then A 1 (5 * i + 0) else if k = 1 then A 1 (5 * i + 1) else if k = 2 then wkM (c + 1) (nI i) c 0 A 0 else if k = 3 then A 1 (5 * i + 2) else if k = 4 then A 1 (5 * i + 3) else A 1 (5 * i + 4) - A 1 (5 * i + 3)
/-- the look ahead: what it copies -/
theorem lookM_0 (A : Nat → Nat → Int32) : lookM A 0 = A 0 := rfl
theorem lookM_1 (A : Nat → Nat → Int32) : lookM A 1 = A 1 := rfl
theorem cpy_at {f g : Nat → Int32} {n t : Nat} (h : t < n) : va_cpy f g 0 0 n t = f t := by
  unfold va_cpy
  rw [if_pos (by omega)]
  congr 1
  omega
theorem lookM_2 {A : Nat → Nat → Int32} {t : Nat} (h : t < 240) : lookM A 2 t = A 0 t := cpy_at h
theorem lookM_3 {A : Nat → Nat → Int32} {t : Nat} (h : t < 20) : lookM A 3 t = A 1 t := cpy_at h
theorem KM_look {A : Nat → Nat → Int32} {c : Nat} (h12 : c ≤ 12) (h : KM A 0 c) : KM (lookM A) 2 c := by
  intro k hk
  rw [lookM_2 (by omega), lookM_2 (by omega)]
  exact h k hk
