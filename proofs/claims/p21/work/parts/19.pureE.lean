/-! when, advise, richest, digest, mean: what they answer -/
theorem wHl_1 : ∀ (n : Nat) (h i : Int32) (v : Nat → Int32) (sm : Int32), (wHl n h i v sm).1 1 = v 1
  | 0, _, _, _, _ => rfl
  | n + 1, h, i, v, sm => by
    unfold wHl
    split
    · rfl
    · rw [wHl_1 n, workH_1]
def whenL : Nat → Int32 → Int32 → (Nat → Int32) → Int32 → (Nat → Int32) × Int32
  | 0, _, _, v, _ => (v, -1)
  | n + 1, q, h, v, hd => if 480 < h then (v, -1) else if hd + (whl1 v).2 < q then whenL n q (h + 1) (whl1 v).1 (hd + (whl1 v).2) else ((whl1 v).1, h)
theorem whl1_1 (v : Nat → Int32) : (whl1 v).1 1 = v 1 := wHl_1 _ _ _ _ _
theorem fuel481 {h : Int32} {n : Nat} (hf : fuel 481 h ≤ n + 1) (hh : ¬ 480 < h) : fuel 481 (h + 1) ≤ n := by
  refine fuel_step hf (fun z => hh ?_)
  rw [Int32.le_iff_toInt_le] at z
  rw [Int32.lt_iff_toInt_lt]
  have h1 : (481 : Int32).toInt = 481 := by decide
  have h2 : (480 : Int32).toInt = 480 := by decide
  omega
def advW (q : Int32) (i : Nat) (v : Nat → Int32) : (Nat → Int32) × Int32 := wHl (fuel q 0) q 0 (upd v 1 (nI i)) 0
def advL : Nat → Int32 → Nat → Nat → (Nat → Nat → Int32) → Int32 → Int32 → (Nat → Nat → Int32) × Int32
  | 0, _, _, _, N, best, _ => (N, best)
  | n + 1, q, j, i, N, best, bw => if 4 ≤ i then (N, best) else
    if (advW q i (N j)).2 * woT i ≤ bw then advL n q j (i + 1) (va_up N 24 (advW q i (N j)).1) best bw
    else advL n q j (i + 1) (va_up N 24 (advW q i (N j)).1) (nI i) ((advW q i (N j)).2 * woT i)
def wlth (v : Nat → Int32) : Int32 := v 7 - v 8
def ricL : Nat → Nat → Nat → Nat → (Nat → Nat → Int32) → Int32 → Int32 → Int32
  | 0, _, _, _, _, best, _ => best
  | n + 1, c, b, i, N, best, bw => if c ≤ i then best else
    if best < 0 then ricL n c b (i + 1) N (nI i) (wlth (N (b + i)))
    else if wlth (N (b + i)) ≤ bw then ricL n c b (i + 1) N best bw else ricL n c b (i + 1) N (nI i) (wlth (N (b + i)))
def digN : Nat → Nat → Nat → Nat → (Nat → Nat → Int32) → Int64 → Int64
  | 0, _, _, _, _, d => d
  | n + 1, c, b, i, N, d => if c ≤ i then d else digN n c b (i + 1) N (addD (N (b + i)) d)
def dgs : List Int32 → Int64 → Int64
  | [], d => d
  | x :: l, d => dgs l (dg d x)
def digC (N F T : Nat → Nat → Int32) (c : Nat) : Int64 :=
  dgs [fogN N F 0 c 0 0, fogN N F 0 c 0 1, fogN N F 0 c 0 2, fogN N F 0 c 0 3, fogN N F 0 c 0 4, fogN N F 0 c 0 5, fogN N F 0 c 1 0, fogN N F 0 c 1 1, fogN N F 0 c 1 2, fogN N F 0 c 1 3, fogN N F 0 c 1 4, fogN N F 0 c 1 5,
    fogN N F 0 c 2 0, fogN N F 0 c 2 1, fogN N F 0 c 2 2, fogN N F 0 c 2 3, fogN N F 0 c 2 4, fogN N F 0 c 2 5, fogN N F 0 c 3 0, fogN N F 0 c 3 1, fogN N F 0 c 3 2, fogN N F 0 c 3 3, fogN N F 0 c 3 4, fogN N F 0 c 3 5]
   (digN (c + 1) c (12 * 0) 0 N (dgs [totN N F T 0 c 0, totN N F T 0 c 1, totN N F T 0 c 2, totN N F T 0 c 3, totN N F T 0 c 4, totN N F T 0 c 5, totN N F T 0 c 6, totN N F T 0 c 7, totN N F T 0 c 8, totN N F T 0 c 9, totN N F T 0 c 10] 1259))
def heaS : Nat → Nat → Nat → Nat → (Nat → Nat → Int32) → Int32 → Int32
  | 0, _, _, _, _, sm => sm
  | n + 1, c, b, i, N, sm => if c ≤ i then sm else heaS n c b (i + 1) N (sm + N (b + i) 5)
def meanC (N : Nat → Nat → Int32) (c : Nat) (cnt : Int32) : UInt64 := if cnt = 0 then FP.dconst0 else FP.ddiv (FP.i2d (heaS (c + 1) c (12 * 0) 0 N 0)) (FP.i2d cnt)
theorem le4i {i : Nat} (h : i ≤ 4) : (4 : Int32) ≤ nI i ↔ 4 ≤ i := by
  rw [show (4 : Int32) = nI 4 from rfl]
  exact nI_leI (by omega) (by omega)
