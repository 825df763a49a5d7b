/-! WHAT THE MODEL'S METHODS DO TO THEIR ROWS, in the code's own order -/
def mTend (v : Nat → Int32) : Nat → Int32 := if v 6 ≤ 0 then upd v 5 (imax 0 (v 5 - 3)) else upd (upd v 6 (v 6 - 1)) 5 (imin 9 (v 5 + 2))
def mCan (v : Nat → Int32) (kd : Nat) : Int32 := if v 5 < 4 then 0 else v 0 * v 5 * 2 / (nI kd + 1)
def mIron (v : Nat → Int32) (kd : Nat) : (Nat → Int32) × Int32 := if v 4 < ozT kd then (if v 3 = 0 then (v, 0) else (rod v, 1)) else (v, 1)
def mHead : Nat → Int32 → Nat → (Nat → Int32) → Int32 → (Nat → Int32) × Int32
  | 0, _, _, v, made => (v, made)
  | n + 1, can, kd, v, made => if can ≤ made then (v, made) else if (mIron v kd).2 = 0 then ((mIron v kd).1, made) else mHead n can kd (upd (mIron v kd).1 4 ((mIron v kd).1 4 - ozT kd)) (made + 1)
def mBrn (heat made : Int32) : Int32 := if heat < 8 then 0 else made / 10
def mFin1 (v : Nat → Int32) (made brn : Int32) : Nat → Int32 := upd (upd v 10 (v 10 + brn)) 11 (v 11 + (made - brn))
def mFin2 (v : Nat → Int32) (a : Int32) (kd : Nat) : Nat → Int32 := upd v (12 + kd) (v (12 + kd) + a)
def mFin3 (v : Nat → Int32) (kd : Nat) : Nat → Int32 := upd v (16 + kd) (v (16 + kd) + v (12 + kd) / 1000)
def mFin4 (v : Nat → Int32) (kd : Nat) : Nat → Int32 := upd v (12 + kd) (v (12 + kd) - v (12 + kd) / 1000 * 1000)
def mFin (v : Nat → Int32) (made brn : Int32) (kd : Nat) : Nat → Int32 := mFin4 (mFin3 (mFin2 (mFin1 v made brn) (made - brn) kd) kd) kd
def mWork2 (q : (Nat → Int32) × Int32) (heat : Int32) (kd : Nat) : (Nat → Int32) × Int32 := (mFin q.1 q.2 (mBrn heat q.2) kd, q.2 - mBrn heat q.2)
def mWork3 (t : Nat → Int32) (kd : Nat) : (Nat → Int32) × Int32 := mWork2 (mHead (fuel (mCan t kd) 0) (mCan t kd) kd t 0) (t 5) kd
def mWork (v : Nat → Int32) (kd : Nat) : (Nat → Int32) × Int32 := mWork3 (mTend v) kd
def mPr (k : Nat) (kept : Int32) : Int32 := woT k * (100 - kept) / 100
def mB1 (pr : Int32) (kd : Nat) (v : Nat → Int32) : Nat → Int32 := upd (upd v 7 (v 7 + pr)) (16 + kd) (upd v 7 (v 7 + pr) (16 + kd) - 1)
def mB2 (pr : Int32) (g : Nat → Int32) : Nat → Int32 := upd (upd (upd g 1 (g 1 - pr)) 3 (g 3 + pr)) 2 (g 2 + 1)
def mB3 (kd fo : Nat) (wv : Nat → Int32) : Nat → Int32 := upd wv fo (wv fo + woT kd)
abbrev V3 := (Nat → Int32) × (Nat → Int32) × (Nat → Int32)
def mBag : Nat → Int32 → Int32 → Nat → Nat → (Nat → Int32) → (Nat → Int32) → (Nat → Int32) → V3
  | 0, _, _, _, _, v, g, wv => (v, g, wv)
  | n + 1, pr, left, kd, fo, v, g, wv => if left ≤ 0 then (v, g, wv) else if g 1 < pr then (v, g, wv) else mBag n pr (left + (-1)) kd fo (mB1 pr kd v) (mB2 pr g) (mB3 kd fo wv)
def mKind (k fo : Nat) (v g wv : Nat → Int32) : V3 := mBag ((v (16 + k)).toNatClampNeg + 1) (mPr k (g 0)) (v (16 + k)) k fo v g wv
def mKinds : Nat → Nat → Nat → (Nat → Int32) → (Nat → Int32) → (Nat → Int32) → V3
  | 0, _, _, v, g, wv => (v, g, wv)
  | n + 1, i, fo, v, g, wv => if 4 ≤ i then (v, g, wv) else mKinds n (i + 1) fo (mKind i fo v g wv).1 (mKind i fo v g wv).2.1 (mKind i fo v g wv).2.2
def mPay (v : Nat → Int32) : Int32 := imin (v 7) (v 8)
def mRk2 (q : V3) : V3 := (upd (upd q.1 7 (q.1 7 - mPay q.1)) 8 (q.1 8 - mPay q.1), upd q.2.1 1 (q.2.1 1 + mPay q.1), q.2.2)
def mReck (fo : Nat) (v g wv : Nat → Int32) : V3 := mRk2 (mKinds 5 0 fo v g wv)
theorem mTend_1 (v : Nat → Int32) : mTend v 1 = v 1 := by unfold mTend; split <;> rfl
theorem mIron_1 (v : Nat → Int32) (kd : Nat) : (mIron v kd).1 1 = v 1 := by unfold mIron; split <;> (try split) <;> rfl
theorem ozT_clamp {kd : Nat} (h : kd < 4) : (nI kd).toNatClampNeg = kd := nI_clamp (by omega)
theorem nk1 {kd : Nat} (h : kd < 4) : ¬ nI kd + 1 = 0 := by
  rw [nI_1]
  exact nI_ne0 (by omega) (by omega)
