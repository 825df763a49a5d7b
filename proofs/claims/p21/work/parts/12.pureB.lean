/-! what else the nailers and the foggers do, and tell -/
def share (v : Nat → Int32) (k : Nat) : Int32 := if k = 2 then (if v 5 < 4 then 0 else 1) else if k = 4 then 0 + v 12 + v 13 + v 14 + v 15 else if k = 5 then 0 + v 16 + v 17 + v 18 + v 19 else v k
def dg (d : Int64) (x : Int32) : Int64 := d * 31 + x.toInt64
def addD (v : Nat → Int32) (d : Int64) : Int64 :=
  dg (dg (dg (dg (dg (dg (dg (dg (dg (dg (dg (dg (dg (dg (dg (dg (dg (dg (dg (dg d (v 0)) (v 1)) (v 2)) (v 3)) (v 4)) (v 5)) (v 6)) (v 7)) (v 8)) (v 9)) (v 10)) (v 11)) (v 12)) (v 16)) (v 13)) (v 17)) (v 14)) (v 18)) (v 15)) (v 19)
def prK (t : Nat) (g : Nat → Int32) : Int32 := woT t * (100 - g 0) / 100
def bag1 (price : Int32) (t : Nat) (v : Nat → Int32) : Nat → Int32 := upd (upd v (16 + t) (v (16 + t) - 1)) 7 (v 7 + price)
def bag2 (price : Int32) (t : Nat) (g : Nat → Int32) : Nat → Int32 := upd (upd (upd (upd g 1 (g 1 - price)) 3 (g 3 + price)) 2 (g 2 + 1)) 5 (g 5 + woT t)
def bagL : Nat → Int32 → Nat → (Nat → Int32) → (Nat → Int32) → (Nat → Int32) × (Nat → Int32)
  | 0, _, _, v, g => (v, g)
  | n + 1, price, t, v, g => if v (16 + t) ≤ 0 then (v, g) else if g 1 < price then (v, g) else bagL n price t (bag1 price t v) (bag2 price t g)
def buyK (t : Nat) (q : (Nat → Int32) × (Nat → Int32)) : (Nat → Int32) × (Nat → Int32) := bagL ((q.1 (16 + t)).toNatClampNeg + 1) (prK t q.2) t q.1 q.2
def buyB (v g : Nat → Int32) : (Nat → Int32) × (Nat → Int32) := buyK 3 (buyK 2 (buyK 1 (buyK 0 (v, g))))
def payD (v : Nat → Int32) : Int32 := imin (v 8) (v 7)
def colV (v : Nat → Int32) : Nat → Int32 := upd (upd v 8 (v 8 - payD v)) 7 (v 7 - payD v)
def colG (v g : Nat → Int32) : Nat → Int32 := upd g 1 (g 1 + payD v)
def dlv (g : Nat → Int32) : Nat → Int32 := upd (upd (upd g 1 (g 1 + g 5)) 4 (g 4 + g 5)) 5 0
theorem bag1_dec {price : Int32} {t : Nat} {v : Nat → Int32} : bag1 price t v (16 + t) = v (16 + t) - 1 := by
  unfold bag1
  rw [upd_ge (by omega)]
  exact if_pos rfl
