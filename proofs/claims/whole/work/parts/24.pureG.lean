/-! THE MODEL'S ARRAYS: one nailer's hour, a reckoning, an hour -/
theorem mIron_2 (v : Nat → Int32) (kd : Nat) : (mIron v kd).1 2 = v 2 := by unfold mIron; split <;> (try split) <;> rfl
theorem mHead_k {j : Nat} (hj : j = 1 ∨ j = 2) : ∀ (n : Nat) (can : Int32) (kd : Nat) (v : Nat → Int32) (made : Int32), (mHead n can kd v made).1 j = v j
  | 0, _, _, _, _ => rfl
  | n + 1, can, kd, v, made => by
    have hI : (mIron v kd).1 j = v j := by
      rcases hj with rfl | rfl
      · exact mIron_1 v kd
      · exact mIron_2 v kd
    unfold mHead
    split
    · rfl
    · split
      · exact hI
      · rw [mHead_k hj n, upd_ge (by omega), hI]
theorem mFin_k {j : Nat} (hj : j = 1 ∨ j = 2) (v : Nat → Int32) (made brn : Int32) (kd : Nat) : mFin v made brn kd j = v j := by
  unfold mFin mFin4
  rw [upd_ge (by omega)]
  unfold mFin3
  rw [upd_ge (by omega)]
  unfold mFin2
  rw [upd_ge (by omega)]
  unfold mFin1
  rw [upd_ge (by omega), upd_ge (by omega)]
theorem mTend_k {j : Nat} (hj : j = 1 ∨ j = 2) (v : Nat → Int32) : mTend v j = v j := by
  rcases hj with rfl | rfl <;> (unfold mTend; split <;> rfl)
theorem mWork_k {j : Nat} (hj : j = 1 ∨ j = 2) (v : Nat → Int32) (kd : Nat) : (mWork v kd).1 j = v j := by
  unfold mWork mWork3 mWork2
  show mFin _ _ _ _ j = _
  rw [mFin_k hj, mHead_k hj, mTend_k hj]
def mWr (v : Nat → Int32) : (Nat → Int32) × Int32 := mWork v (kx v)
def mWA (A : Nat → Nat → Int32) (b a : Nat) : Nat → Nat → Int32 := va_up A b (upR (A b) a 20 (mWr (rowO (A b) a)).1)
theorem kx_of {v : Nat → Int32} (h : vp_in (v 1) 4) : kx v < 4 ∧ v 1 = nI (kx v) := by
  obtain ⟨j, hj, e⟩ := vp_in_of h (by omega)
  unfold kx
  rw [e, nI_clamp (by omega)]
  exact ⟨hj, rfl⟩
/-- kinds and foggers of the nailers in the model's array b -/
def KM (A : Nat → Nat → Int32) (b c : Nat) : Prop := ∀ k, k < c → vp_in (A b (20 * k + 1)) 4 ∧ vp_in (A b (20 * k + 2)) 4
theorem mWA_at {A : Nat → Nat → Int32} {b i j : Nat} (hj : j < 20) : mWA A b (20 * i) b (20 * i + j) = (mWr (rowO (A b) (20 * i))).1 j := by
  unfold mWA
  rw [va_up_self, upR_at hj]
theorem mWA_off {A : Nat → Nat → Int32} {b i k j : Nat} (hj : j < 20) (h : k ≠ i) : mWA A b (20 * i) b (20 * k + j) = A b (20 * k + j) := by
  unfold mWA
  rw [va_up_self, upR_off (by omega)]
theorem KM_work {A : Nat → Nat → Int32} {b c i : Nat} (h : KM A b c) : KM (mWA A b (20 * i)) b c := by
  intro k hk
  by_cases e : k = i
  · subst e
    rw [mWA_at (by omega), mWA_at (by omega)]
    unfold mWr
    rw [mWork_k (Or.inl rfl), mWork_k (Or.inr rfl)]
    exact h k hk
  · rw [mWA_off (by omega) e, mWA_off (by omega) e]
    exact h k hk
def goM : Nat → Nat → Nat → Nat → (Nat → Nat → Int32) → Int32 → (Nat → Nat → Int32) × Int32
  | 0, _, _, _, A, sm => (A, sm)
  | n + 1, c, b, i, A, sm => if c ≤ i then (A, sm) else goM n c b (i + 1) (mWA A b (20 * i)) (sm + (mWr (rowO (A b) (20 * i))).2)
theorem KM_goM {b c : Nat} : ∀ (n i : Nat) (A : Nat → Nat → Int32) (sm : Int32), KM A b c → KM (goM n c b i A sm).1 b c
  | 0, _, _, _, h => h
  | n + 1, i, A, sm, h => by
    unfold goM
    split
    · exact h
    · exact KM_goM n _ _ _ (KM_work h)
/-- the fogger's place of the nailer at a -/
def foA (A : Nat → Nat → Int32) (b a : Nat) : Nat := (A b (a + 2)).toNatClampNeg
def rkQ (A : Nat → Nat → Int32) (b b2 a : Nat) : V3 := mReck (foA A b a) (rowO (A b) a) (rowO (A b2) (5 * foA A b a)) (A 4)
def mRA (A : Nat → Nat → Int32) (b b2 a : Nat) : Nat → Nat → Int32 := R3 A b (A b) a (rkQ A b b2 a).1 b2 (A b2) (5 * foA A b a) (rkQ A b b2 a).2.1 (rkQ A b b2 a).2.2
theorem R3_eta {A : Nat → Nat → Int32} {b b2 a a2 : Nat} : R3 A b (A b) a (rowO (A b) a) b2 (A b2) a2 (rowO (A b2) a2) (A 4) = A := by
  unfold R3
  rw [upR_eta _ _ _ (by omega), upR_eta _ _ _ (by omega), va_up_eta, va_up_eta, va_up_eta]
theorem mBag_k {j : Nat} (hj : j = 1 ∨ j = 2) : ∀ (n : Nat) (pr left : Int32) (kd fo : Nat) (v g wv : Nat → Int32), (mBag n pr left kd fo v g wv).1 j = v j
  | 0, _, _, _, _, _, _, _ => rfl
  | n + 1, pr, left, kd, fo, v, g, wv => by
    unfold mBag
    split
    · rfl
    · split
      · rfl
      · rw [mBag_k hj n]
        unfold mB1
        rw [upd_ge (by omega), upd_ge (by omega)]
theorem mKinds_k {j : Nat} (hj : j = 1 ∨ j = 2) : ∀ (n i fo : Nat) (v g wv : Nat → Int32), (mKinds n i fo v g wv).1 j = v j
  | 0, _, _, _, _, _ => rfl
  | n + 1, i, fo, v, g, wv => by
    unfold mKinds
    split
    · rfl
    · rw [mKinds_k hj n]
      unfold mKind
      rw [mBag_k hj]
theorem mReck_k {j : Nat} (hj : j = 1 ∨ j = 2) (fo : Nat) (v g wv : Nat → Int32) : (mReck fo v g wv).1 j = v j := by
  unfold mReck mRk2
  show upd _ _ _ j = _
  rw [upd_ge (by omega), upd_ge (by omega), mKinds_k hj]
theorem R3_b {A : Nat → Nat → Int32} {b b2 a a2 : Nat} {f v f2 g wv : Nat → Int32} (h1 : b ≠ 4) (h2 : b ≠ b2) : R3 A b f a v b2 f2 a2 g wv b = upR f a 20 v := by
  unfold R3
  rw [va_up_ne _ _ h1, va_up_ne _ _ h2, va_up_self]
theorem KM_reck {A : Nat → Nat → Int32} {b b2 c i : Nat} (h1 : b ≠ 4) (h2 : b ≠ b2) (h : KM A b c) : KM (mRA A b b2 (20 * i)) b c := by
  intro k hk
  unfold mRA
  rw [R3_b h1 h2]
  by_cases e : k = i
  · subst e
    rw [upR_at (by omega), upR_at (by omega)]
    unfold rkQ
    rw [mReck_k (Or.inl rfl), mReck_k (Or.inr rfl)]
    exact h k hk
  · rw [upR_off (by omega), upR_off (by omega)]
    exact h k hk
def rkM : Nat → Nat → Nat → Nat → Nat → (Nat → Nat → Int32) → Nat → Nat → Int32
  | 0, _, _, _, _, A => A
  | n + 1, c, b, b2, i, A => if c ≤ i then A else rkM n c b b2 (i + 1) (mRA A b b2 (20 * i))
theorem KM_rkM {b b2 c : Nat} (h1 : b ≠ 4) (h2 : b ≠ b2) : ∀ (n i : Nat) (A : Nat → Nat → Int32), KM A b c → KM (rkM n c b b2 i A) b c
  | 0, _, _, h => h
  | n + 1, i, A, h => by
    unfold rkM
    split
    · exact h
    · exact KM_rkM h1 h2 n _ _ (KM_reck h1 h2 h)
def z4M (A : Nat → Nat → Int32) : Nat → Nat → Int32 := sA (sA (sA (sA A 4 0 0) 4 1 0) 4 2 0) 4 3 0
def dM0 (A : Nat → Nat → Int32) (b2 k : Nat) : Nat → Nat → Int32 := sA A b2 (5 * k + 1) (A b2 (5 * k + 1) + A 4 k)
def dM1 (A : Nat → Nat → Int32) (b2 k : Nat) : Nat → Nat → Int32 := sA A b2 (5 * k + 4) (A b2 (5 * k + 4) + A 4 k)
def dM (A : Nat → Nat → Int32) (b2 k : Nat) : Nat → Nat → Int32 := dM1 (dM0 A b2 k) b2 k
def dM4 (A : Nat → Nat → Int32) (b2 : Nat) : Nat → Nat → Int32 := dM (dM (dM (dM A b2 0) b2 1) b2 2) b2 3
def weekM (c b b2 : Nat) (A : Nat → Nat → Int32) : Nat → Nat → Int32 := dM4 (rkM (c + 1) c b b2 0 (z4M A)) b2
def hourM (c b b2 : Nat) (now : Int32) (A : Nat → Nat → Int32) : Nat → Nat → Int32 := if now - now / 48 * 48 = 47 then weekM c b b2 (goM (c + 1) c b 0 A 0).1 else (goM (c + 1) c b 0 A 0).1
def hourMG (c b : Nat) (A : Nat → Nat → Int32) : Int32 := (goM (c + 1) c b 0 A 0).2
theorem sA_ne {A : Nat → Nat → Int32} {b b2 t : Nat} {x : Int32} (h : b ≠ b2) : sA A b2 t x b = A b := by
  unfold sA
  rw [va_up_ne _ _ h]
theorem z4M_b {A : Nat → Nat → Int32} {b : Nat} (h : b ≠ 4) : z4M A b = A b := by
  unfold z4M
  rw [sA_ne h, sA_ne h, sA_ne h, sA_ne h]
theorem dM_b {A : Nat → Nat → Int32} {b b2 k : Nat} (h : b ≠ b2) : dM A b2 k b = A b := by
  unfold dM dM1 dM0
  rw [sA_ne h, sA_ne h]
theorem KM_eq {A B : Nat → Nat → Int32} {b c : Nat} (e : A b = B b) (h : KM B b c) : KM A b c := by
  intro k hk
  rw [e]
  exact h k hk
theorem KM_hour {b b2 c : Nat} (h1 : b ≠ 4) (h2 : b ≠ b2) {now : Int32} {A : Nat → Nat → Int32} (h : KM A b c) : KM (hourM c b b2 now A) b c := by
  unfold hourM
  split
  · unfold weekM dM4
    refine KM_eq ?_ (KM_rkM (b2 := b2) h1 h2 (c + 1) 0 (z4M (goM (c + 1) c b 0 A 0).1) (KM_eq (z4M_b h1) (KM_goM _ _ _ _ h)))
    rw [dM_b h2, dM_b h2, dM_b h2, dM_b h2]
  · exact KM_goM _ _ _ _ h
def passM : Nat → Int32 → Int32 → Nat → Int32 → (Nat → Nat → Int32) → Int32 → (Nat → Nat → Int32) × Int32 × Int32
  | 0, _, _, _, now, A, sm => (A, now, sm)
  | n + 1, h, i, c, now, A, sm => if h ≤ i then (A, now, sm) else passM n h (i + 1) c (now + 1) (hourM c 0 1 now A) (sm + hourMG c 0 A)
def aheadM : Nat → Int32 → Int32 → Nat → Int32 → (Nat → Nat → Int32) → Nat → Nat → Int32
  | 0, _, _, _, _, A => A
  | n + 1, h, i, c, now, A => if h ≤ i then A else aheadM n h (i + 1) c now (hourM c 2 3 (now + i) A)
def lookM (A : Nat → Nat → Int32) : Nat → Nat → Int32 := va_up (va_up A 2 (va_cpy (A 0) (A 2) 0 0 240)) 3 (va_cpy (A 1) (A 3) 0 0 20)
def cp1M (A : Nat → Nat → Int32) (b0 b1 n : Nat) : Nat → Nat → Int32 := va_up A b1 (va_cpy (A b0) (A b1) 0 0 n)
