/-! THE RECKONING in class and model -/
theorem upd_comm {v : Nat → Int32} {i j : Nat} {a b : Int32} (h : i ≠ j) : upd (upd v i a) j b = upd (upd v j b) i a := by
  funext t
  by_cases h1 : t = i
  · subst h1
    rw [upd_ge h, upd_at, upd_at]
  · by_cases h2 : t = j
    · subst h2
      rw [upd_at, upd_ge h1, upd_at]
    · rw [upd_ge h2, upd_ge h1, upd_ge h1, upd_ge h2]
theorem bag1_eq {pr : Int32} {t : Nat} {v : Nat → Int32} : mB1 pr t v = bag1 pr t v := by
  unfold mB1 bag1
  rw [upd_ge (v := v) (show 16 + t ≠ 7 by omega), upd_comm (show 7 ≠ 16 + t by omega)]
/-- a fogger's row of the class, and of the model with its worth beside it -/
def Gr (g g2 wv : Nat → Int32) (fo : Nat) : Prop := (∀ j, j < 5 → g j = g2 j) ∧ g 5 = wv fo
theorem lt5 {p : Nat → Prop} (h : p 0 ∧ p 1 ∧ p 2 ∧ p 3 ∧ p 4) : ∀ k, k < 5 → p k := by
  obtain ⟨h0, h1, h2, h3, h4⟩ := h
  intro k hk
  rcases (show k = 0 ∨ k = 1 ∨ k = 2 ∨ k = 3 ∨ k = 4 by omega) with rfl | rfl | rfl | rfl | rfl <;> assumption
theorem bag2_eq {pr : Int32} {t fo : Nat} {g g2 wv : Nat → Int32} (h : Gr g g2 wv fo) : Gr (bag2 pr t g) (mB2 pr g2) (mB3 t fo wv) fo := by
  obtain ⟨h1, h2⟩ := h
  refine ⟨lt5 ⟨?_, ?_, ?_, ?_, ?_⟩, ?_⟩
  · exact h1 0 (by omega)
  · show g 1 - pr = g2 1 - pr
    rw [h1 1 (by omega)]
  · show g 2 + 1 = g2 2 + 1
    rw [h1 2 (by omega)]
  · show g 3 + pr = g2 3 + pr
    rw [h1 3 (by omega)]
  · exact h1 4 (by omega)
  · show g 5 + woT t = upd wv fo (wv fo + woT t) fo
    rw [upd_at, h2]
theorem bag_eq {pr : Int32} {t fo : Nat} : ∀ (n : Nat) (left : Int32) (v g g2 wv : Nat → Int32), v (16 + t) = left → Gr g g2 wv fo →
    (bagL n pr t v g).1 = (mBag n pr left t fo v g2 wv).1 ∧ Gr (bagL n pr t v g).2 (mBag n pr left t fo v g2 wv).2.1 (mBag n pr left t fo v g2 wv).2.2 fo ∧ ∀ x, x ≠ fo → (mBag n pr left t fo v g2 wv).2.2 x = wv x
  | 0, _, _, _, _, _, _, h => ⟨rfl, h, fun _ _ => rfl⟩
  | n + 1, left, v, g, g2, wv, hl, h => by
    unfold bagL mBag
    rw [hl, h.1 1 (by omega)]
    by_cases h1 : left ≤ 0
    · rw [if_pos h1, if_pos h1]
      exact ⟨rfl, h, fun _ _ => rfl⟩
    · rw [if_neg h1, if_neg h1]
      by_cases h2 : g2 1 < pr
      · rw [if_pos h2, if_pos h2]
        exact ⟨rfl, h, fun _ _ => rfl⟩
      · rw [if_neg h2, if_neg h2, bag1_eq]
        obtain ⟨a1, a2, a3⟩ := bag_eq n (left + (-1)) (bag1 pr t v) (bag2 pr t g) (mB2 pr g2) (mB3 t fo wv) (by rw [bag1_dec, hl]; exact Int32.sub_eq_add_neg left 1) (bag2_eq h)
        refine ⟨a1, a2, fun x hx => ?_⟩
        rw [a3 x hx]
        exact upd_ge hx
theorem kind_eq {t fo : Nat} {v g g2 wv : Nat → Int32} (h : Gr g g2 wv fo) : (buyK t (v, g)).1 = (mKind t fo v g2 wv).1 ∧ Gr (buyK t (v, g)).2 (mKind t fo v g2 wv).2.1 (mKind t fo v g2 wv).2.2 fo ∧ ∀ x, x ≠ fo → (mKind t fo v g2 wv).2.2 x = wv x := by
  have e : prK t g = mPr t (g2 0) := by
    unfold prK mPr
    rw [h.1 0 (by omega)]
  unfold buyK mKind
  rw [e]
  exact bag_eq _ _ v g g2 wv rfl h
theorem kinds_eq {fo : Nat} {v g g2 wv : Nat → Int32} (h : Gr g g2 wv fo) : (buyB v g).1 = (mKinds 5 0 fo v g2 wv).1 ∧ Gr (buyB v g).2 (mKinds 5 0 fo v g2 wv).2.1 (mKinds 5 0 fo v g2 wv).2.2 fo ∧ ∀ x, x ≠ fo → (mKinds 5 0 fo v g2 wv).2.2 x = wv x := by
  obtain ⟨a1, a2, a3⟩ := kind_eq (t := 0) (v := v) h
  obtain ⟨q0, e0⟩ : ∃ q, q = buyK 0 (v, g) := ⟨_, rfl⟩
  obtain ⟨m0, f0⟩ : ∃ q, q = mKind 0 fo v g2 wv := ⟨_, rfl⟩
  rw [← e0, ← f0] at a1 a2
  rw [← f0] at a3
  obtain ⟨b1, b2, b3⟩ := kind_eq (t := 1) (v := m0.1) a2
  obtain ⟨q1, e1⟩ : ∃ q, q = buyK 1 (m0.1, q0.2) := ⟨_, rfl⟩
  obtain ⟨m1, f1⟩ : ∃ q, q = mKind 1 fo m0.1 m0.2.1 m0.2.2 := ⟨_, rfl⟩
  rw [← e1, ← f1] at b1 b2
  rw [← f1] at b3
  obtain ⟨c1, c2, c3⟩ := kind_eq (t := 2) (v := m1.1) b2
  obtain ⟨q2, e2⟩ : ∃ q, q = buyK 2 (m1.1, q1.2) := ⟨_, rfl⟩
  obtain ⟨m2, f2⟩ : ∃ q, q = mKind 2 fo m1.1 m1.2.1 m1.2.2 := ⟨_, rfl⟩
  rw [← e2, ← f2] at c1 c2
  rw [← f2] at c3
  obtain ⟨d1, d2, d3⟩ := kind_eq (t := 3) (v := m2.1) c2
  have eb : buyB v g = buyK 3 (m2.1, q2.2) := by
    unfold buyB
    rw [← e0, show q0 = (m0.1, q0.2) from by rw [← a1], ← e1, show q1 = (m1.1, q1.2) from by rw [← b1], ← e2, show q2 = (m2.1, q2.2) from by rw [← c1]]
  have em : mKinds 5 0 fo v g2 wv = mKind 3 fo m2.1 m2.2.1 m2.2.2 := by
    rw [mKinds, if_neg (by omega), ← f0, mKinds, if_neg (by omega), ← f1, mKinds, if_neg (by omega), ← f2, mKinds, if_neg (by omega), mKinds, if_pos (by omega)]
  rw [eb, em]
  exact ⟨d1, d2, fun x hx => (d3 x hx).trans ((c3 x hx).trans ((b3 x hx).trans (a3 x hx)))⟩
theorem pay_eq (v : Nat → Int32) : payD v = mPay v := imin_comm _ _
theorem reck_eq {fo : Nat} {v g g2 wv : Nat → Int32} (h : Gr g g2 wv fo) : colV (buyB v g).1 = (mReck fo v g2 wv).1 ∧ Gr (colG (buyB v g).1 (buyB v g).2) (mReck fo v g2 wv).2.1 (mReck fo v g2 wv).2.2 fo ∧ ∀ x, x ≠ fo → (mReck fo v g2 wv).2.2 x = wv x := by
  obtain ⟨a1, a2, a3⟩ := kinds_eq (v := v) h
  unfold mReck
  obtain ⟨q, e⟩ : ∃ q, q = mKinds 5 0 fo v g2 wv := ⟨_, rfl⟩
  rw [← e] at a1 a2 a3 ⊢
  unfold mRk2 colV colG
  rw [a1, pay_eq]
  refine ⟨upd_comm (by omega), ⟨lt5 ⟨?_, ?_, ?_, ?_, ?_⟩, a2.2⟩, a3⟩
  · exact a2.1 0 (by omega)
  · show (buyB v g).2 1 + mPay q.1 = q.2.1 1 + mPay q.1
    rw [a2.1 1 (by omega)]
  · exact a2.1 2 (by omega)
  · exact a2.1 3 (by omega)
  · exact a2.1 4 (by omega)
