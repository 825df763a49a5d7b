/-! THE DIGEST, THE RATE in class and model -/
theorem digest_eq {N F T A : Nat → Nat → Int32} {K : Nat → Int32} {c : Nat} {wv : Nat → Int32} (h : Cpl N (12 * 0) A 0 c) (hF : CplF F (4 * 0) A 1 wv) (hT0 : T 0 0 = K 1) (hT1 : T 0 1 = K 2) : digC N F T c = digM K A c := by
  unfold digC digM
  have f : ∀ i k, i < 4 → fogN N F 0 c (nI i) k = ftM A c i k := fun i k hi => fog_eq h hF hi
  have t : ∀ k, k ≤ 10 → totN N F T 0 c k = cdM K A c k := fun k hk => tot_eq0 h hF hT0 hT1 hk
  have f0 : ∀ k, fogN N F 0 c 0 k = ftM A c 0 k := fun k => f 0 k (by omega)
  have f1 : ∀ k, fogN N F 0 c 1 k = ftM A c 1 k := fun k => f 1 k (by omega)
  have f2 : ∀ k, fogN N F 0 c 2 k = ftM A c 2 k := fun k => f 2 k (by omega)
  have f3 : ∀ k, fogN N F 0 c 3 k = ftM A c 3 k := fun k => f 3 k (by omega)
  rw [t 0 (by omega), t 1 (by omega), t 2 (by omega), t 3 (by omega), t 4 (by omega), t 5 (by omega), t 6 (by omega), t 7 (by omega), t 8 (by omega), t 9 (by omega), t 10 (by omega), dig_eq h]
  simp only [f0, f1, f2, f3]
theorem rate_eq {v : Nat → Int32} : wHl (fuel 1 0) 1 0 v 0 = ((workH v).1, 0 + (workH v).2) := by
  rw [show fuel 1 0 = 1 + 1 from rfl, wHl, if_neg (by decide), wHl, if_pos (by decide)]
