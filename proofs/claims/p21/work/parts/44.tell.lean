/-! THE CALLS, told with natural numbers -/
section Tell
variable {l : Launch} {P : L5} {D : va_G} {N F T : Nat → Nat → Int32} {K : Nat → Int32} {A : Nat → Nat → Int32} {w : Int64} {c k : Nat}
theorem lt_c (hT : T 0 1 = nI c) (h12 : c ≤ 12) (hk : k < c) : nI k < T 0 1 := by
  rw [hT]
  exact nI_lt hk (by omega)
theorem t_told_0 (hT : T 0 1 = nI c) (h12 : c ≤ 12) (hk : k < c) : CtI l yX3_told cX3_told 3 .int 6 0 0 P D (nW P) (nW P) False (cw P N F T K A w) (cw P N F T K A w) [.ref (rX P), .int (nI k), .int 0] (N k 0) := by
  have h := c_X3_told_0 (l := l) (P := P) (D := D) (N := N) (F := F) (K := K) (A := A) (w := w) hT h12 (p := nI k) (nI_pos (by omega)) (lt_c hT h12 hk)
  rw [nI_clamp (by omega)] at h
  simp only [Nat.mul_zero, Nat.zero_add] at h
  exact h
theorem t_told_1 (hT : T 0 1 = nI c) (h12 : c ≤ 12) (hk : k < c) : CtI l yX3_told cX3_told 3 .int 6 0 0 P D (nW P) (nW P) False (cw P N F T K A w) (cw P N F T K A w) [.ref (rX P), .int (nI k), .int 1] (N k 1) := by
  have h := c_X3_told_1 (l := l) (P := P) (D := D) (N := N) (F := F) (K := K) (A := A) (w := w) hT h12 (p := nI k) (nI_pos (by omega)) (lt_c hT h12 hk)
  rw [nI_clamp (by omega)] at h
  simp only [Nat.mul_zero, Nat.zero_add] at h
  exact h
theorem t_told_2 (hT : T 0 1 = nI c) (h12 : c ≤ 12) (hk : k < c) : CtI l yX3_told cX3_told 3 .int 6 0 0 P D (nW P) (nW P) False (cw P N F T K A w) (cw P N F T K A w) [.ref (rX P), .int (nI k), .int 2] (N k 2) := by
  have h := c_X3_told_2 (l := l) (P := P) (D := D) (N := N) (F := F) (K := K) (A := A) (w := w) hT h12 (p := nI k) (nI_pos (by omega)) (lt_c hT h12 hk)
  rw [nI_clamp (by omega)] at h
  simp only [Nat.mul_zero, Nat.zero_add] at h
  exact h
theorem t_told_3 (hT : T 0 1 = nI c) (h12 : c ≤ 12) (hk : k < c) : CtI l yX3_told cX3_told 3 .int 6 0 0 P D (nW P) (nW P) False (cw P N F T K A w) (cw P N F T K A w) [.ref (rX P), .int (nI k), .int 3] (N k 3) := by
  have h := c_X3_told_3 (l := l) (P := P) (D := D) (N := N) (F := F) (K := K) (A := A) (w := w) hT h12 (p := nI k) (nI_pos (by omega)) (lt_c hT h12 hk)
  rw [nI_clamp (by omega)] at h
  simp only [Nat.mul_zero, Nat.zero_add] at h
  exact h
theorem t_told_4 (hT : T 0 1 = nI c) (h12 : c ≤ 12) (hk : k < c) : CtI l yX3_told cX3_told 3 .int 6 0 0 P D (nW P) (nW P) False (cw P N F T K A w) (cw P N F T K A w) [.ref (rX P), .int (nI k), .int 4] (N k 4) := by
  have h := c_X3_told_4 (l := l) (P := P) (D := D) (N := N) (F := F) (K := K) (A := A) (w := w) hT h12 (p := nI k) (nI_pos (by omega)) (lt_c hT h12 hk)
  rw [nI_clamp (by omega)] at h
  simp only [Nat.mul_zero, Nat.zero_add] at h
  exact h
theorem t_told_5 (hT : T 0 1 = nI c) (h12 : c ≤ 12) (hk : k < c) : CtI l yX3_told cX3_told 3 .int 6 0 0 P D (nW P) (nW P) False (cw P N F T K A w) (cw P N F T K A w) [.ref (rX P), .int (nI k), .int 5] (N k 5) := by
  have h := c_X3_told_5 (l := l) (P := P) (D := D) (N := N) (F := F) (K := K) (A := A) (w := w) hT h12 (p := nI k) (nI_pos (by omega)) (lt_c hT h12 hk)
  rw [nI_clamp (by omega)] at h
  simp only [Nat.mul_zero, Nat.zero_add] at h
  exact h
theorem t_told_6 (hT : T 0 1 = nI c) (h12 : c ≤ 12) (hk : k < c) : CtI l yX3_told cX3_told 3 .int 6 0 0 P D (nW P) (nW P) False (cw P N F T K A w) (cw P N F T K A w) [.ref (rX P), .int (nI k), .int 6] (N k 6) := by
  have h := c_X3_told_6 (l := l) (P := P) (D := D) (N := N) (F := F) (K := K) (A := A) (w := w) hT h12 (p := nI k) (nI_pos (by omega)) (lt_c hT h12 hk)
  rw [nI_clamp (by omega)] at h
  simp only [Nat.mul_zero, Nat.zero_add] at h
  exact h
theorem t_told_7 (hT : T 0 1 = nI c) (h12 : c ≤ 12) (hk : k < c) : CtI l yX3_told cX3_told 3 .int 6 0 0 P D (nW P) (nW P) False (cw P N F T K A w) (cw P N F T K A w) [.ref (rX P), .int (nI k), .int 7] (N k 7) := by
  have h := c_X3_told_7 (l := l) (P := P) (D := D) (N := N) (F := F) (K := K) (A := A) (w := w) hT h12 (p := nI k) (nI_pos (by omega)) (lt_c hT h12 hk)
  rw [nI_clamp (by omega)] at h
  simp only [Nat.mul_zero, Nat.zero_add] at h
  exact h
theorem t_told_8 (hT : T 0 1 = nI c) (h12 : c ≤ 12) (hk : k < c) : CtI l yX3_told cX3_told 3 .int 6 0 0 P D (nW P) (nW P) False (cw P N F T K A w) (cw P N F T K A w) [.ref (rX P), .int (nI k), .int 8] (N k 8) := by
  have h := c_X3_told_8 (l := l) (P := P) (D := D) (N := N) (F := F) (K := K) (A := A) (w := w) hT h12 (p := nI k) (nI_pos (by omega)) (lt_c hT h12 hk)
  rw [nI_clamp (by omega)] at h
  simp only [Nat.mul_zero, Nat.zero_add] at h
  exact h
theorem t_told_9 (hT : T 0 1 = nI c) (h12 : c ≤ 12) (hk : k < c) : CtI l yX3_told cX3_told 3 .int 6 0 0 P D (nW P) (nW P) False (cw P N F T K A w) (cw P N F T K A w) [.ref (rX P), .int (nI k), .int 9] (N k 9) := by
  have h := c_X3_told_9 (l := l) (P := P) (D := D) (N := N) (F := F) (K := K) (A := A) (w := w) hT h12 (p := nI k) (nI_pos (by omega)) (lt_c hT h12 hk)
  rw [nI_clamp (by omega)] at h
  simp only [Nat.mul_zero, Nat.zero_add] at h
  exact h
theorem t_told_10 (hT : T 0 1 = nI c) (h12 : c ≤ 12) (hk : k < c) : CtI l yX3_told cX3_told 3 .int 6 0 0 P D (nW P) (nW P) False (cw P N F T K A w) (cw P N F T K A w) [.ref (rX P), .int (nI k), .int 10] (N k 10) := by
  have h := c_X3_told_10 (l := l) (P := P) (D := D) (N := N) (F := F) (K := K) (A := A) (w := w) hT h12 (p := nI k) (nI_pos (by omega)) (lt_c hT h12 hk)
  rw [nI_clamp (by omega)] at h
  simp only [Nat.mul_zero, Nat.zero_add] at h
  exact h
theorem t_told_11 (hT : T 0 1 = nI c) (h12 : c ≤ 12) (hk : k < c) : CtI l yX3_told cX3_told 3 .int 6 0 0 P D (nW P) (nW P) False (cw P N F T K A w) (cw P N F T K A w) [.ref (rX P), .int (nI k), .int 11] (N k 11) := by
  have h := c_X3_told_11 (l := l) (P := P) (D := D) (N := N) (F := F) (K := K) (A := A) (w := w) hT h12 (p := nI k) (nI_pos (by omega)) (lt_c hT h12 hk)
  rw [nI_clamp (by omega)] at h
  simp only [Nat.mul_zero, Nat.zero_add] at h
  exact h
theorem t_nails_0 (hT : T 0 1 = nI c) (h12 : c ≤ 12) (hk : k < c) {t : Nat} (ht : t < 4) : CtI l yX3_nails cX3_nails 5 .int 6 0 0 P D (nW P) (nW P) False (cw P N F T K A w) (cw P N F T K A w) [.ref (rX P), .int (nI k), .int (nI t), .int 0] (N k (12 + t)) := by
  have h := c_X3_nails_0 (l := l) (P := P) (D := D) (N := N) (F := F) (K := K) (A := A) (w := w) hT h12 (p := nI k) (nI_pos (by omega)) (lt_c hT h12 hk) (q := nI t) (nI_pos (by omega)) (nI_lt (b := 4) ht (by omega))
  rw [nI_clamp (by omega), nI_clamp (by omega)] at h
  simp only [Nat.mul_zero, Nat.zero_add] at h
  exact h
theorem t_nails_1 (hT : T 0 1 = nI c) (h12 : c ≤ 12) (hk : k < c) {t : Nat} (ht : t < 4) : CtI l yX3_nails cX3_nails 5 .int 6 0 0 P D (nW P) (nW P) False (cw P N F T K A w) (cw P N F T K A w) [.ref (rX P), .int (nI k), .int (nI t), .int 1] (N k (16 + t)) := by
  have h := c_X3_nails_1 (l := l) (P := P) (D := D) (N := N) (F := F) (K := K) (A := A) (w := w) hT h12 (p := nI k) (nI_pos (by omega)) (lt_c hT h12 hk) (q := nI t) (nI_pos (by omega)) (nI_lt (b := 4) ht (by omega))
  rw [nI_clamp (by omega), nI_clamp (by omega)] at h
  simp only [Nat.mul_zero, Nat.zero_add] at h
  exact h
theorem t_lend (hT : T 0 1 = nI c) (h12 : c ≤ 12) (hk : k < c) {q : Int32} (h3 : ¬ q < 1) (h4 : q ≤ 20) (h5 : N k 8 + q * 3 ≤ 90) : CtI l yX3_lend cX3_lend 5 .int 6 0 0 P D (nW P) (nW P) False (cw P N F T K A w) (cw P (va_up N k (upd (upd (N k) 3 (N k 3 + q)) 8 (N k 8 + q * 3))) F T K A w) [.ref (rX P), .int (nI k), .int q] (N k 8 + q * 3) := by
  have h := c_X3_lend (l := l) (P := P) (D := D) (N := N) (F := F) (K := K) (A := A) (w := w) hT h12 (p := nI k) (nI_pos (by omega)) (lt_c hT h12 hk) h3 h4 (by rw [nI_clamp (by omega), Nat.mul_zero, Nat.zero_add]; exact h5)
  rw [nI_clamp (by omega)] at h
  simp only [Nat.mul_zero, Nat.zero_add] at h
  exact h
theorem t_coal (hT : T 0 1 = nI c) (h12 : c ≤ 12) (hk : k < c) {q : Int32} (h3 : ¬ q < 1) (h4 : q ≤ 99) (h5 : ¬ N k 7 < ((q + 4 - 1) / 4)) (h6 : N k 6 + q ≤ 99) : CtI l yX3_coal cX3_coal 5 .int 6 0 0 P D (nW P) (nW P) False (cw P N F T K A w) (cw P (va_up N k (upd (upd (N k) 7 (N k 7 - ((q + 4 - 1) / 4))) 6 (N k 6 + q))) F T K A w) [.ref (rX P), .int (nI k), .int q] (N k 6 + q) := by
  have h := c_X3_coal (l := l) (P := P) (D := D) (N := N) (F := F) (K := K) (A := A) (w := w) hT h12 (p := nI k) (nI_pos (by omega)) (lt_c hT h12 hk) h3 h4 (by rw [nI_clamp (by omega), Nat.mul_zero, Nat.zero_add]; exact h5) (by rw [nI_clamp (by omega), Nat.mul_zero, Nat.zero_add]; exact h6)
  rw [nI_clamp (by omega)] at h
  simp only [Nat.mul_zero, Nat.zero_add] at h
  exact h
theorem t_keep (hk : k < 4) {q : Int32} (h3 : ¬ q < 0) (h4 : q ≤ 60) : CtI l yX3_keep cX3_keep 4 .int 6 0 0 P D (nW P) (nW P) False (cw P N F T K A w) (cw P N (va_up F k (upd (F k) 0 q)) T K A w) [.ref (rX P), .int (nI k), .int q] (F k 0) := by
  have h := c_X3_keep (l := l) (P := P) (D := D) (N := N) (F := F) (T := T) (K := K) (A := A) (w := w) (p := nI k) (nI_pos (by omega)) (nI_lt (b := 4) hk (by omega)) h3 h4
  rw [nI_clamp (by omega)] at h
  simp only [Nat.mul_zero, Nat.zero_add] at h
  exact h
theorem t_nailer (hT : T 0 1 = nI c) (h12 : c < 12) {p q u : Int32} (h1 : ¬ q < 0) (h2 : q < 4) (h3 : ¬ u < 0) (h4 : u < 4) (h5 : ¬ p < 1) (h6 : p ≤ 9) : CtI l yX3_nailer cX3_nailer 5 .int 6 0 0 P D (nW P) (nW P) False (cw P N F T K A w) (cw P (va_up N c (upd (upd (upd (N c) 0 p) 1 q) 2 u)) F (va_up T 0 (upd (T 0) 1 (T 0 1 + 1))) K A w) [.ref (rX P), .int p, .int q, .int u] (T 0 1) := by
  have h := c_X3_nailer (l := l) (P := P) (D := D) (N := N) (F := F) (K := K) (A := A) (w := w) hT (by omega) h1 h2 h3 h4 h5 h6 h12
  simp only [Nat.mul_zero, Nat.zero_add] at h
  exact h
theorem t_rate (hT : T 0 1 = nI c) (h12 : c ≤ 12) (hk : k < c) (hv : vp_in (N k 1) 4) : CtI l yX3_rate cX3_rate 2 .int 6 0 0 P D (nW P) (nW P) False (cw P N F T K A w) (cw P (va_up (trialN N k) 24 (whl1 (N k)).1) F T K A w) [.ref (rX P), .int (nI k)] (whl1 (N k)).2 := by
  have h := c_X3_rate (l := l) (P := P) (D := D) (N := N) (F := F) (K := K) (A := A) (w := w) hT h12 (p := nI k) (nI_pos (by omega)) (lt_c hT h12 hk) (by rw [nI_clamp (by omega), Nat.mul_zero, Nat.zero_add]; exact hv)
  rw [nI_clamp (by omega)] at h
  simp only [Nat.mul_zero, Nat.zero_add] at h
  rw [show trialN N k 24 = N k from va_up_self _ _ _] at h
  exact h
theorem t_advise (hT : T 0 1 = nI c) (h12 : c ≤ 12) (hk : k < c) : CtI l yX3_advise cX3_advise 7 .int 6 0 0 P D (nW P) (nW P) False (cw P N F T K A w) (cw P (advL 5 3 k 0 N 0 (-1)).1 F T K A w) [.ref (rX P), .int (nI k), .int 3] (advL 5 3 k 0 N 0 (-1)).2 := by
  have h := c_X3_advise (l := l) (P := P) (D := D) (N := N) (F := F) (K := K) (A := A) (w := w) hT h12 (p := nI k) (nI_pos (by omega)) (lt_c hT h12 hk) (q := 3) (by decide) (by decide)
  rw [nI_clamp (by omega)] at h
  simp only [Nat.mul_zero, Nat.zero_add] at h
  exact h
theorem t_fogger_1 (hT : T 0 1 = nI c) (h12 : c ≤ 12) (hk : k < 4) : CtI l yX3_fogger cX3_fogger 3 .int 6 0 0 P D (nW P) (nW P) False (cw P N F T K A w) (cw P N F T K A w) [.ref (rX P), .int (nI k), .int 1] (F k 1) := by
  have h := c_X3_fogger_1 (l := l) (P := P) (D := D) (N := N) (F := F) (K := K) (A := A) (w := w) hT h12 (p := nI k) (nI_pos (by omega)) (nI_lt (b := 4) hk (by omega))
  have e : fogN N F 0 c (nI k) 1 = F k 1 := by
    unfold fogN
    rw [nI_clamp (by omega), Nat.mul_zero, Nat.zero_add]
    rfl
  rw [e] at h
  exact h
theorem t_fogger_3 (hT : T 0 1 = nI c) (h12 : c ≤ 12) (hk : k < 4) : CtI l yX3_fogger cX3_fogger 3 .int 6 0 0 P D (nW P) (nW P) False (cw P N F T K A w) (cw P N F T K A w) [.ref (rX P), .int (nI k), .int 3] (F k 2) := by
  have h := c_X3_fogger_3 (l := l) (P := P) (D := D) (N := N) (F := F) (K := K) (A := A) (w := w) hT h12 (p := nI k) (nI_pos (by omega)) (nI_lt (b := 4) hk (by omega))
  have e : fogN N F 0 c (nI k) 3 = F k 2 := by
    unfold fogN
    rw [nI_clamp (by omega), Nat.mul_zero, Nat.zero_add]
    rfl
  rw [e] at h
  exact h
theorem t_fogger_5 (hT : T 0 1 = nI c) (h12 : c ≤ 12) (hk : k < 4) : CtI l yX3_fogger cX3_fogger 3 .int 6 0 0 P D (nW P) (nW P) False (cw P N F T K A w) (cw P N F T K A w) [.ref (rX P), .int (nI k), .int 5] (F k 4 - F k 3) := by
  have h := c_X3_fogger_5 (l := l) (P := P) (D := D) (N := N) (F := F) (K := K) (A := A) (w := w) hT h12 (p := nI k) (nI_pos (by omega)) (nI_lt (b := 4) hk (by omega))
  have e : fogN N F 0 c (nI k) 5 = F k 4 - F k 3 := by
    unfold fogN
    rw [nI_clamp (by omega), Nat.mul_zero, Nat.zero_add]
    rfl
  rw [e] at h
  exact h
end Tell
