/-! THE CLASS TRADE: rows, pure functions, the nailers' and foggers' contracts over a world that is not turned to them -/
section VHeap3
variable {p : Program} {l : Launch} {e : Env} {R : Room} {s : State} {m : MethodId} {args : Array Value} {below : List Frame} {meth : Method} {c : Code} {P : L5} {D : va_G} {Q : State → Prop} {nL k z pc : Nat} {lv : List (Nat × Value)} {st : List Value} {cc : ByteArray} {ret : Option FieldType} {own : String}
variable {N F T : Nat → Nat → Int32} {K : Nat → Int32} {A : Nat → Nat → Int32} {w : Int64}
theorem v_aaNk (C : Cx p l s m args meth c P D cc nL ret own) {t : Nat} (i9 : Nat) (ht : t < 2) {i : Int32} (hi : i.toNatClampNeg = i9) (hin : vp_in i 12) (hdg : decode cc pc = .ok (.aaload, 1)) (kk : V p l e R s m args below meth c P D Q nL (nW P) False (cw P N F T K A w) k z (pc + 1) lv (.ref (rN P (12 * t + i9)) :: st)) : V p l e R s m args below meth c P D Q nL (nW P) False (cw P N F T K A w) k z pc lv (.int i :: .ref (rNA P t) :: st) := by subst hi; exact v_aaN C ht hin hdg kk
theorem v_aaFk (C : Cx p l s m args meth c P D cc nL ret own) {t : Nat} (i9 : Nat) (ht : t < 2) {i : Int32} (hi : i.toNatClampNeg = i9) (hin : vp_in i 4) (hdg : decode cc pc = .ok (.aaload, 1)) (kk : V p l e R s m args below meth c P D Q nL (nW P) False (cw P N F T K A w) k z (pc + 1) lv (.ref (rF P (4 * t + i9)) :: st)) : V p l e R s m args below meth c P D Q nL (nW P) False (cw P N F T K A w) k z pc lv (.int i :: .ref (rFA P t) :: st) := by subst hi; exact v_aaF C ht hin hdg kk
end VHeap3
section VU
variable {l : Launch} {P : L5} {D : va_G} {N F T : Nat → Nat → Int32} {K : Nat → Int32} {A : Nat → Nat → Int32} {w : Int64}
theorem u_X1_workHour {j : Nat} (hj : j < 25) (hk : vp_in (N j 1) 4) : CtI l yX1_workHour cX1_workHour 3 .int 3 0 0 P D (nW P) (nW P) False (cw P N F T K A w) (cw P (va_up N j (workH (N j)).1) F T K A w) [.ref (rN P j)] (workH (N j)).2 := by
  have h := c_X1_workHour (l := l) (P := P) (D := D) (N := N) (F := F) (T := T) (K := K) (A := A) (w := w) hj hk
  rwa [va_up_eta] at h
theorem u_X1_workHours {j : Nat} (hj : j < 25) (hk : vp_in (N j 1) 4) {h : Int32} : CtI l yX1_workHours cX1_workHours 4 .int 4 0 0 P D (nW P) (nW P) False (cw P N F T K A w) (cw P (va_up N j (wHl (fuel h 0) h 0 (N j) 0).1) F T K A w) [.ref (rN P j), .int h] (wHl (fuel h 0) h 0 (N j) 0).2 := by
  have h := c_X1_workHours (l := l) (P := P) (D := D) (N := N) (F := F) (T := T) (K := K) (A := A) (w := w) hj hk (h := h)
  rwa [va_up_eta] at h
theorem u_X1_copyFrom {j i : Nat} (hj : j < 25) (hi : i < 25) (hne : i ≠ j) : CtV l yX1_copyFrom cX1_copyFrom 3 1 0 0 P D (nW P) (nW P) False (cw P N F T K A w) (cw P (va_up N j (N i)) F T K A w) [.ref (rN P j), .ref (rN P i)] := by
  have h := c_X1_copyFrom (l := l) (P := P) (D := D) (N := N) (F := F) (T := T) (K := K) (A := A) (w := w) (v := N j) hj hi hne
  rwa [va_up_eta] at h
theorem u_X1_begin {j : Nat} (hj : j < 25) {a b d : Int32} : CtV l yX1_begin cX1_begin 4 1 0 0 P D (nW P) (nW P) False (cw P N F T K A w) (cw P (va_up N j (upd (upd (upd (N j) 0 a) 1 b) 2 d)) F T K A w) [.ref (rN P j), .int a, .int b, .int d] := by
  have h := c_X1_begin (l := l) (P := P) (D := D) (N := N) (F := F) (T := T) (K := K) (A := A) (w := w) (v := N j) hj (a := a) (b := b) (d := d)
  rwa [va_up_eta] at h
theorem u_X0_copyFrom {i j : Nat} (hi : i < 8) (hj : j < 8) (hne : j ≠ i) : CtV l yX0_copyFrom cX0_copyFrom 2 1 0 0 P D (nW P) (nW P) False (cw P N F T K A w) (cw P N (va_up F i (F j)) T K A w) [.ref (rF P i), .ref (rF P j)] := by
  have h := c_X0_copyFrom (l := l) (P := P) (D := D) (N := N) (F := F) (T := T) (K := K) (A := A) (w := w) (g := F i) hi hj hne
  rwa [va_up_eta] at h
theorem u_X0_deliver {i : Nat} (hi : i < 8) : CtV l yX0_deliver cX0_deliver 1 1 0 0 P D (nW P) (nW P) False (cw P N F T K A w) (cw P N (va_up F i (dlv (F i))) T K A w) [.ref (rF P i)] := by
  have h := c_X0_deliver (l := l) (P := P) (D := D) (N := N) (F := F) (T := T) (K := K) (A := A) (w := w) (g := F i) hi
  rwa [va_up_eta] at h
theorem u_X0_buyBags {i j : Nat} (hi : i < 8) (hj : j < 25) : CtV l yX0_buyBags cX0_buyBags 4 1 0 0 P D (nW P) (nW P) False (cw P N F T K A w) (cw P (va_up N j (buyB (N j) (F i)).1) (va_up F i (buyB (N j) (F i)).2) T K A w) [.ref (rF P i), .ref (rN P j)] := by
  have h := c_X0_buyBags (l := l) (P := P) (D := D) (N := N) (F := F) (T := T) (K := K) (A := A) (w := w) (g := F i) (v := N j) hi hj
  rwa [va_up_eta, va_up_eta] at h
end VU
def goN : Nat → Nat → Nat → Nat → (Nat → Nat → Int32) → Int32 → (Nat → Nat → Int32) × Int32
  | 0, _, _, _, N, sm => (N, sm)
  | n + 1, c, b, i, N, sm => if c ≤ i then (N, sm) else goN n c b (i + 1) (va_up N (b + i) (workH (N (b + i))).1) (sm + (workH (N (b + i))).2)
def rk1 (N F : Nat → Nat → Int32) (j i : Nat) : (Nat → Nat → Int32) × (Nat → Nat → Int32) := (va_up N j (colV (buyB (N j) (F i)).1), va_up F i (colG (buyB (N j) (F i)).1 (buyB (N j) (F i)).2))
def rkN : Nat → Nat → Nat → Nat → Nat → (Nat → Nat → Int32) → (Nat → Nat → Int32) → (Nat → Nat → Int32) × (Nat → Nat → Int32)
  | 0, _, _, _, _, N, F => (N, F)
  | n + 1, c, b, fb, i, N, F => if c ≤ i then (N, F) else rkN n c b fb (i + 1) (rk1 N F (b + i) (fb + (N (b + i) 2).toNatClampNeg)).1 (rk1 N F (b + i) (fb + (N (b + i) 2).toNatClampNeg)).2
def dl1 (F : Nat → Nat → Int32) (i : Nat) : Nat → Nat → Int32 := va_up F i (dlv (F i))
def dl4 (F : Nat → Nat → Int32) (fb : Nat) : Nat → Nat → Int32 := dl1 (dl1 (dl1 (dl1 F (fb + 0)) (fb + 1)) (fb + 2)) (fb + 3)
def weekR (c b fb : Nat) (N F : Nat → Nat → Int32) : (Nat → Nat → Int32) × (Nat → Nat → Int32) := ((rkN (c + 1) c b fb 0 N F).1, dl4 (rkN (c + 1) c b fb 0 N F).2 fb)
/-- an hour: nailers, foggers, and the good nails -/
def hourN (c b fb : Nat) (now : Int32) (N F : Nat → Nat → Int32) : (Nat → Nat → Int32) × (Nat → Nat → Int32) := if now - now / 48 * 48 = 47 then weekR c b fb (goN (c + 1) c b 0 N 0).1 F else ((goN (c + 1) c b 0 N 0).1, F)
def hourG (c b : Nat) (N : Nat → Nat → Int32) : Int32 := (goN (c + 1) c b 0 N 0).2
def hourT (T : Nat → Nat → Int32) (t : Nat) : Nat → Nat → Int32 := va_up T t (upd (T t) 0 (T t 0 + 1))
def goB : Nat → Int32 → Int32 → Nat → Nat → (Nat → Nat → Int32) → (Nat → Nat → Int32) → (Nat → Nat → Int32) → Int32 → (Nat → Nat → Int32) × (Nat → Nat → Int32) × (Nat → Nat → Int32) × Int32
  | 0, _, _, _, _, N, F, T, sm => (N, F, T, sm)
  | n + 1, h, i, c, t, N, F, T, sm => if h ≤ i then (N, F, T, sm) else goB n h (i + 1) c t (hourN c (12 * t) (4 * t) (T t 0) N F).1 (hourN c (12 * t) (4 * t) (T t 0) N F).2 (hourT T t) (sm + hourG c (12 * t) N)
def cpN : Nat → Nat → Nat → Nat → Nat → (Nat → Nat → Int32) → Nat → Nat → Int32
  | 0, _, _, _, _, N => N
  | n + 1, c, b, d, i, N => if c ≤ i then N else cpN n c b d (i + 1) (va_up N (b + i) (N (d + i)))
def cp1 (F : Nat → Nat → Int32) (i j : Nat) : Nat → Nat → Int32 := va_up F i (F j)
def cp4 (F : Nat → Nat → Int32) (b d : Nat) : Nat → Nat → Int32 := cp1 (cp1 (cp1 (cp1 F (b + 0) (d + 0)) (b + 1) (d + 1)) (b + 2) (d + 2)) (b + 3) (d + 3)
def shS : Nat → Nat → Nat → Nat → Nat → (Nat → Nat → Int32) → Int32 → Int32
  | 0, _, _, _, _, _, sm => sm
  | n + 1, k, c, b, i, N, sm => if c ≤ i then sm else shS n k c b (i + 1) N (sm + share (N (b + i)) k)
def wkF : Nat → Int32 → Nat → Nat → Nat → (Nat → Nat → Int32) → Int32 → Int32
  | 0, _, _, _, _, _, sm => sm
  | n + 1, q, c, b, i, N, sm => if c ≤ i then sm else wkF n q c b (i + 1) N (if N (b + i) 2 = q then sm + 1 else sm)
def boughtF (F : Nat → Nat → Int32) (fb : Nat) : Int32 := 0 + F (fb + 0) 2 + F (fb + 1) 2 + F (fb + 2) 2 + F (fb + 3) 2
def totN (N F T : Nat → Nat → Int32) (t c k : Nat) : Int32 := if k = 0 then T t 0 else if k = 1 then T t 1 else if k = 6 then boughtF F (4 * t) else shS (c + 1) k c (12 * t) 0 N 0
def fogN (N F : Nat → Nat → Int32) (t c : Nat) (q : Int32) (k : Nat) : Int32 :=
  if k = 0 then F (4 * t + q.toNatClampNeg) 0 else if k = 1 then F (4 * t + q.toNatClampNeg) 1 else if k = 2 then wkF (c + 1) q c (12 * t) 0 N 0 else if k = 3 then F (4 * t + q.toNatClampNeg) 2 else if k = 4 then F (4 * t + q.toNatClampNeg) 3 else F (4 * t + q.toNatClampNeg) 4 - F (4 * t + q.toNatClampNeg) 3
/-- kinds and foggers of the nailers -/
def KF (N : Nat → Nat → Int32) (b c : Nat) : Prop := ∀ k, k < c → vp_in (N (b + k) 1) 4 ∧ vp_in (N (b + k) 2) 4
theorem leC {a : Int32} {c i : Nat} (hc : a = nI c) (h12 : c ≤ 12) (hi : i ≤ c) : a ≤ nI i ↔ c ≤ i := by
  rw [hc]
  exact nI_leI (by omega) (by omega)
theorem tend_2 (v : Nat → Int32) : tend v 2 = v 2 := by unfold tend; split <;> rfl
theorem hlp_2 : ∀ (n : Nat) (most : Int32) (v : Nat → Int32) (hd : Int32), (hlp n most v hd).1 2 = v 2
  | 0, _, _, _ => rfl
  | n + 1, most, v, hd => by
    unfold hlp
    split
    · rfl
    · split
      · rfl
      · rw [hlp_2 n]; rfl
theorem head_2 (v : Nat → Int32) (a : Int32) : (head v a).1 2 = v 2 := by unfold head; rw [hlp_2]; rfl
theorem store_2 (v : Nat → Int32) (a : Int32) : store v a 2 = v 2 := by
  unfold store
  rw [upd_ge (by omega)]
  unfold sto3
  rw [upd_ge (by omega)]
  unfold sto2
  rw [upd_ge (by omega)]
  rfl
theorem workH_2 (v : Nat → Int32) : (workH v).1 2 = v 2 := by
  unfold workH
  split
  · simp only [workB, store_2]
    rw [upd_ge (by omega), head_2, tend_2]
  · exact tend_2 v
theorem bagL_k {k t : Nat} (hk : k < 3) : ∀ (n : Nat) (pr : Int32) (v g : Nat → Int32), (bagL n pr t v g).1 k = v k
  | 0, _, _, _ => rfl
  | n + 1, pr, v, g => by
    unfold bagL
    split
    · rfl
    · split
      · rfl
      · rw [bagL_k hk n]
        unfold bag1
        rw [upd_ge (by omega), upd_ge (by omega)]
theorem buyB_k {k : Nat} (hk : k < 3) (v g : Nat → Int32) : (buyB v g).1 k = v k := by
  unfold buyB buyK
  rw [bagL_k hk, bagL_k hk, bagL_k hk, bagL_k hk]
theorem colV_k {k : Nat} (hk : k < 3) (v : Nat → Int32) : colV v k = v k := by
  unfold colV
  rw [upd_ge (by omega), upd_ge (by omega)]
theorem KF_up {N : Nat → Nat → Int32} {b c j : Nat} {v : Nat → Int32} (h : KF N b c) (h1 : v 1 = N j 1) (h2 : v 2 = N j 2) : KF (va_up N j v) b c := by
  intro k hk
  by_cases hj : b + k = j
  · rw [hj, va_up_self, h1, h2, ← hj]
    exact h k hk
  · rw [va_up_ne _ _ hj]
    exact h k hk
theorem KF_goN {b c : Nat} : ∀ (n i : Nat) (N : Nat → Nat → Int32) (sm : Int32), KF N b c → KF (goN n c b i N sm).1 b c
  | 0, _, _, _, h => h
  | n + 1, i, N, sm, h => by
    unfold goN
    split
    · exact h
    · exact KF_goN n _ _ _ (KF_up h (workH_1 _) (workH_2 _))
theorem KF_rkN {b c fb : Nat} : ∀ (n i : Nat) (N F : Nat → Nat → Int32), KF N b c → KF (rkN n c b fb i N F).1 b c
  | 0, _, _, _, h => h
  | n + 1, i, N, F, h => by
    unfold rkN
    split
    · exact h
    · refine KF_rkN n _ _ _ (KF_up h ?_ ?_)
      · rw [colV_k (by omega), buyB_k (by omega)]
      · rw [colV_k (by omega), buyB_k (by omega)]
theorem KF_hour {b c fb : Nat} {now : Int32} {N F : Nat → Nat → Int32} (h : KF N b c) : KF (hourN c b fb now N F).1 b c := by
  unfold hourN
  split
  · exact KF_rkN _ _ _ _ (KF_goN _ _ _ _ h)
  · exact KF_goN _ _ _ _ h
