/-! HOURS THAT GO BY, AND THAT WOULD GO BY -/
theorem T_eta {T : Nat → Nat → Int32} {t : Nat} {now : Int32} (h : T t 0 = now) : va_up T t (upd (T t) 0 now) = T := by
  rw [← h, upd_self, va_up_eta]
theorem T_step {T : Nat → Nat → Int32} {t : Nat} {now : Int32} : va_up (hourT T t) t (upd (hourT T t t) 0 now) = va_up T t (upd (T t) 0 now) := by
  unfold hourT
  rw [va_up_self, va_up_two, upd_twice]
theorem hourT_0 {T : Nat → Nat → Int32} {t : Nat} : hourT T t t 0 = T t 0 + 1 := by
  unfold hourT
  rw [va_up_self, upd_at]
theorem pass_eq {t c B : Nat} {h : Int32} (hB : B < 2 ^ 29) : ∀ (n : Nat) (i now : Int32) (N F T A : Nat → Nat → Int32) (sm : Int32), Cpl N (12 * t) A 0 c → Rws A 0 c B → CplF F (4 * t) A 1 (fun _ => 0) → T t 0 = now →
    Cpl (goB n h i c t N F T sm).1 (12 * t) (passM n h i c now A sm).1 0 c ∧ Rws (passM n h i c now A sm).1 0 c B ∧ CplF (goB n h i c t N F T sm).2.1 (4 * t) (passM n h i c now A sm).1 1 (fun _ => 0) ∧ (goB n h i c t N F T sm).2.2.1 = va_up T t (upd (T t) 0 (passM n h i c now A sm).2.1) ∧ (goB n h i c t N F T sm).2.2.2 = (passM n h i c now A sm).2.2
  | 0, i, now, N, F, T, A, sm, h1, h2, h3, h4 => ⟨h1, h2, h3, (T_eta h4).symm, rfl⟩
  | n + 1, i, now, N, F, T, A, sm, h1, h2, h3, h4 => by
    unfold goB passM
    by_cases hc : h ≤ i
    · rw [if_pos hc, if_pos hc]
      exact ⟨h1, h2, h3, (T_eta h4).symm, rfl⟩
    · rw [if_neg hc, if_neg hc, h4]
      obtain ⟨a1, a2, a3, a4⟩ := hour_eq (now := now) hB (show (0 : Nat) ≠ 4 by omega) (show (1 : Nat) ≠ 4 by omega) (show (0 : Nat) ≠ 1 by omega) h1 h2 h3 (fun A' e => by rw [← e]; exact goM_off (by omega) _ _ _ _)
      rw [a4]
      obtain ⟨b1, b2, b3, b4, b5⟩ := pass_eq hB n (i + 1) (now + 1) _ _ (hourT T t) _ (sm + hourMG c 0 A) a1 a2 a3 (by rw [hourT_0, h4])
      rw [T_step] at b4
      exact ⟨b1, b2, b3, b4, b5⟩
theorem ahead_eq {t c B : Nat} {h : Int32} (hB : B < 2 ^ 29) : ∀ (n : Nat) (i now : Int32) (N F T A : Nat → Nat → Int32) (sm : Int32), Cpl N (12 * t) A 2 c → Rws A 2 c B → CplF F (4 * t) A 3 (fun _ => 0) → T t 0 = now + i →
    Cpl (goB n h i c t N F T sm).1 (12 * t) (aheadM n h i c now A) 2 c ∧ Rws (aheadM n h i c now A) 2 c B ∧ CplF (goB n h i c t N F T sm).2.1 (4 * t) (aheadM n h i c now A) 3 (fun _ => 0)
  | 0, i, now, N, F, T, A, sm, h1, h2, h3, h4 => ⟨h1, h2, h3⟩
  | n + 1, i, now, N, F, T, A, sm, h1, h2, h3, h4 => by
    unfold goB aheadM
    by_cases hc : h ≤ i
    · rw [if_pos hc, if_pos hc]
      exact ⟨h1, h2, h3⟩
    · rw [if_neg hc, if_neg hc, h4]
      obtain ⟨a1, a2, a3, a4⟩ := hour_eq (now := now + i) hB (show (2 : Nat) ≠ 4 by omega) (show (3 : Nat) ≠ 4 by omega) (show (2 : Nat) ≠ 3 by omega) h1 h2 h3 (fun A' e => by rw [← e]; exact goM_off (by omega) _ _ _ _)
      exact ahead_eq hB n (i + 1) now _ _ (hourT T t) _ _ a1 a2 a3 (by rw [hourT_0, h4, Int32.add_assoc])
