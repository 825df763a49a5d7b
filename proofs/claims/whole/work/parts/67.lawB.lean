/-! THE LAW: a block for each call (B) -/
section LawBlocks
variable {p : Program} {l : Launch} {e : Env} {s : State} {m : MethodId} {below : List Frame} {meth : Method} {c : Code} {P : L5} {D : va_G} {Q : State → Prop} {b L : Nat} {xs : Nat → Int32} {N F T : Nat → Nat → Int32} {K : Nat → Int32} {A : Nat → Nat → Int32} {w : Int64} {cn B i k z : Nat}
set_option maxHeartbeats 4000000 in
theorem b_fogger (C : Cx p l s m #[Value.ref b] meth c P D code 9 ret RL) (hX : va_X b L xs s s.heap) (hbl : b < s.heap.size) (hbP : b < P.1) (hL : L ≤ 2048) (hi : i + 4 ≤ L) (hl9 : l.stackTraces = false) (hI : Inv N F T K A cn B) (hB : B < 2 ^ 28) (hk : k + 1 ≤ 672103) (hz : z + 6 ≤ 7079794) (kk : ∀ (N2 F2 T2 : Nat → Nat → Int32) (K2 : Nat → Int32) (A2 : Nat → Nat → Int32) (c2 : Nat) (w2 : Int64) (k2 z2 : Nat), Inv N2 F2 T2 K2 A2 c2 (B + 20) → k2 ≤ k + 1 → z2 ≤ z + 6 → V p l e room_1 s m #[Value.ref b] below meth c P D Q 9 97 False (cw P N2 F2 T2 K2 A2 w2) k2 z2 1200 [(4, .int (nI i)), (3, .ref (rO P)), (2, .ref (rM P)), (1, .ref (rX P)), (0, .ref b)] []) : V p l e room_1 s m #[Value.ref b] below meth c P D Q 9 97 False (cw P N F T K A w) k z 692 [(4, .int (nI i)), (3, .ref (rO P)), (2, .ref (rM P)), (1, .ref (rX P)), (0, .ref b)] [] := by
  obtain ⟨N2, F2, T2, K2, A2, c2, w2, mc, ms, h2, mc2, ms2, k9, r9, hW, hM, hk9, hr9, hI2, hmc, hms, hh9⟩ := s_fogger (l := l) (P := P) (D := D) (w := w) hI hB hl9 (xs (i + 1)) (xs (i + 2))
  refine v_aload_n C 3 dL_law_692 rfl ?_
  refine v_aload_n C 4 dL_law_693 rfl ?_
  refine v_iload C 0 dL_law_694 rfl ?_
  refine v_iconst (v := 1) C dL_law_696 rfl ?_
  refine v_iadd C dL_law_697 ?_
  refine v_sld (t := i + 1) C hX hbl hbP (ixA rfl rfl) (by omega) hL dL_law_698 ?_
  refine v_aload_n C 4 dL_law_699 rfl ?_
  refine v_iload C 0 dL_law_700 rfl ?_
  refine v_iconst (v := 2) C dL_law_702 rfl ?_
  refine v_iadd C dL_law_703 ?_
  refine v_sld (t := i + 2) C hX hbl hbP (ixA rfl rfl) (by omega) hL dL_law_704 ?_
  refine v_aload_n C 1 dL_law_705 rfl ?_
  refine go_I (run_SW C hW k_381 k_0 k_379 k_380 dd_L_fogger ⟨Nat.le_of_ble_eq_true rfl, Nat.le_of_ble_eq_true rfl⟩ rfl (Nat.le_of_ble_eq_true rfl) dL_law_706 ⟨by show k + mc ≤ 672103; omega, by show z + ms ≤ 7079794; omega⟩) ?_
  refine v_istore (lv' := [(5, .int k9), (4, .int (nI i)), (3, .ref (rO P)), (2, .ref (rM P)), (1, .ref (rX P)), (0, .ref b)]) C dL_law_709 (by decide) rfl ?_
  refine v_aload_n C 3 dL_law_711 rfl ?_
  refine v_aload_n C 5 dL_law_712 rfl ?_
  refine v_iload C 1 dL_law_713 rfl ?_
  refine v_iconst (v := 1) C dL_law_715 rfl ?_
  refine v_iadd C dL_law_716 ?_
  refine v_sld (t := i + 1) C hX hbl hbP (ixA rfl rfl) (by omega) hL dL_law_717 ?_
  refine v_aload_n C 5 dL_law_718 rfl ?_
  refine v_iload C 1 dL_law_719 rfl ?_
  refine v_iconst (v := 2) C dL_law_721 rfl ?_
  refine v_iadd C dL_law_722 ?_
  refine v_sld (t := i + 2) C hX hbl hbP (ixA rfl rfl) (by omega) hL dL_law_723 ?_
  refine go_I (run_V C hM k_591 k_5 k_588 k_589 k_590 dd_X4_fogger ⟨by show h2 + 1 ≤ 12; omega, by show 8 + (3 + 11) + 28 * h2 ≤ 434; omega⟩ rcM rfl (Nat.le_of_ble_eq_true rfl) dL_law_724 ⟨by show k + mc + mc2 ≤ 672103; omega, by show z + ms + ms2 ≤ 7079794; omega⟩) ?_
  refine v_istore (lv' := [(6, .int r9), (5, .int k9), (4, .int (nI i)), (3, .ref (rO P)), (2, .ref (rM P)), (1, .ref (rX P)), (0, .ref b)]) C dL_law_727 (by decide) rfl ?_
  refine v_aload_n C 4 dL_law_729 rfl ?_
  refine go_I (run_V C c_X4_thrown k_506 k_5 k_503 k_504 k_505 dd_X4_thrown ⟨Nat.le_of_ble_eq_true rfl, Nat.le_of_ble_eq_true rfl⟩ rcM rfl (Nat.le_of_ble_eq_true rfl) dL_law_730 ⟨by show k + mc + mc2 + 0 ≤ 672103; omega, by show z + ms + ms2 + 0 ≤ 7079794; omega⟩) ?_
  refine v_iload C 1 dL_law_733 rfl ?_
  refine v_icmp_eq (tgt := 740) C dL_law_735 (by decide) (fun _ => ?_) (fun h9 => absurd hk9 h9)
  refine v_iload C 1 dL_law_740 rfl ?_
  refine v_if_ne (tgt := 757) C dL_law_742 (by decide) (fun _ => ?_) (fun h9 => ?_)
  · refine v_goto (tgt := 1200) C dL_law_757 (by decide) ?_
    refine v_lv [2, 3, 4, 5, 6] rfl ?_
    exact kk _ _ _ _ _ _ _ _ _ hI2 (by omega) (by omega)
  · refine v_aload_n C 3 dL_law_745 rfl ?_
    refine v_iconst (v := 0) C dL_law_746 rfl ?_
    refine v_ldO C dL_law_747 ?_
    refine v_iload C 0 dL_law_748 rfl ?_
    refine v_i2l C dL_law_750 ?_
    refine v_lcmp C dL_law_751 ?_
    refine v_if_eq (tgt := 757) C dL_law_752 (by decide) (fun _ => ?_) (fun h8 => absurd (by rw [hr9 h9]; exact lg_self _) h8)
    refine v_goto (tgt := 1200) C dL_law_757 (by decide) ?_
    refine v_lv [2, 3, 4, 5, 6] rfl ?_
    exact kk _ _ _ _ _ _ _ _ _ hI2 (by omega) (by omega)
set_option maxHeartbeats 4000000 in
theorem b_count (C : Cx p l s m #[Value.ref b] meth c P D code 9 ret RL) (hX : va_X b L xs s s.heap) (hbl : b < s.heap.size) (hbP : b < P.1) (hL : L ≤ 2048) (hi : i + 4 ≤ L) (hl9 : l.stackTraces = false) (hI : Inv N F T K A cn B) (hB : B < 2 ^ 28) (hk : k + 1 ≤ 672103) (hz : z + 6 ≤ 7079794) (kk : ∀ (N2 F2 T2 : Nat → Nat → Int32) (K2 : Nat → Int32) (A2 : Nat → Nat → Int32) (c2 : Nat) (w2 : Int64) (k2 z2 : Nat), Inv N2 F2 T2 K2 A2 c2 (B + 20) → k2 ≤ k + 1 → z2 ≤ z + 6 → V p l e room_1 s m #[Value.ref b] below meth c P D Q 9 97 False (cw P N2 F2 T2 K2 A2 w2) k2 z2 1200 [(4, .int (nI i)), (3, .ref (rO P)), (2, .ref (rM P)), (1, .ref (rX P)), (0, .ref b)] []) : V p l e room_1 s m #[Value.ref b] below meth c P D Q 9 97 False (cw P N F T K A w) k z 760 [(4, .int (nI i)), (3, .ref (rO P)), (2, .ref (rM P)), (1, .ref (rX P)), (0, .ref b)] [] := by
  obtain ⟨N2, F2, T2, K2, A2, c2, w2, mc, ms, h2, mc2, ms2, k9, r9, hW, hM, hk9, hr9, hI2, hmc, hms, hh9⟩ := s_count (l := l) (P := P) (D := D) (w := w) hI hB hl9 (xs (i + 1))
  refine v_aload_n C 3 dL_law_760 rfl ?_
  refine v_aload_n C 4 dL_law_761 rfl ?_
  refine v_iload C 0 dL_law_762 rfl ?_
  refine v_iconst (v := 1) C dL_law_764 rfl ?_
  refine v_iadd C dL_law_765 ?_
  refine v_sld (t := i + 1) C hX hbl hbP (ixA rfl rfl) (by omega) hL dL_law_766 ?_
  refine v_aload_n C 1 dL_law_767 rfl ?_
  refine go_I (run_SW C hW k_388 k_0 k_386 k_387 dd_L_count ⟨Nat.le_of_ble_eq_true rfl, Nat.le_of_ble_eq_true rfl⟩ rfl (Nat.le_of_ble_eq_true rfl) dL_law_768 ⟨by show k + mc ≤ 672103; omega, by show z + ms ≤ 7079794; omega⟩) ?_
  refine v_istore (lv' := [(5, .int k9), (4, .int (nI i)), (3, .ref (rO P)), (2, .ref (rM P)), (1, .ref (rX P)), (0, .ref b)]) C dL_law_771 (by decide) rfl ?_
  refine v_aload_n C 3 dL_law_773 rfl ?_
  refine v_aload_n C 5 dL_law_774 rfl ?_
  refine v_iload C 1 dL_law_775 rfl ?_
  refine v_iconst (v := 1) C dL_law_777 rfl ?_
  refine v_iadd C dL_law_778 ?_
  refine v_sld (t := i + 1) C hX hbl hbP (ixA rfl rfl) (by omega) hL dL_law_779 ?_
  refine go_I (run_V C hM k_603 k_5 k_600 k_601 k_602 dd_X4_count ⟨by show h2 + 1 ≤ 12; omega, by show 8 + (2 + 11) + 28 * h2 ≤ 434; omega⟩ rcM rfl (Nat.le_of_ble_eq_true rfl) dL_law_780 ⟨by show k + mc + mc2 ≤ 672103; omega, by show z + ms + ms2 ≤ 7079794; omega⟩) ?_
  refine v_istore (lv' := [(6, .int r9), (5, .int k9), (4, .int (nI i)), (3, .ref (rO P)), (2, .ref (rM P)), (1, .ref (rX P)), (0, .ref b)]) C dL_law_783 (by decide) rfl ?_
  refine v_aload_n C 4 dL_law_785 rfl ?_
  refine go_I (run_V C c_X4_thrown k_506 k_5 k_503 k_504 k_505 dd_X4_thrown ⟨Nat.le_of_ble_eq_true rfl, Nat.le_of_ble_eq_true rfl⟩ rcM rfl (Nat.le_of_ble_eq_true rfl) dL_law_786 ⟨by show k + mc + mc2 + 0 ≤ 672103; omega, by show z + ms + ms2 + 0 ≤ 7079794; omega⟩) ?_
  refine v_iload C 1 dL_law_789 rfl ?_
  refine v_icmp_eq (tgt := 796) C dL_law_791 (by decide) (fun _ => ?_) (fun h9 => absurd hk9 h9)
  refine v_iload C 1 dL_law_796 rfl ?_
  refine v_if_ne (tgt := 813) C dL_law_798 (by decide) (fun _ => ?_) (fun h9 => ?_)
  · refine v_goto (tgt := 1200) C dL_law_813 (by decide) ?_
    refine v_lv [2, 3, 4, 5, 6] rfl ?_
    exact kk _ _ _ _ _ _ _ _ _ hI2 (by omega) (by omega)
  · refine v_aload_n C 3 dL_law_801 rfl ?_
    refine v_iconst (v := 0) C dL_law_802 rfl ?_
    refine v_ldO C dL_law_803 ?_
    refine v_iload C 0 dL_law_804 rfl ?_
    refine v_i2l C dL_law_806 ?_
    refine v_lcmp C dL_law_807 ?_
    refine v_if_eq (tgt := 813) C dL_law_808 (by decide) (fun _ => ?_) (fun h8 => absurd (by rw [hr9 h9]; exact lg_self _) h8)
    refine v_goto (tgt := 1200) C dL_law_813 (by decide) ?_
    refine v_lv [2, 3, 4, 5, 6] rfl ?_
    exact kk _ _ _ _ _ _ _ _ _ hI2 (by omega) (by omega)
set_option maxHeartbeats 4000000 in
theorem b_pass (C : Cx p l s m #[Value.ref b] meth c P D code 9 ret RL) (hX : va_X b L xs s s.heap) (hbl : b < s.heap.size) (hbP : b < P.1) (hL : L ≤ 2048) (hi : i + 4 ≤ L) (hl9 : l.stackTraces = false) (hI : Inv N F T K A cn B) (hB : B < 2 ^ 28) (hk : k + 1 ≤ 672103) (hz : z + 6 ≤ 7079794) (kk : ∀ (N2 F2 T2 : Nat → Nat → Int32) (K2 : Nat → Int32) (A2 : Nat → Nat → Int32) (c2 : Nat) (w2 : Int64) (k2 z2 : Nat), Inv N2 F2 T2 K2 A2 c2 (B + 20) → k2 ≤ k + 1 → z2 ≤ z + 6 → V p l e room_1 s m #[Value.ref b] below meth c P D Q 9 97 False (cw P N2 F2 T2 K2 A2 w2) k2 z2 1200 [(4, .int (nI i)), (3, .ref (rO P)), (2, .ref (rM P)), (1, .ref (rX P)), (0, .ref b)] []) : V p l e room_1 s m #[Value.ref b] below meth c P D Q 9 97 False (cw P N F T K A w) k z 816 [(4, .int (nI i)), (3, .ref (rO P)), (2, .ref (rM P)), (1, .ref (rX P)), (0, .ref b)] [] := by
  obtain ⟨N2, F2, T2, K2, A2, c2, w2, mc, ms, h2, mc2, ms2, k9, r9, hW, hM, hk9, hr9, hI2, hmc, hms, hh9⟩ := s_pass (l := l) (P := P) (D := D) (w := w) hI hB hl9 (xs (i + 1))
  refine v_aload_n C 3 dL_law_816 rfl ?_
  refine v_aload_n C 4 dL_law_817 rfl ?_
  refine v_iload C 0 dL_law_818 rfl ?_
  refine v_iconst (v := 1) C dL_law_820 rfl ?_
  refine v_iadd C dL_law_821 ?_
  refine v_sld (t := i + 1) C hX hbl hbP (ixA rfl rfl) (by omega) hL dL_law_822 ?_
  refine v_aload_n C 1 dL_law_823 rfl ?_
  refine go_I (run_SW C hW k_395 k_0 k_393 k_394 dd_L_pass ⟨Nat.le_of_ble_eq_true rfl, Nat.le_of_ble_eq_true rfl⟩ rfl (Nat.le_of_ble_eq_true rfl) dL_law_824 ⟨by show k + mc ≤ 672103; omega, by show z + ms ≤ 7079794; omega⟩) ?_
  refine v_istore (lv' := [(5, .int k9), (4, .int (nI i)), (3, .ref (rO P)), (2, .ref (rM P)), (1, .ref (rX P)), (0, .ref b)]) C dL_law_827 (by decide) rfl ?_
  refine v_aload_n C 3 dL_law_829 rfl ?_
  refine v_aload_n C 5 dL_law_830 rfl ?_
  refine v_iload C 1 dL_law_831 rfl ?_
  refine v_iconst (v := 1) C dL_law_833 rfl ?_
  refine v_iadd C dL_law_834 ?_
  refine v_sld (t := i + 1) C hX hbl hbP (ixA rfl rfl) (by omega) hL dL_law_835 ?_
  refine go_I (run_V C hM k_630 k_5 k_627 k_628 k_629 dd_X4_pass_ ⟨by show h2 + 1 ≤ 12; omega, by show 8 + (4 + 11) + 28 * h2 ≤ 434; omega⟩ rcM rfl (Nat.le_of_ble_eq_true rfl) dL_law_836 ⟨by show k + mc + mc2 ≤ 672103; omega, by show z + ms + ms2 ≤ 7079794; omega⟩) ?_
  refine v_istore (lv' := [(6, .int r9), (5, .int k9), (4, .int (nI i)), (3, .ref (rO P)), (2, .ref (rM P)), (1, .ref (rX P)), (0, .ref b)]) C dL_law_839 (by decide) rfl ?_
  refine v_aload_n C 4 dL_law_841 rfl ?_
  refine go_I (run_V C c_X4_thrown k_506 k_5 k_503 k_504 k_505 dd_X4_thrown ⟨Nat.le_of_ble_eq_true rfl, Nat.le_of_ble_eq_true rfl⟩ rcM rfl (Nat.le_of_ble_eq_true rfl) dL_law_842 ⟨by show k + mc + mc2 + 0 ≤ 672103; omega, by show z + ms + ms2 + 0 ≤ 7079794; omega⟩) ?_
  refine v_iload C 1 dL_law_845 rfl ?_
  refine v_icmp_eq (tgt := 852) C dL_law_847 (by decide) (fun _ => ?_) (fun h9 => absurd hk9 h9)
  refine v_iload C 1 dL_law_852 rfl ?_
  refine v_if_ne (tgt := 869) C dL_law_854 (by decide) (fun _ => ?_) (fun h9 => ?_)
  · refine v_goto (tgt := 1200) C dL_law_869 (by decide) ?_
    refine v_lv [2, 3, 4, 5, 6] rfl ?_
    exact kk _ _ _ _ _ _ _ _ _ hI2 (by omega) (by omega)
  · refine v_aload_n C 3 dL_law_857 rfl ?_
    refine v_iconst (v := 0) C dL_law_858 rfl ?_
    refine v_ldO C dL_law_859 ?_
    refine v_iload C 0 dL_law_860 rfl ?_
    refine v_i2l C dL_law_862 ?_
    refine v_lcmp C dL_law_863 ?_
    refine v_if_eq (tgt := 869) C dL_law_864 (by decide) (fun _ => ?_) (fun h8 => absurd (by rw [hr9 h9]; exact lg_self _) h8)
    refine v_goto (tgt := 1200) C dL_law_869 (by decide) ?_
    refine v_lv [2, 3, 4, 5, 6] rfl ?_
    exact kk _ _ _ _ _ _ _ _ _ hI2 (by omega) (by omega)
set_option maxHeartbeats 4000000 in
theorem b_rate (C : Cx p l s m #[Value.ref b] meth c P D code 9 ret RL) (hX : va_X b L xs s s.heap) (hbl : b < s.heap.size) (hbP : b < P.1) (hL : L ≤ 2048) (hi : i + 4 ≤ L) (hl9 : l.stackTraces = false) (hI : Inv N F T K A cn B) (hB : B < 2 ^ 28) (hk : k + 1 ≤ 672103) (hz : z + 6 ≤ 7079794) (kk : ∀ (N2 F2 T2 : Nat → Nat → Int32) (K2 : Nat → Int32) (A2 : Nat → Nat → Int32) (c2 : Nat) (w2 : Int64) (k2 z2 : Nat), Inv N2 F2 T2 K2 A2 c2 (B + 20) → k2 ≤ k + 1 → z2 ≤ z + 6 → V p l e room_1 s m #[Value.ref b] below meth c P D Q 9 97 False (cw P N2 F2 T2 K2 A2 w2) k2 z2 1200 [(4, .int (nI i)), (3, .ref (rO P)), (2, .ref (rM P)), (1, .ref (rX P)), (0, .ref b)] []) : V p l e room_1 s m #[Value.ref b] below meth c P D Q 9 97 False (cw P N F T K A w) k z 872 [(4, .int (nI i)), (3, .ref (rO P)), (2, .ref (rM P)), (1, .ref (rX P)), (0, .ref b)] [] := by
  obtain ⟨N2, F2, T2, K2, A2, c2, w2, mc, ms, h2, mc2, ms2, k9, r9, hW, hM, hk9, hr9, hI2, hmc, hms, hh9⟩ := s_rate (l := l) (P := P) (D := D) (w := w) hI hB hl9 (xs (i + 1))
  refine v_aload_n C 3 dL_law_872 rfl ?_
  refine v_aload_n C 4 dL_law_873 rfl ?_
  refine v_iload C 0 dL_law_874 rfl ?_
  refine v_iconst (v := 1) C dL_law_876 rfl ?_
  refine v_iadd C dL_law_877 ?_
  refine v_sld (t := i + 1) C hX hbl hbP (ixA rfl rfl) (by omega) hL dL_law_878 ?_
  refine v_aload_n C 1 dL_law_879 rfl ?_
  refine go_I (run_SW C hW k_457 k_0 k_455 k_456 dd_L_rate ⟨Nat.le_of_ble_eq_true rfl, Nat.le_of_ble_eq_true rfl⟩ rfl (Nat.le_of_ble_eq_true rfl) dL_law_880 ⟨by show k + mc ≤ 672103; omega, by show z + ms ≤ 7079794; omega⟩) ?_
  refine v_istore (lv' := [(5, .int k9), (4, .int (nI i)), (3, .ref (rO P)), (2, .ref (rM P)), (1, .ref (rX P)), (0, .ref b)]) C dL_law_883 (by decide) rfl ?_
  refine v_aload_n C 3 dL_law_885 rfl ?_
  refine v_aload_n C 5 dL_law_886 rfl ?_
  refine v_iload C 1 dL_law_887 rfl ?_
  refine v_iconst (v := 1) C dL_law_889 rfl ?_
  refine v_iadd C dL_law_890 ?_
  refine v_sld (t := i + 1) C hX hbl hbP (ixA rfl rfl) (by omega) hL dL_law_891 ?_
  refine go_I (run_V C hM k_659 k_5 k_656 k_657 k_658 dd_X4_rate ⟨by show h2 + 1 ≤ 12; omega, by show 8 + (2 + 11) + 28 * h2 ≤ 434; omega⟩ rcM rfl (Nat.le_of_ble_eq_true rfl) dL_law_892 ⟨by show k + mc + mc2 ≤ 672103; omega, by show z + ms + ms2 ≤ 7079794; omega⟩) ?_
  refine v_istore (lv' := [(6, .int r9), (5, .int k9), (4, .int (nI i)), (3, .ref (rO P)), (2, .ref (rM P)), (1, .ref (rX P)), (0, .ref b)]) C dL_law_895 (by decide) rfl ?_
  refine v_aload_n C 4 dL_law_897 rfl ?_
  refine go_I (run_V C c_X4_thrown k_506 k_5 k_503 k_504 k_505 dd_X4_thrown ⟨Nat.le_of_ble_eq_true rfl, Nat.le_of_ble_eq_true rfl⟩ rcM rfl (Nat.le_of_ble_eq_true rfl) dL_law_898 ⟨by show k + mc + mc2 + 0 ≤ 672103; omega, by show z + ms + ms2 + 0 ≤ 7079794; omega⟩) ?_
  refine v_iload C 1 dL_law_901 rfl ?_
  refine v_icmp_eq (tgt := 908) C dL_law_903 (by decide) (fun _ => ?_) (fun h9 => absurd hk9 h9)
  refine v_iload C 1 dL_law_908 rfl ?_
  refine v_if_ne (tgt := 925) C dL_law_910 (by decide) (fun _ => ?_) (fun h9 => ?_)
  · refine v_goto (tgt := 1200) C dL_law_925 (by decide) ?_
    refine v_lv [2, 3, 4, 5, 6] rfl ?_
    exact kk _ _ _ _ _ _ _ _ _ hI2 (by omega) (by omega)
  · refine v_aload_n C 3 dL_law_913 rfl ?_
    refine v_iconst (v := 0) C dL_law_914 rfl ?_
    refine v_ldO C dL_law_915 ?_
    refine v_iload C 0 dL_law_916 rfl ?_
    refine v_i2l C dL_law_918 ?_
    refine v_lcmp C dL_law_919 ?_
    refine v_if_eq (tgt := 925) C dL_law_920 (by decide) (fun _ => ?_) (fun h8 => absurd (by rw [hr9 h9]; exact lg_self _) h8)
    refine v_goto (tgt := 1200) C dL_law_925 (by decide) ?_
    refine v_lv [2, 3, 4, 5, 6] rfl ?_
    exact kk _ _ _ _ _ _ _ _ _ hI2 (by omega) (by omega)
set_option maxHeartbeats 4000000 in
theorem b_when (C : Cx p l s m #[Value.ref b] meth c P D code 9 ret RL) (hX : va_X b L xs s s.heap) (hbl : b < s.heap.size) (hbP : b < P.1) (hL : L ≤ 2048) (hi : i + 4 ≤ L) (hl9 : l.stackTraces = false) (hI : Inv N F T K A cn B) (hB : B < 2 ^ 28) (hk : k + 1 ≤ 672103) (hz : z + 6 ≤ 7079794) (kk : ∀ (N2 F2 T2 : Nat → Nat → Int32) (K2 : Nat → Int32) (A2 : Nat → Nat → Int32) (c2 : Nat) (w2 : Int64) (k2 z2 : Nat), Inv N2 F2 T2 K2 A2 c2 (B + 20) → k2 ≤ k + 1 → z2 ≤ z + 6 → V p l e room_1 s m #[Value.ref b] below meth c P D Q 9 97 False (cw P N2 F2 T2 K2 A2 w2) k2 z2 1200 [(4, .int (nI i)), (3, .ref (rO P)), (2, .ref (rM P)), (1, .ref (rX P)), (0, .ref b)] []) : V p l e room_1 s m #[Value.ref b] below meth c P D Q 9 97 False (cw P N F T K A w) k z 928 [(4, .int (nI i)), (3, .ref (rO P)), (2, .ref (rM P)), (1, .ref (rX P)), (0, .ref b)] [] := by
  obtain ⟨N2, F2, T2, K2, A2, c2, w2, mc, ms, h2, mc2, ms2, k9, r9, hW, hM, hk9, hr9, hI2, hmc, hms, hh9⟩ := s_when (l := l) (P := P) (D := D) (w := w) hI hB hl9 (xs (i + 1)) (xs (i + 2))
  refine v_aload_n C 3 dL_law_928 rfl ?_
  refine v_aload_n C 4 dL_law_929 rfl ?_
  refine v_iload C 0 dL_law_930 rfl ?_
  refine v_iconst (v := 1) C dL_law_932 rfl ?_
  refine v_iadd C dL_law_933 ?_
  refine v_sld (t := i + 1) C hX hbl hbP (ixA rfl rfl) (by omega) hL dL_law_934 ?_
  refine v_aload_n C 4 dL_law_935 rfl ?_
  refine v_iload C 0 dL_law_936 rfl ?_
  refine v_iconst (v := 2) C dL_law_938 rfl ?_
  refine v_iadd C dL_law_939 ?_
  refine v_sld (t := i + 2) C hX hbl hbP (ixA rfl rfl) (by omega) hL dL_law_940 ?_
  refine v_aload_n C 1 dL_law_941 rfl ?_
  refine go_I (run_SW C hW k_473 k_0 k_471 k_472 dd_L_when ⟨Nat.le_of_ble_eq_true rfl, Nat.le_of_ble_eq_true rfl⟩ rfl (Nat.le_of_ble_eq_true rfl) dL_law_942 ⟨by show k + mc ≤ 672103; omega, by show z + ms ≤ 7079794; omega⟩) ?_
  refine v_istore (lv' := [(5, .int k9), (4, .int (nI i)), (3, .ref (rO P)), (2, .ref (rM P)), (1, .ref (rX P)), (0, .ref b)]) C dL_law_945 (by decide) rfl ?_
  refine v_aload_n C 3 dL_law_947 rfl ?_
  refine v_aload_n C 5 dL_law_948 rfl ?_
  refine v_iload C 1 dL_law_949 rfl ?_
  refine v_iconst (v := 1) C dL_law_951 rfl ?_
  refine v_iadd C dL_law_952 ?_
  refine v_sld (t := i + 1) C hX hbl hbP (ixA rfl rfl) (by omega) hL dL_law_953 ?_
  refine v_aload_n C 5 dL_law_954 rfl ?_
  refine v_iload C 1 dL_law_955 rfl ?_
  refine v_iconst (v := 2) C dL_law_957 rfl ?_
  refine v_iadd C dL_law_958 ?_
  refine v_sld (t := i + 2) C hX hbl hbP (ixA rfl rfl) (by omega) hL dL_law_959 ?_
  refine go_I (run_V C hM k_670 k_5 k_667 k_668 k_669 dd_X4_when ⟨by show h2 + 1 ≤ 12; omega, by show 8 + (5 + 11) + 28 * h2 ≤ 434; omega⟩ rcM rfl (Nat.le_of_ble_eq_true rfl) dL_law_960 ⟨by show k + mc + mc2 ≤ 672103; omega, by show z + ms + ms2 ≤ 7079794; omega⟩) ?_
  refine v_istore (lv' := [(6, .int r9), (5, .int k9), (4, .int (nI i)), (3, .ref (rO P)), (2, .ref (rM P)), (1, .ref (rX P)), (0, .ref b)]) C dL_law_963 (by decide) rfl ?_
  refine v_aload_n C 4 dL_law_965 rfl ?_
  refine go_I (run_V C c_X4_thrown k_506 k_5 k_503 k_504 k_505 dd_X4_thrown ⟨Nat.le_of_ble_eq_true rfl, Nat.le_of_ble_eq_true rfl⟩ rcM rfl (Nat.le_of_ble_eq_true rfl) dL_law_966 ⟨by show k + mc + mc2 + 0 ≤ 672103; omega, by show z + ms + ms2 + 0 ≤ 7079794; omega⟩) ?_
  refine v_iload C 1 dL_law_969 rfl ?_
  refine v_icmp_eq (tgt := 976) C dL_law_971 (by decide) (fun _ => ?_) (fun h9 => absurd hk9 h9)
  refine v_iload C 1 dL_law_976 rfl ?_
  refine v_if_ne (tgt := 993) C dL_law_978 (by decide) (fun _ => ?_) (fun h9 => ?_)
  · refine v_goto (tgt := 1200) C dL_law_993 (by decide) ?_
    refine v_lv [2, 3, 4, 5, 6] rfl ?_
    exact kk _ _ _ _ _ _ _ _ _ hI2 (by omega) (by omega)
  · refine v_aload_n C 3 dL_law_981 rfl ?_
    refine v_iconst (v := 0) C dL_law_982 rfl ?_
    refine v_ldO C dL_law_983 ?_
    refine v_iload C 0 dL_law_984 rfl ?_
    refine v_i2l C dL_law_986 ?_
    refine v_lcmp C dL_law_987 ?_
    refine v_if_eq (tgt := 993) C dL_law_988 (by decide) (fun _ => ?_) (fun h8 => absurd (by rw [hr9 h9]; exact lg_self _) h8)
    refine v_goto (tgt := 1200) C dL_law_993 (by decide) ?_
    refine v_lv [2, 3, 4, 5, 6] rfl ?_
    exact kk _ _ _ _ _ _ _ _ _ hI2 (by omega) (by omega)
set_option maxHeartbeats 4000000 in
theorem b_foresee (C : Cx p l s m #[Value.ref b] meth c P D code 9 ret RL) (hX : va_X b L xs s s.heap) (hbl : b < s.heap.size) (hbP : b < P.1) (hL : L ≤ 2048) (hi : i + 4 ≤ L) (hl9 : l.stackTraces = false) (hI : Inv N F T K A cn B) (hB : B < 2 ^ 28) (hk : k + 1 ≤ 672103) (hz : z + 6 ≤ 7079794) (kk : ∀ (N2 F2 T2 : Nat → Nat → Int32) (K2 : Nat → Int32) (A2 : Nat → Nat → Int32) (c2 : Nat) (w2 : Int64) (k2 z2 : Nat), Inv N2 F2 T2 K2 A2 c2 (B + 20) → k2 ≤ k + 1 → z2 ≤ z + 6 → V p l e room_1 s m #[Value.ref b] below meth c P D Q 9 97 False (cw P N2 F2 T2 K2 A2 w2) k2 z2 1200 [(4, .int (nI i)), (3, .ref (rO P)), (2, .ref (rM P)), (1, .ref (rX P)), (0, .ref b)] []) : V p l e room_1 s m #[Value.ref b] below meth c P D Q 9 97 False (cw P N F T K A w) k z 996 [(4, .int (nI i)), (3, .ref (rO P)), (2, .ref (rM P)), (1, .ref (rX P)), (0, .ref b)] [] := by
  obtain ⟨N2, F2, T2, K2, A2, c2, w2, mc, ms, h2, mc2, ms2, k9, r9, hW, hM, hk9, hr9, hI2, hmc, hms, hh9⟩ := s_foresee (l := l) (P := P) (D := D) (w := w) hI hB hl9 (xs (i + 1)) (xs (i + 2))
  refine v_aload_n C 3 dL_law_996 rfl ?_
  refine v_aload_n C 4 dL_law_997 rfl ?_
  refine v_iload C 0 dL_law_998 rfl ?_
  refine v_iconst (v := 1) C dL_law_1000 rfl ?_
  refine v_iadd C dL_law_1001 ?_
  refine v_sld (t := i + 1) C hX hbl hbP (ixA rfl rfl) (by omega) hL dL_law_1002 ?_
  refine v_aload_n C 4 dL_law_1003 rfl ?_
  refine v_iload C 0 dL_law_1004 rfl ?_
  refine v_iconst (v := 2) C dL_law_1006 rfl ?_
  refine v_iadd C dL_law_1007 ?_
  refine v_sld (t := i + 2) C hX hbl hbP (ixA rfl rfl) (by omega) hL dL_law_1008 ?_
  refine v_aload_n C 1 dL_law_1009 rfl ?_
  refine go_I (run_SW C hW k_480 k_0 k_478 k_479 dd_L_foresee ⟨Nat.le_of_ble_eq_true rfl, Nat.le_of_ble_eq_true rfl⟩ rfl (Nat.le_of_ble_eq_true rfl) dL_law_1010 ⟨by show k + mc ≤ 672103; omega, by show z + ms ≤ 7079794; omega⟩) ?_
  refine v_istore (lv' := [(5, .int k9), (4, .int (nI i)), (3, .ref (rO P)), (2, .ref (rM P)), (1, .ref (rX P)), (0, .ref b)]) C dL_law_1013 (by decide) rfl ?_
  refine v_aload_n C 3 dL_law_1015 rfl ?_
  refine v_aload_n C 5 dL_law_1016 rfl ?_
  refine v_iload C 1 dL_law_1017 rfl ?_
  refine v_iconst (v := 1) C dL_law_1019 rfl ?_
  refine v_iadd C dL_law_1020 ?_
  refine v_sld (t := i + 1) C hX hbl hbP (ixA rfl rfl) (by omega) hL dL_law_1021 ?_
  refine v_aload_n C 5 dL_law_1022 rfl ?_
  refine v_iload C 1 dL_law_1023 rfl ?_
  refine v_iconst (v := 2) C dL_law_1025 rfl ?_
  refine v_iadd C dL_law_1026 ?_
  refine v_sld (t := i + 2) C hX hbl hbP (ixA rfl rfl) (by omega) hL dL_law_1027 ?_
  refine go_I (run_V C hM k_674 k_5 k_671 k_672 k_673 dd_X4_foresee ⟨by show h2 + 1 ≤ 12; omega, by show 8 + (3 + 11) + 28 * h2 ≤ 434; omega⟩ rcM rfl (Nat.le_of_ble_eq_true rfl) dL_law_1028 ⟨by show k + mc + mc2 ≤ 672103; omega, by show z + ms + ms2 ≤ 7079794; omega⟩) ?_
  refine v_istore (lv' := [(6, .int r9), (5, .int k9), (4, .int (nI i)), (3, .ref (rO P)), (2, .ref (rM P)), (1, .ref (rX P)), (0, .ref b)]) C dL_law_1031 (by decide) rfl ?_
  refine v_aload_n C 4 dL_law_1033 rfl ?_
  refine go_I (run_V C c_X4_thrown k_506 k_5 k_503 k_504 k_505 dd_X4_thrown ⟨Nat.le_of_ble_eq_true rfl, Nat.le_of_ble_eq_true rfl⟩ rcM rfl (Nat.le_of_ble_eq_true rfl) dL_law_1034 ⟨by show k + mc + mc2 + 0 ≤ 672103; omega, by show z + ms + ms2 + 0 ≤ 7079794; omega⟩) ?_
  refine v_iload C 1 dL_law_1037 rfl ?_
  refine v_icmp_eq (tgt := 1044) C dL_law_1039 (by decide) (fun _ => ?_) (fun h9 => absurd hk9 h9)
  refine v_iload C 1 dL_law_1044 rfl ?_
  refine v_if_ne (tgt := 1061) C dL_law_1046 (by decide) (fun _ => ?_) (fun h9 => ?_)
  · refine v_goto (tgt := 1200) C dL_law_1061 (by decide) ?_
    refine v_lv [2, 3, 4, 5, 6] rfl ?_
    exact kk _ _ _ _ _ _ _ _ _ hI2 (by omega) (by omega)
  · refine v_aload_n C 3 dL_law_1049 rfl ?_
    refine v_iconst (v := 0) C dL_law_1050 rfl ?_
    refine v_ldO C dL_law_1051 ?_
    refine v_iload C 0 dL_law_1052 rfl ?_
    refine v_i2l C dL_law_1054 ?_
    refine v_lcmp C dL_law_1055 ?_
    refine v_if_eq (tgt := 1061) C dL_law_1056 (by decide) (fun _ => ?_) (fun h8 => absurd (by rw [hr9 h9]; exact lg_self _) h8)
    refine v_goto (tgt := 1200) C dL_law_1061 (by decide) ?_
    refine v_lv [2, 3, 4, 5, 6] rfl ?_
    exact kk _ _ _ _ _ _ _ _ _ hI2 (by omega) (by omega)
set_option maxHeartbeats 4000000 in
theorem b_advise (C : Cx p l s m #[Value.ref b] meth c P D code 9 ret RL) (hX : va_X b L xs s s.heap) (hbl : b < s.heap.size) (hbP : b < P.1) (hL : L ≤ 2048) (hi : i + 4 ≤ L) (hl9 : l.stackTraces = false) (hI : Inv N F T K A cn B) (hB : B < 2 ^ 28) (hk : k + 1 ≤ 672103) (hz : z + 6 ≤ 7079794) (kk : ∀ (N2 F2 T2 : Nat → Nat → Int32) (K2 : Nat → Int32) (A2 : Nat → Nat → Int32) (c2 : Nat) (w2 : Int64) (k2 z2 : Nat), Inv N2 F2 T2 K2 A2 c2 (B + 20) → k2 ≤ k + 1 → z2 ≤ z + 6 → V p l e room_1 s m #[Value.ref b] below meth c P D Q 9 97 False (cw P N2 F2 T2 K2 A2 w2) k2 z2 1200 [(4, .int (nI i)), (3, .ref (rO P)), (2, .ref (rM P)), (1, .ref (rX P)), (0, .ref b)] []) : V p l e room_1 s m #[Value.ref b] below meth c P D Q 9 97 False (cw P N F T K A w) k z 1064 [(4, .int (nI i)), (3, .ref (rO P)), (2, .ref (rM P)), (1, .ref (rX P)), (0, .ref b)] [] := by
  obtain ⟨N2, F2, T2, K2, A2, c2, w2, mc, ms, h2, mc2, ms2, k9, r9, hW, hM, hk9, hr9, hI2, hmc, hms, hh9⟩ := s_advise (l := l) (P := P) (D := D) (w := w) hI hB hl9 (xs (i + 1)) (xs (i + 2))
  refine v_aload_n C 3 dL_law_1064 rfl ?_
  refine v_aload_n C 4 dL_law_1065 rfl ?_
  refine v_iload C 0 dL_law_1066 rfl ?_
  refine v_iconst (v := 1) C dL_law_1068 rfl ?_
  refine v_iadd C dL_law_1069 ?_
  refine v_sld (t := i + 1) C hX hbl hbP (ixA rfl rfl) (by omega) hL dL_law_1070 ?_
  refine v_aload_n C 4 dL_law_1071 rfl ?_
  refine v_iload C 0 dL_law_1072 rfl ?_
  refine v_iconst (v := 2) C dL_law_1074 rfl ?_
  refine v_iadd C dL_law_1075 ?_
  refine v_sld (t := i + 2) C hX hbl hbP (ixA rfl rfl) (by omega) hL dL_law_1076 ?_
  refine v_aload_n C 1 dL_law_1077 rfl ?_
  refine go_I (run_SW C hW k_497 k_0 k_495 k_496 dd_L_advise ⟨Nat.le_of_ble_eq_true rfl, Nat.le_of_ble_eq_true rfl⟩ rfl (Nat.le_of_ble_eq_true rfl) dL_law_1078 ⟨by show k + mc ≤ 672103; omega, by show z + ms ≤ 7079794; omega⟩) ?_
  refine v_istore (lv' := [(5, .int k9), (4, .int (nI i)), (3, .ref (rO P)), (2, .ref (rM P)), (1, .ref (rX P)), (0, .ref b)]) C dL_law_1081 (by decide) rfl ?_
  refine v_aload_n C 3 dL_law_1083 rfl ?_
  refine v_aload_n C 5 dL_law_1084 rfl ?_
  refine v_iload C 1 dL_law_1085 rfl ?_
  refine v_iconst (v := 1) C dL_law_1087 rfl ?_
  refine v_iadd C dL_law_1088 ?_
  refine v_sld (t := i + 1) C hX hbl hbP (ixA rfl rfl) (by omega) hL dL_law_1089 ?_
  refine v_aload_n C 5 dL_law_1090 rfl ?_
  refine v_iload C 1 dL_law_1091 rfl ?_
  refine v_iconst (v := 2) C dL_law_1093 rfl ?_
  refine v_iadd C dL_law_1094 ?_
  refine v_sld (t := i + 2) C hX hbl hbP (ixA rfl rfl) (by omega) hL dL_law_1095 ?_
  refine go_I (run_V C hM k_682 k_5 k_679 k_680 k_681 dd_X4_advise ⟨by show h2 + 1 ≤ 12; omega, by show 8 + (5 + 11) + 28 * h2 ≤ 434; omega⟩ rcM rfl (Nat.le_of_ble_eq_true rfl) dL_law_1096 ⟨by show k + mc + mc2 ≤ 672103; omega, by show z + ms + ms2 ≤ 7079794; omega⟩) ?_
  refine v_istore (lv' := [(6, .int r9), (5, .int k9), (4, .int (nI i)), (3, .ref (rO P)), (2, .ref (rM P)), (1, .ref (rX P)), (0, .ref b)]) C dL_law_1099 (by decide) rfl ?_
  refine v_aload_n C 4 dL_law_1101 rfl ?_
  refine go_I (run_V C c_X4_thrown k_506 k_5 k_503 k_504 k_505 dd_X4_thrown ⟨Nat.le_of_ble_eq_true rfl, Nat.le_of_ble_eq_true rfl⟩ rcM rfl (Nat.le_of_ble_eq_true rfl) dL_law_1102 ⟨by show k + mc + mc2 + 0 ≤ 672103; omega, by show z + ms + ms2 + 0 ≤ 7079794; omega⟩) ?_
  refine v_iload C 1 dL_law_1105 rfl ?_
  refine v_icmp_eq (tgt := 1112) C dL_law_1107 (by decide) (fun _ => ?_) (fun h9 => absurd hk9 h9)
  refine v_iload C 1 dL_law_1112 rfl ?_
  refine v_if_ne (tgt := 1129) C dL_law_1114 (by decide) (fun _ => ?_) (fun h9 => ?_)
  · refine v_goto (tgt := 1200) C dL_law_1129 (by decide) ?_
    refine v_lv [2, 3, 4, 5, 6] rfl ?_
    exact kk _ _ _ _ _ _ _ _ _ hI2 (by omega) (by omega)
  · refine v_aload_n C 3 dL_law_1117 rfl ?_
    refine v_iconst (v := 0) C dL_law_1118 rfl ?_
    refine v_ldO C dL_law_1119 ?_
    refine v_iload C 0 dL_law_1120 rfl ?_
    refine v_i2l C dL_law_1122 ?_
    refine v_lcmp C dL_law_1123 ?_
    refine v_if_eq (tgt := 1129) C dL_law_1124 (by decide) (fun _ => ?_) (fun h8 => absurd (by rw [hr9 h9]; exact lg_self _) h8)
    refine v_goto (tgt := 1200) C dL_law_1129 (by decide) ?_
    refine v_lv [2, 3, 4, 5, 6] rfl ?_
    exact kk _ _ _ _ _ _ _ _ _ hI2 (by omega) (by omega)
end LawBlocks
