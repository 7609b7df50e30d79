/-! the law: a permit is withdrawn -/
section LZ
variable {C : gT} {e0 a b : Nat} {aa : Nat → Nat} {av : Nat → Nat → Int32} {c : Nat → Nat} {i : Nat → Nat → Int32} {j : Nat → Nat → Int64} {p : Nat → Nat → Option Nat} {r : Nat → Nat → Int32} {N : Nat} {W : va_W} {mc ms Y D pN ln t T : Nat}
theorem lN_no : ∀ m, m < 41 → ¬ lN m = -900013 := by decide +kernel
set_option maxHeartbeats 4000000 in
set_option maxRecDepth 100000 in
theorem z_chain (E : gOk C cL_law 27 wsL_law RL e0 room_1) (hW : LW (xy C) e0 a aa av c i j p r 14 W) (hK : KN c i j p r 14 N) (hA : LA c i p r av) (h4 : c 0 = 4) (hln : ln < 4) (hY : Y < 2 ^ 28) (hmc : mc + 1000 ≤ 646545) (hms : ms + 8000 ≤ 7162134) (hpN : pN < c 2) (hN : N ≤ N + 20) {N0 : Nat} (hN0 : N = N0) (hmc2 : mc + 1000 ≤ 646545) {m0 s0 : Nat} (hm0 : m0 ≤ mc + 10) (hs0 : s0 ≤ ms + 100) (kk : ∀ (av : Nat → Nat → Int32) (c : Nat → Nat) (i : Nat → Nat → Int32) (j : Nat → Nat → Int64) (p : Nat → Nat → Option Nat) (r : Nat → Nat → Int32) (N' : Nat) (W : va_W), LW (xy C) e0 a aa av c i j p r 14 W → KN c i j p r 14 N' → LA c i p r av → c 0 = 4 → N' ≤ N + 20 → (pN < c 2 ∨ c 2 = 0) → G C W (mc + 150) (ms + 3000) 1435 [(12, .int (nI 1)), (19, .int (nI ln)), (18, .int (nI pN)), (16, .int (nI Y)), (14, .int (nI t)), (13, .int (nI T)), (11, .int (nI (c 2))), (10, .int (nI 4)), (0, .ref b), (1, .ref a), (2, .ref (aa 0)), (3, .ref (aa 1)), (4, .ref (aa 2)), (5, .ref (aa 3)), (6, .ref (aa 4)), (7, .ref (aa 5)), (8, .ref (aa 6)), (9, .ref (aa 7))] []) : G C W m0 s0 836 [(12, .int (nI 1)), (19, .int (nI ln)), (18, .int (nI pN)), (17, .int (nI D)), (16, .int (nI Y)), (14, .int (nI t)), (13, .int (nI T)), (11, .int (nI (c 2))), (10, .int (nI 4)), (0, .ref b), (1, .ref a), (2, .ref (aa 0)), (3, .ref (aa 1)), (4, .ref (aa 2)), (5, .ref (aa 3)), (6, .ref (aa 4)), (7, .ref (aa 5)), (8, .ref (aa 6)), (9, .ref (aa 7))] [] := by
  have hb := hK.b
  have loop : ∀ (n q : Nat), q + n = c 2 → ∀ W, LW (xy C) e0 a aa av c i j p r 14 W → G C W (mc + 10 + 3 * q) (ms + 100 + 18 * q) 839 [(23, .int (nI q)), (12, .int (nI 1)), (19, .int (nI ln)), (18, .int (nI pN)), (17, .int (nI D)), (16, .int (nI Y)), (14, .int (nI t)), (13, .int (nI T)), (11, .int (nI (c 2))), (10, .int (nI 4)), (0, .ref b), (1, .ref a), (2, .ref (aa 0)), (3, .ref (aa 1)), (4, .ref (aa 2)), (5, .ref (aa 3)), (6, .ref (aa 4)), (7, .ref (aa 5)), (8, .ref (aa 6)), (9, .ref (aa 7))] [] := by
    intro n
    induction n with
    | zero =>
      intro q hq W hW
      refine g_iload E dL_law_839 0 rfl ?_
      refine g_iload E dL_law_841 8 rfl ?_
      refine n_icmp_ge (tgt := 905) E (by omega) (by omega) dL_law_843 (by decide) (fun c_843 => ?_) (fun z => by omega)
      refine g_goto (tgt := 1435) E dL_law_905 (by decide) ?_
      refine g_locals [(12, .int (nI 1)), (19, .int (nI ln)), (18, .int (nI pN)), (16, .int (nI Y)), (14, .int (nI t)), (13, .int (nI T)), (11, .int (nI (c 2))), (10, .int (nI 4)), (0, .ref b), (1, .ref a), (2, .ref (aa 0)), (3, .ref (aa 1)), (4, .ref (aa 2)), (5, .ref (aa 3)), (6, .ref (aa 4)), (7, .ref (aa 5)), (8, .ref (aa 6)), (9, .ref (aa 7))] [1, 2, 3, 5, 6, 7, 8, 9, 10, 11, 12, 13, 14, 15, 16, 17, 18, 19] rfl ?_
      exact g_widen (by omega) (by omega) (kk av c i j p r N W hW hK hA h4 (by omega) (Or.inl hpN))
    | succ n ih =>
      intro q hq W hW
      have next : ∀ W, LW (xy C) e0 a aa av c i j p r 14 W → ∀ m s, m ≤ mc + 10 + 3 * q + 3 → s ≤ ms + 100 + 18 * q + 18 → G C W m s 892 [(23, .int (nI q)), (12, .int (nI 1)), (19, .int (nI ln)), (18, .int (nI pN)), (17, .int (nI D)), (16, .int (nI Y)), (14, .int (nI t)), (13, .int (nI T)), (11, .int (nI (c 2))), (10, .int (nI 4)), (0, .ref b), (1, .ref a), (2, .ref (aa 0)), (3, .ref (aa 1)), (4, .ref (aa 2)), (5, .ref (aa 3)), (6, .ref (aa 4)), (7, .ref (aa 5)), (8, .ref (aa 6)), (9, .ref (aa 7))] [] := by
        intro W hW m s hm hs
        refine g_iconst (v := nI 1) E dL_law_892 (by decide) ?_
        refine g_goto (tgt := 897) E dL_law_893 (by decide) ?_
        refine g_istore (L' := [(12, .int (nI 1)), (23, .int (nI q)), (19, .int (nI ln)), (18, .int (nI pN)), (17, .int (nI D)), (16, .int (nI Y)), (14, .int (nI t)), (13, .int (nI T)), (11, .int (nI (c 2))), (10, .int (nI 4)), (0, .ref b), (1, .ref a), (2, .ref (aa 0)), (3, .ref (aa 1)), (4, .ref (aa 2)), (5, .ref (aa 3)), (6, .ref (aa 4)), (7, .ref (aa 5)), (8, .ref (aa 6)), (9, .ref (aa 7))]) E dL_law_897 (by decide) rfl ?_
        refine g_iinc (v := nI (q + 1)) (L' := [(23, .int (nI (q + 1))), (12, .int (nI 1)), (19, .int (nI ln)), (18, .int (nI pN)), (17, .int (nI D)), (16, .int (nI Y)), (14, .int (nI t)), (13, .int (nI T)), (11, .int (nI (c 2))), (10, .int (nI 4)), (0, .ref b), (1, .ref a), (2, .ref (aa 0)), (3, .ref (aa 1)), (4, .ref (aa 2)), (5, .ref (aa 3)), (6, .ref (aa 4)), (7, .ref (aa 5)), (8, .ref (aa 6)), (9, .ref (aa 7))]) E dL_law_899 1 rfl (nI_1 q) (by decide) rfl ?_
        refine g_goto (tgt := 839) E dL_law_902 (by decide) ?_
        refine g_locals [(23, .int (nI (q + 1))), (12, .int (nI 1)), (19, .int (nI ln)), (18, .int (nI pN)), (17, .int (nI D)), (16, .int (nI Y)), (14, .int (nI t)), (13, .int (nI T)), (11, .int (nI (c 2))), (10, .int (nI 4)), (0, .ref b), (1, .ref a), (2, .ref (aa 0)), (3, .ref (aa 1)), (4, .ref (aa 2)), (5, .ref (aa 3)), (6, .ref (aa 4)), (7, .ref (aa 5)), (8, .ref (aa 6)), (9, .ref (aa 7))] [0, 1, 2, 3, 4, 5, 6, 7, 8, 9, 10, 11, 12, 13, 14, 15, 16, 17, 18, 19] rfl ?_
        exact g_widen (by omega) (by omega) (ih (q + 1) (by omega) W hW)
      refine g_iload E dL_law_839 0 rfl ?_
      refine g_iload E dL_law_841 8 rfl ?_
      refine n_icmp_ge (tgt := 905) E (by omega) (by omega) dL_law_843 (by decide) (fun z => by omega) (fun c_843 => ?_)
      refine g_iload E dL_law_846 1 rfl ?_
      refine g_if_eq (tgt := 905) E dL_law_848 (by decide) (fun z => absurd z (by decide)) (fun c_848 => ?_)
      refine g_aload E dL_law_851 19 rfl ?_
      refine g_iload E dL_law_853 0 rfl ?_
      refine l_ald E hW 7 q (by decide) (by show _ < 40; omega) dL_law_855 ?_
      have hch := (hK.pm q (by omega)).2.2.2.2.2.2.2.2
      rcases (hA.2.2 q (by omega)).2.2.2 with ⟨hp1, ha7⟩ | ⟨z, hzq, hp1, ha7⟩
      · refine g_if_lt (tgt := 892) E dL_law_856 (by decide) (fun c_856 => ?_) (fun z => absurd (by rw [ha7]; decide) z)
        exact next W hW _ _ (by omega) (by omega)
      · refine g_if_lt (tgt := 892) E dL_law_856 (by decide) (fun z => absurd (by rw [ha7] at z; exact z) (nI_pos (by omega))) (fun c_856 => ?_)
        refine g_aload_n E dL_law_859 rfl 11 rfl ?_
        refine g_aload E dL_law_860 19 rfl ?_
        refine g_iload E dL_law_862 0 rfl ?_
        refine l_ald E hW 7 q (by decide) (by show _ < 40; omega) dL_law_864 ?_
        rw [ha7]
        refine k_state E hW hK (k := z) (by omega) gL_law_X5_state ⟨Nat.le_of_ble_eq_true rfl, Nat.le_of_ble_eq_true rfl⟩ (Nat.le_of_ble_eq_true rfl) dL_law_865 ⟨by show _ ≤ 646545; omega, by show _ ≤ 7162134; omega⟩ (fun W hW => ?_)
        refine g_iconst (v := nI 4) E dL_law_868 (by decide) ?_
        by_cases h4z : i 11 z = nI 4
        · refine g_icmp_ne (tgt := 892) E dL_law_869 (by decide) (fun z => absurd h4z z) (fun c_869 => ?_)
          refine g_aload_n E dL_law_872 rfl 11 rfl ?_
          refine g_iload E dL_law_873 0 rfl ?_
          refine k_state E hW hK (k := q) (by omega) gL_law_X5_state ⟨Nat.le_of_ble_eq_true rfl, Nat.le_of_ble_eq_true rfl⟩ (Nat.le_of_ble_eq_true rfl) dL_law_875 ⟨by show _ ≤ 646545; omega, by show _ ≤ 7162134; omega⟩ (fun W hW => ?_)
          refine g_iconst (v := nI 4) E dL_law_878 (by decide) ?_
          rcases (hch z hp1).1 h4z with h5 | h5
          · refine g_icmp_eq (tgt := 892) E dL_law_879 (by decide) (fun c_879 => ?_) (fun z => absurd h5 z)
            exact next W hW _ _ (by omega) (by omega)
          · refine g_icmp_eq (tgt := 892) E dL_law_879 (by decide) (fun z => absurd (h5.symm.trans z) (by decide)) (fun c_879 => ?_)
            refine g_aload_n E dL_law_882 rfl 11 rfl ?_
            refine g_iload E dL_law_883 0 rfl ?_
            refine k_state E hW hK (k := q) (by omega) gL_law_X5_state ⟨Nat.le_of_ble_eq_true rfl, Nat.le_of_ble_eq_true rfl⟩ (Nat.le_of_ble_eq_true rfl) dL_law_885 ⟨by show _ ≤ 646545; omega, by show _ ≤ 7162134; omega⟩ (fun W hW => ?_)
            refine g_iconst (v := nI 1) E dL_law_888 (by decide) ?_
            refine g_icmp_ne (tgt := 896) E dL_law_889 (by decide) (fun z => absurd h5 z) (fun c_889 => ?_)
            exact next W hW _ _ (by omega) (by omega)
        · refine g_icmp_ne (tgt := 892) E dL_law_869 (by decide) (fun c_869 => ?_) (fun z => absurd z h4z)
          exact next W hW _ _ (by omega) (by omega)
  refine g_iconst (v := nI 0) E dL_law_836 (by decide) ?_
  refine g_istore (L' := [(23, .int (nI 0)), (12, .int (nI 1)), (19, .int (nI ln)), (18, .int (nI pN)), (17, .int (nI D)), (16, .int (nI Y)), (14, .int (nI t)), (13, .int (nI T)), (11, .int (nI (c 2))), (10, .int (nI 4)), (0, .ref b), (1, .ref a), (2, .ref (aa 0)), (3, .ref (aa 1)), (4, .ref (aa 2)), (5, .ref (aa 3)), (6, .ref (aa 4)), (7, .ref (aa 5)), (8, .ref (aa 6)), (9, .ref (aa 7))]) E dL_law_837 (by decide) rfl ?_
  refine g_locals [(23, .int (nI 0)), (12, .int (nI 1)), (19, .int (nI ln)), (18, .int (nI pN)), (17, .int (nI D)), (16, .int (nI Y)), (14, .int (nI t)), (13, .int (nI T)), (11, .int (nI (c 2))), (10, .int (nI 4)), (0, .ref b), (1, .ref a), (2, .ref (aa 0)), (3, .ref (aa 1)), (4, .ref (aa 2)), (5, .ref (aa 3)), (6, .ref (aa 4)), (7, .ref (aa 5)), (8, .ref (aa 6)), (9, .ref (aa 7))] [0, 1, 2, 3, 4, 5, 6, 7, 8, 9, 10, 11, 12, 13, 14, 15, 16, 17, 18, 19] rfl ?_
  exact g_widen (by omega) (by omega) (loop (c 2) 0 (Nat.zero_add _) W hW)
set_option maxHeartbeats 4000000 in
set_option maxRecDepth 100000 in
theorem z_withdraw (E : gOk C cL_law 27 wsL_law RL e0 room_1) (hW : LW (xy C) e0 a aa av c i j p r 14 W) (hK : KN c i j p r 14 N) (hA : LA c i p r av) (h4 : c 0 = 4) (hln : ln < 4) (hY : Y < 2 ^ 28) (hmc : mc + 1000 ≤ 646545) (hms : ms + 8000 ≤ 7162134) (hpN : pN < c 2) (kk : ∀ (av : Nat → Nat → Int32) (c : Nat → Nat) (i : Nat → Nat → Int32) (j : Nat → Nat → Int64) (p : Nat → Nat → Option Nat) (r : Nat → Nat → Int32) (N' : Nat) (W : va_W), LW (xy C) e0 a aa av c i j p r 14 W → KN c i j p r 14 N' → LA c i p r av → c 0 = 4 → N' ≤ N + 20 → (pN < c 2 ∨ c 2 = 0) → G C W (mc + 150) (ms + 3000) 1435 [(12, .int (nI 1)), (19, .int (nI ln)), (18, .int (nI pN)), (16, .int (nI Y)), (14, .int (nI t)), (13, .int (nI T)), (11, .int (nI (c 2))), (10, .int (nI 4)), (0, .ref b), (1, .ref a), (2, .ref (aa 0)), (3, .ref (aa 1)), (4, .ref (aa 2)), (5, .ref (aa 3)), (6, .ref (aa 4)), (7, .ref (aa 5)), (8, .ref (aa 6)), (9, .ref (aa 7))] []) : G C W mc ms 758 [(19, .int (nI ln)), (18, .int (nI pN)), (17, .int (nI D)), (16, .int (nI Y)), (14, .int (nI t)), (13, .int (nI T)), (12, .int (nI 1)), (11, .int (nI (c 2))), (10, .int (nI 4)), (0, .ref b), (1, .ref a), (2, .ref (aa 0)), (3, .ref (aa 1)), (4, .ref (aa 2)), (5, .ref (aa 3)), (6, .ref (aa 4)), (7, .ref (aa 5)), (8, .ref (aa 6)), (9, .ref (aa 7))] [] := by
  have hb := hK.b
  refine g_aload_n E dL_law_758 rfl 10 rfl ?_
  refine g_iload E dL_law_759 1 rfl ?_
  refine k_state E hW hK (k := pN) hpN gL_law_X5_state ⟨Nat.le_of_ble_eq_true rfl, Nat.le_of_ble_eq_true rfl⟩ (Nat.le_of_ble_eq_true rfl) dL_law_761 ⟨by show _ ≤ 646545; omega, by show _ ≤ 7162134; omega⟩ (fun W hW => ?_)
  refine g_istore (L' := [(20, .int (i 11 pN)), (19, .int (nI ln)), (18, .int (nI pN)), (17, .int (nI D)), (16, .int (nI Y)), (14, .int (nI t)), (13, .int (nI T)), (12, .int (nI 1)), (11, .int (nI (c 2))), (10, .int (nI 4)), (0, .ref b), (1, .ref a), (2, .ref (aa 0)), (3, .ref (aa 1)), (4, .ref (aa 2)), (5, .ref (aa 3)), (6, .ref (aa 4)), (7, .ref (aa 5)), (8, .ref (aa 6)), (9, .ref (aa 7))]) E dL_law_764 (by decide) rfl ?_
  refine g_aload_n E dL_law_766 rfl 11 rfl ?_
  refine g_iconst (v := nI 0) E dL_law_767 (by decide) ?_
  refine g_iload E dL_law_768 2 rfl ?_
  refine g_iconst (v := nI 0) E dL_law_770 (by decide) ?_
  refine k_on_withdraw E hW hK (k := pN) hpN gL_law_L_on ⟨Nat.le_of_ble_eq_true rfl, Nat.le_of_ble_eq_true rfl⟩ (Nat.le_of_ble_eq_true rfl) dL_law_771 ⟨by show _ ≤ 646545; omega, by show _ ≤ 7162134; omega⟩ (fun h0 m ii jj W h1 h2 hKW hii hW => ?_) (fun h0 W hW => ?_)
  · have hK2 := hKW.kn hK
    have hA2 : LA c ii p r av := by
      refine ⟨hA.1, fun l hl => ?_, fun k hk => ?_⟩
      · rw [hKW.1 1 (by decide)]; exact hA.2.1 l hl
      · rw [hKW.1 7 (by decide), hKW.1 10 (by decide), hKW.1 6 (by decide)]; exact hA.2.2 k hk
    refine g_lstore (L' := [(21, .long (lN m)), (20, .int (i 11 pN)), (19, .int (nI ln)), (18, .int (nI pN)), (17, .int (nI D)), (16, .int (nI Y)), (14, .int (nI t)), (13, .int (nI T)), (12, .int (nI 1)), (11, .int (nI (c 2))), (10, .int (nI 4)), (0, .ref b), (1, .ref a), (2, .ref (aa 0)), (3, .ref (aa 1)), (4, .ref (aa 2)), (5, .ref (aa 3)), (6, .ref (aa 4)), (7, .ref (aa 5)), (8, .ref (aa 6)), (9, .ref (aa 7))]) E dL_law_774 (by decide) rfl ?_
    refine g_lload E dL_law_776 0 rfl ?_
    refine g_ldc2 (v := (-900013)) E (by decide +kernel) dL_law_778 ?_
    refine g_lcmp E dL_law_781 ?_
    refine g_if_ne (tgt := 798) E dL_law_782 (by decide) (fun c_782 => ?_) (fun z => absurd ((lg_cmp_eq _ _).mp z) (lN_no m (by omega)))
    refine g_iload E dL_law_798 1 rfl ?_
    refine g_if_ne (tgt := 833) E dL_law_800 (by decide) (fun z => absurd h0 z) (fun c_800 => ?_)
    refine g_aload_n E dL_law_803 rfl 12 rfl ?_
    refine g_iload E dL_law_804 3 rfl ?_
    refine k_state E hW hK2 (k := pN) hpN gL_law_X5_state ⟨Nat.le_of_ble_eq_true rfl, Nat.le_of_ble_eq_true rfl⟩ (Nat.le_of_ble_eq_true rfl) dL_law_806 ⟨by show _ ≤ 646545; omega, by show _ ≤ 7162134; omega⟩ (fun W hW => ?_)
    refine g_iconst (v := nI 4) E dL_law_809 (by decide) ?_
    refine g_icmp_ne (tgt := 833) E dL_law_810 (by decide) (fun z => absurd hii z) (fun c_810 => ?_)
    refine g_lload E dL_law_813 0 rfl ?_
    refine g_lconst (v := 1) E dL_law_815 (by decide) ?_
    refine g_lcmp E dL_law_816 ?_
    refine g_if_lt (tgt := 833) E dL_law_817 (by decide) (fun z => absurd ((lg_cmp_lt _ _).mp z) (by rw [show (1 : Int64) = lN 1 from rfl, lN_lt (by omega) (by decide)]; omega)) (fun c_817 => ?_)
    refine g_lload E dL_law_820 0 rfl ?_
    refine g_iload E dL_law_822 9 rfl ?_
    refine g_i2l E dL_law_824 ?_
    refine g_lcmp E dL_law_825 ?_
    refine g_if_gt (tgt := 833) E dL_law_826 (by decide) (fun z => absurd ((lg_cmp_gt _ _).mp z) (by rw [nI_l (by omega), lN_lt (by omega) (by omega)]; omega)) (fun c_826 => ?_)
    refine g_iconst (v := nI 1) E dL_law_829 (by decide) ?_
    refine g_goto (tgt := 834) E dL_law_830 (by decide) ?_
    refine g_istore (L' := [(12, .int (nI 1)), (21, .long (lN m)), (20, .int (i 11 pN)), (19, .int (nI ln)), (18, .int (nI pN)), (17, .int (nI D)), (16, .int (nI Y)), (14, .int (nI t)), (13, .int (nI T)), (11, .int (nI (c 2))), (10, .int (nI 4)), (0, .ref b), (1, .ref a), (2, .ref (aa 0)), (3, .ref (aa 1)), (4, .ref (aa 2)), (5, .ref (aa 3)), (6, .ref (aa 4)), (7, .ref (aa 5)), (8, .ref (aa 6)), (9, .ref (aa 7))]) E dL_law_834 (by decide) rfl ?_
    refine g_locals [(12, .int (nI 1)), (19, .int (nI ln)), (18, .int (nI pN)), (17, .int (nI D)), (16, .int (nI Y)), (14, .int (nI t)), (13, .int (nI T)), (11, .int (nI (c 2))), (10, .int (nI 4)), (0, .ref b), (1, .ref a), (2, .ref (aa 0)), (3, .ref (aa 1)), (4, .ref (aa 2)), (5, .ref (aa 3)), (6, .ref (aa 4)), (7, .ref (aa 5)), (8, .ref (aa 6)), (9, .ref (aa 7))] [0, 3, 4, 5, 6, 7, 8, 9, 10, 11, 12, 13, 14, 15, 16, 17, 18, 19, 20] rfl ?_
    exact z_chain (mc := mc) (ms := ms) E hW hK2 hA2 h4 hln hY hmc hms hpN (by omega) rfl hmc (by omega) (by omega) kk
  · refine g_lstore (L' := [(21, .long (-900013)), (20, .int (i 11 pN)), (19, .int (nI ln)), (18, .int (nI pN)), (17, .int (nI D)), (16, .int (nI Y)), (14, .int (nI t)), (13, .int (nI T)), (12, .int (nI 1)), (11, .int (nI (c 2))), (10, .int (nI 4)), (0, .ref b), (1, .ref a), (2, .ref (aa 0)), (3, .ref (aa 1)), (4, .ref (aa 2)), (5, .ref (aa 3)), (6, .ref (aa 4)), (7, .ref (aa 5)), (8, .ref (aa 6)), (9, .ref (aa 7))]) E dL_law_774 (by decide) rfl ?_
    refine g_lload E dL_law_776 0 rfl ?_
    refine g_ldc2 (v := (-900013)) E (by decide +kernel) dL_law_778 ?_
    refine g_lcmp E dL_law_781 ?_
    refine g_if_ne (tgt := 798) E dL_law_782 (by decide) (fun z => absurd ((lg_cmp_eq _ _).mpr rfl) z) (fun c_782 => ?_)
    refine g_iload E dL_law_785 1 rfl ?_
    refine g_if_eq (tgt := 794) E dL_law_787 (by decide) (fun z => absurd z h0) (fun c_787 => ?_)
    refine g_iconst (v := nI 1) E dL_law_790 (by decide) ?_
    refine g_goto (tgt := 834) E dL_law_791 (by decide) ?_
    refine g_istore (L' := [(12, .int (nI 1)), (21, .long (-900013)), (20, .int (i 11 pN)), (19, .int (nI ln)), (18, .int (nI pN)), (17, .int (nI D)), (16, .int (nI Y)), (14, .int (nI t)), (13, .int (nI T)), (11, .int (nI (c 2))), (10, .int (nI 4)), (0, .ref b), (1, .ref a), (2, .ref (aa 0)), (3, .ref (aa 1)), (4, .ref (aa 2)), (5, .ref (aa 3)), (6, .ref (aa 4)), (7, .ref (aa 5)), (8, .ref (aa 6)), (9, .ref (aa 7))]) E dL_law_834 (by decide) rfl ?_
    refine g_locals [(12, .int (nI 1)), (19, .int (nI ln)), (18, .int (nI pN)), (17, .int (nI D)), (16, .int (nI Y)), (14, .int (nI t)), (13, .int (nI T)), (11, .int (nI (c 2))), (10, .int (nI 4)), (0, .ref b), (1, .ref a), (2, .ref (aa 0)), (3, .ref (aa 1)), (4, .ref (aa 2)), (5, .ref (aa 3)), (6, .ref (aa 4)), (7, .ref (aa 5)), (8, .ref (aa 6)), (9, .ref (aa 7))] [0, 3, 4, 5, 6, 7, 8, 9, 10, 11, 12, 13, 14, 15, 16, 17, 18, 19, 20] rfl ?_
    exact z_chain (mc := mc) (ms := ms) E hW hK hA h4 hln hY hmc hms hpN (by omega) rfl hmc (by omega) (by omega) kk
end LZ
