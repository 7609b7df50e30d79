abbrev rm_X6_stop : Room := { frames := 2, cells := 0, slots := 0, locals := 43 }
set_option maxHeartbeats 4000000 in
set_option maxRecDepth 100000 in
theorem m_X6_stop (l : Launch) (hl : l.stackTraces = false) (D : va_G) (cy : Nat → ClassId) (e0 : Nat) {ma : Nat → Nat} {s : mS} {M : Nat} (hM : mi s 5 = nI M) (hM1 : M ≤ 24) (hln : MLN s M) {nl : Nat} (hl0 : mi s 10 = nI nl) (hl1 : nl ≤ 6) (hLI : MLI s nl) {x y : Int32} : mMet l yX6_stop wsX6_stop rm_X6_stop D cy e0 [.ref (ma 0), .int (x), .int (y)] ma s (fun v s' => (∃ k b n, k < nl ∧ x = nI k ∧ b < 10 ∧ y = nI b ∧ n < 6 ∧ mr s 8 k = nI (n + 1) ∧ ¬ mst s k n = b ∧ (n + 1 < 6 ∧ mi s 1 = 0 ∧ ¬ (1000000 : Int32) ≤ mds s 0 M (mst s k n) b) ∧ v = some (.int (nI (n + 2))) ∧ ∃ g, s' = muR (muR (muI (mFar s g) 0 0) 7 (6 * k + (n + 1)) (nI b)) 8 k (nI (n + 2))) ∨ (¬ ((∃ k, k < nl ∧ x = nI k) ∧ JN y) ∧ v = some (.int 0) ∧ s' = muI s 0 1) ∨ (∃ k b n, k < nl ∧ x = nI k ∧ b < 10 ∧ y = nI b ∧ n < 6 ∧ mr s 8 k = nI (n + 1) ∧ mst s k n = b ∧ v = some (.int 0) ∧ ∃ g, s' = muI (mFar s g) 0 2) ∨ (∃ k b n, k < nl ∧ x = nI k ∧ b < 10 ∧ y = nI b ∧ n < 6 ∧ mr s 8 k = nI (n + 1) ∧ ¬ mst s k n = b ∧ ¬ (n + 1 < 6 ∧ mi s 1 = 0 ∧ ¬ (1000000 : Int32) ≤ mds s 0 M (mst s k n) b) ∧ v = some (.int 0) ∧ ∃ g, s' = muI (mFar s g) 0 3)) := by
  refine gMet.of (cc := cX6_stop) (maxL := 6) (ret := (some .int)) hl (by decide) rfl (Nat.le_of_ble_eq_true rfl) ?_
  intro C E h1 h2 h3 hr hnm hT hE
  subst h1; subst h2; subst h3
  have E : gOk C cX6_stop 6 wsX6_stop RX6 e0 rm_X6_stop := E
  show G C (mW (xy C) ma s) 0 0 0 [(0, .ref (ma 0)), (1, .int (x)), (2, .int (y))] []
  refine g_aload_n E dX6_stop_0 rfl 0 rfl ?_
  refine g_iload_n E dX6_stop_1 rfl 1 rfl ?_
  refine k_invV (n := 1) (rest := []) E (m_X6_isLine (xl C) E.tr (xD C) (xy C) e0 hl0) gX6_stop_X6_isLine rfl rfl rfl (by decide +kernel) ⟨Nat.le_of_ble_eq_true rfl, Nat.le_of_ble_eq_true rfl⟩ rfl rfl (Nat.le_of_ble_eq_true rfl) dX6_stop_2 ⟨Nat.le_of_ble_eq_true rfl, Nat.le_of_ble_eq_true rfl⟩ (fun v9 s9_2 h9 => ?_)
  obtain ⟨hv9, hS9⟩ := h9
  rw [hv9, hS9]
  show G C (mW (xy C) ma s) 0 0 5 [(0, .ref (ma 0)), (1, .int (x)), (2, .int (y))] [.int ((isIx (x) nl))]
  refine g_if_eq (tgt := 19) E dX6_stop_5 (by decide) (fun c_5 => ?_) (fun c_5 => ?_)
  · refine g_iconst (v := 0) E dX6_stop_19 (by decide) ?_
    refine g_istore_n (L' := [(3, .int (0)), (0, .ref (ma 0)), (1, .int (x)), (2, .int (y))]) E dX6_stop_20 rfl (by decide) rfl ?_
    refine g_iload_n E dX6_stop_21 rfl 0 rfl ?_
    refine g_if_eq (tgt := 46) E dX6_stop_22 (by decide) (fun c_22 => ?_) (fun c_22 => ?_)
    · refine g_iconst (v := (-1)) E dX6_stop_46 (by decide) ?_
      refine g_istore (L' := [(4, .int ((-1))), (3, .int (0)), (0, .ref (ma 0)), (1, .int (x)), (2, .int (y))]) E dX6_stop_47 (by decide) rfl ?_
      refine g_iload_n E dX6_stop_49 rfl 1 rfl ?_
      refine g_if_eq (tgt := 88) E dX6_stop_50 (by decide) (fun c_50 => ?_) (fun c_50 => ?_)
      · refine g_iconst (v := 0) E dX6_stop_88 (by decide) ?_
        refine g_istore (L' := [(5, .int (0)), (4, .int ((-1))), (3, .int (0)), (0, .ref (ma 0)), (1, .int (x)), (2, .int (y))]) E dX6_stop_89 (by decide) rfl ?_
        refine g_aload_n E dX6_stop_91 rfl 3 rfl ?_
        refine g_iload_n E dX6_stop_92 rfl 2 rfl ?_
        refine g_if_ne (tgt := 100) E dX6_stop_93 (by decide) (fun c_93 => ?_) (fun c_93 => ?_)
        · exact absurd c_93 (by decide)
        · refine g_iconst (v := 1) E dX6_stop_96 (by decide) ?_
          refine g_goto (tgt := 120) E dX6_stop_97 (by decide) ?_
          refine k_invV (n := 1) (rest := []) E (m_X6_isFine (xl C) E.tr (xD C) (xy C) e0 (s := s) (x := 1)) gX6_stop_X6_isFine rfl rfl rfl (by decide +kernel) ⟨Nat.le_of_ble_eq_true rfl, Nat.le_of_ble_eq_true rfl⟩ rfl rfl (Nat.le_of_ble_eq_true rfl) dX6_stop_120 ⟨Nat.le_of_ble_eq_true rfl, Nat.le_of_ble_eq_true rfl⟩ (fun v9 s9_120 h9 => ?_)
          obtain ⟨hv9, hS9⟩ := h9
          rw [hv9, hS9]
          rw [show bI ((1 : Int32) = 0) = 0 by decide]
          show G C (mW (xy C) ma (muI s 0 (1))) 0 0 123 [(5, .int (0)), (4, .int ((-1))), (3, .int (0)), (0, .ref (ma 0)), (1, .int (x)), (2, .int (y))] [.int (0)]
          refine g_if_ne (tgt := 128) E dX6_stop_123 (by decide) (fun c_123 => ?_) (fun c_123 => ?_)
          · exact absurd c_123 (by decide)
          · refine g_iconst (v := 0) E dX6_stop_126 (by decide) ?_
            exact g_iret E hE hr dX6_stop_127 (Nat.le_of_ble_eq_true rfl) (Nat.le_of_ble_eq_true rfl) ⟨(muI s 0 (1)), rfl, Or.inr (Or.inl ⟨fun q => q.1.elim fun a z => isIx_f (by omega) c_5 a z.1 z.2, rfl, rfl⟩)⟩
      · exact absurd c_50 (by decide)
    · exact absurd c_22 (by decide)
  · obtain ⟨k, hk, hxk⟩ := isIx_t (by omega) c_5
    subst hxk
    obtain ⟨n, hn6, hst, hsp⟩ := hLI k hk
    show G C (mW (xy C) ma s) 0 0 8 [(0, .ref (ma 0)), (1, .int (nI k)), (2, .int (y))] []
    refine g_iload_n E dX6_stop_8 rfl 2 rfl ?_
    refine k_invS (n := 1) (rest := []) E (m_X6_isJunction (xl C) E.tr (xD C) (xy C) e0 ) gX6_stop_X6_isJunction rfl rfl rfl (by decide +kernel) ⟨Nat.le_of_ble_eq_true rfl, Nat.le_of_ble_eq_true rfl⟩ rfl rfl (Nat.le_of_ble_eq_true rfl) dX6_stop_9 ⟨Nat.le_of_ble_eq_true rfl, Nat.le_of_ble_eq_true rfl⟩ (fun v9 s9_9 h9 => ?_)
    obtain ⟨hv9, hS9⟩ := h9
    rw [hv9, hS9]
    show G C (mW (xy C) ma s) 0 0 12 [(0, .ref (ma 0)), (1, .int (nI k)), (2, .int (y))] [.int ((isIx (y) 10))]
    refine g_if_eq (tgt := 19) E dX6_stop_12 (by decide) (fun c_12 => ?_) (fun c_12 => ?_)
    · refine g_iconst (v := 0) E dX6_stop_19 (by decide) ?_
      refine g_istore_n (L' := [(3, .int (0)), (0, .ref (ma 0)), (1, .int (nI k)), (2, .int (y))]) E dX6_stop_20 rfl (by decide) rfl ?_
      refine g_iload_n E dX6_stop_21 rfl 0 rfl ?_
      refine g_if_eq (tgt := 46) E dX6_stop_22 (by decide) (fun c_22 => ?_) (fun c_22 => ?_)
      · refine g_iconst (v := (-1)) E dX6_stop_46 (by decide) ?_
        refine g_istore (L' := [(4, .int ((-1))), (3, .int (0)), (0, .ref (ma 0)), (1, .int (nI k)), (2, .int (y))]) E dX6_stop_47 (by decide) rfl ?_
        refine g_iload_n E dX6_stop_49 rfl 1 rfl ?_
        refine g_if_eq (tgt := 88) E dX6_stop_50 (by decide) (fun c_50 => ?_) (fun c_50 => ?_)
        · refine g_iconst (v := 0) E dX6_stop_88 (by decide) ?_
          refine g_istore (L' := [(5, .int (0)), (4, .int ((-1))), (3, .int (0)), (0, .ref (ma 0)), (1, .int (nI k)), (2, .int (y))]) E dX6_stop_89 (by decide) rfl ?_
          refine g_aload_n E dX6_stop_91 rfl 3 rfl ?_
          refine g_iload_n E dX6_stop_92 rfl 2 rfl ?_
          refine g_if_ne (tgt := 100) E dX6_stop_93 (by decide) (fun c_93 => ?_) (fun c_93 => ?_)
          · exact absurd c_93 (by decide)
          · refine g_iconst (v := 1) E dX6_stop_96 (by decide) ?_
            refine g_goto (tgt := 120) E dX6_stop_97 (by decide) ?_
            refine k_invV (n := 1) (rest := []) E (m_X6_isFine (xl C) E.tr (xD C) (xy C) e0 (s := s) (x := 1)) gX6_stop_X6_isFine rfl rfl rfl (by decide +kernel) ⟨Nat.le_of_ble_eq_true rfl, Nat.le_of_ble_eq_true rfl⟩ rfl rfl (Nat.le_of_ble_eq_true rfl) dX6_stop_120 ⟨Nat.le_of_ble_eq_true rfl, Nat.le_of_ble_eq_true rfl⟩ (fun v9 s9_120 h9 => ?_)
            obtain ⟨hv9, hS9⟩ := h9
            rw [hv9, hS9]
            rw [show bI ((1 : Int32) = 0) = 0 by decide]
            show G C (mW (xy C) ma (muI s 0 (1))) 0 0 123 [(5, .int (0)), (4, .int ((-1))), (3, .int (0)), (0, .ref (ma 0)), (1, .int (nI k)), (2, .int (y))] [.int (0)]
            refine g_if_ne (tgt := 128) E dX6_stop_123 (by decide) (fun c_123 => ?_) (fun c_123 => ?_)
            · exact absurd c_123 (by decide)
            · refine g_iconst (v := 0) E dX6_stop_126 (by decide) ?_
              exact g_iret E hE hr dX6_stop_127 (Nat.le_of_ble_eq_true rfl) (Nat.le_of_ble_eq_true rfl) ⟨(muI s 0 (1)), rfl, Or.inr (Or.inl ⟨fun q => q.2.elim fun a z => isIx_f (by omega) c_12 a z.1 z.2, rfl, rfl⟩)⟩
        · exact absurd c_50 (by decide)
      · exact absurd c_22 (by decide)
    · obtain ⟨b, hb, hyb⟩ := isIx_t (by omega) c_12
      subst hyb
      show G C (mW (xy C) ma s) 0 0 15 [(0, .ref (ma 0)), (1, .int (nI k)), (2, .int (nI b))] []
      refine g_iconst (v := 1) E dX6_stop_15 (by decide) ?_
      refine g_goto (tgt := 20) E dX6_stop_16 (by decide) ?_
      refine g_istore_n (L' := [(3, .int (1)), (0, .ref (ma 0)), (1, .int (nI k)), (2, .int (nI b))]) E dX6_stop_20 rfl (by decide) rfl ?_
      refine g_iload_n E dX6_stop_21 rfl 0 rfl ?_
      refine g_if_eq (tgt := 46) E dX6_stop_22 (by decide) (fun c_22 => ?_) (fun c_22 => ?_)
      · exact absurd c_22 (by decide)
      · refine g_aload_n E dX6_stop_25 rfl 1 rfl ?_
        refine k_get_stop (s := s) E (fun _ h => (List.mem_cons_of_mem _ (List.mem_append_right _ h))) (List.mem_cons_of_mem _ (List.mem_append_left _ (List.mem_append_left _ (List.mem_of_getElem? (i := 0) rfl)))) dX6_stop_26 ?_
        refine g_bipush (v := 6) E dX6_stop_29 (by decide) ?_
        refine g_iload_n E dX6_stop_31 rfl 2 rfl ?_
        refine g_imul E dX6_stop_32 ?_
        rw [nI_mul6]
        show G C (mW (xy C) ma s) 0 0 33 [(3, .int (1)), (0, .ref (ma 0)), (1, .int (nI k)), (2, .int (nI b))] [.int (nI (6 * k)), .ref (ma 7)]
        refine g_aload_n E dX6_stop_33 rfl 1 rfl ?_
        refine k_get_stops (s := s) E (fun _ h => (List.mem_cons_of_mem _ (List.mem_append_right _ h))) (List.mem_cons_of_mem _ (List.mem_append_left _ (List.mem_append_left _ (List.mem_of_getElem? (i := 1) rfl)))) dX6_stop_34 ?_
        refine g_iload_n E dX6_stop_37 rfl 2 rfl ?_
        refine k_ald_stops (s := s) E k rfl (by omega) dX6_stop_38 ?_
        rw [show mr s 8 k = nI (n + 1) from hst]
        show G C (mW (xy C) ma s) 0 0 39 [(3, .int (1)), (0, .ref (ma 0)), (1, .int (nI k)), (2, .int (nI b))] [.int (nI (n + 1)), .int (nI (6 * k)), .ref (ma 7)]
        refine g_iadd E dX6_stop_39 ?_
        rw [nI_add]
        show G C (mW (xy C) ma s) 0 0 40 [(3, .int (1)), (0, .ref (ma 0)), (1, .int (nI k)), (2, .int (nI b))] [.int (nI (6 * k + (n + 1))), .ref (ma 7)]
        refine g_iconst (v := 1) E dX6_stop_40 (by decide) ?_
        refine g_isub E dX6_stop_41 ?_
        refine k_ald_stop (s := s) E ((6 * k + n)) (nI_pred (6 * k + n)) (by omega) dX6_stop_42 ?_
        rw [show mr s 7 ((6 * k + n)) = nI (mst s k n) from (hsp n (by omega)).1]
        show G C (mW (xy C) ma s) 0 0 43 [(3, .int (1)), (0, .ref (ma 0)), (1, .int (nI k)), (2, .int (nI b))] [.int (nI (mst s k n))]
        refine g_goto (tgt := 47) E dX6_stop_43 (by decide) ?_
        refine g_istore (L' := [(4, .int (nI (mst s k n))), (3, .int (1)), (0, .ref (ma 0)), (1, .int (nI k)), (2, .int (nI b))]) E dX6_stop_47 (by decide) rfl ?_
        refine g_iload_n E dX6_stop_49 rfl 1 rfl ?_
        refine g_if_eq (tgt := 88) E dX6_stop_50 (by decide) (fun c_50 => ?_) (fun c_50 => ?_)
        · exact absurd c_50 (by decide)
        · refine g_aload_n E dX6_stop_53 rfl 2 rfl ?_
          refine k_get_stops (s := s) E (fun _ h => (List.mem_cons_of_mem _ (List.mem_append_right _ h))) (List.mem_cons_of_mem _ (List.mem_append_left _ (List.mem_append_left _ (List.mem_of_getElem? (i := 1) rfl)))) dX6_stop_54 ?_
          refine g_iload_n E dX6_stop_57 rfl 3 rfl ?_
          refine k_ald_stops (s := s) E k rfl (by omega) dX6_stop_58 ?_
          rw [show mr s 8 k = nI (n + 1) from hst]
          show G C (mW (xy C) ma s) 0 0 59 [(4, .int (nI (mst s k n))), (3, .int (1)), (0, .ref (ma 0)), (1, .int (nI k)), (2, .int (nI b))] [.int (nI (n + 1))]
          refine g_bipush (v := 6) E dX6_stop_59 (by decide) ?_
          refine g_icmp_ge (tgt := 88) E dX6_stop_61 (by decide) (fun c_61 => ?_) (fun c_61 => ?_)
          · refine g_iconst (v := 0) E dX6_stop_88 (by decide) ?_
            refine g_istore (L' := [(5, .int (0)), (4, .int (nI (mst s k n))), (3, .int (1)), (0, .ref (ma 0)), (1, .int (nI k)), (2, .int (nI b))]) E dX6_stop_89 (by decide) rfl ?_
            refine g_aload_n E dX6_stop_91 rfl 3 rfl ?_
            refine g_iload_n E dX6_stop_92 rfl 2 rfl ?_
            refine g_if_ne (tgt := 100) E dX6_stop_93 (by decide) (fun c_93 => ?_) (fun c_93 => ?_)
            · refine g_iload E dX6_stop_100 1 rfl ?_
              refine g_iload_n E dX6_stop_102 rfl 5 rfl ?_
              refine g_icmp_ne (tgt := 110) E dX6_stop_103 (by decide) (fun c_103 => ?_) (fun c_103 => ?_)
              · refine g_iload E dX6_stop_110 0 rfl ?_
                refine g_if_ne (tgt := 119) E dX6_stop_112 (by decide) (fun c_112 => ?_) (fun c_112 => ?_)
                · exact absurd c_112 (by decide)
                · refine g_iconst (v := 3) E dX6_stop_115 (by decide) ?_
                  refine g_goto (tgt := 120) E dX6_stop_116 (by decide) ?_
                  refine k_invV (n := 1) (rest := []) E (m_X6_isFine (xl C) E.tr (xD C) (xy C) e0 (s := s) (x := 3)) gX6_stop_X6_isFine rfl rfl rfl (by decide +kernel) ⟨Nat.le_of_ble_eq_true rfl, Nat.le_of_ble_eq_true rfl⟩ rfl rfl (Nat.le_of_ble_eq_true rfl) dX6_stop_120 ⟨Nat.le_of_ble_eq_true rfl, Nat.le_of_ble_eq_true rfl⟩ (fun v9 s9_120 h9 => ?_)
                  obtain ⟨hv9, hS9⟩ := h9
                  rw [hv9, hS9]
                  rw [show bI ((3 : Int32) = 0) = 0 by decide]
                  show G C (mW (xy C) ma (muI s 0 (3))) 0 0 123 [(5, .int (0)), (4, .int (nI (mst s k n))), (3, .int (1)), (0, .ref (ma 0)), (1, .int (nI k)), (2, .int (nI b))] [.int (0)]
                  refine g_if_ne (tgt := 128) E dX6_stop_123 (by decide) (fun c_123 => ?_) (fun c_123 => ?_)
                  · exact absurd c_123 (by decide)
                  · refine g_iconst (v := 0) E dX6_stop_126 (by decide) ?_
                    exact g_iret E hE hr dX6_stop_127 (Nat.le_of_ble_eq_true rfl) (Nat.le_of_ble_eq_true rfl) ⟨(muI s 0 (3)), rfl, Or.inr (Or.inr (Or.inr ⟨k, b, n, hk, rfl, hb, rfl, hn6, hst, fun e => c_103 (congrArg nI e), fun q => absurd (nI_ge_nat (a := n + 1) (b := 6) (by decide) (by omega) c_61) (by omega), rfl, mr s 26, by rw [mFar_id]⟩))⟩
              · refine g_iconst (v := 2) E dX6_stop_106 (by decide) ?_
                refine g_goto (tgt := 120) E dX6_stop_107 (by decide) ?_
                refine k_invV (n := 1) (rest := []) E (m_X6_isFine (xl C) E.tr (xD C) (xy C) e0 (s := s) (x := 2)) gX6_stop_X6_isFine rfl rfl rfl (by decide +kernel) ⟨Nat.le_of_ble_eq_true rfl, Nat.le_of_ble_eq_true rfl⟩ rfl rfl (Nat.le_of_ble_eq_true rfl) dX6_stop_120 ⟨Nat.le_of_ble_eq_true rfl, Nat.le_of_ble_eq_true rfl⟩ (fun v9 s9_120 h9 => ?_)
                obtain ⟨hv9, hS9⟩ := h9
                rw [hv9, hS9]
                rw [show bI ((2 : Int32) = 0) = 0 by decide]
                show G C (mW (xy C) ma (muI s 0 (2))) 0 0 123 [(5, .int (0)), (4, .int (nI (mst s k n))), (3, .int (1)), (0, .ref (ma 0)), (1, .int (nI k)), (2, .int (nI b))] [.int (0)]
                refine g_if_ne (tgt := 128) E dX6_stop_123 (by decide) (fun c_123 => ?_) (fun c_123 => ?_)
                · exact absurd c_123 (by decide)
                · refine g_iconst (v := 0) E dX6_stop_126 (by decide) ?_
                  exact g_iret E hE hr dX6_stop_127 (Nat.le_of_ble_eq_true rfl) (Nat.le_of_ble_eq_true rfl) ⟨(muI s 0 (2)), rfl, Or.inr (Or.inr (Or.inl ⟨k, b, n, hk, rfl, hb, rfl, hn6, hst, nI_inj (Nat.lt_trans (hsp n (by omega)).2 (by decide)) (by omega) c_103, rfl, mr s 26, by rw [mFar_id]⟩))⟩
            · exact absurd c_93 (by decide)
          · have hn5 : n + 1 < 6 := nI_nge_nat (a := n + 1) (b := 6) (by decide) (by omega) c_61
            refine g_aload_n E dX6_stop_64 rfl 2 rfl ?_
            refine k_get_now (s := s) E (fun _ h => (List.mem_cons_of_mem _ (List.mem_append_right _ h))) (List.mem_cons_of_mem _ (List.mem_append_left _ (List.mem_append_left _ (List.mem_of_getElem? (i := 2) rfl)))) dX6_stop_65 ?_
            refine g_if_ne (tgt := 88) E dX6_stop_68 (by decide) (fun c_68 => ?_) (fun c_68 => ?_)
            · refine g_iconst (v := 0) E dX6_stop_88 (by decide) ?_
              refine g_istore (L' := [(5, .int (0)), (4, .int (nI (mst s k n))), (3, .int (1)), (0, .ref (ma 0)), (1, .int (nI k)), (2, .int (nI b))]) E dX6_stop_89 (by decide) rfl ?_
              refine g_aload_n E dX6_stop_91 rfl 3 rfl ?_
              refine g_iload_n E dX6_stop_92 rfl 2 rfl ?_
              refine g_if_ne (tgt := 100) E dX6_stop_93 (by decide) (fun c_93 => ?_) (fun c_93 => ?_)
              · refine g_iload E dX6_stop_100 1 rfl ?_
                refine g_iload_n E dX6_stop_102 rfl 5 rfl ?_
                refine g_icmp_ne (tgt := 110) E dX6_stop_103 (by decide) (fun c_103 => ?_) (fun c_103 => ?_)
                · refine g_iload E dX6_stop_110 0 rfl ?_
                  refine g_if_ne (tgt := 119) E dX6_stop_112 (by decide) (fun c_112 => ?_) (fun c_112 => ?_)
                  · exact absurd c_112 (by decide)
                  · refine g_iconst (v := 3) E dX6_stop_115 (by decide) ?_
                    refine g_goto (tgt := 120) E dX6_stop_116 (by decide) ?_
                    refine k_invV (n := 1) (rest := []) E (m_X6_isFine (xl C) E.tr (xD C) (xy C) e0 (s := s) (x := 3)) gX6_stop_X6_isFine rfl rfl rfl (by decide +kernel) ⟨Nat.le_of_ble_eq_true rfl, Nat.le_of_ble_eq_true rfl⟩ rfl rfl (Nat.le_of_ble_eq_true rfl) dX6_stop_120 ⟨Nat.le_of_ble_eq_true rfl, Nat.le_of_ble_eq_true rfl⟩ (fun v9 s9_120 h9 => ?_)
                    obtain ⟨hv9, hS9⟩ := h9
                    rw [hv9, hS9]
                    rw [show bI ((3 : Int32) = 0) = 0 by decide]
                    show G C (mW (xy C) ma (muI s 0 (3))) 0 0 123 [(5, .int (0)), (4, .int (nI (mst s k n))), (3, .int (1)), (0, .ref (ma 0)), (1, .int (nI k)), (2, .int (nI b))] [.int (0)]
                    refine g_if_ne (tgt := 128) E dX6_stop_123 (by decide) (fun c_123 => ?_) (fun c_123 => ?_)
                    · exact absurd c_123 (by decide)
                    · refine g_iconst (v := 0) E dX6_stop_126 (by decide) ?_
                      exact g_iret E hE hr dX6_stop_127 (Nat.le_of_ble_eq_true rfl) (Nat.le_of_ble_eq_true rfl) ⟨(muI s 0 (3)), rfl, Or.inr (Or.inr (Or.inr ⟨k, b, n, hk, rfl, hb, rfl, hn6, hst, fun e => c_103 (congrArg nI e), fun q => c_68 q.2.1, rfl, mr s 26, by rw [mFar_id]⟩))⟩
                · refine g_iconst (v := 2) E dX6_stop_106 (by decide) ?_
                  refine g_goto (tgt := 120) E dX6_stop_107 (by decide) ?_
                  refine k_invV (n := 1) (rest := []) E (m_X6_isFine (xl C) E.tr (xD C) (xy C) e0 (s := s) (x := 2)) gX6_stop_X6_isFine rfl rfl rfl (by decide +kernel) ⟨Nat.le_of_ble_eq_true rfl, Nat.le_of_ble_eq_true rfl⟩ rfl rfl (Nat.le_of_ble_eq_true rfl) dX6_stop_120 ⟨Nat.le_of_ble_eq_true rfl, Nat.le_of_ble_eq_true rfl⟩ (fun v9 s9_120 h9 => ?_)
                  obtain ⟨hv9, hS9⟩ := h9
                  rw [hv9, hS9]
                  rw [show bI ((2 : Int32) = 0) = 0 by decide]
                  show G C (mW (xy C) ma (muI s 0 (2))) 0 0 123 [(5, .int (0)), (4, .int (nI (mst s k n))), (3, .int (1)), (0, .ref (ma 0)), (1, .int (nI k)), (2, .int (nI b))] [.int (0)]
                  refine g_if_ne (tgt := 128) E dX6_stop_123 (by decide) (fun c_123 => ?_) (fun c_123 => ?_)
                  · exact absurd c_123 (by decide)
                  · refine g_iconst (v := 0) E dX6_stop_126 (by decide) ?_
                    exact g_iret E hE hr dX6_stop_127 (Nat.le_of_ble_eq_true rfl) (Nat.le_of_ble_eq_true rfl) ⟨(muI s 0 (2)), rfl, Or.inr (Or.inr (Or.inl ⟨k, b, n, hk, rfl, hb, rfl, hn6, hst, nI_inj (Nat.lt_trans (hsp n (by omega)).2 (by decide)) (by omega) c_103, rfl, mr s 26, by rw [mFar_id]⟩))⟩
              · exact absurd c_93 (by decide)
            · refine g_aload_n E dX6_stop_71 rfl 2 rfl ?_
              refine g_iload E dX6_stop_72 0 rfl ?_
              refine g_iload_n E dX6_stop_74 rfl 4 rfl ?_
              refine g_iconst (v := 0) E dX6_stop_75 (by decide) ?_
              refine k_invV (n := 3) (rest := []) E (m_X6_shortest (xl C) E.tr (xD C) (xy C) e0 (s := s) (cl := 0) hM hM1 hln (hsp n (by omega)).2 hb) gX6_stop_X6_shortest rfl rfl rfl (by decide +kernel) ⟨Nat.le_of_ble_eq_true rfl, Nat.le_of_ble_eq_true rfl⟩ rfl rfl (Nat.le_of_ble_eq_true rfl) dX6_stop_76 ⟨Nat.le_of_ble_eq_true rfl, Nat.le_of_ble_eq_true rfl⟩ (fun v9 s9_76 h9 => ?_)
              obtain ⟨hv9, g, hS9⟩ := h9
              rw [hv9, hS9]
              show G C (mW (xy C) ma (mFar s g)) 0 0 79 [(4, .int (nI (mst s k n))), (3, .int (1)), (0, .ref (ma 0)), (1, .int (nI k)), (2, .int (nI b))] [.int ((mds s 0 M (mst s k n) b))]
              refine g_ldc E (List.mem_cons_of_mem _ (List.mem_append_left _ (List.mem_append_left _ (List.mem_of_getElem? (i := 3) rfl)))) dX6_stop_79 ?_
              refine g_icmp_ge (tgt := 88) E dX6_stop_81 (by decide) (fun c_81 => ?_) (fun c_81 => ?_)
              · refine g_iconst (v := 0) E dX6_stop_88 (by decide) ?_
                refine g_istore (L' := [(5, .int (0)), (4, .int (nI (mst s k n))), (3, .int (1)), (0, .ref (ma 0)), (1, .int (nI k)), (2, .int (nI b))]) E dX6_stop_89 (by decide) rfl ?_
                refine g_aload_n E dX6_stop_91 rfl 3 rfl ?_
                refine g_iload_n E dX6_stop_92 rfl 2 rfl ?_
                refine g_if_ne (tgt := 100) E dX6_stop_93 (by decide) (fun c_93 => ?_) (fun c_93 => ?_)
                · refine g_iload E dX6_stop_100 1 rfl ?_
                  refine g_iload_n E dX6_stop_102 rfl 5 rfl ?_
                  refine g_icmp_ne (tgt := 110) E dX6_stop_103 (by decide) (fun c_103 => ?_) (fun c_103 => ?_)
                  · refine g_iload E dX6_stop_110 0 rfl ?_
                    refine g_if_ne (tgt := 119) E dX6_stop_112 (by decide) (fun c_112 => ?_) (fun c_112 => ?_)
                    · exact absurd c_112 (by decide)
                    · refine g_iconst (v := 3) E dX6_stop_115 (by decide) ?_
                      refine g_goto (tgt := 120) E dX6_stop_116 (by decide) ?_
                      refine k_invV (n := 1) (rest := []) E (m_X6_isFine (xl C) E.tr (xD C) (xy C) e0 (s := (mFar s g)) (x := 3)) gX6_stop_X6_isFine rfl rfl rfl (by decide +kernel) ⟨Nat.le_of_ble_eq_true rfl, Nat.le_of_ble_eq_true rfl⟩ rfl rfl (Nat.le_of_ble_eq_true rfl) dX6_stop_120 ⟨Nat.le_of_ble_eq_true rfl, Nat.le_of_ble_eq_true rfl⟩ (fun v9 s9_120 h9 => ?_)
                      obtain ⟨hv9, hS9⟩ := h9
                      rw [hv9, hS9]
                      rw [show bI ((3 : Int32) = 0) = 0 by decide]
                      show G C (mW (xy C) ma (muI (mFar s g) 0 (3))) 0 0 123 [(5, .int (0)), (4, .int (nI (mst s k n))), (3, .int (1)), (0, .ref (ma 0)), (1, .int (nI k)), (2, .int (nI b))] [.int (0)]
                      refine g_if_ne (tgt := 128) E dX6_stop_123 (by decide) (fun c_123 => ?_) (fun c_123 => ?_)
                      · exact absurd c_123 (by decide)
                      · refine g_iconst (v := 0) E dX6_stop_126 (by decide) ?_
                        exact g_iret E hE hr dX6_stop_127 (Nat.le_of_ble_eq_true rfl) (Nat.le_of_ble_eq_true rfl) ⟨(muI (mFar s g) 0 (3)), rfl, Or.inr (Or.inr (Or.inr ⟨k, b, n, hk, rfl, hb, rfl, hn6, hst, fun e => c_103 (congrArg nI e), fun q => q.2.2 c_81, rfl, g, rfl⟩))⟩
                  · refine g_iconst (v := 2) E dX6_stop_106 (by decide) ?_
                    refine g_goto (tgt := 120) E dX6_stop_107 (by decide) ?_
                    refine k_invV (n := 1) (rest := []) E (m_X6_isFine (xl C) E.tr (xD C) (xy C) e0 (s := (mFar s g)) (x := 2)) gX6_stop_X6_isFine rfl rfl rfl (by decide +kernel) ⟨Nat.le_of_ble_eq_true rfl, Nat.le_of_ble_eq_true rfl⟩ rfl rfl (Nat.le_of_ble_eq_true rfl) dX6_stop_120 ⟨Nat.le_of_ble_eq_true rfl, Nat.le_of_ble_eq_true rfl⟩ (fun v9 s9_120 h9 => ?_)
                    obtain ⟨hv9, hS9⟩ := h9
                    rw [hv9, hS9]
                    rw [show bI ((2 : Int32) = 0) = 0 by decide]
                    show G C (mW (xy C) ma (muI (mFar s g) 0 (2))) 0 0 123 [(5, .int (0)), (4, .int (nI (mst s k n))), (3, .int (1)), (0, .ref (ma 0)), (1, .int (nI k)), (2, .int (nI b))] [.int (0)]
                    refine g_if_ne (tgt := 128) E dX6_stop_123 (by decide) (fun c_123 => ?_) (fun c_123 => ?_)
                    · exact absurd c_123 (by decide)
                    · refine g_iconst (v := 0) E dX6_stop_126 (by decide) ?_
                      exact g_iret E hE hr dX6_stop_127 (Nat.le_of_ble_eq_true rfl) (Nat.le_of_ble_eq_true rfl) ⟨(muI (mFar s g) 0 (2)), rfl, Or.inr (Or.inr (Or.inl ⟨k, b, n, hk, rfl, hb, rfl, hn6, hst, nI_inj (Nat.lt_trans (hsp n (by omega)).2 (by decide)) (by omega) c_103, rfl, g, rfl⟩))⟩
                · exact absurd c_93 (by decide)
              · refine g_iconst (v := 1) E dX6_stop_84 (by decide) ?_
                refine g_goto (tgt := 89) E dX6_stop_85 (by decide) ?_
                refine g_istore (L' := [(5, .int (1)), (4, .int (nI (mst s k n))), (3, .int (1)), (0, .ref (ma 0)), (1, .int (nI k)), (2, .int (nI b))]) E dX6_stop_89 (by decide) rfl ?_
                refine g_aload_n E dX6_stop_91 rfl 3 rfl ?_
                refine g_iload_n E dX6_stop_92 rfl 2 rfl ?_
                refine g_if_ne (tgt := 100) E dX6_stop_93 (by decide) (fun c_93 => ?_) (fun c_93 => ?_)
                · refine g_iload E dX6_stop_100 1 rfl ?_
                  refine g_iload_n E dX6_stop_102 rfl 5 rfl ?_
                  refine g_icmp_ne (tgt := 110) E dX6_stop_103 (by decide) (fun c_103 => ?_) (fun c_103 => ?_)
                  · refine g_iload E dX6_stop_110 0 rfl ?_
                    refine g_if_ne (tgt := 119) E dX6_stop_112 (by decide) (fun c_112 => ?_) (fun c_112 => ?_)
                    · refine g_iconst (v := 0) E dX6_stop_119 (by decide) ?_
                      refine k_invV (n := 1) (rest := []) E (m_X6_isFine (xl C) E.tr (xD C) (xy C) e0 (s := (mFar s g)) (x := 0)) gX6_stop_X6_isFine rfl rfl rfl (by decide +kernel) ⟨Nat.le_of_ble_eq_true rfl, Nat.le_of_ble_eq_true rfl⟩ rfl rfl (Nat.le_of_ble_eq_true rfl) dX6_stop_120 ⟨Nat.le_of_ble_eq_true rfl, Nat.le_of_ble_eq_true rfl⟩ (fun v9 s9_120 h9 => ?_)
                      obtain ⟨hv9, hS9⟩ := h9
                      rw [hv9, hS9]
                      rw [show bI ((0 : Int32) = 0) = 1 by decide]
                      show G C (mW (xy C) ma (muI (mFar s g) 0 (0))) 0 0 123 [(5, .int (1)), (4, .int (nI (mst s k n))), (3, .int (1)), (0, .ref (ma 0)), (1, .int (nI k)), (2, .int (nI b))] [.int (1)]
                      refine g_if_ne (tgt := 128) E dX6_stop_123 (by decide) (fun c_123 => ?_) (fun c_123 => ?_)
                      · refine g_aload_n E dX6_stop_128 rfl 3 rfl ?_
                        refine k_get_stop (s := (muI (mFar s g) 0 (0))) E (fun _ h => (List.mem_cons_of_mem _ (List.mem_append_right _ h))) (List.mem_cons_of_mem _ (List.mem_append_left _ (List.mem_append_left _ (List.mem_of_getElem? (i := 0) rfl)))) dX6_stop_129 ?_
                        refine g_bipush (v := 6) E dX6_stop_132 (by decide) ?_
                        refine g_iload_n E dX6_stop_134 rfl 4 rfl ?_
                        refine g_imul E dX6_stop_135 ?_
                        rw [nI_mul6]
                        show G C (mW (xy C) ma (muI (mFar s g) 0 (0))) 0 0 136 [(5, .int (1)), (4, .int (nI (mst s k n))), (3, .int (1)), (0, .ref (ma 0)), (1, .int (nI k)), (2, .int (nI b))] [.int (nI (6 * k)), .ref (ma 7)]
                        refine g_aload_n E dX6_stop_136 rfl 3 rfl ?_
                        refine k_get_stops (s := (muI (mFar s g) 0 (0))) E (fun _ h => (List.mem_cons_of_mem _ (List.mem_append_right _ h))) (List.mem_cons_of_mem _ (List.mem_append_left _ (List.mem_append_left _ (List.mem_of_getElem? (i := 1) rfl)))) dX6_stop_137 ?_
                        refine g_iload_n E dX6_stop_140 rfl 4 rfl ?_
                        refine k_ald_stops (s := (muI (mFar s g) 0 (0))) E k rfl (by omega) dX6_stop_141 ?_
                        rw [show mr (muI (mFar s g) 0 (0)) 8 k = nI (n + 1) from (by show mr (mFar s g) 8 k = _; rw [mFar_oth (by decide)]; exact hst)]
                        show G C (mW (xy C) ma (muI (mFar s g) 0 (0))) 0 0 142 [(5, .int (1)), (4, .int (nI (mst s k n))), (3, .int (1)), (0, .ref (ma 0)), (1, .int (nI k)), (2, .int (nI b))] [.int (nI (n + 1)), .int (nI (6 * k)), .ref (ma 7)]
                        refine g_iadd E dX6_stop_142 ?_
                        rw [nI_add]
                        show G C (mW (xy C) ma (muI (mFar s g) 0 (0))) 0 0 143 [(5, .int (1)), (4, .int (nI (mst s k n))), (3, .int (1)), (0, .ref (ma 0)), (1, .int (nI k)), (2, .int (nI b))] [.int (nI (6 * k + (n + 1))), .ref (ma 7)]
                        refine g_iload_n E dX6_stop_143 rfl 5 rfl ?_
                        refine k_ast_stop (s := (muI (mFar s g) 0 (0))) E ((6 * k + (n + 1))) rfl (by omega) dX6_stop_144 ?_
                        refine g_aload_n E dX6_stop_145 rfl 3 rfl ?_
                        refine k_get_stops (s := (muR (muI (mFar s g) 0 (0)) 7 ((6 * k + (n + 1))) (nI b))) E (fun _ h => (List.mem_cons_of_mem _ (List.mem_append_right _ h))) (List.mem_cons_of_mem _ (List.mem_append_left _ (List.mem_append_left _ (List.mem_of_getElem? (i := 1) rfl)))) dX6_stop_146 ?_
                        refine g_iload_n E dX6_stop_149 rfl 4 rfl ?_
                        refine g_dup2_11 E dX6_stop_150 rfl rfl ?_
                        refine k_ald_stops (s := (muR (muI (mFar s g) 0 (0)) 7 ((6 * k + (n + 1))) (nI b))) E k rfl (by omega) dX6_stop_151 ?_
                        rw [show mr (muR (muI (mFar s g) 0 (0)) 7 ((6 * k + (n + 1))) (nI b)) 8 k = nI (n + 1) from (by show mr (mFar s g) 8 k = _; rw [mFar_oth (by decide)]; exact hst)]
                        show G C (mW (xy C) ma (muR (muI (mFar s g) 0 (0)) 7 ((6 * k + (n + 1))) (nI b))) 0 0 152 [(5, .int (1)), (4, .int (nI (mst s k n))), (3, .int (1)), (0, .ref (ma 0)), (1, .int (nI k)), (2, .int (nI b))] [.int (nI (n + 1)), .int (nI k), .ref (ma 8)]
                        refine g_iconst (v := 1) E dX6_stop_152 (by decide) ?_
                        refine g_iadd E dX6_stop_153 ?_
                        rw [nI_1]
                        show G C (mW (xy C) ma (muR (muI (mFar s g) 0 (0)) 7 ((6 * k + (n + 1))) (nI b))) 0 0 154 [(5, .int (1)), (4, .int (nI (mst s k n))), (3, .int (1)), (0, .ref (ma 0)), (1, .int (nI k)), (2, .int (nI b))] [.int (nI (n + 2)), .int (nI k), .ref (ma 8)]
                        refine k_ast_stops (s := (muR (muI (mFar s g) 0 (0)) 7 ((6 * k + (n + 1))) (nI b))) E k rfl (by omega) dX6_stop_154 ?_
                        refine g_aload_n E dX6_stop_155 rfl 3 rfl ?_
                        refine k_get_stops (s := (muR (muR (muI (mFar s g) 0 (0)) 7 ((6 * k + (n + 1))) (nI b)) 8 k (nI (n + 2)))) E (fun _ h => (List.mem_cons_of_mem _ (List.mem_append_right _ h))) (List.mem_cons_of_mem _ (List.mem_append_left _ (List.mem_append_left _ (List.mem_of_getElem? (i := 1) rfl)))) dX6_stop_156 ?_
                        refine g_iload_n E dX6_stop_159 rfl 4 rfl ?_
                        refine k_ald_stops (s := (muR (muR (muI (mFar s g) 0 (0)) 7 ((6 * k + (n + 1))) (nI b)) 8 k (nI (n + 2)))) E k rfl (by omega) dX6_stop_160 ?_
                        rw [show mr (muR (muR (muI (mFar s g) 0 (0)) 7 ((6 * k + (n + 1))) (nI b)) 8 k (nI (n + 2))) 8 k = nI (n + 2) from if_pos rfl]
                        show G C (mW (xy C) ma (muR (muR (muI (mFar s g) 0 (0)) 7 ((6 * k + (n + 1))) (nI b)) 8 k (nI (n + 2)))) 0 0 161 [(5, .int (1)), (4, .int (nI (mst s k n))), (3, .int (1)), (0, .ref (ma 0)), (1, .int (nI k)), (2, .int (nI b))] [.int (nI (n + 2))]
                        exact g_iret E hE hr dX6_stop_161 (Nat.le_of_ble_eq_true rfl) (Nat.le_of_ble_eq_true rfl) ⟨(muR (muR (muI (mFar s g) 0 (0)) 7 ((6 * k + (n + 1))) (nI b)) 8 k (nI (n + 2))), rfl, Or.inl ⟨k, b, n, hk, rfl, hb, rfl, hn6, hst, fun e => c_103 (congrArg nI e), ⟨nI_nge_nat (a := n + 1) (b := 6) (by decide) (by omega) c_61, c_68, c_81⟩, rfl, g, rfl⟩⟩
                      · exact absurd c_123 (by decide)
                    · exact absurd c_112 (by decide)
                  · refine g_iconst (v := 2) E dX6_stop_106 (by decide) ?_
                    refine g_goto (tgt := 120) E dX6_stop_107 (by decide) ?_
                    refine k_invV (n := 1) (rest := []) E (m_X6_isFine (xl C) E.tr (xD C) (xy C) e0 (s := (mFar s g)) (x := 2)) gX6_stop_X6_isFine rfl rfl rfl (by decide +kernel) ⟨Nat.le_of_ble_eq_true rfl, Nat.le_of_ble_eq_true rfl⟩ rfl rfl (Nat.le_of_ble_eq_true rfl) dX6_stop_120 ⟨Nat.le_of_ble_eq_true rfl, Nat.le_of_ble_eq_true rfl⟩ (fun v9 s9_120 h9 => ?_)
                    obtain ⟨hv9, hS9⟩ := h9
                    rw [hv9, hS9]
                    rw [show bI ((2 : Int32) = 0) = 0 by decide]
                    show G C (mW (xy C) ma (muI (mFar s g) 0 (2))) 0 0 123 [(5, .int (1)), (4, .int (nI (mst s k n))), (3, .int (1)), (0, .ref (ma 0)), (1, .int (nI k)), (2, .int (nI b))] [.int (0)]
                    refine g_if_ne (tgt := 128) E dX6_stop_123 (by decide) (fun c_123 => ?_) (fun c_123 => ?_)
                    · exact absurd c_123 (by decide)
                    · refine g_iconst (v := 0) E dX6_stop_126 (by decide) ?_
                      exact g_iret E hE hr dX6_stop_127 (Nat.le_of_ble_eq_true rfl) (Nat.le_of_ble_eq_true rfl) ⟨(muI (mFar s g) 0 (2)), rfl, Or.inr (Or.inr (Or.inl ⟨k, b, n, hk, rfl, hb, rfl, hn6, hst, nI_inj (Nat.lt_trans (hsp n (by omega)).2 (by decide)) (by omega) c_103, rfl, g, rfl⟩))⟩
                · exact absurd c_93 (by decide)
