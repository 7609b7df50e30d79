def mtF (s : mS) (ln own hour : Int32) (p : Nat) : Prop := (¬ mr s 17 p = 1 ∧ ¬ mr s 17 p = 4) ∧ mr s 12 p = ln ∧ ¬ mr s 19 p = own ∧ mr s 22 (tn (mr s 19 p)) / 500 = hour / 500
abbrev rm_X6_isTwice : Room := { frames := 1, cells := 0, slots := 0, locals := 21 }
set_option maxHeartbeats 4000000 in
set_option maxRecDepth 100000 in
theorem m_X6_isTwice (l : Launch) (hl : l.stackTraces = false) (D : va_G) (cy : Nat → ClassId) (e0 : Nat) {ma : Nat → Nat} {s : mS} {np : Nat} (hp0 : mi s 21 = nI np) (hp1 : np ≤ 40) (hop : HOP s np) {ln own hour : Int32} : mMet l yX6_isTwice wsX6_isTwice rm_X6_isTwice D cy e0 [.ref (ma 0), .int (ln), .int (own), .int (hour)] ma s (fun v s' => ((v = some (.int 0) ∧ ∀ q, q < np → ¬ mtF s ln own hour q) ∨ (v = some (.int 1) ∧ ∃ q, q < np ∧ mtF s ln own hour q)) ∧ s' = s) := by
  refine gMet.of (cc := cX6_isTwice) (maxL := 7) (ret := (some .boolean)) hl (by decide) rfl (Nat.le_of_ble_eq_true rfl) ?_
  intro C E h1 h2 h3 hr hnm hT hE
  subst h1; subst h2; subst h3
  have E : gOk C cX6_isTwice 7 wsX6_isTwice RX6 e0 rm_X6_isTwice := E
  show G C (mW (xy C) ma s) 0 0 0 [(0, .ref (ma 0)), (1, .int (ln)), (2, .int (own)), (3, .int (hour))] []
  refine g_iconst (v := 0) E dX6_isTwice_0 (by decide) ?_
  refine g_istore (L' := [(4, .int (0)), (0, .ref (ma 0)), (1, .int (ln)), (2, .int (own)), (3, .int (hour))]) E dX6_isTwice_1 (by decide) rfl ?_
  refine g_iconst (v := 0) E dX6_isTwice_3 (by decide) ?_
  refine g_istore (L' := [(5, .int (0)), (4, .int (0)), (0, .ref (ma 0)), (1, .int (ln)), (2, .int (own)), (3, .int (hour))]) E dX6_isTwice_4 (by decide) rfl ?_
  refine g_locals [(0, .ref (ma 0)), (1, .int (ln)), (2, .int (own)), (3, .int (hour)), (4, .int (0)), (5, .int (0))] [2, 3, 4, 5, 1, 0] rfl ?_
  have loop_6 : ∀ (n_6 k : Nat) (b : Int32), ((b = 0 ∧ ∀ q, q < k → ¬ mtF s ln own hour q) ∨ (b = 1 ∧ ∃ q, q < k ∧ mtF s ln own hour q)) → k ≤ np → np < n_6 + k → G C (mW (xy C) ma s) 0 0 6 [(0, .ref (ma 0)), (1, .int (ln)), (2, .int (own)), (3, .int (hour)), (4, .int (b)), (5, .int (nI k))] [] := by
    intro n_6
    induction n_6 with
    | zero => intro k b hv g1 g2; exact absurd g2 (by omega)
    | succ n_6 ih_6 =>
      intro k b hv h1_6 h2_6
      refine g_iload E dX6_isTwice_6 5 rfl ?_
      refine g_aload_n E dX6_isTwice_8 rfl 0 rfl ?_
      refine k_get_permits (s := s) E (fun _ h => (List.mem_cons_of_mem _ (List.mem_append_right _ h))) (List.mem_cons_of_mem _ (List.mem_append_left _ (List.mem_of_getElem? (i := 0) rfl))) dX6_isTwice_9 ?_
      rw [show mi s 21 = nI np from hp0]
      show G C (mW (xy C) ma s) 0 0 12 [(0, .ref (ma 0)), (1, .int (ln)), (2, .int (own)), (3, .int (hour)), (4, .int (b)), (5, .int (nI k))] [.int (nI np), .int (nI k)]
      refine g_icmp_ge (tgt := 87) E dX6_isTwice_12 (by decide) (fun c_12 => ?_) (fun c_12 => ?_)
      · have e_k : k = np := Nat.le_antisymm h1_6 (nI_ge_nat (by omega) (by omega) c_12)
        refine g_iload E dX6_isTwice_87 4 rfl ?_
        exact g_zret E hE hr (hv.elim (fun z => Or.inl z.1) (fun z => Or.inr z.1)) dX6_isTwice_89 (Nat.le_of_ble_eq_true rfl) (Nat.le_of_ble_eq_true rfl) ⟨s, rfl, by rw [e_k] at hv; exact hv.elim (fun z => Or.inl ⟨by rw [z.1], z.2⟩) (fun z => Or.inr ⟨by rw [z.1], z.2⟩), rfl⟩
      · have hk_k : k < np := nI_nge_nat (by omega) (by omega) c_12
        refine g_aload_n E dX6_isTwice_15 rfl 0 rfl ?_
        refine k_get_opening (s := s) E (fun _ h => (List.mem_cons_of_mem _ (List.mem_append_right _ h))) (List.mem_cons_of_mem _ (List.mem_append_left _ (List.mem_of_getElem? (i := 1) rfl))) dX6_isTwice_16 ?_
        refine g_iload E dX6_isTwice_19 5 rfl ?_
        refine k_ald_opening (s := s) E k rfl (by omega) dX6_isTwice_21 ?_
        refine g_istore (L' := [(6, .int (mr s 19 k)), (0, .ref (ma 0)), (1, .int (ln)), (2, .int (own)), (3, .int (hour)), (4, .int (b)), (5, .int (nI k))]) E dX6_isTwice_22 (by decide) rfl ?_
        refine g_iload E dX6_isTwice_24 5 rfl ?_
        refine g_if_ne (tgt := 74) E dX6_isTwice_26 (by decide) (fun c_26 => ?_) (fun c_26 => ?_)
        · refine g_iconst (v := 1) E dX6_isTwice_74 (by decide) ?_
          refine g_goto (tgt := 79) E dX6_isTwice_75 (by decide) ?_
          refine g_istore (L' := [(4, .int (1)), (6, .int (mr s 19 k)), (0, .ref (ma 0)), (1, .int (ln)), (2, .int (own)), (3, .int (hour)), (5, .int (nI k))]) E dX6_isTwice_79 (by decide) rfl ?_
          refine g_iinc (v := nI (k + 1)) (L' := [(5, .int (nI (k + 1))), (4, .int (1)), (6, .int (mr s 19 k)), (0, .ref (ma 0)), (1, .int (ln)), (2, .int (own)), (3, .int (hour))]) E dX6_isTwice_81 6 rfl (nI_1 k) (by decide) rfl ?_
          refine g_goto (tgt := 6) E dX6_isTwice_84 (by decide) ?_
          refine g_locals [(0, .ref (ma 0)), (1, .int (ln)), (2, .int (own)), (3, .int (hour)), (4, .int (1)), (5, .int (nI (k + 1)))] [3, 4, 5, 6, 1, 0] rfl ?_
          refine g_L (L' := [(0, .ref (ma 0)), (1, .int (ln)), (2, .int (own)), (3, .int (hour)), (4, .int (1)), (5, .int (nI (k + 1)))]) (by rfl) (ih_6 (k + 1) (1) (Or.inr ⟨rfl, hv.elim (fun z => absurd z.1 c_26) (fun z => z.2.elim fun q g => ⟨q, Nat.lt_succ_of_lt g.1, g.2⟩)⟩) (by omega) (by omega))
        · refine g_aload_n E dX6_isTwice_29 rfl 1 rfl ?_
          refine g_iload E dX6_isTwice_30 6 rfl ?_
          refine k_invV (n := 1) (rest := []) E (m_X6_isOf (xl C) E.tr (xD C) (xy C) e0 (s := s) (k := k) (by omega)) gX6_isTwice_X6_isOf rfl rfl rfl (by decide +kernel) ⟨Nat.le_of_ble_eq_true rfl, Nat.le_of_ble_eq_true rfl⟩ rfl rfl (Nat.le_of_ble_eq_true rfl) dX6_isTwice_32 ⟨Nat.le_of_ble_eq_true rfl, Nat.le_of_ble_eq_true rfl⟩ (fun v9 s9_32 h9 => ?_)
          obtain ⟨hv9, hS9⟩ := h9
          rw [hv9, hS9]
          show G C (mW (xy C) ma s) 0 0 35 [(6, .int (mr s 19 k)), (0, .ref (ma 0)), (1, .int (ln)), (2, .int (own)), (3, .int (hour)), (4, .int (b)), (5, .int (nI k))] [.int ((bI (¬ mr s 17 k = 1 ∧ ¬ mr s 17 k = 4)))]
          refine g_if_eq (tgt := 78) E dX6_isTwice_35 (by decide) (fun c_35 => ?_) (fun c_35 => ?_)
          · refine g_iconst (v := 0) E dX6_isTwice_78 (by decide) ?_
            refine g_istore (L' := [(4, .int (0)), (6, .int (mr s 19 k)), (0, .ref (ma 0)), (1, .int (ln)), (2, .int (own)), (3, .int (hour)), (5, .int (nI k))]) E dX6_isTwice_79 (by decide) rfl ?_
            refine g_iinc (v := nI (k + 1)) (L' := [(5, .int (nI (k + 1))), (4, .int (0)), (6, .int (mr s 19 k)), (0, .ref (ma 0)), (1, .int (ln)), (2, .int (own)), (3, .int (hour))]) E dX6_isTwice_81 6 rfl (nI_1 k) (by decide) rfl ?_
            refine g_goto (tgt := 6) E dX6_isTwice_84 (by decide) ?_
            refine g_locals [(0, .ref (ma 0)), (1, .int (ln)), (2, .int (own)), (3, .int (hour)), (4, .int (0)), (5, .int (nI (k + 1)))] [3, 4, 5, 6, 1, 0] rfl ?_
            refine g_L (L' := [(0, .ref (ma 0)), (1, .int (ln)), (2, .int (own)), (3, .int (hour)), (4, .int (0)), (5, .int (nI (k + 1)))]) (by rfl) (ih_6 (k + 1) (0) (Or.inl ⟨rfl, hv.elim (fun y q hq z => (Nat.lt_succ_iff_lt_or_eq.mp hq).elim (fun h => y.2 q h z) (fun h => by subst h; exact bI_eq0.mp c_35 z.1)) (fun y => absurd (y.1.symm.trans c_26) (by decide))⟩) (by omega) (by omega))
          · have h_o := hop k hk_k (bI_ne0.mp c_35).1
            refine g_aload_n E dX6_isTwice_38 rfl 1 rfl ?_
            refine k_get_lane (s := s) E (fun _ h => (List.mem_cons_of_mem _ (List.mem_append_right _ h))) (List.mem_cons_of_mem _ (List.mem_append_left _ (List.mem_of_getElem? (i := 2) rfl))) dX6_isTwice_39 ?_
            refine g_iload E dX6_isTwice_42 6 rfl ?_
            refine k_ald_lane (s := s) E k rfl (by omega) dX6_isTwice_44 ?_
            refine g_iload_n E dX6_isTwice_45 rfl 2 rfl ?_
            refine g_icmp_ne (tgt := 78) E dX6_isTwice_46 (by decide) (fun c_46 => ?_) (fun c_46 => ?_)
            · refine g_iconst (v := 0) E dX6_isTwice_78 (by decide) ?_
              refine g_istore (L' := [(4, .int (0)), (6, .int (mr s 19 k)), (0, .ref (ma 0)), (1, .int (ln)), (2, .int (own)), (3, .int (hour)), (5, .int (nI k))]) E dX6_isTwice_79 (by decide) rfl ?_
              refine g_iinc (v := nI (k + 1)) (L' := [(5, .int (nI (k + 1))), (4, .int (0)), (6, .int (mr s 19 k)), (0, .ref (ma 0)), (1, .int (ln)), (2, .int (own)), (3, .int (hour))]) E dX6_isTwice_81 6 rfl (nI_1 k) (by decide) rfl ?_
              refine g_goto (tgt := 6) E dX6_isTwice_84 (by decide) ?_
              refine g_locals [(0, .ref (ma 0)), (1, .int (ln)), (2, .int (own)), (3, .int (hour)), (4, .int (0)), (5, .int (nI (k + 1)))] [3, 4, 5, 6, 1, 0] rfl ?_
              refine g_L (L' := [(0, .ref (ma 0)), (1, .int (ln)), (2, .int (own)), (3, .int (hour)), (4, .int (0)), (5, .int (nI (k + 1)))]) (by rfl) (ih_6 (k + 1) (0) (Or.inl ⟨rfl, hv.elim (fun y q hq z => (Nat.lt_succ_iff_lt_or_eq.mp hq).elim (fun h => y.2 q h z) (fun h => by subst h; exact c_46 z.2.1)) (fun y => absurd (y.1.symm.trans c_26) (by decide))⟩) (by omega) (by omega))
            · refine g_iload E dX6_isTwice_49 0 rfl ?_
              refine g_iload_n E dX6_isTwice_51 rfl 3 rfl ?_
              refine g_icmp_eq (tgt := 78) E dX6_isTwice_52 (by decide) (fun c_52 => ?_) (fun c_52 => ?_)
              · refine g_iconst (v := 0) E dX6_isTwice_78 (by decide) ?_
                refine g_istore (L' := [(4, .int (0)), (6, .int (mr s 19 k)), (0, .ref (ma 0)), (1, .int (ln)), (2, .int (own)), (3, .int (hour)), (5, .int (nI k))]) E dX6_isTwice_79 (by decide) rfl ?_
                refine g_iinc (v := nI (k + 1)) (L' := [(5, .int (nI (k + 1))), (4, .int (0)), (6, .int (mr s 19 k)), (0, .ref (ma 0)), (1, .int (ln)), (2, .int (own)), (3, .int (hour))]) E dX6_isTwice_81 6 rfl (nI_1 k) (by decide) rfl ?_
                refine g_goto (tgt := 6) E dX6_isTwice_84 (by decide) ?_
                refine g_locals [(0, .ref (ma 0)), (1, .int (ln)), (2, .int (own)), (3, .int (hour)), (4, .int (0)), (5, .int (nI (k + 1)))] [3, 4, 5, 6, 1, 0] rfl ?_
                refine g_L (L' := [(0, .ref (ma 0)), (1, .int (ln)), (2, .int (own)), (3, .int (hour)), (4, .int (0)), (5, .int (nI (k + 1)))]) (by rfl) (ih_6 (k + 1) (0) (Or.inl ⟨rfl, hv.elim (fun y q hq z => (Nat.lt_succ_iff_lt_or_eq.mp hq).elim (fun h => y.2 q h z) (fun h => by subst h; exact z.2.2.1 c_52)) (fun y => absurd (y.1.symm.trans c_26) (by decide))⟩) (by omega) (by omega))
              · refine g_aload_n E dX6_isTwice_55 rfl 1 rfl ?_
                refine k_get_first (s := s) E (fun _ h => (List.mem_cons_of_mem _ (List.mem_append_right _ h))) (List.mem_cons_of_mem _ (List.mem_append_left _ (List.mem_of_getElem? (i := 3) rfl))) dX6_isTwice_56 ?_
                refine g_iload E dX6_isTwice_59 0 rfl ?_
                refine k_ald_first (s := s) E ((tn (mr s 19 k))) h_o.1 h_o.2 dX6_isTwice_61 ?_
                refine g_sipush (v := 500) E dX6_isTwice_62 (by decide) ?_
                refine g_idiv E dX6_isTwice_65 (by decide) ?_
                refine g_iload_n E dX6_isTwice_66 rfl 4 rfl ?_
                refine g_sipush (v := 500) E dX6_isTwice_67 (by decide) ?_
                refine g_idiv E dX6_isTwice_70 (by decide) ?_
                refine g_icmp_ne (tgt := 78) E dX6_isTwice_71 (by decide) (fun c_71 => ?_) (fun c_71 => ?_)
                · refine g_iconst (v := 0) E dX6_isTwice_78 (by decide) ?_
                  refine g_istore (L' := [(4, .int (0)), (6, .int (mr s 19 k)), (0, .ref (ma 0)), (1, .int (ln)), (2, .int (own)), (3, .int (hour)), (5, .int (nI k))]) E dX6_isTwice_79 (by decide) rfl ?_
                  refine g_iinc (v := nI (k + 1)) (L' := [(5, .int (nI (k + 1))), (4, .int (0)), (6, .int (mr s 19 k)), (0, .ref (ma 0)), (1, .int (ln)), (2, .int (own)), (3, .int (hour))]) E dX6_isTwice_81 6 rfl (nI_1 k) (by decide) rfl ?_
                  refine g_goto (tgt := 6) E dX6_isTwice_84 (by decide) ?_
                  refine g_locals [(0, .ref (ma 0)), (1, .int (ln)), (2, .int (own)), (3, .int (hour)), (4, .int (0)), (5, .int (nI (k + 1)))] [3, 4, 5, 6, 1, 0] rfl ?_
                  refine g_L (L' := [(0, .ref (ma 0)), (1, .int (ln)), (2, .int (own)), (3, .int (hour)), (4, .int (0)), (5, .int (nI (k + 1)))]) (by rfl) (ih_6 (k + 1) (0) (Or.inl ⟨rfl, hv.elim (fun y q hq z => (Nat.lt_succ_iff_lt_or_eq.mp hq).elim (fun h => y.2 q h z) (fun h => by subst h; exact c_71 z.2.2.2)) (fun y => absurd (y.1.symm.trans c_26) (by decide))⟩) (by omega) (by omega))
                · refine g_iconst (v := 1) E dX6_isTwice_74 (by decide) ?_
                  refine g_goto (tgt := 79) E dX6_isTwice_75 (by decide) ?_
                  refine g_istore (L' := [(4, .int (1)), (6, .int (mr s 19 k)), (0, .ref (ma 0)), (1, .int (ln)), (2, .int (own)), (3, .int (hour)), (5, .int (nI k))]) E dX6_isTwice_79 (by decide) rfl ?_
                  refine g_iinc (v := nI (k + 1)) (L' := [(5, .int (nI (k + 1))), (4, .int (1)), (6, .int (mr s 19 k)), (0, .ref (ma 0)), (1, .int (ln)), (2, .int (own)), (3, .int (hour))]) E dX6_isTwice_81 6 rfl (nI_1 k) (by decide) rfl ?_
                  refine g_goto (tgt := 6) E dX6_isTwice_84 (by decide) ?_
                  refine g_locals [(0, .ref (ma 0)), (1, .int (ln)), (2, .int (own)), (3, .int (hour)), (4, .int (1)), (5, .int (nI (k + 1)))] [3, 4, 5, 6, 1, 0] rfl ?_
                  refine g_L (L' := [(0, .ref (ma 0)), (1, .int (ln)), (2, .int (own)), (3, .int (hour)), (4, .int (1)), (5, .int (nI (k + 1)))]) (by rfl) (ih_6 (k + 1) (1) (Or.inr ⟨rfl, k, Nat.lt_succ_self k, bI_ne0.mp c_35, c_46, c_52, c_71⟩) (by omega) (by omega))
  exact loop_6 (np + 1) 0 (0) (Or.inl ⟨rfl, fun q h => absurd h (Nat.not_lt_zero q)⟩) (by omega) (by omega)
