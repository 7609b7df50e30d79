abbrev rm_X6_together : Room := { frames := 2, cells := 0, slots := 0, locals := 43 }
set_option maxHeartbeats 4000000 in
set_option maxRecDepth 100000 in
theorem m_X6_together (l : Launch) (hl : l.stackTraces = false) (D : va_G) (cy : Nat → ClassId) (e0 : Nat) {ma : Nat → Nat} {s : mS} {np : Nat} (hp0 : mi s 21 = nI np) (hp1 : np ≤ 40) {x : Int32} : mMet l yX6_together wsX6_together rm_X6_together D cy e0 [.ref (ma 0), .int (x)] ma s (fun v s' => (∃ k, k < np ∧ x = nI k ∧ v = some (.long (if mr s 17 k = 1 then 0 else mtg s (mr s 19 k) np)) ∧ s' = muI s 0 0) ∨ ((∀ k, k < np → x ≠ nI k) ∧ v = some (.long 0) ∧ s' = muI s 0 1)) := by
  refine gMet.of (cc := cX6_together) (maxL := 5) (ret := (some .long)) hl (by decide) rfl (Nat.le_of_ble_eq_true rfl) ?_
  intro C E h1 h2 h3 hr hnm hT hE
  subst h1; subst h2; subst h3
  have E : gOk C cX6_together 5 wsX6_together RX6 e0 rm_X6_together := E
  show G C (mW (xy C) ma s) 0 0 0 [(0, .ref (ma 0)), (1, .int (x))] []
  refine g_aload_n E dX6_together_0 rfl 0 rfl ?_
  refine g_aload_n E dX6_together_1 rfl 0 rfl ?_
  refine g_iload_n E dX6_together_2 rfl 1 rfl ?_
  refine k_invV (n := 1) (rest := [.ref (ma 0)]) E (m_X6_isPermit (xl C) E.tr (xD C) (xy C) e0 hp0) gX6_together_X6_isPermit rfl rfl rfl (by decide +kernel) ⟨Nat.le_of_ble_eq_true rfl, Nat.le_of_ble_eq_true rfl⟩ rfl rfl (Nat.le_of_ble_eq_true rfl) dX6_together_3 ⟨Nat.le_of_ble_eq_true rfl, Nat.le_of_ble_eq_true rfl⟩ (fun v9 s9_3 h9 => ?_)
  obtain ⟨hv9, hS9⟩ := h9
  rw [hv9, hS9]
  show G C (mW (xy C) ma s) 0 0 6 [(0, .ref (ma 0)), (1, .int (x))] [.int ((isIx (x) np)), .ref (ma 0)]
  refine g_if_eq (tgt := 13) E dX6_together_6 (by decide) (fun c_6 => ?_) (fun c_6 => ?_)
  · have hbad := isIx_f (by omega) c_6
    refine g_iconst (v := 1) E dX6_together_13 (by decide) ?_
    refine k_invV (n := 1) (rest := []) E (m_X6_isFine (xl C) E.tr (xD C) (xy C) e0 (s := s) (x := 1)) gX6_together_X6_isFine rfl rfl rfl (by decide +kernel) ⟨Nat.le_of_ble_eq_true rfl, Nat.le_of_ble_eq_true rfl⟩ rfl rfl (Nat.le_of_ble_eq_true rfl) dX6_together_14 ⟨Nat.le_of_ble_eq_true rfl, Nat.le_of_ble_eq_true rfl⟩ (fun v9 s9_14 h9 => ?_)
    obtain ⟨hv9, hS9⟩ := h9
    rw [hv9, hS9]
    rw [show bI ((1 : Int32) = 0) = 0 by decide]
    show G C (mW (xy C) ma (muI s 0 (1))) 0 0 17 [(0, .ref (ma 0)), (1, .int (x))] [.int (0)]
    refine g_if_ne (tgt := 22) E dX6_together_17 (by decide) (fun c_17 => ?_) (fun c_17 => ?_)
    · exact absurd c_17 (by decide)
    · refine g_lconst (v := 0) E dX6_together_20 (by decide) ?_
      exact g_lret E hE hr dX6_together_21 (Nat.le_of_ble_eq_true rfl) (Nat.le_of_ble_eq_true rfl) ⟨(muI s 0 (1)), rfl, Or.inr ⟨hbad, rfl, rfl⟩⟩
  · obtain ⟨k, hk, hx⟩ := isIx_t (by omega) c_6
    subst hx
    show G C (mW (xy C) ma s) 0 0 9 [(0, .ref (ma 0)), (1, .int (nI k))] [.ref (ma 0)]
    refine g_iconst (v := 0) E dX6_together_9 (by decide) ?_
    refine g_goto (tgt := 14) E dX6_together_10 (by decide) ?_
    refine k_invV (n := 1) (rest := []) E (m_X6_isFine (xl C) E.tr (xD C) (xy C) e0 (s := s) (x := 0)) gX6_together_X6_isFine rfl rfl rfl (by decide +kernel) ⟨Nat.le_of_ble_eq_true rfl, Nat.le_of_ble_eq_true rfl⟩ rfl rfl (Nat.le_of_ble_eq_true rfl) dX6_together_14 ⟨Nat.le_of_ble_eq_true rfl, Nat.le_of_ble_eq_true rfl⟩ (fun v9 s9_14 h9 => ?_)
    obtain ⟨hv9, hS9⟩ := h9
    rw [hv9, hS9]
    rw [show bI ((0 : Int32) = 0) = 1 by decide]
    show G C (mW (xy C) ma (muI s 0 (0))) 0 0 17 [(0, .ref (ma 0)), (1, .int (nI k))] [.int (1)]
    refine g_if_ne (tgt := 22) E dX6_together_17 (by decide) (fun c_17 => ?_) (fun c_17 => ?_)
    · refine g_lconst (v := 0) E dX6_together_22 (by decide) ?_
      refine g_lstore_n (L' := [(2, .long (0)), (0, .ref (ma 0)), (1, .int (nI k))]) E dX6_together_23 rfl (by decide) rfl ?_
      refine g_iconst (v := 0) E dX6_together_24 (by decide) ?_
      refine g_istore (L' := [(4, .int (0)), (2, .long (0)), (0, .ref (ma 0)), (1, .int (nI k))]) E dX6_together_25 (by decide) rfl ?_
      refine g_locals [(0, .ref (ma 0)), (1, .int (nI k)), (2, .long (0)), (4, .int (0))] [2, 3, 1, 0] rfl ?_
      have loop_27 : ∀ (n_27 j : Nat) , (j = 0 ∨ ¬ mr s 17 k = 1) → j ≤ np → np < n_27 + j → G C (mW (xy C) ma (muI s 0 0)) 0 0 27 [(0, .ref (ma 0)), (1, .int (nI k)), (2, .long ((mtg s (mr s 19 k) j))), (4, .int (nI j))] [] := by
        intro n_27
        induction n_27 with
        | zero => intro j  hz g1 g2; exact absurd g2 (by omega)
        | succ n_27 ih_27 =>
          intro j  hz h1_27 h2_27
          refine g_iload E dX6_together_27 3 rfl ?_
          refine g_aload_n E dX6_together_29 rfl 0 rfl ?_
          refine k_get_permits (s := (muI s 0 0)) E (fun _ h => (List.mem_cons_of_mem _ (List.mem_append_right _ h))) (List.mem_cons_of_mem _ (List.mem_append_left _ (List.mem_of_getElem? (i := 0) rfl))) dX6_together_30 ?_
          rw [show mi (muI s 0 0) 21 = nI np from hp0]
          show G C (mW (xy C) ma (muI s 0 0)) 0 0 33 [(0, .ref (ma 0)), (1, .int (nI k)), (2, .long ((mtg s (mr s 19 k) j))), (4, .int (nI j))] [.int (nI np), .int (nI j)]
          refine g_icmp_ge (tgt := 78) E dX6_together_33 (by decide) (fun c_33 => ?_) (fun c_33 => ?_)
          · have e_j : j = np := Nat.le_antisymm h1_27 (nI_ge_nat (by omega) (by omega) c_33)
            refine g_lload_n E dX6_together_78 rfl 2 rfl ?_
            exact g_lret E hE hr dX6_together_79 (Nat.le_of_ble_eq_true rfl) (Nat.le_of_ble_eq_true rfl) ⟨(muI s 0 0), rfl, Or.inl ⟨k, hk, rfl, by have e_j2 := e_j; by_cases q : mr s 17 k = 1; rw [if_pos q]; rcases hz with z | z; rw [z]; rfl; exact absurd q z; rw [if_neg q, e_j], rfl⟩⟩
          · have hj_j : j < np := nI_nge_nat (by omega) (by omega) c_33
            refine g_aload_n E dX6_together_36 rfl 0 rfl ?_
            refine k_get_state (s := (muI s 0 0)) E (fun _ h => (List.mem_cons_of_mem _ (List.mem_append_right _ h))) (List.mem_cons_of_mem _ (List.mem_append_left _ (List.mem_of_getElem? (i := 1) rfl))) dX6_together_37 ?_
            refine g_iload_n E dX6_together_40 rfl 1 rfl ?_
            refine k_ald_state (s := (muI s 0 0)) E k rfl (by omega) dX6_together_41 ?_
            refine g_iconst (v := 1) E dX6_together_42 (by decide) ?_
            refine g_icmp_eq (tgt := 78) E dX6_together_43 (by decide) (fun c_43 => ?_) (fun c_43 => ?_)
            · refine g_lload_n E dX6_together_78 rfl 2 rfl ?_
              exact g_lret E hE hr dX6_together_79 (Nat.le_of_ble_eq_true rfl) (Nat.le_of_ble_eq_true rfl) ⟨(muI s 0 0), rfl, Or.inl ⟨k, hk, rfl, by rw [if_pos (show mr s 17 k = 1 from c_43)]; rcases hz with z | z; rw [z]; rfl; exact absurd c_43 z, rfl⟩⟩
            · refine g_lload_n E dX6_together_46 rfl 2 rfl ?_
              refine g_aload_n E dX6_together_47 rfl 0 rfl ?_
              refine g_iload E dX6_together_48 3 rfl ?_
              refine g_aload_n E dX6_together_50 rfl 0 rfl ?_
              refine k_get_opening (s := (muI s 0 0)) E (fun _ h => (List.mem_cons_of_mem _ (List.mem_append_right _ h))) (List.mem_cons_of_mem _ (List.mem_append_left _ (List.mem_of_getElem? (i := 2) rfl))) dX6_together_51 ?_
              refine g_iload_n E dX6_together_54 rfl 1 rfl ?_
              refine k_ald_opening (s := (muI s 0 0)) E k rfl (by omega) dX6_together_55 ?_
              refine k_invV (n := 2) (rest := [.long ((mtg s (mr s 19 k) j))]) E (m_X6_isIn0 (xl C) E.tr (xD C) (xy C) e0 (s := (muI s 0 0)) (k := j) (o := mr (muI s 0 0) 19 k) (by omega)) gX6_together_X6_isIn0 rfl rfl rfl (by decide +kernel) ⟨Nat.le_of_ble_eq_true rfl, Nat.le_of_ble_eq_true rfl⟩ rfl rfl (Nat.le_of_ble_eq_true rfl) dX6_together_56 ⟨Nat.le_of_ble_eq_true rfl, Nat.le_of_ble_eq_true rfl⟩ (fun v9 s9_56 h9 => ?_)
              obtain ⟨hv9, hS9⟩ := h9
              rw [hv9, hS9]
              show G C (mW (xy C) ma (muI s 0 0)) 0 0 59 [(0, .ref (ma 0)), (1, .int (nI k)), (2, .long ((mtg s (mr s 19 k) j))), (4, .int (nI j))] [.int ((bI ((¬ mr (muI s 0 0) 17 j = 1 ∧ ¬ mr (muI s 0 0) 17 j = 4) ∧ mr (muI s 0 0) 19 j = mr (muI s 0 0) 19 k))), .long ((mtg s (mr s 19 k) j))]
              refine g_if_eq (tgt := 69) E dX6_together_59 (by decide) (fun c_59 => ?_) (fun c_59 => ?_)
              · refine g_lconst (v := 0) E dX6_together_69 (by decide) ?_
                refine g_lor E dX6_together_70 ?_
                refine g_lstore_n (L' := [(2, .long (((mtg s (mr s 19 k) j) ||| 0))), (0, .ref (ma 0)), (1, .int (nI k)), (4, .int (nI j))]) E dX6_together_71 rfl (by decide) rfl ?_
                refine g_iinc (v := nI (j + 1)) (L' := [(4, .int (nI (j + 1))), (2, .long (((mtg s (mr s 19 k) j) ||| 0))), (0, .ref (ma 0)), (1, .int (nI k))]) E dX6_together_72 3 rfl (nI_1 j) (by decide) rfl ?_
                refine g_goto (tgt := 27) E dX6_together_75 (by decide) ?_
                refine g_locals [(0, .ref (ma 0)), (1, .int (nI k)), (2, .long (((mtg s (mr s 19 k) j) ||| 0))), (4, .int (nI (j + 1)))] [2, 3, 1, 0] rfl ?_
                refine g_L (L' := [(0, .ref (ma 0)), (1, .int (nI k)), (2, .long ((mtg s (mr s 19 k) (j + 1)))), (4, .int (nI (j + 1)))]) (by rw [show mtg s (mr s 19 k) (j + 1) = _ from mtg_f (bI_eq0.mp c_59)]) (ih_27 (j + 1)  (Or.inr c_43) (by omega) (by omega))
              · refine g_lconst (v := 1) E dX6_together_62 (by decide) ?_
                refine g_iload E dX6_together_63 3 rfl ?_
                refine g_lshl E dX6_together_65 rfl ?_
                refine g_goto (tgt := 70) E dX6_together_66 (by decide) ?_
                refine g_lor E dX6_together_70 ?_
                refine g_lstore_n (L' := [(2, .long (((mtg s (mr s 19 k) j) ||| (1 <<< ((nI j : Int32).toInt64 &&& 63))))), (0, .ref (ma 0)), (1, .int (nI k)), (4, .int (nI j))]) E dX6_together_71 rfl (by decide) rfl ?_
                refine g_iinc (v := nI (j + 1)) (L' := [(4, .int (nI (j + 1))), (2, .long (((mtg s (mr s 19 k) j) ||| (1 <<< ((nI j : Int32).toInt64 &&& 63))))), (0, .ref (ma 0)), (1, .int (nI k))]) E dX6_together_72 3 rfl (nI_1 j) (by decide) rfl ?_
                refine g_goto (tgt := 27) E dX6_together_75 (by decide) ?_
                refine g_locals [(0, .ref (ma 0)), (1, .int (nI k)), (2, .long (((mtg s (mr s 19 k) j) ||| (1 <<< ((nI j : Int32).toInt64 &&& 63))))), (4, .int (nI (j + 1)))] [2, 3, 1, 0] rfl ?_
                refine g_L (L' := [(0, .ref (ma 0)), (1, .int (nI k)), (2, .long ((mtg s (mr s 19 k) (j + 1)))), (4, .int (nI (j + 1)))]) (by rw [show mtg s (mr s 19 k) (j + 1) = _ from mtg_t (bI_ne0.mp c_59)]) (ih_27 (j + 1)  (Or.inr c_43) (by omega) (by omega))
      exact loop_27 (np + 1) 0  (Or.inl rfl) (by omega) (by omega)
    · exact absurd c_17 (by decide)
