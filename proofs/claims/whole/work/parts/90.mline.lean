abbrev rm_X6_line : Room := { frames := 2, cells := 0, slots := 0, locals := 42 }
set_option maxHeartbeats 4000000 in
set_option maxRecDepth 100000 in
theorem m_X6_line (l : Launch) (hl : l.stackTraces = false) (D : va_G) (cy : Nat → ClassId) (e0 : Nat) {ma : Nat → Nat} {s : mS} {nl : Nat} (hl0 : mi s 10 = nI nl) (hl1 : nl ≤ 6) {x y : Int32} : mMet l yX6_line wsX6_line rm_X6_line D cy e0 [.ref (ma 0), .int (x), .int (y)] ma s (fun v s' => (¬ isIx x 10 = 0 ∧ (0 ≤ y ∧ y ≤ 500) ∧ nl < 6 ∧ ¬ 0 < mi s 1 ∧ v = some (.int (nI nl)) ∧ s' = muI (muR (muR (muR (muI s 0 0) 7 (6 * nl) x) 8 nl 1) 6 nl y) 10 (nI nl + 1)) ∨ (∃ c : Int32, v = some (.int 0) ∧ s' = muI s 0 c ∧ ((c = 1 ∧ isIx x 10 = 0) ∨ (c = 2 ∧ ¬ isIx x 10 = 0 ∧ ¬ (0 ≤ y ∧ y ≤ 500)) ∨ (c = 3 ∧ ¬ isIx x 10 = 0 ∧ (0 ≤ y ∧ y ≤ 500) ∧ (nl = 6 ∨ 0 < mi s 1))))) := by
  refine gMet.of (cc := cX6_line) (maxL := 3) (ret := (some .int)) hl (by decide) rfl (Nat.le_of_ble_eq_true rfl) ?_
  intro C E h1 h2 h3 hr hnm hT hE
  subst h1; subst h2; subst h3
  have E : gOk C cX6_line 3 wsX6_line RX6 e0 rm_X6_line := E
  show G C (mW (xy C) ma s) 0 0 0 [(0, .ref (ma 0)), (1, .int (x)), (2, .int (y))] []
  refine g_aload_n E dX6_line_0 rfl 0 rfl ?_
  refine g_iload_n E dX6_line_1 rfl 1 rfl ?_
  refine k_invS (n := 1) (rest := [.ref (ma 0)]) E (m_X6_isJunction (xl C) E.tr (xD C) (xy C) e0 ) gX6_line_X6_isJunction rfl rfl rfl (by decide +kernel) ⟨Nat.le_of_ble_eq_true rfl, Nat.le_of_ble_eq_true rfl⟩ rfl rfl (Nat.le_of_ble_eq_true rfl) dX6_line_2 ⟨Nat.le_of_ble_eq_true rfl, Nat.le_of_ble_eq_true rfl⟩ (fun v9 s9_2 h9 => ?_)
  obtain ⟨hv9, hS9⟩ := h9
  rw [hv9, hS9]
  show G C (mW (xy C) ma s) 0 0 5 [(0, .ref (ma 0)), (1, .int (x)), (2, .int (y))] [.int ((isIx (x) 10)), .ref (ma 0)]
  refine g_if_ne (tgt := 12) E dX6_line_5 (by decide) (fun c_5 => ?_) (fun c_5 => ?_)
  · refine g_iload_n E dX6_line_12 rfl 2 rfl ?_
    refine g_iconst (v := 0) E dX6_line_13 (by decide) ?_
    refine g_sipush (v := 500) E dX6_line_14 (by decide) ?_
    refine k_invS (n := 3) (rest := [.ref (ma 0)]) E (m_X6_isIn (xl C) E.tr (xD C) (xy C) e0 (x := y) (a := 0) (b := 500)) gX6_line_X6_isIn rfl rfl rfl (by decide +kernel) ⟨Nat.le_of_ble_eq_true rfl, Nat.le_of_ble_eq_true rfl⟩ rfl rfl (Nat.le_of_ble_eq_true rfl) dX6_line_17 ⟨Nat.le_of_ble_eq_true rfl, Nat.le_of_ble_eq_true rfl⟩ (fun v9 s9_17 h9 => ?_)
    obtain ⟨hv9, hS9⟩ := h9
    rw [hv9, hS9]
    show G C (mW (xy C) ma s) 0 0 20 [(0, .ref (ma 0)), (1, .int (x)), (2, .int (y))] [.int ((bI (0 ≤ y ∧ y ≤ 500))), .ref (ma 0)]
    refine g_if_ne (tgt := 27) E dX6_line_20 (by decide) (fun c_20 => ?_) (fun c_20 => ?_)
    · refine g_aload_n E dX6_line_27 rfl 0 rfl ?_
      refine k_get_lines (s := s) E (fun _ h => (List.mem_cons_of_mem _ (List.mem_append_right _ h))) (List.mem_cons_of_mem _ (List.mem_append_left _ (List.mem_of_getElem? (i := 0) rfl))) dX6_line_28 ?_
      rw [show mi s 10 = nI nl from hl0]
      show G C (mW (xy C) ma s) 0 0 31 [(0, .ref (ma 0)), (1, .int (x)), (2, .int (y))] [.int (nI nl), .ref (ma 0)]
      refine g_bipush (v := 6) E dX6_line_31 (by decide) ?_
      refine g_icmp_eq (tgt := 43) E dX6_line_33 (by decide) (fun c_33 => ?_) (fun c_33 => ?_)
      · refine g_iconst (v := 3) E dX6_line_43 (by decide) ?_
        refine g_goto (tgt := 48) E dX6_line_44 (by decide) ?_
        refine k_invV (n := 1) (rest := []) E (m_X6_isFine (xl C) E.tr (xD C) (xy C) e0 (s := s) (x := 3)) gX6_line_X6_isFine rfl rfl rfl (by decide +kernel) ⟨Nat.le_of_ble_eq_true rfl, Nat.le_of_ble_eq_true rfl⟩ rfl rfl (Nat.le_of_ble_eq_true rfl) dX6_line_48 ⟨Nat.le_of_ble_eq_true rfl, Nat.le_of_ble_eq_true rfl⟩ (fun v9 s9_48 h9 => ?_)
        obtain ⟨hv9, hS9⟩ := h9
        rw [hv9, hS9]
        rw [show bI ((3 : Int32) = 0) = 0 by decide]
        show G C (mW (xy C) ma (muI s 0 (3))) 0 0 51 [(0, .ref (ma 0)), (1, .int (x)), (2, .int (y))] [.int (0)]
        refine g_if_ne (tgt := 56) E dX6_line_51 (by decide) (fun c_51 => ?_) (fun c_51 => ?_)
        · exact absurd c_51 (by decide)
        · refine g_iconst (v := 0) E dX6_line_54 (by decide) ?_
          exact g_iret E hE hr dX6_line_55 (Nat.le_of_ble_eq_true rfl) (Nat.le_of_ble_eq_true rfl) ⟨(muI s 0 (3)), rfl, Or.inr ⟨3, rfl, rfl, Or.inr (Or.inr ⟨rfl, c_5, bI_ne0.mp c_20, Or.inl (nI_inj (b := 6) (by omega) (by decide) c_33)⟩)⟩⟩
      · refine g_aload_n E dX6_line_36 rfl 0 rfl ?_
        refine k_get_now (s := s) E (fun _ h => (List.mem_cons_of_mem _ (List.mem_append_right _ h))) (List.mem_cons_of_mem _ (List.mem_append_left _ (List.mem_of_getElem? (i := 1) rfl))) dX6_line_37 ?_
        refine g_if_le (tgt := 47) E dX6_line_40 (by decide) (fun c_40 => ?_) (fun c_40 => ?_)
        · have hl6 : nl < 6 := by have : nl ≠ 6 := fun e => c_33 (congrArg nI e); omega
          refine g_iconst (v := 0) E dX6_line_47 (by decide) ?_
          refine k_invV (n := 1) (rest := []) E (m_X6_isFine (xl C) E.tr (xD C) (xy C) e0 (s := s) (x := 0)) gX6_line_X6_isFine rfl rfl rfl (by decide +kernel) ⟨Nat.le_of_ble_eq_true rfl, Nat.le_of_ble_eq_true rfl⟩ rfl rfl (Nat.le_of_ble_eq_true rfl) dX6_line_48 ⟨Nat.le_of_ble_eq_true rfl, Nat.le_of_ble_eq_true rfl⟩ (fun v9 s9_48 h9 => ?_)
          obtain ⟨hv9, hS9⟩ := h9
          rw [hv9, hS9]
          rw [show bI ((0 : Int32) = 0) = 1 by decide]
          show G C (mW (xy C) ma (muI s 0 (0))) 0 0 51 [(0, .ref (ma 0)), (1, .int (x)), (2, .int (y))] [.int (1)]
          refine g_if_ne (tgt := 56) E dX6_line_51 (by decide) (fun c_51 => ?_) (fun c_51 => ?_)
          · refine g_aload_n E dX6_line_56 rfl 0 rfl ?_
            refine k_get_stop (s := (muI s 0 (0))) E (fun _ h => (List.mem_cons_of_mem _ (List.mem_append_right _ h))) (List.mem_cons_of_mem _ (List.mem_append_left _ (List.mem_of_getElem? (i := 2) rfl))) dX6_line_57 ?_
            refine g_bipush (v := 6) E dX6_line_60 (by decide) ?_
            refine g_aload_n E dX6_line_62 rfl 0 rfl ?_
            refine k_get_lines (s := (muI s 0 (0))) E (fun _ h => (List.mem_cons_of_mem _ (List.mem_append_right _ h))) (List.mem_cons_of_mem _ (List.mem_append_left _ (List.mem_of_getElem? (i := 0) rfl))) dX6_line_63 ?_
            rw [show mi (muI s 0 (0)) 10 = nI nl from hl0]
            show G C (mW (xy C) ma (muI s 0 (0))) 0 0 66 [(0, .ref (ma 0)), (1, .int (x)), (2, .int (y))] [.int (nI nl), .int (6), .ref (ma 7)]
            refine g_imul E dX6_line_66 ?_
            rw [nI_mul6]
            show G C (mW (xy C) ma (muI s 0 (0))) 0 0 67 [(0, .ref (ma 0)), (1, .int (x)), (2, .int (y))] [.int (nI (6 * nl)), .ref (ma 7)]
            refine g_iload_n E dX6_line_67 rfl 1 rfl ?_
            refine k_ast_stop (s := (muI s 0 (0))) E ((6 * nl)) rfl (by omega) dX6_line_68 ?_
            refine g_aload_n E dX6_line_69 rfl 0 rfl ?_
            refine k_get_stops (s := (muR (muI s 0 (0)) 7 ((6 * nl)) (x))) E (fun _ h => (List.mem_cons_of_mem _ (List.mem_append_right _ h))) (List.mem_cons_of_mem _ (List.mem_append_left _ (List.mem_of_getElem? (i := 3) rfl))) dX6_line_70 ?_
            refine g_aload_n E dX6_line_73 rfl 0 rfl ?_
            refine k_get_lines (s := (muR (muI s 0 (0)) 7 ((6 * nl)) (x))) E (fun _ h => (List.mem_cons_of_mem _ (List.mem_append_right _ h))) (List.mem_cons_of_mem _ (List.mem_append_left _ (List.mem_of_getElem? (i := 0) rfl))) dX6_line_74 ?_
            rw [show mi (muR (muI s 0 (0)) 7 ((6 * nl)) (x)) 10 = nI nl from hl0]
            show G C (mW (xy C) ma (muR (muI s 0 (0)) 7 ((6 * nl)) (x))) 0 0 77 [(0, .ref (ma 0)), (1, .int (x)), (2, .int (y))] [.int (nI nl), .ref (ma 8)]
            refine g_iconst (v := 1) E dX6_line_77 (by decide) ?_
            refine k_ast_stops (s := (muR (muI s 0 (0)) 7 ((6 * nl)) (x))) E nl rfl (by omega) dX6_line_78 ?_
            refine g_aload_n E dX6_line_79 rfl 0 rfl ?_
            refine k_get_passengers (s := (muR (muR (muI s 0 (0)) 7 ((6 * nl)) (x)) 8 nl (1))) E (fun _ h => (List.mem_cons_of_mem _ (List.mem_append_right _ h))) (List.mem_cons_of_mem _ (List.mem_append_left _ (List.mem_of_getElem? (i := 4) rfl))) dX6_line_80 ?_
            refine g_aload_n E dX6_line_83 rfl 0 rfl ?_
            refine k_get_lines (s := (muR (muR (muI s 0 (0)) 7 ((6 * nl)) (x)) 8 nl (1))) E (fun _ h => (List.mem_cons_of_mem _ (List.mem_append_right _ h))) (List.mem_cons_of_mem _ (List.mem_append_left _ (List.mem_of_getElem? (i := 0) rfl))) dX6_line_84 ?_
            rw [show mi (muR (muR (muI s 0 (0)) 7 ((6 * nl)) (x)) 8 nl (1)) 10 = nI nl from hl0]
            show G C (mW (xy C) ma (muR (muR (muI s 0 (0)) 7 ((6 * nl)) (x)) 8 nl (1))) 0 0 87 [(0, .ref (ma 0)), (1, .int (x)), (2, .int (y))] [.int (nI nl), .ref (ma 6)]
            refine g_iload_n E dX6_line_87 rfl 2 rfl ?_
            refine k_ast_passengers (s := (muR (muR (muI s 0 (0)) 7 ((6 * nl)) (x)) 8 nl (1))) E nl rfl (by omega) dX6_line_88 ?_
            refine g_aload_n E dX6_line_89 rfl 0 rfl ?_
            refine g_dup E dX6_line_90 rfl ?_
            refine k_get_lines (s := (muR (muR (muR (muI s 0 (0)) 7 ((6 * nl)) (x)) 8 nl (1)) 6 nl (y))) E (fun _ h => (List.mem_cons_of_mem _ (List.mem_append_right _ h))) (List.mem_cons_of_mem _ (List.mem_append_left _ (List.mem_of_getElem? (i := 0) rfl))) dX6_line_91 ?_
            rw [show mi (muR (muR (muR (muI s 0 (0)) 7 ((6 * nl)) (x)) 8 nl (1)) 6 nl (y)) 10 = nI nl from hl0]
            show G C (mW (xy C) ma (muR (muR (muR (muI s 0 (0)) 7 ((6 * nl)) (x)) 8 nl (1)) 6 nl (y))) 0 0 94 [(0, .ref (ma 0)), (1, .int (x)), (2, .int (y))] [.int (nI nl), .ref (ma 0)]
            refine g_iconst (v := 1) E dX6_line_94 (by decide) ?_
            refine g_iadd E dX6_line_95 ?_
            refine k_put_lines (s := (muR (muR (muR (muI s 0 (0)) 7 ((6 * nl)) (x)) 8 nl (1)) 6 nl (y))) E (fun _ h => (List.mem_cons_of_mem _ (List.mem_append_right _ h))) (List.mem_cons_of_mem _ (List.mem_append_left _ (List.mem_of_getElem? (i := 0) rfl))) dX6_line_96 ?_
            refine g_aload_n E dX6_line_99 rfl 0 rfl ?_
            refine k_get_lines (s := (muI (muR (muR (muR (muI s 0 (0)) 7 ((6 * nl)) (x)) 8 nl (1)) 6 nl (y)) 10 ((nI nl + 1)))) E (fun _ h => (List.mem_cons_of_mem _ (List.mem_append_right _ h))) (List.mem_cons_of_mem _ (List.mem_append_left _ (List.mem_of_getElem? (i := 0) rfl))) dX6_line_100 ?_
            rw [show mi (muI (muR (muR (muR (muI s 0 (0)) 7 ((6 * nl)) (x)) 8 nl (1)) 6 nl (y)) 10 ((nI nl + 1))) 10 = nI nl + 1 from rfl]
            show G C (mW (xy C) ma (muI (muR (muR (muR (muI s 0 (0)) 7 ((6 * nl)) (x)) 8 nl (1)) 6 nl (y)) 10 ((nI nl + 1)))) 0 0 103 [(0, .ref (ma 0)), (1, .int (x)), (2, .int (y))] [.int (nI nl + 1)]
            refine g_iconst (v := 1) E dX6_line_103 (by decide) ?_
            refine g_isub E dX6_line_104 ?_
            exact g_iret E hE hr dX6_line_105 (Nat.le_of_ble_eq_true rfl) (Nat.le_of_ble_eq_true rfl) ⟨(muI (muR (muR (muR (muI s 0 (0)) 7 ((6 * nl)) (x)) 8 nl (1)) 6 nl (y)) 10 ((nI nl + 1))), rfl, Or.inl ⟨c_5, bI_ne0.mp c_20, hl6, Int32.not_lt.mpr c_40, by rw [nI_1, nI_pred], rfl⟩⟩
          · exact absurd c_51 (by decide)
        · refine g_iconst (v := 3) E dX6_line_43 (by decide) ?_
          refine g_goto (tgt := 48) E dX6_line_44 (by decide) ?_
          refine k_invV (n := 1) (rest := []) E (m_X6_isFine (xl C) E.tr (xD C) (xy C) e0 (s := s) (x := 3)) gX6_line_X6_isFine rfl rfl rfl (by decide +kernel) ⟨Nat.le_of_ble_eq_true rfl, Nat.le_of_ble_eq_true rfl⟩ rfl rfl (Nat.le_of_ble_eq_true rfl) dX6_line_48 ⟨Nat.le_of_ble_eq_true rfl, Nat.le_of_ble_eq_true rfl⟩ (fun v9 s9_48 h9 => ?_)
          obtain ⟨hv9, hS9⟩ := h9
          rw [hv9, hS9]
          rw [show bI ((3 : Int32) = 0) = 0 by decide]
          show G C (mW (xy C) ma (muI s 0 (3))) 0 0 51 [(0, .ref (ma 0)), (1, .int (x)), (2, .int (y))] [.int (0)]
          refine g_if_ne (tgt := 56) E dX6_line_51 (by decide) (fun c_51 => ?_) (fun c_51 => ?_)
          · exact absurd c_51 (by decide)
          · refine g_iconst (v := 0) E dX6_line_54 (by decide) ?_
            exact g_iret E hE hr dX6_line_55 (Nat.le_of_ble_eq_true rfl) (Nat.le_of_ble_eq_true rfl) ⟨(muI s 0 (3)), rfl, Or.inr ⟨3, rfl, rfl, Or.inr (Or.inr ⟨rfl, c_5, bI_ne0.mp c_20, Or.inr (Int32.not_le.mp c_40)⟩)⟩⟩
    · refine g_iconst (v := 2) E dX6_line_23 (by decide) ?_
      refine g_goto (tgt := 48) E dX6_line_24 (by decide) ?_
      refine k_invV (n := 1) (rest := []) E (m_X6_isFine (xl C) E.tr (xD C) (xy C) e0 (s := s) (x := 2)) gX6_line_X6_isFine rfl rfl rfl (by decide +kernel) ⟨Nat.le_of_ble_eq_true rfl, Nat.le_of_ble_eq_true rfl⟩ rfl rfl (Nat.le_of_ble_eq_true rfl) dX6_line_48 ⟨Nat.le_of_ble_eq_true rfl, Nat.le_of_ble_eq_true rfl⟩ (fun v9 s9_48 h9 => ?_)
      obtain ⟨hv9, hS9⟩ := h9
      rw [hv9, hS9]
      rw [show bI ((2 : Int32) = 0) = 0 by decide]
      show G C (mW (xy C) ma (muI s 0 (2))) 0 0 51 [(0, .ref (ma 0)), (1, .int (x)), (2, .int (y))] [.int (0)]
      refine g_if_ne (tgt := 56) E dX6_line_51 (by decide) (fun c_51 => ?_) (fun c_51 => ?_)
      · exact absurd c_51 (by decide)
      · refine g_iconst (v := 0) E dX6_line_54 (by decide) ?_
        exact g_iret E hE hr dX6_line_55 (Nat.le_of_ble_eq_true rfl) (Nat.le_of_ble_eq_true rfl) ⟨(muI s 0 (2)), rfl, Or.inr ⟨2, rfl, rfl, Or.inr (Or.inl ⟨rfl, c_5, bI_eq0.mp c_20⟩)⟩⟩
  · refine g_iconst (v := 1) E dX6_line_8 (by decide) ?_
    refine g_goto (tgt := 48) E dX6_line_9 (by decide) ?_
    refine k_invV (n := 1) (rest := []) E (m_X6_isFine (xl C) E.tr (xD C) (xy C) e0 (s := s) (x := 1)) gX6_line_X6_isFine rfl rfl rfl (by decide +kernel) ⟨Nat.le_of_ble_eq_true rfl, Nat.le_of_ble_eq_true rfl⟩ rfl rfl (Nat.le_of_ble_eq_true rfl) dX6_line_48 ⟨Nat.le_of_ble_eq_true rfl, Nat.le_of_ble_eq_true rfl⟩ (fun v9 s9_48 h9 => ?_)
    obtain ⟨hv9, hS9⟩ := h9
    rw [hv9, hS9]
    rw [show bI ((1 : Int32) = 0) = 0 by decide]
    show G C (mW (xy C) ma (muI s 0 (1))) 0 0 51 [(0, .ref (ma 0)), (1, .int (x)), (2, .int (y))] [.int (0)]
    refine g_if_ne (tgt := 56) E dX6_line_51 (by decide) (fun c_51 => ?_) (fun c_51 => ?_)
    · exact absurd c_51 (by decide)
    · refine g_iconst (v := 0) E dX6_line_54 (by decide) ?_
      exact g_iret E hE hr dX6_line_55 (Nat.le_of_ble_eq_true rfl) (Nat.le_of_ble_eq_true rfl) ⟨(muI s 0 (1)), rfl, Or.inr ⟨1, rfl, rfl, Or.inl ⟨rfl, c_5⟩⟩⟩
