abbrev rm_X6_lane : Room := { frames := 2, cells := 0, slots := 0, locals := 42 }
set_option maxHeartbeats 4000000 in
set_option maxRecDepth 100000 in
theorem m_X6_lane (l : Launch) (hl : l.stackTraces = false) (D : va_G) (cy : Nat → ClassId) (e0 : Nat) {ma : Nat → Nat} {s : mS} {M : Nat} (hM : mi s 5 = nI M) (hM1 : M ≤ 24) {x y t : Int32} : mMet l yX6_lane wsX6_lane rm_X6_lane D cy e0 [.ref (ma 0), .int (x), .int (y), .int (t)] ma s (fun v s' => ((¬ isIx x 10 = 0 ∧ ¬ isIx y 10 = 0) ∧ (¬ x = y ∧ 1 ≤ t ∧ t ≤ 30) ∧ M < 24 ∧ ¬ 0 < mi s 1 ∧ v = some (.int (nI M)) ∧ s' = muI (muR (muR (muR (muI s 0 0) 2 M x) 3 M y) 4 M t) 5 (nI M + 1)) ∨ (∃ c : Int32, v = some (.int 0) ∧ s' = muI s 0 c ∧ ((c = 1 ∧ ¬ (¬ isIx x 10 = 0 ∧ ¬ isIx y 10 = 0)) ∨ (c = 2 ∧ (¬ isIx x 10 = 0 ∧ ¬ isIx y 10 = 0) ∧ ¬ (¬ x = y ∧ 1 ≤ t ∧ t ≤ 30)) ∨ (c = 3 ∧ (¬ isIx x 10 = 0 ∧ ¬ isIx y 10 = 0) ∧ (¬ x = y ∧ 1 ≤ t ∧ t ≤ 30) ∧ (M = 24 ∨ 0 < mi s 1))))) := by
  refine gMet.of (cc := cX6_lane) (maxL := 6) (ret := (some .int)) hl (by decide) rfl (Nat.le_of_ble_eq_true rfl) ?_
  intro C E h1 h2 h3 hr hnm hT hE
  subst h1; subst h2; subst h3
  have E : gOk C cX6_lane 6 wsX6_lane RX6 e0 rm_X6_lane := E
  show G C (mW (xy C) ma s) 0 0 0 [(0, .ref (ma 0)), (1, .int (x)), (2, .int (y)), (3, .int (t))] []
  refine g_iload_n E dX6_lane_0 rfl 1 rfl ?_
  refine k_invS (n := 1) (rest := []) E (m_X6_isJunction (xl C) E.tr (xD C) (xy C) e0 ) gX6_lane_X6_isJunction rfl rfl rfl (by decide +kernel) ⟨Nat.le_of_ble_eq_true rfl, Nat.le_of_ble_eq_true rfl⟩ rfl rfl (Nat.le_of_ble_eq_true rfl) dX6_lane_1 ⟨Nat.le_of_ble_eq_true rfl, Nat.le_of_ble_eq_true rfl⟩ (fun v9 s9_1 h9 => ?_)
  obtain ⟨hv9, hS9⟩ := h9
  rw [hv9, hS9]
  show G C (mW (xy C) ma s) 0 0 4 [(0, .ref (ma 0)), (1, .int (x)), (2, .int (y)), (3, .int (t))] [.int ((isIx (x) 10))]
  refine g_if_eq (tgt := 18) E dX6_lane_4 (by decide) (fun c_4 => ?_) (fun c_4 => ?_)
  · refine g_iconst (v := 0) E dX6_lane_18 (by decide) ?_
    refine g_istore (L' := [(4, .int (0)), (0, .ref (ma 0)), (1, .int (x)), (2, .int (y)), (3, .int (t))]) E dX6_lane_19 (by decide) rfl ?_
    refine g_iload_n E dX6_lane_21 rfl 2 rfl ?_
    refine g_iload_n E dX6_lane_22 rfl 3 rfl ?_
    refine g_icmp_eq (tgt := 40) E dX6_lane_23 (by decide) (fun c_23 => ?_) (fun c_23 => ?_)
    · refine g_iconst (v := 0) E dX6_lane_40 (by decide) ?_
      refine g_istore (L' := [(5, .int (0)), (4, .int (0)), (0, .ref (ma 0)), (1, .int (x)), (2, .int (y)), (3, .int (t))]) E dX6_lane_41 (by decide) rfl ?_
      refine g_aload_n E dX6_lane_43 rfl 2 rfl ?_
      refine g_iload E dX6_lane_44 1 rfl ?_
      refine g_if_ne (tgt := 53) E dX6_lane_46 (by decide) (fun c_46 => ?_) (fun c_46 => ?_)
      · exact absurd c_46 (by decide)
      · refine g_iconst (v := 1) E dX6_lane_49 (by decide) ?_
        refine g_goto (tgt := 83) E dX6_lane_50 (by decide) ?_
        refine k_invV (n := 1) (rest := []) E (m_X6_isFine (xl C) E.tr (xD C) (xy C) e0 (s := s) (x := 1)) gX6_lane_X6_isFine rfl rfl rfl (by decide +kernel) ⟨Nat.le_of_ble_eq_true rfl, Nat.le_of_ble_eq_true rfl⟩ rfl rfl (Nat.le_of_ble_eq_true rfl) dX6_lane_83 ⟨Nat.le_of_ble_eq_true rfl, Nat.le_of_ble_eq_true rfl⟩ (fun v9 s9_83 h9 => ?_)
        obtain ⟨hv9, hS9⟩ := h9
        rw [hv9, hS9]
        rw [show bI ((1 : Int32) = 0) = 0 by decide]
        show G C (mW (xy C) ma (muI s 0 (1))) 0 0 86 [(5, .int (0)), (4, .int (0)), (0, .ref (ma 0)), (1, .int (x)), (2, .int (y)), (3, .int (t))] [.int (0)]
        refine g_if_ne (tgt := 91) E dX6_lane_86 (by decide) (fun c_86 => ?_) (fun c_86 => ?_)
        · exact absurd c_86 (by decide)
        · refine g_iconst (v := 0) E dX6_lane_89 (by decide) ?_
          exact g_iret E hE hr dX6_lane_90 (Nat.le_of_ble_eq_true rfl) (Nat.le_of_ble_eq_true rfl) ⟨(muI s 0 (1)), rfl, Or.inr ⟨1, rfl, rfl, Or.inl ⟨rfl, (fun q => q.1 c_4)⟩⟩⟩
    · refine g_iload_n E dX6_lane_26 rfl 4 rfl ?_
      refine g_iconst (v := 1) E dX6_lane_27 (by decide) ?_
      refine g_bipush (v := 30) E dX6_lane_28 (by decide) ?_
      refine k_invS (n := 3) (rest := []) E (m_X6_isIn (xl C) E.tr (xD C) (xy C) e0 (x := t) (a := 1) (b := 30)) gX6_lane_X6_isIn rfl rfl rfl (by decide +kernel) ⟨Nat.le_of_ble_eq_true rfl, Nat.le_of_ble_eq_true rfl⟩ rfl rfl (Nat.le_of_ble_eq_true rfl) dX6_lane_30 ⟨Nat.le_of_ble_eq_true rfl, Nat.le_of_ble_eq_true rfl⟩ (fun v9 s9_30 h9 => ?_)
      obtain ⟨hv9, hS9⟩ := h9
      rw [hv9, hS9]
      show G C (mW (xy C) ma s) 0 0 33 [(4, .int (0)), (0, .ref (ma 0)), (1, .int (x)), (2, .int (y)), (3, .int (t))] [.int ((bI (1 ≤ t ∧ t ≤ 30)))]
      refine g_if_eq (tgt := 40) E dX6_lane_33 (by decide) (fun c_33 => ?_) (fun c_33 => ?_)
      · refine g_iconst (v := 0) E dX6_lane_40 (by decide) ?_
        refine g_istore (L' := [(5, .int (0)), (4, .int (0)), (0, .ref (ma 0)), (1, .int (x)), (2, .int (y)), (3, .int (t))]) E dX6_lane_41 (by decide) rfl ?_
        refine g_aload_n E dX6_lane_43 rfl 2 rfl ?_
        refine g_iload E dX6_lane_44 1 rfl ?_
        refine g_if_ne (tgt := 53) E dX6_lane_46 (by decide) (fun c_46 => ?_) (fun c_46 => ?_)
        · exact absurd c_46 (by decide)
        · refine g_iconst (v := 1) E dX6_lane_49 (by decide) ?_
          refine g_goto (tgt := 83) E dX6_lane_50 (by decide) ?_
          refine k_invV (n := 1) (rest := []) E (m_X6_isFine (xl C) E.tr (xD C) (xy C) e0 (s := s) (x := 1)) gX6_lane_X6_isFine rfl rfl rfl (by decide +kernel) ⟨Nat.le_of_ble_eq_true rfl, Nat.le_of_ble_eq_true rfl⟩ rfl rfl (Nat.le_of_ble_eq_true rfl) dX6_lane_83 ⟨Nat.le_of_ble_eq_true rfl, Nat.le_of_ble_eq_true rfl⟩ (fun v9 s9_83 h9 => ?_)
          obtain ⟨hv9, hS9⟩ := h9
          rw [hv9, hS9]
          rw [show bI ((1 : Int32) = 0) = 0 by decide]
          show G C (mW (xy C) ma (muI s 0 (1))) 0 0 86 [(5, .int (0)), (4, .int (0)), (0, .ref (ma 0)), (1, .int (x)), (2, .int (y)), (3, .int (t))] [.int (0)]
          refine g_if_ne (tgt := 91) E dX6_lane_86 (by decide) (fun c_86 => ?_) (fun c_86 => ?_)
          · exact absurd c_86 (by decide)
          · refine g_iconst (v := 0) E dX6_lane_89 (by decide) ?_
            exact g_iret E hE hr dX6_lane_90 (Nat.le_of_ble_eq_true rfl) (Nat.le_of_ble_eq_true rfl) ⟨(muI s 0 (1)), rfl, Or.inr ⟨1, rfl, rfl, Or.inl ⟨rfl, (fun q => q.1 c_4)⟩⟩⟩
      · refine g_iconst (v := 1) E dX6_lane_36 (by decide) ?_
        refine g_goto (tgt := 41) E dX6_lane_37 (by decide) ?_
        refine g_istore (L' := [(5, .int (1)), (4, .int (0)), (0, .ref (ma 0)), (1, .int (x)), (2, .int (y)), (3, .int (t))]) E dX6_lane_41 (by decide) rfl ?_
        refine g_aload_n E dX6_lane_43 rfl 2 rfl ?_
        refine g_iload E dX6_lane_44 1 rfl ?_
        refine g_if_ne (tgt := 53) E dX6_lane_46 (by decide) (fun c_46 => ?_) (fun c_46 => ?_)
        · exact absurd c_46 (by decide)
        · refine g_iconst (v := 1) E dX6_lane_49 (by decide) ?_
          refine g_goto (tgt := 83) E dX6_lane_50 (by decide) ?_
          refine k_invV (n := 1) (rest := []) E (m_X6_isFine (xl C) E.tr (xD C) (xy C) e0 (s := s) (x := 1)) gX6_lane_X6_isFine rfl rfl rfl (by decide +kernel) ⟨Nat.le_of_ble_eq_true rfl, Nat.le_of_ble_eq_true rfl⟩ rfl rfl (Nat.le_of_ble_eq_true rfl) dX6_lane_83 ⟨Nat.le_of_ble_eq_true rfl, Nat.le_of_ble_eq_true rfl⟩ (fun v9 s9_83 h9 => ?_)
          obtain ⟨hv9, hS9⟩ := h9
          rw [hv9, hS9]
          rw [show bI ((1 : Int32) = 0) = 0 by decide]
          show G C (mW (xy C) ma (muI s 0 (1))) 0 0 86 [(5, .int (1)), (4, .int (0)), (0, .ref (ma 0)), (1, .int (x)), (2, .int (y)), (3, .int (t))] [.int (0)]
          refine g_if_ne (tgt := 91) E dX6_lane_86 (by decide) (fun c_86 => ?_) (fun c_86 => ?_)
          · exact absurd c_86 (by decide)
          · refine g_iconst (v := 0) E dX6_lane_89 (by decide) ?_
            exact g_iret E hE hr dX6_lane_90 (Nat.le_of_ble_eq_true rfl) (Nat.le_of_ble_eq_true rfl) ⟨(muI s 0 (1)), rfl, Or.inr ⟨1, rfl, rfl, Or.inl ⟨rfl, (fun q => q.1 c_4)⟩⟩⟩
  · refine g_iload_n E dX6_lane_7 rfl 2 rfl ?_
    refine k_invS (n := 1) (rest := []) E (m_X6_isJunction (xl C) E.tr (xD C) (xy C) e0 ) gX6_lane_X6_isJunction rfl rfl rfl (by decide +kernel) ⟨Nat.le_of_ble_eq_true rfl, Nat.le_of_ble_eq_true rfl⟩ rfl rfl (Nat.le_of_ble_eq_true rfl) dX6_lane_8 ⟨Nat.le_of_ble_eq_true rfl, Nat.le_of_ble_eq_true rfl⟩ (fun v9 s9_8 h9 => ?_)
    obtain ⟨hv9, hS9⟩ := h9
    rw [hv9, hS9]
    show G C (mW (xy C) ma s) 0 0 11 [(0, .ref (ma 0)), (1, .int (x)), (2, .int (y)), (3, .int (t))] [.int ((isIx (y) 10))]
    refine g_if_eq (tgt := 18) E dX6_lane_11 (by decide) (fun c_11 => ?_) (fun c_11 => ?_)
    · refine g_iconst (v := 0) E dX6_lane_18 (by decide) ?_
      refine g_istore (L' := [(4, .int (0)), (0, .ref (ma 0)), (1, .int (x)), (2, .int (y)), (3, .int (t))]) E dX6_lane_19 (by decide) rfl ?_
      refine g_iload_n E dX6_lane_21 rfl 2 rfl ?_
      refine g_iload_n E dX6_lane_22 rfl 3 rfl ?_
      refine g_icmp_eq (tgt := 40) E dX6_lane_23 (by decide) (fun c_23 => ?_) (fun c_23 => ?_)
      · refine g_iconst (v := 0) E dX6_lane_40 (by decide) ?_
        refine g_istore (L' := [(5, .int (0)), (4, .int (0)), (0, .ref (ma 0)), (1, .int (x)), (2, .int (y)), (3, .int (t))]) E dX6_lane_41 (by decide) rfl ?_
        refine g_aload_n E dX6_lane_43 rfl 2 rfl ?_
        refine g_iload E dX6_lane_44 1 rfl ?_
        refine g_if_ne (tgt := 53) E dX6_lane_46 (by decide) (fun c_46 => ?_) (fun c_46 => ?_)
        · exact absurd c_46 (by decide)
        · refine g_iconst (v := 1) E dX6_lane_49 (by decide) ?_
          refine g_goto (tgt := 83) E dX6_lane_50 (by decide) ?_
          refine k_invV (n := 1) (rest := []) E (m_X6_isFine (xl C) E.tr (xD C) (xy C) e0 (s := s) (x := 1)) gX6_lane_X6_isFine rfl rfl rfl (by decide +kernel) ⟨Nat.le_of_ble_eq_true rfl, Nat.le_of_ble_eq_true rfl⟩ rfl rfl (Nat.le_of_ble_eq_true rfl) dX6_lane_83 ⟨Nat.le_of_ble_eq_true rfl, Nat.le_of_ble_eq_true rfl⟩ (fun v9 s9_83 h9 => ?_)
          obtain ⟨hv9, hS9⟩ := h9
          rw [hv9, hS9]
          rw [show bI ((1 : Int32) = 0) = 0 by decide]
          show G C (mW (xy C) ma (muI s 0 (1))) 0 0 86 [(5, .int (0)), (4, .int (0)), (0, .ref (ma 0)), (1, .int (x)), (2, .int (y)), (3, .int (t))] [.int (0)]
          refine g_if_ne (tgt := 91) E dX6_lane_86 (by decide) (fun c_86 => ?_) (fun c_86 => ?_)
          · exact absurd c_86 (by decide)
          · refine g_iconst (v := 0) E dX6_lane_89 (by decide) ?_
            exact g_iret E hE hr dX6_lane_90 (Nat.le_of_ble_eq_true rfl) (Nat.le_of_ble_eq_true rfl) ⟨(muI s 0 (1)), rfl, Or.inr ⟨1, rfl, rfl, Or.inl ⟨rfl, (fun q => q.2 c_11)⟩⟩⟩
      · refine g_iload_n E dX6_lane_26 rfl 4 rfl ?_
        refine g_iconst (v := 1) E dX6_lane_27 (by decide) ?_
        refine g_bipush (v := 30) E dX6_lane_28 (by decide) ?_
        refine k_invS (n := 3) (rest := []) E (m_X6_isIn (xl C) E.tr (xD C) (xy C) e0 (x := t) (a := 1) (b := 30)) gX6_lane_X6_isIn rfl rfl rfl (by decide +kernel) ⟨Nat.le_of_ble_eq_true rfl, Nat.le_of_ble_eq_true rfl⟩ rfl rfl (Nat.le_of_ble_eq_true rfl) dX6_lane_30 ⟨Nat.le_of_ble_eq_true rfl, Nat.le_of_ble_eq_true rfl⟩ (fun v9 s9_30 h9 => ?_)
        obtain ⟨hv9, hS9⟩ := h9
        rw [hv9, hS9]
        show G C (mW (xy C) ma s) 0 0 33 [(4, .int (0)), (0, .ref (ma 0)), (1, .int (x)), (2, .int (y)), (3, .int (t))] [.int ((bI (1 ≤ t ∧ t ≤ 30)))]
        refine g_if_eq (tgt := 40) E dX6_lane_33 (by decide) (fun c_33 => ?_) (fun c_33 => ?_)
        · refine g_iconst (v := 0) E dX6_lane_40 (by decide) ?_
          refine g_istore (L' := [(5, .int (0)), (4, .int (0)), (0, .ref (ma 0)), (1, .int (x)), (2, .int (y)), (3, .int (t))]) E dX6_lane_41 (by decide) rfl ?_
          refine g_aload_n E dX6_lane_43 rfl 2 rfl ?_
          refine g_iload E dX6_lane_44 1 rfl ?_
          refine g_if_ne (tgt := 53) E dX6_lane_46 (by decide) (fun c_46 => ?_) (fun c_46 => ?_)
          · exact absurd c_46 (by decide)
          · refine g_iconst (v := 1) E dX6_lane_49 (by decide) ?_
            refine g_goto (tgt := 83) E dX6_lane_50 (by decide) ?_
            refine k_invV (n := 1) (rest := []) E (m_X6_isFine (xl C) E.tr (xD C) (xy C) e0 (s := s) (x := 1)) gX6_lane_X6_isFine rfl rfl rfl (by decide +kernel) ⟨Nat.le_of_ble_eq_true rfl, Nat.le_of_ble_eq_true rfl⟩ rfl rfl (Nat.le_of_ble_eq_true rfl) dX6_lane_83 ⟨Nat.le_of_ble_eq_true rfl, Nat.le_of_ble_eq_true rfl⟩ (fun v9 s9_83 h9 => ?_)
            obtain ⟨hv9, hS9⟩ := h9
            rw [hv9, hS9]
            rw [show bI ((1 : Int32) = 0) = 0 by decide]
            show G C (mW (xy C) ma (muI s 0 (1))) 0 0 86 [(5, .int (0)), (4, .int (0)), (0, .ref (ma 0)), (1, .int (x)), (2, .int (y)), (3, .int (t))] [.int (0)]
            refine g_if_ne (tgt := 91) E dX6_lane_86 (by decide) (fun c_86 => ?_) (fun c_86 => ?_)
            · exact absurd c_86 (by decide)
            · refine g_iconst (v := 0) E dX6_lane_89 (by decide) ?_
              exact g_iret E hE hr dX6_lane_90 (Nat.le_of_ble_eq_true rfl) (Nat.le_of_ble_eq_true rfl) ⟨(muI s 0 (1)), rfl, Or.inr ⟨1, rfl, rfl, Or.inl ⟨rfl, (fun q => q.2 c_11)⟩⟩⟩
        · refine g_iconst (v := 1) E dX6_lane_36 (by decide) ?_
          refine g_goto (tgt := 41) E dX6_lane_37 (by decide) ?_
          refine g_istore (L' := [(5, .int (1)), (4, .int (0)), (0, .ref (ma 0)), (1, .int (x)), (2, .int (y)), (3, .int (t))]) E dX6_lane_41 (by decide) rfl ?_
          refine g_aload_n E dX6_lane_43 rfl 2 rfl ?_
          refine g_iload E dX6_lane_44 1 rfl ?_
          refine g_if_ne (tgt := 53) E dX6_lane_46 (by decide) (fun c_46 => ?_) (fun c_46 => ?_)
          · exact absurd c_46 (by decide)
          · refine g_iconst (v := 1) E dX6_lane_49 (by decide) ?_
            refine g_goto (tgt := 83) E dX6_lane_50 (by decide) ?_
            refine k_invV (n := 1) (rest := []) E (m_X6_isFine (xl C) E.tr (xD C) (xy C) e0 (s := s) (x := 1)) gX6_lane_X6_isFine rfl rfl rfl (by decide +kernel) ⟨Nat.le_of_ble_eq_true rfl, Nat.le_of_ble_eq_true rfl⟩ rfl rfl (Nat.le_of_ble_eq_true rfl) dX6_lane_83 ⟨Nat.le_of_ble_eq_true rfl, Nat.le_of_ble_eq_true rfl⟩ (fun v9 s9_83 h9 => ?_)
            obtain ⟨hv9, hS9⟩ := h9
            rw [hv9, hS9]
            rw [show bI ((1 : Int32) = 0) = 0 by decide]
            show G C (mW (xy C) ma (muI s 0 (1))) 0 0 86 [(5, .int (1)), (4, .int (0)), (0, .ref (ma 0)), (1, .int (x)), (2, .int (y)), (3, .int (t))] [.int (0)]
            refine g_if_ne (tgt := 91) E dX6_lane_86 (by decide) (fun c_86 => ?_) (fun c_86 => ?_)
            · exact absurd c_86 (by decide)
            · refine g_iconst (v := 0) E dX6_lane_89 (by decide) ?_
              exact g_iret E hE hr dX6_lane_90 (Nat.le_of_ble_eq_true rfl) (Nat.le_of_ble_eq_true rfl) ⟨(muI s 0 (1)), rfl, Or.inr ⟨1, rfl, rfl, Or.inl ⟨rfl, (fun q => q.2 c_11)⟩⟩⟩
    · refine g_iconst (v := 1) E dX6_lane_14 (by decide) ?_
      refine g_goto (tgt := 19) E dX6_lane_15 (by decide) ?_
      refine g_istore (L' := [(4, .int (1)), (0, .ref (ma 0)), (1, .int (x)), (2, .int (y)), (3, .int (t))]) E dX6_lane_19 (by decide) rfl ?_
      refine g_iload_n E dX6_lane_21 rfl 2 rfl ?_
      refine g_iload_n E dX6_lane_22 rfl 3 rfl ?_
      refine g_icmp_eq (tgt := 40) E dX6_lane_23 (by decide) (fun c_23 => ?_) (fun c_23 => ?_)
      · refine g_iconst (v := 0) E dX6_lane_40 (by decide) ?_
        refine g_istore (L' := [(5, .int (0)), (4, .int (1)), (0, .ref (ma 0)), (1, .int (x)), (2, .int (y)), (3, .int (t))]) E dX6_lane_41 (by decide) rfl ?_
        refine g_aload_n E dX6_lane_43 rfl 2 rfl ?_
        refine g_iload E dX6_lane_44 1 rfl ?_
        refine g_if_ne (tgt := 53) E dX6_lane_46 (by decide) (fun c_46 => ?_) (fun c_46 => ?_)
        · refine g_iload E dX6_lane_53 0 rfl ?_
          refine g_if_ne (tgt := 62) E dX6_lane_55 (by decide) (fun c_55 => ?_) (fun c_55 => ?_)
          · exact absurd c_55 (by decide)
          · refine g_iconst (v := 2) E dX6_lane_58 (by decide) ?_
            refine g_goto (tgt := 83) E dX6_lane_59 (by decide) ?_
            refine k_invV (n := 1) (rest := []) E (m_X6_isFine (xl C) E.tr (xD C) (xy C) e0 (s := s) (x := 2)) gX6_lane_X6_isFine rfl rfl rfl (by decide +kernel) ⟨Nat.le_of_ble_eq_true rfl, Nat.le_of_ble_eq_true rfl⟩ rfl rfl (Nat.le_of_ble_eq_true rfl) dX6_lane_83 ⟨Nat.le_of_ble_eq_true rfl, Nat.le_of_ble_eq_true rfl⟩ (fun v9 s9_83 h9 => ?_)
            obtain ⟨hv9, hS9⟩ := h9
            rw [hv9, hS9]
            rw [show bI ((2 : Int32) = 0) = 0 by decide]
            show G C (mW (xy C) ma (muI s 0 (2))) 0 0 86 [(5, .int (0)), (4, .int (1)), (0, .ref (ma 0)), (1, .int (x)), (2, .int (y)), (3, .int (t))] [.int (0)]
            refine g_if_ne (tgt := 91) E dX6_lane_86 (by decide) (fun c_86 => ?_) (fun c_86 => ?_)
            · exact absurd c_86 (by decide)
            · refine g_iconst (v := 0) E dX6_lane_89 (by decide) ?_
              exact g_iret E hE hr dX6_lane_90 (Nat.le_of_ble_eq_true rfl) (Nat.le_of_ble_eq_true rfl) ⟨(muI s 0 (2)), rfl, Or.inr ⟨2, rfl, rfl, Or.inr (Or.inl ⟨rfl, ⟨c_4, c_11⟩, (fun q => q.1 c_23)⟩)⟩⟩
        · exact absurd c_46 (by decide)
      · refine g_iload_n E dX6_lane_26 rfl 4 rfl ?_
        refine g_iconst (v := 1) E dX6_lane_27 (by decide) ?_
        refine g_bipush (v := 30) E dX6_lane_28 (by decide) ?_
        refine k_invS (n := 3) (rest := []) E (m_X6_isIn (xl C) E.tr (xD C) (xy C) e0 (x := t) (a := 1) (b := 30)) gX6_lane_X6_isIn rfl rfl rfl (by decide +kernel) ⟨Nat.le_of_ble_eq_true rfl, Nat.le_of_ble_eq_true rfl⟩ rfl rfl (Nat.le_of_ble_eq_true rfl) dX6_lane_30 ⟨Nat.le_of_ble_eq_true rfl, Nat.le_of_ble_eq_true rfl⟩ (fun v9 s9_30 h9 => ?_)
        obtain ⟨hv9, hS9⟩ := h9
        rw [hv9, hS9]
        show G C (mW (xy C) ma s) 0 0 33 [(4, .int (1)), (0, .ref (ma 0)), (1, .int (x)), (2, .int (y)), (3, .int (t))] [.int ((bI (1 ≤ t ∧ t ≤ 30)))]
        refine g_if_eq (tgt := 40) E dX6_lane_33 (by decide) (fun c_33 => ?_) (fun c_33 => ?_)
        · refine g_iconst (v := 0) E dX6_lane_40 (by decide) ?_
          refine g_istore (L' := [(5, .int (0)), (4, .int (1)), (0, .ref (ma 0)), (1, .int (x)), (2, .int (y)), (3, .int (t))]) E dX6_lane_41 (by decide) rfl ?_
          refine g_aload_n E dX6_lane_43 rfl 2 rfl ?_
          refine g_iload E dX6_lane_44 1 rfl ?_
          refine g_if_ne (tgt := 53) E dX6_lane_46 (by decide) (fun c_46 => ?_) (fun c_46 => ?_)
          · refine g_iload E dX6_lane_53 0 rfl ?_
            refine g_if_ne (tgt := 62) E dX6_lane_55 (by decide) (fun c_55 => ?_) (fun c_55 => ?_)
            · exact absurd c_55 (by decide)
            · refine g_iconst (v := 2) E dX6_lane_58 (by decide) ?_
              refine g_goto (tgt := 83) E dX6_lane_59 (by decide) ?_
              refine k_invV (n := 1) (rest := []) E (m_X6_isFine (xl C) E.tr (xD C) (xy C) e0 (s := s) (x := 2)) gX6_lane_X6_isFine rfl rfl rfl (by decide +kernel) ⟨Nat.le_of_ble_eq_true rfl, Nat.le_of_ble_eq_true rfl⟩ rfl rfl (Nat.le_of_ble_eq_true rfl) dX6_lane_83 ⟨Nat.le_of_ble_eq_true rfl, Nat.le_of_ble_eq_true rfl⟩ (fun v9 s9_83 h9 => ?_)
              obtain ⟨hv9, hS9⟩ := h9
              rw [hv9, hS9]
              rw [show bI ((2 : Int32) = 0) = 0 by decide]
              show G C (mW (xy C) ma (muI s 0 (2))) 0 0 86 [(5, .int (0)), (4, .int (1)), (0, .ref (ma 0)), (1, .int (x)), (2, .int (y)), (3, .int (t))] [.int (0)]
              refine g_if_ne (tgt := 91) E dX6_lane_86 (by decide) (fun c_86 => ?_) (fun c_86 => ?_)
              · exact absurd c_86 (by decide)
              · refine g_iconst (v := 0) E dX6_lane_89 (by decide) ?_
                exact g_iret E hE hr dX6_lane_90 (Nat.le_of_ble_eq_true rfl) (Nat.le_of_ble_eq_true rfl) ⟨(muI s 0 (2)), rfl, Or.inr ⟨2, rfl, rfl, Or.inr (Or.inl ⟨rfl, ⟨c_4, c_11⟩, (fun q => bI_eq0.mp c_33 ⟨q.2.1, q.2.2⟩)⟩)⟩⟩
          · exact absurd c_46 (by decide)
        · refine g_iconst (v := 1) E dX6_lane_36 (by decide) ?_
          refine g_goto (tgt := 41) E dX6_lane_37 (by decide) ?_
          refine g_istore (L' := [(5, .int (1)), (4, .int (1)), (0, .ref (ma 0)), (1, .int (x)), (2, .int (y)), (3, .int (t))]) E dX6_lane_41 (by decide) rfl ?_
          refine g_aload_n E dX6_lane_43 rfl 2 rfl ?_
          refine g_iload E dX6_lane_44 1 rfl ?_
          refine g_if_ne (tgt := 53) E dX6_lane_46 (by decide) (fun c_46 => ?_) (fun c_46 => ?_)
          · refine g_iload E dX6_lane_53 0 rfl ?_
            refine g_if_ne (tgt := 62) E dX6_lane_55 (by decide) (fun c_55 => ?_) (fun c_55 => ?_)
            · refine g_aload_n E dX6_lane_62 rfl 2 rfl ?_
              refine k_get_lanes (s := s) E (fun _ h => (List.mem_cons_of_mem _ (List.mem_append_right _ h))) (List.mem_cons_of_mem _ (List.mem_append_left _ (List.mem_of_getElem? (i := 0) rfl))) dX6_lane_63 ?_
              rw [show mi s 5 = nI M from hM]
              show G C (mW (xy C) ma s) 0 0 66 [(5, .int (1)), (4, .int (1)), (0, .ref (ma 0)), (1, .int (x)), (2, .int (y)), (3, .int (t))] [.int (nI M), .ref (ma 0)]
              refine g_bipush (v := 24) E dX6_lane_66 (by decide) ?_
              refine g_icmp_eq (tgt := 78) E dX6_lane_68 (by decide) (fun c_68 => ?_) (fun c_68 => ?_)
              · refine g_iconst (v := 3) E dX6_lane_78 (by decide) ?_
                refine g_goto (tgt := 83) E dX6_lane_79 (by decide) ?_
                refine k_invV (n := 1) (rest := []) E (m_X6_isFine (xl C) E.tr (xD C) (xy C) e0 (s := s) (x := 3)) gX6_lane_X6_isFine rfl rfl rfl (by decide +kernel) ⟨Nat.le_of_ble_eq_true rfl, Nat.le_of_ble_eq_true rfl⟩ rfl rfl (Nat.le_of_ble_eq_true rfl) dX6_lane_83 ⟨Nat.le_of_ble_eq_true rfl, Nat.le_of_ble_eq_true rfl⟩ (fun v9 s9_83 h9 => ?_)
                obtain ⟨hv9, hS9⟩ := h9
                rw [hv9, hS9]
                rw [show bI ((3 : Int32) = 0) = 0 by decide]
                show G C (mW (xy C) ma (muI s 0 (3))) 0 0 86 [(5, .int (1)), (4, .int (1)), (0, .ref (ma 0)), (1, .int (x)), (2, .int (y)), (3, .int (t))] [.int (0)]
                refine g_if_ne (tgt := 91) E dX6_lane_86 (by decide) (fun c_86 => ?_) (fun c_86 => ?_)
                · exact absurd c_86 (by decide)
                · refine g_iconst (v := 0) E dX6_lane_89 (by decide) ?_
                  exact g_iret E hE hr dX6_lane_90 (Nat.le_of_ble_eq_true rfl) (Nat.le_of_ble_eq_true rfl) ⟨(muI s 0 (3)), rfl, Or.inr ⟨3, rfl, rfl, Or.inr (Or.inr ⟨rfl, ⟨c_4, c_11⟩, ⟨c_23, (bI_ne0.mp c_33).1, (bI_ne0.mp c_33).2⟩, Or.inl (nI_inj (b := 24) (by omega) (by decide) c_68)⟩)⟩⟩
              · refine g_aload_n E dX6_lane_71 rfl 2 rfl ?_
                refine k_get_now (s := s) E (fun _ h => (List.mem_cons_of_mem _ (List.mem_append_right _ h))) (List.mem_cons_of_mem _ (List.mem_append_left _ (List.mem_of_getElem? (i := 1) rfl))) dX6_lane_72 ?_
                refine g_if_le (tgt := 82) E dX6_lane_75 (by decide) (fun c_75 => ?_) (fun c_75 => ?_)
                · have hM24 : M < 24 := by have : M ≠ 24 := fun e => c_68 (congrArg nI e); omega
                  refine g_iconst (v := 0) E dX6_lane_82 (by decide) ?_
                  refine k_invV (n := 1) (rest := []) E (m_X6_isFine (xl C) E.tr (xD C) (xy C) e0 (s := s) (x := 0)) gX6_lane_X6_isFine rfl rfl rfl (by decide +kernel) ⟨Nat.le_of_ble_eq_true rfl, Nat.le_of_ble_eq_true rfl⟩ rfl rfl (Nat.le_of_ble_eq_true rfl) dX6_lane_83 ⟨Nat.le_of_ble_eq_true rfl, Nat.le_of_ble_eq_true rfl⟩ (fun v9 s9_83 h9 => ?_)
                  obtain ⟨hv9, hS9⟩ := h9
                  rw [hv9, hS9]
                  rw [show bI ((0 : Int32) = 0) = 1 by decide]
                  show G C (mW (xy C) ma (muI s 0 (0))) 0 0 86 [(5, .int (1)), (4, .int (1)), (0, .ref (ma 0)), (1, .int (x)), (2, .int (y)), (3, .int (t))] [.int (1)]
                  refine g_if_ne (tgt := 91) E dX6_lane_86 (by decide) (fun c_86 => ?_) (fun c_86 => ?_)
                  · refine g_aload_n E dX6_lane_91 rfl 2 rfl ?_
                    refine k_get_one (s := (muI s 0 (0))) E (fun _ h => (List.mem_cons_of_mem _ (List.mem_append_right _ h))) (List.mem_cons_of_mem _ (List.mem_append_left _ (List.mem_of_getElem? (i := 2) rfl))) dX6_lane_92 ?_
                    refine g_aload_n E dX6_lane_95 rfl 2 rfl ?_
                    refine k_get_lanes (s := (muI s 0 (0))) E (fun _ h => (List.mem_cons_of_mem _ (List.mem_append_right _ h))) (List.mem_cons_of_mem _ (List.mem_append_left _ (List.mem_of_getElem? (i := 0) rfl))) dX6_lane_96 ?_
                    rw [show mi (muI s 0 (0)) 5 = nI M from hM]
                    show G C (mW (xy C) ma (muI s 0 (0))) 0 0 99 [(5, .int (1)), (4, .int (1)), (0, .ref (ma 0)), (1, .int (x)), (2, .int (y)), (3, .int (t))] [.int (nI M), .ref (ma 2)]
                    refine g_iload_n E dX6_lane_99 rfl 3 rfl ?_
                    refine k_ast_one (s := (muI s 0 (0))) E M rfl (by omega) dX6_lane_100 ?_
                    refine g_aload_n E dX6_lane_101 rfl 2 rfl ?_
                    refine k_get_other (s := (muR (muI s 0 (0)) 2 M (x))) E (fun _ h => (List.mem_cons_of_mem _ (List.mem_append_right _ h))) (List.mem_cons_of_mem _ (List.mem_append_left _ (List.mem_of_getElem? (i := 3) rfl))) dX6_lane_102 ?_
                    refine g_aload_n E dX6_lane_105 rfl 2 rfl ?_
                    refine k_get_lanes (s := (muR (muI s 0 (0)) 2 M (x))) E (fun _ h => (List.mem_cons_of_mem _ (List.mem_append_right _ h))) (List.mem_cons_of_mem _ (List.mem_append_left _ (List.mem_of_getElem? (i := 0) rfl))) dX6_lane_106 ?_
                    rw [show mi (muR (muI s 0 (0)) 2 M (x)) 5 = nI M from hM]
                    show G C (mW (xy C) ma (muR (muI s 0 (0)) 2 M (x))) 0 0 109 [(5, .int (1)), (4, .int (1)), (0, .ref (ma 0)), (1, .int (x)), (2, .int (y)), (3, .int (t))] [.int (nI M), .ref (ma 3)]
                    refine g_iload_n E dX6_lane_109 rfl 4 rfl ?_
                    refine k_ast_other (s := (muR (muI s 0 (0)) 2 M (x))) E M rfl (by omega) dX6_lane_110 ?_
                    refine g_aload_n E dX6_lane_111 rfl 2 rfl ?_
                    refine k_get_takes (s := (muR (muR (muI s 0 (0)) 2 M (x)) 3 M (y))) E (fun _ h => (List.mem_cons_of_mem _ (List.mem_append_right _ h))) (List.mem_cons_of_mem _ (List.mem_append_left _ (List.mem_of_getElem? (i := 4) rfl))) dX6_lane_112 ?_
                    refine g_aload_n E dX6_lane_115 rfl 2 rfl ?_
                    refine k_get_lanes (s := (muR (muR (muI s 0 (0)) 2 M (x)) 3 M (y))) E (fun _ h => (List.mem_cons_of_mem _ (List.mem_append_right _ h))) (List.mem_cons_of_mem _ (List.mem_append_left _ (List.mem_of_getElem? (i := 0) rfl))) dX6_lane_116 ?_
                    rw [show mi (muR (muR (muI s 0 (0)) 2 M (x)) 3 M (y)) 5 = nI M from hM]
                    show G C (mW (xy C) ma (muR (muR (muI s 0 (0)) 2 M (x)) 3 M (y))) 0 0 119 [(5, .int (1)), (4, .int (1)), (0, .ref (ma 0)), (1, .int (x)), (2, .int (y)), (3, .int (t))] [.int (nI M), .ref (ma 4)]
                    refine g_iload_n E dX6_lane_119 rfl 5 rfl ?_
                    refine k_ast_takes (s := (muR (muR (muI s 0 (0)) 2 M (x)) 3 M (y))) E M rfl (by omega) dX6_lane_120 ?_
                    refine g_aload_n E dX6_lane_121 rfl 2 rfl ?_
                    refine g_dup E dX6_lane_122 rfl ?_
                    refine k_get_lanes (s := (muR (muR (muR (muI s 0 (0)) 2 M (x)) 3 M (y)) 4 M (t))) E (fun _ h => (List.mem_cons_of_mem _ (List.mem_append_right _ h))) (List.mem_cons_of_mem _ (List.mem_append_left _ (List.mem_of_getElem? (i := 0) rfl))) dX6_lane_123 ?_
                    rw [show mi (muR (muR (muR (muI s 0 (0)) 2 M (x)) 3 M (y)) 4 M (t)) 5 = nI M from hM]
                    show G C (mW (xy C) ma (muR (muR (muR (muI s 0 (0)) 2 M (x)) 3 M (y)) 4 M (t))) 0 0 126 [(5, .int (1)), (4, .int (1)), (0, .ref (ma 0)), (1, .int (x)), (2, .int (y)), (3, .int (t))] [.int (nI M), .ref (ma 0)]
                    refine g_iconst (v := 1) E dX6_lane_126 (by decide) ?_
                    refine g_iadd E dX6_lane_127 ?_
                    refine k_put_lanes (s := (muR (muR (muR (muI s 0 (0)) 2 M (x)) 3 M (y)) 4 M (t))) E (fun _ h => (List.mem_cons_of_mem _ (List.mem_append_right _ h))) (List.mem_cons_of_mem _ (List.mem_append_left _ (List.mem_of_getElem? (i := 0) rfl))) dX6_lane_128 ?_
                    refine g_aload_n E dX6_lane_131 rfl 2 rfl ?_
                    refine k_get_lanes (s := (muI (muR (muR (muR (muI s 0 (0)) 2 M (x)) 3 M (y)) 4 M (t)) 5 ((nI M + 1)))) E (fun _ h => (List.mem_cons_of_mem _ (List.mem_append_right _ h))) (List.mem_cons_of_mem _ (List.mem_append_left _ (List.mem_of_getElem? (i := 0) rfl))) dX6_lane_132 ?_
                    rw [show mi (muI (muR (muR (muR (muI s 0 (0)) 2 M (x)) 3 M (y)) 4 M (t)) 5 ((nI M + 1))) 5 = nI M + 1 from rfl]
                    show G C (mW (xy C) ma (muI (muR (muR (muR (muI s 0 (0)) 2 M (x)) 3 M (y)) 4 M (t)) 5 ((nI M + 1)))) 0 0 135 [(5, .int (1)), (4, .int (1)), (0, .ref (ma 0)), (1, .int (x)), (2, .int (y)), (3, .int (t))] [.int (nI M + 1)]
                    refine g_iconst (v := 1) E dX6_lane_135 (by decide) ?_
                    refine g_isub E dX6_lane_136 ?_
                    exact g_iret E hE hr dX6_lane_137 (Nat.le_of_ble_eq_true rfl) (Nat.le_of_ble_eq_true rfl) ⟨(muI (muR (muR (muR (muI s 0 (0)) 2 M (x)) 3 M (y)) 4 M (t)) 5 ((nI M + 1))), rfl, Or.inl ⟨⟨c_4, c_11⟩, ⟨c_23, (bI_ne0.mp c_33).1, (bI_ne0.mp c_33).2⟩, hM24, Int32.not_lt.mpr c_75, by rw [nI_1, nI_pred], rfl⟩⟩
                  · exact absurd c_86 (by decide)
                · refine g_iconst (v := 3) E dX6_lane_78 (by decide) ?_
                  refine g_goto (tgt := 83) E dX6_lane_79 (by decide) ?_
                  refine k_invV (n := 1) (rest := []) E (m_X6_isFine (xl C) E.tr (xD C) (xy C) e0 (s := s) (x := 3)) gX6_lane_X6_isFine rfl rfl rfl (by decide +kernel) ⟨Nat.le_of_ble_eq_true rfl, Nat.le_of_ble_eq_true rfl⟩ rfl rfl (Nat.le_of_ble_eq_true rfl) dX6_lane_83 ⟨Nat.le_of_ble_eq_true rfl, Nat.le_of_ble_eq_true rfl⟩ (fun v9 s9_83 h9 => ?_)
                  obtain ⟨hv9, hS9⟩ := h9
                  rw [hv9, hS9]
                  rw [show bI ((3 : Int32) = 0) = 0 by decide]
                  show G C (mW (xy C) ma (muI s 0 (3))) 0 0 86 [(5, .int (1)), (4, .int (1)), (0, .ref (ma 0)), (1, .int (x)), (2, .int (y)), (3, .int (t))] [.int (0)]
                  refine g_if_ne (tgt := 91) E dX6_lane_86 (by decide) (fun c_86 => ?_) (fun c_86 => ?_)
                  · exact absurd c_86 (by decide)
                  · refine g_iconst (v := 0) E dX6_lane_89 (by decide) ?_
                    exact g_iret E hE hr dX6_lane_90 (Nat.le_of_ble_eq_true rfl) (Nat.le_of_ble_eq_true rfl) ⟨(muI s 0 (3)), rfl, Or.inr ⟨3, rfl, rfl, Or.inr (Or.inr ⟨rfl, ⟨c_4, c_11⟩, ⟨c_23, (bI_ne0.mp c_33).1, (bI_ne0.mp c_33).2⟩, Or.inr (Int32.not_le.mp c_75)⟩)⟩⟩
            · exact absurd c_55 (by decide)
          · exact absurd c_46 (by decide)
