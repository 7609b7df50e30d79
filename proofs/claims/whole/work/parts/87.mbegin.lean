abbrev rm_X6_finish : Room := { frames := 2, cells := 0, slots := 0, locals := 43 }
set_option maxHeartbeats 4000000 in
set_option maxRecDepth 100000 in
theorem m_X6_finish (l : Launch) (hl : l.stackTraces = false) (D : va_G) (cy : Nat → ClassId) (e0 : Nat) {ma : Nat → Nat} {s : mS} {np : Nat} (hp0 : mi s 21 = nI np) (hp1 : np ≤ 40) {x : Int32} : mMet l yX6_finish wsX6_finish rm_X6_finish D cy e0 [.ref (ma 0), .int (x)] ma s (fun v s' => (∃ k, k < np ∧ x = nI k ∧ mr s 17 k = 2 ∧ v = some (.long (2 * ml s 20 k)) ∧ s' = muR (muI s 0 0) 17 k 3) ∨ (∃ k, k < np ∧ x = nI k ∧ ¬ mr s 17 k = 2 ∧ v = some (.long 0) ∧ s' = muI s 0 2) ∨ ((∀ k, k < np → x ≠ nI k) ∧ v = some (.long 0) ∧ s' = muI s 0 1)) := by
  refine gMet.of (cc := cX6_finish) (maxL := 3) (ret := (some .long)) hl (by decide) rfl (Nat.le_of_ble_eq_true rfl) ?_
  intro C E h1 h2 h3 hr hnm hT hE
  subst h1; subst h2; subst h3
  have E : gOk C cX6_finish 3 wsX6_finish RX6 e0 rm_X6_finish := E
  show G C (mW (xy C) ma s) 0 0 0 [(0, .ref (ma 0)), (1, .int (x))] []
  refine g_aload_n E dX6_finish_0 rfl 0 rfl ?_
  refine g_iload_n E dX6_finish_1 rfl 1 rfl ?_
  refine k_invV (n := 1) (rest := []) E (m_X6_isPermit (xl C) E.tr (xD C) (xy C) e0 hp0) gX6_finish_X6_isPermit rfl rfl rfl (by decide +kernel) ⟨Nat.le_of_ble_eq_true rfl, Nat.le_of_ble_eq_true rfl⟩ rfl rfl (Nat.le_of_ble_eq_true rfl) dX6_finish_2 ⟨Nat.le_of_ble_eq_true rfl, Nat.le_of_ble_eq_true rfl⟩ (fun v9 s9_2 h9 => ?_)
  obtain ⟨hv9, hS9⟩ := h9
  rw [hv9, hS9]
  show G C (mW (xy C) ma s) 0 0 5 [(0, .ref (ma 0)), (1, .int (x))] [.int ((isIx (x) np))]
  refine g_istore_n (L' := [(2, .int ((isIx (x) np))), (0, .ref (ma 0)), (1, .int (x))]) E dX6_finish_5 rfl (by decide) rfl ?_
  refine g_aload_n E dX6_finish_6 rfl 1 rfl ?_
  refine g_iload_n E dX6_finish_7 rfl 0 rfl ?_
  refine g_if_ne (tgt := 15) E dX6_finish_8 (by decide) (fun c_8 => ?_) (fun c_8 => ?_)
  · obtain ⟨k, hk, hx⟩ := isIx_t (by omega) c_8
    subst hx
    show G C (mW (xy C) ma s) 0 0 15 [(2, .int ((isIx (nI k) np))), (0, .ref (ma 0)), (1, .int (nI k))] [.ref (ma 0)]
    refine g_aload_n E dX6_finish_15 rfl 1 rfl ?_
    refine k_get_state (s := s) E (fun _ h => (List.mem_cons_of_mem _ (List.mem_append_right _ h))) (List.mem_cons_of_mem _ (List.mem_append_left _ (List.mem_of_getElem? (i := 0) rfl))) dX6_finish_16 ?_
    refine g_iload_n E dX6_finish_19 rfl 2 rfl ?_
    refine k_ald_state (s := s) E k rfl (by omega) dX6_finish_20 ?_
    refine g_iconst (v := 2) E dX6_finish_21 (by decide) ?_
    refine g_icmp_eq (tgt := 29) E dX6_finish_22 (by decide) (fun c_22 => ?_) (fun c_22 => ?_)
    · refine g_iconst (v := 0) E dX6_finish_29 (by decide) ?_
      refine k_invV (n := 1) (rest := []) E (m_X6_isFine (xl C) E.tr (xD C) (xy C) e0 (s := s) (x := 0)) gX6_finish_X6_isFine rfl rfl rfl (by decide +kernel) ⟨Nat.le_of_ble_eq_true rfl, Nat.le_of_ble_eq_true rfl⟩ rfl rfl (Nat.le_of_ble_eq_true rfl) dX6_finish_30 ⟨Nat.le_of_ble_eq_true rfl, Nat.le_of_ble_eq_true rfl⟩ (fun v9 s9_30 h9 => ?_)
      obtain ⟨hv9, hS9⟩ := h9
      rw [hv9, hS9]
      rw [show bI ((0 : Int32) = 0) = 1 by decide]
      show G C (mW (xy C) ma (muI s 0 (0))) 0 0 33 [(2, .int ((isIx (nI k) np))), (0, .ref (ma 0)), (1, .int (nI k))] [.int (1)]
      refine g_if_ne (tgt := 38) E dX6_finish_33 (by decide) (fun c_33 => ?_) (fun c_33 => ?_)
      · refine g_aload_n E dX6_finish_38 rfl 1 rfl ?_
        refine k_get_state (s := (muI s 0 (0))) E (fun _ h => (List.mem_cons_of_mem _ (List.mem_append_right _ h))) (List.mem_cons_of_mem _ (List.mem_append_left _ (List.mem_of_getElem? (i := 0) rfl))) dX6_finish_39 ?_
        refine g_iload_n E dX6_finish_42 rfl 2 rfl ?_
        refine g_iconst (v := 3) E dX6_finish_43 (by decide) ?_
        refine k_ast_state (s := (muI s 0 (0))) E k rfl (by omega) dX6_finish_44 ?_
        refine g_ldc2 E (List.mem_cons_of_mem _ (List.mem_append_left _ (List.mem_of_getElem? (i := 1) rfl))) dX6_finish_45 ?_
        refine g_aload_n E dX6_finish_48 rfl 1 rfl ?_
        refine k_get_damage (s := (muR (muI s 0 (0)) 17 k (3))) E (fun _ h => (List.mem_cons_of_mem _ (List.mem_append_right _ h))) (List.mem_cons_of_mem _ (List.mem_append_left _ (List.mem_of_getElem? (i := 2) rfl))) dX6_finish_49 ?_
        refine g_iload_n E dX6_finish_52 rfl 2 rfl ?_
        refine k_ald_damage (s := (muR (muI s 0 (0)) 17 k (3))) E k rfl (by omega) dX6_finish_53 ?_
        refine g_lmul E dX6_finish_54 ?_
        exact g_lret E hE hr dX6_finish_55 (Nat.le_of_ble_eq_true rfl) (Nat.le_of_ble_eq_true rfl) ⟨(muR (muI s 0 (0)) 17 k (3)), rfl, Or.inl ⟨k, hk, rfl, c_22, rfl, rfl⟩⟩
      · exact absurd c_33 (by decide)
    · refine g_iconst (v := 2) E dX6_finish_25 (by decide) ?_
      refine g_goto (tgt := 30) E dX6_finish_26 (by decide) ?_
      refine k_invV (n := 1) (rest := []) E (m_X6_isFine (xl C) E.tr (xD C) (xy C) e0 (s := s) (x := 2)) gX6_finish_X6_isFine rfl rfl rfl (by decide +kernel) ⟨Nat.le_of_ble_eq_true rfl, Nat.le_of_ble_eq_true rfl⟩ rfl rfl (Nat.le_of_ble_eq_true rfl) dX6_finish_30 ⟨Nat.le_of_ble_eq_true rfl, Nat.le_of_ble_eq_true rfl⟩ (fun v9 s9_30 h9 => ?_)
      obtain ⟨hv9, hS9⟩ := h9
      rw [hv9, hS9]
      rw [show bI ((2 : Int32) = 0) = 0 by decide]
      show G C (mW (xy C) ma (muI s 0 (2))) 0 0 33 [(2, .int ((isIx (nI k) np))), (0, .ref (ma 0)), (1, .int (nI k))] [.int (0)]
      refine g_if_ne (tgt := 38) E dX6_finish_33 (by decide) (fun c_33 => ?_) (fun c_33 => ?_)
      · exact absurd c_33 (by decide)
      · refine g_lconst (v := 0) E dX6_finish_36 (by decide) ?_
        exact g_lret E hE hr dX6_finish_37 (Nat.le_of_ble_eq_true rfl) (Nat.le_of_ble_eq_true rfl) ⟨(muI s 0 (2)), rfl, Or.inr (Or.inl ⟨k, hk, rfl, c_22, rfl, rfl⟩)⟩
  · have hbad := isIx_f (by omega) c_8
    refine g_iconst (v := 1) E dX6_finish_11 (by decide) ?_
    refine g_goto (tgt := 30) E dX6_finish_12 (by decide) ?_
    refine k_invV (n := 1) (rest := []) E (m_X6_isFine (xl C) E.tr (xD C) (xy C) e0 (s := s) (x := 1)) gX6_finish_X6_isFine rfl rfl rfl (by decide +kernel) ⟨Nat.le_of_ble_eq_true rfl, Nat.le_of_ble_eq_true rfl⟩ rfl rfl (Nat.le_of_ble_eq_true rfl) dX6_finish_30 ⟨Nat.le_of_ble_eq_true rfl, Nat.le_of_ble_eq_true rfl⟩ (fun v9 s9_30 h9 => ?_)
    obtain ⟨hv9, hS9⟩ := h9
    rw [hv9, hS9]
    rw [show bI ((1 : Int32) = 0) = 0 by decide]
    show G C (mW (xy C) ma (muI s 0 (1))) 0 0 33 [(2, .int ((isIx (x) np))), (0, .ref (ma 0)), (1, .int (x))] [.int (0)]
    refine g_if_ne (tgt := 38) E dX6_finish_33 (by decide) (fun c_33 => ?_) (fun c_33 => ?_)
    · exact absurd c_33 (by decide)
    · refine g_lconst (v := 0) E dX6_finish_36 (by decide) ?_
      exact g_lret E hE hr dX6_finish_37 (Nat.le_of_ble_eq_true rfl) (Nat.le_of_ble_eq_true rfl) ⟨(muI s 0 (1)), rfl, Or.inr (Or.inr ⟨hbad, rfl, rfl⟩)⟩
abbrev rm_X6_begin : Room := { frames := 2, cells := 0, slots := 0, locals := 43 }
set_option maxHeartbeats 4000000 in
set_option maxRecDepth 100000 in
theorem m_X6_begin (l : Launch) (hl : l.stackTraces = false) (D : va_G) (cy : Nat → ClassId) (e0 : Nat) {ma : Nat → Nat} {s : mS} {np : Nat} (hp0 : mi s 21 = nI np) (hp1 : np ≤ 40) (hop : HOP s np) (hnd : ∀ p, p < np → mr s 15 p = -1 ∨ (mr s 15 p = nI (tn (mr s 15 p)) ∧ tn (mr s 15 p) < 40)) {x : Int32} : mMet l yX6_begin wsX6_begin rm_X6_begin D cy e0 [.ref (ma 0), .int (x)] ma s (fun v s' => (∃ k, k < np ∧ x = nI k ∧ (mr s 17 k = 0 ∧ (mr s 15 k = -1 ∨ mr s 17 (tn (mr s 15 k)) = 3)) ∧ v = some (.int (mr s 22 (tn (mr s 19 k)) - mi s 1)) ∧ s' = muR (muI s 0 0) 17 k 2) ∨ (∃ k, k < np ∧ x = nI k ∧ ¬ (mr s 17 k = 0 ∧ (mr s 15 k = -1 ∨ mr s 17 (tn (mr s 15 k)) = 3)) ∧ v = some (.int 0) ∧ s' = muI s 0 2) ∨ ((∀ k, k < np → x ≠ nI k) ∧ v = some (.int 0) ∧ s' = muI s 0 1)) := by
  refine gMet.of (cc := cX6_begin) (maxL := 4) (ret := (some .int)) hl (by decide) rfl (Nat.le_of_ble_eq_true rfl) ?_
  intro C E h1 h2 h3 hr hnm hT hE
  subst h1; subst h2; subst h3
  have E : gOk C cX6_begin 4 wsX6_begin RX6 e0 rm_X6_begin := E
  show G C (mW (xy C) ma s) 0 0 0 [(0, .ref (ma 0)), (1, .int (x))] []
  refine g_aload_n E dX6_begin_0 rfl 0 rfl ?_
  refine g_iload_n E dX6_begin_1 rfl 1 rfl ?_
  refine k_invV (n := 1) (rest := []) E (m_X6_isPermit (xl C) E.tr (xD C) (xy C) e0 hp0) gX6_begin_X6_isPermit rfl rfl rfl (by decide +kernel) ⟨Nat.le_of_ble_eq_true rfl, Nat.le_of_ble_eq_true rfl⟩ rfl rfl (Nat.le_of_ble_eq_true rfl) dX6_begin_2 ⟨Nat.le_of_ble_eq_true rfl, Nat.le_of_ble_eq_true rfl⟩ (fun v9 s9_2 h9 => ?_)
  obtain ⟨hv9, hS9⟩ := h9
  rw [hv9, hS9]
  show G C (mW (xy C) ma s) 0 0 5 [(0, .ref (ma 0)), (1, .int (x))] [.int ((isIx (x) np))]
  refine g_istore_n (L' := [(2, .int ((isIx (x) np))), (0, .ref (ma 0)), (1, .int (x))]) E dX6_begin_5 rfl (by decide) rfl ?_
  refine g_iload_n E dX6_begin_6 rfl 0 rfl ?_
  refine g_if_eq (tgt := 48) E dX6_begin_7 (by decide) (fun c_7 => ?_) (fun c_7 => ?_)
  · have hbad := isIx_f (by omega) c_7
    refine g_iconst (v := 0) E dX6_begin_48 (by decide) ?_
    refine g_istore_n (L' := [(3, .int (0)), (2, .int ((isIx (x) np))), (0, .ref (ma 0)), (1, .int (x))]) E dX6_begin_49 rfl (by decide) rfl ?_
    refine g_aload_n E dX6_begin_50 rfl 2 rfl ?_
    refine g_iload_n E dX6_begin_51 rfl 1 rfl ?_
    refine g_if_ne (tgt := 59) E dX6_begin_52 (by decide) (fun c_52 => ?_) (fun c_52 => ?_)
    · exact absurd c_7 c_52
    · refine g_iconst (v := 1) E dX6_begin_55 (by decide) ?_
      refine g_goto (tgt := 68) E dX6_begin_56 (by decide) ?_
      refine k_invV (n := 1) (rest := []) E (m_X6_isFine (xl C) E.tr (xD C) (xy C) e0 (s := s) (x := 1)) gX6_begin_X6_isFine rfl rfl rfl (by decide +kernel) ⟨Nat.le_of_ble_eq_true rfl, Nat.le_of_ble_eq_true rfl⟩ rfl rfl (Nat.le_of_ble_eq_true rfl) dX6_begin_68 ⟨Nat.le_of_ble_eq_true rfl, Nat.le_of_ble_eq_true rfl⟩ (fun v9 s9_68 h9 => ?_)
      obtain ⟨hv9, hS9⟩ := h9
      rw [hv9, hS9]
      rw [show bI ((1 : Int32) = 0) = 0 by decide]
      show G C (mW (xy C) ma (muI s 0 (1))) 0 0 71 [(3, .int (0)), (2, .int ((isIx (x) np))), (0, .ref (ma 0)), (1, .int (x))] [.int (0)]
      refine g_if_ne (tgt := 76) E dX6_begin_71 (by decide) (fun c_71 => ?_) (fun c_71 => ?_)
      · exact absurd c_71 (by decide)
      · refine g_iconst (v := 0) E dX6_begin_74 (by decide) ?_
        exact g_iret E hE hr dX6_begin_75 (Nat.le_of_ble_eq_true rfl) (Nat.le_of_ble_eq_true rfl) ⟨(muI s 0 (1)), rfl, Or.inr (Or.inr ⟨hbad, rfl, rfl⟩)⟩
  · obtain ⟨k, hk, hx⟩ := isIx_t (by omega) c_7
    subst hx
    show G C (mW (xy C) ma s) 0 0 10 [(2, .int ((isIx (nI k) np))), (0, .ref (ma 0)), (1, .int (nI k))] []
    refine g_aload_n E dX6_begin_10 rfl 1 rfl ?_
    refine k_get_state (s := s) E (fun _ h => (List.mem_cons_of_mem _ (List.mem_append_right _ h))) (List.mem_cons_of_mem _ (List.mem_append_left _ (List.mem_of_getElem? (i := 0) rfl))) dX6_begin_11 ?_
    refine g_iload_n E dX6_begin_14 rfl 2 rfl ?_
    refine k_ald_state (s := s) E k rfl (by omega) dX6_begin_15 ?_
    refine g_if_ne (tgt := 48) E dX6_begin_16 (by decide) (fun c_16 => ?_) (fun c_16 => ?_)
    · refine g_iconst (v := 0) E dX6_begin_48 (by decide) ?_
      refine g_istore_n (L' := [(3, .int (0)), (2, .int ((isIx (nI k) np))), (0, .ref (ma 0)), (1, .int (nI k))]) E dX6_begin_49 rfl (by decide) rfl ?_
      refine g_aload_n E dX6_begin_50 rfl 2 rfl ?_
      refine g_iload_n E dX6_begin_51 rfl 1 rfl ?_
      refine g_if_ne (tgt := 59) E dX6_begin_52 (by decide) (fun c_52 => ?_) (fun c_52 => ?_)
      · refine g_iload_n E dX6_begin_59 rfl 0 rfl ?_
        refine g_if_ne (tgt := 67) E dX6_begin_60 (by decide) (fun c_60 => ?_) (fun c_60 => ?_)
        · exact absurd c_60 (by decide)
        · refine g_iconst (v := 2) E dX6_begin_63 (by decide) ?_
          refine g_goto (tgt := 68) E dX6_begin_64 (by decide) ?_
          refine k_invV (n := 1) (rest := []) E (m_X6_isFine (xl C) E.tr (xD C) (xy C) e0 (s := s) (x := 2)) gX6_begin_X6_isFine rfl rfl rfl (by decide +kernel) ⟨Nat.le_of_ble_eq_true rfl, Nat.le_of_ble_eq_true rfl⟩ rfl rfl (Nat.le_of_ble_eq_true rfl) dX6_begin_68 ⟨Nat.le_of_ble_eq_true rfl, Nat.le_of_ble_eq_true rfl⟩ (fun v9 s9_68 h9 => ?_)
          obtain ⟨hv9, hS9⟩ := h9
          rw [hv9, hS9]
          rw [show bI ((2 : Int32) = 0) = 0 by decide]
          show G C (mW (xy C) ma (muI s 0 (2))) 0 0 71 [(3, .int (0)), (2, .int ((isIx (nI k) np))), (0, .ref (ma 0)), (1, .int (nI k))] [.int (0)]
          refine g_if_ne (tgt := 76) E dX6_begin_71 (by decide) (fun c_71 => ?_) (fun c_71 => ?_)
          · exact absurd c_71 (by decide)
          · refine g_iconst (v := 0) E dX6_begin_74 (by decide) ?_
            exact g_iret E hE hr dX6_begin_75 (Nat.le_of_ble_eq_true rfl) (Nat.le_of_ble_eq_true rfl) ⟨(muI s 0 (2)), rfl, Or.inr (Or.inl ⟨k, hk, rfl, fun q => c_16 q.1, rfl, rfl⟩)⟩
      · exact absurd c_52 c_7
    · have h_o := hop k hk (by rw [show mr s 17 k = 0 from c_16]; decide)
      refine g_aload_n E dX6_begin_19 rfl 1 rfl ?_
      refine k_get_needs (s := s) E (fun _ h => (List.mem_cons_of_mem _ (List.mem_append_right _ h))) (List.mem_cons_of_mem _ (List.mem_append_left _ (List.mem_of_getElem? (i := 1) rfl))) dX6_begin_20 ?_
      refine g_iload_n E dX6_begin_23 rfl 2 rfl ?_
      refine k_ald_needs (s := s) E k rfl (by omega) dX6_begin_24 ?_
      refine g_iconst (v := (-1)) E dX6_begin_25 (by decide) ?_
      refine g_icmp_eq (tgt := 44) E dX6_begin_26 (by decide) (fun c_26 => ?_) (fun c_26 => ?_)
      · refine g_iconst (v := 1) E dX6_begin_44 (by decide) ?_
        refine g_goto (tgt := 49) E dX6_begin_45 (by decide) ?_
        refine g_istore_n (L' := [(3, .int (1)), (2, .int ((isIx (nI k) np))), (0, .ref (ma 0)), (1, .int (nI k))]) E dX6_begin_49 rfl (by decide) rfl ?_
        refine g_aload_n E dX6_begin_50 rfl 2 rfl ?_
        refine g_iload_n E dX6_begin_51 rfl 1 rfl ?_
        refine g_if_ne (tgt := 59) E dX6_begin_52 (by decide) (fun c_52 => ?_) (fun c_52 => ?_)
        · refine g_iload_n E dX6_begin_59 rfl 0 rfl ?_
          refine g_if_ne (tgt := 67) E dX6_begin_60 (by decide) (fun c_60 => ?_) (fun c_60 => ?_)
          · refine g_iconst (v := 0) E dX6_begin_67 (by decide) ?_
            refine k_invV (n := 1) (rest := []) E (m_X6_isFine (xl C) E.tr (xD C) (xy C) e0 (s := s) (x := 0)) gX6_begin_X6_isFine rfl rfl rfl (by decide +kernel) ⟨Nat.le_of_ble_eq_true rfl, Nat.le_of_ble_eq_true rfl⟩ rfl rfl (Nat.le_of_ble_eq_true rfl) dX6_begin_68 ⟨Nat.le_of_ble_eq_true rfl, Nat.le_of_ble_eq_true rfl⟩ (fun v9 s9_68 h9 => ?_)
            obtain ⟨hv9, hS9⟩ := h9
            rw [hv9, hS9]
            rw [show bI ((0 : Int32) = 0) = 1 by decide]
            show G C (mW (xy C) ma (muI s 0 (0))) 0 0 71 [(3, .int (1)), (2, .int ((isIx (nI k) np))), (0, .ref (ma 0)), (1, .int (nI k))] [.int (1)]
            refine g_if_ne (tgt := 76) E dX6_begin_71 (by decide) (fun c_71 => ?_) (fun c_71 => ?_)
            · refine g_aload_n E dX6_begin_76 rfl 2 rfl ?_
              refine k_get_state (s := (muI s 0 (0))) E (fun _ h => (List.mem_cons_of_mem _ (List.mem_append_right _ h))) (List.mem_cons_of_mem _ (List.mem_append_left _ (List.mem_of_getElem? (i := 0) rfl))) dX6_begin_77 ?_
              refine g_iload_n E dX6_begin_80 rfl 3 rfl ?_
              refine g_iconst (v := 2) E dX6_begin_81 (by decide) ?_
              refine k_ast_state (s := (muI s 0 (0))) E k rfl (by omega) dX6_begin_82 ?_
              refine g_aload_n E dX6_begin_83 rfl 2 rfl ?_
              refine k_get_first (s := (muR (muI s 0 (0)) 17 k (2))) E (fun _ h => (List.mem_cons_of_mem _ (List.mem_append_right _ h))) (List.mem_cons_of_mem _ (List.mem_append_left _ (List.mem_of_getElem? (i := 2) rfl))) dX6_begin_84 ?_
              refine g_aload_n E dX6_begin_87 rfl 2 rfl ?_
              refine k_get_opening (s := (muR (muI s 0 (0)) 17 k (2))) E (fun _ h => (List.mem_cons_of_mem _ (List.mem_append_right _ h))) (List.mem_cons_of_mem _ (List.mem_append_left _ (List.mem_of_getElem? (i := 3) rfl))) dX6_begin_88 ?_
              refine g_iload_n E dX6_begin_91 rfl 3 rfl ?_
              refine k_ald_opening (s := (muR (muI s 0 (0)) 17 k (2))) E k rfl (by omega) dX6_begin_92 ?_
              refine k_ald_first (s := (muR (muI s 0 (0)) 17 k (2))) E ((tn (mr s 19 k))) h_o.1 h_o.2 dX6_begin_93 ?_
              refine g_aload_n E dX6_begin_94 rfl 2 rfl ?_
              refine k_get_now (s := (muR (muI s 0 (0)) 17 k (2))) E (fun _ h => (List.mem_cons_of_mem _ (List.mem_append_right _ h))) (List.mem_cons_of_mem _ (List.mem_append_left _ (List.mem_of_getElem? (i := 4) rfl))) dX6_begin_95 ?_
              refine g_isub E dX6_begin_98 ?_
              exact g_iret E hE hr dX6_begin_99 (Nat.le_of_ble_eq_true rfl) (Nat.le_of_ble_eq_true rfl) ⟨(muR (muI s 0 (0)) 17 k (2)), rfl, Or.inl ⟨k, hk, rfl, ⟨c_16, Or.inl c_26⟩, rfl, rfl⟩⟩
            · exact absurd c_71 (by decide)
          · exact absurd c_60 (by decide)
        · exact absurd c_52 c_7
      · have h_n := (hnd k hk).elim (fun q => absurd q c_26) id
        refine g_aload_n E dX6_begin_29 rfl 1 rfl ?_
        refine k_get_state (s := s) E (fun _ h => (List.mem_cons_of_mem _ (List.mem_append_right _ h))) (List.mem_cons_of_mem _ (List.mem_append_left _ (List.mem_of_getElem? (i := 0) rfl))) dX6_begin_30 ?_
        refine g_aload_n E dX6_begin_33 rfl 1 rfl ?_
        refine k_get_needs (s := s) E (fun _ h => (List.mem_cons_of_mem _ (List.mem_append_right _ h))) (List.mem_cons_of_mem _ (List.mem_append_left _ (List.mem_of_getElem? (i := 1) rfl))) dX6_begin_34 ?_
        refine g_iload_n E dX6_begin_37 rfl 2 rfl ?_
        refine k_ald_needs (s := s) E k rfl (by omega) dX6_begin_38 ?_
        refine k_ald_state (s := s) E ((tn (mr s 15 k))) h_n.1 h_n.2 dX6_begin_39 ?_
        refine g_iconst (v := 3) E dX6_begin_40 (by decide) ?_
        refine g_icmp_ne (tgt := 48) E dX6_begin_41 (by decide) (fun c_41 => ?_) (fun c_41 => ?_)
        · refine g_iconst (v := 0) E dX6_begin_48 (by decide) ?_
          refine g_istore_n (L' := [(3, .int (0)), (2, .int ((isIx (nI k) np))), (0, .ref (ma 0)), (1, .int (nI k))]) E dX6_begin_49 rfl (by decide) rfl ?_
          refine g_aload_n E dX6_begin_50 rfl 2 rfl ?_
          refine g_iload_n E dX6_begin_51 rfl 1 rfl ?_
          refine g_if_ne (tgt := 59) E dX6_begin_52 (by decide) (fun c_52 => ?_) (fun c_52 => ?_)
          · refine g_iload_n E dX6_begin_59 rfl 0 rfl ?_
            refine g_if_ne (tgt := 67) E dX6_begin_60 (by decide) (fun c_60 => ?_) (fun c_60 => ?_)
            · exact absurd c_60 (by decide)
            · refine g_iconst (v := 2) E dX6_begin_63 (by decide) ?_
              refine g_goto (tgt := 68) E dX6_begin_64 (by decide) ?_
              refine k_invV (n := 1) (rest := []) E (m_X6_isFine (xl C) E.tr (xD C) (xy C) e0 (s := s) (x := 2)) gX6_begin_X6_isFine rfl rfl rfl (by decide +kernel) ⟨Nat.le_of_ble_eq_true rfl, Nat.le_of_ble_eq_true rfl⟩ rfl rfl (Nat.le_of_ble_eq_true rfl) dX6_begin_68 ⟨Nat.le_of_ble_eq_true rfl, Nat.le_of_ble_eq_true rfl⟩ (fun v9 s9_68 h9 => ?_)
              obtain ⟨hv9, hS9⟩ := h9
              rw [hv9, hS9]
              rw [show bI ((2 : Int32) = 0) = 0 by decide]
              show G C (mW (xy C) ma (muI s 0 (2))) 0 0 71 [(3, .int (0)), (2, .int ((isIx (nI k) np))), (0, .ref (ma 0)), (1, .int (nI k))] [.int (0)]
              refine g_if_ne (tgt := 76) E dX6_begin_71 (by decide) (fun c_71 => ?_) (fun c_71 => ?_)
              · exact absurd c_71 (by decide)
              · refine g_iconst (v := 0) E dX6_begin_74 (by decide) ?_
                exact g_iret E hE hr dX6_begin_75 (Nat.le_of_ble_eq_true rfl) (Nat.le_of_ble_eq_true rfl) ⟨(muI s 0 (2)), rfl, Or.inr (Or.inl ⟨k, hk, rfl, fun q => q.2.elim c_26 c_41, rfl, rfl⟩)⟩
          · exact absurd c_52 c_7
        · refine g_iconst (v := 1) E dX6_begin_44 (by decide) ?_
          refine g_goto (tgt := 49) E dX6_begin_45 (by decide) ?_
          refine g_istore_n (L' := [(3, .int (1)), (2, .int ((isIx (nI k) np))), (0, .ref (ma 0)), (1, .int (nI k))]) E dX6_begin_49 rfl (by decide) rfl ?_
          refine g_aload_n E dX6_begin_50 rfl 2 rfl ?_
          refine g_iload_n E dX6_begin_51 rfl 1 rfl ?_
          refine g_if_ne (tgt := 59) E dX6_begin_52 (by decide) (fun c_52 => ?_) (fun c_52 => ?_)
          · refine g_iload_n E dX6_begin_59 rfl 0 rfl ?_
            refine g_if_ne (tgt := 67) E dX6_begin_60 (by decide) (fun c_60 => ?_) (fun c_60 => ?_)
            · refine g_iconst (v := 0) E dX6_begin_67 (by decide) ?_
              refine k_invV (n := 1) (rest := []) E (m_X6_isFine (xl C) E.tr (xD C) (xy C) e0 (s := s) (x := 0)) gX6_begin_X6_isFine rfl rfl rfl (by decide +kernel) ⟨Nat.le_of_ble_eq_true rfl, Nat.le_of_ble_eq_true rfl⟩ rfl rfl (Nat.le_of_ble_eq_true rfl) dX6_begin_68 ⟨Nat.le_of_ble_eq_true rfl, Nat.le_of_ble_eq_true rfl⟩ (fun v9 s9_68 h9 => ?_)
              obtain ⟨hv9, hS9⟩ := h9
              rw [hv9, hS9]
              rw [show bI ((0 : Int32) = 0) = 1 by decide]
              show G C (mW (xy C) ma (muI s 0 (0))) 0 0 71 [(3, .int (1)), (2, .int ((isIx (nI k) np))), (0, .ref (ma 0)), (1, .int (nI k))] [.int (1)]
              refine g_if_ne (tgt := 76) E dX6_begin_71 (by decide) (fun c_71 => ?_) (fun c_71 => ?_)
              · refine g_aload_n E dX6_begin_76 rfl 2 rfl ?_
                refine k_get_state (s := (muI s 0 (0))) E (fun _ h => (List.mem_cons_of_mem _ (List.mem_append_right _ h))) (List.mem_cons_of_mem _ (List.mem_append_left _ (List.mem_of_getElem? (i := 0) rfl))) dX6_begin_77 ?_
                refine g_iload_n E dX6_begin_80 rfl 3 rfl ?_
                refine g_iconst (v := 2) E dX6_begin_81 (by decide) ?_
                refine k_ast_state (s := (muI s 0 (0))) E k rfl (by omega) dX6_begin_82 ?_
                refine g_aload_n E dX6_begin_83 rfl 2 rfl ?_
                refine k_get_first (s := (muR (muI s 0 (0)) 17 k (2))) E (fun _ h => (List.mem_cons_of_mem _ (List.mem_append_right _ h))) (List.mem_cons_of_mem _ (List.mem_append_left _ (List.mem_of_getElem? (i := 2) rfl))) dX6_begin_84 ?_
                refine g_aload_n E dX6_begin_87 rfl 2 rfl ?_
                refine k_get_opening (s := (muR (muI s 0 (0)) 17 k (2))) E (fun _ h => (List.mem_cons_of_mem _ (List.mem_append_right _ h))) (List.mem_cons_of_mem _ (List.mem_append_left _ (List.mem_of_getElem? (i := 3) rfl))) dX6_begin_88 ?_
                refine g_iload_n E dX6_begin_91 rfl 3 rfl ?_
                refine k_ald_opening (s := (muR (muI s 0 (0)) 17 k (2))) E k rfl (by omega) dX6_begin_92 ?_
                refine k_ald_first (s := (muR (muI s 0 (0)) 17 k (2))) E ((tn (mr s 19 k))) h_o.1 h_o.2 dX6_begin_93 ?_
                refine g_aload_n E dX6_begin_94 rfl 2 rfl ?_
                refine k_get_now (s := (muR (muI s 0 (0)) 17 k (2))) E (fun _ h => (List.mem_cons_of_mem _ (List.mem_append_right _ h))) (List.mem_cons_of_mem _ (List.mem_append_left _ (List.mem_of_getElem? (i := 4) rfl))) dX6_begin_95 ?_
                refine g_isub E dX6_begin_98 ?_
                exact g_iret E hE hr dX6_begin_99 (Nat.le_of_ble_eq_true rfl) (Nat.le_of_ble_eq_true rfl) ⟨(muR (muI s 0 (0)) 17 k (2)), rfl, Or.inl ⟨k, hk, rfl, ⟨c_16, Or.inr c_41⟩, rfl, rfl⟩⟩
              · exact absurd c_71 (by decide)
            · exact absurd c_60 (by decide)
          · exact absurd c_52 c_7
