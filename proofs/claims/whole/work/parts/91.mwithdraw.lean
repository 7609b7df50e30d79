theorem muR_id (s : mS) (f b : Nat) : muR s f b (mr s f b) = s := by
  have e : va_up s.2.1 f (upd (s.2.1 f) b (s.2.1 f b)) = s.2.1 := by
    funext k
    by_cases q : k = f
    · subst q
      rw [va_up_self]
      funext j
      unfold upd
      by_cases z : j = b
      · rw [if_pos z, z]
      · rw [if_neg z]
    · exact va_up_ne _ _ q
  show (s.1, va_up s.2.1 f (upd (s.2.1 f) b (s.2.1 f b)), s.2.2) = s
  rw [e]
def mwH (s : mS) (p : Nat) : Prop := mr s 17 p = 0 ∧ ¬ mr s 15 p = -1 ∧ mr s 17 (tn (mr s 15 p)) = 4
noncomputable def mwn (s0 : mS) (a : Nat) : Nat → mS × Int32
  | 0 => (s0, 1)
  | n + 1 => cIf (mwH (mwn s0 a n).1 (a + n)) (muR (mwn s0 a n).1 17 (a + n) 4, (mwn s0 a n).2 + 1) (mwn s0 a n)
theorem mwn_t {s0 : mS} {a n : Nat} (h : mwH (mwn s0 a n).1 (a + n)) : mwn s0 a (n + 1) = (muR (mwn s0 a n).1 17 (a + n) 4, (mwn s0 a n).2 + 1) := cIf_t h
theorem mwn_f {s0 : mS} {a n : Nat} (h : ¬ mwH (mwn s0 a n).1 (a + n)) : mwn s0 a (n + 1) = mwn s0 a n := cIf_f h
theorem mwn_mi {s0 : mS} {a n f : Nat} : mi (mwn s0 a n).1 f = mi s0 f := by
  induction n with
  | zero => rfl
  | succ n ih =>
    by_cases h : mwH (mwn s0 a n).1 (a + n)
    · rw [mwn_t h]; exact ih
    · rw [mwn_f h]; exact ih
theorem mwn_15 {s0 : mS} {a n : Nat} : mr (mwn s0 a n).1 15 = mr s0 15 := by
  induction n with
  | zero => rfl
  | succ n ih =>
    by_cases h : mwH (mwn s0 a n).1 (a + n)
    · rw [mwn_t h]; exact ih
    · rw [mwn_f h]; exact ih
abbrev rm_X6_withdraw : Room := { frames := 2, cells := 0, slots := 0, locals := 43 }
set_option maxHeartbeats 4000000 in
set_option maxRecDepth 100000 in
theorem m_X6_withdraw (l : Launch) (hl : l.stackTraces = false) (D : va_G) (cy : Nat → ClassId) (e0 : Nat) {ma : Nat → Nat} {s : mS} {np : Nat} (hp0 : mi s 21 = nI np) (hp1 : np ≤ 40) (hnd : ∀ p, p < np → mr s 15 p = -1 ∨ (mr s 15 p = nI (tn (mr s 15 p)) ∧ tn (mr s 15 p) < 40)) {x : Int32} : mMet l yX6_withdraw wsX6_withdraw rm_X6_withdraw D cy e0 [.ref (ma 0), .int (x)] ma s (fun v s' => (∃ k, k < np ∧ x = nI k ∧ mr s 17 k = 0 ∧ v = some (.int (mwn (muR (muI s 0 0) 17 k 4) (k + 1) (np - (k + 1))).2) ∧ s' = (mwn (muR (muI s 0 0) 17 k 4) (k + 1) (np - (k + 1))).1) ∨ (∃ k, k < np ∧ x = nI k ∧ ¬ mr s 17 k = 0 ∧ v = some (.int 0) ∧ s' = muI s 0 2) ∨ ((∀ k, k < np → x ≠ nI k) ∧ v = some (.int 0) ∧ s' = muI s 0 1)) := by
  refine gMet.of (cc := cX6_withdraw) (maxL := 6) (ret := (some .int)) hl (by decide) rfl (Nat.le_of_ble_eq_true rfl) ?_
  intro C E h1 h2 h3 hr hnm hT hE
  subst h1; subst h2; subst h3
  have E : gOk C cX6_withdraw 6 wsX6_withdraw RX6 e0 rm_X6_withdraw := E
  show G C (mW (xy C) ma s) 0 0 0 [(0, .ref (ma 0)), (1, .int (x))] []
  refine g_aload_n E dX6_withdraw_0 rfl 0 rfl ?_
  refine g_iload_n E dX6_withdraw_1 rfl 1 rfl ?_
  refine k_invV (n := 1) (rest := []) E (m_X6_isPermit (xl C) E.tr (xD C) (xy C) e0 hp0) gX6_withdraw_X6_isPermit rfl rfl rfl (by decide +kernel) ⟨Nat.le_of_ble_eq_true rfl, Nat.le_of_ble_eq_true rfl⟩ rfl rfl (Nat.le_of_ble_eq_true rfl) dX6_withdraw_2 ⟨Nat.le_of_ble_eq_true rfl, Nat.le_of_ble_eq_true rfl⟩ (fun v9 s9_2 h9 => ?_)
  obtain ⟨hv9, hS9⟩ := h9
  rw [hv9, hS9]
  show G C (mW (xy C) ma s) 0 0 5 [(0, .ref (ma 0)), (1, .int (x))] [.int ((isIx (x) np))]
  refine g_istore_n (L' := [(2, .int ((isIx (x) np))), (0, .ref (ma 0)), (1, .int (x))]) E dX6_withdraw_5 rfl (by decide) rfl ?_
  refine g_aload_n E dX6_withdraw_6 rfl 1 rfl ?_
  refine g_iload_n E dX6_withdraw_7 rfl 0 rfl ?_
  refine g_if_ne (tgt := 15) E dX6_withdraw_8 (by decide) (fun c_8 => ?_) (fun c_8 => ?_)
  · obtain ⟨k, hk, hx⟩ := isIx_t (by omega) c_8
    subst hx
    show G C (mW (xy C) ma s) 0 0 15 [(2, .int ((isIx (nI k) np))), (0, .ref (ma 0)), (1, .int (nI k))] [.ref (ma 0)]
    refine g_aload_n E dX6_withdraw_15 rfl 1 rfl ?_
    refine k_get_state (s := s) E (fun _ h => (List.mem_cons_of_mem _ (List.mem_append_right _ h))) (List.mem_cons_of_mem _ (List.mem_append_left _ (List.mem_of_getElem? (i := 0) rfl))) dX6_withdraw_16 ?_
    refine g_iload_n E dX6_withdraw_19 rfl 2 rfl ?_
    refine k_ald_state (s := s) E k rfl (by omega) dX6_withdraw_20 ?_
    refine g_if_eq (tgt := 28) E dX6_withdraw_21 (by decide) (fun c_21 => ?_) (fun c_21 => ?_)
    · refine g_iconst (v := 0) E dX6_withdraw_28 (by decide) ?_
      refine k_invV (n := 1) (rest := []) E (m_X6_isFine (xl C) E.tr (xD C) (xy C) e0 (s := s) (x := 0)) gX6_withdraw_X6_isFine rfl rfl rfl (by decide +kernel) ⟨Nat.le_of_ble_eq_true rfl, Nat.le_of_ble_eq_true rfl⟩ rfl rfl (Nat.le_of_ble_eq_true rfl) dX6_withdraw_29 ⟨Nat.le_of_ble_eq_true rfl, Nat.le_of_ble_eq_true rfl⟩ (fun v9 s9_29 h9 => ?_)
      obtain ⟨hv9, hS9⟩ := h9
      rw [hv9, hS9]
      rw [show bI ((0 : Int32) = 0) = 1 by decide]
      show G C (mW (xy C) ma (muI s 0 (0))) 0 0 32 [(2, .int ((isIx (nI k) np))), (0, .ref (ma 0)), (1, .int (nI k))] [.int (1)]
      refine g_if_ne (tgt := 37) E dX6_withdraw_32 (by decide) (fun c_32 => ?_) (fun c_32 => ?_)
      · refine g_aload_n E dX6_withdraw_37 rfl 1 rfl ?_
        refine k_get_state (s := (muI s 0 (0))) E (fun _ h => (List.mem_cons_of_mem _ (List.mem_append_right _ h))) (List.mem_cons_of_mem _ (List.mem_append_left _ (List.mem_of_getElem? (i := 0) rfl))) dX6_withdraw_38 ?_
        refine g_iload_n E dX6_withdraw_41 rfl 2 rfl ?_
        refine g_iconst (v := 4) E dX6_withdraw_42 (by decide) ?_
        refine k_ast_state (s := (muI s 0 (0))) E k rfl (by omega) dX6_withdraw_43 ?_
        refine g_iconst (v := 1) E dX6_withdraw_44 (by decide) ?_
        refine g_istore_n (L' := [(3, .int (1)), (2, .int ((isIx (nI k) np))), (0, .ref (ma 0)), (1, .int (nI k))]) E dX6_withdraw_45 rfl (by decide) rfl ?_
        refine g_iload_n E dX6_withdraw_46 rfl 3 rfl ?_
        refine g_iconst (v := 1) E dX6_withdraw_47 (by decide) ?_
        refine g_iadd E dX6_withdraw_48 ?_
        rw [nI_1]
        show G C (mW (xy C) ma (muR (muI s 0 (0)) 17 k (4))) 0 0 49 [(3, .int (1)), (2, .int ((isIx (nI k) np))), (0, .ref (ma 0)), (1, .int (nI k))] [.int (nI (k + 1 + 0))]
        refine g_istore (L' := [(4, .int (nI (k + 1 + 0))), (3, .int (1)), (2, .int ((isIx (nI k) np))), (0, .ref (ma 0)), (1, .int (nI k))]) E dX6_withdraw_49 (by decide) rfl ?_
        refine g_locals [(0, .ref (ma 0)), (1, .int (nI k)), (3, .int (1)), (4, .int (nI (k + 1 + 0)))] [3, 4, 1, 0] rfl ?_
        have loop_51 : ∀ (m n : Nat), n ≤ np - (k + 1) → np - (k + 1) < m + n → G C (mW (xy C) ma (mwn (muR (muI s 0 0) 17 k 4) (k + 1) n).1) 0 0 51 [(0, .ref (ma 0)), (1, .int (nI k)), (3, .int ((mwn (muR (muI s 0 0) 17 k 4) (k + 1) n).2)), (4, .int (nI (k + 1 + n)))] [] := by
          intro m
          induction m with
          | zero => intro n h1 h2; exact absurd h2 (by omega)
          | succ m ih_51 =>
            intro n h1_51 h2_51
            refine g_iload E dX6_withdraw_51 3 rfl ?_
            refine g_aload_n E dX6_withdraw_53 rfl 0 rfl ?_
            refine k_get_permits (s := (mwn (muR (muI s 0 0) 17 k 4) (k + 1) n).1) E (fun _ h => (List.mem_cons_of_mem _ (List.mem_append_right _ h))) (List.mem_cons_of_mem _ (List.mem_append_left _ (List.mem_of_getElem? (i := 1) rfl))) dX6_withdraw_54 ?_
            rw [show mi (mwn (muR (muI s 0 0) 17 k 4) (k + 1) n).1 21 = nI np from (mwn_mi.trans hp0)]
            show G C (mW (xy C) ma (mwn (muR (muI s 0 0) 17 k 4) (k + 1) n).1) 0 0 57 [(0, .ref (ma 0)), (1, .int (nI k)), (3, .int ((mwn (muR (muI s 0 0) 17 k 4) (k + 1) n).2)), (4, .int (nI (k + 1 + n)))] [.int (nI np), .int (nI (k + 1 + n))]
            refine g_icmp_ge (tgt := 146) E dX6_withdraw_57 (by decide) (fun c_57 => ?_) (fun c_57 => ?_)
            · have e_n : n = np - (k + 1) := by have := nI_ge_nat (by omega) (by omega) c_57; omega
              refine g_iload_n E dX6_withdraw_146 rfl 2 rfl ?_
              exact g_iret E hE hr dX6_withdraw_147 (Nat.le_of_ble_eq_true rfl) (Nat.le_of_ble_eq_true rfl) ⟨(mwn (muR (muI s 0 0) 17 k 4) (k + 1) n).1, rfl, Or.inl ⟨k, hk, rfl, c_21, by rw [← e_n], by rw [← e_n]⟩⟩
            · have hkn : k + 1 + n < np := nI_nge_nat (by omega) (by omega) c_57
              refine g_aload_n E dX6_withdraw_60 rfl 0 rfl ?_
              refine k_get_state (s := (mwn (muR (muI s 0 0) 17 k 4) (k + 1) n).1) E (fun _ h => (List.mem_cons_of_mem _ (List.mem_append_right _ h))) (List.mem_cons_of_mem _ (List.mem_append_left _ (List.mem_of_getElem? (i := 0) rfl))) dX6_withdraw_61 ?_
              refine g_iload E dX6_withdraw_64 3 rfl ?_
              refine k_ald_state (s := (mwn (muR (muI s 0 0) 17 k 4) (k + 1) n).1) E ((k + 1 + n)) rfl (by omega) dX6_withdraw_66 ?_
              refine g_if_ne (tgt := 101) E dX6_withdraw_67 (by decide) (fun c_67 => ?_) (fun c_67 => ?_)
              · refine g_iconst (v := 0) E dX6_withdraw_101 (by decide) ?_
                refine g_istore (L' := [(5, .int (0)), (0, .ref (ma 0)), (1, .int (nI k)), (3, .int ((mwn (muR (muI s 0 0) 17 k 4) (k + 1) n).2)), (4, .int (nI (k + 1 + n)))]) E dX6_withdraw_102 (by decide) rfl ?_
                refine g_aload_n E dX6_withdraw_104 rfl 1 rfl ?_
                refine k_get_state (s := (mwn (muR (muI s 0 0) 17 k 4) (k + 1) n).1) E (fun _ h => (List.mem_cons_of_mem _ (List.mem_append_right _ h))) (List.mem_cons_of_mem _ (List.mem_append_left _ (List.mem_of_getElem? (i := 0) rfl))) dX6_withdraw_105 ?_
                refine g_iload E dX6_withdraw_108 4 rfl ?_
                refine g_iload E dX6_withdraw_110 0 rfl ?_
                refine g_if_eq (tgt := 119) E dX6_withdraw_112 (by decide) (fun c_112 => ?_) (fun c_112 => ?_)
                · refine g_aload_n E dX6_withdraw_119 rfl 1 rfl ?_
                  refine k_get_state (s := (mwn (muR (muI s 0 0) 17 k 4) (k + 1) n).1) E (fun _ h => (List.mem_cons_of_mem _ (List.mem_append_right _ h))) (List.mem_cons_of_mem _ (List.mem_append_left _ (List.mem_of_getElem? (i := 0) rfl))) dX6_withdraw_120 ?_
                  refine g_iload E dX6_withdraw_123 4 rfl ?_
                  refine k_ald_state (s := (mwn (muR (muI s 0 0) 17 k 4) (k + 1) n).1) E ((k + 1 + n)) rfl (by omega) dX6_withdraw_125 ?_
                  refine k_ast_state (s := (mwn (muR (muI s 0 0) 17 k 4) (k + 1) n).1) E ((k + 1 + n)) rfl (by omega) dX6_withdraw_126 ?_
                  refine g_iload_n E dX6_withdraw_127 rfl 3 rfl ?_
                  refine g_iload E dX6_withdraw_128 0 rfl ?_
                  refine g_if_eq (tgt := 137) E dX6_withdraw_130 (by decide) (fun c_130 => ?_) (fun c_130 => ?_)
                  · refine g_iconst (v := 0) E dX6_withdraw_137 (by decide) ?_
                    refine g_iadd E dX6_withdraw_138 ?_
                    refine g_istore_n (L' := [(3, .int (((mwn (muR (muI s 0 0) 17 k 4) (k + 1) n).2 + 0))), (5, .int (0)), (0, .ref (ma 0)), (1, .int (nI k)), (4, .int (nI (k + 1 + n)))]) E dX6_withdraw_139 rfl (by decide) rfl ?_
                    refine g_iinc (v := nI ((k + 1 + n) + 1)) (L' := [(4, .int (nI ((k + 1 + n) + 1))), (3, .int (((mwn (muR (muI s 0 0) 17 k 4) (k + 1) n).2 + 0))), (5, .int (0)), (0, .ref (ma 0)), (1, .int (nI k))]) E dX6_withdraw_140 4 rfl (nI_1 (k + 1 + n)) (by decide) rfl ?_
                    refine g_goto (tgt := 51) E dX6_withdraw_143 (by decide) ?_
                    refine g_locals [(0, .ref (ma 0)), (1, .int (nI k)), (3, .int (((mwn (muR (muI s 0 0) 17 k 4) (k + 1) n).2 + 0))), (4, .int (nI ((k + 1 + n) + 1)))] [3, 4, 1, 0] rfl ?_
                    rw [show (muR (mwn (muR (muI s 0 0) 17 k 4) (k + 1) n).1 17 ((k + 1 + n)) (mr (mwn (muR (muI s 0 0) 17 k 4) (k + 1) n).1 17 ((k + 1 + n)))) = (mwn (muR (muI s 0 0) 17 k 4) (k + 1) (n + 1)).1 from (muR_id _ _ _).trans (congrArg Prod.fst (mwn_f (s0 := (muR (muI s 0 0) 17 k 4)) (a := k + 1) (n := n) (fun q => c_67 q.1))).symm]
                    refine g_L (L' := [(0, .ref (ma 0)), (1, .int (nI k)), (3, .int ((mwn (muR (muI s 0 0) 17 k 4) (k + 1) (n + 1)).2)), (4, .int (nI (k + 1 + (n + 1))))]) (by rw [mwn_f (s0 := (muR (muI s 0 0) 17 k 4)) (a := k + 1) (n := n) (fun q => c_67 q.1), Int32.add_zero]; rfl) (ih_51 (n + 1) (by omega) (by omega))
                  · exact absurd c_130 (by decide)
                · exact absurd c_112 (by decide)
              · refine g_aload_n E dX6_withdraw_70 rfl 0 rfl ?_
                refine k_get_needs (s := (mwn (muR (muI s 0 0) 17 k 4) (k + 1) n).1) E (fun _ h => (List.mem_cons_of_mem _ (List.mem_append_right _ h))) (List.mem_cons_of_mem _ (List.mem_append_left _ (List.mem_of_getElem? (i := 2) rfl))) dX6_withdraw_71 ?_
                refine g_iload E dX6_withdraw_74 3 rfl ?_
                refine k_ald_needs (s := (mwn (muR (muI s 0 0) 17 k 4) (k + 1) n).1) E ((k + 1 + n)) rfl (by omega) dX6_withdraw_76 ?_
                refine g_iconst (v := (-1)) E dX6_withdraw_77 (by decide) ?_
                refine g_icmp_eq (tgt := 101) E dX6_withdraw_78 (by decide) (fun c_78 => ?_) (fun c_78 => ?_)
                · refine g_iconst (v := 0) E dX6_withdraw_101 (by decide) ?_
                  refine g_istore (L' := [(5, .int (0)), (0, .ref (ma 0)), (1, .int (nI k)), (3, .int ((mwn (muR (muI s 0 0) 17 k 4) (k + 1) n).2)), (4, .int (nI (k + 1 + n)))]) E dX6_withdraw_102 (by decide) rfl ?_
                  refine g_aload_n E dX6_withdraw_104 rfl 1 rfl ?_
                  refine k_get_state (s := (mwn (muR (muI s 0 0) 17 k 4) (k + 1) n).1) E (fun _ h => (List.mem_cons_of_mem _ (List.mem_append_right _ h))) (List.mem_cons_of_mem _ (List.mem_append_left _ (List.mem_of_getElem? (i := 0) rfl))) dX6_withdraw_105 ?_
                  refine g_iload E dX6_withdraw_108 4 rfl ?_
                  refine g_iload E dX6_withdraw_110 0 rfl ?_
                  refine g_if_eq (tgt := 119) E dX6_withdraw_112 (by decide) (fun c_112 => ?_) (fun c_112 => ?_)
                  · refine g_aload_n E dX6_withdraw_119 rfl 1 rfl ?_
                    refine k_get_state (s := (mwn (muR (muI s 0 0) 17 k 4) (k + 1) n).1) E (fun _ h => (List.mem_cons_of_mem _ (List.mem_append_right _ h))) (List.mem_cons_of_mem _ (List.mem_append_left _ (List.mem_of_getElem? (i := 0) rfl))) dX6_withdraw_120 ?_
                    refine g_iload E dX6_withdraw_123 4 rfl ?_
                    refine k_ald_state (s := (mwn (muR (muI s 0 0) 17 k 4) (k + 1) n).1) E ((k + 1 + n)) rfl (by omega) dX6_withdraw_125 ?_
                    refine k_ast_state (s := (mwn (muR (muI s 0 0) 17 k 4) (k + 1) n).1) E ((k + 1 + n)) rfl (by omega) dX6_withdraw_126 ?_
                    refine g_iload_n E dX6_withdraw_127 rfl 3 rfl ?_
                    refine g_iload E dX6_withdraw_128 0 rfl ?_
                    refine g_if_eq (tgt := 137) E dX6_withdraw_130 (by decide) (fun c_130 => ?_) (fun c_130 => ?_)
                    · refine g_iconst (v := 0) E dX6_withdraw_137 (by decide) ?_
                      refine g_iadd E dX6_withdraw_138 ?_
                      refine g_istore_n (L' := [(3, .int (((mwn (muR (muI s 0 0) 17 k 4) (k + 1) n).2 + 0))), (5, .int (0)), (0, .ref (ma 0)), (1, .int (nI k)), (4, .int (nI (k + 1 + n)))]) E dX6_withdraw_139 rfl (by decide) rfl ?_
                      refine g_iinc (v := nI ((k + 1 + n) + 1)) (L' := [(4, .int (nI ((k + 1 + n) + 1))), (3, .int (((mwn (muR (muI s 0 0) 17 k 4) (k + 1) n).2 + 0))), (5, .int (0)), (0, .ref (ma 0)), (1, .int (nI k))]) E dX6_withdraw_140 4 rfl (nI_1 (k + 1 + n)) (by decide) rfl ?_
                      refine g_goto (tgt := 51) E dX6_withdraw_143 (by decide) ?_
                      refine g_locals [(0, .ref (ma 0)), (1, .int (nI k)), (3, .int (((mwn (muR (muI s 0 0) 17 k 4) (k + 1) n).2 + 0))), (4, .int (nI ((k + 1 + n) + 1)))] [3, 4, 1, 0] rfl ?_
                      rw [show (muR (mwn (muR (muI s 0 0) 17 k 4) (k + 1) n).1 17 ((k + 1 + n)) (mr (mwn (muR (muI s 0 0) 17 k 4) (k + 1) n).1 17 ((k + 1 + n)))) = (mwn (muR (muI s 0 0) 17 k 4) (k + 1) (n + 1)).1 from (muR_id _ _ _).trans (congrArg Prod.fst (mwn_f (s0 := (muR (muI s 0 0) 17 k 4)) (a := k + 1) (n := n) (fun q => q.2.1 c_78))).symm]
                      refine g_L (L' := [(0, .ref (ma 0)), (1, .int (nI k)), (3, .int ((mwn (muR (muI s 0 0) 17 k 4) (k + 1) (n + 1)).2)), (4, .int (nI (k + 1 + (n + 1))))]) (by rw [mwn_f (s0 := (muR (muI s 0 0) 17 k 4)) (a := k + 1) (n := n) (fun q => q.2.1 c_78), Int32.add_zero]; rfl) (ih_51 (n + 1) (by omega) (by omega))
                    · exact absurd c_130 (by decide)
                  · exact absurd c_112 (by decide)
                · have h_n : mr (mwn (muR (muI s 0 0) 17 k 4) (k + 1) n).1 15 (k + 1 + n) = nI (tn (mr (mwn (muR (muI s 0 0) 17 k 4) (k + 1) n).1 15 (k + 1 + n))) ∧ tn (mr (mwn (muR (muI s 0 0) 17 k 4) (k + 1) n).1 15 (k + 1 + n)) < 40 := by
                    rw [mwn_15] at c_78 ⊢
                    exact (hnd (k + 1 + n) hkn).elim (fun q => absurd q c_78) id
                  refine g_aload_n E dX6_withdraw_81 rfl 0 rfl ?_
                  refine k_get_state (s := (mwn (muR (muI s 0 0) 17 k 4) (k + 1) n).1) E (fun _ h => (List.mem_cons_of_mem _ (List.mem_append_right _ h))) (List.mem_cons_of_mem _ (List.mem_append_left _ (List.mem_of_getElem? (i := 0) rfl))) dX6_withdraw_82 ?_
                  refine g_aload_n E dX6_withdraw_85 rfl 0 rfl ?_
                  refine k_get_needs (s := (mwn (muR (muI s 0 0) 17 k 4) (k + 1) n).1) E (fun _ h => (List.mem_cons_of_mem _ (List.mem_append_right _ h))) (List.mem_cons_of_mem _ (List.mem_append_left _ (List.mem_of_getElem? (i := 2) rfl))) dX6_withdraw_86 ?_
                  refine g_iload E dX6_withdraw_89 3 rfl ?_
                  refine k_ald_needs (s := (mwn (muR (muI s 0 0) 17 k 4) (k + 1) n).1) E ((k + 1 + n)) rfl (by omega) dX6_withdraw_91 ?_
                  refine k_ald_state (s := (mwn (muR (muI s 0 0) 17 k 4) (k + 1) n).1) E ((tn (mr (mwn (muR (muI s 0 0) 17 k 4) (k + 1) n).1 15 (k + 1 + n)))) h_n.1 h_n.2 dX6_withdraw_92 ?_
                  refine g_iconst (v := 4) E dX6_withdraw_93 (by decide) ?_
                  refine g_icmp_ne (tgt := 101) E dX6_withdraw_94 (by decide) (fun c_94 => ?_) (fun c_94 => ?_)
                  · refine g_iconst (v := 0) E dX6_withdraw_101 (by decide) ?_
                    refine g_istore (L' := [(5, .int (0)), (0, .ref (ma 0)), (1, .int (nI k)), (3, .int ((mwn (muR (muI s 0 0) 17 k 4) (k + 1) n).2)), (4, .int (nI (k + 1 + n)))]) E dX6_withdraw_102 (by decide) rfl ?_
                    refine g_aload_n E dX6_withdraw_104 rfl 1 rfl ?_
                    refine k_get_state (s := (mwn (muR (muI s 0 0) 17 k 4) (k + 1) n).1) E (fun _ h => (List.mem_cons_of_mem _ (List.mem_append_right _ h))) (List.mem_cons_of_mem _ (List.mem_append_left _ (List.mem_of_getElem? (i := 0) rfl))) dX6_withdraw_105 ?_
                    refine g_iload E dX6_withdraw_108 4 rfl ?_
                    refine g_iload E dX6_withdraw_110 0 rfl ?_
                    refine g_if_eq (tgt := 119) E dX6_withdraw_112 (by decide) (fun c_112 => ?_) (fun c_112 => ?_)
                    · refine g_aload_n E dX6_withdraw_119 rfl 1 rfl ?_
                      refine k_get_state (s := (mwn (muR (muI s 0 0) 17 k 4) (k + 1) n).1) E (fun _ h => (List.mem_cons_of_mem _ (List.mem_append_right _ h))) (List.mem_cons_of_mem _ (List.mem_append_left _ (List.mem_of_getElem? (i := 0) rfl))) dX6_withdraw_120 ?_
                      refine g_iload E dX6_withdraw_123 4 rfl ?_
                      refine k_ald_state (s := (mwn (muR (muI s 0 0) 17 k 4) (k + 1) n).1) E ((k + 1 + n)) rfl (by omega) dX6_withdraw_125 ?_
                      refine k_ast_state (s := (mwn (muR (muI s 0 0) 17 k 4) (k + 1) n).1) E ((k + 1 + n)) rfl (by omega) dX6_withdraw_126 ?_
                      refine g_iload_n E dX6_withdraw_127 rfl 3 rfl ?_
                      refine g_iload E dX6_withdraw_128 0 rfl ?_
                      refine g_if_eq (tgt := 137) E dX6_withdraw_130 (by decide) (fun c_130 => ?_) (fun c_130 => ?_)
                      · refine g_iconst (v := 0) E dX6_withdraw_137 (by decide) ?_
                        refine g_iadd E dX6_withdraw_138 ?_
                        refine g_istore_n (L' := [(3, .int (((mwn (muR (muI s 0 0) 17 k 4) (k + 1) n).2 + 0))), (5, .int (0)), (0, .ref (ma 0)), (1, .int (nI k)), (4, .int (nI (k + 1 + n)))]) E dX6_withdraw_139 rfl (by decide) rfl ?_
                        refine g_iinc (v := nI ((k + 1 + n) + 1)) (L' := [(4, .int (nI ((k + 1 + n) + 1))), (3, .int (((mwn (muR (muI s 0 0) 17 k 4) (k + 1) n).2 + 0))), (5, .int (0)), (0, .ref (ma 0)), (1, .int (nI k))]) E dX6_withdraw_140 4 rfl (nI_1 (k + 1 + n)) (by decide) rfl ?_
                        refine g_goto (tgt := 51) E dX6_withdraw_143 (by decide) ?_
                        refine g_locals [(0, .ref (ma 0)), (1, .int (nI k)), (3, .int (((mwn (muR (muI s 0 0) 17 k 4) (k + 1) n).2 + 0))), (4, .int (nI ((k + 1 + n) + 1)))] [3, 4, 1, 0] rfl ?_
                        rw [show (muR (mwn (muR (muI s 0 0) 17 k 4) (k + 1) n).1 17 ((k + 1 + n)) (mr (mwn (muR (muI s 0 0) 17 k 4) (k + 1) n).1 17 ((k + 1 + n)))) = (mwn (muR (muI s 0 0) 17 k 4) (k + 1) (n + 1)).1 from (muR_id _ _ _).trans (congrArg Prod.fst (mwn_f (s0 := (muR (muI s 0 0) 17 k 4)) (a := k + 1) (n := n) (fun q => c_94 q.2.2))).symm]
                        refine g_L (L' := [(0, .ref (ma 0)), (1, .int (nI k)), (3, .int ((mwn (muR (muI s 0 0) 17 k 4) (k + 1) (n + 1)).2)), (4, .int (nI (k + 1 + (n + 1))))]) (by rw [mwn_f (s0 := (muR (muI s 0 0) 17 k 4)) (a := k + 1) (n := n) (fun q => c_94 q.2.2), Int32.add_zero]; rfl) (ih_51 (n + 1) (by omega) (by omega))
                      · exact absurd c_130 (by decide)
                    · exact absurd c_112 (by decide)
                  · refine g_iconst (v := 1) E dX6_withdraw_97 (by decide) ?_
                    refine g_goto (tgt := 102) E dX6_withdraw_98 (by decide) ?_
                    refine g_istore (L' := [(5, .int (1)), (0, .ref (ma 0)), (1, .int (nI k)), (3, .int ((mwn (muR (muI s 0 0) 17 k 4) (k + 1) n).2)), (4, .int (nI (k + 1 + n)))]) E dX6_withdraw_102 (by decide) rfl ?_
                    refine g_aload_n E dX6_withdraw_104 rfl 1 rfl ?_
                    refine k_get_state (s := (mwn (muR (muI s 0 0) 17 k 4) (k + 1) n).1) E (fun _ h => (List.mem_cons_of_mem _ (List.mem_append_right _ h))) (List.mem_cons_of_mem _ (List.mem_append_left _ (List.mem_of_getElem? (i := 0) rfl))) dX6_withdraw_105 ?_
                    refine g_iload E dX6_withdraw_108 4 rfl ?_
                    refine g_iload E dX6_withdraw_110 0 rfl ?_
                    refine g_if_eq (tgt := 119) E dX6_withdraw_112 (by decide) (fun c_112 => ?_) (fun c_112 => ?_)
                    · exact absurd c_112 (by decide)
                    · refine g_iconst (v := 4) E dX6_withdraw_115 (by decide) ?_
                      refine g_goto (tgt := 126) E dX6_withdraw_116 (by decide) ?_
                      refine k_ast_state (s := (mwn (muR (muI s 0 0) 17 k 4) (k + 1) n).1) E ((k + 1 + n)) rfl (by omega) dX6_withdraw_126 ?_
                      refine g_iload_n E dX6_withdraw_127 rfl 3 rfl ?_
                      refine g_iload E dX6_withdraw_128 0 rfl ?_
                      refine g_if_eq (tgt := 137) E dX6_withdraw_130 (by decide) (fun c_130 => ?_) (fun c_130 => ?_)
                      · exact absurd c_130 (by decide)
                      · refine g_iconst (v := 1) E dX6_withdraw_133 (by decide) ?_
                        refine g_goto (tgt := 138) E dX6_withdraw_134 (by decide) ?_
                        refine g_iadd E dX6_withdraw_138 ?_
                        refine g_istore_n (L' := [(3, .int (((mwn (muR (muI s 0 0) 17 k 4) (k + 1) n).2 + 1))), (5, .int (1)), (0, .ref (ma 0)), (1, .int (nI k)), (4, .int (nI (k + 1 + n)))]) E dX6_withdraw_139 rfl (by decide) rfl ?_
                        refine g_iinc (v := nI ((k + 1 + n) + 1)) (L' := [(4, .int (nI ((k + 1 + n) + 1))), (3, .int (((mwn (muR (muI s 0 0) 17 k 4) (k + 1) n).2 + 1))), (5, .int (1)), (0, .ref (ma 0)), (1, .int (nI k))]) E dX6_withdraw_140 4 rfl (nI_1 (k + 1 + n)) (by decide) rfl ?_
                        refine g_goto (tgt := 51) E dX6_withdraw_143 (by decide) ?_
                        refine g_locals [(0, .ref (ma 0)), (1, .int (nI k)), (3, .int (((mwn (muR (muI s 0 0) 17 k 4) (k + 1) n).2 + 1))), (4, .int (nI ((k + 1 + n) + 1)))] [3, 4, 1, 0] rfl ?_
                        rw [show (muR (mwn (muR (muI s 0 0) 17 k 4) (k + 1) n).1 17 ((k + 1 + n)) (4)) = (mwn (muR (muI s 0 0) 17 k 4) (k + 1) (n + 1)).1 from (congrArg Prod.fst (mwn_t (s0 := (muR (muI s 0 0) 17 k 4)) (a := k + 1) (n := n) ⟨c_67, c_78, c_94⟩)).symm]
                        refine g_L (L' := [(0, .ref (ma 0)), (1, .int (nI k)), (3, .int ((mwn (muR (muI s 0 0) 17 k 4) (k + 1) (n + 1)).2)), (4, .int (nI (k + 1 + (n + 1))))]) (by rw [mwn_t (s0 := (muR (muI s 0 0) 17 k 4)) (a := k + 1) (n := n) ⟨c_67, c_78, c_94⟩]; rfl) (ih_51 (n + 1) (by omega) (by omega))
        exact loop_51 (np - (k + 1) + 1) 0 (by omega) (by omega)
      · exact absurd c_32 (by decide)
    · refine g_iconst (v := 2) E dX6_withdraw_24 (by decide) ?_
      refine g_goto (tgt := 29) E dX6_withdraw_25 (by decide) ?_
      refine k_invV (n := 1) (rest := []) E (m_X6_isFine (xl C) E.tr (xD C) (xy C) e0 (s := s) (x := 2)) gX6_withdraw_X6_isFine rfl rfl rfl (by decide +kernel) ⟨Nat.le_of_ble_eq_true rfl, Nat.le_of_ble_eq_true rfl⟩ rfl rfl (Nat.le_of_ble_eq_true rfl) dX6_withdraw_29 ⟨Nat.le_of_ble_eq_true rfl, Nat.le_of_ble_eq_true rfl⟩ (fun v9 s9_29 h9 => ?_)
      obtain ⟨hv9, hS9⟩ := h9
      rw [hv9, hS9]
      rw [show bI ((2 : Int32) = 0) = 0 by decide]
      show G C (mW (xy C) ma (muI s 0 (2))) 0 0 32 [(2, .int ((isIx (nI k) np))), (0, .ref (ma 0)), (1, .int (nI k))] [.int (0)]
      refine g_if_ne (tgt := 37) E dX6_withdraw_32 (by decide) (fun c_32 => ?_) (fun c_32 => ?_)
      · exact absurd c_32 (by decide)
      · refine g_iconst (v := 0) E dX6_withdraw_35 (by decide) ?_
        exact g_iret E hE hr dX6_withdraw_36 (Nat.le_of_ble_eq_true rfl) (Nat.le_of_ble_eq_true rfl) ⟨(muI s 0 (2)), rfl, Or.inr (Or.inl ⟨k, hk, rfl, c_21, rfl, rfl⟩)⟩
  · have hbad := isIx_f (by omega) c_8
    refine g_iconst (v := 1) E dX6_withdraw_11 (by decide) ?_
    refine g_goto (tgt := 29) E dX6_withdraw_12 (by decide) ?_
    refine k_invV (n := 1) (rest := []) E (m_X6_isFine (xl C) E.tr (xD C) (xy C) e0 (s := s) (x := 1)) gX6_withdraw_X6_isFine rfl rfl rfl (by decide +kernel) ⟨Nat.le_of_ble_eq_true rfl, Nat.le_of_ble_eq_true rfl⟩ rfl rfl (Nat.le_of_ble_eq_true rfl) dX6_withdraw_29 ⟨Nat.le_of_ble_eq_true rfl, Nat.le_of_ble_eq_true rfl⟩ (fun v9 s9_29 h9 => ?_)
    obtain ⟨hv9, hS9⟩ := h9
    rw [hv9, hS9]
    rw [show bI ((1 : Int32) = 0) = 0 by decide]
    show G C (mW (xy C) ma (muI s 0 (1))) 0 0 32 [(2, .int ((isIx (x) np))), (0, .ref (ma 0)), (1, .int (x))] [.int (0)]
    refine g_if_ne (tgt := 37) E dX6_withdraw_32 (by decide) (fun c_32 => ?_) (fun c_32 => ?_)
    · exact absurd c_32 (by decide)
    · refine g_iconst (v := 0) E dX6_withdraw_35 (by decide) ?_
      exact g_iret E hE hr dX6_withdraw_36 (Nat.le_of_ble_eq_true rfl) (Nat.le_of_ble_eq_true rfl) ⟨(muI s 0 (1)), rfl, Or.inr (Or.inr ⟨hbad, rfl, rfl⟩)⟩
