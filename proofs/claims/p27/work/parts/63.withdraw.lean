abbrev rm_X5_withdraw : Room := { frames := 7, cells := 2, slots := 12, locals := 121 }
set_option maxHeartbeats 4000000 in
set_option maxRecDepth 100000 in
theorem m_X5_withdraw (l : Launch) (hl : l.stackTraces = false) (D : va_G) (cy : Nat → ClassId) (e0 : Nat) {S : wS} {c : Nat → Nat} {ad : Nat → Nat → Nat} {i : Nat → Nat → Int32} {j : Nat → Nat → Int64} {p : Nat → Nat → Option Nat} {r : Nat → Nat → Int32} (hI : CI e0 S c ad i j p r) {x : Int32} : cMet l yX5_withdraw wsX5_withdraw rm_X5_withdraw D cy e0 [.ref (ad 5 0), .int (x)] S (fun v S' => ∃ k, k < c 2 ∧ x = nI k ∧ i 11 k = 0 ∧ ∃ s, s = wdn p (up2 i 11 k 4, cnJ i j p k, 1) (k + 1) (c 2 - (k + 1)) ∧ v = some (.int s.2.2) ∧ CI e0 S' c ad s.1 s.2.1 p r) (fun X S' => (X = "java/lang/IndexOutOfBoundsException" ∧ (∀ k, k < c 2 → x ≠ nI k) ∧ S' = S) ∨ (X = "java/lang/IllegalStateException" ∧ (∃ k, k < c 2 ∧ x = nI k ∧ ¬ i 11 k = 0) ∧ S' = S)) 2 12 := by
  refine gMet.of (cc := cX5_withdraw) (maxL := 6) (ret := (some .int)) hl (by decide) rfl (Nat.le_of_ble_eq_true rfl) ?_
  intro C E h1 h2 h3 hr hnm hT hE
  subst h1; subst h2; subst h3
  have E : gOk C cX5_withdraw 6 wsX5_withdraw RX5 e0 rm_X5_withdraw := E
  show G C (cW (xy C) S) 0 0 0 [(0, .ref (ad 5 0)), (1, .int (x))] []
  have hc := hI.cnt
  refine g_aload_n E dX5_withdraw_0 rfl 0 rfl ?_
  refine g_iload_n E dX5_withdraw_1 rfl 1 rfl ?_
  refine c_invV (n := 1) (rest := []) E (m_X5_permitOf (xl C) E.tr (xD C) (xy C) e0 hI) (hI.obj (kd := 5) (k := 0) (by omega) hI.c5).1 gX5_withdraw_X5_permitOf rfl rfl rfl (by decide +kernel) ⟨Nat.le_of_ble_eq_true rfl, Nat.le_of_ble_eq_true rfl⟩ (wF_PW (hI.obj (kd := 5) (k := 0) (by omega) hI.c5).2) rfl rfl rfl rfl (Nat.le_of_ble_eq_true rfl) dX5_withdraw_2 ⟨Nat.le_of_ble_eq_true rfl, Nat.le_of_ble_eq_true rfl⟩ (fun X9 S9 h9 => by obtain ⟨hX9, hx9, hS9⟩ := h9; rw [hX9, hS9]; exact gx_out E hE hT (Nat.le_of_ble_eq_true rfl) (Nat.le_of_ble_eq_true rfl) ⟨S, rfl, Or.inl ⟨rfl, hx9, rfl⟩⟩) (fun v9 S9_2 h9 => ?_)
  obtain ⟨hS9, k_2, hk_2, hx_2, hv9⟩ := h9
  rw [hv9, hS9]
  subst hx_2
  show G C (cW (xy C) S) 1 6 5 [(0, .ref (ad 5 0)), (1, .int (nI k_2))] [.ref (ad 2 k_2)]
  refine g_astore_n (L' := [(2, .ref (ad 2 k_2)), (0, .ref (ad 5 0)), (1, .int (nI k_2))]) E dX5_withdraw_5 rfl (by decide) rfl ?_
  refine g_aload_n E dX5_withdraw_6 rfl 0 rfl ?_
  refine q_getN_Permit_state E hI hk_2 (fun _ h => (List.mem_cons_of_mem _ (List.mem_append_left _ (List.mem_append_left _ (List.mem_append_left _ (List.mem_append_left _ (List.mem_append_left _ (List.mem_append_right _ h)))))))) tbF_RX5_146 dX5_withdraw_7 ?_
  refine g_if_eq (tgt := 23) E dX5_withdraw_10 (by decide) (fun c_10 => ?_) (fun c_10 => ?_)
  · refine g_aload_n E dX5_withdraw_23 rfl 0 rfl ?_
    refine c_invV (n := 0) (rest := []) E (m_X2_cancel (xl C) E.tr (xD C) (xy C) e0 hI hk_2) (hI.obj (kd := 2) (k := k_2) (by omega) hk_2).1 gX5_withdraw_X2_cancel rfl rfl rfl (by decide +kernel) ⟨Nat.le_of_ble_eq_true rfl, Nat.le_of_ble_eq_true rfl⟩ (wF_Permit (hI.obj (kd := 2) (k := k_2) (by omega) hk_2).2) rfl rfl rfl rfl (Nat.le_of_ble_eq_true rfl) dX5_withdraw_24 ⟨Nat.le_of_ble_eq_true rfl, Nat.le_of_ble_eq_true rfl⟩ (fun _ _ h9 => h9.elim) (fun v9 S9_24 h9 => ?_)
    obtain ⟨hv9, hI⟩ := h9
    rw [hv9]
    have hs0 : ∃ s0 : wdT, s0 = (up2 i 11 k_2 4, cnJ i j p k_2, 1) := ⟨_, rfl⟩
    obtain ⟨s0, hs0⟩ := hs0
    have hI : CI e0 S9_24 c ad (wdn p s0 (k_2 + 1) 0).1 (wdn p s0 (k_2 + 1) 0).2.1 p r := by rw [hs0]; exact hI
    show G C (cW (xy C) S9_24) 1 6 27 [(2, .ref (ad 2 k_2)), (0, .ref (ad 5 0)), (1, .int (nI k_2))] []
    refine g_iconst (v := 1) E dX5_withdraw_27 (by decide) ?_
    refine g_istore_n (L' := [(3, .int (1)), (2, .ref (ad 2 k_2)), (0, .ref (ad 5 0)), (1, .int (nI k_2))]) E dX5_withdraw_28 rfl (by decide) rfl ?_
    refine g_L (L' := [(3, .int ((wdn p s0 (k_2 + 1) 0).2.2)), (2, .ref (ad 2 k_2)), (0, .ref (ad 5 0)), (1, .int (nI k_2))]) (by rw [hs0]; rfl) ?_
    refine g_iload_n E dX5_withdraw_29 rfl 3 rfl ?_
    refine g_iconst (v := 1) E dX5_withdraw_30 (by decide) ?_
    refine g_iadd E dX5_withdraw_31 ?_
    rw [nI_1]
    show G C (cW (xy C) S9_24) 1 6 32 [(3, .int ((wdn p s0 (k_2 + 1) 0).2.2)), (2, .ref (ad 2 k_2)), (0, .ref (ad 5 0)), (1, .int (nI k_2))] [.int (nI (k_2 + 1 + 0))]
    refine g_istore (L' := [(4, .int (nI (k_2 + 1 + 0))), (3, .int ((wdn p s0 (k_2 + 1) 0).2.2)), (2, .ref (ad 2 k_2)), (0, .ref (ad 5 0)), (1, .int (nI k_2))]) E dX5_withdraw_32 (by decide) rfl ?_
    refine g_locals [(0, .ref (ad 5 0)), (1, .int (nI k_2)), (3, .int ((wdn p s0 (k_2 + 1) 0).2.2)), (4, .int (nI (k_2 + 1 + 0)))] [3, 4, 1, 0] rfl ?_
    have loop_34 : ∀ (n_34 n : Nat) (S : wS), (CI e0 S c ad (wdn p s0 (k_2 + 1) n).1 (wdn p s0 (k_2 + 1) n).2.1 p r) → n ≤ c 2 - (k_2 + 1) → c 2 - (k_2 + 1) < n_34 + n → G C (cW (xy C) S) 1 6 34 [(0, .ref (ad 5 0)), (1, .int (nI k_2)), (3, .int ((wdn p s0 (k_2 + 1) n).2.2)), (4, .int (nI (k_2 + 1 + n)))] [] := by
      intro n_34
      induction n_34 with
      | zero => intro n S hI g1 g2; exact absurd g2 (by omega)
      | succ n_34 ih_34 =>
        intro n S hI h1_34 h2_34
        have hc := hI.cnt
        refine g_iload E dX5_withdraw_34 3 rfl ?_
        refine g_aload_n E dX5_withdraw_36 rfl 0 rfl ?_
        refine q_get_PW_permits E hI (fun _ h => (List.mem_cons_of_mem _ (List.mem_append_left _ (List.mem_append_left _ (List.mem_append_left _ (List.mem_append_left _ (List.mem_append_right _ h))))))) (List.mem_cons_of_mem _ (List.mem_append_left _ (List.mem_append_left _ (List.mem_append_left _ (List.mem_append_left _ (List.mem_append_left _ (List.mem_append_left _ (List.mem_append_left _ (List.mem_of_getElem? (i := 2) rfl))))))))) dX5_withdraw_37 ?_
        refine c_invV (n := 0) (rest := [.int (nI (k_2 + 1 + n))]) E (m_Jx4a65c_size_8abf5 (xl C) E.tr (xD C) (xy C) e0 hI.lists.2.1) (hI.obj (kd := 6) (k := 1) (by omega) (by have := hI.cnt; omega)).1 gX5_withdraw_Jx4a65c_size_8abf5 rfl rfl rfl (by decide +kernel) ⟨Nat.le_of_ble_eq_true rfl, Nat.le_of_ble_eq_true rfl⟩ (wF_AL (hI.obj (kd := 6) (k := 1) (by omega) (by have := hI.cnt; omega)).2) rfl rfl rfl rfl (Nat.le_of_ble_eq_true rfl) dX5_withdraw_40 ⟨Nat.le_of_ble_eq_true rfl, Nat.le_of_ble_eq_true rfl⟩ (fun _ _ h9 => h9.elim) (fun v9 S9_40 h9 => ?_)
        obtain ⟨hv9, hS9⟩ := h9
        rw [hv9, hS9]
        show G C (cW (xy C) S) 1 6 43 [(0, .ref (ad 5 0)), (1, .int (nI k_2)), (3, .int ((wdn p s0 (k_2 + 1) n).2.2)), (4, .int (nI (k_2 + 1 + n)))] [.int (nI (c 2)), .int (nI (k_2 + 1 + n))]
        refine g_icmp_ge (tgt := 102) E dX5_withdraw_43 (by decide) (fun c_43 => ?_) (fun c_43 => ?_)
        · have e_n : n = c 2 - (k_2 + 1) := by have := nI_ge_nat (by omega) (by omega) c_43; omega
          refine g_iload_n E dX5_withdraw_102 rfl 2 rfl ?_
          exact g_iret E hE hr dX5_withdraw_103 (Nat.le_of_ble_eq_true rfl) (Nat.le_of_ble_eq_true rfl) ⟨S, rfl, k_2, hk_2, rfl, c_10, _, rfl, by rw [← hs0, e_n], by rw [← hs0, ← e_n]; exact hI⟩
        · have hkk : k_2 + 1 + n < c 2 := nI_nge_nat (by omega) (by omega) c_43
          refine g_aload_n E dX5_withdraw_46 rfl 0 rfl ?_
          refine q_get_PW_permits E hI (fun _ h => (List.mem_cons_of_mem _ (List.mem_append_left _ (List.mem_append_left _ (List.mem_append_left _ (List.mem_append_left _ (List.mem_append_right _ h))))))) (List.mem_cons_of_mem _ (List.mem_append_left _ (List.mem_append_left _ (List.mem_append_left _ (List.mem_append_left _ (List.mem_append_left _ (List.mem_append_left _ (List.mem_append_left _ (List.mem_of_getElem? (i := 2) rfl))))))))) dX5_withdraw_47 ?_
          refine g_iload E dX5_withdraw_50 3 rfl ?_
          refine c_invV (n := 1) (rest := []) E (m_Jx4a65c_get_915e3 (xl C) E.tr (xD C) (xy C) e0 hI.lists.2.1 (k := (k_2 + 1 + n)) hkk) (hI.obj (kd := 6) (k := 1) (by omega) (by have := hI.cnt; omega)).1 gX5_withdraw_Jx4a65c_get_915e3 rfl rfl rfl (by decide +kernel) ⟨Nat.le_of_ble_eq_true rfl, Nat.le_of_ble_eq_true rfl⟩ (wF_AL (hI.obj (kd := 6) (k := 1) (by omega) (by have := hI.cnt; omega)).2) rfl rfl rfl rfl (Nat.le_of_ble_eq_true rfl) dX5_withdraw_52 ⟨Nat.le_of_ble_eq_true rfl, Nat.le_of_ble_eq_true rfl⟩ (fun _ _ h9 => h9.elim) (fun v9 S9_52 h9 => ?_)
          obtain ⟨hv9, hS9⟩ := h9
          rw [hv9, hS9]
          show G C (cW (xy C) S) 1 6 55 [(0, .ref (ad 5 0)), (1, .int (nI k_2)), (3, .int ((wdn p s0 (k_2 + 1) n).2.2)), (4, .int (nI (k_2 + 1 + n)))] [.ref (ad 2 ((k_2 + 1 + n)))]
          refine p_cast E (List.mem_cons_of_mem _ (List.mem_append_left _ (List.mem_append_left _ (List.mem_append_left _ (List.mem_append_left _ (List.mem_append_left _ (List.mem_append_left _ (List.mem_append_left _ (List.mem_of_getElem? (i := 3) rfl))))))))) (hI.obj (kd := 2) (k := (k_2 + 1 + n)) (by omega) hkk).1 (wF_Permit (hI.obj (kd := 2) (k := (k_2 + 1 + n)) (by omega) hkk).2) rfl rfl dX5_withdraw_55 ?_
          refine g_astore (L' := [(5, .ref (ad 2 ((k_2 + 1 + n)))), (0, .ref (ad 5 0)), (1, .int (nI k_2)), (3, .int ((wdn p s0 (k_2 + 1) n).2.2)), (4, .int (nI (k_2 + 1 + n)))]) E dX5_withdraw_58 (by decide) rfl ?_
          refine g_aload E dX5_withdraw_60 0 rfl ?_
          refine q_getN_Permit_state E hI hkk (fun _ h => (List.mem_cons_of_mem _ (List.mem_append_left _ (List.mem_append_left _ (List.mem_append_left _ (List.mem_append_left _ (List.mem_append_left _ (List.mem_append_right _ h)))))))) tbF_RX5_146 dX5_withdraw_62 ?_
          refine g_if_ne (tgt := 96) E dX5_withdraw_65 (by decide) (fun c_65 => ?_) (fun c_65 => ?_)
          · refine g_iinc (v := nI ((k_2 + 1 + n) + 1)) (L' := [(4, .int (nI ((k_2 + 1 + n) + 1))), (5, .ref (ad 2 ((k_2 + 1 + n)))), (0, .ref (ad 5 0)), (1, .int (nI k_2)), (3, .int ((wdn p s0 (k_2 + 1) n).2.2))]) E dX5_withdraw_96 4 rfl (nI_1 (k_2 + 1 + n)) (by decide) rfl ?_
            refine g_goto (tgt := 34) E dX5_withdraw_99 (by decide) ?_
            refine g_locals [(0, .ref (ad 5 0)), (1, .int (nI k_2)), (3, .int ((wdn p s0 (k_2 + 1) n).2.2)), (4, .int (nI ((k_2 + 1 + n) + 1)))] [2, 3, 4, 0] rfl ?_
            refine g_L (L' := [(0, .ref (ad 5 0)), (1, .int (nI k_2)), (3, .int ((wdn p s0 (k_2 + 1) (n + 1)).2.2)), (4, .int (nI (k_2 + 1 + (n + 1))))]) (by rw [wdn_f (p := p) (s := s0) (a := k_2 + 1) (n := n) (fun q => c_65 q.1)]; rfl) (ih_34 (n + 1) (_) (by rw [wdn_f (p := p) (s := s0) (a := k_2 + 1) (n := n) (fun q => c_65 q.1)]; exact hI) (by omega) (by omega))
          · refine g_aload E dX5_withdraw_68 0 rfl ?_
            refine q_getN_Permit_needed E hI hkk (fun _ h => (List.mem_cons_of_mem _ (List.mem_append_left _ (List.mem_append_left _ (List.mem_append_left _ (List.mem_append_left _ (List.mem_append_left _ (List.mem_append_right _ h)))))))) tbF_RX5_158 dX5_withdraw_70 (fun n_70 => ?_) (fun y_70 n_70 b_70 => ?_)
            · refine g_ifnullN (tgt := 96) E dX5_withdraw_73 (by decide) ?_
              refine g_iinc (v := nI ((k_2 + 1 + n) + 1)) (L' := [(4, .int (nI ((k_2 + 1 + n) + 1))), (5, .ref (ad 2 ((k_2 + 1 + n)))), (0, .ref (ad 5 0)), (1, .int (nI k_2)), (3, .int ((wdn p s0 (k_2 + 1) n).2.2))]) E dX5_withdraw_96 4 rfl (nI_1 (k_2 + 1 + n)) (by decide) rfl ?_
              refine g_goto (tgt := 34) E dX5_withdraw_99 (by decide) ?_
              refine g_locals [(0, .ref (ad 5 0)), (1, .int (nI k_2)), (3, .int ((wdn p s0 (k_2 + 1) n).2.2)), (4, .int (nI ((k_2 + 1 + n) + 1)))] [2, 3, 4, 0] rfl ?_
              refine g_L (L' := [(0, .ref (ad 5 0)), (1, .int (nI k_2)), (3, .int ((wdn p s0 (k_2 + 1) (n + 1)).2.2)), (4, .int (nI (k_2 + 1 + (n + 1))))]) (by rw [wdn_f (p := p) (s := s0) (a := k_2 + 1) (n := n) (fun q => q.2.elim fun z g => absurd (n_70.symm.trans g.1) (by simp))]; rfl) (ih_34 (n + 1) (_) (by rw [wdn_f (p := p) (s := s0) (a := k_2 + 1) (n := n) (fun q => q.2.elim fun z g => absurd (n_70.symm.trans g.1) (by simp))]; exact hI) (by omega) (by omega))
            · refine g_ifnull E dX5_withdraw_73 ?_
              refine g_aload E dX5_withdraw_76 0 rfl ?_
              refine q_getN_Permit_needed E hI hkk (fun _ h => (List.mem_cons_of_mem _ (List.mem_append_left _ (List.mem_append_left _ (List.mem_append_left _ (List.mem_append_left _ (List.mem_append_left _ (List.mem_append_right _ h)))))))) tbF_RX5_158 dX5_withdraw_78 (fun n_78 => ?_) (fun y_78 n_78 b_78 => ?_)
              · exact absurd (n_70.symm.trans n_78) (by simp)
              · obtain rfl : y_70 = y_78 := Option.some.inj (n_70.symm.trans n_78)
                refine q_getN_Permit_state E hI b_70 (fun _ h => (List.mem_cons_of_mem _ (List.mem_append_left _ (List.mem_append_left _ (List.mem_append_left _ (List.mem_append_left _ (List.mem_append_left _ (List.mem_append_right _ h)))))))) tbF_RX5_146 dX5_withdraw_81 ?_
                refine g_iconst (v := 4) E dX5_withdraw_84 (by decide) ?_
                refine g_icmp_ne (tgt := 96) E dX5_withdraw_85 (by decide) (fun c_85 => ?_) (fun c_85 => ?_)
                · refine g_iinc (v := nI ((k_2 + 1 + n) + 1)) (L' := [(4, .int (nI ((k_2 + 1 + n) + 1))), (5, .ref (ad 2 ((k_2 + 1 + n)))), (0, .ref (ad 5 0)), (1, .int (nI k_2)), (3, .int ((wdn p s0 (k_2 + 1) n).2.2))]) E dX5_withdraw_96 4 rfl (nI_1 (k_2 + 1 + n)) (by decide) rfl ?_
                  refine g_goto (tgt := 34) E dX5_withdraw_99 (by decide) ?_
                  refine g_locals [(0, .ref (ad 5 0)), (1, .int (nI k_2)), (3, .int ((wdn p s0 (k_2 + 1) n).2.2)), (4, .int (nI ((k_2 + 1 + n) + 1)))] [2, 3, 4, 0] rfl ?_
                  refine g_L (L' := [(0, .ref (ad 5 0)), (1, .int (nI k_2)), (3, .int ((wdn p s0 (k_2 + 1) (n + 1)).2.2)), (4, .int (nI (k_2 + 1 + (n + 1))))]) (by rw [wdn_f (p := p) (s := s0) (a := k_2 + 1) (n := n) (fun q => q.2.elim fun z g => c_85 (by rw [Option.some.inj (n_70.symm.trans g.1)]; exact g.2))]; rfl) (ih_34 (n + 1) (_) (by rw [wdn_f (p := p) (s := s0) (a := k_2 + 1) (n := n) (fun q => q.2.elim fun z g => c_85 (by rw [Option.some.inj (n_70.symm.trans g.1)]; exact g.2))]; exact hI) (by omega) (by omega))
                · refine g_aload E dX5_withdraw_88 0 rfl ?_
                  refine c_invV (n := 0) (rest := []) E (m_X2_cancel (xl C) E.tr (xD C) (xy C) e0 hI hkk) (hI.obj (kd := 2) (k := (k_2 + 1 + n)) (by omega) hkk).1 gX5_withdraw_X2_cancel rfl rfl rfl (by decide +kernel) ⟨Nat.le_of_ble_eq_true rfl, Nat.le_of_ble_eq_true rfl⟩ (wF_Permit (hI.obj (kd := 2) (k := (k_2 + 1 + n)) (by omega) hkk).2) rfl rfl rfl rfl (Nat.le_of_ble_eq_true rfl) dX5_withdraw_90 ⟨Nat.le_of_ble_eq_true rfl, Nat.le_of_ble_eq_true rfl⟩ (fun _ _ h9 => h9.elim) (fun v9 S9_90 h9 => ?_)
                  obtain ⟨hv9, hI⟩ := h9
                  rw [hv9]
                  show G C (cW (xy C) S9_90) 1 6 93 [(5, .ref (ad 2 ((k_2 + 1 + n)))), (0, .ref (ad 5 0)), (1, .int (nI k_2)), (3, .int ((wdn p s0 (k_2 + 1) n).2.2)), (4, .int (nI (k_2 + 1 + n)))] []
                  refine g_iinc (v := (wdn p s0 (k_2 + 1) n).2.2 + 1) (L' := [(3, .int ((wdn p s0 (k_2 + 1) n).2.2 + 1)), (5, .ref (ad 2 ((k_2 + 1 + n)))), (0, .ref (ad 5 0)), (1, .int (nI k_2)), (4, .int (nI (k_2 + 1 + n)))]) E dX5_withdraw_93 3 rfl rfl (by decide) rfl ?_
                  refine g_iinc (v := nI ((k_2 + 1 + n) + 1)) (L' := [(4, .int (nI ((k_2 + 1 + n) + 1))), (3, .int ((wdn p s0 (k_2 + 1) n).2.2 + 1)), (5, .ref (ad 2 ((k_2 + 1 + n)))), (0, .ref (ad 5 0)), (1, .int (nI k_2))]) E dX5_withdraw_96 4 rfl (nI_1 (k_2 + 1 + n)) (by decide) rfl ?_
                  refine g_goto (tgt := 34) E dX5_withdraw_99 (by decide) ?_
                  refine g_locals [(0, .ref (ad 5 0)), (1, .int (nI k_2)), (3, .int ((wdn p s0 (k_2 + 1) n).2.2 + 1)), (4, .int (nI ((k_2 + 1 + n) + 1)))] [3, 4, 1, 0] rfl ?_
                  refine g_L (L' := [(0, .ref (ad 5 0)), (1, .int (nI k_2)), (3, .int ((wdn p s0 (k_2 + 1) (n + 1)).2.2)), (4, .int (nI (k_2 + 1 + (n + 1))))]) (by rw [wdn_t (p := p) (s := s0) (a := k_2 + 1) (n := n) ⟨c_65, y_70, n_70, c_85⟩]; rfl) (ih_34 (n + 1) (_) (by rw [wdn_t (p := p) (s := s0) (a := k_2 + 1) (n := n) ⟨c_65, y_70, n_70, c_85⟩]; exact hI) (by omega) (by omega))
    exact loop_34 (c 2 - (k_2 + 1) + 1) 0 (_) (hI) (by omega) (by omega)
  · exact g_throwS E hE hT "java/lang/IllegalStateException" "it is not GRANTED" ["java/lang/RuntimeException", "java/lang/Exception"] 51 149 55 (by decide) (by decide) (List.mem_cons_of_mem _ (List.mem_append_left _ (List.mem_append_left _ (List.mem_append_left _ (List.mem_append_left _ (List.mem_append_left _ (List.mem_append_left _ (List.mem_append_left _ (List.mem_of_getElem? (i := 0) rfl))))))))) (List.mem_cons_of_mem _ (List.mem_append_left _ (List.mem_append_left _ (List.mem_append_left _ (List.mem_append_left _ (List.mem_append_left _ (List.mem_append_left _ (List.mem_append_left _ (List.mem_of_getElem? (i := 1) rfl))))))))) tbS_RX5_149 (fun _ h => (List.mem_cons_of_mem _ (List.mem_append_left _ (List.mem_append_right _ h)))) tbX_ISE tbG_ISE dX5_withdraw_13 dX5_withdraw_16 dX5_withdraw_17 dX5_withdraw_19 dX5_withdraw_22 (Nat.le_of_ble_eq_true rfl) (Nat.le_of_ble_eq_true rfl) (Nat.le_of_ble_eq_true rfl) (Nat.le_of_ble_eq_true rfl) (Nat.le_of_ble_eq_true rfl) (Nat.le_of_ble_eq_true rfl) ⟨S, rfl, Or.inr (⟨rfl, ⟨k_2, hk_2, rfl, c_10⟩, rfl⟩)⟩
