abbrev rm_X5_begin : Room := { frames := 7, cells := 2, slots := 12, locals := 121 }
set_option maxHeartbeats 4000000 in
set_option maxRecDepth 100000 in
theorem m_X5_begin (l : Launch) (hl : l.stackTraces = false) (D : va_G) (cy : Nat → ClassId) (e0 : Nat) {S : wS} {c : Nat → Nat} {ad : Nat → Nat → Nat} {i : Nat → Nat → Int32} {j : Nat → Nat → Int64} {p : Nat → Nat → Option Nat} {r : Nat → Nat → Int32} (hI : CI e0 S c ad i j p r) {x : Int32} : cMet l yX5_begin wsX5_begin rm_X5_begin D cy e0 [.ref (ad 5 0), .int (x)] S (fun v S' => ∃ k, k < c 2 ∧ x = nI k ∧ (i 11 k = 0 ∧ ∀ z, p 1 k = some z → i 11 z = 3) ∧ v = some (.int (((p 2 k).elim (i 8 k) (i 3)) - i 18 0)) ∧ CI e0 S' c ad (up2 (up2 i 11 k 2) 13 k (i 18 0)) j p r) (fun X S' => (X = "java/lang/IndexOutOfBoundsException" ∧ (∀ k, k < c 2 → x ≠ nI k) ∧ S' = S) ∨ (X = "java/lang/IllegalStateException" ∧ (∃ k, k < c 2 ∧ x = nI k ∧ ¬ (i 11 k = 0 ∧ ∀ z, p 1 k = some z → i 11 z = 3)) ∧ S' = S)) 2 12 := by
  refine gMet.of (cc := cX5_begin) (maxL := 3) (ret := (some .int)) hl (by decide) rfl (Nat.le_of_ble_eq_true rfl) ?_
  intro C E h1 h2 h3 hr hnm hT hE
  subst h1; subst h2; subst h3
  have E : gOk C cX5_begin 3 wsX5_begin RX5 e0 rm_X5_begin := E
  show G C (cW (xy C) S) 0 0 0 [(0, .ref (ad 5 0)), (1, .int (x))] []
  refine g_aload_n E dX5_begin_0 rfl 0 rfl ?_
  refine g_iload_n E dX5_begin_1 rfl 1 rfl ?_
  refine c_invV (n := 1) (rest := []) E (m_X5_permitOf (xl C) E.tr (xD C) (xy C) e0 hI) (hI.obj (kd := 5) (k := 0) (by omega) hI.c5).1 gX5_begin_X5_permitOf rfl rfl rfl (by decide +kernel) ⟨Nat.le_of_ble_eq_true rfl, Nat.le_of_ble_eq_true rfl⟩ (wF_PW (hI.obj (kd := 5) (k := 0) (by omega) hI.c5).2) rfl rfl rfl rfl (Nat.le_of_ble_eq_true rfl) dX5_begin_2 ⟨Nat.le_of_ble_eq_true rfl, Nat.le_of_ble_eq_true rfl⟩ (fun X9 S9 h9 => by obtain ⟨hX9, hx9, hS9⟩ := h9; rw [hX9, hS9]; exact gx_out E hE hT (Nat.le_of_ble_eq_true rfl) (Nat.le_of_ble_eq_true rfl) ⟨S, rfl, Or.inl ⟨rfl, hx9, rfl⟩⟩) (fun v9 S9_2 h9 => ?_)
  obtain ⟨hS9, k_2, hk_2, hx_2, hv9⟩ := h9
  rw [hv9, hS9]
  subst hx_2
  show G C (cW (xy C) S) 1 6 5 [(0, .ref (ad 5 0)), (1, .int (nI k_2))] [.ref (ad 2 k_2)]
  refine g_astore_n (L' := [(2, .ref (ad 2 k_2)), (0, .ref (ad 5 0)), (1, .int (nI k_2))]) E dX5_begin_5 rfl (by decide) rfl ?_
  refine g_aload_n E dX5_begin_6 rfl 0 rfl ?_
  refine q_getN_Permit_state E hI hk_2 (fun _ h => (List.mem_cons_of_mem _ (List.mem_append_left _ (List.mem_append_left _ (List.mem_append_left _ (List.mem_append_left _ (List.mem_append_left _ (List.mem_append_right _ h)))))))) tbF_RX5_146 dX5_begin_7 ?_
  refine g_if_ne (tgt := 31) E dX5_begin_10 (by decide) (fun c_10 => ?_) (fun c_10 => ?_)
  · exact g_throwS E hE hT "java/lang/IllegalStateException" "it is not GRANTED, or the one that it needs is not DONE" ["java/lang/RuntimeException", "java/lang/Exception"] 51 162 55 (by decide) (by decide) (List.mem_cons_of_mem _ (List.mem_append_left _ (List.mem_append_left _ (List.mem_append_left _ (List.mem_append_left _ (List.mem_append_left _ (List.mem_append_left _ (List.mem_append_left _ (List.mem_of_getElem? (i := 0) rfl))))))))) (List.mem_cons_of_mem _ (List.mem_append_left _ (List.mem_append_left _ (List.mem_append_left _ (List.mem_append_left _ (List.mem_append_left _ (List.mem_append_left _ (List.mem_append_left _ (List.mem_of_getElem? (i := 1) rfl))))))))) tbS_RX5_162 (fun _ h => (List.mem_cons_of_mem _ (List.mem_append_left _ (List.mem_append_right _ h)))) tbX_ISE tbG_ISE dX5_begin_31 dX5_begin_34 dX5_begin_35 dX5_begin_37 dX5_begin_40 (Nat.le_of_ble_eq_true rfl) (Nat.le_of_ble_eq_true rfl) (Nat.le_of_ble_eq_true rfl) (Nat.le_of_ble_eq_true rfl) (Nat.le_of_ble_eq_true rfl) (Nat.le_of_ble_eq_true rfl) ⟨S, rfl, Or.inr (⟨rfl, ⟨k_2, hk_2, rfl, fun q => c_10 q.1⟩, rfl⟩)⟩
  · refine g_aload_n E dX5_begin_13 rfl 0 rfl ?_
    refine q_getN_Permit_needed E hI hk_2 (fun _ h => (List.mem_cons_of_mem _ (List.mem_append_left _ (List.mem_append_left _ (List.mem_append_left _ (List.mem_append_left _ (List.mem_append_left _ (List.mem_append_right _ h)))))))) tbF_RX5_158 dX5_begin_14 (fun n_14 => ?_) (fun y_14 n_14 b_14 => ?_)
    · refine g_ifnullN (tgt := 41) E dX5_begin_17 (by decide) ?_
      refine g_aload_n E dX5_begin_41 rfl 0 rfl ?_
      refine g_iconst (v := 2) E dX5_begin_42 (by decide) ?_
      refine q_putN_Permit_state E hI hk_2 (fun _ h => (List.mem_cons_of_mem _ (List.mem_append_left _ (List.mem_append_left _ (List.mem_append_left _ (List.mem_append_left _ (List.mem_append_left _ (List.mem_append_right _ h)))))))) tbF_RX5_146 dX5_begin_43 (fun S hI => ?_)
      refine g_aload_n E dX5_begin_46 rfl 0 rfl ?_
      refine g_aload_n E dX5_begin_47 rfl 1 rfl ?_
      refine q_get_PW_now E hI hI.c5 (fun _ h => (List.mem_cons_of_mem _ (List.mem_append_left _ (List.mem_append_left _ (List.mem_append_left _ (List.mem_append_left _ (List.mem_append_right _ h))))))) (List.mem_cons_of_mem _ (List.mem_append_left _ (List.mem_append_left _ (List.mem_append_left _ (List.mem_append_left _ (List.mem_append_left _ (List.mem_append_left _ (List.mem_append_left _ (List.mem_of_getElem? (i := 2) rfl))))))))) dX5_begin_48 ?_
      refine q_putN_Permit_begunAt E hI hk_2 (fun _ h => (List.mem_cons_of_mem _ (List.mem_append_left _ (List.mem_append_left _ (List.mem_append_left _ (List.mem_append_left _ (List.mem_append_left _ (List.mem_append_right _ h)))))))) tbF_RX5_164 dX5_begin_51 (fun S hI => ?_)
      refine g_aload_n E dX5_begin_54 rfl 0 rfl ?_
      refine c_invV (n := 0) (rest := []) E (m_X2_firstHour (xl C) E.tr (xD C) (xy C) e0 hI hk_2) (hI.obj (kd := 2) (k := k_2) (by omega) hk_2).1 gX5_begin_X2_firstHour rfl rfl rfl (by decide +kernel) ⟨Nat.le_of_ble_eq_true rfl, Nat.le_of_ble_eq_true rfl⟩ (wF_Permit (hI.obj (kd := 2) (k := k_2) (by omega) hk_2).2) rfl rfl rfl rfl (Nat.le_of_ble_eq_true rfl) dX5_begin_55 ⟨Nat.le_of_ble_eq_true rfl, Nat.le_of_ble_eq_true rfl⟩ (fun _ _ h9 => h9.elim) (fun v9 S9_55 h9 => ?_)
      obtain ⟨hv9, hS9⟩ := h9
      rw [hv9, hS9]
      show G C (cW (xy C) S) 1 6 58 [(2, .ref (ad 2 k_2)), (0, .ref (ad 5 0)), (1, .int (nI k_2))] [.int (((p 2 k_2).elim ((up2 (up2 i 11 k_2 (2)) 13 k_2 ((up2 i 11 k_2 (2)) 18 0)) 8 k_2) ((up2 (up2 i 11 k_2 (2)) 13 k_2 ((up2 i 11 k_2 (2)) 18 0)) 3)))]
      refine g_aload_n E dX5_begin_58 rfl 1 rfl ?_
      refine q_get_PW_now E hI hI.c5 (fun _ h => (List.mem_cons_of_mem _ (List.mem_append_left _ (List.mem_append_left _ (List.mem_append_left _ (List.mem_append_left _ (List.mem_append_right _ h))))))) (List.mem_cons_of_mem _ (List.mem_append_left _ (List.mem_append_left _ (List.mem_append_left _ (List.mem_append_left _ (List.mem_append_left _ (List.mem_append_left _ (List.mem_append_left _ (List.mem_of_getElem? (i := 2) rfl))))))))) dX5_begin_59 ?_
      refine g_isub E dX5_begin_62 ?_
      exact g_iret E hE hr dX5_begin_63 (Nat.le_of_ble_eq_true rfl) (Nat.le_of_ble_eq_true rfl) ⟨S, rfl, k_2, hk_2, rfl, ⟨c_10, fun z hz => absurd (n_14.symm.trans hz) (by simp)⟩, rfl, hI⟩
    · refine g_ifnull E dX5_begin_17 ?_
      refine g_aload_n E dX5_begin_20 rfl 0 rfl ?_
      refine q_getN_Permit_needed E hI hk_2 (fun _ h => (List.mem_cons_of_mem _ (List.mem_append_left _ (List.mem_append_left _ (List.mem_append_left _ (List.mem_append_left _ (List.mem_append_left _ (List.mem_append_right _ h)))))))) tbF_RX5_158 dX5_begin_21 (fun n_21 => ?_) (fun y_21 n_21 b_21 => ?_)
      · exact absurd (n_14.symm.trans n_21) (by simp)
      · obtain rfl : y_14 = y_21 := Option.some.inj (n_14.symm.trans n_21)
        refine q_getN_Permit_state E hI b_14 (fun _ h => (List.mem_cons_of_mem _ (List.mem_append_left _ (List.mem_append_left _ (List.mem_append_left _ (List.mem_append_left _ (List.mem_append_left _ (List.mem_append_right _ h)))))))) tbF_RX5_146 dX5_begin_24 ?_
        refine g_iconst (v := 3) E dX5_begin_27 (by decide) ?_
        refine g_icmp_eq (tgt := 41) E dX5_begin_28 (by decide) (fun c_28 => ?_) (fun c_28 => ?_)
        · refine g_aload_n E dX5_begin_41 rfl 0 rfl ?_
          refine g_iconst (v := 2) E dX5_begin_42 (by decide) ?_
          refine q_putN_Permit_state E hI hk_2 (fun _ h => (List.mem_cons_of_mem _ (List.mem_append_left _ (List.mem_append_left _ (List.mem_append_left _ (List.mem_append_left _ (List.mem_append_left _ (List.mem_append_right _ h)))))))) tbF_RX5_146 dX5_begin_43 (fun S hI => ?_)
          refine g_aload_n E dX5_begin_46 rfl 0 rfl ?_
          refine g_aload_n E dX5_begin_47 rfl 1 rfl ?_
          refine q_get_PW_now E hI hI.c5 (fun _ h => (List.mem_cons_of_mem _ (List.mem_append_left _ (List.mem_append_left _ (List.mem_append_left _ (List.mem_append_left _ (List.mem_append_right _ h))))))) (List.mem_cons_of_mem _ (List.mem_append_left _ (List.mem_append_left _ (List.mem_append_left _ (List.mem_append_left _ (List.mem_append_left _ (List.mem_append_left _ (List.mem_append_left _ (List.mem_of_getElem? (i := 2) rfl))))))))) dX5_begin_48 ?_
          refine q_putN_Permit_begunAt E hI hk_2 (fun _ h => (List.mem_cons_of_mem _ (List.mem_append_left _ (List.mem_append_left _ (List.mem_append_left _ (List.mem_append_left _ (List.mem_append_left _ (List.mem_append_right _ h)))))))) tbF_RX5_164 dX5_begin_51 (fun S hI => ?_)
          refine g_aload_n E dX5_begin_54 rfl 0 rfl ?_
          refine c_invV (n := 0) (rest := []) E (m_X2_firstHour (xl C) E.tr (xD C) (xy C) e0 hI hk_2) (hI.obj (kd := 2) (k := k_2) (by omega) hk_2).1 gX5_begin_X2_firstHour rfl rfl rfl (by decide +kernel) ⟨Nat.le_of_ble_eq_true rfl, Nat.le_of_ble_eq_true rfl⟩ (wF_Permit (hI.obj (kd := 2) (k := k_2) (by omega) hk_2).2) rfl rfl rfl rfl (Nat.le_of_ble_eq_true rfl) dX5_begin_55 ⟨Nat.le_of_ble_eq_true rfl, Nat.le_of_ble_eq_true rfl⟩ (fun _ _ h9 => h9.elim) (fun v9 S9_55 h9 => ?_)
          obtain ⟨hv9, hS9⟩ := h9
          rw [hv9, hS9]
          show G C (cW (xy C) S) 1 6 58 [(2, .ref (ad 2 k_2)), (0, .ref (ad 5 0)), (1, .int (nI k_2))] [.int (((p 2 k_2).elim ((up2 (up2 i 11 k_2 (2)) 13 k_2 ((up2 i 11 k_2 (2)) 18 0)) 8 k_2) ((up2 (up2 i 11 k_2 (2)) 13 k_2 ((up2 i 11 k_2 (2)) 18 0)) 3)))]
          refine g_aload_n E dX5_begin_58 rfl 1 rfl ?_
          refine q_get_PW_now E hI hI.c5 (fun _ h => (List.mem_cons_of_mem _ (List.mem_append_left _ (List.mem_append_left _ (List.mem_append_left _ (List.mem_append_left _ (List.mem_append_right _ h))))))) (List.mem_cons_of_mem _ (List.mem_append_left _ (List.mem_append_left _ (List.mem_append_left _ (List.mem_append_left _ (List.mem_append_left _ (List.mem_append_left _ (List.mem_append_left _ (List.mem_of_getElem? (i := 2) rfl))))))))) dX5_begin_59 ?_
          refine g_isub E dX5_begin_62 ?_
          exact g_iret E hE hr dX5_begin_63 (Nat.le_of_ble_eq_true rfl) (Nat.le_of_ble_eq_true rfl) ⟨S, rfl, k_2, hk_2, rfl, ⟨c_10, fun z hz => by rw [← Option.some.inj (n_14.symm.trans hz)]; exact c_28⟩, rfl, hI⟩
        · exact g_throwS E hE hT "java/lang/IllegalStateException" "it is not GRANTED, or the one that it needs is not DONE" ["java/lang/RuntimeException", "java/lang/Exception"] 51 162 55 (by decide) (by decide) (List.mem_cons_of_mem _ (List.mem_append_left _ (List.mem_append_left _ (List.mem_append_left _ (List.mem_append_left _ (List.mem_append_left _ (List.mem_append_left _ (List.mem_append_left _ (List.mem_of_getElem? (i := 0) rfl))))))))) (List.mem_cons_of_mem _ (List.mem_append_left _ (List.mem_append_left _ (List.mem_append_left _ (List.mem_append_left _ (List.mem_append_left _ (List.mem_append_left _ (List.mem_append_left _ (List.mem_of_getElem? (i := 1) rfl))))))))) tbS_RX5_162 (fun _ h => (List.mem_cons_of_mem _ (List.mem_append_left _ (List.mem_append_right _ h)))) tbX_ISE tbG_ISE dX5_begin_31 dX5_begin_34 dX5_begin_35 dX5_begin_37 dX5_begin_40 (Nat.le_of_ble_eq_true rfl) (Nat.le_of_ble_eq_true rfl) (Nat.le_of_ble_eq_true rfl) (Nat.le_of_ble_eq_true rfl) (Nat.le_of_ble_eq_true rfl) (Nat.le_of_ble_eq_true rfl) ⟨S, rfl, Or.inr (⟨rfl, ⟨k_2, hk_2, rfl, fun q => c_28 (q.2 y_14 n_14)⟩, rfl⟩)⟩
abbrev rm_X5_finish : Room := { frames := 7, cells := 2, slots := 12, locals := 121 }
set_option maxHeartbeats 4000000 in
set_option maxRecDepth 100000 in
theorem m_X5_finish (l : Launch) (hl : l.stackTraces = false) (D : va_G) (cy : Nat → ClassId) (e0 : Nat) {S : wS} {c : Nat → Nat} {ad : Nat → Nat → Nat} {i : Nat → Nat → Int32} {j : Nat → Nat → Int64} {p : Nat → Nat → Option Nat} {r : Nat → Nat → Int32} (hI : CI e0 S c ad i j p r) {x : Int32} : cMet l yX5_finish wsX5_finish rm_X5_finish D cy e0 [.ref (ad 5 0), .int (x)] S (fun v S' => ∃ k, k < c 2 ∧ x = nI k ∧ i 11 k = 2 ∧ v = some (.long (2 * j 2 k)) ∧ CI e0 S' c ad (up2 (up2 i 11 k 3) 14 k (i 18 0)) j p r) (fun X S' => (X = "java/lang/IndexOutOfBoundsException" ∧ (∀ k, k < c 2 → x ≠ nI k) ∧ S' = S) ∨ (X = "java/lang/IllegalStateException" ∧ (∃ k, k < c 2 ∧ x = nI k ∧ ¬ i 11 k = 2) ∧ S' = S)) 2 12 := by
  refine gMet.of (cc := cX5_finish) (maxL := 3) (ret := (some .long)) hl (by decide) rfl (Nat.le_of_ble_eq_true rfl) ?_
  intro C E h1 h2 h3 hr hnm hT hE
  subst h1; subst h2; subst h3
  have E : gOk C cX5_finish 3 wsX5_finish RX5 e0 rm_X5_finish := E
  show G C (cW (xy C) S) 0 0 0 [(0, .ref (ad 5 0)), (1, .int (x))] []
  refine g_aload_n E dX5_finish_0 rfl 0 rfl ?_
  refine g_iload_n E dX5_finish_1 rfl 1 rfl ?_
  refine c_invV (n := 1) (rest := []) E (m_X5_permitOf (xl C) E.tr (xD C) (xy C) e0 hI) (hI.obj (kd := 5) (k := 0) (by omega) hI.c5).1 gX5_finish_X5_permitOf rfl rfl rfl (by decide +kernel) ⟨Nat.le_of_ble_eq_true rfl, Nat.le_of_ble_eq_true rfl⟩ (wF_PW (hI.obj (kd := 5) (k := 0) (by omega) hI.c5).2) rfl rfl rfl rfl (Nat.le_of_ble_eq_true rfl) dX5_finish_2 ⟨Nat.le_of_ble_eq_true rfl, Nat.le_of_ble_eq_true rfl⟩ (fun X9 S9 h9 => by obtain ⟨hX9, hx9, hS9⟩ := h9; rw [hX9, hS9]; exact gx_out E hE hT (Nat.le_of_ble_eq_true rfl) (Nat.le_of_ble_eq_true rfl) ⟨S, rfl, Or.inl ⟨rfl, hx9, rfl⟩⟩) (fun v9 S9_2 h9 => ?_)
  obtain ⟨hS9, k_2, hk_2, hx_2, hv9⟩ := h9
  rw [hv9, hS9]
  subst hx_2
  show G C (cW (xy C) S) 1 6 5 [(0, .ref (ad 5 0)), (1, .int (nI k_2))] [.ref (ad 2 k_2)]
  refine g_astore_n (L' := [(2, .ref (ad 2 k_2)), (0, .ref (ad 5 0)), (1, .int (nI k_2))]) E dX5_finish_5 rfl (by decide) rfl ?_
  refine g_aload_n E dX5_finish_6 rfl 0 rfl ?_
  refine q_getN_Permit_state E hI hk_2 (fun _ h => (List.mem_cons_of_mem _ (List.mem_append_left _ (List.mem_append_left _ (List.mem_append_left _ (List.mem_append_left _ (List.mem_append_right _ h))))))) tbF_RX5_146 dX5_finish_7 ?_
  refine g_iconst (v := 2) E dX5_finish_10 (by decide) ?_
  refine g_icmp_eq (tgt := 24) E dX5_finish_11 (by decide) (fun c_11 => ?_) (fun c_11 => ?_)
  · refine g_aload_n E dX5_finish_24 rfl 0 rfl ?_
    refine g_iconst (v := 3) E dX5_finish_25 (by decide) ?_
    refine q_putN_Permit_state E hI hk_2 (fun _ h => (List.mem_cons_of_mem _ (List.mem_append_left _ (List.mem_append_left _ (List.mem_append_left _ (List.mem_append_left _ (List.mem_append_right _ h))))))) tbF_RX5_146 dX5_finish_26 (fun S hI => ?_)
    refine g_aload_n E dX5_finish_29 rfl 0 rfl ?_
    refine g_aload_n E dX5_finish_30 rfl 1 rfl ?_
    refine q_get_PW_now E hI hI.c5 (fun _ h => (List.mem_cons_of_mem _ (List.mem_append_left _ (List.mem_append_left _ (List.mem_append_left _ (List.mem_append_right _ h)))))) (List.mem_cons_of_mem _ (List.mem_append_left _ (List.mem_append_left _ (List.mem_append_left _ (List.mem_append_left _ (List.mem_append_left _ (List.mem_append_left _ (List.mem_of_getElem? (i := 2) rfl)))))))) dX5_finish_31 ?_
    refine q_putN_Permit_finishedAt E hI hk_2 (fun _ h => (List.mem_cons_of_mem _ (List.mem_append_left _ (List.mem_append_left _ (List.mem_append_left _ (List.mem_append_left _ (List.mem_append_right _ h))))))) tbF_RX5_172 dX5_finish_34 (fun S hI => ?_)
    refine g_aload_n E dX5_finish_37 rfl 0 rfl ?_
    refine c_invV (n := 0) (rest := []) E (m_X2_fineSoFar (xl C) E.tr (xD C) (xy C) e0 hI hk_2) (hI.obj (kd := 2) (k := k_2) (by omega) hk_2).1 gX5_finish_X2_fineSoFar rfl rfl rfl (by decide +kernel) ⟨Nat.le_of_ble_eq_true rfl, Nat.le_of_ble_eq_true rfl⟩ (wF_Permit (hI.obj (kd := 2) (k := k_2) (by omega) hk_2).2) rfl rfl rfl rfl (Nat.le_of_ble_eq_true rfl) dX5_finish_38 ⟨Nat.le_of_ble_eq_true rfl, Nat.le_of_ble_eq_true rfl⟩ (fun _ _ h9 => h9.elim) (fun v9 S9_38 h9 => ?_)
    obtain ⟨hv9, hS9⟩ := h9
    rw [hv9, hS9]
    show G C (cW (xy C) S) 1 6 41 [(2, .ref (ad 2 k_2)), (0, .ref (ad 5 0)), (1, .int (nI k_2))] [.long ((2 * j 2 k_2))]
    exact g_lret E hE hr dX5_finish_41 (Nat.le_of_ble_eq_true rfl) (Nat.le_of_ble_eq_true rfl) ⟨S, rfl, k_2, hk_2, rfl, c_11, rfl, hI⟩
  · exact g_throwS E hE hT "java/lang/IllegalStateException" "it is not OPEN" ["java/lang/RuntimeException", "java/lang/Exception"] 51 170 55 (by decide) (by decide) (List.mem_cons_of_mem _ (List.mem_append_left _ (List.mem_append_left _ (List.mem_append_left _ (List.mem_append_left _ (List.mem_append_left _ (List.mem_append_left _ (List.mem_of_getElem? (i := 0) rfl)))))))) (List.mem_cons_of_mem _ (List.mem_append_left _ (List.mem_append_left _ (List.mem_append_left _ (List.mem_append_left _ (List.mem_append_left _ (List.mem_append_left _ (List.mem_of_getElem? (i := 1) rfl)))))))) tbS_RX5_170 (fun _ h => (List.mem_cons_of_mem _ (List.mem_append_left _ (List.mem_append_right _ h)))) tbX_ISE tbG_ISE dX5_finish_14 dX5_finish_17 dX5_finish_18 dX5_finish_20 dX5_finish_23 (Nat.le_of_ble_eq_true rfl) (Nat.le_of_ble_eq_true rfl) (Nat.le_of_ble_eq_true rfl) (Nat.le_of_ble_eq_true rfl) (Nat.le_of_ble_eq_true rfl) (Nat.le_of_ble_eq_true rfl) ⟨S, rfl, Or.inr (⟨rfl, ⟨k_2, hk_2, rfl, c_11⟩, rfl⟩)⟩
abbrev rm_X5_fee : Room := { frames := 7, cells := 1, slots := 6, locals := 121 }
set_option maxHeartbeats 4000000 in
set_option maxRecDepth 100000 in
theorem m_X5_fee (l : Launch) (hl : l.stackTraces = false) (D : va_G) (cy : Nat → ClassId) (e0 : Nat) {S : wS} {c : Nat → Nat} {ad : Nat → Nat → Nat} {i : Nat → Nat → Int32} {j : Nat → Nat → Int64} {p : Nat → Nat → Option Nat} {r : Nat → Nat → Int32} (hI : CI e0 S c ad i j p r) {x : Int32} : cMet l yX5_fee wsX5_fee rm_X5_fee D cy e0 [.ref (ad 5 0), .int (x)] S (fun v S' => S' = S ∧ ∃ k, k < c 2 ∧ x = nI k ∧ v = some (.int ((match p 2 k with | none => 0 | some y => if i 11 k = 4 then 0 else shI (j 1 y) (i 3 y) (i 4 y) (i 5 k))))) (fun X S' => X = "java/lang/IndexOutOfBoundsException" ∧ (∀ k, k < c 2 → x ≠ nI k) ∧ S' = S) 1 6 := by
  refine gMet.of (cc := cX5_fee) (maxL := 3) (ret := (some .int)) hl (by decide) rfl (Nat.le_of_ble_eq_true rfl) ?_
  intro C E h1 h2 h3 hr hnm hT hE
  subst h1; subst h2; subst h3
  have E : gOk C cX5_fee 3 wsX5_fee RX5 e0 rm_X5_fee := E
  show G C (cW (xy C) S) 0 0 0 [(0, .ref (ad 5 0)), (1, .int (x))] []
  refine g_aload_n E dX5_fee_0 rfl 0 rfl ?_
  refine g_iload_n E dX5_fee_1 rfl 1 rfl ?_
  refine c_invV (n := 1) (rest := []) E (m_X5_permitOf (xl C) E.tr (xD C) (xy C) e0 hI) (hI.obj (kd := 5) (k := 0) (by omega) hI.c5).1 gX5_fee_X5_permitOf rfl rfl rfl (by decide +kernel) ⟨Nat.le_of_ble_eq_true rfl, Nat.le_of_ble_eq_true rfl⟩ (wF_PW (hI.obj (kd := 5) (k := 0) (by omega) hI.c5).2) rfl rfl rfl rfl (Nat.le_of_ble_eq_true rfl) dX5_fee_2 ⟨Nat.le_of_ble_eq_true rfl, Nat.le_of_ble_eq_true rfl⟩ (fun X9 S9 h9 => by obtain ⟨hX9, hx9, hS9⟩ := h9; rw [hX9, hS9]; exact gx_out E hE hT (Nat.le_of_ble_eq_true rfl) (Nat.le_of_ble_eq_true rfl) ⟨S, rfl, ⟨rfl, hx9, rfl⟩⟩) (fun v9 S9_2 h9 => ?_)
  obtain ⟨hS9, k_2, hk_2, hx_2, hv9⟩ := h9
  rw [hv9, hS9]
  subst hx_2
  show G C (cW (xy C) S) 1 6 5 [(0, .ref (ad 5 0)), (1, .int (nI k_2))] [.ref (ad 2 k_2)]
  refine g_astore_n (L' := [(2, .ref (ad 2 k_2)), (0, .ref (ad 5 0)), (1, .int (nI k_2))]) E dX5_fee_5 rfl (by decide) rfl ?_
  refine g_aload_n E dX5_fee_6 rfl 0 rfl ?_
  refine q_getN_Permit_opening E hI hk_2 (fun _ h => (List.mem_cons_of_mem _ (List.mem_append_left _ (List.mem_append_left _ (List.mem_append_left _ (List.mem_append_left _ (List.mem_append_right _ h))))))) tbF_RX5_185 dX5_fee_7 (fun n_7 => ?_) (fun y_7 n_7 b_7 => ?_)
  · refine g_ifnullN (tgt := 21) E dX5_fee_10 (by decide) ?_
    refine g_iconst (v := 0) E dX5_fee_21 (by decide) ?_
    exact g_iret E hE hr dX5_fee_22 (Nat.le_of_ble_eq_true rfl) (Nat.le_of_ble_eq_true rfl) ⟨S, rfl, rfl, k_2, hk_2, rfl, by rw [n_7]⟩
  · refine g_ifnull E dX5_fee_10 ?_
    refine g_aload_n E dX5_fee_13 rfl 0 rfl ?_
    refine q_getN_Permit_state E hI hk_2 (fun _ h => (List.mem_cons_of_mem _ (List.mem_append_left _ (List.mem_append_left _ (List.mem_append_left _ (List.mem_append_left _ (List.mem_append_right _ h))))))) tbF_RX5_146 dX5_fee_14 ?_
    refine g_iconst (v := 4) E dX5_fee_17 (by decide) ?_
    refine g_icmp_ne (tgt := 23) E dX5_fee_18 (by decide) (fun c_18 => ?_) (fun c_18 => ?_)
    · refine g_aload_n E dX5_fee_23 rfl 0 rfl ?_
      refine q_getN_Permit_opening E hI hk_2 (fun _ h => (List.mem_cons_of_mem _ (List.mem_append_left _ (List.mem_append_left _ (List.mem_append_left _ (List.mem_append_left _ (List.mem_append_right _ h))))))) tbF_RX5_185 dX5_fee_24 (fun n_24 => ?_) (fun y_24 n_24 b_24 => ?_)
      · exact absurd (n_7.symm.trans n_24) (by simp)
      · obtain rfl : y_7 = y_24 := Option.some.inj (n_7.symm.trans n_24)
        refine g_aload_n E dX5_fee_27 rfl 0 rfl ?_
        refine q_getN_Permit_number E hI hk_2 (fun _ h => (List.mem_cons_of_mem _ (List.mem_append_left _ (List.mem_append_left _ (List.mem_append_left _ (List.mem_append_left _ (List.mem_append_right _ h))))))) tbF_RX5_143 dX5_fee_28 ?_
        refine c_invV (n := 1) (rest := []) E (m_X1_shareOf (xl C) E.tr (xD C) (xy C) e0 (n := i 5 k_2) hI b_7) (hI.obj (kd := 1) (k := y_7) (by omega) b_7).1 gX5_fee_X1_shareOf rfl rfl rfl (by decide +kernel) ⟨Nat.le_of_ble_eq_true rfl, Nat.le_of_ble_eq_true rfl⟩ (wF_Opening (hI.obj (kd := 1) (k := y_7) (by omega) b_7).2) rfl rfl rfl rfl (Nat.le_of_ble_eq_true rfl) dX5_fee_31 ⟨Nat.le_of_ble_eq_true rfl, Nat.le_of_ble_eq_true rfl⟩ (fun _ _ h9 => h9.elim) (fun v9 S9_31 h9 => ?_)
        obtain ⟨hv9, hS9⟩ := h9
        rw [hv9, hS9]
        show G C (cW (xy C) S) 1 6 34 [(2, .ref (ad 2 k_2)), (0, .ref (ad 5 0)), (1, .int (nI k_2))] [.int ((shI (j 1 y_7) (i 3 y_7) (i 4 y_7) (i 5 k_2)))]
        exact g_iret E hE hr dX5_fee_34 (Nat.le_of_ble_eq_true rfl) (Nat.le_of_ble_eq_true rfl) ⟨S, rfl, rfl, k_2, hk_2, rfl, by rw [n_7]; exact congrArg (fun z => some (Value.int z)) (if_neg c_18).symm⟩
    · refine g_iconst (v := 0) E dX5_fee_21 (by decide) ?_
      exact g_iret E hE hr dX5_fee_22 (Nat.le_of_ble_eq_true rfl) (Nat.le_of_ble_eq_true rfl) ⟨S, rfl, rfl, k_2, hk_2, rfl, by rw [n_7]; exact congrArg (fun z => some (Value.int z)) (if_pos c_18).symm⟩
abbrev rm_X5_isClosed : Room := { frames := 7, cells := 1, slots := 6, locals := 121 }
set_option maxHeartbeats 4000000 in
set_option maxRecDepth 100000 in
theorem m_X5_isClosed (l : Launch) (hl : l.stackTraces = false) (D : va_G) (cy : Nat → ClassId) (e0 : Nat) {S : wS} {c : Nat → Nat} {ad : Nat → Nat → Nat} {i : Nat → Nat → Int32} {j : Nat → Nat → Int64} {p : Nat → Nat → Option Nat} {r : Nat → Nat → Int32} (hI : CI e0 S c ad i j p r) {x : Int32} {m : Nat} (hm : i 15 0 = nI m) (hm2 : m ≤ 24) : cMet l yX5_isClosed wsX5_isClosed rm_X5_isClosed D cy e0 [.ref (ad 5 0), .int (x)] S (fun v S' => S' = S ∧ ∃ k, k < m ∧ x = nI k ∧ v = some (.int (bI (¬ (clM (fun k => i 11 k) (fun k => i 7 k) none (c 2)) &&& ((1 : Int32) <<< (nI k &&& 31)) = 0)))) (fun X S' => (X = "java/lang/IndexOutOfBoundsException" ∧ (∀ k, k < m → x ≠ nI k) ∧ S' = S)) 1 6 := by
  refine gMet.of (cc := cX5_isClosed) (maxL := 2) (ret := (some .boolean)) hl (by decide) rfl (Nat.le_of_ble_eq_true rfl) ?_
  intro C E h1 h2 h3 hr hnm hT hE
  subst h1; subst h2; subst h3
  have E : gOk C cX5_isClosed 2 wsX5_isClosed RX5 e0 rm_X5_isClosed := E
  show G C (cW (xy C) S) 0 0 0 [(0, .ref (ad 5 0)), (1, .int (x))] []
  refine g_aload_n E dX5_isClosed_0 rfl 0 rfl ?_
  refine g_iload_n E dX5_isClosed_1 rfl 1 rfl ?_
  refine c_invV (n := 1) (rest := []) E (m_X5_checkLane (xl C) E.tr (xD C) (xy C) e0 (S := S) hI hm hm2) (hI.obj (kd := 5) (k := 0) (by omega) hI.c5).1 gX5_isClosed_X5_checkLane rfl rfl rfl (by decide +kernel) ⟨Nat.le_of_ble_eq_true rfl, Nat.le_of_ble_eq_true rfl⟩ (wF_PW (hI.obj (kd := 5) (k := 0) (by omega) hI.c5).2) rfl rfl rfl rfl (Nat.le_of_ble_eq_true rfl) dX5_isClosed_2 ⟨Nat.le_of_ble_eq_true rfl, Nat.le_of_ble_eq_true rfl⟩ (fun X9 S9 h9 => by obtain ⟨hX9, hx9, hS9⟩ := h9; rw [hX9, hS9]; exact gx_out E hE hT (Nat.le_of_ble_eq_true rfl) (Nat.le_of_ble_eq_true rfl) ⟨S, rfl, ⟨rfl, hx9, rfl⟩⟩) (fun v9 S9_2 h9 => ?_)
  obtain ⟨hv9, hS9, k_2, hk_2, hx_2⟩ := h9
  rw [hv9, hS9]
  subst hx_2
  show G C (cW (xy C) S) 1 6 5 [(0, .ref (ad 5 0)), (1, .int (nI k_2))] []
  refine g_aload_n E dX5_isClosed_5 rfl 0 rfl ?_
  refine c_invV (n := 0) (rest := []) E (m_X5_closedNow (xl C) E.tr (xD C) (xy C) e0 hI) (hI.obj (kd := 5) (k := 0) (by omega) hI.c5).1 gX5_isClosed_X5_closedNow rfl rfl rfl (by decide +kernel) ⟨Nat.le_of_ble_eq_true rfl, Nat.le_of_ble_eq_true rfl⟩ (wF_PW (hI.obj (kd := 5) (k := 0) (by omega) hI.c5).2) rfl rfl rfl rfl (Nat.le_of_ble_eq_true rfl) dX5_isClosed_6 ⟨Nat.le_of_ble_eq_true rfl, Nat.le_of_ble_eq_true rfl⟩ (fun _ _ h9 => h9.elim) (fun v9 S9_6 h9 => ?_)
  obtain ⟨hv9, hS9⟩ := h9
  rw [hv9, hS9]
  show G C (cW (xy C) S) 1 6 9 [(0, .ref (ad 5 0)), (1, .int (nI k_2))] [.int ((clM (fun k => i 11 k) (fun k => i 7 k) none (c 2)))]
  refine g_iconst (v := 1) E dX5_isClosed_9 (by decide) ?_
  refine g_iload_n E dX5_isClosed_10 rfl 1 rfl ?_
  refine g_ishl E dX5_isClosed_11 ?_
  refine g_iand E dX5_isClosed_12 ?_
  refine g_if_eq (tgt := 20) E dX5_isClosed_13 (by decide) (fun c_13 => ?_) (fun c_13 => ?_)
  · refine g_iconst (v := 0) E dX5_isClosed_20 (by decide) ?_
    exact g_zret E hE hr (Or.inl rfl) dX5_isClosed_21 (Nat.le_of_ble_eq_true rfl) (Nat.le_of_ble_eq_true rfl) ⟨S, rfl, rfl, k_2, hk_2, rfl, by rw [bI_f (P := ¬ _) (fun q => q c_13)]⟩
  · refine g_iconst (v := 1) E dX5_isClosed_16 (by decide) ?_
    refine g_goto (tgt := 21) E dX5_isClosed_17 (by decide) ?_
    exact g_zret E hE hr (Or.inr rfl) dX5_isClosed_21 (Nat.le_of_ble_eq_true rfl) (Nat.le_of_ble_eq_true rfl) ⟨S, rfl, rfl, k_2, hk_2, rfl, by rw [bI_t (P := ¬ _) c_13]⟩
abbrev rm_X5_openings : Room := { frames := 7, cells := 2, slots := 12, locals := 121 }
set_option maxHeartbeats 4000000 in
set_option maxRecDepth 100000 in
theorem m_X5_openings (l : Launch) (hl : l.stackTraces = false) (D : va_G) (cy : Nat → ClassId) (e0 : Nat) {S : wS} {c : Nat → Nat} {ad : Nat → Nat → Nat} {i : Nat → Nat → Int32} {j : Nat → Nat → Int64} {p : Nat → Nat → Option Nat} {r : Nat → Nat → Int32} (hI : CI e0 S c ad i j p r) {x s : Int32} {m : Nat} (hm : i 15 0 = nI m) (hm2 : m ≤ 24) : cMet l yX5_openings wsX5_openings rm_X5_openings D cy e0 [.ref (ad 5 0), .int (x), .int (s)] S (fun v S' => S' = S ∧ ∃ k, k < m ∧ x = nI k ∧ ¬ s < 0 ∧ ¬ 10 < s ∧ v = some (.int (cntI (fun y => none ≠ some y ∧ i 2 y = nI k ∧ ¬ j 1 y = 0 ∧ i 3 y / 500 = s) (c 1)))) (fun X S' => (X = "java/lang/IndexOutOfBoundsException" ∧ (∀ k, k < m → x ≠ nI k) ∧ S' = S) ∨ (X = "java/lang/IllegalArgumentException" ∧ (∃ k, k < m ∧ x = nI k ∧ (s < 0 ∨ 10 < s)) ∧ S' = S)) 2 12 := by
  refine gMet.of (cc := cX5_openings) (maxL := 3) (ret := (some .int)) hl (by decide) rfl (Nat.le_of_ble_eq_true rfl) ?_
  intro C E h1 h2 h3 hr hnm hT hE
  subst h1; subst h2; subst h3
  have E : gOk C cX5_openings 3 wsX5_openings RX5 e0 rm_X5_openings := E
  show G C (cW (xy C) S) 0 0 0 [(0, .ref (ad 5 0)), (1, .int (x)), (2, .int (s))] []
  refine g_aload_n E dX5_openings_0 rfl 0 rfl ?_
  refine g_iload_n E dX5_openings_1 rfl 1 rfl ?_
  refine c_invV (n := 1) (rest := []) E (m_X5_checkLane (xl C) E.tr (xD C) (xy C) e0 (S := S) hI hm hm2) (hI.obj (kd := 5) (k := 0) (by omega) hI.c5).1 gX5_openings_X5_checkLane rfl rfl rfl (by decide +kernel) ⟨Nat.le_of_ble_eq_true rfl, Nat.le_of_ble_eq_true rfl⟩ (wF_PW (hI.obj (kd := 5) (k := 0) (by omega) hI.c5).2) rfl rfl rfl rfl (Nat.le_of_ble_eq_true rfl) dX5_openings_2 ⟨Nat.le_of_ble_eq_true rfl, Nat.le_of_ble_eq_true rfl⟩ (fun X9 S9 h9 => by obtain ⟨hX9, hx9, hS9⟩ := h9; rw [hX9, hS9]; exact gx_out E hE hT (Nat.le_of_ble_eq_true rfl) (Nat.le_of_ble_eq_true rfl) ⟨S, rfl, Or.inl ⟨rfl, hx9, rfl⟩⟩) (fun v9 S9_2 h9 => ?_)
  obtain ⟨hv9, hS9, k_2, hk_2, hx_2⟩ := h9
  rw [hv9, hS9]
  subst hx_2
  show G C (cW (xy C) S) 1 6 5 [(0, .ref (ad 5 0)), (1, .int (nI k_2)), (2, .int (s))] []
  refine g_iload_n E dX5_openings_5 rfl 2 rfl ?_
  refine g_if_lt (tgt := 15) E dX5_openings_6 (by decide) (fun c_6 => ?_) (fun c_6 => ?_)
  · exact g_throwS E hE hT "java/lang/IllegalArgumentException" "seasons are 0 to 10" ["java/lang/RuntimeException", "java/lang/Exception"] 37 194 41 (by decide) (by decide) (List.mem_cons_of_mem _ (List.mem_append_left _ (List.mem_append_left _ (List.mem_append_left _ (List.mem_append_left _ (List.mem_append_left _ (List.mem_append_left _ (List.mem_append_left _ (List.mem_of_getElem? (i := 0) rfl))))))))) (List.mem_cons_of_mem _ (List.mem_append_left _ (List.mem_append_left _ (List.mem_append_left _ (List.mem_append_left _ (List.mem_append_left _ (List.mem_append_left _ (List.mem_append_left _ (List.mem_of_getElem? (i := 1) rfl))))))))) tbS_RX5_194 (fun _ h => (List.mem_cons_of_mem _ (List.mem_append_left _ (List.mem_append_right _ h)))) tbX_IAE tbG_IAE dX5_openings_15 dX5_openings_18 dX5_openings_19 dX5_openings_21 dX5_openings_24 (Nat.le_of_ble_eq_true rfl) (Nat.le_of_ble_eq_true rfl) (Nat.le_of_ble_eq_true rfl) (Nat.le_of_ble_eq_true rfl) (Nat.le_of_ble_eq_true rfl) (Nat.le_of_ble_eq_true rfl) ⟨S, rfl, Or.inr (⟨rfl, ⟨k_2, hk_2, rfl, Or.inl c_6⟩, rfl⟩)⟩
  · refine g_iload_n E dX5_openings_9 rfl 2 rfl ?_
    refine g_bipush (v := 10) E dX5_openings_10 (by decide) ?_
    refine g_icmp_le (tgt := 25) E dX5_openings_12 (by decide) (fun c_12 => ?_) (fun c_12 => ?_)
    · refine g_aload_n E dX5_openings_25 rfl 0 rfl ?_
      refine g_null E dX5_openings_26 ?_
      refine g_iload_n E dX5_openings_27 rfl 1 rfl ?_
      refine g_iload_n E dX5_openings_28 rfl 2 rfl ?_
      refine c_invV (n := 3) (rest := []) E (m_X5_openingsBeside_N (xl C) E.tr (xD C) (xy C) e0 (x := nI k_2) (s := s) hI) (hI.obj (kd := 5) (k := 0) (by omega) hI.c5).1 gX5_openings_X5_openingsBeside rfl rfl rfl (by decide +kernel) ⟨Nat.le_of_ble_eq_true rfl, Nat.le_of_ble_eq_true rfl⟩ (wF_PW (hI.obj (kd := 5) (k := 0) (by omega) hI.c5).2) rfl rfl rfl rfl (Nat.le_of_ble_eq_true rfl) dX5_openings_29 ⟨Nat.le_of_ble_eq_true rfl, Nat.le_of_ble_eq_true rfl⟩ (fun _ _ h9 => h9.elim) (fun v9 S9_29 h9 => ?_)
      obtain ⟨hv9, hS9⟩ := h9
      rw [hv9, hS9]
      show G C (cW (xy C) S) 1 6 32 [(0, .ref (ad 5 0)), (1, .int (nI k_2)), (2, .int (s))] [.int ((cntI (fun k => none ≠ some k ∧ i 2 k = nI k_2 ∧ ¬ j 1 k = 0 ∧ i 3 k / 500 = s) (c 1)))]
      exact g_iret E hE hr dX5_openings_32 (Nat.le_of_ble_eq_true rfl) (Nat.le_of_ble_eq_true rfl) ⟨S, rfl, rfl, k_2, hk_2, rfl, c_6, Int32.not_lt.mpr c_12, rfl⟩
    · exact g_throwS E hE hT "java/lang/IllegalArgumentException" "seasons are 0 to 10" ["java/lang/RuntimeException", "java/lang/Exception"] 37 194 41 (by decide) (by decide) (List.mem_cons_of_mem _ (List.mem_append_left _ (List.mem_append_left _ (List.mem_append_left _ (List.mem_append_left _ (List.mem_append_left _ (List.mem_append_left _ (List.mem_append_left _ (List.mem_of_getElem? (i := 0) rfl))))))))) (List.mem_cons_of_mem _ (List.mem_append_left _ (List.mem_append_left _ (List.mem_append_left _ (List.mem_append_left _ (List.mem_append_left _ (List.mem_append_left _ (List.mem_append_left _ (List.mem_of_getElem? (i := 1) rfl))))))))) tbS_RX5_194 (fun _ h => (List.mem_cons_of_mem _ (List.mem_append_left _ (List.mem_append_right _ h)))) tbX_IAE tbG_IAE dX5_openings_15 dX5_openings_18 dX5_openings_19 dX5_openings_21 dX5_openings_24 (Nat.le_of_ble_eq_true rfl) (Nat.le_of_ble_eq_true rfl) (Nat.le_of_ble_eq_true rfl) (Nat.le_of_ble_eq_true rfl) (Nat.le_of_ble_eq_true rfl) (Nat.le_of_ble_eq_true rfl) ⟨S, rfl, Or.inr (⟨rfl, ⟨k_2, hk_2, rfl, Or.inr (Int32.not_le.mp c_12)⟩, rfl⟩)⟩
