/-! words for what the methods answer -/
/-- the closed lanes of the first n permits, but for one -/
def clM (st ln : Nat → Int32) (sp : Option Nat) : Nat → Int32
  | 0 => 0
  | n + 1 => if st n = 2 ∧ sp ≠ some n then clM st ln sp n ||| ((1 : Int32) <<< (ln n &&& 31)) else clM st ln sp n
theorem clM_yes {st ln : Nat → Int32} {sp : Option Nat} {n : Nat} (h : st n = 2) (h2 : sp ≠ some n) : clM st ln sp (n + 1) = clM st ln sp n ||| ((1 : Int32) <<< (ln n &&& 31)) := if_pos ⟨h, h2⟩
theorem clM_no {st ln : Nat → Int32} {sp : Option Nat} {n : Nat} (h : ¬ (st n = 2 ∧ sp ≠ some n)) : clM st ln sp (n + 1) = clM st ln sp n := if_neg h
abbrev rm_X5_closedBut : Room := { frames := 3, cells := 0, slots := 0, locals := 64 }
set_option maxHeartbeats 4000000 in
set_option maxRecDepth 100000 in
theorem m_X5_closedBut_N (l : Launch) (hl : l.stackTraces = false) (D : va_G) (cy : Nat → ClassId) (e0 : Nat) {S : wS} {c : Nat → Nat} {ad : Nat → Nat → Nat} {i : Nat → Nat → Int32} {j : Nat → Nat → Int64} {p : Nat → Nat → Option Nat} {r : Nat → Nat → Int32} (hI : CI e0 S c ad i j p r)  : cMet l yX5_closedBut wsX5_closedBut rm_X5_closedBut D cy e0 [.ref (ad 5 0), .null] S (fun v S' => v = some (.int (clM (fun k => i 11 k) (fun k => i 7 k) (none) (c 2))) ∧ S' = S) (fun _ _ => False) 0 0 := by
  refine gMet.of (cc := cX5_closedBut) (maxL := 5) (ret := (some .int)) hl (by decide) rfl (Nat.le_of_ble_eq_true rfl) ?_
  intro C E h1 h2 h3 hr hnm hT hE
  subst h1; subst h2; subst h3
  have E : gOk C cX5_closedBut 5 wsX5_closedBut RX5 e0 rm_X5_closedBut := E
  show G C (cW (xy C) S) 0 0 0 [(0, .ref (ad 5 0)), (1, .null)] []
  have hc := hI.cnt
  refine g_iconst (v := 0) E dX5_closedBut_0 (by decide) ?_
  refine g_istore_n (L' := [(2, .int (0)), (0, .ref (ad 5 0)), (1, .null)]) E dX5_closedBut_1 rfl (by decide) rfl ?_
  refine g_iconst (v := 0) E dX5_closedBut_2 (by decide) ?_
  refine g_istore_n (L' := [(3, .int (0)), (2, .int (0)), (0, .ref (ad 5 0)), (1, .null)]) E dX5_closedBut_3 rfl (by decide) rfl ?_
  refine g_locals [(0, .ref (ad 5 0)), (1, .null), (2, .int (0)), (3, .int (0))] [2, 3, 1, 0] rfl ?_
  have loop_4 : ∀ (n_4 k : Nat), k ≤ c 2 → c 2 < n_4 + k → G C (cW (xy C) S) 0 0 4 [(0, .ref (ad 5 0)), (1, .null), (2, .int (clM (fun k => i 11 k) (fun k => i 7 k) (none) k)), (3, .int (nI k))] [] := by
    intro n_4
    induction n_4 with
    | zero => intro k h1 h2; exact absurd h2 (by omega)
    | succ n_4 ih_4 =>
      intro k h1_4 h2_4
      refine g_iload_n E dX5_closedBut_4 rfl 3 rfl ?_
      refine g_aload_n E dX5_closedBut_5 rfl 0 rfl ?_
      refine q_get_PW_permits E hI (fun _ h => (List.mem_cons_of_mem _ (List.mem_append_left _ (List.mem_append_left _ (List.mem_append_right _ h))))) (List.mem_cons_of_mem _ (List.mem_append_left _ (List.mem_append_left _ (List.mem_append_left _ (List.mem_append_left _ (List.mem_of_getElem? (i := 0) rfl)))))) dX5_closedBut_6 ?_
      refine c_invV (n := 0) (rest := [.int (nI k)]) E (m_Jx4a65c_size_8abf5 (xl C) E.tr (xD C) (xy C) e0 hI.lists.2.1) (hI.obj (kd := 6) (k := 1) (by omega) (by have := hI.cnt; omega)).1 gX5_closedBut_Jx4a65c_size_8abf5 rfl rfl rfl (by decide +kernel) ⟨Nat.le_of_ble_eq_true rfl, Nat.le_of_ble_eq_true rfl⟩ (wF_AL (hI.obj (kd := 6) (k := 1) (by omega) (by have := hI.cnt; omega)).2) rfl rfl rfl rfl (Nat.le_of_ble_eq_true rfl) dX5_closedBut_9 ⟨Nat.le_of_ble_eq_true rfl, Nat.le_of_ble_eq_true rfl⟩ (fun _ _ h9 => h9.elim) (fun v9 S9 h9 => ?_)
      obtain ⟨hv9, hS9⟩ := h9
      rw [hv9, hS9]
      show G C (cW (xy C) S) 0 0 12 [(0, .ref (ad 5 0)), (1, .null), (2, .int (clM (fun k => i 11 k) (fun k => i 7 k) (none) k)), (3, .int (nI k))] [.int (nI (c 2)), .int (nI k)]
      refine g_icmp_ge (tgt := 59) E dX5_closedBut_12 (by decide) (fun c_12 => ?_) (fun c_12 => ?_)
      · have e_k : k = c 2 := Nat.le_antisymm h1_4 (nI_ge_nat (by omega) (by omega) c_12)
        refine g_iload_n E dX5_closedBut_59 rfl 2 rfl ?_
        exact g_iret E hE hr dX5_closedBut_60 (Nat.le_of_ble_eq_true rfl) (Nat.le_of_ble_eq_true rfl) ⟨S, rfl, by rw [e_k], rfl⟩
      · have hk_k : k < c 2 := nI_nge_nat (by omega) (by omega) c_12
        refine g_aload_n E dX5_closedBut_15 rfl 0 rfl ?_
        refine q_get_PW_permits E hI (fun _ h => (List.mem_cons_of_mem _ (List.mem_append_left _ (List.mem_append_left _ (List.mem_append_right _ h))))) (List.mem_cons_of_mem _ (List.mem_append_left _ (List.mem_append_left _ (List.mem_append_left _ (List.mem_append_left _ (List.mem_of_getElem? (i := 0) rfl)))))) dX5_closedBut_16 ?_
        refine g_iload_n E dX5_closedBut_19 rfl 3 rfl ?_
        refine c_invV (n := 1) (rest := []) E (m_Jx4a65c_get_915e3 (xl C) E.tr (xD C) (xy C) e0 hI.lists.2.1 (k := k) hk_k) (hI.obj (kd := 6) (k := 1) (by omega) (by have := hI.cnt; omega)).1 gX5_closedBut_Jx4a65c_get_915e3 rfl rfl rfl (by decide +kernel) ⟨Nat.le_of_ble_eq_true rfl, Nat.le_of_ble_eq_true rfl⟩ (wF_AL (hI.obj (kd := 6) (k := 1) (by omega) (by have := hI.cnt; omega)).2) rfl rfl rfl rfl (Nat.le_of_ble_eq_true rfl) dX5_closedBut_20 ⟨Nat.le_of_ble_eq_true rfl, Nat.le_of_ble_eq_true rfl⟩ (fun _ _ h9 => h9.elim) (fun v9 S9 h9 => ?_)
        obtain ⟨hv9, hS9⟩ := h9
        rw [hv9, hS9]
        show G C (cW (xy C) S) 0 0 23 [(0, .ref (ad 5 0)), (1, .null), (2, .int (clM (fun k => i 11 k) (fun k => i 7 k) (none) k)), (3, .int (nI k))] [.ref (ad 2 k)]
        refine p_cast E (List.mem_cons_of_mem _ (List.mem_append_left _ (List.mem_append_left _ (List.mem_append_left _ (List.mem_append_left _ (List.mem_of_getElem? (i := 1) rfl)))))) (hI.obj (kd := 2) (k := k) (by omega) hk_k).1 (wF_Permit (hI.obj (kd := 2) (k := k) (by omega) hk_k).2) rfl rfl dX5_closedBut_23 ?_
        refine g_astore (L' := [(4, .ref (ad 2 k)), (0, .ref (ad 5 0)), (1, .null), (2, .int (clM (fun k => i 11 k) (fun k => i 7 k) (none) k)), (3, .int (nI k))]) E dX5_closedBut_26 (by decide) rfl ?_
        refine g_aload E dX5_closedBut_28 0 rfl ?_
        refine q_getN_Permit_state E hI hk_k (fun _ h => (List.mem_cons_of_mem _ (List.mem_append_left _ (List.mem_append_right _ h)))) tbF_RX5_146 dX5_closedBut_30 ?_
        refine g_iconst (v := 2) E dX5_closedBut_33 (by decide) ?_
        refine g_icmp_ne (tgt := 53) E dX5_closedBut_34 (by decide) (fun c_34 => ?_) (fun c_34 => ?_)
        · refine g_iinc (v := nI (k + 1)) (L' := [(3, .int (nI (k + 1))), (4, .ref (ad 2 k)), (0, .ref (ad 5 0)), (1, .null), (2, .int (clM (fun k => i 11 k) (fun k => i 7 k) (none) k))]) E dX5_closedBut_53 4 rfl (nI_1 k) (by decide) rfl ?_
          refine g_goto (tgt := 4) E dX5_closedBut_56 (by decide) ?_
          refine g_locals [(0, .ref (ad 5 0)), (1, .null), (2, .int (clM (fun k => i 11 k) (fun k => i 7 k) (none) k)), (3, .int (nI (k + 1)))] [2, 3, 4, 0] rfl ?_
          refine g_L (L' := [(0, .ref (ad 5 0)), (1, .null), (2, .int (clM (fun k => i 11 k) (fun k => i 7 k) (none) (k + 1))), (3, .int (nI (k + 1)))]) (by rw [clM_no (st := fun k => i 11 k) (ln := fun k => i 7 k) (sp := none) (fun h => c_34 h.1)]) (ih_4 (k + 1) (by omega) (by omega))
        · refine g_aload E dX5_closedBut_37 0 rfl ?_
          refine g_aload_nN E dX5_closedBut_39 rfl 2 rfl ?_
          refine g_acmp_eq (rx := (some (ad 2 k))) (ry := none) (hvx := rfl) (hvy := rfl) (tgt := 53) E dX5_closedBut_40 (by decide) (fun c_40 => ?_) (fun c_40 => ?_)
          · exact absurd c_40 (by simp)
          · refine g_iload_n E dX5_closedBut_43 rfl 3 rfl ?_
            refine g_iconst (v := 1) E dX5_closedBut_44 (by decide) ?_
            refine g_aload E dX5_closedBut_45 0 rfl ?_
            refine q_getN_Permit_lane E hI hk_k (fun _ h => (List.mem_cons_of_mem _ (List.mem_append_left _ (List.mem_append_right _ h)))) tbF_RX5_241 dX5_closedBut_47 ?_
            refine g_ishl E dX5_closedBut_50 ?_
            refine g_ior E dX5_closedBut_51 ?_
            refine g_istore_n (L' := [(2, .int ((clM (fun k => i 11 k) (fun k => i 7 k) (none) k ||| (1 <<< (i 7 k &&& 31))))), (4, .ref (ad 2 k)), (0, .ref (ad 5 0)), (1, .null), (3, .int (nI k))]) E dX5_closedBut_52 rfl (by decide) rfl ?_
            refine g_iinc (v := nI (k + 1)) (L' := [(3, .int (nI (k + 1))), (2, .int ((clM (fun k => i 11 k) (fun k => i 7 k) (none) k ||| (1 <<< (i 7 k &&& 31))))), (4, .ref (ad 2 k)), (0, .ref (ad 5 0)), (1, .null)]) E dX5_closedBut_53 4 rfl (nI_1 k) (by decide) rfl ?_
            refine g_goto (tgt := 4) E dX5_closedBut_56 (by decide) ?_
            refine g_locals [(0, .ref (ad 5 0)), (1, .null), (2, .int ((clM (fun k => i 11 k) (fun k => i 7 k) (none) k ||| (1 <<< (i 7 k &&& 31))))), (3, .int (nI (k + 1)))] [3, 4, 1, 0] rfl ?_
            refine g_L (L' := [(0, .ref (ad 5 0)), (1, .null), (2, .int (clM (fun k => i 11 k) (fun k => i 7 k) (none) (k + 1))), (3, .int (nI (k + 1)))]) (by rw [clM_yes (st := fun k => i 11 k) (ln := fun k => i 7 k) (sp := none) c_34 (by simp)]) (ih_4 (k + 1) (by omega) (by omega))
  exact loop_4 (c 2 + 1) 0 (by omega) (by omega)
set_option maxHeartbeats 4000000 in
set_option maxRecDepth 100000 in
theorem m_X5_closedBut (l : Launch) (hl : l.stackTraces = false) (D : va_G) (cy : Nat → ClassId) (e0 : Nat) {S : wS} {c : Nat → Nat} {ad : Nat → Nat → Nat} {i : Nat → Nat → Int32} {j : Nat → Nat → Int64} {p : Nat → Nat → Option Nat} {r : Nat → Nat → Int32} (hI : CI e0 S c ad i j p r) {sp : Nat} (hsp : sp < c 2) : cMet l yX5_closedBut wsX5_closedBut rm_X5_closedBut D cy e0 [.ref (ad 5 0), .ref (ad 2 sp)] S (fun v S' => v = some (.int (clM (fun k => i 11 k) (fun k => i 7 k) (some sp) (c 2))) ∧ S' = S) (fun _ _ => False) 0 0 := by
  refine gMet.of (cc := cX5_closedBut) (maxL := 5) (ret := (some .int)) hl (by decide) rfl (Nat.le_of_ble_eq_true rfl) ?_
  intro C E h1 h2 h3 hr hnm hT hE
  subst h1; subst h2; subst h3
  have E : gOk C cX5_closedBut 5 wsX5_closedBut RX5 e0 rm_X5_closedBut := E
  show G C (cW (xy C) S) 0 0 0 [(0, .ref (ad 5 0)), (1, .ref (ad 2 sp))] []
  have hc := hI.cnt
  refine g_iconst (v := 0) E dX5_closedBut_0 (by decide) ?_
  refine g_istore_n (L' := [(2, .int (0)), (0, .ref (ad 5 0)), (1, .ref (ad 2 sp))]) E dX5_closedBut_1 rfl (by decide) rfl ?_
  refine g_iconst (v := 0) E dX5_closedBut_2 (by decide) ?_
  refine g_istore_n (L' := [(3, .int (0)), (2, .int (0)), (0, .ref (ad 5 0)), (1, .ref (ad 2 sp))]) E dX5_closedBut_3 rfl (by decide) rfl ?_
  refine g_locals [(0, .ref (ad 5 0)), (1, .ref (ad 2 sp)), (2, .int (0)), (3, .int (0))] [2, 3, 1, 0] rfl ?_
  have loop_4 : ∀ (n_4 k : Nat), k ≤ c 2 → c 2 < n_4 + k → G C (cW (xy C) S) 0 0 4 [(0, .ref (ad 5 0)), (1, .ref (ad 2 sp)), (2, .int (clM (fun k => i 11 k) (fun k => i 7 k) (some sp) k)), (3, .int (nI k))] [] := by
    intro n_4
    induction n_4 with
    | zero => intro k h1 h2; exact absurd h2 (by omega)
    | succ n_4 ih_4 =>
      intro k h1_4 h2_4
      refine g_iload_n E dX5_closedBut_4 rfl 3 rfl ?_
      refine g_aload_n E dX5_closedBut_5 rfl 0 rfl ?_
      refine q_get_PW_permits E hI (fun _ h => (List.mem_cons_of_mem _ (List.mem_append_left _ (List.mem_append_left _ (List.mem_append_right _ h))))) (List.mem_cons_of_mem _ (List.mem_append_left _ (List.mem_append_left _ (List.mem_append_left _ (List.mem_append_left _ (List.mem_of_getElem? (i := 0) rfl)))))) dX5_closedBut_6 ?_
      refine c_invV (n := 0) (rest := [.int (nI k)]) E (m_Jx4a65c_size_8abf5 (xl C) E.tr (xD C) (xy C) e0 hI.lists.2.1) (hI.obj (kd := 6) (k := 1) (by omega) (by have := hI.cnt; omega)).1 gX5_closedBut_Jx4a65c_size_8abf5 rfl rfl rfl (by decide +kernel) ⟨Nat.le_of_ble_eq_true rfl, Nat.le_of_ble_eq_true rfl⟩ (wF_AL (hI.obj (kd := 6) (k := 1) (by omega) (by have := hI.cnt; omega)).2) rfl rfl rfl rfl (Nat.le_of_ble_eq_true rfl) dX5_closedBut_9 ⟨Nat.le_of_ble_eq_true rfl, Nat.le_of_ble_eq_true rfl⟩ (fun _ _ h9 => h9.elim) (fun v9 S9 h9 => ?_)
      obtain ⟨hv9, hS9⟩ := h9
      rw [hv9, hS9]
      show G C (cW (xy C) S) 0 0 12 [(0, .ref (ad 5 0)), (1, .ref (ad 2 sp)), (2, .int (clM (fun k => i 11 k) (fun k => i 7 k) (some sp) k)), (3, .int (nI k))] [.int (nI (c 2)), .int (nI k)]
      refine g_icmp_ge (tgt := 59) E dX5_closedBut_12 (by decide) (fun c_12 => ?_) (fun c_12 => ?_)
      · have e_k : k = c 2 := Nat.le_antisymm h1_4 (nI_ge_nat (by omega) (by omega) c_12)
        refine g_iload_n E dX5_closedBut_59 rfl 2 rfl ?_
        exact g_iret E hE hr dX5_closedBut_60 (Nat.le_of_ble_eq_true rfl) (Nat.le_of_ble_eq_true rfl) ⟨S, rfl, by rw [e_k], rfl⟩
      · have hk_k : k < c 2 := nI_nge_nat (by omega) (by omega) c_12
        refine g_aload_n E dX5_closedBut_15 rfl 0 rfl ?_
        refine q_get_PW_permits E hI (fun _ h => (List.mem_cons_of_mem _ (List.mem_append_left _ (List.mem_append_left _ (List.mem_append_right _ h))))) (List.mem_cons_of_mem _ (List.mem_append_left _ (List.mem_append_left _ (List.mem_append_left _ (List.mem_append_left _ (List.mem_of_getElem? (i := 0) rfl)))))) dX5_closedBut_16 ?_
        refine g_iload_n E dX5_closedBut_19 rfl 3 rfl ?_
        refine c_invV (n := 1) (rest := []) E (m_Jx4a65c_get_915e3 (xl C) E.tr (xD C) (xy C) e0 hI.lists.2.1 (k := k) hk_k) (hI.obj (kd := 6) (k := 1) (by omega) (by have := hI.cnt; omega)).1 gX5_closedBut_Jx4a65c_get_915e3 rfl rfl rfl (by decide +kernel) ⟨Nat.le_of_ble_eq_true rfl, Nat.le_of_ble_eq_true rfl⟩ (wF_AL (hI.obj (kd := 6) (k := 1) (by omega) (by have := hI.cnt; omega)).2) rfl rfl rfl rfl (Nat.le_of_ble_eq_true rfl) dX5_closedBut_20 ⟨Nat.le_of_ble_eq_true rfl, Nat.le_of_ble_eq_true rfl⟩ (fun _ _ h9 => h9.elim) (fun v9 S9 h9 => ?_)
        obtain ⟨hv9, hS9⟩ := h9
        rw [hv9, hS9]
        show G C (cW (xy C) S) 0 0 23 [(0, .ref (ad 5 0)), (1, .ref (ad 2 sp)), (2, .int (clM (fun k => i 11 k) (fun k => i 7 k) (some sp) k)), (3, .int (nI k))] [.ref (ad 2 k)]
        refine p_cast E (List.mem_cons_of_mem _ (List.mem_append_left _ (List.mem_append_left _ (List.mem_append_left _ (List.mem_append_left _ (List.mem_of_getElem? (i := 1) rfl)))))) (hI.obj (kd := 2) (k := k) (by omega) hk_k).1 (wF_Permit (hI.obj (kd := 2) (k := k) (by omega) hk_k).2) rfl rfl dX5_closedBut_23 ?_
        refine g_astore (L' := [(4, .ref (ad 2 k)), (0, .ref (ad 5 0)), (1, .ref (ad 2 sp)), (2, .int (clM (fun k => i 11 k) (fun k => i 7 k) (some sp) k)), (3, .int (nI k))]) E dX5_closedBut_26 (by decide) rfl ?_
        refine g_aload E dX5_closedBut_28 0 rfl ?_
        refine q_getN_Permit_state E hI hk_k (fun _ h => (List.mem_cons_of_mem _ (List.mem_append_left _ (List.mem_append_right _ h)))) tbF_RX5_146 dX5_closedBut_30 ?_
        refine g_iconst (v := 2) E dX5_closedBut_33 (by decide) ?_
        refine g_icmp_ne (tgt := 53) E dX5_closedBut_34 (by decide) (fun c_34 => ?_) (fun c_34 => ?_)
        · refine g_iinc (v := nI (k + 1)) (L' := [(3, .int (nI (k + 1))), (4, .ref (ad 2 k)), (0, .ref (ad 5 0)), (1, .ref (ad 2 sp)), (2, .int (clM (fun k => i 11 k) (fun k => i 7 k) (some sp) k))]) E dX5_closedBut_53 4 rfl (nI_1 k) (by decide) rfl ?_
          refine g_goto (tgt := 4) E dX5_closedBut_56 (by decide) ?_
          refine g_locals [(0, .ref (ad 5 0)), (1, .ref (ad 2 sp)), (2, .int (clM (fun k => i 11 k) (fun k => i 7 k) (some sp) k)), (3, .int (nI (k + 1)))] [2, 3, 4, 0] rfl ?_
          refine g_L (L' := [(0, .ref (ad 5 0)), (1, .ref (ad 2 sp)), (2, .int (clM (fun k => i 11 k) (fun k => i 7 k) (some sp) (k + 1))), (3, .int (nI (k + 1)))]) (by rw [clM_no (st := fun k => i 11 k) (ln := fun k => i 7 k) (sp := some sp) (fun h => c_34 h.1)]) (ih_4 (k + 1) (by omega) (by omega))
        · refine g_aload E dX5_closedBut_37 0 rfl ?_
          refine g_aload_n E dX5_closedBut_39 rfl 2 rfl ?_
          refine g_acmp_eq (rx := (some (ad 2 k))) (ry := (some (ad 2 sp))) (hvx := rfl) (hvy := rfl) (tgt := 53) E dX5_closedBut_40 (by decide) (fun c_40 => ?_) (fun c_40 => ?_)
          · refine g_iinc (v := nI (k + 1)) (L' := [(3, .int (nI (k + 1))), (4, .ref (ad 2 k)), (0, .ref (ad 5 0)), (1, .ref (ad 2 sp)), (2, .int (clM (fun k => i 11 k) (fun k => i 7 k) (some sp) k))]) E dX5_closedBut_53 4 rfl (nI_1 k) (by decide) rfl ?_
            refine g_goto (tgt := 4) E dX5_closedBut_56 (by decide) ?_
            refine g_locals [(0, .ref (ad 5 0)), (1, .ref (ad 2 sp)), (2, .int (clM (fun k => i 11 k) (fun k => i 7 k) (some sp) k)), (3, .int (nI (k + 1)))] [2, 3, 4, 0] rfl ?_
            refine g_L (L' := [(0, .ref (ad 5 0)), (1, .ref (ad 2 sp)), (2, .int (clM (fun k => i 11 k) (fun k => i 7 k) (some sp) (k + 1))), (3, .int (nI (k + 1)))]) (by rw [clM_no (st := fun k => i 11 k) (ln := fun k => i 7 k) (sp := some sp) (fun h => h.2 (congrArg some (hI.inj (by omega) hk_k hsp (Option.some.inj c_40)).symm))]) (ih_4 (k + 1) (by omega) (by omega))
          · refine g_iload_n E dX5_closedBut_43 rfl 3 rfl ?_
            refine g_iconst (v := 1) E dX5_closedBut_44 (by decide) ?_
            refine g_aload E dX5_closedBut_45 0 rfl ?_
            refine q_getN_Permit_lane E hI hk_k (fun _ h => (List.mem_cons_of_mem _ (List.mem_append_left _ (List.mem_append_right _ h)))) tbF_RX5_241 dX5_closedBut_47 ?_
            refine g_ishl E dX5_closedBut_50 ?_
            refine g_ior E dX5_closedBut_51 ?_
            refine g_istore_n (L' := [(2, .int ((clM (fun k => i 11 k) (fun k => i 7 k) (some sp) k ||| (1 <<< (i 7 k &&& 31))))), (4, .ref (ad 2 k)), (0, .ref (ad 5 0)), (1, .ref (ad 2 sp)), (3, .int (nI k))]) E dX5_closedBut_52 rfl (by decide) rfl ?_
            refine g_iinc (v := nI (k + 1)) (L' := [(3, .int (nI (k + 1))), (2, .int ((clM (fun k => i 11 k) (fun k => i 7 k) (some sp) k ||| (1 <<< (i 7 k &&& 31))))), (4, .ref (ad 2 k)), (0, .ref (ad 5 0)), (1, .ref (ad 2 sp))]) E dX5_closedBut_53 4 rfl (nI_1 k) (by decide) rfl ?_
            refine g_goto (tgt := 4) E dX5_closedBut_56 (by decide) ?_
            refine g_locals [(0, .ref (ad 5 0)), (1, .ref (ad 2 sp)), (2, .int ((clM (fun k => i 11 k) (fun k => i 7 k) (some sp) k ||| (1 <<< (i 7 k &&& 31))))), (3, .int (nI (k + 1)))] [3, 4, 1, 0] rfl ?_
            refine g_L (L' := [(0, .ref (ad 5 0)), (1, .ref (ad 2 sp)), (2, .int (clM (fun k => i 11 k) (fun k => i 7 k) (some sp) (k + 1))), (3, .int (nI (k + 1)))]) (by rw [clM_yes (st := fun k => i 11 k) (ln := fun k => i 7 k) (sp := some sp) c_34 (fun q => c_40 (by rw [Option.some.inj q]))]) (ih_4 (k + 1) (by omega) (by omega))
  exact loop_4 (c 2 + 1) 0 (by omega) (by omega)
