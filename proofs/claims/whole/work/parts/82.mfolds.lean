/-! the model's folds -/
def opC (s : mS) (np : Nat) (x : Int32) : Int32 := cntI (fun p => mr s 17 p = 2 ∧ mr s 12 p = x) np
def mcl (s : mS) (np : Nat) : Nat → Int32
  | 0 => 0
  | n + 1 => mcl s np n ||| (if 0 < opC s np (nI n) then (1 : Int32) <<< (nI n &&& 31) else 0)
theorem mcl_t {s : mS} {np n : Nat} (h : 0 < opC s np (nI n)) : mcl s np (n + 1) = mcl s np n ||| ((1 : Int32) <<< (nI n &&& 31)) := by show mcl s np n ||| (if 0 < opC s np (nI n) then _ else _) = _; rw [if_pos h]
theorem mcl_f {s : mS} {np n : Nat} (h : ¬ 0 < opC s np (nI n)) : mcl s np (n + 1) = mcl s np n ||| 0 := by show mcl s np n ||| (if 0 < opC s np (nI n) then _ else _) = _; rw [if_neg h]
def mfn (s : mS) (x : Int32) : Nat → Int64
  | 0 => 0
  | n + 1 => mfn s x n + (if mr s 11 n = x then 2 * ml s 20 n else 0)
theorem mfn_t {s : mS} {x : Int32} {n : Nat} (h : mr s 11 n = x) : mfn s x (n + 1) = mfn s x n + 2 * ml s 20 n := by show mfn s x n + (if mr s 11 n = x then _ else _) = _; rw [if_pos h]
theorem mfn_f {s : mS} {x : Int32} {n : Nat} (h : ¬ mr s 11 n = x) : mfn s x (n + 1) = mfn s x n + 0 := by show mfn s x n + (if mr s 11 n = x then _ else _) = _; rw [if_neg h]
def ofP (s : mS) (k : Nat) : Prop := ¬ mr s 17 k = 1 ∧ ¬ mr s 17 k = 4
def HOP (s : mS) (np : Nat) : Prop := ∀ p, p < np → ¬ mr s 17 p = 1 → mr s 19 p = nI (tn (mr s 19 p)) ∧ tn (mr s 19 p) < 40
abbrev rm_X6_openOn : Room := { frames := 0, cells := 0, slots := 0, locals := 0 }
set_option maxHeartbeats 4000000 in
set_option maxRecDepth 100000 in
theorem m_X6_openOn (l : Launch) (hl : l.stackTraces = false) (D : va_G) (cy : Nat → ClassId) (e0 : Nat) {ma : Nat → Nat} {s : mS} {np : Nat} (hp0 : mi s 21 = nI np) (hp1 : np ≤ 40) {x : Int32} : mMet l yX6_openOn wsX6_openOn rm_X6_openOn D cy e0 [.ref (ma 0), .int (x)] ma s (fun v s' => v = some (.int (opC s np x)) ∧ s' = s) := by
  refine gMet.of (cc := cX6_openOn) (maxL := 4) (ret := (some .int)) hl (by decide) rfl (Nat.le_of_ble_eq_true rfl) ?_
  intro C E h1 h2 h3 hr hnm hT hE
  subst h1; subst h2; subst h3
  have E : gOk C cX6_openOn 4 wsX6_openOn RX6 e0 rm_X6_openOn := E
  show G C (mW (xy C) ma s) 0 0 0 [(0, .ref (ma 0)), (1, .int (x))] []
  refine g_iconst (v := 0) E dX6_openOn_0 (by decide) ?_
  refine g_istore_n (L' := [(2, .int (0)), (0, .ref (ma 0)), (1, .int (x))]) E dX6_openOn_1 rfl (by decide) rfl ?_
  refine g_iconst (v := 0) E dX6_openOn_2 (by decide) ?_
  refine g_istore_n (L' := [(3, .int (0)), (2, .int (0)), (0, .ref (ma 0)), (1, .int (x))]) E dX6_openOn_3 rfl (by decide) rfl ?_
  refine g_locals [(0, .ref (ma 0)), (1, .int (x)), (2, .int (0)), (3, .int (0))] [2, 3, 1, 0] rfl ?_
  have loop_4 : ∀ (n_4 k : Nat), k ≤ np → np < n_4 + k → G C (mW (xy C) ma s) 0 0 4 [(0, .ref (ma 0)), (1, .int (x)), (2, .int ((cntI (fun p => mr s 17 p = 2 ∧ mr s 12 p = x) k))), (3, .int (nI k))] [] := by
    intro n_4
    induction n_4 with
    | zero => intro k h1 h2; exact absurd h2 (by omega)
    | succ n_4 ih_4 =>
      intro k h1_4 h2_4
      refine g_iload_n E dX6_openOn_4 rfl 3 rfl ?_
      refine g_aload_n E dX6_openOn_5 rfl 0 rfl ?_
      refine k_get_permits (s := s) E (fun _ h => (List.mem_cons_of_mem _ (List.mem_append_right _ h))) (List.mem_cons_of_mem _ (List.mem_append_left _ (List.mem_of_getElem? (i := 0) rfl))) dX6_openOn_6 ?_
      rw [show mi s 21 = nI np from hp0]
      show G C (mW (xy C) ma s) 0 0 9 [(0, .ref (ma 0)), (1, .int (x)), (2, .int ((cntI (fun p => mr s 17 p = 2 ∧ mr s 12 p = x) k))), (3, .int (nI k))] [.int (nI np), .int (nI k)]
      refine g_icmp_ge (tgt := 46) E dX6_openOn_9 (by decide) (fun c_9 => ?_) (fun c_9 => ?_)
      · have e_k : k = np := Nat.le_antisymm h1_4 (nI_ge_nat (by omega) (by omega) c_9)
        refine g_iload_n E dX6_openOn_46 rfl 2 rfl ?_
        exact g_iret E hE hr dX6_openOn_47 (Nat.le_of_ble_eq_true rfl) (Nat.le_of_ble_eq_true rfl) ⟨s, rfl, by rw [e_k]; rfl, rfl⟩
      · have hk_k : k < np := nI_nge_nat (by omega) (by omega) c_9
        refine g_iload_n E dX6_openOn_12 rfl 2 rfl ?_
        refine g_aload_n E dX6_openOn_13 rfl 0 rfl ?_
        refine k_get_state (s := s) E (fun _ h => (List.mem_cons_of_mem _ (List.mem_append_right _ h))) (List.mem_cons_of_mem _ (List.mem_append_left _ (List.mem_of_getElem? (i := 1) rfl))) dX6_openOn_14 ?_
        refine g_iload_n E dX6_openOn_17 rfl 3 rfl ?_
        refine k_ald_state (s := s) E k rfl (by omega) dX6_openOn_18 ?_
        refine g_iconst (v := 2) E dX6_openOn_19 (by decide) ?_
        refine g_icmp_ne (tgt := 37) E dX6_openOn_20 (by decide) (fun c_20 => ?_) (fun c_20 => ?_)
        · refine g_iconst (v := 0) E dX6_openOn_37 (by decide) ?_
          refine g_iadd E dX6_openOn_38 ?_
          refine g_istore_n (L' := [(2, .int (((cntI (fun p => mr s 17 p = 2 ∧ mr s 12 p = x) k) + 0))), (0, .ref (ma 0)), (1, .int (x)), (3, .int (nI k))]) E dX6_openOn_39 rfl (by decide) rfl ?_
          refine g_iinc (v := nI (k + 1)) (L' := [(3, .int (nI (k + 1))), (2, .int (((cntI (fun p => mr s 17 p = 2 ∧ mr s 12 p = x) k) + 0))), (0, .ref (ma 0)), (1, .int (x))]) E dX6_openOn_40 3 rfl (nI_1 k) (by decide) rfl ?_
          refine g_goto (tgt := 4) E dX6_openOn_43 (by decide) ?_
          refine g_locals [(0, .ref (ma 0)), (1, .int (x)), (2, .int (((cntI (fun p => mr s 17 p = 2 ∧ mr s 12 p = x) k) + 0))), (3, .int (nI (k + 1)))] [2, 3, 1, 0] rfl ?_
          refine g_L (L' := [(0, .ref (ma 0)), (1, .int (x)), (2, .int ((cntI (fun p => mr s 17 p = 2 ∧ mr s 12 p = x) (k + 1)))), (3, .int (nI (k + 1)))]) (by rw [cntI_f (P := fun p => mr s 17 p = 2 ∧ mr s 12 p = x) (fun q => c_20 q.1), Int32.add_zero]) (ih_4 (k + 1) (by omega) (by omega))
        · refine g_aload_n E dX6_openOn_23 rfl 0 rfl ?_
          refine k_get_lane (s := s) E (fun _ h => (List.mem_cons_of_mem _ (List.mem_append_right _ h))) (List.mem_cons_of_mem _ (List.mem_append_left _ (List.mem_of_getElem? (i := 2) rfl))) dX6_openOn_24 ?_
          refine g_iload_n E dX6_openOn_27 rfl 3 rfl ?_
          refine k_ald_lane (s := s) E k rfl (by omega) dX6_openOn_28 ?_
          refine g_iload_n E dX6_openOn_29 rfl 1 rfl ?_
          refine g_icmp_ne (tgt := 37) E dX6_openOn_30 (by decide) (fun c_30 => ?_) (fun c_30 => ?_)
          · refine g_iconst (v := 0) E dX6_openOn_37 (by decide) ?_
            refine g_iadd E dX6_openOn_38 ?_
            refine g_istore_n (L' := [(2, .int (((cntI (fun p => mr s 17 p = 2 ∧ mr s 12 p = x) k) + 0))), (0, .ref (ma 0)), (1, .int (x)), (3, .int (nI k))]) E dX6_openOn_39 rfl (by decide) rfl ?_
            refine g_iinc (v := nI (k + 1)) (L' := [(3, .int (nI (k + 1))), (2, .int (((cntI (fun p => mr s 17 p = 2 ∧ mr s 12 p = x) k) + 0))), (0, .ref (ma 0)), (1, .int (x))]) E dX6_openOn_40 3 rfl (nI_1 k) (by decide) rfl ?_
            refine g_goto (tgt := 4) E dX6_openOn_43 (by decide) ?_
            refine g_locals [(0, .ref (ma 0)), (1, .int (x)), (2, .int (((cntI (fun p => mr s 17 p = 2 ∧ mr s 12 p = x) k) + 0))), (3, .int (nI (k + 1)))] [2, 3, 1, 0] rfl ?_
            refine g_L (L' := [(0, .ref (ma 0)), (1, .int (x)), (2, .int ((cntI (fun p => mr s 17 p = 2 ∧ mr s 12 p = x) (k + 1)))), (3, .int (nI (k + 1)))]) (by rw [cntI_f (P := fun p => mr s 17 p = 2 ∧ mr s 12 p = x) (fun q => c_30 q.2), Int32.add_zero]) (ih_4 (k + 1) (by omega) (by omega))
          · refine g_iconst (v := 1) E dX6_openOn_33 (by decide) ?_
            refine g_goto (tgt := 38) E dX6_openOn_34 (by decide) ?_
            refine g_iadd E dX6_openOn_38 ?_
            refine g_istore_n (L' := [(2, .int (((cntI (fun p => mr s 17 p = 2 ∧ mr s 12 p = x) k) + 1))), (0, .ref (ma 0)), (1, .int (x)), (3, .int (nI k))]) E dX6_openOn_39 rfl (by decide) rfl ?_
            refine g_iinc (v := nI (k + 1)) (L' := [(3, .int (nI (k + 1))), (2, .int (((cntI (fun p => mr s 17 p = 2 ∧ mr s 12 p = x) k) + 1))), (0, .ref (ma 0)), (1, .int (x))]) E dX6_openOn_40 3 rfl (nI_1 k) (by decide) rfl ?_
            refine g_goto (tgt := 4) E dX6_openOn_43 (by decide) ?_
            refine g_locals [(0, .ref (ma 0)), (1, .int (x)), (2, .int (((cntI (fun p => mr s 17 p = 2 ∧ mr s 12 p = x) k) + 1))), (3, .int (nI (k + 1)))] [2, 3, 1, 0] rfl ?_
            refine g_L (L' := [(0, .ref (ma 0)), (1, .int (x)), (2, .int ((cntI (fun p => mr s 17 p = 2 ∧ mr s 12 p = x) (k + 1)))), (3, .int (nI (k + 1)))]) (by rw [cntI_t (P := fun p => mr s 17 p = 2 ∧ mr s 12 p = x) ⟨c_20, c_30⟩]) (ih_4 (k + 1) (by omega) (by omega))
  exact loop_4 (np + 1) 0 (by omega) (by omega)
abbrev rm_X6_closed : Room := { frames := 1, cells := 0, slots := 0, locals := 23 }
set_option maxHeartbeats 4000000 in
set_option maxRecDepth 100000 in
theorem m_X6_closed (l : Launch) (hl : l.stackTraces = false) (D : va_G) (cy : Nat → ClassId) (e0 : Nat) {ma : Nat → Nat} {s : mS} {np : Nat} (hp0 : mi s 21 = nI np) (hp1 : np ≤ 40) {M : Nat} (hM : mi s 5 = nI M) (hM1 : M ≤ 24) : mMet l yX6_closed wsX6_closed rm_X6_closed D cy e0 [.ref (ma 0)] ma s (fun v s' => v = some (.int (mcl s np M)) ∧ s' = s) := by
  refine gMet.of (cc := cX6_closed) (maxL := 3) (ret := (some .int)) hl (by decide) rfl (Nat.le_of_ble_eq_true rfl) ?_
  intro C E h1 h2 h3 hr hnm hT hE
  subst h1; subst h2; subst h3
  have E : gOk C cX6_closed 3 wsX6_closed RX6 e0 rm_X6_closed := E
  show G C (mW (xy C) ma s) 0 0 0 [(0, .ref (ma 0))] []
  refine g_iconst (v := 0) E dX6_closed_0 (by decide) ?_
  refine g_istore_n (L' := [(1, .int (0)), (0, .ref (ma 0))]) E dX6_closed_1 rfl (by decide) rfl ?_
  refine g_iconst (v := 0) E dX6_closed_2 (by decide) ?_
  refine g_istore_n (L' := [(2, .int (0)), (1, .int (0)), (0, .ref (ma 0))]) E dX6_closed_3 rfl (by decide) rfl ?_
  refine g_locals [(0, .ref (ma 0)), (1, .int (0)), (2, .int (0))] [2, 1, 0] rfl ?_
  have loop_4 : ∀ (n_4 k : Nat), k ≤ M → M < n_4 + k → G C (mW (xy C) ma s) 0 0 4 [(0, .ref (ma 0)), (1, .int ((mcl s np k))), (2, .int (nI k))] [] := by
    intro n_4
    induction n_4 with
    | zero => intro k h1 h2; exact absurd h2 (by omega)
    | succ n_4 ih_4 =>
      intro k h1_4 h2_4
      refine g_iload_n E dX6_closed_4 rfl 2 rfl ?_
      refine g_aload_n E dX6_closed_5 rfl 0 rfl ?_
      refine k_get_lanes (s := s) E (fun _ h => (List.mem_cons_of_mem _ (List.mem_append_right _ h))) (List.mem_cons_of_mem _ (List.mem_append_left _ (List.mem_of_getElem? (i := 0) rfl))) dX6_closed_6 ?_
      rw [show mi s 5 = nI M from hM]
      show G C (mW (xy C) ma s) 0 0 9 [(0, .ref (ma 0)), (1, .int ((mcl s np k))), (2, .int (nI k))] [.int (nI M), .int (nI k)]
      refine g_icmp_ge (tgt := 36) E dX6_closed_9 (by decide) (fun c_9 => ?_) (fun c_9 => ?_)
      · have e_k : k = M := Nat.le_antisymm h1_4 (nI_ge_nat (by omega) (by omega) c_9)
        refine g_iload_n E dX6_closed_36 rfl 1 rfl ?_
        exact g_iret E hE hr dX6_closed_37 (Nat.le_of_ble_eq_true rfl) (Nat.le_of_ble_eq_true rfl) ⟨s, rfl, by rw [e_k], rfl⟩
      · have hk_k : k < M := nI_nge_nat (by omega) (by omega) c_9
        refine g_iload_n E dX6_closed_12 rfl 1 rfl ?_
        refine g_aload_n E dX6_closed_13 rfl 0 rfl ?_
        refine g_iload_n E dX6_closed_14 rfl 2 rfl ?_
        refine k_invV (n := 1) (rest := [.int ((mcl s np k))]) E (m_X6_openOn (xl C) E.tr (xD C) (xy C) e0 (s := s) (x := nI k) hp0 hp1) gX6_closed_X6_openOn rfl rfl rfl (by decide +kernel) ⟨Nat.le_of_ble_eq_true rfl, Nat.le_of_ble_eq_true rfl⟩ rfl rfl (Nat.le_of_ble_eq_true rfl) dX6_closed_15 ⟨Nat.le_of_ble_eq_true rfl, Nat.le_of_ble_eq_true rfl⟩ (fun v9 s9_15 h9 => ?_)
        obtain ⟨hv9, hS9⟩ := h9
        rw [hv9, hS9]
        show G C (mW (xy C) ma s) 0 0 18 [(0, .ref (ma 0)), (1, .int ((mcl s np k))), (2, .int (nI k))] [.int ((opC s np (nI k))), .int ((mcl s np k))]
        refine g_if_le (tgt := 27) E dX6_closed_18 (by decide) (fun c_18 => ?_) (fun c_18 => ?_)
        · refine g_iconst (v := 0) E dX6_closed_27 (by decide) ?_
          refine g_ior E dX6_closed_28 ?_
          refine g_istore_n (L' := [(1, .int (((mcl s np k) ||| 0))), (0, .ref (ma 0)), (2, .int (nI k))]) E dX6_closed_29 rfl (by decide) rfl ?_
          refine g_iinc (v := nI (k + 1)) (L' := [(2, .int (nI (k + 1))), (1, .int (((mcl s np k) ||| 0))), (0, .ref (ma 0))]) E dX6_closed_30 2 rfl (nI_1 k) (by decide) rfl ?_
          refine g_goto (tgt := 4) E dX6_closed_33 (by decide) ?_
          refine g_locals [(0, .ref (ma 0)), (1, .int (((mcl s np k) ||| 0))), (2, .int (nI (k + 1)))] [2, 1, 0] rfl ?_
          refine g_L (L' := [(0, .ref (ma 0)), (1, .int ((mcl s np (k + 1)))), (2, .int (nI (k + 1)))]) (by rw [mcl_f (Int32.not_lt.mpr c_18)]) (ih_4 (k + 1) (by omega) (by omega))
        · refine g_iconst (v := 1) E dX6_closed_21 (by decide) ?_
          refine g_iload_n E dX6_closed_22 rfl 2 rfl ?_
          refine g_ishl E dX6_closed_23 ?_
          refine g_goto (tgt := 28) E dX6_closed_24 (by decide) ?_
          refine g_ior E dX6_closed_28 ?_
          refine g_istore_n (L' := [(1, .int (((mcl s np k) ||| (1 <<< (nI k &&& 31))))), (0, .ref (ma 0)), (2, .int (nI k))]) E dX6_closed_29 rfl (by decide) rfl ?_
          refine g_iinc (v := nI (k + 1)) (L' := [(2, .int (nI (k + 1))), (1, .int (((mcl s np k) ||| (1 <<< (nI k &&& 31))))), (0, .ref (ma 0))]) E dX6_closed_30 2 rfl (nI_1 k) (by decide) rfl ?_
          refine g_goto (tgt := 4) E dX6_closed_33 (by decide) ?_
          refine g_locals [(0, .ref (ma 0)), (1, .int (((mcl s np k) ||| (1 <<< (nI k &&& 31))))), (2, .int (nI (k + 1)))] [2, 1, 0] rfl ?_
          refine g_L (L' := [(0, .ref (ma 0)), (1, .int ((mcl s np (k + 1)))), (2, .int (nI (k + 1)))]) (by rw [mcl_t (Int32.not_le.mp c_18)]) (ih_4 (k + 1) (by omega) (by omega))
  exact loop_4 (M + 1) 0 (by omega) (by omega)
abbrev rm_X6_isClosed : Room := { frames := 2, cells := 0, slots := 0, locals := 43 }
set_option maxHeartbeats 4000000 in
set_option maxRecDepth 100000 in
theorem m_X6_isClosed (l : Launch) (hl : l.stackTraces = false) (D : va_G) (cy : Nat → ClassId) (e0 : Nat) {ma : Nat → Nat} {s : mS} {np : Nat} (hp0 : mi s 21 = nI np) (hp1 : np ≤ 40) {M : Nat} (hM : mi s 5 = nI M) (hM1 : M ≤ 24) {x : Int32} : mMet l yX6_isClosed wsX6_isClosed rm_X6_isClosed D cy e0 [.ref (ma 0), .int (x)] ma s (fun v s' => (∃ k, k < M ∧ x = nI k ∧ v = some (.int (bI (0 < opC s np (nI k)))) ∧ s' = muI s 0 0) ∨ ((∀ k, k < M → x ≠ nI k) ∧ v = some (.int 0) ∧ s' = muI s 0 1)) := by
  refine gMet.of (cc := cX6_isClosed) (maxL := 2) (ret := (some .boolean)) hl (by decide) rfl (Nat.le_of_ble_eq_true rfl) ?_
  intro C E h1 h2 h3 hr hnm hT hE
  subst h1; subst h2; subst h3
  have E : gOk C cX6_isClosed 2 wsX6_isClosed RX6 e0 rm_X6_isClosed := E
  show G C (mW (xy C) ma s) 0 0 0 [(0, .ref (ma 0)), (1, .int (x))] []
  refine g_aload_n E dX6_isClosed_0 rfl 0 rfl ?_
  refine g_aload_n E dX6_isClosed_1 rfl 0 rfl ?_
  refine g_iload_n E dX6_isClosed_2 rfl 1 rfl ?_
  refine k_invV (n := 1) (rest := [.ref (ma 0)]) E (m_X6_isLane (xl C) E.tr (xD C) (xy C) e0 hM) gX6_isClosed_X6_isLane rfl rfl rfl (by decide +kernel) ⟨Nat.le_of_ble_eq_true rfl, Nat.le_of_ble_eq_true rfl⟩ rfl rfl (Nat.le_of_ble_eq_true rfl) dX6_isClosed_3 ⟨Nat.le_of_ble_eq_true rfl, Nat.le_of_ble_eq_true rfl⟩ (fun v9 s9_3 h9 => ?_)
  obtain ⟨hv9, hS9⟩ := h9
  rw [hv9, hS9]
  show G C (mW (xy C) ma s) 0 0 6 [(0, .ref (ma 0)), (1, .int (x))] [.int ((isIx (x) M)), .ref (ma 0)]
  refine g_if_eq (tgt := 13) E dX6_isClosed_6 (by decide) (fun c_6 => ?_) (fun c_6 => ?_)
  · have hbad := isIx_f (by omega) c_6
    refine g_iconst (v := 1) E dX6_isClosed_13 (by decide) ?_
    refine k_invV (n := 1) (rest := []) E (m_X6_isFine (xl C) E.tr (xD C) (xy C) e0 (s := s) (x := 1)) gX6_isClosed_X6_isFine rfl rfl rfl (by decide +kernel) ⟨Nat.le_of_ble_eq_true rfl, Nat.le_of_ble_eq_true rfl⟩ rfl rfl (Nat.le_of_ble_eq_true rfl) dX6_isClosed_14 ⟨Nat.le_of_ble_eq_true rfl, Nat.le_of_ble_eq_true rfl⟩ (fun v9 s9_14 h9 => ?_)
    obtain ⟨hv9, hS9⟩ := h9
    rw [hv9, hS9]
    rw [show bI ((1 : Int32) = 0) = 0 by decide]
    show G C (mW (xy C) ma (muI s 0 (1))) 0 0 17 [(0, .ref (ma 0)), (1, .int (x))] [.int (0)]
    refine g_if_eq (tgt := 32) E dX6_isClosed_17 (by decide) (fun c_17 => ?_) (fun c_17 => ?_)
    · refine g_iconst (v := 0) E dX6_isClosed_32 (by decide) ?_
      exact g_zret E hE hr (Or.inl rfl) dX6_isClosed_33 (Nat.le_of_ble_eq_true rfl) (Nat.le_of_ble_eq_true rfl) ⟨(muI s 0 (1)), rfl, Or.inr ⟨hbad, rfl, rfl⟩⟩
    · exact absurd c_17 (by decide)
  · obtain ⟨k, hk, hx⟩ := isIx_t (by omega) c_6
    subst hx
    show G C (mW (xy C) ma s) 0 0 9 [(0, .ref (ma 0)), (1, .int (nI k))] [.ref (ma 0)]
    refine g_iconst (v := 0) E dX6_isClosed_9 (by decide) ?_
    refine g_goto (tgt := 14) E dX6_isClosed_10 (by decide) ?_
    refine k_invV (n := 1) (rest := []) E (m_X6_isFine (xl C) E.tr (xD C) (xy C) e0 (s := s) (x := 0)) gX6_isClosed_X6_isFine rfl rfl rfl (by decide +kernel) ⟨Nat.le_of_ble_eq_true rfl, Nat.le_of_ble_eq_true rfl⟩ rfl rfl (Nat.le_of_ble_eq_true rfl) dX6_isClosed_14 ⟨Nat.le_of_ble_eq_true rfl, Nat.le_of_ble_eq_true rfl⟩ (fun v9 s9_14 h9 => ?_)
    obtain ⟨hv9, hS9⟩ := h9
    rw [hv9, hS9]
    rw [show bI ((0 : Int32) = 0) = 1 by decide]
    show G C (mW (xy C) ma (muI s 0 (0))) 0 0 17 [(0, .ref (ma 0)), (1, .int (nI k))] [.int (1)]
    refine g_if_eq (tgt := 32) E dX6_isClosed_17 (by decide) (fun c_17 => ?_) (fun c_17 => ?_)
    · exact absurd c_17 (by decide)
    · refine g_aload_n E dX6_isClosed_20 rfl 0 rfl ?_
      refine g_iload_n E dX6_isClosed_21 rfl 1 rfl ?_
      refine k_invV (n := 1) (rest := []) E (m_X6_openOn (xl C) E.tr (xD C) (xy C) e0 (s := (muI s 0 (0))) (x := nI k) hp0 hp1) gX6_isClosed_X6_openOn rfl rfl rfl (by decide +kernel) ⟨Nat.le_of_ble_eq_true rfl, Nat.le_of_ble_eq_true rfl⟩ rfl rfl (Nat.le_of_ble_eq_true rfl) dX6_isClosed_22 ⟨Nat.le_of_ble_eq_true rfl, Nat.le_of_ble_eq_true rfl⟩ (fun v9 s9_22 h9 => ?_)
      obtain ⟨hv9, hS9⟩ := h9
      rw [hv9, hS9]
      show G C (mW (xy C) ma (muI s 0 (0))) 0 0 25 [(0, .ref (ma 0)), (1, .int (nI k))] [.int ((opC (muI s 0 (0)) np (nI k)))]
      refine g_if_le (tgt := 32) E dX6_isClosed_25 (by decide) (fun c_25 => ?_) (fun c_25 => ?_)
      · refine g_iconst (v := 0) E dX6_isClosed_32 (by decide) ?_
        exact g_zret E hE hr (Or.inl rfl) dX6_isClosed_33 (Nat.le_of_ble_eq_true rfl) (Nat.le_of_ble_eq_true rfl) ⟨(muI s 0 (0)), rfl, Or.inl ⟨k, hk, rfl, by rw [bI_f (P := 0 < opC s np (nI k)) (Int32.not_lt.mpr c_25)], rfl⟩⟩
      · refine g_iconst (v := 1) E dX6_isClosed_28 (by decide) ?_
        refine g_goto (tgt := 33) E dX6_isClosed_29 (by decide) ?_
        exact g_zret E hE hr (Or.inr rfl) dX6_isClosed_33 (Nat.le_of_ble_eq_true rfl) (Nat.le_of_ble_eq_true rfl) ⟨(muI s 0 (0)), rfl, Or.inl ⟨k, hk, rfl, by rw [bI_t (P := 0 < opC s np (nI k)) (Int32.not_le.mp c_25)], rfl⟩⟩
abbrev rm_X6_isOf : Room := { frames := 0, cells := 0, slots := 0, locals := 0 }
set_option maxHeartbeats 4000000 in
set_option maxRecDepth 100000 in
theorem m_X6_isOf (l : Launch) (hl : l.stackTraces = false) (D : va_G) (cy : Nat → ClassId) (e0 : Nat) {ma : Nat → Nat} {s : mS} {k : Nat} (hk : k < 40) : mMet l yX6_isOf wsX6_isOf rm_X6_isOf D cy e0 [.ref (ma 0), .int (nI k)] ma s (fun v s' => v = some (.int (bI (¬ mr s 17 k = 1 ∧ ¬ mr s 17 k = 4))) ∧ s' = s) := by
  refine gMet.of (cc := cX6_isOf) (maxL := 2) (ret := (some .boolean)) hl (by decide) rfl (Nat.le_of_ble_eq_true rfl) ?_
  intro C E h1 h2 h3 hr hnm hT hE
  subst h1; subst h2; subst h3
  have E : gOk C cX6_isOf 2 wsX6_isOf RX6 e0 rm_X6_isOf := E
  show G C (mW (xy C) ma s) 0 0 0 [(0, .ref (ma 0)), (1, .int (nI k))] []
  refine g_aload_n E dX6_isOf_0 rfl 0 rfl ?_
  refine k_get_state (s := s) E (fun _ h => (List.mem_cons_of_mem _ (List.mem_append_right _ h))) (List.mem_cons_of_mem _ (List.mem_append_left _ (List.mem_of_getElem? (i := 0) rfl))) dX6_isOf_1 ?_
  refine g_iload_n E dX6_isOf_4 rfl 1 rfl ?_
  refine k_ald_state (s := s) E k rfl (by omega) dX6_isOf_5 ?_
  refine g_iconst (v := 1) E dX6_isOf_6 (by decide) ?_
  refine g_icmp_eq (tgt := 24) E dX6_isOf_7 (by decide) (fun c_7 => ?_) (fun c_7 => ?_)
  · refine g_iconst (v := 0) E dX6_isOf_24 (by decide) ?_
    exact g_zret E hE hr (Or.inl rfl) dX6_isOf_25 (Nat.le_of_ble_eq_true rfl) (Nat.le_of_ble_eq_true rfl) ⟨s, rfl, by rw [bI_f (P := ¬ mr s 17 k = 1 ∧ ¬ mr s 17 k = 4) (fun q => q.1 c_7)], rfl⟩
  · refine g_aload_n E dX6_isOf_10 rfl 0 rfl ?_
    refine k_get_state (s := s) E (fun _ h => (List.mem_cons_of_mem _ (List.mem_append_right _ h))) (List.mem_cons_of_mem _ (List.mem_append_left _ (List.mem_of_getElem? (i := 0) rfl))) dX6_isOf_11 ?_
    refine g_iload_n E dX6_isOf_14 rfl 1 rfl ?_
    refine k_ald_state (s := s) E k rfl (by omega) dX6_isOf_15 ?_
    refine g_iconst (v := 4) E dX6_isOf_16 (by decide) ?_
    refine g_icmp_eq (tgt := 24) E dX6_isOf_17 (by decide) (fun c_17 => ?_) (fun c_17 => ?_)
    · refine g_iconst (v := 0) E dX6_isOf_24 (by decide) ?_
      exact g_zret E hE hr (Or.inl rfl) dX6_isOf_25 (Nat.le_of_ble_eq_true rfl) (Nat.le_of_ble_eq_true rfl) ⟨s, rfl, by rw [bI_f (P := ¬ mr s 17 k = 1 ∧ ¬ mr s 17 k = 4) (fun q => q.2 c_17)], rfl⟩
    · refine g_iconst (v := 1) E dX6_isOf_20 (by decide) ?_
      refine g_goto (tgt := 25) E dX6_isOf_21 (by decide) ?_
      exact g_zret E hE hr (Or.inr rfl) dX6_isOf_25 (Nat.le_of_ble_eq_true rfl) (Nat.le_of_ble_eq_true rfl) ⟨s, rfl, by rw [bI_t (P := ¬ mr s 17 k = 1 ∧ ¬ mr s 17 k = 4) ⟨c_7, c_17⟩], rfl⟩
abbrev rm_X6_isIn0 : Room := { frames := 1, cells := 0, slots := 0, locals := 21 }
set_option maxHeartbeats 4000000 in
set_option maxRecDepth 100000 in
theorem m_X6_isIn0 (l : Launch) (hl : l.stackTraces = false) (D : va_G) (cy : Nat → ClassId) (e0 : Nat) {ma : Nat → Nat} {s : mS} {k : Nat} (hk : k < 40) {o : Int32} : mMet l yX6_isIn0 wsX6_isIn0 rm_X6_isIn0 D cy e0 [.ref (ma 0), .int (nI k), .int (o)] ma s (fun v s' => v = some (.int (bI ((¬ mr s 17 k = 1 ∧ ¬ mr s 17 k = 4) ∧ mr s 19 k = o))) ∧ s' = s) := by
  refine gMet.of (cc := cX6_isIn0) (maxL := 3) (ret := (some .boolean)) hl (by decide) rfl (Nat.le_of_ble_eq_true rfl) ?_
  intro C E h1 h2 h3 hr hnm hT hE
  subst h1; subst h2; subst h3
  have E : gOk C cX6_isIn0 3 wsX6_isIn0 RX6 e0 rm_X6_isIn0 := E
  show G C (mW (xy C) ma s) 0 0 0 [(0, .ref (ma 0)), (1, .int (nI k)), (2, .int (o))] []
  refine g_aload_n E dX6_isIn0_0 rfl 0 rfl ?_
  refine g_iload_n E dX6_isIn0_1 rfl 1 rfl ?_
  refine k_invV (n := 1) (rest := []) E (m_X6_isOf (xl C) E.tr (xD C) (xy C) e0 (s := s) (k := k) (by omega)) gX6_isIn0_X6_isOf rfl rfl rfl (by decide +kernel) ⟨Nat.le_of_ble_eq_true rfl, Nat.le_of_ble_eq_true rfl⟩ rfl rfl (Nat.le_of_ble_eq_true rfl) dX6_isIn0_2 ⟨Nat.le_of_ble_eq_true rfl, Nat.le_of_ble_eq_true rfl⟩ (fun v9 s9_2 h9 => ?_)
  obtain ⟨hv9, hS9⟩ := h9
  rw [hv9, hS9]
  show G C (mW (xy C) ma s) 0 0 5 [(0, .ref (ma 0)), (1, .int (nI k)), (2, .int (o))] [.int ((bI (¬ mr s 17 k = 1 ∧ ¬ mr s 17 k = 4)))]
  refine g_if_eq (tgt := 22) E dX6_isIn0_5 (by decide) (fun c_5 => ?_) (fun c_5 => ?_)
  · refine g_iconst (v := 0) E dX6_isIn0_22 (by decide) ?_
    exact g_zret E hE hr (Or.inl rfl) dX6_isIn0_23 (Nat.le_of_ble_eq_true rfl) (Nat.le_of_ble_eq_true rfl) ⟨s, rfl, by rw [bI_f (P := (¬ mr s 17 k = 1 ∧ ¬ mr s 17 k = 4) ∧ mr s 19 k = o) (fun q => bI_eq0.mp c_5 q.1)], rfl⟩
  · refine g_aload_n E dX6_isIn0_8 rfl 0 rfl ?_
    refine k_get_opening (s := s) E (fun _ h => (List.mem_cons_of_mem _ (List.mem_append_right _ h))) (List.mem_cons_of_mem _ (List.mem_append_left _ (List.mem_of_getElem? (i := 0) rfl))) dX6_isIn0_9 ?_
    refine g_iload_n E dX6_isIn0_12 rfl 1 rfl ?_
    refine k_ald_opening (s := s) E k rfl (by omega) dX6_isIn0_13 ?_
    refine g_iload_n E dX6_isIn0_14 rfl 2 rfl ?_
    refine g_icmp_ne (tgt := 22) E dX6_isIn0_15 (by decide) (fun c_15 => ?_) (fun c_15 => ?_)
    · refine g_iconst (v := 0) E dX6_isIn0_22 (by decide) ?_
      exact g_zret E hE hr (Or.inl rfl) dX6_isIn0_23 (Nat.le_of_ble_eq_true rfl) (Nat.le_of_ble_eq_true rfl) ⟨s, rfl, by rw [bI_f (P := (¬ mr s 17 k = 1 ∧ ¬ mr s 17 k = 4) ∧ mr s 19 k = o) (fun q => c_15 q.2)], rfl⟩
    · refine g_iconst (v := 1) E dX6_isIn0_18 (by decide) ?_
      refine g_goto (tgt := 23) E dX6_isIn0_19 (by decide) ?_
      exact g_zret E hE hr (Or.inr rfl) dX6_isIn0_23 (Nat.le_of_ble_eq_true rfl) (Nat.le_of_ble_eq_true rfl) ⟨s, rfl, by rw [bI_t (P := (¬ mr s 17 k = 1 ∧ ¬ mr s 17 k = 4) ∧ mr s 19 k = o) ⟨bI_ne0.mp c_5, c_15⟩], rfl⟩
abbrev rm_X6_fines : Room := { frames := 2, cells := 0, slots := 0, locals := 42 }
set_option maxHeartbeats 4000000 in
set_option maxRecDepth 100000 in
theorem m_X6_fines (l : Launch) (hl : l.stackTraces = false) (D : va_G) (cy : Nat → ClassId) (e0 : Nat) {ma : Nat → Nat} {s : mS} {np : Nat} (hp0 : mi s 21 = nI np) (hp1 : np ≤ 40) {x : Int32} : mMet l yX6_fines wsX6_fines rm_X6_fines D cy e0 [.ref (ma 0), .int (x)] ma s (fun v s' => (∃ k, k < 6 ∧ x = nI k ∧ v = some (.long (mfn s (nI k) np)) ∧ s' = muI s 0 0) ∨ ((∀ k, k < 6 → x ≠ nI k) ∧ v = some (.long 0) ∧ s' = muI s 0 1)) := by
  refine gMet.of (cc := cX6_fines) (maxL := 5) (ret := (some .long)) hl (by decide) rfl (Nat.le_of_ble_eq_true rfl) ?_
  intro C E h1 h2 h3 hr hnm hT hE
  subst h1; subst h2; subst h3
  have E : gOk C cX6_fines 5 wsX6_fines RX6 e0 rm_X6_fines := E
  show G C (mW (xy C) ma s) 0 0 0 [(0, .ref (ma 0)), (1, .int (x))] []
  refine g_aload_n E dX6_fines_0 rfl 0 rfl ?_
  refine g_iload_n E dX6_fines_1 rfl 1 rfl ?_
  refine k_invS (n := 1) (rest := [.ref (ma 0)]) E (m_X6_isApplicant (xl C) E.tr (xD C) (xy C) e0 ) gX6_fines_X6_isApplicant rfl rfl rfl (by decide +kernel) ⟨Nat.le_of_ble_eq_true rfl, Nat.le_of_ble_eq_true rfl⟩ rfl rfl (Nat.le_of_ble_eq_true rfl) dX6_fines_2 ⟨Nat.le_of_ble_eq_true rfl, Nat.le_of_ble_eq_true rfl⟩ (fun v9 s9_2 h9 => ?_)
  obtain ⟨hv9, hS9⟩ := h9
  rw [hv9, hS9]
  show G C (mW (xy C) ma s) 0 0 5 [(0, .ref (ma 0)), (1, .int (x))] [.int ((isIx (x) 6)), .ref (ma 0)]
  refine g_if_eq (tgt := 12) E dX6_fines_5 (by decide) (fun c_5 => ?_) (fun c_5 => ?_)
  · have hbad := isIx_f (by omega) c_5
    refine g_iconst (v := 1) E dX6_fines_12 (by decide) ?_
    refine k_invV (n := 1) (rest := []) E (m_X6_isFine (xl C) E.tr (xD C) (xy C) e0 (s := s) (x := 1)) gX6_fines_X6_isFine rfl rfl rfl (by decide +kernel) ⟨Nat.le_of_ble_eq_true rfl, Nat.le_of_ble_eq_true rfl⟩ rfl rfl (Nat.le_of_ble_eq_true rfl) dX6_fines_13 ⟨Nat.le_of_ble_eq_true rfl, Nat.le_of_ble_eq_true rfl⟩ (fun v9 s9_13 h9 => ?_)
    obtain ⟨hv9, hS9⟩ := h9
    rw [hv9, hS9]
    rw [show bI ((1 : Int32) = 0) = 0 by decide]
    show G C (mW (xy C) ma (muI s 0 (1))) 0 0 16 [(0, .ref (ma 0)), (1, .int (x))] [.int (0)]
    refine g_if_ne (tgt := 21) E dX6_fines_16 (by decide) (fun c_16 => ?_) (fun c_16 => ?_)
    · exact absurd c_16 (by decide)
    · refine g_lconst (v := 0) E dX6_fines_19 (by decide) ?_
      exact g_lret E hE hr dX6_fines_20 (Nat.le_of_ble_eq_true rfl) (Nat.le_of_ble_eq_true rfl) ⟨(muI s 0 (1)), rfl, Or.inr ⟨hbad, rfl, rfl⟩⟩
  · obtain ⟨a, ha, hx⟩ := isIx_t (by omega) c_5
    subst hx
    show G C (mW (xy C) ma s) 0 0 8 [(0, .ref (ma 0)), (1, .int (nI a))] [.ref (ma 0)]
    refine g_iconst (v := 0) E dX6_fines_8 (by decide) ?_
    refine g_goto (tgt := 13) E dX6_fines_9 (by decide) ?_
    refine k_invV (n := 1) (rest := []) E (m_X6_isFine (xl C) E.tr (xD C) (xy C) e0 (s := s) (x := 0)) gX6_fines_X6_isFine rfl rfl rfl (by decide +kernel) ⟨Nat.le_of_ble_eq_true rfl, Nat.le_of_ble_eq_true rfl⟩ rfl rfl (Nat.le_of_ble_eq_true rfl) dX6_fines_13 ⟨Nat.le_of_ble_eq_true rfl, Nat.le_of_ble_eq_true rfl⟩ (fun v9 s9_13 h9 => ?_)
    obtain ⟨hv9, hS9⟩ := h9
    rw [hv9, hS9]
    rw [show bI ((0 : Int32) = 0) = 1 by decide]
    show G C (mW (xy C) ma (muI s 0 (0))) 0 0 16 [(0, .ref (ma 0)), (1, .int (nI a))] [.int (1)]
    refine g_if_ne (tgt := 21) E dX6_fines_16 (by decide) (fun c_16 => ?_) (fun c_16 => ?_)
    · refine g_lconst (v := 0) E dX6_fines_21 (by decide) ?_
      refine g_lstore_n (L' := [(2, .long (0)), (0, .ref (ma 0)), (1, .int (nI a))]) E dX6_fines_22 rfl (by decide) rfl ?_
      refine g_iconst (v := 0) E dX6_fines_23 (by decide) ?_
      refine g_istore (L' := [(4, .int (0)), (2, .long (0)), (0, .ref (ma 0)), (1, .int (nI a))]) E dX6_fines_24 (by decide) rfl ?_
      refine g_locals [(0, .ref (ma 0)), (1, .int (nI a)), (2, .long (0)), (4, .int (0))] [2, 3, 1, 0] rfl ?_
      have loop_26 : ∀ (n_26 k : Nat), k ≤ np → np < n_26 + k → G C (mW (xy C) ma (muI s 0 (0))) 0 0 26 [(0, .ref (ma 0)), (1, .int (nI a)), (2, .long ((mfn s (nI a) k))), (4, .int (nI k))] [] := by
        intro n_26
        induction n_26 with
        | zero => intro k h1 h2; exact absurd h2 (by omega)
        | succ n_26 ih_26 =>
          intro k h1_26 h2_26
          refine g_iload E dX6_fines_26 3 rfl ?_
          refine g_aload_n E dX6_fines_28 rfl 0 rfl ?_
          refine k_get_permits (s := (muI s 0 (0))) E (fun _ h => (List.mem_cons_of_mem _ (List.mem_append_right _ h))) (List.mem_cons_of_mem _ (List.mem_append_left _ (List.mem_of_getElem? (i := 0) rfl))) dX6_fines_29 ?_
          rw [show mi (muI s 0 (0)) 21 = nI np from hp0]
          show G C (mW (xy C) ma (muI s 0 (0))) 0 0 32 [(0, .ref (ma 0)), (1, .int (nI a)), (2, .long ((mfn s (nI a) k))), (4, .int (nI k))] [.int (nI np), .int (nI k)]
          refine g_icmp_ge (tgt := 70) E dX6_fines_32 (by decide) (fun c_32 => ?_) (fun c_32 => ?_)
          · have e_k : k = np := Nat.le_antisymm h1_26 (nI_ge_nat (by omega) (by omega) c_32)
            refine g_lload_n E dX6_fines_70 rfl 2 rfl ?_
            exact g_lret E hE hr dX6_fines_71 (Nat.le_of_ble_eq_true rfl) (Nat.le_of_ble_eq_true rfl) ⟨(muI s 0 (0)), rfl, Or.inl ⟨a, ha, rfl, by rw [e_k], rfl⟩⟩
          · have hk_k : k < np := nI_nge_nat (by omega) (by omega) c_32
            refine g_lload_n E dX6_fines_35 rfl 2 rfl ?_
            refine g_aload_n E dX6_fines_36 rfl 0 rfl ?_
            refine k_get_applicant (s := (muI s 0 (0))) E (fun _ h => (List.mem_cons_of_mem _ (List.mem_append_right _ h))) (List.mem_cons_of_mem _ (List.mem_append_left _ (List.mem_of_getElem? (i := 1) rfl))) dX6_fines_37 ?_
            refine g_iload E dX6_fines_40 3 rfl ?_
            refine k_ald_applicant (s := (muI s 0 (0))) E k rfl (by omega) dX6_fines_42 ?_
            refine g_iload_n E dX6_fines_43 rfl 1 rfl ?_
            refine g_icmp_ne (tgt := 61) E dX6_fines_44 (by decide) (fun c_44 => ?_) (fun c_44 => ?_)
            · refine g_lconst (v := 0) E dX6_fines_61 (by decide) ?_
              refine g_ladd E dX6_fines_62 ?_
              refine g_lstore_n (L' := [(2, .long (((mfn s (nI a) k) + 0))), (0, .ref (ma 0)), (1, .int (nI a)), (4, .int (nI k))]) E dX6_fines_63 rfl (by decide) rfl ?_
              refine g_iinc (v := nI (k + 1)) (L' := [(4, .int (nI (k + 1))), (2, .long (((mfn s (nI a) k) + 0))), (0, .ref (ma 0)), (1, .int (nI a))]) E dX6_fines_64 3 rfl (nI_1 k) (by decide) rfl ?_
              refine g_goto (tgt := 26) E dX6_fines_67 (by decide) ?_
              refine g_locals [(0, .ref (ma 0)), (1, .int (nI a)), (2, .long (((mfn s (nI a) k) + 0))), (4, .int (nI (k + 1)))] [2, 3, 1, 0] rfl ?_
              refine g_L (L' := [(0, .ref (ma 0)), (1, .int (nI a)), (2, .long ((mfn s (nI a) (k + 1)))), (4, .int (nI (k + 1)))]) (by rw [show mfn s (nI a) (k + 1) = mfn s (nI a) k + 0 from mfn_f c_44] <;> rfl) (ih_26 (k + 1) (by omega) (by omega))
            · refine g_ldc2 E (List.mem_cons_of_mem _ (List.mem_append_left _ (List.mem_of_getElem? (i := 2) rfl))) dX6_fines_47 ?_
              refine g_aload_n E dX6_fines_50 rfl 0 rfl ?_
              refine k_get_damage (s := (muI s 0 (0))) E (fun _ h => (List.mem_cons_of_mem _ (List.mem_append_right _ h))) (List.mem_cons_of_mem _ (List.mem_append_left _ (List.mem_of_getElem? (i := 3) rfl))) dX6_fines_51 ?_
              refine g_iload E dX6_fines_54 3 rfl ?_
              refine k_ald_damage (s := (muI s 0 (0))) E k rfl (by omega) dX6_fines_56 ?_
              refine g_lmul E dX6_fines_57 ?_
              refine g_goto (tgt := 62) E dX6_fines_58 (by decide) ?_
              refine g_ladd E dX6_fines_62 ?_
              refine g_lstore_n (L' := [(2, .long (((mfn s (nI a) k) + ((2) * ml (muI s 0 (0)) 20 k)))), (0, .ref (ma 0)), (1, .int (nI a)), (4, .int (nI k))]) E dX6_fines_63 rfl (by decide) rfl ?_
              refine g_iinc (v := nI (k + 1)) (L' := [(4, .int (nI (k + 1))), (2, .long (((mfn s (nI a) k) + ((2) * ml (muI s 0 (0)) 20 k)))), (0, .ref (ma 0)), (1, .int (nI a))]) E dX6_fines_64 3 rfl (nI_1 k) (by decide) rfl ?_
              refine g_goto (tgt := 26) E dX6_fines_67 (by decide) ?_
              refine g_locals [(0, .ref (ma 0)), (1, .int (nI a)), (2, .long (((mfn s (nI a) k) + ((2) * ml (muI s 0 (0)) 20 k)))), (4, .int (nI (k + 1)))] [2, 3, 1, 0] rfl ?_
              refine g_L (L' := [(0, .ref (ma 0)), (1, .int (nI a)), (2, .long ((mfn s (nI a) (k + 1)))), (4, .int (nI (k + 1)))]) (by rw [show mfn s (nI a) (k + 1) = mfn s (nI a) k + 2 * ml s 20 k from mfn_t c_44] <;> rfl) (ih_26 (k + 1) (by omega) (by omega))
      exact loop_26 (np + 1) 0 (by omega) (by omega)
    · exact absurd c_16 (by decide)
abbrev rm_X6_from : Room := { frames := 2, cells := 0, slots := 0, locals := 43 }
set_option maxHeartbeats 4000000 in
set_option maxRecDepth 100000 in
theorem m_X6_from (l : Launch) (hl : l.stackTraces = false) (D : va_G) (cy : Nat → ClassId) (e0 : Nat) {ma : Nat → Nat} {s : mS} {np : Nat} (hp0 : mi s 21 = nI np) (hp1 : np ≤ 40) (hop : HOP s np) {x : Int32} : mMet l yX6_from wsX6_from rm_X6_from D cy e0 [.ref (ma 0), .int (x)] ma s (fun v s' => (∃ k, k < np ∧ x = nI k ∧ v = some (.int (if mr s 17 k = 1 then mr s 13 k else mr s 22 (tn (mr s 19 k)))) ∧ s' = muI s 0 0) ∨ ((∀ k, k < np → x ≠ nI k) ∧ v = some (.int 0) ∧ s' = muI s 0 1)) := by
  refine gMet.of (cc := cX6_from) (maxL := 2) (ret := (some .int)) hl (by decide) rfl (Nat.le_of_ble_eq_true rfl) ?_
  intro C E h1 h2 h3 hr hnm hT hE
  subst h1; subst h2; subst h3
  have E : gOk C cX6_from 2 wsX6_from RX6 e0 rm_X6_from := E
  show G C (mW (xy C) ma s) 0 0 0 [(0, .ref (ma 0)), (1, .int (x))] []
  refine g_aload_n E dX6_from_0 rfl 0 rfl ?_
  refine g_aload_n E dX6_from_1 rfl 0 rfl ?_
  refine g_iload_n E dX6_from_2 rfl 1 rfl ?_
  refine k_invV (n := 1) (rest := [.ref (ma 0)]) E (m_X6_isPermit (xl C) E.tr (xD C) (xy C) e0 hp0) gX6_from_X6_isPermit rfl rfl rfl (by decide +kernel) ⟨Nat.le_of_ble_eq_true rfl, Nat.le_of_ble_eq_true rfl⟩ rfl rfl (Nat.le_of_ble_eq_true rfl) dX6_from_3 ⟨Nat.le_of_ble_eq_true rfl, Nat.le_of_ble_eq_true rfl⟩ (fun v9 s9_3 h9 => ?_)
  obtain ⟨hv9, hS9⟩ := h9
  rw [hv9, hS9]
  show G C (mW (xy C) ma s) 0 0 6 [(0, .ref (ma 0)), (1, .int (x))] [.int ((isIx (x) np)), .ref (ma 0)]
  refine g_if_eq (tgt := 13) E dX6_from_6 (by decide) (fun c_6 => ?_) (fun c_6 => ?_)
  · have hbad := isIx_f (by omega) c_6
    refine g_iconst (v := 1) E dX6_from_13 (by decide) ?_
    refine k_invV (n := 1) (rest := []) E (m_X6_isFine (xl C) E.tr (xD C) (xy C) e0 (s := s) (x := 1)) gX6_from_X6_isFine rfl rfl rfl (by decide +kernel) ⟨Nat.le_of_ble_eq_true rfl, Nat.le_of_ble_eq_true rfl⟩ rfl rfl (Nat.le_of_ble_eq_true rfl) dX6_from_14 ⟨Nat.le_of_ble_eq_true rfl, Nat.le_of_ble_eq_true rfl⟩ (fun v9 s9_14 h9 => ?_)
    obtain ⟨hv9, hS9⟩ := h9
    rw [hv9, hS9]
    rw [show bI ((1 : Int32) = 0) = 0 by decide]
    show G C (mW (xy C) ma (muI s 0 (1))) 0 0 17 [(0, .ref (ma 0)), (1, .int (x))] [.int (0)]
    refine g_if_ne (tgt := 22) E dX6_from_17 (by decide) (fun c_17 => ?_) (fun c_17 => ?_)
    · exact absurd c_17 (by decide)
    · refine g_iconst (v := 0) E dX6_from_20 (by decide) ?_
      exact g_iret E hE hr dX6_from_21 (Nat.le_of_ble_eq_true rfl) (Nat.le_of_ble_eq_true rfl) ⟨(muI s 0 (1)), rfl, Or.inr ⟨hbad, rfl, rfl⟩⟩
  · obtain ⟨k, hk, hx⟩ := isIx_t (by omega) c_6
    subst hx
    show G C (mW (xy C) ma s) 0 0 9 [(0, .ref (ma 0)), (1, .int (nI k))] [.ref (ma 0)]
    refine g_iconst (v := 0) E dX6_from_9 (by decide) ?_
    refine g_goto (tgt := 14) E dX6_from_10 (by decide) ?_
    refine k_invV (n := 1) (rest := []) E (m_X6_isFine (xl C) E.tr (xD C) (xy C) e0 (s := s) (x := 0)) gX6_from_X6_isFine rfl rfl rfl (by decide +kernel) ⟨Nat.le_of_ble_eq_true rfl, Nat.le_of_ble_eq_true rfl⟩ rfl rfl (Nat.le_of_ble_eq_true rfl) dX6_from_14 ⟨Nat.le_of_ble_eq_true rfl, Nat.le_of_ble_eq_true rfl⟩ (fun v9 s9_14 h9 => ?_)
    obtain ⟨hv9, hS9⟩ := h9
    rw [hv9, hS9]
    rw [show bI ((0 : Int32) = 0) = 1 by decide]
    show G C (mW (xy C) ma (muI s 0 (0))) 0 0 17 [(0, .ref (ma 0)), (1, .int (nI k))] [.int (1)]
    refine g_if_ne (tgt := 22) E dX6_from_17 (by decide) (fun c_17 => ?_) (fun c_17 => ?_)
    · refine g_aload_n E dX6_from_22 rfl 0 rfl ?_
      refine k_get_state (s := (muI s 0 (0))) E (fun _ h => (List.mem_cons_of_mem _ (List.mem_append_right _ h))) (List.mem_cons_of_mem _ (List.mem_append_left _ (List.mem_of_getElem? (i := 0) rfl))) dX6_from_23 ?_
      refine g_iload_n E dX6_from_26 rfl 1 rfl ?_
      refine k_ald_state (s := (muI s 0 (0))) E k rfl (by omega) dX6_from_27 ?_
      refine g_iconst (v := 1) E dX6_from_28 (by decide) ?_
      refine g_icmp_ne (tgt := 41) E dX6_from_29 (by decide) (fun c_29 => ?_) (fun c_29 => ?_)
      · have h_o := hop k hk c_29
        refine g_aload_n E dX6_from_41 rfl 0 rfl ?_
        refine k_get_first (s := (muI s 0 (0))) E (fun _ h => (List.mem_cons_of_mem _ (List.mem_append_right _ h))) (List.mem_cons_of_mem _ (List.mem_append_left _ (List.mem_of_getElem? (i := 2) rfl))) dX6_from_42 ?_
        refine g_aload_n E dX6_from_45 rfl 0 rfl ?_
        refine k_get_opening (s := (muI s 0 (0))) E (fun _ h => (List.mem_cons_of_mem _ (List.mem_append_right _ h))) (List.mem_cons_of_mem _ (List.mem_append_left _ (List.mem_of_getElem? (i := 3) rfl))) dX6_from_46 ?_
        refine g_iload_n E dX6_from_49 rfl 1 rfl ?_
        refine k_ald_opening (s := (muI s 0 (0))) E k rfl (by omega) dX6_from_50 ?_
        refine k_ald_first (s := (muI s 0 (0))) E ((tn (mr s 19 k))) h_o.1 h_o.2 dX6_from_51 ?_
        exact g_iret E hE hr dX6_from_52 (Nat.le_of_ble_eq_true rfl) (Nat.le_of_ble_eq_true rfl) ⟨(muI s 0 (0)), rfl, Or.inl ⟨k, hk, rfl, congrArg (fun z => some (Value.int z)) (if_neg (show ¬ mr s 17 k = 1 from c_29)).symm, rfl⟩⟩
      · refine g_aload_n E dX6_from_32 rfl 0 rfl ?_
        refine k_get_from (s := (muI s 0 (0))) E (fun _ h => (List.mem_cons_of_mem _ (List.mem_append_right _ h))) (List.mem_cons_of_mem _ (List.mem_append_left _ (List.mem_of_getElem? (i := 1) rfl))) dX6_from_33 ?_
        refine g_iload_n E dX6_from_36 rfl 1 rfl ?_
        refine k_ald_from (s := (muI s 0 (0))) E k rfl (by omega) dX6_from_37 ?_
        refine g_goto (tgt := 52) E dX6_from_38 (by decide) ?_
        exact g_iret E hE hr dX6_from_52 (Nat.le_of_ble_eq_true rfl) (Nat.le_of_ble_eq_true rfl) ⟨(muI s 0 (0)), rfl, Or.inl ⟨k, hk, rfl, congrArg (fun z => some (Value.int z)) (if_pos (show mr s 17 k = 1 from c_29)).symm, rfl⟩⟩
    · exact absurd c_17 (by decide)
abbrev rm_X6_end : Room := { frames := 2, cells := 0, slots := 0, locals := 43 }
set_option maxHeartbeats 4000000 in
set_option maxRecDepth 100000 in
theorem m_X6_end (l : Launch) (hl : l.stackTraces = false) (D : va_G) (cy : Nat → ClassId) (e0 : Nat) {ma : Nat → Nat} {s : mS} {np : Nat} (hp0 : mi s 21 = nI np) (hp1 : np ≤ 40) (hop : HOP s np) {x : Int32} : mMet l yX6_end wsX6_end rm_X6_end D cy e0 [.ref (ma 0), .int (x)] ma s (fun v s' => (∃ k, k < np ∧ x = nI k ∧ v = some (.int (if mr s 17 k = 1 then mr s 14 k else mr s 23 (tn (mr s 19 k)))) ∧ s' = muI s 0 0) ∨ ((∀ k, k < np → x ≠ nI k) ∧ v = some (.int 0) ∧ s' = muI s 0 1)) := by
  refine gMet.of (cc := cX6_end) (maxL := 2) (ret := (some .int)) hl (by decide) rfl (Nat.le_of_ble_eq_true rfl) ?_
  intro C E h1 h2 h3 hr hnm hT hE
  subst h1; subst h2; subst h3
  have E : gOk C cX6_end 2 wsX6_end RX6 e0 rm_X6_end := E
  show G C (mW (xy C) ma s) 0 0 0 [(0, .ref (ma 0)), (1, .int (x))] []
  refine g_aload_n E dX6_end_0 rfl 0 rfl ?_
  refine g_aload_n E dX6_end_1 rfl 0 rfl ?_
  refine g_iload_n E dX6_end_2 rfl 1 rfl ?_
  refine k_invV (n := 1) (rest := [.ref (ma 0)]) E (m_X6_isPermit (xl C) E.tr (xD C) (xy C) e0 hp0) gX6_end_X6_isPermit rfl rfl rfl (by decide +kernel) ⟨Nat.le_of_ble_eq_true rfl, Nat.le_of_ble_eq_true rfl⟩ rfl rfl (Nat.le_of_ble_eq_true rfl) dX6_end_3 ⟨Nat.le_of_ble_eq_true rfl, Nat.le_of_ble_eq_true rfl⟩ (fun v9 s9_3 h9 => ?_)
  obtain ⟨hv9, hS9⟩ := h9
  rw [hv9, hS9]
  show G C (mW (xy C) ma s) 0 0 6 [(0, .ref (ma 0)), (1, .int (x))] [.int ((isIx (x) np)), .ref (ma 0)]
  refine g_if_eq (tgt := 13) E dX6_end_6 (by decide) (fun c_6 => ?_) (fun c_6 => ?_)
  · have hbad := isIx_f (by omega) c_6
    refine g_iconst (v := 1) E dX6_end_13 (by decide) ?_
    refine k_invV (n := 1) (rest := []) E (m_X6_isFine (xl C) E.tr (xD C) (xy C) e0 (s := s) (x := 1)) gX6_end_X6_isFine rfl rfl rfl (by decide +kernel) ⟨Nat.le_of_ble_eq_true rfl, Nat.le_of_ble_eq_true rfl⟩ rfl rfl (Nat.le_of_ble_eq_true rfl) dX6_end_14 ⟨Nat.le_of_ble_eq_true rfl, Nat.le_of_ble_eq_true rfl⟩ (fun v9 s9_14 h9 => ?_)
    obtain ⟨hv9, hS9⟩ := h9
    rw [hv9, hS9]
    rw [show bI ((1 : Int32) = 0) = 0 by decide]
    show G C (mW (xy C) ma (muI s 0 (1))) 0 0 17 [(0, .ref (ma 0)), (1, .int (x))] [.int (0)]
    refine g_if_ne (tgt := 22) E dX6_end_17 (by decide) (fun c_17 => ?_) (fun c_17 => ?_)
    · exact absurd c_17 (by decide)
    · refine g_iconst (v := 0) E dX6_end_20 (by decide) ?_
      exact g_iret E hE hr dX6_end_21 (Nat.le_of_ble_eq_true rfl) (Nat.le_of_ble_eq_true rfl) ⟨(muI s 0 (1)), rfl, Or.inr ⟨hbad, rfl, rfl⟩⟩
  · obtain ⟨k, hk, hx⟩ := isIx_t (by omega) c_6
    subst hx
    show G C (mW (xy C) ma s) 0 0 9 [(0, .ref (ma 0)), (1, .int (nI k))] [.ref (ma 0)]
    refine g_iconst (v := 0) E dX6_end_9 (by decide) ?_
    refine g_goto (tgt := 14) E dX6_end_10 (by decide) ?_
    refine k_invV (n := 1) (rest := []) E (m_X6_isFine (xl C) E.tr (xD C) (xy C) e0 (s := s) (x := 0)) gX6_end_X6_isFine rfl rfl rfl (by decide +kernel) ⟨Nat.le_of_ble_eq_true rfl, Nat.le_of_ble_eq_true rfl⟩ rfl rfl (Nat.le_of_ble_eq_true rfl) dX6_end_14 ⟨Nat.le_of_ble_eq_true rfl, Nat.le_of_ble_eq_true rfl⟩ (fun v9 s9_14 h9 => ?_)
    obtain ⟨hv9, hS9⟩ := h9
    rw [hv9, hS9]
    rw [show bI ((0 : Int32) = 0) = 1 by decide]
    show G C (mW (xy C) ma (muI s 0 (0))) 0 0 17 [(0, .ref (ma 0)), (1, .int (nI k))] [.int (1)]
    refine g_if_ne (tgt := 22) E dX6_end_17 (by decide) (fun c_17 => ?_) (fun c_17 => ?_)
    · refine g_aload_n E dX6_end_22 rfl 0 rfl ?_
      refine k_get_state (s := (muI s 0 (0))) E (fun _ h => (List.mem_cons_of_mem _ (List.mem_append_right _ h))) (List.mem_cons_of_mem _ (List.mem_append_left _ (List.mem_of_getElem? (i := 0) rfl))) dX6_end_23 ?_
      refine g_iload_n E dX6_end_26 rfl 1 rfl ?_
      refine k_ald_state (s := (muI s 0 (0))) E k rfl (by omega) dX6_end_27 ?_
      refine g_iconst (v := 1) E dX6_end_28 (by decide) ?_
      refine g_icmp_ne (tgt := 41) E dX6_end_29 (by decide) (fun c_29 => ?_) (fun c_29 => ?_)
      · have h_o := hop k hk c_29
        refine g_aload_n E dX6_end_41 rfl 0 rfl ?_
        refine k_get_behind (s := (muI s 0 (0))) E (fun _ h => (List.mem_cons_of_mem _ (List.mem_append_right _ h))) (List.mem_cons_of_mem _ (List.mem_append_left _ (List.mem_of_getElem? (i := 2) rfl))) dX6_end_42 ?_
        refine g_aload_n E dX6_end_45 rfl 0 rfl ?_
        refine k_get_opening (s := (muI s 0 (0))) E (fun _ h => (List.mem_cons_of_mem _ (List.mem_append_right _ h))) (List.mem_cons_of_mem _ (List.mem_append_left _ (List.mem_of_getElem? (i := 3) rfl))) dX6_end_46 ?_
        refine g_iload_n E dX6_end_49 rfl 1 rfl ?_
        refine k_ald_opening (s := (muI s 0 (0))) E k rfl (by omega) dX6_end_50 ?_
        refine k_ald_behind (s := (muI s 0 (0))) E ((tn (mr s 19 k))) h_o.1 h_o.2 dX6_end_51 ?_
        exact g_iret E hE hr dX6_end_52 (Nat.le_of_ble_eq_true rfl) (Nat.le_of_ble_eq_true rfl) ⟨(muI s 0 (0)), rfl, Or.inl ⟨k, hk, rfl, congrArg (fun z => some (Value.int z)) (if_neg (show ¬ mr s 17 k = 1 from c_29)).symm, rfl⟩⟩
      · refine g_aload_n E dX6_end_32 rfl 0 rfl ?_
        refine k_get_end (s := (muI s 0 (0))) E (fun _ h => (List.mem_cons_of_mem _ (List.mem_append_right _ h))) (List.mem_cons_of_mem _ (List.mem_append_left _ (List.mem_of_getElem? (i := 1) rfl))) dX6_end_33 ?_
        refine g_iload_n E dX6_end_36 rfl 1 rfl ?_
        refine k_ald_end (s := (muI s 0 (0))) E k rfl (by omega) dX6_end_37 ?_
        refine g_goto (tgt := 52) E dX6_end_38 (by decide) ?_
        exact g_iret E hE hr dX6_end_52 (Nat.le_of_ble_eq_true rfl) (Nat.le_of_ble_eq_true rfl) ⟨(muI s 0 (0)), rfl, Or.inl ⟨k, hk, rfl, congrArg (fun z => some (Value.int z)) (if_pos (show mr s 17 k = 1 from c_29)).symm, rfl⟩⟩
    · exact absurd c_17 (by decide)
abbrev rm_X6_minutes : Room := { frames := 3, cells := 0, slots := 0, locals := 64 }
set_option maxHeartbeats 4000000 in
set_option maxRecDepth 100000 in
theorem m_X6_minutes (l : Launch) (hl : l.stackTraces = false) (D : va_G) (cy : Nat → ClassId) (e0 : Nat) {ma : Nat → Nat} {s : mS} {nl : Nat} (hl0 : mi s 10 = nI nl) (hl1 : nl ≤ 6) {x : Int32} : mMet l yX6_minutes wsX6_minutes rm_X6_minutes D cy e0 [.ref (ma 0), .int (x)] ma s (fun v s' => (∃ k, k < nl ∧ x = nI k ∧ v = some (.long (ml s 9 k)) ∧ s' = muI s 0 0) ∨ ((∀ k, k < nl → x ≠ nI k) ∧ v = some (.long 0) ∧ s' = muI s 0 1)) := by
  refine gMet.of (cc := cX6_minutes) (maxL := 2) (ret := (some .long)) hl (by decide) rfl (Nat.le_of_ble_eq_true rfl) ?_
  intro C E h1 h2 h3 hr hnm hT hE
  subst h1; subst h2; subst h3
  have E : gOk C cX6_minutes 2 wsX6_minutes RX6 e0 rm_X6_minutes := E
  show G C (mW (xy C) ma s) 0 0 0 [(0, .ref (ma 0)), (1, .int (x))] []
  refine g_aload_n E dX6_minutes_0 rfl 0 rfl ?_
  refine g_iload_n E dX6_minutes_1 rfl 1 rfl ?_
  refine k_invV (n := 1) (rest := []) E (m_X6_minutesNow (xl C) E.tr (xD C) (xy C) e0 (s := s) (x := x) hl0 hl1) gX6_minutes_X6_minutesNow rfl rfl rfl (by decide +kernel) ⟨Nat.le_of_ble_eq_true rfl, Nat.le_of_ble_eq_true rfl⟩ rfl rfl (Nat.le_of_ble_eq_true rfl) dX6_minutes_2 ⟨Nat.le_of_ble_eq_true rfl, Nat.le_of_ble_eq_true rfl⟩ (fun v9 s9_2 h9 => ?_)
  rcases h9 with ⟨k, hk, hx, hv9, hS9⟩ | ⟨hb, hv9, hS9⟩
  · rw [hv9, hS9]
    show G C (mW (xy C) ma (muI s 0 0)) 0 0 5 [(0, .ref (ma 0)), (1, .int (x))] [.long ((ml s 9 k))]
    exact g_lret E hE hr dX6_minutes_5 (Nat.le_of_ble_eq_true rfl) (Nat.le_of_ble_eq_true rfl) ⟨(muI s 0 0), rfl, Or.inl ⟨k, hk, hx, rfl, rfl⟩⟩
  · rw [hv9, hS9]
    show G C (mW (xy C) ma (muI s 0 1)) 0 0 5 [(0, .ref (ma 0)), (1, .int (x))] [.long (0)]
    exact g_lret E hE hr dX6_minutes_5 (Nat.le_of_ble_eq_true rfl) (Nat.le_of_ble_eq_true rfl) ⟨(muI s 0 1), rfl, Or.inr ⟨hb, rfl, rfl⟩⟩
abbrev rm_X6_minutesAnew : Room := { frames := 3, cells := 0, slots := 0, locals := 64 }
set_option maxHeartbeats 4000000 in
set_option maxRecDepth 100000 in
theorem m_X6_minutesAnew (l : Launch) (hl : l.stackTraces = false) (D : va_G) (cy : Nat → ClassId) (e0 : Nat) {ma : Nat → Nat} {s : mS} {nl : Nat} (hl0 : mi s 10 = nI nl) (hl1 : nl ≤ 6) {x : Int32} : mMet l yX6_minutesAnew wsX6_minutesAnew rm_X6_minutesAnew D cy e0 [.ref (ma 0), .int (x)] ma s (fun v s' => (∃ k, k < nl ∧ x = nI k ∧ v = some (.long (ml s 9 k)) ∧ s' = muI s 0 0) ∨ ((∀ k, k < nl → x ≠ nI k) ∧ v = some (.long 0) ∧ s' = muI s 0 1)) := by
  refine gMet.of (cc := cX6_minutesAnew) (maxL := 2) (ret := (some .long)) hl (by decide) rfl (Nat.le_of_ble_eq_true rfl) ?_
  intro C E h1 h2 h3 hr hnm hT hE
  subst h1; subst h2; subst h3
  have E : gOk C cX6_minutesAnew 2 wsX6_minutesAnew RX6 e0 rm_X6_minutesAnew := E
  show G C (mW (xy C) ma s) 0 0 0 [(0, .ref (ma 0)), (1, .int (x))] []
  refine g_aload_n E dX6_minutesAnew_0 rfl 0 rfl ?_
  refine g_iload_n E dX6_minutesAnew_1 rfl 1 rfl ?_
  refine k_invV (n := 1) (rest := []) E (m_X6_minutesNow (xl C) E.tr (xD C) (xy C) e0 (s := s) (x := x) hl0 hl1) gX6_minutesAnew_X6_minutesNow rfl rfl rfl (by decide +kernel) ⟨Nat.le_of_ble_eq_true rfl, Nat.le_of_ble_eq_true rfl⟩ rfl rfl (Nat.le_of_ble_eq_true rfl) dX6_minutesAnew_2 ⟨Nat.le_of_ble_eq_true rfl, Nat.le_of_ble_eq_true rfl⟩ (fun v9 s9_2 h9 => ?_)
  rcases h9 with ⟨k, hk, hx, hv9, hS9⟩ | ⟨hb, hv9, hS9⟩
  · rw [hv9, hS9]
    show G C (mW (xy C) ma (muI s 0 0)) 0 0 5 [(0, .ref (ma 0)), (1, .int (x))] [.long ((ml s 9 k))]
    exact g_lret E hE hr dX6_minutesAnew_5 (Nat.le_of_ble_eq_true rfl) (Nat.le_of_ble_eq_true rfl) ⟨(muI s 0 0), rfl, Or.inl ⟨k, hk, hx, rfl, rfl⟩⟩
  · rw [hv9, hS9]
    show G C (mW (xy C) ma (muI s 0 1)) 0 0 5 [(0, .ref (ma 0)), (1, .int (x))] [.long (0)]
    exact g_lret E hE hr dX6_minutesAnew_5 (Nat.le_of_ble_eq_true rfl) (Nat.le_of_ble_eq_true rfl) ⟨(muI s 0 1), rfl, Or.inr ⟨hb, rfl, rfl⟩⟩
