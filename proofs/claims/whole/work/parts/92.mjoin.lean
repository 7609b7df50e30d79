def mjF (s : mS) (ln a b : Int32) (p : Nat) : Prop := (¬ mr s 17 p = 1 ∧ ¬ mr s 17 p = 4) ∧ mr s 16 p = 0 ∧ mr s 12 p = ln ∧ mr s 22 (tn (mr s 19 p)) < b ∧ a < mr s 23 (tn (mr s 19 p))
def mtg (s : mS) (o : Int32) : Nat → Int64
  | 0 => 0
  | n + 1 => mtg s o n ||| (if (¬ mr s 17 n = 1 ∧ ¬ mr s 17 n = 4) ∧ mr s 19 n = o then (1 : Int64) <<< ((nI n).toInt64 &&& 63) else 0)
theorem mtg_t {s : mS} {o : Int32} {n : Nat} (h : (¬ mr s 17 n = 1 ∧ ¬ mr s 17 n = 4) ∧ mr s 19 n = o) : mtg s o (n + 1) = mtg s o n ||| ((1 : Int64) <<< ((nI n).toInt64 &&& 63)) := by show mtg s o n ||| (if _ then _ else _) = _; rw [if_pos h]
theorem mtg_f {s : mS} {o : Int32} {n : Nat} (h : ¬ ((¬ mr s 17 n = 1 ∧ ¬ mr s 17 n = 4) ∧ mr s 19 n = o)) : mtg s o (n + 1) = mtg s o n ||| 0 := by show mtg s o n ||| (if _ then _ else _) = _; rw [if_neg h]
abbrev rm_X6_joined : Room := { frames := 1, cells := 0, slots := 0, locals := 21 }
set_option maxHeartbeats 4000000 in
set_option maxRecDepth 100000 in
theorem m_X6_joined (l : Launch) (hl : l.stackTraces = false) (D : va_G) (cy : Nat → ClassId) (e0 : Nat) {ma : Nat → Nat} {s : mS} {np : Nat} (hp0 : mi s 21 = nI np) (hp1 : np ≤ 40) (hop : HOP s np) {ln a b : Int32} : mMet l yX6_joined wsX6_joined rm_X6_joined D cy e0 [.ref (ma 0), .int (ln), .int (a), .int (b)] ma s (fun v s' => ((∃ p, p < np ∧ mjF s ln a b p ∧ (∀ q, q < p → ¬ mjF s ln a b q) ∧ v = some (.int (mr s 19 p))) ∨ ((∀ p, p < np → ¬ mjF s ln a b p) ∧ v = some (.int (-1)))) ∧ s' = s) := by
  refine gMet.of (cc := cX6_joined) (maxL := 6) (ret := (some .int)) hl (by decide) rfl (Nat.le_of_ble_eq_true rfl) ?_
  intro C E h1 h2 h3 hr hnm hT hE
  subst h1; subst h2; subst h3
  have E : gOk C cX6_joined 6 wsX6_joined RX6 e0 rm_X6_joined := E
  show G C (mW (xy C) ma s) 0 0 0 [(0, .ref (ma 0)), (1, .int (ln)), (2, .int (a)), (3, .int (b))] []
  refine g_iconst (v := 0) E dX6_joined_0 (by decide) ?_
  refine g_istore (L' := [(4, .int (0)), (0, .ref (ma 0)), (1, .int (ln)), (2, .int (a)), (3, .int (b))]) E dX6_joined_1 (by decide) rfl ?_
  refine g_locals [(0, .ref (ma 0)), (1, .int (ln)), (2, .int (a)), (3, .int (b)), (4, .int (0))] [1, 2, 3, 4, 0] rfl ?_
  have loop_3 : ∀ (n_3 k : Nat) , (∀ q, q < k → ¬ mjF s ln a b q) → k ≤ np → np < n_3 + k → G C (mW (xy C) ma s) 0 0 3 [(0, .ref (ma 0)), (1, .int (ln)), (2, .int (a)), (3, .int (b)), (4, .int (nI k))] [] := by
    intro n_3
    induction n_3 with
    | zero => intro k  hv g1 g2; exact absurd g2 (by omega)
    | succ n_3 ih_3 =>
      intro k  hv h1_3 h2_3
      refine g_iload E dX6_joined_3 4 rfl ?_
      refine g_aload_n E dX6_joined_5 rfl 0 rfl ?_
      refine k_get_permits (s := s) E (fun _ h => (List.mem_cons_of_mem _ (List.mem_append_right _ h))) (List.mem_cons_of_mem _ (List.mem_append_left _ (List.mem_of_getElem? (i := 0) rfl))) dX6_joined_6 ?_
      rw [show mi s 21 = nI np from hp0]
      show G C (mW (xy C) ma s) 0 0 9 [(0, .ref (ma 0)), (1, .int (ln)), (2, .int (a)), (3, .int (b)), (4, .int (nI k))] [.int (nI np), .int (nI k)]
      refine g_icmp_ge (tgt := 82) E dX6_joined_9 (by decide) (fun c_9 => ?_) (fun c_9 => ?_)
      · have e_k : k = np := Nat.le_antisymm h1_3 (nI_ge_nat (by omega) (by omega) c_9)
        refine g_iconst (v := (-1)) E dX6_joined_82 (by decide) ?_
        exact g_iret E hE hr dX6_joined_83 (Nat.le_of_ble_eq_true rfl) (Nat.le_of_ble_eq_true rfl) ⟨s, rfl, Or.inr ⟨e_k ▸ hv, rfl⟩, rfl⟩
      · have hk_k : k < np := nI_nge_nat (by omega) (by omega) c_9
        refine g_aload_n E dX6_joined_12 rfl 0 rfl ?_
        refine k_get_opening (s := s) E (fun _ h => (List.mem_cons_of_mem _ (List.mem_append_right _ h))) (List.mem_cons_of_mem _ (List.mem_append_left _ (List.mem_of_getElem? (i := 1) rfl))) dX6_joined_13 ?_
        refine g_iload E dX6_joined_16 4 rfl ?_
        refine k_ald_opening (s := s) E k rfl (by omega) dX6_joined_18 ?_
        refine g_istore (L' := [(5, .int (mr s 19 k)), (0, .ref (ma 0)), (1, .int (ln)), (2, .int (a)), (3, .int (b)), (4, .int (nI k))]) E dX6_joined_19 (by decide) rfl ?_
        refine g_aload_n E dX6_joined_21 rfl 1 rfl ?_
        refine g_iload E dX6_joined_22 5 rfl ?_
        refine k_invV (n := 1) (rest := []) E (m_X6_isOf (xl C) E.tr (xD C) (xy C) e0 (s := s) (k := k) (by omega)) gX6_joined_X6_isOf rfl rfl rfl (by decide +kernel) ⟨Nat.le_of_ble_eq_true rfl, Nat.le_of_ble_eq_true rfl⟩ rfl rfl (Nat.le_of_ble_eq_true rfl) dX6_joined_24 ⟨Nat.le_of_ble_eq_true rfl, Nat.le_of_ble_eq_true rfl⟩ (fun v9 s9_24 h9 => ?_)
        obtain ⟨hv9, hS9⟩ := h9
        rw [hv9, hS9]
        show G C (mW (xy C) ma s) 0 0 27 [(5, .int (mr s 19 k)), (0, .ref (ma 0)), (1, .int (ln)), (2, .int (a)), (3, .int (b)), (4, .int (nI k))] [.int ((bI (¬ mr s 17 k = 1 ∧ ¬ mr s 17 k = 4)))]
        refine g_if_eq (tgt := 76) E dX6_joined_27 (by decide) (fun c_27 => ?_) (fun c_27 => ?_)
        · refine g_iinc (v := nI (k + 1)) (L' := [(4, .int (nI (k + 1))), (5, .int (mr s 19 k)), (0, .ref (ma 0)), (1, .int (ln)), (2, .int (a)), (3, .int (b))]) E dX6_joined_76 5 rfl (nI_1 k) (by decide) rfl ?_
          refine g_goto (tgt := 3) E dX6_joined_79 (by decide) ?_
          refine g_locals [(0, .ref (ma 0)), (1, .int (ln)), (2, .int (a)), (3, .int (b)), (4, .int (nI (k + 1)))] [2, 3, 4, 5, 0] rfl ?_
          refine g_L (L' := [(0, .ref (ma 0)), (1, .int (ln)), (2, .int (a)), (3, .int (b)), (4, .int (nI (k + 1)))]) (by rfl) (ih_3 (k + 1)  (fun q hq z => (Nat.lt_succ_iff_lt_or_eq.mp hq).elim (fun h => hv q h z) (fun h => by subst h; exact bI_eq0.mp c_27 z.1)) (by omega) (by omega))
        · have h_o := hop k hk_k (bI_ne0.mp c_27).1
          refine g_aload_n E dX6_joined_30 rfl 1 rfl ?_
          refine k_get_isUrgent (s := s) E (fun _ h => (List.mem_cons_of_mem _ (List.mem_append_right _ h))) (List.mem_cons_of_mem _ (List.mem_append_left _ (List.mem_of_getElem? (i := 2) rfl))) dX6_joined_31 ?_
          refine g_iload E dX6_joined_34 5 rfl ?_
          refine k_ald_isUrgent (s := s) E k rfl (by omega) dX6_joined_36 ?_
          refine g_if_ne (tgt := 76) E dX6_joined_37 (by decide) (fun c_37 => ?_) (fun c_37 => ?_)
          · refine g_iinc (v := nI (k + 1)) (L' := [(4, .int (nI (k + 1))), (5, .int (mr s 19 k)), (0, .ref (ma 0)), (1, .int (ln)), (2, .int (a)), (3, .int (b))]) E dX6_joined_76 5 rfl (nI_1 k) (by decide) rfl ?_
            refine g_goto (tgt := 3) E dX6_joined_79 (by decide) ?_
            refine g_locals [(0, .ref (ma 0)), (1, .int (ln)), (2, .int (a)), (3, .int (b)), (4, .int (nI (k + 1)))] [2, 3, 4, 5, 0] rfl ?_
            refine g_L (L' := [(0, .ref (ma 0)), (1, .int (ln)), (2, .int (a)), (3, .int (b)), (4, .int (nI (k + 1)))]) (by rfl) (ih_3 (k + 1)  (fun q hq z => (Nat.lt_succ_iff_lt_or_eq.mp hq).elim (fun h => hv q h z) (fun h => by subst h; exact c_37 z.2.1)) (by omega) (by omega))
          · refine g_aload_n E dX6_joined_40 rfl 1 rfl ?_
            refine k_get_lane (s := s) E (fun _ h => (List.mem_cons_of_mem _ (List.mem_append_right _ h))) (List.mem_cons_of_mem _ (List.mem_append_left _ (List.mem_of_getElem? (i := 3) rfl))) dX6_joined_41 ?_
            refine g_iload E dX6_joined_44 5 rfl ?_
            refine k_ald_lane (s := s) E k rfl (by omega) dX6_joined_46 ?_
            refine g_iload_n E dX6_joined_47 rfl 2 rfl ?_
            refine g_icmp_ne (tgt := 76) E dX6_joined_48 (by decide) (fun c_48 => ?_) (fun c_48 => ?_)
            · refine g_iinc (v := nI (k + 1)) (L' := [(4, .int (nI (k + 1))), (5, .int (mr s 19 k)), (0, .ref (ma 0)), (1, .int (ln)), (2, .int (a)), (3, .int (b))]) E dX6_joined_76 5 rfl (nI_1 k) (by decide) rfl ?_
              refine g_goto (tgt := 3) E dX6_joined_79 (by decide) ?_
              refine g_locals [(0, .ref (ma 0)), (1, .int (ln)), (2, .int (a)), (3, .int (b)), (4, .int (nI (k + 1)))] [2, 3, 4, 5, 0] rfl ?_
              refine g_L (L' := [(0, .ref (ma 0)), (1, .int (ln)), (2, .int (a)), (3, .int (b)), (4, .int (nI (k + 1)))]) (by rfl) (ih_3 (k + 1)  (fun q hq z => (Nat.lt_succ_iff_lt_or_eq.mp hq).elim (fun h => hv q h z) (fun h => by subst h; exact c_48 z.2.2.1)) (by omega) (by omega))
            · refine g_aload_n E dX6_joined_51 rfl 1 rfl ?_
              refine k_get_first (s := s) E (fun _ h => (List.mem_cons_of_mem _ (List.mem_append_right _ h))) (List.mem_cons_of_mem _ (List.mem_append_left _ (List.mem_of_getElem? (i := 4) rfl))) dX6_joined_52 ?_
              refine g_iload E dX6_joined_55 0 rfl ?_
              refine k_ald_first (s := s) E ((tn (mr s 19 k))) h_o.1 h_o.2 dX6_joined_57 ?_
              refine g_iload_n E dX6_joined_58 rfl 4 rfl ?_
              refine g_icmp_ge (tgt := 76) E dX6_joined_59 (by decide) (fun c_59 => ?_) (fun c_59 => ?_)
              · refine g_iinc (v := nI (k + 1)) (L' := [(4, .int (nI (k + 1))), (5, .int (mr s 19 k)), (0, .ref (ma 0)), (1, .int (ln)), (2, .int (a)), (3, .int (b))]) E dX6_joined_76 5 rfl (nI_1 k) (by decide) rfl ?_
                refine g_goto (tgt := 3) E dX6_joined_79 (by decide) ?_
                refine g_locals [(0, .ref (ma 0)), (1, .int (ln)), (2, .int (a)), (3, .int (b)), (4, .int (nI (k + 1)))] [2, 3, 4, 5, 0] rfl ?_
                refine g_L (L' := [(0, .ref (ma 0)), (1, .int (ln)), (2, .int (a)), (3, .int (b)), (4, .int (nI (k + 1)))]) (by rfl) (ih_3 (k + 1)  (fun q hq z => (Nat.lt_succ_iff_lt_or_eq.mp hq).elim (fun h => hv q h z) (fun h => by subst h; exact Int32.not_lt.mpr c_59 z.2.2.2.1)) (by omega) (by omega))
              · refine g_aload_n E dX6_joined_62 rfl 1 rfl ?_
                refine k_get_behind (s := s) E (fun _ h => (List.mem_cons_of_mem _ (List.mem_append_right _ h))) (List.mem_cons_of_mem _ (List.mem_append_left _ (List.mem_of_getElem? (i := 5) rfl))) dX6_joined_63 ?_
                refine g_iload E dX6_joined_66 0 rfl ?_
                refine k_ald_behind (s := s) E ((tn (mr s 19 k))) h_o.1 h_o.2 dX6_joined_68 ?_
                refine g_iload_n E dX6_joined_69 rfl 3 rfl ?_
                refine g_icmp_le (tgt := 76) E dX6_joined_70 (by decide) (fun c_70 => ?_) (fun c_70 => ?_)
                · refine g_iinc (v := nI (k + 1)) (L' := [(4, .int (nI (k + 1))), (5, .int (mr s 19 k)), (0, .ref (ma 0)), (1, .int (ln)), (2, .int (a)), (3, .int (b))]) E dX6_joined_76 5 rfl (nI_1 k) (by decide) rfl ?_
                  refine g_goto (tgt := 3) E dX6_joined_79 (by decide) ?_
                  refine g_locals [(0, .ref (ma 0)), (1, .int (ln)), (2, .int (a)), (3, .int (b)), (4, .int (nI (k + 1)))] [2, 3, 4, 5, 0] rfl ?_
                  refine g_L (L' := [(0, .ref (ma 0)), (1, .int (ln)), (2, .int (a)), (3, .int (b)), (4, .int (nI (k + 1)))]) (by rfl) (ih_3 (k + 1)  (fun q hq z => (Nat.lt_succ_iff_lt_or_eq.mp hq).elim (fun h => hv q h z) (fun h => by subst h; exact Int32.not_lt.mpr c_70 z.2.2.2.2)) (by omega) (by omega))
                · refine g_iload E dX6_joined_73 0 rfl ?_
                  exact g_iret E hE hr dX6_joined_75 (Nat.le_of_ble_eq_true rfl) (Nat.le_of_ble_eq_true rfl) ⟨s, rfl, Or.inl ⟨k, hk_k, ⟨bI_ne0.mp c_27, c_37, c_48, Int32.not_le.mp c_59, Int32.not_le.mp c_70⟩, hv, rfl⟩, rfl⟩
  exact loop_3 (np + 1) 0  (fun q h => absurd h (Nat.not_lt_zero q)) (by omega) (by omega)
abbrev rm_X6_isBroken : Room := { frames := 1, cells := 0, slots := 0, locals := 21 }
set_option maxHeartbeats 4000000 in
set_option maxRecDepth 100000 in
theorem m_X6_isBroken_N (l : Launch) (hl : l.stackTraces = false) (D : va_G) (cy : Nat → ClassId) (e0 : Nat) {ma : Nat → Nat} {s : mS} {a : Int32} : mMet l yX6_isBroken wsX6_isBroken rm_X6_isBroken D cy e0 [.ref (ma 0), .int (-1), .int (a)] ma s (fun v s' => v = some (.int 0) ∧ s' = s) := by
  refine gMet.of (cc := cX6_isBroken) (maxL := 3) (ret := (some .boolean)) hl (by decide) rfl (Nat.le_of_ble_eq_true rfl) ?_
  intro C E h1 h2 h3 hr hnm hT hE
  subst h1; subst h2; subst h3
  have E : gOk C cX6_isBroken 3 wsX6_isBroken RX6 e0 rm_X6_isBroken := E
  show G C (mW (xy C) ma s) 0 0 0 [(0, .ref (ma 0)), (1, .int (-1)), (2, .int (a))] []
  refine g_iload_n E dX6_isBroken_0 rfl 1 rfl ?_
  refine g_iconst (v := (-1)) E dX6_isBroken_1 (by decide) ?_
  refine g_icmp_eq (tgt := 32) E dX6_isBroken_2 (by decide) (fun c_2 => ?_) (fun c_2 => ?_)
  · refine g_iconst (v := 0) E dX6_isBroken_32 (by decide) ?_
    exact g_zret E hE hr (Or.inl rfl) dX6_isBroken_33 (Nat.le_of_ble_eq_true rfl) (Nat.le_of_ble_eq_true rfl) ⟨s, rfl, rfl, rfl⟩
  · exact absurd rfl c_2
set_option maxHeartbeats 4000000 in
set_option maxRecDepth 100000 in
theorem m_X6_isBroken (l : Launch) (hl : l.stackTraces = false) (D : va_G) (cy : Nat → ClassId) (e0 : Nat) {ma : Nat → Nat} {s : mS} {np : Nat} (hp1 : np ≤ 40) (hop : HOP s np) {z : Nat} (hz : z < np) {a : Int32} : mMet l yX6_isBroken wsX6_isBroken rm_X6_isBroken D cy e0 [.ref (ma 0), .int (nI z), .int (a)] ma s (fun v s' => v = some (.int (bI ((¬ (¬ mr s 17 z = 1 ∧ ¬ mr s 17 z = 4)) ∨ a < mr s 23 (tn (mr s 19 z))))) ∧ s' = s) := by
  refine gMet.of (cc := cX6_isBroken) (maxL := 3) (ret := (some .boolean)) hl (by decide) rfl (Nat.le_of_ble_eq_true rfl) ?_
  intro C E h1 h2 h3 hr hnm hT hE
  subst h1; subst h2; subst h3
  have E : gOk C cX6_isBroken 3 wsX6_isBroken RX6 e0 rm_X6_isBroken := E
  show G C (mW (xy C) ma s) 0 0 0 [(0, .ref (ma 0)), (1, .int (nI z)), (2, .int (a))] []
  refine g_iload_n E dX6_isBroken_0 rfl 1 rfl ?_
  refine g_iconst (v := (-1)) E dX6_isBroken_1 (by decide) ?_
  refine g_icmp_eq (tgt := 32) E dX6_isBroken_2 (by decide) (fun c_2 => ?_) (fun c_2 => ?_)
  · exact absurd c_2.symm (nI_nm1 (by omega))
  · refine g_aload_n E dX6_isBroken_5 rfl 0 rfl ?_
    refine g_iload_n E dX6_isBroken_6 rfl 1 rfl ?_
    refine k_invV (n := 1) (rest := []) E (m_X6_isOf (xl C) E.tr (xD C) (xy C) e0 (s := s) (k := z) (by omega)) gX6_isBroken_X6_isOf rfl rfl rfl (by decide +kernel) ⟨Nat.le_of_ble_eq_true rfl, Nat.le_of_ble_eq_true rfl⟩ rfl rfl (Nat.le_of_ble_eq_true rfl) dX6_isBroken_7 ⟨Nat.le_of_ble_eq_true rfl, Nat.le_of_ble_eq_true rfl⟩ (fun v9 s9_7 h9 => ?_)
    obtain ⟨hv9, hS9⟩ := h9
    rw [hv9, hS9]
    show G C (mW (xy C) ma s) 0 0 10 [(0, .ref (ma 0)), (1, .int (nI z)), (2, .int (a))] [.int ((bI (¬ mr s 17 z = 1 ∧ ¬ mr s 17 z = 4)))]
    refine g_if_eq (tgt := 28) E dX6_isBroken_10 (by decide) (fun c_10 => ?_) (fun c_10 => ?_)
    · refine g_iconst (v := 1) E dX6_isBroken_28 (by decide) ?_
      refine g_goto (tgt := 33) E dX6_isBroken_29 (by decide) ?_
      exact g_zret E hE hr (Or.inr rfl) dX6_isBroken_33 (Nat.le_of_ble_eq_true rfl) (Nat.le_of_ble_eq_true rfl) ⟨s, rfl, by rw [bI_t (P := ((¬ (¬ mr s 17 z = 1 ∧ ¬ mr s 17 z = 4)) ∨ a < mr s 23 (tn (mr s 19 z)))) (Or.inl (bI_eq0.mp c_10))], rfl⟩
    · have h_o := hop z hz (bI_ne0.mp c_10).1
      refine g_aload_n E dX6_isBroken_13 rfl 0 rfl ?_
      refine k_get_behind (s := s) E (fun _ h => (List.mem_cons_of_mem _ (List.mem_append_right _ h))) (List.mem_cons_of_mem _ (List.mem_append_left _ (List.mem_of_getElem? (i := 0) rfl))) dX6_isBroken_14 ?_
      refine g_aload_n E dX6_isBroken_17 rfl 0 rfl ?_
      refine k_get_opening (s := s) E (fun _ h => (List.mem_cons_of_mem _ (List.mem_append_right _ h))) (List.mem_cons_of_mem _ (List.mem_append_left _ (List.mem_of_getElem? (i := 1) rfl))) dX6_isBroken_18 ?_
      refine g_iload_n E dX6_isBroken_21 rfl 1 rfl ?_
      refine k_ald_opening (s := s) E z rfl (by omega) dX6_isBroken_22 ?_
      refine k_ald_behind (s := s) E ((tn (mr s 19 z))) h_o.1 h_o.2 dX6_isBroken_23 ?_
      refine g_iload_n E dX6_isBroken_24 rfl 2 rfl ?_
      refine g_icmp_le (tgt := 32) E dX6_isBroken_25 (by decide) (fun c_25 => ?_) (fun c_25 => ?_)
      · refine g_iconst (v := 0) E dX6_isBroken_32 (by decide) ?_
        exact g_zret E hE hr (Or.inl rfl) dX6_isBroken_33 (Nat.le_of_ble_eq_true rfl) (Nat.le_of_ble_eq_true rfl) ⟨s, rfl, by rw [bI_f (P := ((¬ (¬ mr s 17 z = 1 ∧ ¬ mr s 17 z = 4)) ∨ a < mr s 23 (tn (mr s 19 z)))) (fun q => q.elim (fun q => q (bI_ne0.mp c_10)) (fun q => Int32.not_lt.mpr c_25 q))], rfl⟩
      · refine g_iconst (v := 1) E dX6_isBroken_28 (by decide) ?_
        refine g_goto (tgt := 33) E dX6_isBroken_29 (by decide) ?_
        exact g_zret E hE hr (Or.inr rfl) dX6_isBroken_33 (Nat.le_of_ble_eq_true rfl) (Nat.le_of_ble_eq_true rfl) ⟨s, rfl, by rw [bI_t (P := ((¬ (¬ mr s 17 z = 1 ∧ ¬ mr s 17 z = 4)) ∨ a < mr s 23 (tn (mr s 19 z)))) (Or.inr (Int32.not_le.mp c_25))], rfl⟩
