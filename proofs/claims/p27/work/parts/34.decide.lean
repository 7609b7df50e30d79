/-! deciding, in pure words -/
def metF (i : Nat → Nat → Int32) (p : Nat → Nat → Option Nat) (ql qf qe : Int32) (k : Nat) : Option Nat :=
  if i 7 k = ql ∧ i 10 k = 0 ∧ i 11 k ≠ 4 then (match p 2 k with
    | none => none
    | some y => if qf < i 4 y ∧ i 3 y < qe then some y else none) else none
theorem metF_yes {i : Nat → Nat → Int32} {p : Nat → Nat → Option Nat} {ql qf qe : Int32} {k y : Nat} (h1 : i 7 k = ql) (h2 : i 10 k = 0) (h3 : i 11 k ≠ 4) (h4 : p 2 k = some y) (h5 : qf < i 4 y ∧ i 3 y < qe) : metF i p ql qf qe k = some y := by
  unfold metF; rw [if_pos ⟨h1, h2, h3⟩, h4]; exact if_pos h5
theorem metF_none {i : Nat → Nat → Int32} {p : Nat → Nat → Option Nat} {ql qf qe : Int32} {k : Nat} (h : i 7 k = ql → i 10 k = 0 → i 11 k ≠ 4 → ∀ y, p 2 k = some y → ¬ (qf < i 4 y ∧ i 3 y < qe)) : metF i p ql qf qe k = none := by
  unfold metF
  split
  · rename_i q
    cases hp : p 2 k with
    | none => rfl
    | some y => exact if_neg (h q.1 q.2.1 q.2.2 y hp)
  · rfl
def cau (late brk long twice : Int32) : Int32 := if late = 0 then (if brk = 0 then (if long = 0 then (if twice = 0 then -1 else 3) else 2) else 1) else 0
abbrev rm_X5_openingsBeside : Room := { frames := 3, cells := 0, slots := 0, locals := 64 }
set_option maxHeartbeats 4000000 in
set_option maxRecDepth 100000 in
theorem m_X5_openingsBeside_N (l : Launch) (hl : l.stackTraces = false) (D : va_G) (cy : Nat → ClassId) (e0 : Nat) {S : wS} {c : Nat → Nat} {ad : Nat → Nat → Nat} {i : Nat → Nat → Int32} {j : Nat → Nat → Int64} {p : Nat → Nat → Option Nat} {r : Nat → Nat → Int32} (hI : CI e0 S c ad i j p r)  {x s : Int32} : cMet l yX5_openingsBeside wsX5_openingsBeside rm_X5_openingsBeside D cy e0 [.ref (ad 5 0), .null, .int (x), .int (s)] S (fun v S' => v = some (.int (cntI (fun k => none ≠ some k ∧ i 2 k = x ∧ ¬ j 1 k = 0 ∧ i 3 k / 500 = s) (c 1))) ∧ S' = S) (fun _ _ => False) 0 0 := by
  refine gMet.of (cc := cX5_openingsBeside) (maxL := 7) (ret := (some .int)) hl (by decide) rfl (Nat.le_of_ble_eq_true rfl) ?_
  intro C E h1 h2 h3 hr hnm hT hE
  subst h1; subst h2; subst h3
  have E : gOk C cX5_openingsBeside 7 wsX5_openingsBeside RX5 e0 rm_X5_openingsBeside := E
  show G C (cW (xy C) S) 0 0 0 [(0, .ref (ad 5 0)), (1, .null), (2, .int (x)), (3, .int (s))] []
  have hc := hI.cnt
  refine g_iconst (v := 0) E dX5_openingsBeside_0 (by decide) ?_
  refine g_istore (L' := [(4, .int (0)), (0, .ref (ad 5 0)), (1, .null), (2, .int (x)), (3, .int (s))]) E dX5_openingsBeside_1 (by decide) rfl ?_
  refine g_iconst (v := 0) E dX5_openingsBeside_3 (by decide) ?_
  refine g_istore (L' := [(5, .int (0)), (4, .int (0)), (0, .ref (ad 5 0)), (1, .null), (2, .int (x)), (3, .int (s))]) E dX5_openingsBeside_4 (by decide) rfl ?_
  refine g_locals [(0, .ref (ad 5 0)), (1, .null), (2, .int (x)), (3, .int (s)), (4, .int (0)), (5, .int (0))] [2, 3, 4, 5, 1, 0] rfl ?_
  have loop_6 : ∀ (n_6 k : Nat), k ≤ c 1 → c 1 < n_6 + k → G C (cW (xy C) S) 0 0 6 [(0, .ref (ad 5 0)), (1, .null), (2, .int (x)), (3, .int (s)), (4, .int ((cntI (fun k => none ≠ some k ∧ i 2 k = x ∧ ¬ j 1 k = 0 ∧ i 3 k / 500 = s) k))), (5, .int (nI k))] [] := by
    intro n_6
    induction n_6 with
    | zero => intro k h1 h2; exact absurd h2 (by omega)
    | succ n_6 ih_6 =>
      intro k h1_6 h2_6
      refine g_iload E dX5_openingsBeside_6 5 rfl ?_
      refine g_aload_n E dX5_openingsBeside_8 rfl 0 rfl ?_
      refine q_get_PW_allOpenings E hI (fun _ h => (List.mem_cons_of_mem _ (List.mem_append_left _ (List.mem_append_left _ (List.mem_append_right _ h))))) (List.mem_cons_of_mem _ (List.mem_append_left _ (List.mem_append_left _ (List.mem_append_left _ (List.mem_append_left _ (List.mem_of_getElem? (i := 0) rfl)))))) dX5_openingsBeside_9 ?_
      refine c_invV (n := 0) (rest := [.int (nI k)]) E (m_Jx4a65c_size_8abf5 (xl C) E.tr (xD C) (xy C) e0 hI.lists.2.2) (hI.obj (kd := 6) (k := 2) (by omega) (by have := hI.cnt; omega)).1 gX5_openingsBeside_Jx4a65c_size_8abf5 rfl rfl rfl (by decide +kernel) ⟨Nat.le_of_ble_eq_true rfl, Nat.le_of_ble_eq_true rfl⟩ (wF_AL (hI.obj (kd := 6) (k := 2) (by omega) (by have := hI.cnt; omega)).2) rfl rfl rfl rfl (Nat.le_of_ble_eq_true rfl) dX5_openingsBeside_12 ⟨Nat.le_of_ble_eq_true rfl, Nat.le_of_ble_eq_true rfl⟩ (fun _ _ h9 => h9.elim) (fun v9 S9 h9 => ?_)
      obtain ⟨hv9, hS9⟩ := h9
      rw [hv9, hS9]
      show G C (cW (xy C) S) 0 0 15 [(0, .ref (ad 5 0)), (1, .null), (2, .int (x)), (3, .int (s)), (4, .int ((cntI (fun k => none ≠ some k ∧ i 2 k = x ∧ ¬ j 1 k = 0 ∧ i 3 k / 500 = s) k))), (5, .int (nI k))] [.int (nI (c 1)), .int (nI k)]
      refine g_icmp_ge (tgt := 77) E dX5_openingsBeside_15 (by decide) (fun c_15 => ?_) (fun c_15 => ?_)
      · have e_k : k = c 1 := Nat.le_antisymm h1_6 (nI_ge_nat (by omega) (by omega) c_15)
        refine g_iload E dX5_openingsBeside_77 4 rfl ?_
        exact g_iret E hE hr dX5_openingsBeside_79 (Nat.le_of_ble_eq_true rfl) (Nat.le_of_ble_eq_true rfl) ⟨S, rfl, by rw [e_k], rfl⟩
      · have hk_k : k < c 1 := nI_nge_nat (by omega) (by omega) c_15
        refine g_aload_n E dX5_openingsBeside_18 rfl 0 rfl ?_
        refine q_get_PW_allOpenings E hI (fun _ h => (List.mem_cons_of_mem _ (List.mem_append_left _ (List.mem_append_left _ (List.mem_append_right _ h))))) (List.mem_cons_of_mem _ (List.mem_append_left _ (List.mem_append_left _ (List.mem_append_left _ (List.mem_append_left _ (List.mem_of_getElem? (i := 0) rfl)))))) dX5_openingsBeside_19 ?_
        refine g_iload E dX5_openingsBeside_22 5 rfl ?_
        refine c_invV (n := 1) (rest := []) E (m_Jx4a65c_get_915e3 (xl C) E.tr (xD C) (xy C) e0 hI.lists.2.2 (k := k) hk_k) (hI.obj (kd := 6) (k := 2) (by omega) (by have := hI.cnt; omega)).1 gX5_openingsBeside_Jx4a65c_get_915e3 rfl rfl rfl (by decide +kernel) ⟨Nat.le_of_ble_eq_true rfl, Nat.le_of_ble_eq_true rfl⟩ (wF_AL (hI.obj (kd := 6) (k := 2) (by omega) (by have := hI.cnt; omega)).2) rfl rfl rfl rfl (Nat.le_of_ble_eq_true rfl) dX5_openingsBeside_24 ⟨Nat.le_of_ble_eq_true rfl, Nat.le_of_ble_eq_true rfl⟩ (fun _ _ h9 => h9.elim) (fun v9 S9 h9 => ?_)
        obtain ⟨hv9, hS9⟩ := h9
        rw [hv9, hS9]
        show G C (cW (xy C) S) 0 0 27 [(0, .ref (ad 5 0)), (1, .null), (2, .int (x)), (3, .int (s)), (4, .int ((cntI (fun k => none ≠ some k ∧ i 2 k = x ∧ ¬ j 1 k = 0 ∧ i 3 k / 500 = s) k))), (5, .int (nI k))] [.ref (ad 1 k)]
        refine p_cast E (List.mem_cons_of_mem _ (List.mem_append_left _ (List.mem_append_left _ (List.mem_append_left _ (List.mem_append_left _ (List.mem_of_getElem? (i := 1) rfl)))))) (hI.obj (kd := 1) (k := k) (by omega) hk_k).1 (wF_Opening (hI.obj (kd := 1) (k := k) (by omega) hk_k).2) rfl rfl dX5_openingsBeside_27 ?_
        refine g_astore (L' := [(6, .ref (ad 1 k)), (0, .ref (ad 5 0)), (1, .null), (2, .int (x)), (3, .int (s)), (4, .int ((cntI (fun k => none ≠ some k ∧ i 2 k = x ∧ ¬ j 1 k = 0 ∧ i 3 k / 500 = s) k))), (5, .int (nI k))]) E dX5_openingsBeside_30 (by decide) rfl ?_
        refine g_aload E dX5_openingsBeside_32 0 rfl ?_
        refine g_aload_nN E dX5_openingsBeside_34 rfl 2 rfl ?_
        refine g_acmp_eq (rx := (some (ad 1 k))) (ry := none) (hvx := rfl) (hvy := rfl) (tgt := 71) E dX5_openingsBeside_35 (by decide) (fun c_35 => ?_) (fun c_35 => ?_)
        · exact absurd c_35 (by simp)
        · refine g_aload E dX5_openingsBeside_38 0 rfl ?_
          refine q_getN_Opening_lane E hI hk_k (fun _ h => (List.mem_cons_of_mem _ (List.mem_append_left _ (List.mem_append_right _ h)))) tbF_RX5_297 dX5_openingsBeside_40 ?_
          refine g_iload_n E dX5_openingsBeside_43 rfl 3 rfl ?_
          refine g_icmp_ne (tgt := 71) E dX5_openingsBeside_44 (by decide) (fun c_44 => ?_) (fun c_44 => ?_)
          · refine g_iinc (v := nI (k + 1)) (L' := [(5, .int (nI (k + 1))), (6, .ref (ad 1 k)), (0, .ref (ad 5 0)), (1, .null), (2, .int (x)), (3, .int (s)), (4, .int ((cntI (fun k => none ≠ some k ∧ i 2 k = x ∧ ¬ j 1 k = 0 ∧ i 3 k / 500 = s) k)))]) E dX5_openingsBeside_71 6 rfl (nI_1 k) (by decide) rfl ?_
            refine g_goto (tgt := 6) E dX5_openingsBeside_74 (by decide) ?_
            refine g_locals [(0, .ref (ad 5 0)), (1, .null), (2, .int (x)), (3, .int (s)), (4, .int ((cntI (fun k => none ≠ some k ∧ i 2 k = x ∧ ¬ j 1 k = 0 ∧ i 3 k / 500 = s) k))), (5, .int (nI (k + 1)))] [2, 3, 4, 5, 6, 0] rfl ?_
            refine g_L (L' := [(0, .ref (ad 5 0)), (1, .null), (2, .int (x)), (3, .int (s)), (4, .int ((cntI (fun k => none ≠ some k ∧ i 2 k = x ∧ ¬ j 1 k = 0 ∧ i 3 k / 500 = s) (k + 1)))), (5, .int (nI (k + 1)))]) (by rw [cntI_f (P := (fun k => none ≠ some k ∧ i 2 k = x ∧ ¬ j 1 k = 0 ∧ i 3 k / 500 = s)) (fun q => c_44 q.2.1)]) (ih_6 (k + 1) (by omega) (by omega))
          · refine g_aload E dX5_openingsBeside_47 0 rfl ?_
            refine c_invV (n := 0) (rest := []) E (m_X1_isThere (xl C) E.tr (xD C) (xy C) e0 (S := S) (hI.obj (kd := 1) (k := k) (by omega) hk_k).1 (hI.obj (kd := 1) (k := k) (by omega) hk_k).2) (hI.obj (kd := 1) (k := k) (by omega) hk_k).1 gX5_openingsBeside_X1_isThere rfl rfl rfl (by decide +kernel) ⟨Nat.le_of_ble_eq_true rfl, Nat.le_of_ble_eq_true rfl⟩ (wF_Opening (hI.obj (kd := 1) (k := k) (by omega) hk_k).2) rfl rfl rfl rfl (Nat.le_of_ble_eq_true rfl) dX5_openingsBeside_49 ⟨Nat.le_of_ble_eq_true rfl, Nat.le_of_ble_eq_true rfl⟩ (fun _ _ h9 => h9.elim) (fun v9 S9 h9 => ?_)
            obtain ⟨hv9, hS9⟩ := h9
            have e1 : sJ S 1 (ad 1 k) = j 1 k := hI.long (f := 1) hk_k
            rw [hv9, hS9, e1]
            show G C (cW (xy C) S) 0 0 52 [(6, .ref (ad 1 k)), (0, .ref (ad 5 0)), (1, .null), (2, .int (x)), (3, .int (s)), (4, .int ((cntI (fun k => none ≠ some k ∧ i 2 k = x ∧ ¬ j 1 k = 0 ∧ i 3 k / 500 = s) k))), (5, .int (nI k))] [.int ((bI (¬ j 1 k = 0)))]
            refine g_if_eq (tgt := 71) E dX5_openingsBeside_52 (by decide) (fun c_52 => ?_) (fun c_52 => ?_)
            · refine g_iinc (v := nI (k + 1)) (L' := [(5, .int (nI (k + 1))), (6, .ref (ad 1 k)), (0, .ref (ad 5 0)), (1, .null), (2, .int (x)), (3, .int (s)), (4, .int ((cntI (fun k => none ≠ some k ∧ i 2 k = x ∧ ¬ j 1 k = 0 ∧ i 3 k / 500 = s) k)))]) E dX5_openingsBeside_71 6 rfl (nI_1 k) (by decide) rfl ?_
              refine g_goto (tgt := 6) E dX5_openingsBeside_74 (by decide) ?_
              refine g_locals [(0, .ref (ad 5 0)), (1, .null), (2, .int (x)), (3, .int (s)), (4, .int ((cntI (fun k => none ≠ some k ∧ i 2 k = x ∧ ¬ j 1 k = 0 ∧ i 3 k / 500 = s) k))), (5, .int (nI (k + 1)))] [2, 3, 4, 5, 6, 0] rfl ?_
              refine g_L (L' := [(0, .ref (ad 5 0)), (1, .null), (2, .int (x)), (3, .int (s)), (4, .int ((cntI (fun k => none ≠ some k ∧ i 2 k = x ∧ ¬ j 1 k = 0 ∧ i 3 k / 500 = s) (k + 1)))), (5, .int (nI (k + 1)))]) (by rw [cntI_f (P := (fun k => none ≠ some k ∧ i 2 k = x ∧ ¬ j 1 k = 0 ∧ i 3 k / 500 = s)) (fun q => bI_eq0.mp c_52 q.2.2.1)]) (ih_6 (k + 1) (by omega) (by omega))
            · refine g_aload E dX5_openingsBeside_55 0 rfl ?_
              refine q_getN_Opening_first E hI hk_k (fun _ h => (List.mem_cons_of_mem _ (List.mem_append_left _ (List.mem_append_right _ h)))) tbF_RX5_302 dX5_openingsBeside_57 ?_
              refine g_sipush (v := 500) E dX5_openingsBeside_60 (by decide) ?_
              refine g_idiv E dX5_openingsBeside_63 (by decide) ?_
              refine g_iload_n E dX5_openingsBeside_64 rfl 4 rfl ?_
              refine g_icmp_ne (tgt := 71) E dX5_openingsBeside_65 (by decide) (fun c_65 => ?_) (fun c_65 => ?_)
              · refine g_iinc (v := nI (k + 1)) (L' := [(5, .int (nI (k + 1))), (6, .ref (ad 1 k)), (0, .ref (ad 5 0)), (1, .null), (2, .int (x)), (3, .int (s)), (4, .int ((cntI (fun k => none ≠ some k ∧ i 2 k = x ∧ ¬ j 1 k = 0 ∧ i 3 k / 500 = s) k)))]) E dX5_openingsBeside_71 6 rfl (nI_1 k) (by decide) rfl ?_
                refine g_goto (tgt := 6) E dX5_openingsBeside_74 (by decide) ?_
                refine g_locals [(0, .ref (ad 5 0)), (1, .null), (2, .int (x)), (3, .int (s)), (4, .int ((cntI (fun k => none ≠ some k ∧ i 2 k = x ∧ ¬ j 1 k = 0 ∧ i 3 k / 500 = s) k))), (5, .int (nI (k + 1)))] [2, 3, 4, 5, 6, 0] rfl ?_
                refine g_L (L' := [(0, .ref (ad 5 0)), (1, .null), (2, .int (x)), (3, .int (s)), (4, .int ((cntI (fun k => none ≠ some k ∧ i 2 k = x ∧ ¬ j 1 k = 0 ∧ i 3 k / 500 = s) (k + 1)))), (5, .int (nI (k + 1)))]) (by rw [cntI_f (P := (fun k => none ≠ some k ∧ i 2 k = x ∧ ¬ j 1 k = 0 ∧ i 3 k / 500 = s)) (fun q => c_65 q.2.2.2)]) (ih_6 (k + 1) (by omega) (by omega))
              · refine g_iinc (v := (cntI (fun k => none ≠ some k ∧ i 2 k = x ∧ ¬ j 1 k = 0 ∧ i 3 k / 500 = s) k) + 1) (L' := [(4, .int ((cntI (fun k => none ≠ some k ∧ i 2 k = x ∧ ¬ j 1 k = 0 ∧ i 3 k / 500 = s) k) + 1)), (6, .ref (ad 1 k)), (0, .ref (ad 5 0)), (1, .null), (2, .int (x)), (3, .int (s)), (5, .int (nI k))]) E dX5_openingsBeside_68 5 rfl rfl (by decide) rfl ?_
                refine g_iinc (v := nI (k + 1)) (L' := [(5, .int (nI (k + 1))), (4, .int ((cntI (fun k => none ≠ some k ∧ i 2 k = x ∧ ¬ j 1 k = 0 ∧ i 3 k / 500 = s) k) + 1)), (6, .ref (ad 1 k)), (0, .ref (ad 5 0)), (1, .null), (2, .int (x)), (3, .int (s))]) E dX5_openingsBeside_71 6 rfl (nI_1 k) (by decide) rfl ?_
                refine g_goto (tgt := 6) E dX5_openingsBeside_74 (by decide) ?_
                refine g_locals [(0, .ref (ad 5 0)), (1, .null), (2, .int (x)), (3, .int (s)), (4, .int ((cntI (fun k => none ≠ some k ∧ i 2 k = x ∧ ¬ j 1 k = 0 ∧ i 3 k / 500 = s) k) + 1)), (5, .int (nI (k + 1)))] [3, 4, 5, 6, 1, 0] rfl ?_
                refine g_L (L' := [(0, .ref (ad 5 0)), (1, .null), (2, .int (x)), (3, .int (s)), (4, .int ((cntI (fun k => none ≠ some k ∧ i 2 k = x ∧ ¬ j 1 k = 0 ∧ i 3 k / 500 = s) (k + 1)))), (5, .int (nI (k + 1)))]) (by rw [cntI_t (P := (fun k => none ≠ some k ∧ i 2 k = x ∧ ¬ j 1 k = 0 ∧ i 3 k / 500 = s)) ⟨(by simp), c_44, bI_ne0.mp c_52, c_65⟩]) (ih_6 (k + 1) (by omega) (by omega))
  exact loop_6 (c 1 + 1) 0 (by omega) (by omega)
set_option maxHeartbeats 4000000 in
set_option maxRecDepth 100000 in
theorem m_X5_openingsBeside (l : Launch) (hl : l.stackTraces = false) (D : va_G) (cy : Nat → ClassId) (e0 : Nat) {S : wS} {c : Nat → Nat} {ad : Nat → Nat → Nat} {i : Nat → Nat → Int32} {j : Nat → Nat → Int64} {p : Nat → Nat → Option Nat} {r : Nat → Nat → Int32} (hI : CI e0 S c ad i j p r) {sp : Nat} (hsp : sp < c 1) {x s : Int32} : cMet l yX5_openingsBeside wsX5_openingsBeside rm_X5_openingsBeside D cy e0 [.ref (ad 5 0), .ref (ad 1 sp), .int (x), .int (s)] S (fun v S' => v = some (.int (cntI (fun k => some sp ≠ some k ∧ i 2 k = x ∧ ¬ j 1 k = 0 ∧ i 3 k / 500 = s) (c 1))) ∧ S' = S) (fun _ _ => False) 0 0 := by
  refine gMet.of (cc := cX5_openingsBeside) (maxL := 7) (ret := (some .int)) hl (by decide) rfl (Nat.le_of_ble_eq_true rfl) ?_
  intro C E h1 h2 h3 hr hnm hT hE
  subst h1; subst h2; subst h3
  have E : gOk C cX5_openingsBeside 7 wsX5_openingsBeside RX5 e0 rm_X5_openingsBeside := E
  show G C (cW (xy C) S) 0 0 0 [(0, .ref (ad 5 0)), (1, .ref (ad 1 sp)), (2, .int (x)), (3, .int (s))] []
  have hc := hI.cnt
  refine g_iconst (v := 0) E dX5_openingsBeside_0 (by decide) ?_
  refine g_istore (L' := [(4, .int (0)), (0, .ref (ad 5 0)), (1, .ref (ad 1 sp)), (2, .int (x)), (3, .int (s))]) E dX5_openingsBeside_1 (by decide) rfl ?_
  refine g_iconst (v := 0) E dX5_openingsBeside_3 (by decide) ?_
  refine g_istore (L' := [(5, .int (0)), (4, .int (0)), (0, .ref (ad 5 0)), (1, .ref (ad 1 sp)), (2, .int (x)), (3, .int (s))]) E dX5_openingsBeside_4 (by decide) rfl ?_
  refine g_locals [(0, .ref (ad 5 0)), (1, .ref (ad 1 sp)), (2, .int (x)), (3, .int (s)), (4, .int (0)), (5, .int (0))] [2, 3, 4, 5, 1, 0] rfl ?_
  have loop_6 : ∀ (n_6 k : Nat), k ≤ c 1 → c 1 < n_6 + k → G C (cW (xy C) S) 0 0 6 [(0, .ref (ad 5 0)), (1, .ref (ad 1 sp)), (2, .int (x)), (3, .int (s)), (4, .int ((cntI (fun k => some sp ≠ some k ∧ i 2 k = x ∧ ¬ j 1 k = 0 ∧ i 3 k / 500 = s) k))), (5, .int (nI k))] [] := by
    intro n_6
    induction n_6 with
    | zero => intro k h1 h2; exact absurd h2 (by omega)
    | succ n_6 ih_6 =>
      intro k h1_6 h2_6
      refine g_iload E dX5_openingsBeside_6 5 rfl ?_
      refine g_aload_n E dX5_openingsBeside_8 rfl 0 rfl ?_
      refine q_get_PW_allOpenings E hI (fun _ h => (List.mem_cons_of_mem _ (List.mem_append_left _ (List.mem_append_left _ (List.mem_append_right _ h))))) (List.mem_cons_of_mem _ (List.mem_append_left _ (List.mem_append_left _ (List.mem_append_left _ (List.mem_append_left _ (List.mem_of_getElem? (i := 0) rfl)))))) dX5_openingsBeside_9 ?_
      refine c_invV (n := 0) (rest := [.int (nI k)]) E (m_Jx4a65c_size_8abf5 (xl C) E.tr (xD C) (xy C) e0 hI.lists.2.2) (hI.obj (kd := 6) (k := 2) (by omega) (by have := hI.cnt; omega)).1 gX5_openingsBeside_Jx4a65c_size_8abf5 rfl rfl rfl (by decide +kernel) ⟨Nat.le_of_ble_eq_true rfl, Nat.le_of_ble_eq_true rfl⟩ (wF_AL (hI.obj (kd := 6) (k := 2) (by omega) (by have := hI.cnt; omega)).2) rfl rfl rfl rfl (Nat.le_of_ble_eq_true rfl) dX5_openingsBeside_12 ⟨Nat.le_of_ble_eq_true rfl, Nat.le_of_ble_eq_true rfl⟩ (fun _ _ h9 => h9.elim) (fun v9 S9 h9 => ?_)
      obtain ⟨hv9, hS9⟩ := h9
      rw [hv9, hS9]
      show G C (cW (xy C) S) 0 0 15 [(0, .ref (ad 5 0)), (1, .ref (ad 1 sp)), (2, .int (x)), (3, .int (s)), (4, .int ((cntI (fun k => some sp ≠ some k ∧ i 2 k = x ∧ ¬ j 1 k = 0 ∧ i 3 k / 500 = s) k))), (5, .int (nI k))] [.int (nI (c 1)), .int (nI k)]
      refine g_icmp_ge (tgt := 77) E dX5_openingsBeside_15 (by decide) (fun c_15 => ?_) (fun c_15 => ?_)
      · have e_k : k = c 1 := Nat.le_antisymm h1_6 (nI_ge_nat (by omega) (by omega) c_15)
        refine g_iload E dX5_openingsBeside_77 4 rfl ?_
        exact g_iret E hE hr dX5_openingsBeside_79 (Nat.le_of_ble_eq_true rfl) (Nat.le_of_ble_eq_true rfl) ⟨S, rfl, by rw [e_k], rfl⟩
      · have hk_k : k < c 1 := nI_nge_nat (by omega) (by omega) c_15
        refine g_aload_n E dX5_openingsBeside_18 rfl 0 rfl ?_
        refine q_get_PW_allOpenings E hI (fun _ h => (List.mem_cons_of_mem _ (List.mem_append_left _ (List.mem_append_left _ (List.mem_append_right _ h))))) (List.mem_cons_of_mem _ (List.mem_append_left _ (List.mem_append_left _ (List.mem_append_left _ (List.mem_append_left _ (List.mem_of_getElem? (i := 0) rfl)))))) dX5_openingsBeside_19 ?_
        refine g_iload E dX5_openingsBeside_22 5 rfl ?_
        refine c_invV (n := 1) (rest := []) E (m_Jx4a65c_get_915e3 (xl C) E.tr (xD C) (xy C) e0 hI.lists.2.2 (k := k) hk_k) (hI.obj (kd := 6) (k := 2) (by omega) (by have := hI.cnt; omega)).1 gX5_openingsBeside_Jx4a65c_get_915e3 rfl rfl rfl (by decide +kernel) ⟨Nat.le_of_ble_eq_true rfl, Nat.le_of_ble_eq_true rfl⟩ (wF_AL (hI.obj (kd := 6) (k := 2) (by omega) (by have := hI.cnt; omega)).2) rfl rfl rfl rfl (Nat.le_of_ble_eq_true rfl) dX5_openingsBeside_24 ⟨Nat.le_of_ble_eq_true rfl, Nat.le_of_ble_eq_true rfl⟩ (fun _ _ h9 => h9.elim) (fun v9 S9 h9 => ?_)
        obtain ⟨hv9, hS9⟩ := h9
        rw [hv9, hS9]
        show G C (cW (xy C) S) 0 0 27 [(0, .ref (ad 5 0)), (1, .ref (ad 1 sp)), (2, .int (x)), (3, .int (s)), (4, .int ((cntI (fun k => some sp ≠ some k ∧ i 2 k = x ∧ ¬ j 1 k = 0 ∧ i 3 k / 500 = s) k))), (5, .int (nI k))] [.ref (ad 1 k)]
        refine p_cast E (List.mem_cons_of_mem _ (List.mem_append_left _ (List.mem_append_left _ (List.mem_append_left _ (List.mem_append_left _ (List.mem_of_getElem? (i := 1) rfl)))))) (hI.obj (kd := 1) (k := k) (by omega) hk_k).1 (wF_Opening (hI.obj (kd := 1) (k := k) (by omega) hk_k).2) rfl rfl dX5_openingsBeside_27 ?_
        refine g_astore (L' := [(6, .ref (ad 1 k)), (0, .ref (ad 5 0)), (1, .ref (ad 1 sp)), (2, .int (x)), (3, .int (s)), (4, .int ((cntI (fun k => some sp ≠ some k ∧ i 2 k = x ∧ ¬ j 1 k = 0 ∧ i 3 k / 500 = s) k))), (5, .int (nI k))]) E dX5_openingsBeside_30 (by decide) rfl ?_
        refine g_aload E dX5_openingsBeside_32 0 rfl ?_
        refine g_aload_n E dX5_openingsBeside_34 rfl 2 rfl ?_
        refine g_acmp_eq (rx := (some (ad 1 k))) (ry := (some (ad 1 sp))) (hvx := rfl) (hvy := rfl) (tgt := 71) E dX5_openingsBeside_35 (by decide) (fun c_35 => ?_) (fun c_35 => ?_)
        · refine g_iinc (v := nI (k + 1)) (L' := [(5, .int (nI (k + 1))), (6, .ref (ad 1 k)), (0, .ref (ad 5 0)), (1, .ref (ad 1 sp)), (2, .int (x)), (3, .int (s)), (4, .int ((cntI (fun k => some sp ≠ some k ∧ i 2 k = x ∧ ¬ j 1 k = 0 ∧ i 3 k / 500 = s) k)))]) E dX5_openingsBeside_71 6 rfl (nI_1 k) (by decide) rfl ?_
          refine g_goto (tgt := 6) E dX5_openingsBeside_74 (by decide) ?_
          refine g_locals [(0, .ref (ad 5 0)), (1, .ref (ad 1 sp)), (2, .int (x)), (3, .int (s)), (4, .int ((cntI (fun k => some sp ≠ some k ∧ i 2 k = x ∧ ¬ j 1 k = 0 ∧ i 3 k / 500 = s) k))), (5, .int (nI (k + 1)))] [2, 3, 4, 5, 6, 0] rfl ?_
          refine g_L (L' := [(0, .ref (ad 5 0)), (1, .ref (ad 1 sp)), (2, .int (x)), (3, .int (s)), (4, .int ((cntI (fun k => some sp ≠ some k ∧ i 2 k = x ∧ ¬ j 1 k = 0 ∧ i 3 k / 500 = s) (k + 1)))), (5, .int (nI (k + 1)))]) (by rw [cntI_f (P := (fun k => some sp ≠ some k ∧ i 2 k = x ∧ ¬ j 1 k = 0 ∧ i 3 k / 500 = s)) (fun q => q.1 (congrArg some (hI.inj (by omega) hk_k hsp (Option.some.inj c_35)).symm))]) (ih_6 (k + 1) (by omega) (by omega))
        · refine g_aload E dX5_openingsBeside_38 0 rfl ?_
          refine q_getN_Opening_lane E hI hk_k (fun _ h => (List.mem_cons_of_mem _ (List.mem_append_left _ (List.mem_append_right _ h)))) tbF_RX5_297 dX5_openingsBeside_40 ?_
          refine g_iload_n E dX5_openingsBeside_43 rfl 3 rfl ?_
          refine g_icmp_ne (tgt := 71) E dX5_openingsBeside_44 (by decide) (fun c_44 => ?_) (fun c_44 => ?_)
          · refine g_iinc (v := nI (k + 1)) (L' := [(5, .int (nI (k + 1))), (6, .ref (ad 1 k)), (0, .ref (ad 5 0)), (1, .ref (ad 1 sp)), (2, .int (x)), (3, .int (s)), (4, .int ((cntI (fun k => some sp ≠ some k ∧ i 2 k = x ∧ ¬ j 1 k = 0 ∧ i 3 k / 500 = s) k)))]) E dX5_openingsBeside_71 6 rfl (nI_1 k) (by decide) rfl ?_
            refine g_goto (tgt := 6) E dX5_openingsBeside_74 (by decide) ?_
            refine g_locals [(0, .ref (ad 5 0)), (1, .ref (ad 1 sp)), (2, .int (x)), (3, .int (s)), (4, .int ((cntI (fun k => some sp ≠ some k ∧ i 2 k = x ∧ ¬ j 1 k = 0 ∧ i 3 k / 500 = s) k))), (5, .int (nI (k + 1)))] [2, 3, 4, 5, 6, 0] rfl ?_
            refine g_L (L' := [(0, .ref (ad 5 0)), (1, .ref (ad 1 sp)), (2, .int (x)), (3, .int (s)), (4, .int ((cntI (fun k => some sp ≠ some k ∧ i 2 k = x ∧ ¬ j 1 k = 0 ∧ i 3 k / 500 = s) (k + 1)))), (5, .int (nI (k + 1)))]) (by rw [cntI_f (P := (fun k => some sp ≠ some k ∧ i 2 k = x ∧ ¬ j 1 k = 0 ∧ i 3 k / 500 = s)) (fun q => c_44 q.2.1)]) (ih_6 (k + 1) (by omega) (by omega))
          · refine g_aload E dX5_openingsBeside_47 0 rfl ?_
            refine c_invV (n := 0) (rest := []) E (m_X1_isThere (xl C) E.tr (xD C) (xy C) e0 (S := S) (hI.obj (kd := 1) (k := k) (by omega) hk_k).1 (hI.obj (kd := 1) (k := k) (by omega) hk_k).2) (hI.obj (kd := 1) (k := k) (by omega) hk_k).1 gX5_openingsBeside_X1_isThere rfl rfl rfl (by decide +kernel) ⟨Nat.le_of_ble_eq_true rfl, Nat.le_of_ble_eq_true rfl⟩ (wF_Opening (hI.obj (kd := 1) (k := k) (by omega) hk_k).2) rfl rfl rfl rfl (Nat.le_of_ble_eq_true rfl) dX5_openingsBeside_49 ⟨Nat.le_of_ble_eq_true rfl, Nat.le_of_ble_eq_true rfl⟩ (fun _ _ h9 => h9.elim) (fun v9 S9 h9 => ?_)
            obtain ⟨hv9, hS9⟩ := h9
            have e1 : sJ S 1 (ad 1 k) = j 1 k := hI.long (f := 1) hk_k
            rw [hv9, hS9, e1]
            show G C (cW (xy C) S) 0 0 52 [(6, .ref (ad 1 k)), (0, .ref (ad 5 0)), (1, .ref (ad 1 sp)), (2, .int (x)), (3, .int (s)), (4, .int ((cntI (fun k => some sp ≠ some k ∧ i 2 k = x ∧ ¬ j 1 k = 0 ∧ i 3 k / 500 = s) k))), (5, .int (nI k))] [.int ((bI (¬ j 1 k = 0)))]
            refine g_if_eq (tgt := 71) E dX5_openingsBeside_52 (by decide) (fun c_52 => ?_) (fun c_52 => ?_)
            · refine g_iinc (v := nI (k + 1)) (L' := [(5, .int (nI (k + 1))), (6, .ref (ad 1 k)), (0, .ref (ad 5 0)), (1, .ref (ad 1 sp)), (2, .int (x)), (3, .int (s)), (4, .int ((cntI (fun k => some sp ≠ some k ∧ i 2 k = x ∧ ¬ j 1 k = 0 ∧ i 3 k / 500 = s) k)))]) E dX5_openingsBeside_71 6 rfl (nI_1 k) (by decide) rfl ?_
              refine g_goto (tgt := 6) E dX5_openingsBeside_74 (by decide) ?_
              refine g_locals [(0, .ref (ad 5 0)), (1, .ref (ad 1 sp)), (2, .int (x)), (3, .int (s)), (4, .int ((cntI (fun k => some sp ≠ some k ∧ i 2 k = x ∧ ¬ j 1 k = 0 ∧ i 3 k / 500 = s) k))), (5, .int (nI (k + 1)))] [2, 3, 4, 5, 6, 0] rfl ?_
              refine g_L (L' := [(0, .ref (ad 5 0)), (1, .ref (ad 1 sp)), (2, .int (x)), (3, .int (s)), (4, .int ((cntI (fun k => some sp ≠ some k ∧ i 2 k = x ∧ ¬ j 1 k = 0 ∧ i 3 k / 500 = s) (k + 1)))), (5, .int (nI (k + 1)))]) (by rw [cntI_f (P := (fun k => some sp ≠ some k ∧ i 2 k = x ∧ ¬ j 1 k = 0 ∧ i 3 k / 500 = s)) (fun q => bI_eq0.mp c_52 q.2.2.1)]) (ih_6 (k + 1) (by omega) (by omega))
            · refine g_aload E dX5_openingsBeside_55 0 rfl ?_
              refine q_getN_Opening_first E hI hk_k (fun _ h => (List.mem_cons_of_mem _ (List.mem_append_left _ (List.mem_append_right _ h)))) tbF_RX5_302 dX5_openingsBeside_57 ?_
              refine g_sipush (v := 500) E dX5_openingsBeside_60 (by decide) ?_
              refine g_idiv E dX5_openingsBeside_63 (by decide) ?_
              refine g_iload_n E dX5_openingsBeside_64 rfl 4 rfl ?_
              refine g_icmp_ne (tgt := 71) E dX5_openingsBeside_65 (by decide) (fun c_65 => ?_) (fun c_65 => ?_)
              · refine g_iinc (v := nI (k + 1)) (L' := [(5, .int (nI (k + 1))), (6, .ref (ad 1 k)), (0, .ref (ad 5 0)), (1, .ref (ad 1 sp)), (2, .int (x)), (3, .int (s)), (4, .int ((cntI (fun k => some sp ≠ some k ∧ i 2 k = x ∧ ¬ j 1 k = 0 ∧ i 3 k / 500 = s) k)))]) E dX5_openingsBeside_71 6 rfl (nI_1 k) (by decide) rfl ?_
                refine g_goto (tgt := 6) E dX5_openingsBeside_74 (by decide) ?_
                refine g_locals [(0, .ref (ad 5 0)), (1, .ref (ad 1 sp)), (2, .int (x)), (3, .int (s)), (4, .int ((cntI (fun k => some sp ≠ some k ∧ i 2 k = x ∧ ¬ j 1 k = 0 ∧ i 3 k / 500 = s) k))), (5, .int (nI (k + 1)))] [2, 3, 4, 5, 6, 0] rfl ?_
                refine g_L (L' := [(0, .ref (ad 5 0)), (1, .ref (ad 1 sp)), (2, .int (x)), (3, .int (s)), (4, .int ((cntI (fun k => some sp ≠ some k ∧ i 2 k = x ∧ ¬ j 1 k = 0 ∧ i 3 k / 500 = s) (k + 1)))), (5, .int (nI (k + 1)))]) (by rw [cntI_f (P := (fun k => some sp ≠ some k ∧ i 2 k = x ∧ ¬ j 1 k = 0 ∧ i 3 k / 500 = s)) (fun q => c_65 q.2.2.2)]) (ih_6 (k + 1) (by omega) (by omega))
              · refine g_iinc (v := (cntI (fun k => some sp ≠ some k ∧ i 2 k = x ∧ ¬ j 1 k = 0 ∧ i 3 k / 500 = s) k) + 1) (L' := [(4, .int ((cntI (fun k => some sp ≠ some k ∧ i 2 k = x ∧ ¬ j 1 k = 0 ∧ i 3 k / 500 = s) k) + 1)), (6, .ref (ad 1 k)), (0, .ref (ad 5 0)), (1, .ref (ad 1 sp)), (2, .int (x)), (3, .int (s)), (5, .int (nI k))]) E dX5_openingsBeside_68 5 rfl rfl (by decide) rfl ?_
                refine g_iinc (v := nI (k + 1)) (L' := [(5, .int (nI (k + 1))), (4, .int ((cntI (fun k => some sp ≠ some k ∧ i 2 k = x ∧ ¬ j 1 k = 0 ∧ i 3 k / 500 = s) k) + 1)), (6, .ref (ad 1 k)), (0, .ref (ad 5 0)), (1, .ref (ad 1 sp)), (2, .int (x)), (3, .int (s))]) E dX5_openingsBeside_71 6 rfl (nI_1 k) (by decide) rfl ?_
                refine g_goto (tgt := 6) E dX5_openingsBeside_74 (by decide) ?_
                refine g_locals [(0, .ref (ad 5 0)), (1, .ref (ad 1 sp)), (2, .int (x)), (3, .int (s)), (4, .int ((cntI (fun k => some sp ≠ some k ∧ i 2 k = x ∧ ¬ j 1 k = 0 ∧ i 3 k / 500 = s) k) + 1)), (5, .int (nI (k + 1)))] [3, 4, 5, 6, 1, 0] rfl ?_
                refine g_L (L' := [(0, .ref (ad 5 0)), (1, .ref (ad 1 sp)), (2, .int (x)), (3, .int (s)), (4, .int ((cntI (fun k => some sp ≠ some k ∧ i 2 k = x ∧ ¬ j 1 k = 0 ∧ i 3 k / 500 = s) (k + 1)))), (5, .int (nI (k + 1)))]) (by rw [cntI_t (P := (fun k => some sp ≠ some k ∧ i 2 k = x ∧ ¬ j 1 k = 0 ∧ i 3 k / 500 = s)) ⟨(fun q => c_35 (by rw [Option.some.inj q])), c_44, bI_ne0.mp c_52, c_65⟩]) (ih_6 (k + 1) (by omega) (by omega))
  exact loop_6 (c 1 + 1) 0 (by omega) (by omega)
abbrev rm_X5_openingMetBy : Room := { frames := 3, cells := 0, slots := 0, locals := 64 }
set_option maxHeartbeats 4000000 in
set_option maxRecDepth 100000 in
theorem m_X5_openingMetBy (l : Launch) (hl : l.stackTraces = false) (D : va_G) (cy : Nat → ClassId) (e0 : Nat) {S : wS} {c : Nat → Nat} {ad : Nat → Nat → Nat} {i : Nat → Nat → Int32} {j : Nat → Nat → Int64} {p : Nat → Nat → Option Nat} {r : Nat → Nat → Int32} (hI : CI e0 S c ad i j p r) {q : Nat} (hqm : q ∈ sL S) (hqk : sK S q = 2) : cMet l yX5_openingMetBy wsX5_openingMetBy rm_X5_openingMetBy D cy e0 [.ref (ad 5 0), .ref (q)] S (fun v S' => ∃ o : Option Nat, v = some (va_rf (o.map (ad 1))) ∧ o = (if sI S 10 q = 0 then fstM (metF i p (sI S 7 q) (sI S 8 q) (sI S 9 q)) (c 2) else none) ∧ (∀ y, o = some y → y < c 1) ∧ S' = S) (fun _ _ => False) 0 0 := by
  refine gMet.of (cc := cX5_openingMetBy) (maxL := 4) (ret := (some (.object "PermitWeave$Opening"))) hl (by decide) rfl (Nat.le_of_ble_eq_true rfl) ?_
  intro C E h1 h2 h3 hr hnm hT hE
  subst h1; subst h2; subst h3
  have E : gOk C cX5_openingMetBy 4 wsX5_openingMetBy RX5 e0 rm_X5_openingMetBy := E
  show G C (cW (xy C) S) 0 0 0 [(0, .ref (ad 5 0)), (1, .ref (q))] []
  have hc := hI.cnt
  refine g_aload_n E dX5_openingMetBy_0 rfl 1 rfl ?_
  refine p_getN_Permit_isUrgent (S := S) E hqm hqk (fun _ h => (List.mem_cons_of_mem _ (List.mem_append_left _ (List.mem_append_left _ (List.mem_append_left _ (List.mem_append_right _ h)))))) tbF_RX5_273 dX5_openingMetBy_1 ?_
  refine g_if_eq (tgt := 9) E dX5_openingMetBy_4 (by decide) (fun c_4 => ?_) (fun c_4 => ?_)
  · refine g_iconst (v := 0) E dX5_openingMetBy_9 (by decide) ?_
    refine g_istore_n (L' := [(2, .int (0)), (0, .ref (ad 5 0)), (1, .ref (q))]) E dX5_openingMetBy_10 rfl (by decide) rfl ?_
    refine g_locals [(0, .ref (ad 5 0)), (1, .ref (q)), (2, .int (0))] [1, 2, 0] rfl ?_
    have loop_11 : ∀ (n_11 k : Nat), (fstM (metF i p (sI S 7 q) (sI S 8 q) (sI S 9 q)) k = none) → k ≤ c 2 → c 2 < n_11 + k → G C (cW (xy C) S) 0 0 11 [(0, .ref (ad 5 0)), (1, .ref (q)), (2, .int (nI k))] [] := by
      intro n_11
      induction n_11 with
      | zero => intro k hv h1 h2; exact absurd h2 (by omega)
      | succ n_11 ih_11 =>
        intro k hv_11 h1_11 h2_11
        refine g_iload_n E dX5_openingMetBy_11 rfl 2 rfl ?_
        refine g_aload_n E dX5_openingMetBy_12 rfl 0 rfl ?_
        refine q_get_PW_permits E hI (fun _ h => (List.mem_cons_of_mem _ (List.mem_append_left _ (List.mem_append_left _ (List.mem_append_right _ h))))) (List.mem_cons_of_mem _ (List.mem_append_left _ (List.mem_append_left _ (List.mem_append_left _ (List.mem_append_left _ (List.mem_append_left _ (List.mem_of_getElem? (i := 0) rfl))))))) dX5_openingMetBy_13 ?_
        refine c_invV (n := 0) (rest := [.int (nI k)]) E (m_Jx4a65c_size_8abf5 (xl C) E.tr (xD C) (xy C) e0 hI.lists.2.1) (hI.obj (kd := 6) (k := 1) (by omega) (by have := hI.cnt; omega)).1 gX5_openingMetBy_Jx4a65c_size_8abf5 rfl rfl rfl (by decide +kernel) ⟨Nat.le_of_ble_eq_true rfl, Nat.le_of_ble_eq_true rfl⟩ (wF_AL (hI.obj (kd := 6) (k := 1) (by omega) (by have := hI.cnt; omega)).2) rfl rfl rfl rfl (Nat.le_of_ble_eq_true rfl) dX5_openingMetBy_16 ⟨Nat.le_of_ble_eq_true rfl, Nat.le_of_ble_eq_true rfl⟩ (fun _ _ h9 => h9.elim) (fun v9 S9 h9 => ?_)
        obtain ⟨hv9, hS9⟩ := h9
        rw [hv9, hS9]
        show G C (cW (xy C) S) 0 0 19 [(0, .ref (ad 5 0)), (1, .ref (q)), (2, .int (nI k))] [.int (nI (c 2)), .int (nI k)]
        refine g_icmp_ge (tgt := 89) E dX5_openingMetBy_19 (by decide) (fun c_19 => ?_) (fun c_19 => ?_)
        · have e_k : k = c 2 := Nat.le_antisymm h1_11 (nI_ge_nat (by omega) (by omega) c_19)
          refine g_null E dX5_openingMetBy_89 ?_
          exact g_aret E hE hr (by first | exact Or.inl ⟨_, rfl⟩ | exact Or.inr ⟨_, rfl⟩) (by first | exact Or.inl rfl | exact Or.inr ⟨_, rfl⟩) dX5_openingMetBy_90 (Nat.le_of_ble_eq_true rfl) (Nat.le_of_ble_eq_true rfl) ⟨S, rfl, none, rfl, by rw [if_pos c_4, ← e_k, hv_11], by simp, rfl⟩
        · have hk_k : k < c 2 := nI_nge_nat (by omega) (by omega) c_19
          refine g_aload_n E dX5_openingMetBy_22 rfl 0 rfl ?_
          refine q_get_PW_permits E hI (fun _ h => (List.mem_cons_of_mem _ (List.mem_append_left _ (List.mem_append_left _ (List.mem_append_right _ h))))) (List.mem_cons_of_mem _ (List.mem_append_left _ (List.mem_append_left _ (List.mem_append_left _ (List.mem_append_left _ (List.mem_append_left _ (List.mem_of_getElem? (i := 0) rfl))))))) dX5_openingMetBy_23 ?_
          refine g_iload_n E dX5_openingMetBy_26 rfl 2 rfl ?_
          refine c_invV (n := 1) (rest := []) E (m_Jx4a65c_get_915e3 (xl C) E.tr (xD C) (xy C) e0 hI.lists.2.1 (k := k) hk_k) (hI.obj (kd := 6) (k := 1) (by omega) (by have := hI.cnt; omega)).1 gX5_openingMetBy_Jx4a65c_get_915e3 rfl rfl rfl (by decide +kernel) ⟨Nat.le_of_ble_eq_true rfl, Nat.le_of_ble_eq_true rfl⟩ (wF_AL (hI.obj (kd := 6) (k := 1) (by omega) (by have := hI.cnt; omega)).2) rfl rfl rfl rfl (Nat.le_of_ble_eq_true rfl) dX5_openingMetBy_27 ⟨Nat.le_of_ble_eq_true rfl, Nat.le_of_ble_eq_true rfl⟩ (fun _ _ h9 => h9.elim) (fun v9 S9 h9 => ?_)
          obtain ⟨hv9, hS9⟩ := h9
          rw [hv9, hS9]
          show G C (cW (xy C) S) 0 0 30 [(0, .ref (ad 5 0)), (1, .ref (q)), (2, .int (nI k))] [.ref (ad 2 k)]
          refine p_cast E (List.mem_cons_of_mem _ (List.mem_append_left _ (List.mem_append_left _ (List.mem_append_left _ (List.mem_append_left _ (List.mem_append_left _ (List.mem_of_getElem? (i := 1) rfl))))))) (hI.obj (kd := 2) (k := k) (by omega) hk_k).1 (wF_Permit (hI.obj (kd := 2) (k := k) (by omega) hk_k).2) rfl rfl dX5_openingMetBy_30 ?_
          refine g_astore_n (L' := [(3, .ref (ad 2 k)), (0, .ref (ad 5 0)), (1, .ref (q)), (2, .int (nI k))]) E dX5_openingMetBy_33 rfl (by decide) rfl ?_
          refine g_aload_n E dX5_openingMetBy_34 rfl 0 rfl ?_
          refine q_getN_Permit_lane E hI hk_k (fun _ h => (List.mem_cons_of_mem _ (List.mem_append_left _ (List.mem_append_left _ (List.mem_append_left _ (List.mem_append_right _ h)))))) tbF_RX5_241 dX5_openingMetBy_35 ?_
          refine g_aload_n E dX5_openingMetBy_38 rfl 2 rfl ?_
          refine p_getN_Permit_lane (S := S) E hqm hqk (fun _ h => (List.mem_cons_of_mem _ (List.mem_append_left _ (List.mem_append_left _ (List.mem_append_left _ (List.mem_append_right _ h)))))) tbF_RX5_241 dX5_openingMetBy_39 ?_
          refine g_icmp_ne (tgt := 83) E dX5_openingMetBy_42 (by decide) (fun c_42 => ?_) (fun c_42 => ?_)
          · refine g_iinc (v := nI (k + 1)) (L' := [(2, .int (nI (k + 1))), (3, .ref (ad 2 k)), (0, .ref (ad 5 0)), (1, .ref (q))]) E dX5_openingMetBy_83 3 rfl (nI_1 k) (by decide) rfl ?_
            refine g_goto (tgt := 11) E dX5_openingMetBy_86 (by decide) ?_
            refine g_locals [(0, .ref (ad 5 0)), (1, .ref (q)), (2, .int (nI (k + 1)))] [2, 3, 0] rfl ?_
            refine g_L (L' := [(0, .ref (ad 5 0)), (1, .ref (q)), (2, .int (nI (k + 1)))]) (by rfl) (ih_11 (k + 1) (by rw [fstM_n hv_11]; exact metF_none (fun q1 q2 q3 y q4 q5 => c_42 q1)) (by omega) (by omega))
          · refine g_aload_n E dX5_openingMetBy_45 rfl 0 rfl ?_
            refine q_getN_Permit_isUrgent E hI hk_k (fun _ h => (List.mem_cons_of_mem _ (List.mem_append_left _ (List.mem_append_left _ (List.mem_append_left _ (List.mem_append_right _ h)))))) tbF_RX5_273 dX5_openingMetBy_46 ?_
            refine g_if_ne (tgt := 83) E dX5_openingMetBy_49 (by decide) (fun c_49 => ?_) (fun c_49 => ?_)
            · refine g_iinc (v := nI (k + 1)) (L' := [(2, .int (nI (k + 1))), (3, .ref (ad 2 k)), (0, .ref (ad 5 0)), (1, .ref (q))]) E dX5_openingMetBy_83 3 rfl (nI_1 k) (by decide) rfl ?_
              refine g_goto (tgt := 11) E dX5_openingMetBy_86 (by decide) ?_
              refine g_locals [(0, .ref (ad 5 0)), (1, .ref (q)), (2, .int (nI (k + 1)))] [2, 3, 0] rfl ?_
              refine g_L (L' := [(0, .ref (ad 5 0)), (1, .ref (q)), (2, .int (nI (k + 1)))]) (by rfl) (ih_11 (k + 1) (by rw [fstM_n hv_11]; exact metF_none (fun q1 q2 q3 y q4 q5 => c_49 q2)) (by omega) (by omega))
            · refine g_aload_n E dX5_openingMetBy_52 rfl 0 rfl ?_
              refine q_getN_Permit_state E hI hk_k (fun _ h => (List.mem_cons_of_mem _ (List.mem_append_left _ (List.mem_append_left _ (List.mem_append_left _ (List.mem_append_right _ h)))))) tbF_RX5_146 dX5_openingMetBy_53 ?_
              refine g_iconst (v := 4) E dX5_openingMetBy_56 (by decide) ?_
              refine g_icmp_eq (tgt := 83) E dX5_openingMetBy_57 (by decide) (fun c_57 => ?_) (fun c_57 => ?_)
              · refine g_iinc (v := nI (k + 1)) (L' := [(2, .int (nI (k + 1))), (3, .ref (ad 2 k)), (0, .ref (ad 5 0)), (1, .ref (q))]) E dX5_openingMetBy_83 3 rfl (nI_1 k) (by decide) rfl ?_
                refine g_goto (tgt := 11) E dX5_openingMetBy_86 (by decide) ?_
                refine g_locals [(0, .ref (ad 5 0)), (1, .ref (q)), (2, .int (nI (k + 1)))] [2, 3, 0] rfl ?_
                refine g_L (L' := [(0, .ref (ad 5 0)), (1, .ref (q)), (2, .int (nI (k + 1)))]) (by rfl) (ih_11 (k + 1) (by rw [fstM_n hv_11]; exact metF_none (fun q1 q2 q3 y q4 q5 => q3 c_57)) (by omega) (by omega))
              · refine g_aload_n E dX5_openingMetBy_60 rfl 0 rfl ?_
                refine q_getN_Permit_opening E hI hk_k (fun _ h => (List.mem_cons_of_mem _ (List.mem_append_left _ (List.mem_append_left _ (List.mem_append_left _ (List.mem_append_right _ h)))))) tbF_RX5_185 dX5_openingMetBy_61 (fun n_61 => ?_) (fun y_61 n_61 b_61 => ?_)
                · refine g_ifnullN (tgt := 83) E dX5_openingMetBy_64 (by decide) ?_
                  refine g_iinc (v := nI (k + 1)) (L' := [(2, .int (nI (k + 1))), (3, .ref (ad 2 k)), (0, .ref (ad 5 0)), (1, .ref (q))]) E dX5_openingMetBy_83 3 rfl (nI_1 k) (by decide) rfl ?_
                  refine g_goto (tgt := 11) E dX5_openingMetBy_86 (by decide) ?_
                  refine g_locals [(0, .ref (ad 5 0)), (1, .ref (q)), (2, .int (nI (k + 1)))] [2, 3, 0] rfl ?_
                  refine g_L (L' := [(0, .ref (ad 5 0)), (1, .ref (q)), (2, .int (nI (k + 1)))]) (by rfl) (ih_11 (k + 1) (by rw [fstM_n hv_11]; exact metF_none (fun q1 q2 q3 y q4 q5 => absurd (n_61.symm.trans q4) (by simp))) (by omega) (by omega))
                · refine g_ifnull E dX5_openingMetBy_64 ?_
                  refine g_aload_n E dX5_openingMetBy_67 rfl 0 rfl ?_
                  refine q_getN_Permit_opening E hI hk_k (fun _ h => (List.mem_cons_of_mem _ (List.mem_append_left _ (List.mem_append_left _ (List.mem_append_left _ (List.mem_append_right _ h)))))) tbF_RX5_185 dX5_openingMetBy_68 (fun n_68 => ?_) (fun y_68 n_68 b_68 => ?_)
                  · exact absurd (n_61.symm.trans n_68) (by simp)
                  · obtain rfl : y_61 = y_68 := Option.some.inj (n_61.symm.trans n_68)
                    refine g_aload_n E dX5_openingMetBy_71 rfl 2 rfl ?_
                    refine c_invV (n := 1) (rest := []) E (m_X1_meets (xl C) E.tr (xD C) (xy C) e0 (S := S) (hI.obj (kd := 1) (k := y_61) (by omega) b_61).1 (hI.obj (kd := 1) (k := y_61) (by omega) b_61).2 hqm hqk) (hI.obj (kd := 1) (k := y_61) (by omega) b_61).1 gX5_openingMetBy_X1_meets rfl rfl rfl (by decide +kernel) ⟨Nat.le_of_ble_eq_true rfl, Nat.le_of_ble_eq_true rfl⟩ (wF_Opening (hI.obj (kd := 1) (k := y_61) (by omega) b_61).2) rfl rfl rfl rfl (Nat.le_of_ble_eq_true rfl) dX5_openingMetBy_72 ⟨Nat.le_of_ble_eq_true rfl, Nat.le_of_ble_eq_true rfl⟩ (fun _ _ h9 => h9.elim) (fun v9 S9 h9 => ?_)
                    obtain ⟨hv9, hS9⟩ := h9
                    have e1 : sI S 4 (ad 1 y_61) = i 4 y_61 := hI.int (f := 4) b_61
                    have e2 : sI S 3 (ad 1 y_61) = i 3 y_61 := hI.int (f := 3) b_61
                    rw [hv9, hS9, e1, e2]
                    show G C (cW (xy C) S) 0 0 75 [(3, .ref (ad 2 k)), (0, .ref (ad 5 0)), (1, .ref (q)), (2, .int (nI k))] [.int ((bI (sI S 8 q < i 4 y_61 ∧ i 3 y_61 < sI S 9 q)))]
                    refine g_if_eq (tgt := 83) E dX5_openingMetBy_75 (by decide) (fun c_75 => ?_) (fun c_75 => ?_)
                    · refine g_iinc (v := nI (k + 1)) (L' := [(2, .int (nI (k + 1))), (3, .ref (ad 2 k)), (0, .ref (ad 5 0)), (1, .ref (q))]) E dX5_openingMetBy_83 3 rfl (nI_1 k) (by decide) rfl ?_
                      refine g_goto (tgt := 11) E dX5_openingMetBy_86 (by decide) ?_
                      refine g_locals [(0, .ref (ad 5 0)), (1, .ref (q)), (2, .int (nI (k + 1)))] [2, 3, 0] rfl ?_
                      refine g_L (L' := [(0, .ref (ad 5 0)), (1, .ref (q)), (2, .int (nI (k + 1)))]) (by rfl) (ih_11 (k + 1) (by rw [fstM_n hv_11]; exact metF_none (fun q1 q2 q3 y q4 q5 => bI_eq0.mp c_75 (by have e := Option.some.inj (n_61.symm.trans q4); rw [e]; exact q5))) (by omega) (by omega))
                    · refine g_aload_n E dX5_openingMetBy_78 rfl 0 rfl ?_
                      refine q_getN_Permit_opening E hI hk_k (fun _ h => (List.mem_cons_of_mem _ (List.mem_append_left _ (List.mem_append_left _ (List.mem_append_left _ (List.mem_append_right _ h)))))) tbF_RX5_185 dX5_openingMetBy_79 (fun n_79 => ?_) (fun y_79 n_79 b_79 => ?_)
                      · exact absurd (n_61.symm.trans n_79) (by simp)
                      · obtain rfl : y_61 = y_79 := Option.some.inj (n_61.symm.trans n_79)
                        exact g_aret E hE hr (by first | exact Or.inl ⟨_, rfl⟩ | exact Or.inr ⟨_, rfl⟩) (by first | exact Or.inl rfl | exact Or.inr ⟨_, rfl⟩) dX5_openingMetBy_82 (Nat.le_of_ble_eq_true rfl) (Nat.le_of_ble_eq_true rfl) ⟨S, rfl, some y_61, rfl, by rw [if_pos c_4]; exact (fstM_up (n := k + 1) (by rw [fstM_n hv_11]; exact metF_yes (c_42) (c_49) c_57 n_61 (bI_ne0.mp c_75)) (by omega)).symm, by rintro y ⟨⟩; exact b_61, rfl⟩
    exact loop_11 (c 2 + 1) 0 (rfl) (by omega) (by omega)
  · refine g_null E dX5_openingMetBy_7 ?_
    exact g_aret E hE hr (by first | exact Or.inl ⟨_, rfl⟩ | exact Or.inr ⟨_, rfl⟩) (by first | exact Or.inl rfl | exact Or.inr ⟨_, rfl⟩) dX5_openingMetBy_8 (Nat.le_of_ble_eq_true rfl) (Nat.le_of_ble_eq_true rfl) ⟨S, rfl, none, rfl, by rw [if_neg c_4], by simp, rfl⟩
abbrev rm_X5_isLate : Room := { frames := 0, cells := 0, slots := 0, locals := 0 }
set_option maxHeartbeats 4000000 in
set_option maxRecDepth 100000 in
theorem m_X5_isLate (l : Launch) (hl : l.stackTraces = false) (D : va_G) (cy : Nat → ClassId) (e0 : Nat) {S : wS} {c : Nat → Nat} {ad : Nat → Nat → Nat} {i : Nat → Nat → Int32} {j : Nat → Nat → Int64} {p : Nat → Nat → Option Nat} {r : Nat → Nat → Int32} (hI : CI e0 S c ad i j p r) {q ap : Nat} (hqm : q ∈ sL S) (hqk : sK S q = 2) (hap : sI S 6 q = nI ap) (hap6 : ap < 6) : cMet l yX5_isLate wsX5_isLate rm_X5_isLate D cy e0 [.ref (ad 5 0), .ref (q)] S (fun v S' => v = some (.int (bI (sI S 10 q = 0 ∧ sI S 8 q < i 18 0 + (2 + 3 * r 3 ap)))) ∧ S' = S) (fun _ _ => False) 0 0 := by
  refine gMet.of (cc := cX5_isLate) (maxL := 3) (ret := (some .boolean)) hl (by decide) rfl (Nat.le_of_ble_eq_true rfl) ?_
  intro C E h1 h2 h3 hr hnm hT hE
  subst h1; subst h2; subst h3
  have E : gOk C cX5_isLate 3 wsX5_isLate RX5 e0 rm_X5_isLate := E
  show G C (cW (xy C) S) 0 0 0 [(0, .ref (ad 5 0)), (1, .ref (q))] []
  refine g_iconst (v := 2) E dX5_isLate_0 (by decide) ?_
  refine g_iconst (v := 3) E dX5_isLate_1 (by decide) ?_
  refine g_aload_n E dX5_isLate_2 rfl 0 rfl ?_
  refine q_get_PW_points E hI (fun _ h => (List.mem_cons_of_mem _ (List.mem_append_left _ (List.mem_append_right _ h)))) (List.mem_cons_of_mem _ (List.mem_append_left _ (List.mem_append_left _ (List.mem_of_getElem? (i := 0) rfl)))) dX5_isLate_3 ?_
  refine g_aload_n E dX5_isLate_6 rfl 1 rfl ?_
  refine p_getN_Permit_applicant (S := S) E hqm hqk (fun _ h => (List.mem_cons_of_mem _ (List.mem_append_right _ h))) tbF_RX5_220 dX5_isLate_7 ?_
  refine q_iald E hI (hI.c7 (by omega)) ap hap hap6 dX5_isLate_10 ?_
  refine g_imul E dX5_isLate_11 ?_
  refine g_iadd E dX5_isLate_12 ?_
  refine g_istore_n (L' := [(2, .int ((2 + (3 * r 3 ap)))), (0, .ref (ad 5 0)), (1, .ref (q))]) E dX5_isLate_13 rfl (by decide) rfl ?_
  refine g_aload_n E dX5_isLate_14 rfl 2 rfl ?_
  refine p_getN_Permit_isUrgent (S := S) E hqm hqk (fun _ h => (List.mem_cons_of_mem _ (List.mem_append_right _ h))) tbF_RX5_273 dX5_isLate_15 ?_
  refine g_if_ne (tgt := 38) E dX5_isLate_18 (by decide) (fun c_18 => ?_) (fun c_18 => ?_)
  · refine g_iconst (v := 0) E dX5_isLate_38 (by decide) ?_
    exact g_zret E hE hr (Or.inl rfl) dX5_isLate_39 (Nat.le_of_ble_eq_true rfl) (Nat.le_of_ble_eq_true rfl) ⟨S, rfl, by rw [bI_f (fun q => c_18 q.1)], rfl⟩
  · refine g_aload_n E dX5_isLate_21 rfl 2 rfl ?_
    refine p_getN_Permit_appliedFrom (S := S) E hqm hqk (fun _ h => (List.mem_cons_of_mem _ (List.mem_append_right _ h))) tbF_RX5_261 dX5_isLate_22 ?_
    refine g_aload_n E dX5_isLate_25 rfl 1 rfl ?_
    refine q_get_PW_now E hI hI.c5 (fun _ h => (List.mem_cons_of_mem _ (List.mem_append_left _ (List.mem_append_right _ h)))) (List.mem_cons_of_mem _ (List.mem_append_left _ (List.mem_append_left _ (List.mem_of_getElem? (i := 1) rfl)))) dX5_isLate_26 ?_
    refine g_iload_n E dX5_isLate_29 rfl 0 rfl ?_
    refine g_iadd E dX5_isLate_30 ?_
    refine g_icmp_ge (tgt := 38) E dX5_isLate_31 (by decide) (fun c_31 => ?_) (fun c_31 => ?_)
    · refine g_iconst (v := 0) E dX5_isLate_38 (by decide) ?_
      exact g_zret E hE hr (Or.inl rfl) dX5_isLate_39 (Nat.le_of_ble_eq_true rfl) (Nat.le_of_ble_eq_true rfl) ⟨S, rfl, by rw [bI_f (fun q => Int32.not_le.mpr q.2 c_31)], rfl⟩
    · refine g_iconst (v := 1) E dX5_isLate_34 (by decide) ?_
      refine g_goto (tgt := 39) E dX5_isLate_35 (by decide) ?_
      exact g_zret E hE hr (Or.inr rfl) dX5_isLate_39 (Nat.le_of_ble_eq_true rfl) (Nat.le_of_ble_eq_true rfl) ⟨S, rfl, by rw [bI_t ⟨c_18, Int32.not_le.mp c_31⟩], rfl⟩
abbrev rm_X5_breaksChain : Room := { frames := 1, cells := 0, slots := 0, locals := 20 }
set_option maxHeartbeats 4000000 in
set_option maxRecDepth 100000 in
theorem m_X5_breaksChain_N (l : Launch) (hl : l.stackTraces = false) (D : va_G) (cy : Nat → ClassId) (e0 : Nat) {S : wS} {c : Nat → Nat} {ad : Nat → Nat → Nat} {i : Nat → Nat → Int32} {j : Nat → Nat → Int64} {p : Nat → Nat → Option Nat} {r : Nat → Nat → Int32} (hI : CI e0 S c ad i j p r) {q : Nat} (hqm : q ∈ sL S) (hqk : sK S q = 2) (hpn : sP S 1 q = none) : cMet l yX5_breaksChain wsX5_breaksChain rm_X5_breaksChain D cy e0 [.ref (q)] S (fun v S' => v = some (.int 0) ∧ S' = S) (fun _ _ => False) 0 0 := by
  refine gMet.of (cc := cX5_breaksChain) (maxL := 2) (ret := (some .boolean)) hl (by decide) rfl (Nat.le_of_ble_eq_true rfl) ?_
  intro C E h1 h2 h3 hr hnm hT hE
  subst h1; subst h2; subst h3
  have E : gOk C cX5_breaksChain 2 wsX5_breaksChain RX5 e0 rm_X5_breaksChain := E
  show G C (cW (xy C) S) 0 0 0 [(0, .ref (q))] []
  refine g_aload_n E dX5_breaksChain_0 rfl 0 rfl ?_
  refine p_getN_Permit_needed (S := S) E hqm hqk (fun _ h => (List.mem_cons_of_mem _ (List.mem_append_left _ (List.mem_append_right _ h)))) tbF_RX5_158 dX5_breaksChain_1 ?_
  rw [hpn]
  show G C (cW (xy C) S) 0 0 4 [(0, .ref (q))] [.null]
  refine g_astore_nN (L' := [(1, .null), (0, .ref (q))]) E dX5_breaksChain_4 rfl (by decide) rfl ?_
  refine g_aload_nN E dX5_breaksChain_5 rfl 0 rfl ?_
  refine g_ifnullN (tgt := 40) E dX5_breaksChain_6 (by decide) ?_
  refine g_iconst (v := 0) E dX5_breaksChain_40 (by decide) ?_
  exact g_zret E hE hr (Or.inl rfl) dX5_breaksChain_41 (Nat.le_of_ble_eq_true rfl) (Nat.le_of_ble_eq_true rfl) ⟨S, rfl, rfl, rfl⟩
set_option maxHeartbeats 4000000 in
set_option maxRecDepth 100000 in
theorem m_X5_breaksChain (l : Launch) (hl : l.stackTraces = false) (D : va_G) (cy : Nat → ClassId) (e0 : Nat) {S : wS} {c : Nat → Nat} {ad : Nat → Nat → Nat} {i : Nat → Nat → Int32} {j : Nat → Nat → Int64} {p : Nat → Nat → Option Nat} {r : Nat → Nat → Int32} (hI : CI e0 S c ad i j p r) {q y : Nat} (hqm : q ∈ sL S) (hqk : sK S q = 2) (hpn : sP S 1 q = some (ad 2 y)) (hy : y < c 2) : cMet l yX5_breaksChain wsX5_breaksChain rm_X5_breaksChain D cy e0 [.ref (q)] S (fun v S' => v = some (.int (bI (i 11 y = 1 ∨ i 11 y = 4 ∨ sI S 8 q < ((p 2 y).elim (i 9 y) (i 4))))) ∧ S' = S) (fun _ _ => False) 0 0 := by
  refine gMet.of (cc := cX5_breaksChain) (maxL := 2) (ret := (some .boolean)) hl (by decide) rfl (Nat.le_of_ble_eq_true rfl) ?_
  intro C E h1 h2 h3 hr hnm hT hE
  subst h1; subst h2; subst h3
  have E : gOk C cX5_breaksChain 2 wsX5_breaksChain RX5 e0 rm_X5_breaksChain := E
  show G C (cW (xy C) S) 0 0 0 [(0, .ref (q))] []
  refine g_aload_n E dX5_breaksChain_0 rfl 0 rfl ?_
  refine p_getN_Permit_needed (S := S) E hqm hqk (fun _ h => (List.mem_cons_of_mem _ (List.mem_append_left _ (List.mem_append_right _ h)))) tbF_RX5_158 dX5_breaksChain_1 ?_
  rw [hpn]
  show G C (cW (xy C) S) 0 0 4 [(0, .ref (q))] [.ref (ad 2 y)]
  refine g_astore_n (L' := [(1, .ref (ad 2 y)), (0, .ref (q))]) E dX5_breaksChain_4 rfl (by decide) rfl ?_
  refine g_aload_n E dX5_breaksChain_5 rfl 0 rfl ?_
  refine g_ifnull E dX5_breaksChain_6 ?_
  refine g_aload_n E dX5_breaksChain_9 rfl 0 rfl ?_
  refine q_getN_Permit_state E hI hy (fun _ h => (List.mem_cons_of_mem _ (List.mem_append_left _ (List.mem_append_right _ h)))) tbF_RX5_146 dX5_breaksChain_10 ?_
  refine g_iconst (v := 1) E dX5_breaksChain_13 (by decide) ?_
  refine g_icmp_eq (tgt := 36) E dX5_breaksChain_14 (by decide) (fun c_14 => ?_) (fun c_14 => ?_)
  · refine g_iconst (v := 1) E dX5_breaksChain_36 (by decide) ?_
    refine g_goto (tgt := 41) E dX5_breaksChain_37 (by decide) ?_
    exact g_zret E hE hr (Or.inr rfl) dX5_breaksChain_41 (Nat.le_of_ble_eq_true rfl) (Nat.le_of_ble_eq_true rfl) ⟨S, rfl, by rw [bI_t (Or.inl c_14)], rfl⟩
  · refine g_aload_n E dX5_breaksChain_17 rfl 0 rfl ?_
    refine q_getN_Permit_state E hI hy (fun _ h => (List.mem_cons_of_mem _ (List.mem_append_left _ (List.mem_append_right _ h)))) tbF_RX5_146 dX5_breaksChain_18 ?_
    refine g_iconst (v := 4) E dX5_breaksChain_21 (by decide) ?_
    refine g_icmp_eq (tgt := 36) E dX5_breaksChain_22 (by decide) (fun c_22 => ?_) (fun c_22 => ?_)
    · refine g_iconst (v := 1) E dX5_breaksChain_36 (by decide) ?_
      refine g_goto (tgt := 41) E dX5_breaksChain_37 (by decide) ?_
      exact g_zret E hE hr (Or.inr rfl) dX5_breaksChain_41 (Nat.le_of_ble_eq_true rfl) (Nat.le_of_ble_eq_true rfl) ⟨S, rfl, by rw [bI_t (Or.inr (Or.inl c_22))], rfl⟩
    · refine g_aload_n E dX5_breaksChain_25 rfl 0 rfl ?_
      refine c_invV (n := 0) (rest := []) E (m_X2_endHour (xl C) E.tr (xD C) (xy C) e0 hI hy) (hI.obj (kd := 2) (k := y) (by omega) hy).1 gX5_breaksChain_X2_endHour rfl rfl rfl (by decide +kernel) ⟨Nat.le_of_ble_eq_true rfl, Nat.le_of_ble_eq_true rfl⟩ (wF_Permit (hI.obj (kd := 2) (k := y) (by omega) hy).2) rfl rfl rfl rfl (Nat.le_of_ble_eq_true rfl) dX5_breaksChain_26 ⟨Nat.le_of_ble_eq_true rfl, Nat.le_of_ble_eq_true rfl⟩ (fun _ _ h9 => h9.elim) (fun v9 S9 h9 => ?_)
      obtain ⟨hv9, hS9⟩ := h9
      rw [hv9, hS9]
      show G C (cW (xy C) S) 0 0 29 [(1, .ref (ad 2 y)), (0, .ref (q))] [.int (((p 2 y).elim (i 9 y) (i 4)))]
      refine g_aload_n E dX5_breaksChain_29 rfl 1 rfl ?_
      refine p_getN_Permit_appliedFrom (S := S) E hqm hqk (fun _ h => (List.mem_cons_of_mem _ (List.mem_append_left _ (List.mem_append_right _ h)))) tbF_RX5_261 dX5_breaksChain_30 ?_
      refine g_icmp_le (tgt := 40) E dX5_breaksChain_33 (by decide) (fun c_33 => ?_) (fun c_33 => ?_)
      · refine g_iconst (v := 0) E dX5_breaksChain_40 (by decide) ?_
        exact g_zret E hE hr (Or.inl rfl) dX5_breaksChain_41 (Nat.le_of_ble_eq_true rfl) (Nat.le_of_ble_eq_true rfl) ⟨S, rfl, by rw [bI_f (fun q => q.elim c_14 (fun q => q.elim c_22 (fun q => Int32.not_lt.mpr c_33 q)))], rfl⟩
      · refine g_iconst (v := 1) E dX5_breaksChain_36 (by decide) ?_
        refine g_goto (tgt := 41) E dX5_breaksChain_37 (by decide) ?_
        exact g_zret E hE hr (Or.inr rfl) dX5_breaksChain_41 (Nat.le_of_ble_eq_true rfl) (Nat.le_of_ble_eq_true rfl) ⟨S, rfl, by rw [bI_t (Or.inr (Or.inr (Int32.not_le.mp c_33)))], rfl⟩
abbrev rm_X5_isTwice : Room := { frames := 4, cells := 0, slots := 0, locals := 90 }
set_option maxHeartbeats 4000000 in
set_option maxRecDepth 100000 in
theorem m_X5_isTwice_N (l : Launch) (hl : l.stackTraces = false) (D : va_G) (cy : Nat → ClassId) (e0 : Nat) {S : wS} {c : Nat → Nat} {ad : Nat → Nat → Nat} {i : Nat → Nat → Int32} {j : Nat → Nat → Int64} {p : Nat → Nat → Option Nat} {r : Nat → Nat → Int32} (hI : CI e0 S c ad i j p r) {q : Nat} (hqm : q ∈ sL S) (hqk : sK S q = 2) : cMet l yX5_isTwice wsX5_isTwice rm_X5_isTwice D cy e0 [.ref (ad 5 0), .ref (q), .null] S (fun v S' => v = some (.int (bI (sI S 10 q = 0 ∧ 0 < cntI (fun k => none ≠ some k ∧ i 2 k = (sI S 7 q) ∧ ¬ j 1 k = 0 ∧ i 3 k / 500 = ((sI S 8 q) / 500)) (c 1)))) ∧ S' = S) (fun _ _ => False) 0 0 := by
  refine gMet.of (cc := cX5_isTwice) (maxL := 4) (ret := (some .boolean)) hl (by decide) rfl (Nat.le_of_ble_eq_true rfl) ?_
  intro C E h1 h2 h3 hr hnm hT hE
  subst h1; subst h2; subst h3
  have E : gOk C cX5_isTwice 4 wsX5_isTwice RX5 e0 rm_X5_isTwice := E
  show G C (cW (xy C) S) 0 0 0 [(0, .ref (ad 5 0)), (1, .ref (q)), (2, .null)] []
  refine g_aload_nN E dX5_isTwice_0 rfl 2 rfl ?_
  refine g_ifnonnullN E dX5_isTwice_1 ?_
  refine g_aload_n E dX5_isTwice_4 rfl 1 rfl ?_
  refine p_getN_Permit_appliedFrom (S := S) E hqm hqk (fun _ h => (List.mem_cons_of_mem _ (List.mem_append_left _ (List.mem_append_left _ (List.mem_append_left _ (List.mem_append_right _ h)))))) tbF_RX5_261 dX5_isTwice_5 ?_
  refine g_goto (tgt := 16) E dX5_isTwice_8 (by decide) ?_
  refine g_istore_n (L' := [(3, .int (sI S 8 (q))), (0, .ref (ad 5 0)), (1, .ref (q)), (2, .null)]) E dX5_isTwice_16 rfl (by decide) rfl ?_
  refine g_aload_n E dX5_isTwice_17 rfl 2 rfl ?_
  refine p_getN_Permit_isUrgent (S := S) E hqm hqk (fun _ h => (List.mem_cons_of_mem _ (List.mem_append_left _ (List.mem_append_left _ (List.mem_append_left _ (List.mem_append_right _ h)))))) tbF_RX5_273 dX5_isTwice_18 ?_
  refine g_if_ne (tgt := 45) E dX5_isTwice_21 (by decide) (fun c_21 => ?_) (fun c_21 => ?_)
  · refine g_iconst (v := 0) E dX5_isTwice_45 (by decide) ?_
    exact g_zret E hE hr (Or.inl rfl) dX5_isTwice_46 (Nat.le_of_ble_eq_true rfl) (Nat.le_of_ble_eq_true rfl) ⟨S, rfl, by rw [bI_f (fun q => c_21 q.1)], rfl⟩
  · refine g_aload_n E dX5_isTwice_24 rfl 1 rfl ?_
    refine g_aload_nN E dX5_isTwice_25 rfl 3 rfl ?_
    refine g_aload_n E dX5_isTwice_26 rfl 2 rfl ?_
    refine p_getN_Permit_lane (S := S) E hqm hqk (fun _ h => (List.mem_cons_of_mem _ (List.mem_append_left _ (List.mem_append_left _ (List.mem_append_left _ (List.mem_append_right _ h)))))) tbF_RX5_241 dX5_isTwice_27 ?_
    refine g_iload_n E dX5_isTwice_30 rfl 0 rfl ?_
    refine g_sipush (v := 500) E dX5_isTwice_31 (by decide) ?_
    refine g_idiv E dX5_isTwice_34 (by decide) ?_
    refine c_invV (n := 3) (rest := []) E (m_X5_openingsBeside_N (xl C) E.tr (xD C) (xy C) e0 (x := sI S 7 (q)) (s := (sI S 8 (q) / 500)) hI) (hI.obj (kd := 5) (k := 0) (by omega) hI.c5).1 gX5_isTwice_X5_openingsBeside rfl rfl rfl (by decide +kernel) ⟨Nat.le_of_ble_eq_true rfl, Nat.le_of_ble_eq_true rfl⟩ (wF_PW (hI.obj (kd := 5) (k := 0) (by omega) hI.c5).2) rfl rfl rfl rfl (Nat.le_of_ble_eq_true rfl) dX5_isTwice_35 ⟨Nat.le_of_ble_eq_true rfl, Nat.le_of_ble_eq_true rfl⟩ (fun _ _ h9 => h9.elim) (fun v9 S9 h9 => ?_)
    obtain ⟨hv9, hS9⟩ := h9
    rw [hv9, hS9]
    show G C (cW (xy C) S) 0 0 38 [(3, .int (sI S 8 (q))), (0, .ref (ad 5 0)), (1, .ref (q)), (2, .null)] [.int ((cntI (fun k => none ≠ some k ∧ i 2 k = sI S 7 (q) ∧ ¬ j 1 k = 0 ∧ i 3 k / 500 = (sI S 8 (q) / 500)) (c 1)))]
    refine g_if_le (tgt := 45) E dX5_isTwice_38 (by decide) (fun c_38 => ?_) (fun c_38 => ?_)
    · refine g_iconst (v := 0) E dX5_isTwice_45 (by decide) ?_
      exact g_zret E hE hr (Or.inl rfl) dX5_isTwice_46 (Nat.le_of_ble_eq_true rfl) (Nat.le_of_ble_eq_true rfl) ⟨S, rfl, by rw [bI_f (fun q => Int32.not_le.mpr q.2 c_38)], rfl⟩
    · refine g_iconst (v := 1) E dX5_isTwice_41 (by decide) ?_
      refine g_goto (tgt := 46) E dX5_isTwice_42 (by decide) ?_
      exact g_zret E hE hr (Or.inr rfl) dX5_isTwice_46 (Nat.le_of_ble_eq_true rfl) (Nat.le_of_ble_eq_true rfl) ⟨S, rfl, by rw [bI_t ⟨c_21, Int32.not_le.mp c_38⟩], rfl⟩
set_option maxHeartbeats 4000000 in
set_option maxRecDepth 100000 in
theorem m_X5_isTwice (l : Launch) (hl : l.stackTraces = false) (D : va_G) (cy : Nat → ClassId) (e0 : Nat) {S : wS} {c : Nat → Nat} {ad : Nat → Nat → Nat} {i : Nat → Nat → Int32} {j : Nat → Nat → Int64} {p : Nat → Nat → Option Nat} {r : Nat → Nat → Int32} (hI : CI e0 S c ad i j p r) {q : Nat} (hqm : q ∈ sL S) (hqk : sK S q = 2) {y : Nat} (hy : y < c 1) : cMet l yX5_isTwice wsX5_isTwice rm_X5_isTwice D cy e0 [.ref (ad 5 0), .ref (q), .ref (ad 1 y)] S (fun v S' => v = some (.int (bI (sI S 10 q = 0 ∧ 0 < cntI (fun k => (some y) ≠ some k ∧ i 2 k = (sI S 7 q) ∧ ¬ j 1 k = 0 ∧ i 3 k / 500 = ((mnI (i 3 y) (sI S 8 q)) / 500)) (c 1)))) ∧ S' = S) (fun _ _ => False) 0 0 := by
  refine gMet.of (cc := cX5_isTwice) (maxL := 4) (ret := (some .boolean)) hl (by decide) rfl (Nat.le_of_ble_eq_true rfl) ?_
  intro C E h1 h2 h3 hr hnm hT hE
  subst h1; subst h2; subst h3
  have E : gOk C cX5_isTwice 4 wsX5_isTwice RX5 e0 rm_X5_isTwice := E
  show G C (cW (xy C) S) 0 0 0 [(0, .ref (ad 5 0)), (1, .ref (q)), (2, .ref (ad 1 y))] []
  refine g_aload_n E dX5_isTwice_0 rfl 2 rfl ?_
  refine g_ifnonnull (tgt := 11) E dX5_isTwice_1 (by decide) ?_
  refine g_aload_n E dX5_isTwice_11 rfl 2 rfl ?_
  refine g_aload_n E dX5_isTwice_12 rfl 1 rfl ?_
  refine c_invV (n := 1) (rest := []) E (m_X1_firstWith (xl C) E.tr (xD C) (xy C) e0 (S := S) (hI.obj (kd := 1) (k := y) (by omega) hy).1 (hI.obj (kd := 1) (k := y) (by omega) hy).2 hqm hqk) (hI.obj (kd := 1) (k := y) (by omega) hy).1 gX5_isTwice_X1_firstWith rfl rfl rfl (by decide +kernel) ⟨Nat.le_of_ble_eq_true rfl, Nat.le_of_ble_eq_true rfl⟩ (wF_Opening (hI.obj (kd := 1) (k := y) (by omega) hy).2) rfl rfl rfl rfl (Nat.le_of_ble_eq_true rfl) dX5_isTwice_13 ⟨Nat.le_of_ble_eq_true rfl, Nat.le_of_ble_eq_true rfl⟩ (fun _ _ h9 => h9.elim) (fun v9 S9 h9 => ?_)
  obtain ⟨hv9, hS9⟩ := h9
  have e1 : sI S 3 (ad 1 y) = i 3 y := hI.int (f := 3) hy
  rw [hv9, hS9, e1]
  show G C (cW (xy C) S) 0 0 16 [(0, .ref (ad 5 0)), (1, .ref (q)), (2, .ref (ad 1 y))] [.int ((mnI (i 3 y) (sI S 8 (q))))]
  refine g_istore_n (L' := [(3, .int ((mnI (i 3 y) (sI S 8 (q))))), (0, .ref (ad 5 0)), (1, .ref (q)), (2, .ref (ad 1 y))]) E dX5_isTwice_16 rfl (by decide) rfl ?_
  refine g_aload_n E dX5_isTwice_17 rfl 2 rfl ?_
  refine p_getN_Permit_isUrgent (S := S) E hqm hqk (fun _ h => (List.mem_cons_of_mem _ (List.mem_append_left _ (List.mem_append_left _ (List.mem_append_left _ (List.mem_append_right _ h)))))) tbF_RX5_273 dX5_isTwice_18 ?_
  refine g_if_ne (tgt := 45) E dX5_isTwice_21 (by decide) (fun c_21 => ?_) (fun c_21 => ?_)
  · refine g_iconst (v := 0) E dX5_isTwice_45 (by decide) ?_
    exact g_zret E hE hr (Or.inl rfl) dX5_isTwice_46 (Nat.le_of_ble_eq_true rfl) (Nat.le_of_ble_eq_true rfl) ⟨S, rfl, by rw [bI_f (fun q => c_21 q.1)], rfl⟩
  · refine g_aload_n E dX5_isTwice_24 rfl 1 rfl ?_
    refine g_aload_n E dX5_isTwice_25 rfl 3 rfl ?_
    refine g_aload_n E dX5_isTwice_26 rfl 2 rfl ?_
    refine p_getN_Permit_lane (S := S) E hqm hqk (fun _ h => (List.mem_cons_of_mem _ (List.mem_append_left _ (List.mem_append_left _ (List.mem_append_left _ (List.mem_append_right _ h)))))) tbF_RX5_241 dX5_isTwice_27 ?_
    refine g_iload_n E dX5_isTwice_30 rfl 0 rfl ?_
    refine g_sipush (v := 500) E dX5_isTwice_31 (by decide) ?_
    refine g_idiv E dX5_isTwice_34 (by decide) ?_
    refine c_invV (n := 3) (rest := []) E (m_X5_openingsBeside (xl C) E.tr (xD C) (xy C) e0 (x := sI S 7 (q)) (s := ((mnI (i 3 y) (sI S 8 (q))) / 500)) hI hy) (hI.obj (kd := 5) (k := 0) (by omega) hI.c5).1 gX5_isTwice_X5_openingsBeside rfl rfl rfl (by decide +kernel) ⟨Nat.le_of_ble_eq_true rfl, Nat.le_of_ble_eq_true rfl⟩ (wF_PW (hI.obj (kd := 5) (k := 0) (by omega) hI.c5).2) rfl rfl rfl rfl (Nat.le_of_ble_eq_true rfl) dX5_isTwice_35 ⟨Nat.le_of_ble_eq_true rfl, Nat.le_of_ble_eq_true rfl⟩ (fun _ _ h9 => h9.elim) (fun v9 S9 h9 => ?_)
    obtain ⟨hv9, hS9⟩ := h9
    rw [hv9, hS9]
    show G C (cW (xy C) S) 0 0 38 [(3, .int ((mnI (i 3 y) (sI S 8 (q))))), (0, .ref (ad 5 0)), (1, .ref (q)), (2, .ref (ad 1 y))] [.int ((cntI (fun k => (some y) ≠ some k ∧ i 2 k = sI S 7 (q) ∧ ¬ j 1 k = 0 ∧ i 3 k / 500 = ((mnI (i 3 y) (sI S 8 (q))) / 500)) (c 1)))]
    refine g_if_le (tgt := 45) E dX5_isTwice_38 (by decide) (fun c_38 => ?_) (fun c_38 => ?_)
    · refine g_iconst (v := 0) E dX5_isTwice_45 (by decide) ?_
      exact g_zret E hE hr (Or.inl rfl) dX5_isTwice_46 (Nat.le_of_ble_eq_true rfl) (Nat.le_of_ble_eq_true rfl) ⟨S, rfl, by rw [bI_f (fun q => Int32.not_le.mpr q.2 c_38)], rfl⟩
    · refine g_iconst (v := 1) E dX5_isTwice_41 (by decide) ?_
      refine g_goto (tgt := 46) E dX5_isTwice_42 (by decide) ?_
      exact g_zret E hE hr (Or.inr rfl) dX5_isTwice_46 (Nat.le_of_ble_eq_true rfl) (Nat.le_of_ble_eq_true rfl) ⟨S, rfl, by rw [bI_t ⟨c_21, Int32.not_le.mp c_38⟩], rfl⟩
