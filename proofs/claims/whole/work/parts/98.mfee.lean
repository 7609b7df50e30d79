abbrev in0 (s : mS) (o : Int32) (p : Nat) : Prop := (¬ mr s 17 p = 1 ∧ ¬ mr s 17 p = 4) ∧ mr s 19 p = o
def mopF (s : mS) (ln o : Int32) (p : Nat) : Prop := in0 s o p ∧ mr s 12 p = ln
def mopP (s : mS) (np : Nat) (ln se : Int32) (o : Nat) : Prop := (∃ p, p < np ∧ mopF s ln (nI o) p) ∧ mr s 22 o / 500 = se
noncomputable def mcO (s : mS) (np : Nat) (ln se : Int32) : Nat → Int32
  | 0 => 0
  | n + 1 => mcO s np ln se n + cIf (mopP s np ln se n) 1 0
theorem mcO_t {s : mS} {np : Nat} {ln se : Int32} {n : Nat} (h : mopP s np ln se n) : mcO s np ln se (n + 1) = mcO s np ln se n + 1 := by show mcO s np ln se n + cIf _ 1 0 = _; rw [cIf_t h]
theorem mcO_f {s : mS} {np : Nat} {ln se : Int32} {n : Nat} (h : ¬ mopP s np ln se n) : mcO s np ln se (n + 1) = mcO s np ln se n + 0 := by show mcO s np ln se n + cIf _ 1 0 = _; rw [cIf_f h]
/-- members of o among the last k of np -/
def mfN (s : mS) (o : Int32) (np : Nat) : Nat → Nat
  | 0 => 0
  | k + 1 => mfN s o np k + (if (¬ mr s 17 (np - (k + 1)) = 1 ∧ ¬ mr s 17 (np - (k + 1)) = 4) ∧ mr s 19 (np - (k + 1)) = o then 1 else 0)
def mfL (s : mS) (o : Int32) (np : Nat) : Nat → Int32
  | 0 => -1
  | k + 1 => if (¬ mr s 17 (np - (k + 1)) = 1 ∧ ¬ mr s 17 (np - (k + 1)) = 4) ∧ mr s 19 (np - (k + 1)) = o then nI (np - (k + 1)) else mfL s o np k
theorem mfN_t {s : mS} {o : Int32} {np k : Nat} (h : (¬ mr s 17 (np - (k + 1)) = 1 ∧ ¬ mr s 17 (np - (k + 1)) = 4) ∧ mr s 19 (np - (k + 1)) = o) : mfN s o np (k + 1) = mfN s o np k + 1 := by show mfN s o np k + (if _ then _ else _) = _; rw [if_pos h]
theorem mfN_f {s : mS} {o : Int32} {np k : Nat} (h : ¬ ((¬ mr s 17 (np - (k + 1)) = 1 ∧ ¬ mr s 17 (np - (k + 1)) = 4) ∧ mr s 19 (np - (k + 1)) = o)) : mfN s o np (k + 1) = mfN s o np k := by show mfN s o np k + (if _ then _ else _) = _; rw [if_neg h]; rfl
theorem mfL_t {s : mS} {o : Int32} {np k : Nat} (h : (¬ mr s 17 (np - (k + 1)) = 1 ∧ ¬ mr s 17 (np - (k + 1)) = 4) ∧ mr s 19 (np - (k + 1)) = o) : mfL s o np (k + 1) = nI (np - (k + 1)) := if_pos h
theorem mfL_f {s : mS} {o : Int32} {np k : Nat} (h : ¬ ((¬ mr s 17 (np - (k + 1)) = 1 ∧ ¬ mr s 17 (np - (k + 1)) = 4) ∧ mr s 19 (np - (k + 1)) = o)) : mfL s o np (k + 1) = mfL s o np k := if_neg h
theorem mfN_le {s : mS} {o : Int32} {np k : Nat} : mfN s o np k ≤ k := by
  induction k with
  | zero => exact Nat.le_refl 0
  | succ k ih =>
    by_cases h : (¬ mr s 17 (np - (k + 1)) = 1 ∧ ¬ mr s 17 (np - (k + 1)) = 4) ∧ mr s 19 (np - (k + 1)) = o
    · rw [mfN_t h]; omega
    · rw [mfN_f h]; omega
theorem mfN_pos {s : mS} {o : Int32} {np k p : Nat} (hp : p < np) (hk : np - p ≤ k) (h : (¬ mr s 17 p = 1 ∧ ¬ mr s 17 p = 4) ∧ mr s 19 p = o) : 0 < mfN s o np k := by
  induction k with
  | zero => omega
  | succ k ih =>
    by_cases e : np - p ≤ k
    · have := ih e
      show 0 < mfN s o np k + _
      omega
    · have e2 : np - (k + 1) = p := by omega
      rw [mfN_t (by rw [e2]; exact h)]
      omega
noncomputable def mfee (s : mS) (np k : Nat) : Int32 := (1000 + 100 * (mr s 23 (tn (mr s 19 k)) - mr s 22 (tn (mr s 19 k)))) / nI (mfN s (mr s 19 k) np np) + (if mfL s (mr s 19 k) np np = nI k then (1000 + 100 * (mr s 23 (tn (mr s 19 k)) - mr s 22 (tn (mr s 19 k)))) - (1000 + 100 * (mr s 23 (tn (mr s 19 k)) - mr s 22 (tn (mr s 19 k)))) / nI (mfN s (mr s 19 k) np np) * nI (mfN s (mr s 19 k) np np) else 0)
theorem nI_m1 (n : Nat) : nI n - 1 = nI (n - 0) + (-1) := by rw [Nat.sub_zero, Int32.sub_eq_add_neg]
theorem nI_dn1 {n m : Nat} (h : n = m + 1) : nI n + (-1) = nI m := by rw [h, ← Int32.sub_eq_add_neg]; exact nI_pred m
theorem nI_dn {n : Nat} (h : n < 1000) : nI n + (-1) < 0 ↔ n = 0 := by
  constructor
  · intro q
    cases n with
    | zero => rfl
    | succ n => rw [nI_dn1 rfl] at q; exact absurd q (nI_pos (by omega))
  · rintro rfl; decide
theorem nI_nz {n : Nat} (h : 0 < n) (hn : n < 2 ^ 31) : ¬ nI n = 0 := fun e => absurd (nI_inj (b := 0) hn (by decide) e) (by omega)
abbrev rm_X6_openings : Room := { frames := 2, cells := 0, slots := 0, locals := 43 }
set_option maxHeartbeats 4000000 in
set_option maxRecDepth 100000 in
theorem m_X6_openings (l : Launch) (hl : l.stackTraces = false) (D : va_G) (cy : Nat → ClassId) (e0 : Nat) {ma : Nat → Nat} {s : mS} {np : Nat} (hp0 : mi s 21 = nI np) (hp1 : np ≤ 40) {M : Nat} (hM : mi s 5 = nI M) (hM1 : M ≤ 24) {no : Nat} (hno : mi s 24 = nI no) (hno1 : no ≤ 40) {x se : Int32} : mMet l yX6_openings wsX6_openings rm_X6_openings D cy e0 [.ref (ma 0), .int (x), .int (se)] ma s (fun v s' => (∃ k, k < M ∧ x = nI k ∧ (0 ≤ se ∧ se ≤ 10) ∧ v = some (.int (mcO s np (nI k) se no)) ∧ s' = muI s 0 0) ∨ ((∀ k, k < M → x ≠ nI k) ∧ v = some (.int 0) ∧ s' = muI s 0 1) ∨ (∃ k, k < M ∧ x = nI k ∧ ¬ (0 ≤ se ∧ se ≤ 10) ∧ v = some (.int 0) ∧ s' = muI s 0 2)) := by
  refine gMet.of (cc := cX6_openings) (maxL := 7) (ret := (some .int)) hl (by decide) rfl (Nat.le_of_ble_eq_true rfl) ?_
  intro C E h1 h2 h3 hr hnm hT hE
  subst h1; subst h2; subst h3
  have E : gOk C cX6_openings 7 wsX6_openings RX6 e0 rm_X6_openings := E
  show G C (mW (xy C) ma s) 0 0 0 [(0, .ref (ma 0)), (1, .int (x)), (2, .int (se))] []
  refine g_aload_n E dX6_openings_0 rfl 0 rfl ?_
  refine g_aload_n E dX6_openings_1 rfl 0 rfl ?_
  refine g_iload_n E dX6_openings_2 rfl 1 rfl ?_
  refine k_invV (n := 1) (rest := [.ref (ma 0)]) E (m_X6_isLane (xl C) E.tr (xD C) (xy C) e0 hM) gX6_openings_X6_isLane rfl rfl rfl (by decide +kernel) ⟨Nat.le_of_ble_eq_true rfl, Nat.le_of_ble_eq_true rfl⟩ rfl rfl (Nat.le_of_ble_eq_true rfl) dX6_openings_3 ⟨Nat.le_of_ble_eq_true rfl, Nat.le_of_ble_eq_true rfl⟩ (fun v9 s9_3 h9 => ?_)
  obtain ⟨hv9, hS9⟩ := h9
  rw [hv9, hS9]
  show G C (mW (xy C) ma s) 0 0 6 [(0, .ref (ma 0)), (1, .int (x)), (2, .int (se))] [.int ((isIx (x) M)), .ref (ma 0)]
  refine g_if_ne (tgt := 13) E dX6_openings_6 (by decide) (fun c_6 => ?_) (fun c_6 => ?_)
  · obtain ⟨ll, hll, hxl⟩ := isIx_t (by omega) c_6
    subst hxl
    show G C (mW (xy C) ma s) 0 0 13 [(0, .ref (ma 0)), (1, .int (nI ll)), (2, .int (se))] [.ref (ma 0)]
    refine g_iload_n E dX6_openings_13 rfl 2 rfl ?_
    refine g_iconst (v := 0) E dX6_openings_14 (by decide) ?_
    refine g_bipush (v := 10) E dX6_openings_15 (by decide) ?_
    refine k_invS (n := 3) (rest := [.ref (ma 0)]) E (m_X6_isIn (xl C) E.tr (xD C) (xy C) e0 (x := se) (a := 0) (b := 10)) gX6_openings_X6_isIn rfl rfl rfl (by decide +kernel) ⟨Nat.le_of_ble_eq_true rfl, Nat.le_of_ble_eq_true rfl⟩ rfl rfl (Nat.le_of_ble_eq_true rfl) dX6_openings_17 ⟨Nat.le_of_ble_eq_true rfl, Nat.le_of_ble_eq_true rfl⟩ (fun v9 s9_17 h9 => ?_)
    obtain ⟨hv9, hS9⟩ := h9
    rw [hv9, hS9]
    show G C (mW (xy C) ma s) 0 0 20 [(0, .ref (ma 0)), (1, .int (nI ll)), (2, .int (se))] [.int ((bI (0 ≤ se ∧ se ≤ 10))), .ref (ma 0)]
    refine g_if_ne (tgt := 27) E dX6_openings_20 (by decide) (fun c_20 => ?_) (fun c_20 => ?_)
    · refine g_iconst (v := 0) E dX6_openings_27 (by decide) ?_
      refine k_invV (n := 1) (rest := []) E (m_X6_isFine (xl C) E.tr (xD C) (xy C) e0 (s := s) (x := 0)) gX6_openings_X6_isFine rfl rfl rfl (by decide +kernel) ⟨Nat.le_of_ble_eq_true rfl, Nat.le_of_ble_eq_true rfl⟩ rfl rfl (Nat.le_of_ble_eq_true rfl) dX6_openings_28 ⟨Nat.le_of_ble_eq_true rfl, Nat.le_of_ble_eq_true rfl⟩ (fun v9 s9_28 h9 => ?_)
      obtain ⟨hv9, hS9⟩ := h9
      rw [hv9, hS9]
      rw [show bI ((0 : Int32) = 0) = 1 by decide]
      show G C (mW (xy C) ma (muI s 0 (0))) 0 0 31 [(0, .ref (ma 0)), (1, .int (nI ll)), (2, .int (se))] [.int (1)]
      refine g_if_ne (tgt := 36) E dX6_openings_31 (by decide) (fun c_31 => ?_) (fun c_31 => ?_)
      · refine g_iconst (v := 0) E dX6_openings_36 (by decide) ?_
        refine g_istore_n (L' := [(3, .int (0)), (0, .ref (ma 0)), (1, .int (nI ll)), (2, .int (se))]) E dX6_openings_37 rfl (by decide) rfl ?_
        refine g_iconst (v := 0) E dX6_openings_38 (by decide) ?_
        refine g_istore (L' := [(4, .int (0)), (3, .int (0)), (0, .ref (ma 0)), (1, .int (nI ll)), (2, .int (se))]) E dX6_openings_39 (by decide) rfl ?_
        refine g_locals [(0, .ref (ma 0)), (1, .int (nI ll)), (2, .int (se)), (3, .int (0)), (4, .int (0))] [2, 3, 4, 1, 0] rfl ?_
        have loop_41 : ∀ (n_41 o : Nat), o ≤ no → no < n_41 + o → G C (mW (xy C) ma (muI s 0 (0))) 0 0 41 [(0, .ref (ma 0)), (1, .int (nI ll)), (2, .int (se)), (3, .int ((mcO s np (nI ll) se o))), (4, .int (nI o))] [] := by
          intro n_41
          induction n_41 with
          | zero => intro o h1 h2; exact absurd h2 (by omega)
          | succ n_41 ih_41 =>
            intro o h1_41 h2_41
            refine g_iload E dX6_openings_41 4 rfl ?_
            refine g_aload_n E dX6_openings_43 rfl 0 rfl ?_
            refine k_get_openings (s := (muI s 0 (0))) E (fun _ h => (List.mem_cons_of_mem _ (List.mem_append_right _ h))) (List.mem_cons_of_mem _ (List.mem_append_left _ (List.mem_append_left _ (List.mem_of_getElem? (i := 0) rfl)))) dX6_openings_44 ?_
            rw [show mi (muI s 0 (0)) 24 = nI no from hno]
            show G C (mW (xy C) ma (muI s 0 (0))) 0 0 47 [(0, .ref (ma 0)), (1, .int (nI ll)), (2, .int (se)), (3, .int ((mcO s np (nI ll) se o))), (4, .int (nI o))] [.int (nI no), .int (nI o)]
            refine g_icmp_ge (tgt := 139) E dX6_openings_47 (by decide) (fun c_47 => ?_) (fun c_47 => ?_)
            · have e_o : o = no := Nat.le_antisymm h1_41 (nI_ge_nat (by omega) (by omega) c_47)
              refine g_iload_n E dX6_openings_139 rfl 3 rfl ?_
              exact g_iret E hE hr dX6_openings_140 (Nat.le_of_ble_eq_true rfl) (Nat.le_of_ble_eq_true rfl) ⟨(muI s 0 (0)), rfl, Or.inl ⟨ll, hll, rfl, bI_ne0.mp c_20, by rw [e_o], rfl⟩⟩
            · have ho_o : o < no := nI_nge_nat (by omega) (by omega) c_47
              refine g_iconst (v := 0) E dX6_openings_50 (by decide) ?_
              refine g_istore (L' := [(5, .int (0)), (0, .ref (ma 0)), (1, .int (nI ll)), (2, .int (se)), (3, .int ((mcO s np (nI ll) se o))), (4, .int (nI o))]) E dX6_openings_51 (by decide) rfl ?_
              refine g_iconst (v := 0) E dX6_openings_53 (by decide) ?_
              refine g_istore (L' := [(6, .int (0)), (5, .int (0)), (0, .ref (ma 0)), (1, .int (nI ll)), (2, .int (se)), (3, .int ((mcO s np (nI ll) se o))), (4, .int (nI o))]) E dX6_openings_54 (by decide) rfl ?_
              refine g_locals [(0, .ref (ma 0)), (1, .int (nI ll)), (2, .int (se)), (3, .int ((mcO s np (nI ll) se o))), (4, .int (nI o)), (5, .int (0)), (6, .int (0))] [2, 3, 4, 5, 6, 1, 0] rfl ?_
              have loop_56 : ∀ (n_56 k : Nat) (b : Int32), ((b = 0 ∧ ∀ q, q < k → ¬ mopF s (nI ll) (nI o) q) ∨ (b = 1 ∧ ∃ q, q < k ∧ mopF s (nI ll) (nI o) q)) → k ≤ np → np < n_56 + k → G C (mW (xy C) ma (muI s 0 0)) 0 0 56 [(0, .ref (ma 0)), (1, .int (nI ll)), (2, .int (se)), (3, .int ((mcO s np (nI ll) se o))), (4, .int (nI o)), (5, .int (b)), (6, .int (nI k))] [] := by
                intro n_56
                induction n_56 with
                | zero => intro k b hv g1 g2; exact absurd g2 (by omega)
                | succ n_56 ih_56 =>
                  intro k b hv h1_56 h2_56
                  refine g_iload E dX6_openings_56 6 rfl ?_
                  refine g_aload_n E dX6_openings_58 rfl 0 rfl ?_
                  refine k_get_permits (s := (muI s 0 0)) E (fun _ h => (List.mem_cons_of_mem _ (List.mem_append_right _ h))) (List.mem_cons_of_mem _ (List.mem_append_left _ (List.mem_append_left _ (List.mem_of_getElem? (i := 1) rfl)))) dX6_openings_59 ?_
                  rw [show mi (muI s 0 0) 21 = nI np from hp0]
                  show G C (mW (xy C) ma (muI s 0 0)) 0 0 62 [(0, .ref (ma 0)), (1, .int (nI ll)), (2, .int (se)), (3, .int ((mcO s np (nI ll) se o))), (4, .int (nI o)), (5, .int (b)), (6, .int (nI k))] [.int (nI np), .int (nI k)]
                  refine g_icmp_ge (tgt := 105) E dX6_openings_62 (by decide) (fun c_62 => ?_) (fun c_62 => ?_)
                  · have e_k : k = np := Nat.le_antisymm h1_56 (nI_ge_nat (by omega) (by omega) c_62)
                    refine g_iload_n E dX6_openings_105 rfl 3 rfl ?_
                    refine g_iload E dX6_openings_106 5 rfl ?_
                    refine g_if_eq (tgt := 130) E dX6_openings_108 (by decide) (fun c_108 => ?_) (fun c_108 => ?_)
                    · refine g_iconst (v := 0) E dX6_openings_130 (by decide) ?_
                      refine g_iadd E dX6_openings_131 ?_
                      refine g_istore_n (L' := [(3, .int (((mcO s np (nI ll) se o) + 0))), (0, .ref (ma 0)), (1, .int (nI ll)), (2, .int (se)), (4, .int (nI o)), (5, .int (b)), (6, .int (nI k))]) E dX6_openings_132 rfl (by decide) rfl ?_
                      refine g_iinc (v := nI (o + 1)) (L' := [(4, .int (nI (o + 1))), (3, .int (((mcO s np (nI ll) se o) + 0))), (0, .ref (ma 0)), (1, .int (nI ll)), (2, .int (se)), (5, .int (b)), (6, .int (nI k))]) E dX6_openings_133 4 rfl (nI_1 o) (by decide) rfl ?_
                      refine g_goto (tgt := 41) E dX6_openings_136 (by decide) ?_
                      refine g_locals [(0, .ref (ma 0)), (1, .int (nI ll)), (2, .int (se)), (3, .int (((mcO s np (nI ll) se o) + 0))), (4, .int (nI (o + 1)))] [2, 3, 4, 1, 0] rfl ?_
                      refine g_L (L' := [(0, .ref (ma 0)), (1, .int (nI ll)), (2, .int (se)), (3, .int ((mcO s np (nI ll) se (o + 1)))), (4, .int (nI (o + 1)))]) (by rw [mcO_f (s := s) (fun z => (hv.elim (fun y => z.1.elim fun q g => y.2 q (by omega) g.2) (fun y => absurd (y.1.symm.trans c_108) (by decide))))]) (ih_41 (o + 1) (by omega) (by omega))
                    · refine g_aload_n E dX6_openings_111 rfl 0 rfl ?_
                      refine k_get_first (s := (muI s 0 0)) E (fun _ h => (List.mem_cons_of_mem _ (List.mem_append_right _ h))) (List.mem_cons_of_mem _ (List.mem_append_left _ (List.mem_append_left _ (List.mem_of_getElem? (i := 3) rfl)))) dX6_openings_112 ?_
                      refine g_iload E dX6_openings_115 4 rfl ?_
                      refine k_ald_first (s := (muI s 0 0)) E o rfl (by omega) dX6_openings_117 ?_
                      refine g_sipush (v := 500) E dX6_openings_118 (by decide) ?_
                      refine g_idiv E dX6_openings_121 (by decide) ?_
                      refine g_iload_n E dX6_openings_122 rfl 2 rfl ?_
                      refine g_icmp_ne (tgt := 130) E dX6_openings_123 (by decide) (fun c_123 => ?_) (fun c_123 => ?_)
                      · refine g_iconst (v := 0) E dX6_openings_130 (by decide) ?_
                        refine g_iadd E dX6_openings_131 ?_
                        refine g_istore_n (L' := [(3, .int (((mcO s np (nI ll) se o) + 0))), (0, .ref (ma 0)), (1, .int (nI ll)), (2, .int (se)), (4, .int (nI o)), (5, .int (b)), (6, .int (nI k))]) E dX6_openings_132 rfl (by decide) rfl ?_
                        refine g_iinc (v := nI (o + 1)) (L' := [(4, .int (nI (o + 1))), (3, .int (((mcO s np (nI ll) se o) + 0))), (0, .ref (ma 0)), (1, .int (nI ll)), (2, .int (se)), (5, .int (b)), (6, .int (nI k))]) E dX6_openings_133 4 rfl (nI_1 o) (by decide) rfl ?_
                        refine g_goto (tgt := 41) E dX6_openings_136 (by decide) ?_
                        refine g_locals [(0, .ref (ma 0)), (1, .int (nI ll)), (2, .int (se)), (3, .int (((mcO s np (nI ll) se o) + 0))), (4, .int (nI (o + 1)))] [2, 3, 4, 1, 0] rfl ?_
                        refine g_L (L' := [(0, .ref (ma 0)), (1, .int (nI ll)), (2, .int (se)), (3, .int ((mcO s np (nI ll) se (o + 1)))), (4, .int (nI (o + 1)))]) (by rw [mcO_f (s := s) (fun z => c_123 z.2)]) (ih_41 (o + 1) (by omega) (by omega))
                      · refine g_iconst (v := 1) E dX6_openings_126 (by decide) ?_
                        refine g_goto (tgt := 131) E dX6_openings_127 (by decide) ?_
                        refine g_iadd E dX6_openings_131 ?_
                        refine g_istore_n (L' := [(3, .int (((mcO s np (nI ll) se o) + 1))), (0, .ref (ma 0)), (1, .int (nI ll)), (2, .int (se)), (4, .int (nI o)), (5, .int (b)), (6, .int (nI k))]) E dX6_openings_132 rfl (by decide) rfl ?_
                        refine g_iinc (v := nI (o + 1)) (L' := [(4, .int (nI (o + 1))), (3, .int (((mcO s np (nI ll) se o) + 1))), (0, .ref (ma 0)), (1, .int (nI ll)), (2, .int (se)), (5, .int (b)), (6, .int (nI k))]) E dX6_openings_133 4 rfl (nI_1 o) (by decide) rfl ?_
                        refine g_goto (tgt := 41) E dX6_openings_136 (by decide) ?_
                        refine g_locals [(0, .ref (ma 0)), (1, .int (nI ll)), (2, .int (se)), (3, .int (((mcO s np (nI ll) se o) + 1))), (4, .int (nI (o + 1)))] [2, 3, 4, 1, 0] rfl ?_
                        refine g_L (L' := [(0, .ref (ma 0)), (1, .int (nI ll)), (2, .int (se)), (3, .int ((mcO s np (nI ll) se (o + 1)))), (4, .int (nI (o + 1)))]) (by rw [mcO_t (s := s) ⟨hv.elim (fun y => absurd y.1 c_108) (fun y => y.2.elim fun q g => ⟨q, by omega, g.2⟩), c_123⟩]) (ih_41 (o + 1) (by omega) (by omega))
                  · have hk_k : k < np := nI_nge_nat (by omega) (by omega) c_62
                    refine g_iload E dX6_openings_65 5 rfl ?_
                    refine g_if_ne (tgt := 92) E dX6_openings_67 (by decide) (fun c_67 => ?_) (fun c_67 => ?_)
                    · refine g_iconst (v := 1) E dX6_openings_92 (by decide) ?_
                      refine g_goto (tgt := 97) E dX6_openings_93 (by decide) ?_
                      refine g_istore (L' := [(5, .int (1)), (0, .ref (ma 0)), (1, .int (nI ll)), (2, .int (se)), (3, .int ((mcO s np (nI ll) se o))), (4, .int (nI o)), (6, .int (nI k))]) E dX6_openings_97 (by decide) rfl ?_
                      refine g_iinc (v := nI (k + 1)) (L' := [(6, .int (nI (k + 1))), (5, .int (1)), (0, .ref (ma 0)), (1, .int (nI ll)), (2, .int (se)), (3, .int ((mcO s np (nI ll) se o))), (4, .int (nI o))]) E dX6_openings_99 6 rfl (nI_1 k) (by decide) rfl ?_
                      refine g_goto (tgt := 56) E dX6_openings_102 (by decide) ?_
                      refine g_locals [(0, .ref (ma 0)), (1, .int (nI ll)), (2, .int (se)), (3, .int ((mcO s np (nI ll) se o))), (4, .int (nI o)), (5, .int (1)), (6, .int (nI (k + 1)))] [2, 3, 4, 5, 6, 1, 0] rfl ?_
                      refine g_L (L' := [(0, .ref (ma 0)), (1, .int (nI ll)), (2, .int (se)), (3, .int ((mcO s np (nI ll) se o))), (4, .int (nI o)), (5, .int (1)), (6, .int (nI (k + 1)))]) (by rfl) (ih_56 (k + 1) (1) (Or.inr ⟨rfl, hv.elim (fun z => absurd z.1 c_67) (fun z => z.2.elim fun q g => ⟨q, Nat.lt_succ_of_lt g.1, g.2⟩)⟩) (by omega) (by omega))
                    · refine g_aload_n E dX6_openings_70 rfl 0 rfl ?_
                      refine g_iload E dX6_openings_71 6 rfl ?_
                      refine g_iload E dX6_openings_73 4 rfl ?_
                      refine k_invV (n := 2) (rest := []) E (m_X6_isIn0 (xl C) E.tr (xD C) (xy C) e0 (s := (muI s 0 0)) (k := k) (o := nI o) (by omega)) gX6_openings_X6_isIn0 rfl rfl rfl (by decide +kernel) ⟨Nat.le_of_ble_eq_true rfl, Nat.le_of_ble_eq_true rfl⟩ rfl rfl (Nat.le_of_ble_eq_true rfl) dX6_openings_75 ⟨Nat.le_of_ble_eq_true rfl, Nat.le_of_ble_eq_true rfl⟩ (fun v9 s9_75 h9 => ?_)
                      obtain ⟨hv9, hS9⟩ := h9
                      rw [hv9, hS9]
                      show G C (mW (xy C) ma (muI s 0 0)) 0 0 78 [(0, .ref (ma 0)), (1, .int (nI ll)), (2, .int (se)), (3, .int ((mcO s np (nI ll) se o))), (4, .int (nI o)), (5, .int (b)), (6, .int (nI k))] [.int ((bI ((¬ mr (muI s 0 0) 17 k = 1 ∧ ¬ mr (muI s 0 0) 17 k = 4) ∧ mr (muI s 0 0) 19 k = nI o)))]
                      refine g_if_eq (tgt := 96) E dX6_openings_78 (by decide) (fun c_78 => ?_) (fun c_78 => ?_)
                      · refine g_iconst (v := 0) E dX6_openings_96 (by decide) ?_
                        refine g_istore (L' := [(5, .int (0)), (0, .ref (ma 0)), (1, .int (nI ll)), (2, .int (se)), (3, .int ((mcO s np (nI ll) se o))), (4, .int (nI o)), (6, .int (nI k))]) E dX6_openings_97 (by decide) rfl ?_
                        refine g_iinc (v := nI (k + 1)) (L' := [(6, .int (nI (k + 1))), (5, .int (0)), (0, .ref (ma 0)), (1, .int (nI ll)), (2, .int (se)), (3, .int ((mcO s np (nI ll) se o))), (4, .int (nI o))]) E dX6_openings_99 6 rfl (nI_1 k) (by decide) rfl ?_
                        refine g_goto (tgt := 56) E dX6_openings_102 (by decide) ?_
                        refine g_locals [(0, .ref (ma 0)), (1, .int (nI ll)), (2, .int (se)), (3, .int ((mcO s np (nI ll) se o))), (4, .int (nI o)), (5, .int (0)), (6, .int (nI (k + 1)))] [2, 3, 4, 5, 6, 1, 0] rfl ?_
                        refine g_L (L' := [(0, .ref (ma 0)), (1, .int (nI ll)), (2, .int (se)), (3, .int ((mcO s np (nI ll) se o))), (4, .int (nI o)), (5, .int (0)), (6, .int (nI (k + 1)))]) (by rfl) (ih_56 (k + 1) (0) (Or.inl ⟨rfl, hv.elim (fun y q hq z => (Nat.lt_succ_iff_lt_or_eq.mp hq).elim (fun h => y.2 q h z) (fun h => by subst h; exact bI_eq0.mp c_78 z.1)) (fun y => absurd (y.1.symm.trans c_67) (by decide))⟩) (by omega) (by omega))
                      · refine g_aload_n E dX6_openings_81 rfl 0 rfl ?_
                        refine k_get_lane (s := (muI s 0 0)) E (fun _ h => (List.mem_cons_of_mem _ (List.mem_append_right _ h))) (List.mem_cons_of_mem _ (List.mem_append_left _ (List.mem_append_left _ (List.mem_of_getElem? (i := 2) rfl)))) dX6_openings_82 ?_
                        refine g_iload E dX6_openings_85 6 rfl ?_
                        refine k_ald_lane (s := (muI s 0 0)) E k rfl (by omega) dX6_openings_87 ?_
                        refine g_iload_n E dX6_openings_88 rfl 1 rfl ?_
                        refine g_icmp_ne (tgt := 96) E dX6_openings_89 (by decide) (fun c_89 => ?_) (fun c_89 => ?_)
                        · refine g_iconst (v := 0) E dX6_openings_96 (by decide) ?_
                          refine g_istore (L' := [(5, .int (0)), (0, .ref (ma 0)), (1, .int (nI ll)), (2, .int (se)), (3, .int ((mcO s np (nI ll) se o))), (4, .int (nI o)), (6, .int (nI k))]) E dX6_openings_97 (by decide) rfl ?_
                          refine g_iinc (v := nI (k + 1)) (L' := [(6, .int (nI (k + 1))), (5, .int (0)), (0, .ref (ma 0)), (1, .int (nI ll)), (2, .int (se)), (3, .int ((mcO s np (nI ll) se o))), (4, .int (nI o))]) E dX6_openings_99 6 rfl (nI_1 k) (by decide) rfl ?_
                          refine g_goto (tgt := 56) E dX6_openings_102 (by decide) ?_
                          refine g_locals [(0, .ref (ma 0)), (1, .int (nI ll)), (2, .int (se)), (3, .int ((mcO s np (nI ll) se o))), (4, .int (nI o)), (5, .int (0)), (6, .int (nI (k + 1)))] [2, 3, 4, 5, 6, 1, 0] rfl ?_
                          refine g_L (L' := [(0, .ref (ma 0)), (1, .int (nI ll)), (2, .int (se)), (3, .int ((mcO s np (nI ll) se o))), (4, .int (nI o)), (5, .int (0)), (6, .int (nI (k + 1)))]) (by rfl) (ih_56 (k + 1) (0) (Or.inl ⟨rfl, hv.elim (fun y q hq z => (Nat.lt_succ_iff_lt_or_eq.mp hq).elim (fun h => y.2 q h z) (fun h => by subst h; exact c_89 z.2)) (fun y => absurd (y.1.symm.trans c_67) (by decide))⟩) (by omega) (by omega))
                        · refine g_iconst (v := 1) E dX6_openings_92 (by decide) ?_
                          refine g_goto (tgt := 97) E dX6_openings_93 (by decide) ?_
                          refine g_istore (L' := [(5, .int (1)), (0, .ref (ma 0)), (1, .int (nI ll)), (2, .int (se)), (3, .int ((mcO s np (nI ll) se o))), (4, .int (nI o)), (6, .int (nI k))]) E dX6_openings_97 (by decide) rfl ?_
                          refine g_iinc (v := nI (k + 1)) (L' := [(6, .int (nI (k + 1))), (5, .int (1)), (0, .ref (ma 0)), (1, .int (nI ll)), (2, .int (se)), (3, .int ((mcO s np (nI ll) se o))), (4, .int (nI o))]) E dX6_openings_99 6 rfl (nI_1 k) (by decide) rfl ?_
                          refine g_goto (tgt := 56) E dX6_openings_102 (by decide) ?_
                          refine g_locals [(0, .ref (ma 0)), (1, .int (nI ll)), (2, .int (se)), (3, .int ((mcO s np (nI ll) se o))), (4, .int (nI o)), (5, .int (1)), (6, .int (nI (k + 1)))] [2, 3, 4, 5, 6, 1, 0] rfl ?_
                          refine g_L (L' := [(0, .ref (ma 0)), (1, .int (nI ll)), (2, .int (se)), (3, .int ((mcO s np (nI ll) se o))), (4, .int (nI o)), (5, .int (1)), (6, .int (nI (k + 1)))]) (by rfl) (ih_56 (k + 1) (1) (Or.inr ⟨rfl, k, Nat.lt_succ_self k, bI_ne0.mp c_78, c_89⟩) (by omega) (by omega))
              exact loop_56 (np + 1) 0 (0) (Or.inl ⟨rfl, fun q h => absurd h (Nat.not_lt_zero q)⟩) (by omega) (by omega)
        exact loop_41 (no + 1) 0 (by omega) (by omega)
      · exact absurd c_31 (by decide)
    · refine g_iconst (v := 2) E dX6_openings_23 (by decide) ?_
      refine g_goto (tgt := 28) E dX6_openings_24 (by decide) ?_
      refine k_invV (n := 1) (rest := []) E (m_X6_isFine (xl C) E.tr (xD C) (xy C) e0 (s := s) (x := 2)) gX6_openings_X6_isFine rfl rfl rfl (by decide +kernel) ⟨Nat.le_of_ble_eq_true rfl, Nat.le_of_ble_eq_true rfl⟩ rfl rfl (Nat.le_of_ble_eq_true rfl) dX6_openings_28 ⟨Nat.le_of_ble_eq_true rfl, Nat.le_of_ble_eq_true rfl⟩ (fun v9 s9_28 h9 => ?_)
      obtain ⟨hv9, hS9⟩ := h9
      rw [hv9, hS9]
      rw [show bI ((2 : Int32) = 0) = 0 by decide]
      show G C (mW (xy C) ma (muI s 0 (2))) 0 0 31 [(0, .ref (ma 0)), (1, .int (nI ll)), (2, .int (se))] [.int (0)]
      refine g_if_ne (tgt := 36) E dX6_openings_31 (by decide) (fun c_31 => ?_) (fun c_31 => ?_)
      · exact absurd c_31 (by decide)
      · refine g_iconst (v := 0) E dX6_openings_34 (by decide) ?_
        exact g_iret E hE hr dX6_openings_35 (Nat.le_of_ble_eq_true rfl) (Nat.le_of_ble_eq_true rfl) ⟨(muI s 0 (2)), rfl, Or.inr (Or.inr ⟨ll, hll, rfl, bI_eq0.mp c_20, rfl, rfl⟩)⟩
  · have hbad := isIx_f (by omega) c_6
    refine g_iconst (v := 1) E dX6_openings_9 (by decide) ?_
    refine g_goto (tgt := 28) E dX6_openings_10 (by decide) ?_
    refine k_invV (n := 1) (rest := []) E (m_X6_isFine (xl C) E.tr (xD C) (xy C) e0 (s := s) (x := 1)) gX6_openings_X6_isFine rfl rfl rfl (by decide +kernel) ⟨Nat.le_of_ble_eq_true rfl, Nat.le_of_ble_eq_true rfl⟩ rfl rfl (Nat.le_of_ble_eq_true rfl) dX6_openings_28 ⟨Nat.le_of_ble_eq_true rfl, Nat.le_of_ble_eq_true rfl⟩ (fun v9 s9_28 h9 => ?_)
    obtain ⟨hv9, hS9⟩ := h9
    rw [hv9, hS9]
    rw [show bI ((1 : Int32) = 0) = 0 by decide]
    show G C (mW (xy C) ma (muI s 0 (1))) 0 0 31 [(0, .ref (ma 0)), (1, .int (x)), (2, .int (se))] [.int (0)]
    refine g_if_ne (tgt := 36) E dX6_openings_31 (by decide) (fun c_31 => ?_) (fun c_31 => ?_)
    · exact absurd c_31 (by decide)
    · refine g_iconst (v := 0) E dX6_openings_34 (by decide) ?_
      exact g_iret E hE hr dX6_openings_35 (Nat.le_of_ble_eq_true rfl) (Nat.le_of_ble_eq_true rfl) ⟨(muI s 0 (1)), rfl, Or.inr (Or.inl ⟨hbad, rfl, rfl⟩)⟩
abbrev rm_X6_fee : Room := { frames := 2, cells := 0, slots := 0, locals := 43 }
set_option maxHeartbeats 4000000 in
set_option maxRecDepth 100000 in
theorem m_X6_fee (l : Launch) (hl : l.stackTraces = false) (D : va_G) (cy : Nat → ClassId) (e0 : Nat) {ma : Nat → Nat} {s : mS} {np : Nat} (hp0 : mi s 21 = nI np) (hp1 : np ≤ 40) (hop : HOP s np) {x : Int32} : mMet l yX6_fee wsX6_fee rm_X6_fee D cy e0 [.ref (ma 0), .int (x)] ma s (fun v s' => (∃ k, k < np ∧ x = nI k ∧ v = some (.int (if ¬ mr s 17 k = 1 ∧ ¬ mr s 17 k = 4 then mfee s np k else 0)) ∧ s' = muI s 0 0) ∨ ((∀ k, k < np → x ≠ nI k) ∧ v = some (.int 0) ∧ s' = muI s 0 1)) := by
  refine gMet.of (cc := cX6_fee) (maxL := 6) (ret := (some .int)) hl (by decide) rfl (Nat.le_of_ble_eq_true rfl) ?_
  intro C E h1 h2 h3 hr hnm hT hE
  subst h1; subst h2; subst h3
  have E : gOk C cX6_fee 6 wsX6_fee RX6 e0 rm_X6_fee := E
  show G C (mW (xy C) ma s) 0 0 0 [(0, .ref (ma 0)), (1, .int (x))] []
  refine g_aload_n E dX6_fee_0 rfl 0 rfl ?_
  refine g_aload_n E dX6_fee_1 rfl 0 rfl ?_
  refine g_iload_n E dX6_fee_2 rfl 1 rfl ?_
  refine k_invV (n := 1) (rest := [.ref (ma 0)]) E (m_X6_isPermit (xl C) E.tr (xD C) (xy C) e0 hp0) gX6_fee_X6_isPermit rfl rfl rfl (by decide +kernel) ⟨Nat.le_of_ble_eq_true rfl, Nat.le_of_ble_eq_true rfl⟩ rfl rfl (Nat.le_of_ble_eq_true rfl) dX6_fee_3 ⟨Nat.le_of_ble_eq_true rfl, Nat.le_of_ble_eq_true rfl⟩ (fun v9 s9_3 h9 => ?_)
  obtain ⟨hv9, hS9⟩ := h9
  rw [hv9, hS9]
  show G C (mW (xy C) ma s) 0 0 6 [(0, .ref (ma 0)), (1, .int (x))] [.int ((isIx (x) np)), .ref (ma 0)]
  refine g_if_eq (tgt := 13) E dX6_fee_6 (by decide) (fun c_6 => ?_) (fun c_6 => ?_)
  · have hbad := isIx_f (by omega) c_6
    refine g_iconst (v := 1) E dX6_fee_13 (by decide) ?_
    refine k_invV (n := 1) (rest := []) E (m_X6_isFine (xl C) E.tr (xD C) (xy C) e0 (s := s) (x := 1)) gX6_fee_X6_isFine rfl rfl rfl (by decide +kernel) ⟨Nat.le_of_ble_eq_true rfl, Nat.le_of_ble_eq_true rfl⟩ rfl rfl (Nat.le_of_ble_eq_true rfl) dX6_fee_14 ⟨Nat.le_of_ble_eq_true rfl, Nat.le_of_ble_eq_true rfl⟩ (fun v9 s9_14 h9 => ?_)
    obtain ⟨hv9, hS9⟩ := h9
    rw [hv9, hS9]
    rw [show bI ((1 : Int32) = 0) = 0 by decide]
    show G C (mW (xy C) ma (muI s 0 (1))) 0 0 17 [(0, .ref (ma 0)), (1, .int (x))] [.int (0)]
    refine g_if_eq (tgt := 28) E dX6_fee_17 (by decide) (fun c_17 => ?_) (fun c_17 => ?_)
    · refine g_iconst (v := 0) E dX6_fee_28 (by decide) ?_
      exact g_iret E hE hr dX6_fee_29 (Nat.le_of_ble_eq_true rfl) (Nat.le_of_ble_eq_true rfl) ⟨(muI s 0 (1)), rfl, Or.inr ⟨hbad, rfl, rfl⟩⟩
    · exact absurd c_17 (by decide)
  · obtain ⟨k, hk, hxk⟩ := isIx_t (by omega) c_6
    subst hxk
    show G C (mW (xy C) ma s) 0 0 9 [(0, .ref (ma 0)), (1, .int (nI k))] [.ref (ma 0)]
    refine g_iconst (v := 0) E dX6_fee_9 (by decide) ?_
    refine g_goto (tgt := 14) E dX6_fee_10 (by decide) ?_
    refine k_invV (n := 1) (rest := []) E (m_X6_isFine (xl C) E.tr (xD C) (xy C) e0 (s := s) (x := 0)) gX6_fee_X6_isFine rfl rfl rfl (by decide +kernel) ⟨Nat.le_of_ble_eq_true rfl, Nat.le_of_ble_eq_true rfl⟩ rfl rfl (Nat.le_of_ble_eq_true rfl) dX6_fee_14 ⟨Nat.le_of_ble_eq_true rfl, Nat.le_of_ble_eq_true rfl⟩ (fun v9 s9_14 h9 => ?_)
    obtain ⟨hv9, hS9⟩ := h9
    rw [hv9, hS9]
    rw [show bI ((0 : Int32) = 0) = 1 by decide]
    show G C (mW (xy C) ma (muI s 0 (0))) 0 0 17 [(0, .ref (ma 0)), (1, .int (nI k))] [.int (1)]
    refine g_if_eq (tgt := 28) E dX6_fee_17 (by decide) (fun c_17 => ?_) (fun c_17 => ?_)
    · exact absurd c_17 (by decide)
    · refine g_aload_n E dX6_fee_20 rfl 0 rfl ?_
      refine g_iload_n E dX6_fee_21 rfl 1 rfl ?_
      refine k_invV (n := 1) (rest := []) E (m_X6_isOf (xl C) E.tr (xD C) (xy C) e0 (s := (muI s 0 (0))) (k := k) (by omega)) gX6_fee_X6_isOf rfl rfl rfl (by decide +kernel) ⟨Nat.le_of_ble_eq_true rfl, Nat.le_of_ble_eq_true rfl⟩ rfl rfl (Nat.le_of_ble_eq_true rfl) dX6_fee_22 ⟨Nat.le_of_ble_eq_true rfl, Nat.le_of_ble_eq_true rfl⟩ (fun v9 s9_22 h9 => ?_)
      obtain ⟨hv9, hS9⟩ := h9
      rw [hv9, hS9]
      show G C (mW (xy C) ma (muI s 0 (0))) 0 0 25 [(0, .ref (ma 0)), (1, .int (nI k))] [.int ((bI (¬ mr (muI s 0 (0)) 17 k = 1 ∧ ¬ mr (muI s 0 (0)) 17 k = 4)))]
      refine g_if_ne (tgt := 30) E dX6_fee_25 (by decide) (fun c_25 => ?_) (fun c_25 => ?_)
      · have h_o := hop k hk (bI_ne0.mp c_25).1
        refine g_aload_n E dX6_fee_30 rfl 0 rfl ?_
        refine k_get_opening (s := (muI s 0 (0))) E (fun _ h => (List.mem_cons_of_mem _ (List.mem_append_right _ h))) (List.mem_cons_of_mem _ (List.mem_append_left _ (List.mem_append_left _ (List.mem_of_getElem? (i := 0) rfl)))) dX6_fee_31 ?_
        refine g_iload_n E dX6_fee_34 rfl 1 rfl ?_
        refine k_ald_opening (s := (muI s 0 (0))) E k rfl (by omega) dX6_fee_35 ?_
        refine g_istore_n (L' := [(2, .int (mr (muI s 0 (0)) 19 k)), (0, .ref (ma 0)), (1, .int (nI k))]) E dX6_fee_36 rfl (by decide) rfl ?_
        refine g_iconst (v := 0) E dX6_fee_37 (by decide) ?_
        refine g_istore_n (L' := [(3, .int (0)), (2, .int (mr (muI s 0 (0)) 19 k)), (0, .ref (ma 0)), (1, .int (nI k))]) E dX6_fee_38 rfl (by decide) rfl ?_
        refine g_iconst (v := (-1)) E dX6_fee_39 (by decide) ?_
        refine g_istore (L' := [(4, .int ((-1))), (3, .int (0)), (2, .int (mr (muI s 0 (0)) 19 k)), (0, .ref (ma 0)), (1, .int (nI k))]) E dX6_fee_40 (by decide) rfl ?_
        refine g_aload_n E dX6_fee_42 rfl 3 rfl ?_
        refine k_get_permits (s := (muI s 0 (0))) E (fun _ h => (List.mem_cons_of_mem _ (List.mem_append_right _ h))) (List.mem_cons_of_mem _ (List.mem_append_left _ (List.mem_append_left _ (List.mem_of_getElem? (i := 1) rfl)))) dX6_fee_43 ?_
        rw [show mi (muI s 0 (0)) 21 = nI np from hp0]
        show G C (mW (xy C) ma (muI s 0 (0))) 0 0 46 [(4, .int ((-1))), (3, .int (0)), (2, .int (mr (muI s 0 (0)) 19 k)), (0, .ref (ma 0)), (1, .int (nI k))] [.int (nI np)]
        refine g_iconst (v := 1) E dX6_fee_46 (by decide) ?_
        refine g_isub E dX6_fee_47 ?_
        rw [show nI np - 1 = nI (np - 0) + (-1) from nI_m1 np]
        show G C (mW (xy C) ma (muI s 0 (0))) 0 0 48 [(4, .int ((-1))), (3, .int (0)), (2, .int (mr (muI s 0 (0)) 19 k)), (0, .ref (ma 0)), (1, .int (nI k))] [.int (nI (np - 0) + (-1))]
        refine g_istore (L' := [(5, .int (nI (np - 0) + (-1))), (4, .int ((-1))), (3, .int (0)), (2, .int (mr (muI s 0 (0)) 19 k)), (0, .ref (ma 0)), (1, .int (nI k))]) E dX6_fee_48 (by decide) rfl ?_
        refine g_locals [(0, .ref (ma 0)), (1, .int (nI k)), (2, .int (mr (muI s 0 (0)) 19 k)), (3, .int (0)), (4, .int ((-1))), (5, .int (nI (np - 0) + (-1)))] [4, 5, 3, 2, 1, 0] rfl ?_
        have loop_50 : ∀ (n_50 j : Nat), j ≤ np → np < n_50 + j → G C (mW (xy C) ma (muI s 0 (0))) 0 0 50 [(0, .ref (ma 0)), (1, .int (nI k)), (2, .int ((mr s 19 k))), (3, .int (nI (mfN s (mr s 19 k) np j))), (4, .int ((mfL s (mr s 19 k) np j))), (5, .int (nI (np - j) + (-1)))] [] := by
          intro n_50
          induction n_50 with
          | zero => intro j h1 h2; exact absurd h2 (by omega)
          | succ n_50 ih_50 =>
            intro j h1_50 h2_50
            refine g_iload E dX6_fee_50 5 rfl ?_
            refine g_if_lt (tgt := 98) E dX6_fee_52 (by decide) (fun c_52 => ?_) (fun c_52 => ?_)
            · have e_j : j = np := by
                have := (nI_dn (n := np - j) (by omega)).mp c_52
                omega
              rw [e_j]
              show G C (mW (xy C) ma (muI s 0 (0))) 0 0 98 [(0, .ref (ma 0)), (1, .int (nI k)), (2, .int ((mr s 19 k))), (3, .int (nI (mfN s (mr s 19 k) np np))), (4, .int ((mfL s (mr s 19 k) np np))), (5, .int (nI (np - np) + (-1)))] []
              refine g_sipush (v := 1000) E dX6_fee_98 (by decide) ?_
              refine g_bipush (v := 100) E dX6_fee_101 (by decide) ?_
              refine g_aload_n E dX6_fee_103 rfl 0 rfl ?_
              refine k_get_behind (s := (muI s 0 (0))) E (fun _ h => (List.mem_cons_of_mem _ (List.mem_append_right _ h))) (List.mem_cons_of_mem _ (List.mem_append_left _ (List.mem_append_left _ (List.mem_of_getElem? (i := 2) rfl)))) dX6_fee_104 ?_
              refine g_iload_n E dX6_fee_107 rfl 2 rfl ?_
              refine k_ald_behind (s := (muI s 0 (0))) E ((tn (mr s 19 k))) h_o.1 h_o.2 dX6_fee_108 ?_
              refine g_aload_n E dX6_fee_109 rfl 0 rfl ?_
              refine k_get_first (s := (muI s 0 (0))) E (fun _ h => (List.mem_cons_of_mem _ (List.mem_append_right _ h))) (List.mem_cons_of_mem _ (List.mem_append_left _ (List.mem_append_left _ (List.mem_of_getElem? (i := 3) rfl)))) dX6_fee_110 ?_
              refine g_iload_n E dX6_fee_113 rfl 2 rfl ?_
              refine k_ald_first (s := (muI s 0 (0))) E ((tn (mr s 19 k))) h_o.1 h_o.2 dX6_fee_114 ?_
              refine g_isub E dX6_fee_115 ?_
              refine g_imul E dX6_fee_116 ?_
              refine g_iadd E dX6_fee_117 ?_
              refine g_istore (L' := [(5, .int ((1000 + (100 * (mr (muI s 0 (0)) 23 ((tn (mr s 19 k))) - mr (muI s 0 (0)) 22 ((tn (mr s 19 k)))))))), (0, .ref (ma 0)), (1, .int (nI k)), (2, .int ((mr s 19 k))), (3, .int (nI (mfN s (mr s 19 k) np np))), (4, .int ((mfL s (mr s 19 k) np np)))]) E dX6_fee_118 (by decide) rfl ?_
              refine g_iload E dX6_fee_120 0 rfl ?_
              refine g_iload_n E dX6_fee_122 rfl 4 rfl ?_
              refine g_idiv E dX6_fee_123 (nI_nz (mfN_pos hk (by omega) ⟨bI_ne0.mp c_25, rfl⟩) (by have := mfN_le (s := s) (o := mr s 19 k) (np := np) (k := np); omega)) ?_
              refine g_iload E dX6_fee_124 5 rfl ?_
              refine g_iload_n E dX6_fee_126 rfl 2 rfl ?_
              refine g_icmp_ne (tgt := 137) E dX6_fee_127 (by decide) (fun c_127 => ?_) (fun c_127 => ?_)
              · refine g_iconst (v := 0) E dX6_fee_137 (by decide) ?_
                refine g_iadd E dX6_fee_138 ?_
                exact g_iret E hE hr dX6_fee_139 (Nat.le_of_ble_eq_true rfl) (Nat.le_of_ble_eq_true rfl) ⟨(muI s 0 (0)), rfl, Or.inl ⟨k, hk, rfl, by rw [if_pos (show ¬ mr s 17 k = 1 ∧ ¬ mr s 17 k = 4 from bI_ne0.mp c_25)]; exact congrArg (fun z => some (Value.int z)) (by unfold mfee; rw [if_neg c_127]; rfl), rfl⟩⟩
              · refine g_iload E dX6_fee_130 0 rfl ?_
                refine g_iload_n E dX6_fee_132 rfl 4 rfl ?_
                refine g_irem E dX6_fee_133 (nI_nz (mfN_pos hk (by omega) ⟨bI_ne0.mp c_25, rfl⟩) (by have := mfN_le (s := s) (o := mr s 19 k) (np := np) (k := np); omega)) ?_
                refine g_goto (tgt := 138) E dX6_fee_134 (by decide) ?_
                refine g_iadd E dX6_fee_138 ?_
                exact g_iret E hE hr dX6_fee_139 (Nat.le_of_ble_eq_true rfl) (Nat.le_of_ble_eq_true rfl) ⟨(muI s 0 (0)), rfl, Or.inl ⟨k, hk, rfl, by rw [if_pos (show ¬ mr s 17 k = 1 ∧ ¬ mr s 17 k = 4 from bI_ne0.mp c_25)]; exact congrArg (fun z => some (Value.int z)) (by unfold mfee; rw [if_pos c_127]; rfl), rfl⟩⟩
            · have hj_j : j < np := by
                have : ¬ np - j = 0 := fun e => c_52 ((nI_dn (by omega)).mpr e)
                omega
              rw [show nI (np - j) + (-1) = nI (np - (j + 1)) from nI_dn1 (by omega)]
              show G C (mW (xy C) ma (muI s 0 (0))) 0 0 55 [(0, .ref (ma 0)), (1, .int (nI k)), (2, .int ((mr s 19 k))), (3, .int (nI (mfN s (mr s 19 k) np j))), (4, .int ((mfL s (mr s 19 k) np j))), (5, .int (nI (np - (j + 1))))] []
              refine g_iload_n E dX6_fee_55 rfl 3 rfl ?_
              refine g_aload_n E dX6_fee_56 rfl 0 rfl ?_
              refine g_iload E dX6_fee_57 5 rfl ?_
              refine g_iload_n E dX6_fee_59 rfl 2 rfl ?_
              refine k_invV (n := 2) (rest := [.int (nI (mfN s (mr s 19 k) np j))]) E (m_X6_isIn0 (xl C) E.tr (xD C) (xy C) e0 (s := (muI s 0 (0))) (k := (np - (j + 1))) (o := (mr s 19 k)) (by omega)) gX6_fee_X6_isIn0 rfl rfl rfl (by decide +kernel) ⟨Nat.le_of_ble_eq_true rfl, Nat.le_of_ble_eq_true rfl⟩ rfl rfl (Nat.le_of_ble_eq_true rfl) dX6_fee_60 ⟨Nat.le_of_ble_eq_true rfl, Nat.le_of_ble_eq_true rfl⟩ (fun v9 s9_60 h9 => ?_)
              obtain ⟨hv9, hS9⟩ := h9
              rw [hv9, hS9]
              show G C (mW (xy C) ma (muI s 0 (0))) 0 0 63 [(0, .ref (ma 0)), (1, .int (nI k)), (2, .int ((mr s 19 k))), (3, .int (nI (mfN s (mr s 19 k) np j))), (4, .int ((mfL s (mr s 19 k) np j))), (5, .int (nI (np - (j + 1))))] [.int ((bI ((¬ mr (muI s 0 (0)) 17 (np - (j + 1)) = 1 ∧ ¬ mr (muI s 0 (0)) 17 (np - (j + 1)) = 4) ∧ mr (muI s 0 (0)) 19 (np - (j + 1)) = (mr s 19 k)))), .int (nI (mfN s (mr s 19 k) np j))]
              refine g_if_eq (tgt := 70) E dX6_fee_63 (by decide) (fun c_63 => ?_) (fun c_63 => ?_)
              · refine g_iconst (v := 0) E dX6_fee_70 (by decide) ?_
                refine g_iadd E dX6_fee_71 ?_
                refine g_istore_n (L' := [(3, .int ((nI (mfN s (mr s 19 k) np j) + 0))), (0, .ref (ma 0)), (1, .int (nI k)), (2, .int ((mr s 19 k))), (4, .int ((mfL s (mr s 19 k) np j))), (5, .int (nI (np - (j + 1))))]) E dX6_fee_72 rfl (by decide) rfl ?_
                refine g_aload_n E dX6_fee_73 rfl 1 rfl ?_
                refine g_iload E dX6_fee_74 5 rfl ?_
                refine g_iload_n E dX6_fee_76 rfl 3 rfl ?_
                refine k_invV (n := 2) (rest := []) E (m_X6_isIn0 (xl C) E.tr (xD C) (xy C) e0 (s := (muI s 0 (0))) (k := (np - (j + 1))) (o := (mr s 19 k)) (by omega)) gX6_fee_X6_isIn0 rfl rfl rfl (by decide +kernel) ⟨Nat.le_of_ble_eq_true rfl, Nat.le_of_ble_eq_true rfl⟩ rfl rfl (Nat.le_of_ble_eq_true rfl) dX6_fee_77 ⟨Nat.le_of_ble_eq_true rfl, Nat.le_of_ble_eq_true rfl⟩ (fun v9 s9_77 h9 => ?_)
                obtain ⟨hv9, hS9⟩ := h9
                rw [hv9, hS9]
                show G C (mW (xy C) ma (muI s 0 (0))) 0 0 80 [(3, .int ((nI (mfN s (mr s 19 k) np j) + 0))), (0, .ref (ma 0)), (1, .int (nI k)), (2, .int ((mr s 19 k))), (4, .int ((mfL s (mr s 19 k) np j))), (5, .int (nI (np - (j + 1))))] [.int ((bI ((¬ mr (muI s 0 (0)) 17 (np - (j + 1)) = 1 ∧ ¬ mr (muI s 0 (0)) 17 (np - (j + 1)) = 4) ∧ mr (muI s 0 (0)) 19 (np - (j + 1)) = (mr s 19 k))))]
                refine g_if_eq (tgt := 88) E dX6_fee_80 (by decide) (fun c_80 => ?_) (fun c_80 => ?_)
                · refine g_iload E dX6_fee_88 4 rfl ?_
                  refine g_istore (L' := [(4, .int ((mfL s (mr s 19 k) np j))), (3, .int ((nI (mfN s (mr s 19 k) np j) + 0))), (0, .ref (ma 0)), (1, .int (nI k)), (2, .int ((mr s 19 k))), (5, .int (nI (np - (j + 1))))]) E dX6_fee_90 (by decide) rfl ?_
                  refine g_iinc (v := nI (np - (j + 1)) + (-1)) (L' := [(5, .int (nI (np - (j + 1)) + (-1))), (4, .int ((mfL s (mr s 19 k) np j))), (3, .int ((nI (mfN s (mr s 19 k) np j) + 0))), (0, .ref (ma 0)), (1, .int (nI k)), (2, .int ((mr s 19 k)))]) E dX6_fee_92 5 rfl rfl (by decide) rfl ?_
                  refine g_goto (tgt := 50) E dX6_fee_95 (by decide) ?_
                  refine g_locals [(0, .ref (ma 0)), (1, .int (nI k)), (2, .int ((mr s 19 k))), (3, .int ((nI (mfN s (mr s 19 k) np j) + 0))), (4, .int ((mfL s (mr s 19 k) np j))), (5, .int (nI (np - (j + 1)) + (-1)))] [3, 4, 5, 2, 1, 0] rfl ?_
                  refine g_L (L' := [(0, .ref (ma 0)), (1, .int (nI k)), (2, .int ((mr s 19 k))), (3, .int (nI (mfN s (mr s 19 k) np (j + 1)))), (4, .int ((mfL s (mr s 19 k) np (j + 1)))), (5, .int (nI (np - (j + 1)) + (-1)))]) (by rw [mfN_f (s := s) (bI_eq0.mp c_63), mfL_f (s := s) (bI_eq0.mp c_63), Int32.add_zero]) (ih_50 (j + 1) (by omega) (by omega))
                · exact absurd c_63 c_80
              · refine g_iconst (v := 1) E dX6_fee_66 (by decide) ?_
                refine g_goto (tgt := 71) E dX6_fee_67 (by decide) ?_
                refine g_iadd E dX6_fee_71 ?_
                refine g_istore_n (L' := [(3, .int ((nI (mfN s (mr s 19 k) np j) + 1))), (0, .ref (ma 0)), (1, .int (nI k)), (2, .int ((mr s 19 k))), (4, .int ((mfL s (mr s 19 k) np j))), (5, .int (nI (np - (j + 1))))]) E dX6_fee_72 rfl (by decide) rfl ?_
                refine g_aload_n E dX6_fee_73 rfl 1 rfl ?_
                refine g_iload E dX6_fee_74 5 rfl ?_
                refine g_iload_n E dX6_fee_76 rfl 3 rfl ?_
                refine k_invV (n := 2) (rest := []) E (m_X6_isIn0 (xl C) E.tr (xD C) (xy C) e0 (s := (muI s 0 (0))) (k := (np - (j + 1))) (o := (mr s 19 k)) (by omega)) gX6_fee_X6_isIn0 rfl rfl rfl (by decide +kernel) ⟨Nat.le_of_ble_eq_true rfl, Nat.le_of_ble_eq_true rfl⟩ rfl rfl (Nat.le_of_ble_eq_true rfl) dX6_fee_77 ⟨Nat.le_of_ble_eq_true rfl, Nat.le_of_ble_eq_true rfl⟩ (fun v9 s9_77 h9 => ?_)
                obtain ⟨hv9, hS9⟩ := h9
                rw [hv9, hS9]
                show G C (mW (xy C) ma (muI s 0 (0))) 0 0 80 [(3, .int ((nI (mfN s (mr s 19 k) np j) + 1))), (0, .ref (ma 0)), (1, .int (nI k)), (2, .int ((mr s 19 k))), (4, .int ((mfL s (mr s 19 k) np j))), (5, .int (nI (np - (j + 1))))] [.int ((bI ((¬ mr (muI s 0 (0)) 17 (np - (j + 1)) = 1 ∧ ¬ mr (muI s 0 (0)) 17 (np - (j + 1)) = 4) ∧ mr (muI s 0 (0)) 19 (np - (j + 1)) = (mr s 19 k))))]
                refine g_if_eq (tgt := 88) E dX6_fee_80 (by decide) (fun c_80 => ?_) (fun c_80 => ?_)
                · exact absurd c_80 c_63
                · refine g_iload E dX6_fee_83 5 rfl ?_
                  refine g_goto (tgt := 90) E dX6_fee_85 (by decide) ?_
                  refine g_istore (L' := [(4, .int (nI (np - (j + 1)))), (3, .int ((nI (mfN s (mr s 19 k) np j) + 1))), (0, .ref (ma 0)), (1, .int (nI k)), (2, .int ((mr s 19 k))), (5, .int (nI (np - (j + 1))))]) E dX6_fee_90 (by decide) rfl ?_
                  refine g_iinc (v := nI (np - (j + 1)) + (-1)) (L' := [(5, .int (nI (np - (j + 1)) + (-1))), (4, .int (nI (np - (j + 1)))), (3, .int ((nI (mfN s (mr s 19 k) np j) + 1))), (0, .ref (ma 0)), (1, .int (nI k)), (2, .int ((mr s 19 k)))]) E dX6_fee_92 5 rfl rfl (by decide) rfl ?_
                  refine g_goto (tgt := 50) E dX6_fee_95 (by decide) ?_
                  refine g_locals [(0, .ref (ma 0)), (1, .int (nI k)), (2, .int ((mr s 19 k))), (3, .int ((nI (mfN s (mr s 19 k) np j) + 1))), (4, .int (nI (np - (j + 1)))), (5, .int (nI (np - (j + 1)) + (-1)))] [3, 4, 5, 2, 1, 0] rfl ?_
                  refine g_L (L' := [(0, .ref (ma 0)), (1, .int (nI k)), (2, .int ((mr s 19 k))), (3, .int (nI (mfN s (mr s 19 k) np (j + 1)))), (4, .int ((mfL s (mr s 19 k) np (j + 1)))), (5, .int (nI (np - (j + 1)) + (-1)))]) (by rw [mfN_t (s := s) (bI_ne0.mp c_63), mfL_t (s := s) (bI_ne0.mp c_63), nI_1]) (ih_50 (j + 1) (by omega) (by omega))
        exact loop_50 (np + 1) 0 (by omega) (by omega)
      · refine g_iconst (v := 0) E dX6_fee_28 (by decide) ?_
        exact g_iret E hE hr dX6_fee_29 (Nat.le_of_ble_eq_true rfl) (Nat.le_of_ble_eq_true rfl) ⟨(muI s 0 (0)), rfl, Or.inl ⟨k, hk, rfl, by rw [if_neg (show ¬ (¬ mr s 17 k = 1 ∧ ¬ mr s 17 k = 4) from bI_eq0.mp c_25)], rfl⟩⟩
