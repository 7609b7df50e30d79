/-! hours one by one -/
noncomputable def maH (i : Nat → Nat → Int32) (n2 : Nat) : Nat → Int32
  | 0 => 0
  | n + 1 => nxC (i 13) (i 14) (maH i n2 n) (i 18 0) n2
def cdM (i : Nat → Nat → Int32) (x : Int32) (n2 : Nat) : Int32 := orM (fun k => i 13 k ≠ -1 ∧ i 13 k ≤ x ∧ (i 14 k = -1 ∨ x < i 14 k)) (i 7) n2
noncomputable def maS (i r : Nat → Nat → Int32) (M k n2 : Nat) : Nat → Int64
  | 0 => 0
  | n + 1 => maS i r M k n2 n + (maH i n2 (n + 1) - maH i n2 n).toInt64 * (exL i r (cdM i (maH i n2 n) n2) M k).toInt64
theorem SC.cdM {i r i' r' : Nat → Nat → Int32} (h : SC i r i' r') {x : Int32} {n2 : Nat} : cdM i' x n2 = cdM i x n2 := by
  unfold Jvm.Pilot.CPermitWeaveLaw_law_r6545_7ae9f4.cdM
  rw [h.1 13 (by decide) (by decide), h.1 14 (by decide) (by decide), h.1 7 (by decide) (by decide)]
theorem SC.nxC {i r i' r' : Nat → Nat → Int32} (h : SC i r i' r') {x : Int32} {n2 : Nat} : nxC (i' 13) (i' 14) x (i' 18 0) n2 = nxC (i 13) (i 14) x (i 18 0) n2 := by
  rw [h.1 13 (by decide) (by decide), h.1 14 (by decide) (by decide), h.1 18 (by decide) (by decide)]
noncomputable def ldS (i r : Nat → Nat → Int32) (cl : Int32) (M : Nat) : Nat → Int64
  | 0 => 0
  | n + 1 => ldS i r cl M n + (i 1 n).toInt64 * (exL i r cl M n).toInt64
noncomputable def cmJ (i : Nat → Nat → Int32) (j : Nat → Nat → Int64) (r : Nat → Nat → Int32) (cl h : Int32) (M n : Nat) : Nat → Nat → Int64 := fun f k => if f = 0 ∧ k < n then j 0 k + h.toInt64 * (i 1 k).toInt64 * (exL i r cl M k).toInt64 else j f k
theorem cmJ_0 {i : Nat → Nat → Int32} {j : Nat → Nat → Int64} {r : Nat → Nat → Int32} {cl h : Int32} {M : Nat} : cmJ i j r cl h M 0 = j := by funext f k; exact if_neg (by omega)
theorem cmJ_at {i : Nat → Nat → Int32} {j : Nat → Nat → Int64} {r : Nat → Nat → Int32} {cl h : Int32} {M n : Nat} : cmJ i j r cl h M n 0 n = j 0 n := if_neg (by omega)
theorem cmJ_s {i : Nat → Nat → Int32} {j : Nat → Nat → Int64} {r : Nat → Nat → Int32} {cl h : Int32} {M n : Nat} : up2 (cmJ i j r cl h M n) 0 n (j 0 n + h.toInt64 * (i 1 n).toInt64 * (exL i r cl M n).toInt64) = cmJ i j r cl h M (n + 1) := by
  funext f k
  by_cases e : f = 0 ∧ k = n
  · obtain ⟨rfl, rfl⟩ := e
    rw [up2_self]
    exact (if_pos ⟨rfl, Nat.lt_succ_self _⟩).symm
  · have e1 : up2 (cmJ i j r cl h M n) 0 n (j 0 n + h.toInt64 * (i 1 n).toInt64 * (exL i r cl M n).toInt64) f k = cmJ i j r cl h M n f k := if_neg e
    rw [e1]
    unfold cmJ
    by_cases g : f = 0 ∧ k < n
    · rw [if_pos g, if_pos ⟨g.1, by omega⟩]
    · rw [if_neg g, if_neg (fun z => g ⟨z.1, by have := z.2; by_cases q : k = n; exact absurd ⟨z.1, q⟩ e; omega⟩)]
/-- what the digs cost -/
noncomputable def wgJ (i : Nat → Nat → Int32) (j : Nat → Nat → Int64) (r : Nat → Nat → Int32) (cl : Int32) (M n0 n2 n : Nat) : Nat → Nat → Int64 := fun f k => if f = 3 ∧ k < n ∧ i 11 k = 2 then ldS i r cl M n0 - ldS i r (clM (fun k => i 11 k) (fun k => i 7 k) (some k) n2) M n0 else j f k
theorem wgJ_0 {i : Nat → Nat → Int32} {j : Nat → Nat → Int64} {r : Nat → Nat → Int32} {cl : Int32} {M n0 n2 : Nat} : wgJ i j r cl M n0 n2 0 = j := by funext f k; exact if_neg (by omega)
theorem wgJ_f {i : Nat → Nat → Int32} {j : Nat → Nat → Int64} {r : Nat → Nat → Int32} {cl : Int32} {M n0 n2 n : Nat} (h : ¬ i 11 n = 2) : wgJ i j r cl M n0 n2 (n + 1) = wgJ i j r cl M n0 n2 n := by
  funext f k
  unfold wgJ
  by_cases g : f = 3 ∧ k < n ∧ i 11 k = 2
  · rw [if_pos g, if_pos ⟨g.1, by omega, g.2.2⟩]
  · rw [if_neg g, if_neg (fun z => g ⟨z.1, by by_cases q : k = n; exact absurd (q ▸ z.2.2) h; omega, z.2.2⟩)]
theorem wgJ_s {i : Nat → Nat → Int32} {j : Nat → Nat → Int64} {r : Nat → Nat → Int32} {cl : Int32} {M n0 n2 n : Nat} (h : i 11 n = 2) : up2 (wgJ i j r cl M n0 n2 n) 3 n (ldS i r cl M n0 - ldS i r (clM (fun k => i 11 k) (fun k => i 7 k) (some n) n2) M n0) = wgJ i j r cl M n0 n2 (n + 1) := by
  funext f k
  by_cases e : f = 3 ∧ k = n
  · obtain ⟨rfl, rfl⟩ := e
    rw [up2_self]
    exact (if_pos ⟨rfl, Nat.lt_succ_self _, h⟩).symm
  · have e1 : ∀ v, up2 (wgJ i j r cl M n0 n2 n) 3 n v f k = wgJ i j r cl M n0 n2 n f k := fun v => if_neg e
    rw [e1]
    unfold wgJ
    by_cases g : f = 3 ∧ k < n ∧ i 11 k = 2
    · rw [if_pos g, if_pos ⟨g.1, by omega, g.2.2⟩]
    · rw [if_neg g, if_neg (fun z => g ⟨z.1, by have := z.2.1; by_cases q : k = n; exact absurd ⟨z.1, q⟩ e; omega, z.2.2⟩)]
abbrev rm_X5_minutesAnew : Room := { frames := 7, cells := 1, slots := 6, locals := 121 }
set_option maxHeartbeats 4000000 in
set_option maxRecDepth 100000 in
theorem m_X5_minutesAnew (l : Launch) (hl : l.stackTraces = false) (D : va_G) (cy : Nat → ClassId) (e0 : Nat) {S : wS} {c : Nat → Nat} {ad : Nat → Nat → Nat} {i : Nat → Nat → Int32} {j : Nat → Nat → Int64} {p : Nat → Nat → Option Nat} {r : Nat → Nat → Int32} (hI : CI e0 S c ad i j p r) {x : Int32} {M : Nat} (hm : i 15 0 = nI M) (hm2 : M ≤ 24) (hln : LNS r M) (hV : WV i r M) (hLI : LI i r (c 0)) : cMet l yX5_minutesAnew wsX5_minutesAnew rm_X5_minutesAnew D cy e0 [.ref (ad 5 0), .int (x)] S (fun v S' => ∃ k, k < c 0 ∧ x = nI k ∧ ∃ n, n ≤ 81 ∧ (n = 81 ∨ ¬ maH i (c 2) n < i 18 0) ∧ (∀ m, m < n → maH i (c 2) m < i 18 0) ∧ ∃ i' r', CI e0 S' c ad i' j p r' ∧ SC i r i' r' ∧ WV i' r' M ∧ v = some (.long (maS i r M k (c 2) n * (i 1 k).toInt64))) (fun X S' => X = "java/lang/IndexOutOfBoundsException" ∧ (∀ k, k < c 0 → x ≠ nI k) ∧ S' = S) 1 6 := by
  refine gMet.of (cc := cX5_minutesAnew) (maxL := 8) (ret := (some .long)) hl (by decide) rfl (Nat.le_of_ble_eq_true rfl) ?_
  intro C E h1 h2 h3 hr hnm hT hE
  subst h1; subst h2; subst h3
  have E : gOk C cX5_minutesAnew 8 wsX5_minutesAnew RX5 e0 rm_X5_minutesAnew := E
  show G C (cW (xy C) S) 0 0 0 [(0, .ref (ad 5 0)), (1, .int (x))] []
  have hc := hI.cnt
  have hr0 : ∃ r0, r0 = r := ⟨r, rfl⟩
  obtain ⟨r0, hr0⟩ := hr0
  have hi0 : ∃ i0, i0 = i := ⟨i, rfl⟩
  obtain ⟨i0, hi0⟩ := hi0
  have hS : SC i0 r0 i r := by rw [hi0, hr0]; exact SC.rf
  rw [← hr0, ← hi0] at hE hLI
  rw [← hi0] at hm
  rw [← hr0] at hln
  refine g_aload_n E dX5_minutesAnew_0 rfl 0 rfl ?_
  refine g_iload_n E dX5_minutesAnew_1 rfl 1 rfl ?_
  refine c_invV (n := 1) (rest := []) E (m_X5_lineOf (xl C) E.tr (xD C) (xy C) e0 hI) (hI.obj (kd := 5) (k := 0) (by omega) hI.c5).1 gX5_minutesAnew_X5_lineOf rfl rfl rfl (by decide +kernel) ⟨Nat.le_of_ble_eq_true rfl, Nat.le_of_ble_eq_true rfl⟩ (wF_PW (hI.obj (kd := 5) (k := 0) (by omega) hI.c5).2) rfl rfl rfl rfl (Nat.le_of_ble_eq_true rfl) dX5_minutesAnew_2 ⟨Nat.le_of_ble_eq_true rfl, Nat.le_of_ble_eq_true rfl⟩ (fun X9 S9 h9 => by obtain ⟨hX9, hx9, hS9⟩ := h9; rw [hX9, hS9]; exact gx_out E hE hT (Nat.le_of_ble_eq_true rfl) (Nat.le_of_ble_eq_true rfl) ⟨S, rfl, ⟨rfl, hx9, rfl⟩⟩) (fun v9 S9_2 h9 => ?_)
  obtain ⟨hS9, k_2, hk_2, hx_2, hv9⟩ := h9
  rw [hv9, hS9]
  subst hx_2
  show G C (cW (xy C) S) 1 6 5 [(0, .ref (ad 5 0)), (1, .int (nI k_2))] [.ref (ad 0 k_2)]
  refine g_astore_n (L' := [(2, .ref (ad 0 k_2)), (0, .ref (ad 5 0)), (1, .int (nI k_2))]) E dX5_minutesAnew_5 rfl (by decide) rfl ?_
  refine g_lconst (v := 0) E dX5_minutesAnew_6 (by decide) ?_
  refine g_lstore_n (L' := [(3, .long (0)), (2, .ref (ad 0 k_2)), (0, .ref (ad 5 0)), (1, .int (nI k_2))]) E dX5_minutesAnew_7 rfl (by decide) rfl ?_
  refine g_iconst (v := 0) E dX5_minutesAnew_8 (by decide) ?_
  refine g_istore (L' := [(5, .int (0)), (3, .long (0)), (2, .ref (ad 0 k_2)), (0, .ref (ad 5 0)), (1, .int (nI k_2))]) E dX5_minutesAnew_9 (by decide) rfl ?_
  refine g_iconst (v := 0) E dX5_minutesAnew_11 (by decide) ?_
  refine g_istore (L' := [(6, .int (0)), (5, .int (0)), (3, .long (0)), (2, .ref (ad 0 k_2)), (0, .ref (ad 5 0)), (1, .int (nI k_2))]) E dX5_minutesAnew_12 (by decide) rfl ?_
  refine g_locals [(0, .ref (ad 5 0)), (1, .int (nI k_2)), (2, .ref (ad 0 k_2)), (3, .long (0)), (5, .int (0)), (6, .int (0))] [4, 5, 3, 2, 1, 0] rfl ?_
  have loop_14 : ∀ (n_14 n : Nat) (S : wS) (i : Nat → Nat → Int32) (r : Nat → Nat → Int32), (CI e0 S c ad i j p r) → (SC i0 r0 i r) → (WV i r M) → (∀ m, m < n → maH i0 (c 2) m < i0 18 0) → n ≤ 81 → 81 < n_14 + n → G C (cW (xy C) S) 1 6 14 [(0, .ref (ad 5 0)), (1, .int (nI k_2)), (2, .ref (ad 0 k_2)), (3, .long ((maS i0 r0 M k_2 (c 2) n))), (5, .int ((maH i0 (c 2) n))), (6, .int (nI n))] [] := by
    intro n_14
    induction n_14 with
    | zero => intro n S i r hI hS hV hA g1 g2; exact absurd g2 (by omega)
    | succ n_14 ih_14 =>
      intro n S i r hI hS hV hA h1_14 h2_14
      have hc := hI.cnt
      refine g_iload E dX5_minutesAnew_14 5 rfl ?_
      refine g_bipush (v := 80) E dX5_minutesAnew_16 (by decide) ?_
      refine g_icmp_gt (tgt := 73) E dX5_minutesAnew_18 (by decide) (fun c_18 => ?_) (fun c_18 => ?_)
      · have e_n : n = 81 := by by_cases q : n ≤ 80; exact absurd c_18 (Int32.not_lt.mpr (nI_le q (by decide))); omega
        refine g_lload_n E dX5_minutesAnew_73 rfl 3 rfl ?_
        refine g_aload_n E dX5_minutesAnew_74 rfl 2 rfl ?_
        refine q_getN_Line_passengers E hI hk_2 (fun _ h => (List.mem_cons_of_mem _ (List.mem_append_left _ (List.mem_append_left _ (List.mem_append_left _ (List.mem_append_left _ (List.mem_append_left _ (List.mem_append_right _ h)))))))) tbF_RX5_120 dX5_minutesAnew_75 ?_
        rw [hS.1 1 (by decide) (by decide)]
        show G C (cW (xy C) S) 1 6 78 [(0, .ref (ad 5 0)), (1, .int (nI k_2)), (2, .ref (ad 0 k_2)), (3, .long ((maS i0 r0 M k_2 (c 2) n))), (5, .int ((maH i0 (c 2) n))), (6, .int (nI n))] [.int (i0 1 k_2), .long ((maS i0 r0 M k_2 (c 2) n))]
        refine g_i2l E dX5_minutesAnew_78 ?_
        refine g_lmul E dX5_minutesAnew_79 ?_
        exact g_lret E hE hr dX5_minutesAnew_80 (Nat.le_of_ble_eq_true rfl) (Nat.le_of_ble_eq_true rfl) ⟨S, rfl, k_2, hk_2, rfl, n, h1_14, Or.inl e_n, hA, i, r, hI, hS, hV, rfl⟩
      · have hn80 : n ≤ 80 := by by_cases q : n ≤ 80; exact q; exact absurd (nI_lt (a := 80) (b := n) (by omega) (by omega)) c_18
        refine g_iload E dX5_minutesAnew_21 4 rfl ?_
        refine g_aload_n E dX5_minutesAnew_23 rfl 0 rfl ?_
        refine q_get_PW_now E hI hI.c5 (fun _ h => (List.mem_cons_of_mem _ (List.mem_append_left _ (List.mem_append_left _ (List.mem_append_left _ (List.mem_append_left _ (List.mem_append_left _ (List.mem_append_left _ (List.mem_append_right _ h))))))))) (List.mem_cons_of_mem _ (List.mem_append_left _ (List.mem_append_left _ (List.mem_append_left _ (List.mem_append_left _ (List.mem_append_left _ (List.mem_append_left _ (List.mem_append_left _ (List.mem_append_left _ (List.mem_of_getElem? (i := 0) rfl)))))))))) dX5_minutesAnew_24 ?_
        rw [hS.1 18 (by decide) (by decide)]
        show G C (cW (xy C) S) 1 6 27 [(0, .ref (ad 5 0)), (1, .int (nI k_2)), (2, .ref (ad 0 k_2)), (3, .long ((maS i0 r0 M k_2 (c 2) n))), (5, .int ((maH i0 (c 2) n))), (6, .int (nI n))] [.int (i0 18 0), .int ((maH i0 (c 2) n))]
        refine g_icmp_ge (tgt := 73) E dX5_minutesAnew_27 (by decide) (fun c_27 => ?_) (fun c_27 => ?_)
        · refine g_lload_n E dX5_minutesAnew_73 rfl 3 rfl ?_
          refine g_aload_n E dX5_minutesAnew_74 rfl 2 rfl ?_
          refine q_getN_Line_passengers E hI hk_2 (fun _ h => (List.mem_cons_of_mem _ (List.mem_append_left _ (List.mem_append_left _ (List.mem_append_left _ (List.mem_append_left _ (List.mem_append_left _ (List.mem_append_right _ h)))))))) tbF_RX5_120 dX5_minutesAnew_75 ?_
          rw [hS.1 1 (by decide) (by decide)]
          show G C (cW (xy C) S) 1 6 78 [(0, .ref (ad 5 0)), (1, .int (nI k_2)), (2, .ref (ad 0 k_2)), (3, .long ((maS i0 r0 M k_2 (c 2) n))), (5, .int ((maH i0 (c 2) n))), (6, .int (nI n))] [.int (i0 1 k_2), .long ((maS i0 r0 M k_2 (c 2) n))]
          refine g_i2l E dX5_minutesAnew_78 ?_
          refine g_lmul E dX5_minutesAnew_79 ?_
          exact g_lret E hE hr dX5_minutesAnew_80 (Nat.le_of_ble_eq_true rfl) (Nat.le_of_ble_eq_true rfl) ⟨S, rfl, k_2, hk_2, rfl, n, h1_14, Or.inr (Int32.not_lt.mpr c_27), hA, i, r, hI, hS, hV, rfl⟩
        · refine g_aload_n E dX5_minutesAnew_30 rfl 0 rfl ?_
          refine g_iload E dX5_minutesAnew_31 4 rfl ?_
          refine c_invV (n := 1) (rest := []) E (m_X5_nextChange (xl C) E.tr (xD C) (xy C) e0 (x := (maH i0 (c 2) n)) hI) (hI.obj (kd := 5) (k := 0) (by omega) hI.c5).1 gX5_minutesAnew_X5_nextChange rfl rfl rfl (by decide +kernel) ⟨Nat.le_of_ble_eq_true rfl, Nat.le_of_ble_eq_true rfl⟩ (wF_PW (hI.obj (kd := 5) (k := 0) (by omega) hI.c5).2) rfl rfl rfl rfl (Nat.le_of_ble_eq_true rfl) dX5_minutesAnew_33 ⟨Nat.le_of_ble_eq_true rfl, Nat.le_of_ble_eq_true rfl⟩ (fun _ _ h9 => h9.elim) (fun v9 S9_33 h9 => ?_)
          obtain ⟨hv9, hS9⟩ := h9
          rw [hv9, hS9, hS.nxC]
          show G C (cW (xy C) S) 1 6 36 [(0, .ref (ad 5 0)), (1, .int (nI k_2)), (2, .ref (ad 0 k_2)), (3, .long ((maS i0 r0 M k_2 (c 2) n))), (5, .int ((maH i0 (c 2) n))), (6, .int (nI n))] [.int ((maH i0 (c 2) (n + 1)))]
          refine g_istore (L' := [(7, .int ((maH i0 (c 2) (n + 1)))), (0, .ref (ad 5 0)), (1, .int (nI k_2)), (2, .ref (ad 0 k_2)), (3, .long ((maS i0 r0 M k_2 (c 2) n))), (5, .int ((maH i0 (c 2) n))), (6, .int (nI n))]) E dX5_minutesAnew_36 (by decide) rfl ?_
          refine g_lload_n E dX5_minutesAnew_38 rfl 4 rfl ?_
          refine g_iload E dX5_minutesAnew_39 0 rfl ?_
          refine g_iload E dX5_minutesAnew_41 5 rfl ?_
          refine g_isub E dX5_minutesAnew_43 ?_
          refine g_i2l E dX5_minutesAnew_44 ?_
          refine g_aload_n E dX5_minutesAnew_45 rfl 3 rfl ?_
          refine g_aload_n E dX5_minutesAnew_46 rfl 1 rfl ?_
          refine q_get_PW_roads E hI (fun _ h => (List.mem_cons_of_mem _ (List.mem_append_left _ (List.mem_append_left _ (List.mem_append_left _ (List.mem_append_left _ (List.mem_append_left _ (List.mem_append_left _ (List.mem_append_right _ h))))))))) (List.mem_cons_of_mem _ (List.mem_append_left _ (List.mem_append_left _ (List.mem_append_left _ (List.mem_append_left _ (List.mem_append_left _ (List.mem_append_left _ (List.mem_append_left _ (List.mem_append_left _ (List.mem_of_getElem? (i := 1) rfl)))))))))) dX5_minutesAnew_47 ?_
          refine g_aload_n E dX5_minutesAnew_50 rfl 1 rfl ?_
          refine g_iload E dX5_minutesAnew_51 5 rfl ?_
          refine c_invV (n := 1) (rest := [.ref (ad 3 0), .ref (ad 0 k_2), .long ((((maH i0 (c 2) (n + 1)) - (maH i0 (c 2) n)) : Int32).toInt64), .long ((maS i0 r0 M k_2 (c 2) n))]) E (m_X5_closedDuring (xl C) E.tr (xD C) (xy C) e0 (x := (maH i0 (c 2) n)) hI) (hI.obj (kd := 5) (k := 0) (by omega) hI.c5).1 gX5_minutesAnew_X5_closedDuring rfl rfl rfl (by decide +kernel) ⟨Nat.le_of_ble_eq_true rfl, Nat.le_of_ble_eq_true rfl⟩ (wF_PW (hI.obj (kd := 5) (k := 0) (by omega) hI.c5).2) rfl rfl rfl rfl (Nat.le_of_ble_eq_true rfl) dX5_minutesAnew_53 ⟨Nat.le_of_ble_eq_true rfl, Nat.le_of_ble_eq_true rfl⟩ (fun _ _ h9 => h9.elim) (fun v9 S9_53 h9 => ?_)
          obtain ⟨hv9, hS9⟩ := h9
          have e_cd : some (Value.int (orM (fun k => i 13 k ≠ -1 ∧ i 13 k ≤ maH i0 (c 2) n ∧ (i 14 k = -1 ∨ maH i0 (c 2) n < i 14 k)) (i 7) (c 2))) = some (Value.int (cdM i0 (maH i0 (c 2) n) (c 2))) := congrArg (fun z => some (Value.int z)) (hS.cdM (x := maH i0 (c 2) n) (n2 := c 2))
          rw [hv9, hS9, e_cd]
          show G C (cW (xy C) S) 1 6 56 [(7, .int ((maH i0 (c 2) (n + 1)))), (0, .ref (ad 5 0)), (1, .int (nI k_2)), (2, .ref (ad 0 k_2)), (3, .long ((maS i0 r0 M k_2 (c 2) n))), (5, .int ((maH i0 (c 2) n))), (6, .int (nI n))] [.int ((cdM i0 (maH i0 (c 2) n) (c 2))), .ref (ad 3 0), .ref (ad 0 k_2), .long ((((maH i0 (c 2) (n + 1)) - (maH i0 (c 2) n)) : Int32).toInt64), .long ((maS i0 r0 M k_2 (c 2) n))]
          obtain ⟨n_56, hn2_56, hn_56, hst_56⟩ := hLI k_2 hk_2
          refine c_invV (n := 2) (rest := [.long ((((maH i0 (c 2) (n + 1)) - (maH i0 (c 2) n)) : Int32).toInt64), .long ((maS i0 r0 M k_2 (c 2) n))]) E (m_X0_extraMinutes (xl C) E.tr (xD C) (xy C) e0 (cl := (cdM i0 (maH i0 (c 2) n) (c 2))) hI hk_2 ((congrFun (hS.1 0 (by decide) (by decide)) _).trans hn_56) hn2_56 (hS.stp hst_56) ((congrFun (hS.1 15 (by decide) (by decide)) _).trans hm) hm2 (hS.lns hln) hV) (hI.obj (kd := 0) (k := k_2) (by omega) hk_2).1 gX5_minutesAnew_X0_extraMinutes rfl rfl rfl (by decide +kernel) ⟨Nat.le_of_ble_eq_true rfl, Nat.le_of_ble_eq_true rfl⟩ (wF_Line (hI.obj (kd := 0) (k := k_2) (by omega) hk_2).2) rfl rfl rfl rfl (Nat.le_of_ble_eq_true rfl) dX5_minutesAnew_56 ⟨Nat.le_of_ble_eq_true rfl, Nat.le_of_ble_eq_true rfl⟩ (fun _ _ h9 => h9.elim) (fun v9 S9_56 h9 => ?_)
          obtain ⟨i', r', hI, hS9, hV, hv9⟩ := h9
          rw [hv9, hS.exL hn_56 hn2_56]
          have hS := hS.tr hS9
          show G C (cW (xy C) S9_56) 1 6 59 [(7, .int ((maH i0 (c 2) (n + 1)))), (0, .ref (ad 5 0)), (1, .int (nI k_2)), (2, .ref (ad 0 k_2)), (3, .long ((maS i0 r0 M k_2 (c 2) n))), (5, .int ((maH i0 (c 2) n))), (6, .int (nI n))] [.int ((exL i0 r0 (cdM i0 (maH i0 (c 2) n) (c 2)) M k_2)), .long ((((maH i0 (c 2) (n + 1)) - (maH i0 (c 2) n)) : Int32).toInt64), .long ((maS i0 r0 M k_2 (c 2) n))]
          refine g_i2l E dX5_minutesAnew_59 ?_
          refine g_lmul E dX5_minutesAnew_60 ?_
          refine g_ladd E dX5_minutesAnew_61 ?_
          refine g_lstore_n (L' := [(3, .long (((maS i0 r0 M k_2 (c 2) n) + ((((maH i0 (c 2) (n + 1)) - (maH i0 (c 2) n)) : Int32).toInt64 * ((exL i0 r0 (cdM i0 (maH i0 (c 2) n) (c 2)) M k_2) : Int32).toInt64)))), (7, .int ((maH i0 (c 2) (n + 1)))), (0, .ref (ad 5 0)), (1, .int (nI k_2)), (2, .ref (ad 0 k_2)), (5, .int ((maH i0 (c 2) n))), (6, .int (nI n))]) E dX5_minutesAnew_62 rfl (by decide) rfl ?_
          refine g_iload E dX5_minutesAnew_63 1 rfl ?_
          refine g_istore (L' := [(5, .int ((maH i0 (c 2) (n + 1)))), (3, .long (((maS i0 r0 M k_2 (c 2) n) + ((((maH i0 (c 2) (n + 1)) - (maH i0 (c 2) n)) : Int32).toInt64 * ((exL i0 r0 (cdM i0 (maH i0 (c 2) n) (c 2)) M k_2) : Int32).toInt64)))), (7, .int ((maH i0 (c 2) (n + 1)))), (0, .ref (ad 5 0)), (1, .int (nI k_2)), (2, .ref (ad 0 k_2)), (6, .int (nI n))]) E dX5_minutesAnew_65 (by decide) rfl ?_
          refine g_iinc (v := nI (n + 1)) (L' := [(6, .int (nI (n + 1))), (5, .int ((maH i0 (c 2) (n + 1)))), (3, .long (((maS i0 r0 M k_2 (c 2) n) + ((((maH i0 (c 2) (n + 1)) - (maH i0 (c 2) n)) : Int32).toInt64 * ((exL i0 r0 (cdM i0 (maH i0 (c 2) n) (c 2)) M k_2) : Int32).toInt64)))), (7, .int ((maH i0 (c 2) (n + 1)))), (0, .ref (ad 5 0)), (1, .int (nI k_2)), (2, .ref (ad 0 k_2))]) E dX5_minutesAnew_67 6 rfl (nI_1 n) (by decide) rfl ?_
          refine g_goto (tgt := 14) E dX5_minutesAnew_70 (by decide) ?_
          refine g_locals [(0, .ref (ad 5 0)), (1, .int (nI k_2)), (2, .ref (ad 0 k_2)), (3, .long (((maS i0 r0 M k_2 (c 2) n) + ((((maH i0 (c 2) (n + 1)) - (maH i0 (c 2) n)) : Int32).toInt64 * ((exL i0 r0 (cdM i0 (maH i0 (c 2) n) (c 2)) M k_2) : Int32).toInt64)))), (5, .int ((maH i0 (c 2) (n + 1)))), (6, .int (nI (n + 1)))] [4, 5, 6, 2, 1, 0] rfl ?_
          refine g_L (L' := [(0, .ref (ad 5 0)), (1, .int (nI k_2)), (2, .ref (ad 0 k_2)), (3, .long ((maS i0 r0 M k_2 (c 2) (n + 1)))), (5, .int ((maH i0 (c 2) (n + 1)))), (6, .int (nI (n + 1)))]) (by rfl) (ih_14 (n + 1) (_) (_) (_) (hI) (hS) (hV) (fun m h => (Nat.lt_succ_iff_lt_or_eq.mp h).elim (hA m) (fun e => by rw [e]; exact Int32.not_le.mp c_27)) (by omega) (by omega))
  exact loop_14 (81 + 1) 0 (_) (_) (_) (hI) (hS) (hV) (fun m h => absurd h (Nat.not_lt_zero m)) (by omega) (by omega)
