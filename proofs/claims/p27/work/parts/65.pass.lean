theorem SC.exL0 {i r i' r' : Nat → Nat → Int32} {k M : Nat} {cl : Int32} (h : SC i r i' r') : Jvm.Pilot.CPermitWeaveLaw_law_r6545_7ae9f4.exL i' r' cl M k = Jvm.Pilot.CPermitWeaveLaw_law_r6545_7ae9f4.exL i r cl M k := by
  unfold Jvm.Pilot.CPermitWeaveLaw_law_r6545_7ae9f4.exL
  rw [h.1 0 (by decide) (by decide), h.exM]
theorem SC.ldS {i r i' r' : Nat → Nat → Int32} {M n : Nat} {cl : Int32} (h : SC i r i' r') : Jvm.Pilot.CPermitWeaveLaw_law_r6545_7ae9f4.ldS i' r' cl M n = Jvm.Pilot.CPermitWeaveLaw_law_r6545_7ae9f4.ldS i r cl M n := by
  induction n with
  | zero => rfl
  | succ n ih =>
    show Jvm.Pilot.CPermitWeaveLaw_law_r6545_7ae9f4.ldS i' r' cl M n + (i' 1 n).toInt64 * (Jvm.Pilot.CPermitWeaveLaw_law_r6545_7ae9f4.exL i' r' cl M n).toInt64 = Jvm.Pilot.CPermitWeaveLaw_law_r6545_7ae9f4.ldS i r cl M n + (i 1 n).toInt64 * (Jvm.Pilot.CPermitWeaveLaw_law_r6545_7ae9f4.exL i r cl M n).toInt64
    rw [ih, h.exL0, h.1 1 (by decide) (by decide)]
/-- a dig does harm in this hour -/
def hitP (i : Nat → Nat → Int32) (j : Nat → Nat → Int64) (p : Nat → Nat → Option Nat) (k : Nat) : Prop := i 11 k = 2 ∧ (i 18 0 < (p 2 k).elim (i 8 k) (i 3) ∨ (p 2 k).elim (i 9 k) (i 4) ≤ i 18 0) ∧ 0 < j 3 k
noncomputable def phJ (i : Nat → Nat → Int32) (j : Nat → Nat → Int64) (p : Nat → Nat → Option Nat) (n : Nat) : Nat → Nat → Int64 := fun f k => cIf (f = 2 ∧ k < n ∧ hitP i j p k) (j 2 k + j 3 k) (j f k)
theorem phJ_0 {i : Nat → Nat → Int32} {j : Nat → Nat → Int64} {p : Nat → Nat → Option Nat} : phJ i j p 0 = j := by funext f k; exact cIf_f (by omega)
theorem phJ_3 {i : Nat → Nat → Int32} {j : Nat → Nat → Int64} {p : Nat → Nat → Option Nat} {n k : Nat} : phJ i j p n 3 k = j 3 k := cIf_f (by omega)
theorem phJ_2 {i : Nat → Nat → Int32} {j : Nat → Nat → Int64} {p : Nat → Nat → Option Nat} {n : Nat} : phJ i j p n 2 n = j 2 n := cIf_f (by omega)
theorem phJ_f {i : Nat → Nat → Int32} {j : Nat → Nat → Int64} {p : Nat → Nat → Option Nat} {n : Nat} (h : ¬ hitP i j p n) : phJ i j p (n + 1) = phJ i j p n := by
  funext f k
  unfold phJ
  by_cases g : f = 2 ∧ k < n ∧ hitP i j p k
  · rw [cIf_t g, cIf_t ⟨g.1, by omega, g.2.2⟩]
  · rw [cIf_f g, cIf_f (fun z => g ⟨z.1, by by_cases q : k = n; exact absurd (q ▸ z.2.2) h; omega, z.2.2⟩)]
theorem phJ_s {i : Nat → Nat → Int32} {j : Nat → Nat → Int64} {p : Nat → Nat → Option Nat} {n : Nat} (h : hitP i j p n) : up2 (phJ i j p n) 2 n (j 2 n + j 3 n) = phJ i j p (n + 1) := by
  funext f k
  by_cases e : f = 2 ∧ k = n
  · obtain ⟨rfl, rfl⟩ := e
    rw [up2_self]
    exact (cIf_t ⟨rfl, Nat.lt_succ_self _, h⟩).symm
  · have e1 : ∀ v, up2 (phJ i j p n) 2 n v f k = phJ i j p n f k := fun v => if_neg e
    rw [e1]
    unfold phJ
    by_cases g : f = 2 ∧ k < n ∧ hitP i j p k
    · rw [cIf_t g, cIf_t ⟨g.1, by omega, g.2.2⟩]
    · rw [cIf_f g, cIf_f (fun z => g ⟨z.1, by have := z.2.1; by_cases q : k = n; exact absurd ⟨z.1, q⟩ e; omega, z.2.2⟩)]
noncomputable def phR (i : Nat → Nat → Int32) (j : Nat → Nat → Int64) (p : Nat → Nat → Option Nat) (r : Nat → Nat → Int32) : Nat → Nat → Nat → Int32
  | 0 => r
  | n + 1 => cIf (hitP i j p n) (up2 (phR i j p r n) 3 (tn (i 6 n)) (phR i j p r n 3 (tn (i 6 n)) + 1)) (phR i j p r n)
theorem phR_t {i : Nat → Nat → Int32} {j : Nat → Nat → Int64} {p : Nat → Nat → Option Nat} {r : Nat → Nat → Int32} {n : Nat} (h : hitP i j p n) : phR i j p r (n + 1) = up2 (phR i j p r n) 3 (tn (i 6 n)) (phR i j p r n 3 (tn (i 6 n)) + 1) := cIf_t h
theorem phR_f {i : Nat → Nat → Int32} {j : Nat → Nat → Int64} {p : Nat → Nat → Option Nat} {r : Nat → Nat → Int32} {n : Nat} (h : ¬ hitP i j p n) : phR i j p r (n + 1) = phR i j p r n := cIf_f h
/-- points forgiven, of the first n applicants -/
def fgR (r : Nat → Nat → Int32) (n : Nat) : Nat → Nat → Int32 := fun k a => if k = 3 ∧ a < n ∧ 0 < r 3 a then r 3 a - 1 else r k a
theorem fgR_0 {r : Nat → Nat → Int32} : fgR r 0 = r := by funext k a; exact if_neg (by omega)
theorem fgR_at {r : Nat → Nat → Int32} {n : Nat} : fgR r n 3 n = r 3 n := if_neg (by omega)
theorem fgR_f {r : Nat → Nat → Int32} {n : Nat} (h : ¬ 0 < r 3 n) : fgR r (n + 1) = fgR r n := by
  funext k a
  unfold fgR
  by_cases g : k = 3 ∧ a < n ∧ 0 < r 3 a
  · rw [if_pos g, if_pos ⟨g.1, by omega, g.2.2⟩]
  · rw [if_neg g, if_neg (fun z => g ⟨z.1, by by_cases q : a = n; exact absurd (q ▸ z.2.2) h; omega, z.2.2⟩)]
theorem fgR_s {r : Nat → Nat → Int32} {n : Nat} (h : 0 < r 3 n) : up2 (fgR r n) 3 n (r 3 n - 1) = fgR r (n + 1) := by
  funext k a
  by_cases e : k = 3 ∧ a = n
  · obtain ⟨rfl, rfl⟩ := e
    rw [up2_self]
    exact (if_pos ⟨rfl, Nat.lt_succ_self _, h⟩).symm
  · have e1 : ∀ v, up2 (fgR r n) 3 n v k a = fgR r n k a := fun v => if_neg e
    rw [e1]
    unfold fgR
    by_cases g : k = 3 ∧ a < n ∧ 0 < r 3 a
    · rw [if_pos g, if_pos ⟨g.1, by omega, g.2.2⟩]
    · rw [if_neg g, if_neg (fun z => g ⟨z.1, by have := z.2.1; by_cases q : a = n; exact absurd ⟨z.1, q⟩ e; omega, z.2.2⟩)]
/-- the points behind an hour, v the new hour -/
noncomputable def phE (i : Nat → Nat → Int32) (j : Nat → Nat → Int64) (p : Nat → Nat → Option Nat) (r : Nat → Nat → Int32) (v : Int32) (n : Nat) : Nat → Nat → Int32 := if v - v / 100 * 100 = 0 then fgR (phR i j p r n) 6 else phR i j p r n
abbrev rm_X5_countMinutes : Room := { frames := 4, cells := 0, slots := 0, locals := 96 }
set_option maxHeartbeats 4000000 in
set_option maxRecDepth 100000 in
theorem m_X5_countMinutes (l : Launch) (hl : l.stackTraces = false) (D : va_G) (cy : Nat → ClassId) (e0 : Nat) {S : wS} {c : Nat → Nat} {ad : Nat → Nat → Nat} {i : Nat → Nat → Int32} {j : Nat → Nat → Int64} {p : Nat → Nat → Option Nat} {r : Nat → Nat → Int32} (hI : CI e0 S c ad i j p r) {cl h : Int32} {M : Nat} (hm : i 15 0 = nI M) (hm2 : M ≤ 24) (hln : LNS r M) (hV : WV i r M) (hLI : LI i r (c 0)) : cMet l yX5_countMinutes wsX5_countMinutes rm_X5_countMinutes D cy e0 [.ref (ad 5 0), .int (cl), .int (h)] S (fun v S' => v = none ∧ ∃ i' r', CI e0 S' c ad i' (cmJ i j r cl h M (c 0)) p r' ∧ SC i r i' r' ∧ WV i' r' M) (fun _ _ => False) 0 0 := by
  refine gMet.of (cc := cX5_countMinutes) (maxL := 5) (ret := none) hl (by decide) rfl (Nat.le_of_ble_eq_true rfl) ?_
  intro C E h1 h2 h3 hr hnm hT hE
  subst h1; subst h2; subst h3
  have E : gOk C cX5_countMinutes 5 wsX5_countMinutes RX5 e0 rm_X5_countMinutes := E
  show G C (cW (xy C) S) 0 0 0 [(0, .ref (ad 5 0)), (1, .int (cl)), (2, .int (h))] []
  have hc := hI.cnt
  have hr0 : ∃ r0, r0 = r := ⟨r, rfl⟩
  obtain ⟨r0, hr0⟩ := hr0
  have hi0 : ∃ i0, i0 = i := ⟨i, rfl⟩
  obtain ⟨i0, hi0⟩ := hi0
  have hS : SC i0 r0 i r := by rw [hi0, hr0]; exact SC.rf
  rw [← hr0, ← hi0] at hE hLI
  rw [← hi0] at hm
  rw [← hr0] at hln
  refine g_iconst (v := 0) E dX5_countMinutes_0 (by decide) ?_
  refine g_istore_n (L' := [(3, .int (0)), (0, .ref (ad 5 0)), (1, .int (cl)), (2, .int (h))]) E dX5_countMinutes_1 rfl (by decide) rfl ?_
  refine g_locals [(0, .ref (ad 5 0)), (1, .int (cl)), (2, .int (h)), (3, .int (0))] [1, 2, 3, 0] rfl ?_
  have loop_2 : ∀ (n_2 k : Nat) (S : wS) (i : Nat → Nat → Int32) (r : Nat → Nat → Int32), (CI e0 S c ad i (cmJ i0 j r0 cl h M k) p r) → (SC i0 r0 i r) → (WV i r M) → k ≤ c 0 → c 0 < n_2 + k → G C (cW (xy C) S) 0 0 2 [(0, .ref (ad 5 0)), (1, .int (cl)), (2, .int (h)), (3, .int (nI k))] [] := by
    intro n_2
    induction n_2 with
    | zero => intro k S i r hI hS hV g1 g2; exact absurd g2 (by omega)
    | succ n_2 ih_2 =>
      intro k S i r hI hS hV h1_2 h2_2
      have hc := hI.cnt
      refine g_iload_n E dX5_countMinutes_2 rfl 3 rfl ?_
      refine g_aload_n E dX5_countMinutes_3 rfl 0 rfl ?_
      refine q_get_PW_lines E hI (fun _ h => (List.mem_cons_of_mem _ (List.mem_append_left _ (List.mem_append_left _ (List.mem_append_left _ (List.mem_append_left _ (List.mem_append_right _ h))))))) (List.mem_cons_of_mem _ (List.mem_append_left _ (List.mem_append_left _ (List.mem_append_left _ (List.mem_append_left _ (List.mem_append_left _ (List.mem_append_left _ (List.mem_of_getElem? (i := 0) rfl)))))))) dX5_countMinutes_4 ?_
      refine c_invV (n := 0) (rest := [.int (nI k)]) E (m_Jx4a65c_size_8abf5 (xl C) E.tr (xD C) (xy C) e0 hI.lists.1) (hI.obj (kd := 6) (k := 0) (by omega) (by have := hI.cnt; omega)).1 gX5_countMinutes_Jx4a65c_size_8abf5 rfl rfl rfl (by decide +kernel) ⟨Nat.le_of_ble_eq_true rfl, Nat.le_of_ble_eq_true rfl⟩ (wF_AL (hI.obj (kd := 6) (k := 0) (by omega) (by have := hI.cnt; omega)).2) rfl rfl rfl rfl (Nat.le_of_ble_eq_true rfl) dX5_countMinutes_7 ⟨Nat.le_of_ble_eq_true rfl, Nat.le_of_ble_eq_true rfl⟩ (fun _ _ h9 => h9.elim) (fun v9 S9_7 h9 => ?_)
      obtain ⟨hv9, hS9⟩ := h9
      rw [hv9, hS9]
      show G C (cW (xy C) S) 0 0 10 [(0, .ref (ad 5 0)), (1, .int (cl)), (2, .int (h)), (3, .int (nI k))] [.int (nI (c 0)), .int (nI k)]
      refine g_icmp_ge (tgt := 63) E dX5_countMinutes_10 (by decide) (fun c_10 => ?_) (fun c_10 => ?_)
      · have e_k : k = c 0 := Nat.le_antisymm h1_2 (nI_ge_nat (by omega) (by omega) c_10)
        exact g_vret E hE hr dX5_countMinutes_63 (Nat.le_of_ble_eq_true rfl) (Nat.le_of_ble_eq_true rfl) ⟨S, rfl, rfl, i, r, by rw [← e_k]; exact hI, hS, hV⟩
      · have hk_k : k < c 0 := nI_nge_nat (by omega) (by omega) c_10
        refine g_aload_n E dX5_countMinutes_13 rfl 0 rfl ?_
        refine q_get_PW_lines E hI (fun _ h => (List.mem_cons_of_mem _ (List.mem_append_left _ (List.mem_append_left _ (List.mem_append_left _ (List.mem_append_left _ (List.mem_append_right _ h))))))) (List.mem_cons_of_mem _ (List.mem_append_left _ (List.mem_append_left _ (List.mem_append_left _ (List.mem_append_left _ (List.mem_append_left _ (List.mem_append_left _ (List.mem_of_getElem? (i := 0) rfl)))))))) dX5_countMinutes_14 ?_
        refine g_iload_n E dX5_countMinutes_17 rfl 3 rfl ?_
        refine c_invV (n := 1) (rest := []) E (m_Jx4a65c_get_915e3 (xl C) E.tr (xD C) (xy C) e0 hI.lists.1 (k := k) hk_k) (hI.obj (kd := 6) (k := 0) (by omega) (by have := hI.cnt; omega)).1 gX5_countMinutes_Jx4a65c_get_915e3 rfl rfl rfl (by decide +kernel) ⟨Nat.le_of_ble_eq_true rfl, Nat.le_of_ble_eq_true rfl⟩ (wF_AL (hI.obj (kd := 6) (k := 0) (by omega) (by have := hI.cnt; omega)).2) rfl rfl rfl rfl (Nat.le_of_ble_eq_true rfl) dX5_countMinutes_18 ⟨Nat.le_of_ble_eq_true rfl, Nat.le_of_ble_eq_true rfl⟩ (fun _ _ h9 => h9.elim) (fun v9 S9_18 h9 => ?_)
        obtain ⟨hv9, hS9⟩ := h9
        rw [hv9, hS9]
        show G C (cW (xy C) S) 0 0 21 [(0, .ref (ad 5 0)), (1, .int (cl)), (2, .int (h)), (3, .int (nI k))] [.ref (ad 0 k)]
        refine p_cast E (List.mem_cons_of_mem _ (List.mem_append_left _ (List.mem_append_left _ (List.mem_append_left _ (List.mem_append_left _ (List.mem_append_left _ (List.mem_append_left _ (List.mem_of_getElem? (i := 1) rfl)))))))) (hI.obj (kd := 0) (k := k) (by omega) hk_k).1 (wF_Line (hI.obj (kd := 0) (k := k) (by omega) hk_k).2) rfl rfl dX5_countMinutes_21 ?_
        refine g_astore (L' := [(4, .ref (ad 0 k)), (0, .ref (ad 5 0)), (1, .int (cl)), (2, .int (h)), (3, .int (nI k))]) E dX5_countMinutes_24 (by decide) rfl ?_
        refine g_aload E dX5_countMinutes_26 0 rfl ?_
        refine g_dup E dX5_countMinutes_28 rfl ?_
        refine q_getN_Line_counted E hI hk_k (fun _ h => (List.mem_cons_of_mem _ (List.mem_append_left _ (List.mem_append_left _ (List.mem_append_left _ (List.mem_append_right _ h)))))) tbF_RX5_110 dX5_countMinutes_29 ?_
        have e_c : (cmJ i0 j r0 cl h M k) 0 k = j 0 k := cmJ_at
        rw [e_c]
        show G C (cW (xy C) S) 0 0 32 [(4, .ref (ad 0 k)), (0, .ref (ad 5 0)), (1, .int (cl)), (2, .int (h)), (3, .int (nI k))] [.long (j 0 k), .ref (ad 0 k)]
        refine g_iload_n E dX5_countMinutes_32 rfl 3 rfl ?_
        refine g_i2l E dX5_countMinutes_33 ?_
        refine g_aload E dX5_countMinutes_34 0 rfl ?_
        refine q_getN_Line_passengers E hI hk_k (fun _ h => (List.mem_cons_of_mem _ (List.mem_append_left _ (List.mem_append_left _ (List.mem_append_left _ (List.mem_append_right _ h)))))) tbF_RX5_120 dX5_countMinutes_36 ?_
        rw [show i 1 k = i0 1 k by rw [hS.1 1 (by decide) (by decide)]]
        show G C (cW (xy C) S) 0 0 39 [(4, .ref (ad 0 k)), (0, .ref (ad 5 0)), (1, .int (cl)), (2, .int (h)), (3, .int (nI k))] [.int (i0 1 k), .long ((h : Int32).toInt64), .long (j 0 k), .ref (ad 0 k)]
        refine g_i2l E dX5_countMinutes_39 ?_
        refine g_lmul E dX5_countMinutes_40 ?_
        refine g_aload E dX5_countMinutes_41 0 rfl ?_
        refine g_aload_n E dX5_countMinutes_43 rfl 1 rfl ?_
        refine q_get_PW_roads E hI (fun _ h => (List.mem_cons_of_mem _ (List.mem_append_left _ (List.mem_append_left _ (List.mem_append_left _ (List.mem_append_left _ (List.mem_append_right _ h))))))) (List.mem_cons_of_mem _ (List.mem_append_left _ (List.mem_append_left _ (List.mem_append_left _ (List.mem_append_left _ (List.mem_append_left _ (List.mem_append_left _ (List.mem_of_getElem? (i := 2) rfl)))))))) dX5_countMinutes_44 ?_
        refine g_iload_n E dX5_countMinutes_47 rfl 2 rfl ?_
        obtain ⟨n_48, hn2_48, hn_48, hst_48⟩ := hLI k hk_k
        refine c_invV (n := 2) (rest := [.long (((h : Int32).toInt64 * (i0 1 k : Int32).toInt64)), .long (j 0 k), .ref (ad 0 k)]) E (m_X0_extraMinutes (xl C) E.tr (xD C) (xy C) e0 (cl := cl) hI hk_k ((congrFun (hS.1 0 (by decide) (by decide)) _).trans hn_48) hn2_48 (hS.stp hst_48) ((congrFun (hS.1 15 (by decide) (by decide)) _).trans hm) hm2 (hS.lns hln) hV) (hI.obj (kd := 0) (k := k) (by omega) hk_k).1 gX5_countMinutes_X0_extraMinutes rfl rfl rfl (by decide +kernel) ⟨Nat.le_of_ble_eq_true rfl, Nat.le_of_ble_eq_true rfl⟩ (wF_Line (hI.obj (kd := 0) (k := k) (by omega) hk_k).2) rfl rfl rfl rfl (Nat.le_of_ble_eq_true rfl) dX5_countMinutes_48 ⟨Nat.le_of_ble_eq_true rfl, Nat.le_of_ble_eq_true rfl⟩ (fun _ _ h9 => h9.elim) (fun v9 S9_48 h9 => ?_)
        obtain ⟨i', r', hI, hS9, hV, hv9⟩ := h9
        rw [hv9, hS.exL hn_48 hn2_48]
        have hS := hS.tr hS9
        show G C (cW (xy C) S9_48) 0 0 51 [(4, .ref (ad 0 k)), (0, .ref (ad 5 0)), (1, .int (cl)), (2, .int (h)), (3, .int (nI k))] [.int ((exL i0 r0 cl M k)), .long (((h : Int32).toInt64 * (i0 1 k : Int32).toInt64)), .long (j 0 k), .ref (ad 0 k)]
        refine g_i2l E dX5_countMinutes_51 ?_
        refine g_lmul E dX5_countMinutes_52 ?_
        refine g_ladd E dX5_countMinutes_53 ?_
        refine q_putN_Line_counted E hI hk_k (fun _ h => (List.mem_cons_of_mem _ (List.mem_append_left _ (List.mem_append_left _ (List.mem_append_left _ (List.mem_append_right _ h)))))) tbF_RX5_110 dX5_countMinutes_54 (fun S hI => ?_)
        refine g_iinc (v := nI (k + 1)) (L' := [(3, .int (nI (k + 1))), (4, .ref (ad 0 k)), (0, .ref (ad 5 0)), (1, .int (cl)), (2, .int (h))]) E dX5_countMinutes_57 4 rfl (nI_1 k) (by decide) rfl ?_
        refine g_goto (tgt := 2) E dX5_countMinutes_60 (by decide) ?_
        refine g_locals [(0, .ref (ad 5 0)), (1, .int (cl)), (2, .int (h)), (3, .int (nI (k + 1)))] [2, 3, 4, 0] rfl ?_
        refine g_L (L' := [(0, .ref (ad 5 0)), (1, .int (cl)), (2, .int (h)), (3, .int (nI (k + 1)))]) (by rfl) (ih_2 (k + 1) (_) (_) (_) (by rw [← cmJ_s]; exact hI) (hS) (hV) (by omega) (by omega))
  exact loop_2 (c 0 + 1) 0 (_) (_) (_) (by rw [cmJ_0]; exact hI) (hS) (hV) (by omega) (by omega)
abbrev rm_X5_loadOf : Room := { frames := 4, cells := 0, slots := 0, locals := 96 }
set_option maxHeartbeats 4000000 in
set_option maxRecDepth 100000 in
theorem m_X5_loadOf (l : Launch) (hl : l.stackTraces = false) (D : va_G) (cy : Nat → ClassId) (e0 : Nat) {S : wS} {c : Nat → Nat} {ad : Nat → Nat → Nat} {i : Nat → Nat → Int32} {j : Nat → Nat → Int64} {p : Nat → Nat → Option Nat} {r : Nat → Nat → Int32} (hI : CI e0 S c ad i j p r) {cl : Int32} {M : Nat} (hm : i 15 0 = nI M) (hm2 : M ≤ 24) (hln : LNS r M) (hV : WV i r M) (hLI : LI i r (c 0)) : cMet l yX5_loadOf wsX5_loadOf rm_X5_loadOf D cy e0 [.ref (ad 5 0), .int (cl)] S (fun v S' => ∃ i' r', CI e0 S' c ad i' j p r' ∧ SC i r i' r' ∧ WV i' r' M ∧ v = some (.long (ldS i r cl M (c 0)))) (fun _ _ => False) 0 0 := by
  refine gMet.of (cc := cX5_loadOf) (maxL := 6) (ret := (some .long)) hl (by decide) rfl (Nat.le_of_ble_eq_true rfl) ?_
  intro C E h1 h2 h3 hr hnm hT hE
  subst h1; subst h2; subst h3
  have E : gOk C cX5_loadOf 6 wsX5_loadOf RX5 e0 rm_X5_loadOf := E
  show G C (cW (xy C) S) 0 0 0 [(0, .ref (ad 5 0)), (1, .int (cl))] []
  have hc := hI.cnt
  have hr0 : ∃ r0, r0 = r := ⟨r, rfl⟩
  obtain ⟨r0, hr0⟩ := hr0
  have hi0 : ∃ i0, i0 = i := ⟨i, rfl⟩
  obtain ⟨i0, hi0⟩ := hi0
  have hS : SC i0 r0 i r := by rw [hi0, hr0]; exact SC.rf
  rw [← hr0, ← hi0] at hE hLI
  rw [← hi0] at hm
  rw [← hr0] at hln
  refine g_lconst (v := 0) E dX5_loadOf_0 (by decide) ?_
  refine g_lstore_n (L' := [(2, .long (0)), (0, .ref (ad 5 0)), (1, .int (cl))]) E dX5_loadOf_1 rfl (by decide) rfl ?_
  refine g_iconst (v := 0) E dX5_loadOf_2 (by decide) ?_
  refine g_istore (L' := [(4, .int (0)), (2, .long (0)), (0, .ref (ad 5 0)), (1, .int (cl))]) E dX5_loadOf_3 (by decide) rfl ?_
  refine g_locals [(0, .ref (ad 5 0)), (1, .int (cl)), (2, .long (0)), (4, .int (0))] [2, 3, 1, 0] rfl ?_
  have loop_5 : ∀ (n_5 k : Nat) (S : wS) (i : Nat → Nat → Int32) (r : Nat → Nat → Int32), (CI e0 S c ad i j p r) → (SC i0 r0 i r) → (WV i r M) → k ≤ c 0 → c 0 < n_5 + k → G C (cW (xy C) S) 0 0 5 [(0, .ref (ad 5 0)), (1, .int (cl)), (2, .long ((ldS i0 r0 cl M k))), (4, .int (nI k))] [] := by
    intro n_5
    induction n_5 with
    | zero => intro k S i r hI hS hV g1 g2; exact absurd g2 (by omega)
    | succ n_5 ih_5 =>
      intro k S i r hI hS hV h1_5 h2_5
      have hc := hI.cnt
      refine g_iload E dX5_loadOf_5 3 rfl ?_
      refine g_aload_n E dX5_loadOf_7 rfl 0 rfl ?_
      refine q_get_PW_lines E hI (fun _ h => (List.mem_cons_of_mem _ (List.mem_append_left _ (List.mem_append_left _ (List.mem_append_left _ (List.mem_append_left _ (List.mem_append_right _ h))))))) (List.mem_cons_of_mem _ (List.mem_append_left _ (List.mem_append_left _ (List.mem_append_left _ (List.mem_append_left _ (List.mem_append_left _ (List.mem_append_left _ (List.mem_of_getElem? (i := 0) rfl)))))))) dX5_loadOf_8 ?_
      refine c_invV (n := 0) (rest := [.int (nI k)]) E (m_Jx4a65c_size_8abf5 (xl C) E.tr (xD C) (xy C) e0 hI.lists.1) (hI.obj (kd := 6) (k := 0) (by omega) (by have := hI.cnt; omega)).1 gX5_loadOf_Jx4a65c_size_8abf5 rfl rfl rfl (by decide +kernel) ⟨Nat.le_of_ble_eq_true rfl, Nat.le_of_ble_eq_true rfl⟩ (wF_AL (hI.obj (kd := 6) (k := 0) (by omega) (by have := hI.cnt; omega)).2) rfl rfl rfl rfl (Nat.le_of_ble_eq_true rfl) dX5_loadOf_11 ⟨Nat.le_of_ble_eq_true rfl, Nat.le_of_ble_eq_true rfl⟩ (fun _ _ h9 => h9.elim) (fun v9 S9_11 h9 => ?_)
      obtain ⟨hv9, hS9⟩ := h9
      rw [hv9, hS9]
      show G C (cW (xy C) S) 0 0 14 [(0, .ref (ad 5 0)), (1, .int (cl)), (2, .long ((ldS i0 r0 cl M k))), (4, .int (nI k))] [.int (nI (c 0)), .int (nI k)]
      refine g_icmp_ge (tgt := 58) E dX5_loadOf_14 (by decide) (fun c_14 => ?_) (fun c_14 => ?_)
      · have e_k : k = c 0 := Nat.le_antisymm h1_5 (nI_ge_nat (by omega) (by omega) c_14)
        refine g_lload_n E dX5_loadOf_58 rfl 2 rfl ?_
        exact g_lret E hE hr dX5_loadOf_59 (Nat.le_of_ble_eq_true rfl) (Nat.le_of_ble_eq_true rfl) ⟨S, rfl, i, r, hI, hS, hV, by rw [← e_k]⟩
      · have hk_k : k < c 0 := nI_nge_nat (by omega) (by omega) c_14
        refine g_aload_n E dX5_loadOf_17 rfl 0 rfl ?_
        refine q_get_PW_lines E hI (fun _ h => (List.mem_cons_of_mem _ (List.mem_append_left _ (List.mem_append_left _ (List.mem_append_left _ (List.mem_append_left _ (List.mem_append_right _ h))))))) (List.mem_cons_of_mem _ (List.mem_append_left _ (List.mem_append_left _ (List.mem_append_left _ (List.mem_append_left _ (List.mem_append_left _ (List.mem_append_left _ (List.mem_of_getElem? (i := 0) rfl)))))))) dX5_loadOf_18 ?_
        refine g_iload E dX5_loadOf_21 3 rfl ?_
        refine c_invV (n := 1) (rest := []) E (m_Jx4a65c_get_915e3 (xl C) E.tr (xD C) (xy C) e0 hI.lists.1 (k := k) hk_k) (hI.obj (kd := 6) (k := 0) (by omega) (by have := hI.cnt; omega)).1 gX5_loadOf_Jx4a65c_get_915e3 rfl rfl rfl (by decide +kernel) ⟨Nat.le_of_ble_eq_true rfl, Nat.le_of_ble_eq_true rfl⟩ (wF_AL (hI.obj (kd := 6) (k := 0) (by omega) (by have := hI.cnt; omega)).2) rfl rfl rfl rfl (Nat.le_of_ble_eq_true rfl) dX5_loadOf_23 ⟨Nat.le_of_ble_eq_true rfl, Nat.le_of_ble_eq_true rfl⟩ (fun _ _ h9 => h9.elim) (fun v9 S9_23 h9 => ?_)
        obtain ⟨hv9, hS9⟩ := h9
        rw [hv9, hS9]
        show G C (cW (xy C) S) 0 0 26 [(0, .ref (ad 5 0)), (1, .int (cl)), (2, .long ((ldS i0 r0 cl M k))), (4, .int (nI k))] [.ref (ad 0 k)]
        refine p_cast E (List.mem_cons_of_mem _ (List.mem_append_left _ (List.mem_append_left _ (List.mem_append_left _ (List.mem_append_left _ (List.mem_append_left _ (List.mem_append_left _ (List.mem_of_getElem? (i := 1) rfl)))))))) (hI.obj (kd := 0) (k := k) (by omega) hk_k).1 (wF_Line (hI.obj (kd := 0) (k := k) (by omega) hk_k).2) rfl rfl dX5_loadOf_26 ?_
        refine g_astore (L' := [(5, .ref (ad 0 k)), (0, .ref (ad 5 0)), (1, .int (cl)), (2, .long ((ldS i0 r0 cl M k))), (4, .int (nI k))]) E dX5_loadOf_29 (by decide) rfl ?_
        refine g_lload_n E dX5_loadOf_31 rfl 3 rfl ?_
        refine g_aload E dX5_loadOf_32 0 rfl ?_
        refine q_getN_Line_passengers E hI hk_k (fun _ h => (List.mem_cons_of_mem _ (List.mem_append_left _ (List.mem_append_left _ (List.mem_append_left _ (List.mem_append_right _ h)))))) tbF_RX5_120 dX5_loadOf_34 ?_
        rw [show i 1 k = i0 1 k by rw [hS.1 1 (by decide) (by decide)]]
        show G C (cW (xy C) S) 0 0 37 [(5, .ref (ad 0 k)), (0, .ref (ad 5 0)), (1, .int (cl)), (2, .long ((ldS i0 r0 cl M k))), (4, .int (nI k))] [.int (i0 1 k), .long ((ldS i0 r0 cl M k))]
        refine g_i2l E dX5_loadOf_37 ?_
        refine g_aload E dX5_loadOf_38 0 rfl ?_
        refine g_aload_n E dX5_loadOf_40 rfl 1 rfl ?_
        refine q_get_PW_roads E hI (fun _ h => (List.mem_cons_of_mem _ (List.mem_append_left _ (List.mem_append_left _ (List.mem_append_left _ (List.mem_append_left _ (List.mem_append_right _ h))))))) (List.mem_cons_of_mem _ (List.mem_append_left _ (List.mem_append_left _ (List.mem_append_left _ (List.mem_append_left _ (List.mem_append_left _ (List.mem_append_left _ (List.mem_of_getElem? (i := 2) rfl)))))))) dX5_loadOf_41 ?_
        refine g_iload_n E dX5_loadOf_44 rfl 2 rfl ?_
        obtain ⟨n_45, hn2_45, hn_45, hst_45⟩ := hLI k hk_k
        refine c_invV (n := 2) (rest := [.long ((i0 1 k : Int32).toInt64), .long ((ldS i0 r0 cl M k))]) E (m_X0_extraMinutes (xl C) E.tr (xD C) (xy C) e0 (cl := cl) hI hk_k ((congrFun (hS.1 0 (by decide) (by decide)) _).trans hn_45) hn2_45 (hS.stp hst_45) ((congrFun (hS.1 15 (by decide) (by decide)) _).trans hm) hm2 (hS.lns hln) hV) (hI.obj (kd := 0) (k := k) (by omega) hk_k).1 gX5_loadOf_X0_extraMinutes rfl rfl rfl (by decide +kernel) ⟨Nat.le_of_ble_eq_true rfl, Nat.le_of_ble_eq_true rfl⟩ (wF_Line (hI.obj (kd := 0) (k := k) (by omega) hk_k).2) rfl rfl rfl rfl (Nat.le_of_ble_eq_true rfl) dX5_loadOf_45 ⟨Nat.le_of_ble_eq_true rfl, Nat.le_of_ble_eq_true rfl⟩ (fun _ _ h9 => h9.elim) (fun v9 S9_45 h9 => ?_)
        obtain ⟨i', r', hI, hS9, hV, hv9⟩ := h9
        rw [hv9, hS.exL hn_45 hn2_45]
        have hS := hS.tr hS9
        show G C (cW (xy C) S9_45) 0 0 48 [(5, .ref (ad 0 k)), (0, .ref (ad 5 0)), (1, .int (cl)), (2, .long ((ldS i0 r0 cl M k))), (4, .int (nI k))] [.int ((exL i0 r0 cl M k)), .long ((i0 1 k : Int32).toInt64), .long ((ldS i0 r0 cl M k))]
        refine g_i2l E dX5_loadOf_48 ?_
        refine g_lmul E dX5_loadOf_49 ?_
        refine g_ladd E dX5_loadOf_50 ?_
        refine g_lstore_n (L' := [(2, .long (((ldS i0 r0 cl M k) + ((i0 1 k : Int32).toInt64 * ((exL i0 r0 cl M k) : Int32).toInt64)))), (5, .ref (ad 0 k)), (0, .ref (ad 5 0)), (1, .int (cl)), (4, .int (nI k))]) E dX5_loadOf_51 rfl (by decide) rfl ?_
        refine g_iinc (v := nI (k + 1)) (L' := [(4, .int (nI (k + 1))), (2, .long (((ldS i0 r0 cl M k) + ((i0 1 k : Int32).toInt64 * ((exL i0 r0 cl M k) : Int32).toInt64)))), (5, .ref (ad 0 k)), (0, .ref (ad 5 0)), (1, .int (cl))]) E dX5_loadOf_52 4 rfl (nI_1 k) (by decide) rfl ?_
        refine g_goto (tgt := 5) E dX5_loadOf_55 (by decide) ?_
        refine g_locals [(0, .ref (ad 5 0)), (1, .int (cl)), (2, .long (((ldS i0 r0 cl M k) + ((i0 1 k : Int32).toInt64 * ((exL i0 r0 cl M k) : Int32).toInt64)))), (4, .int (nI (k + 1)))] [3, 4, 1, 0] rfl ?_
        refine g_L (L' := [(0, .ref (ad 5 0)), (1, .int (cl)), (2, .long ((ldS i0 r0 cl M (k + 1)))), (4, .int (nI (k + 1)))]) (by rfl) (ih_5 (k + 1) (_) (_) (_) (hI) (hS) (hV) (by omega) (by omega))
  exact loop_5 (c 0 + 1) 0 (_) (_) (_) (hI) (hS) (hV) (by omega) (by omega)
abbrev rm_X5_weighDigs : Room := { frames := 5, cells := 0, slots := 0, locals := 121 }
set_option maxHeartbeats 4000000 in
set_option maxRecDepth 100000 in
theorem m_X5_weighDigs (l : Launch) (hl : l.stackTraces = false) (D : va_G) (cy : Nat → ClassId) (e0 : Nat) {S : wS} {c : Nat → Nat} {ad : Nat → Nat → Nat} {i : Nat → Nat → Int32} {j : Nat → Nat → Int64} {p : Nat → Nat → Option Nat} {r : Nat → Nat → Int32} (hI : CI e0 S c ad i j p r) {cl : Int32} {M : Nat} (hm : i 15 0 = nI M) (hm2 : M ≤ 24) (hln : LNS r M) (hV : WV i r M) (hLI : LI i r (c 0)) : cMet l yX5_weighDigs wsX5_weighDigs rm_X5_weighDigs D cy e0 [.ref (ad 5 0), .int (cl)] S (fun v S' => v = none ∧ ∃ i' r', CI e0 S' c ad i' (wgJ i j r cl M (c 0) (c 2) (c 2)) p r' ∧ SC i r i' r' ∧ WV i' r' M) (fun _ _ => False) 0 0 := by
  refine gMet.of (cc := cX5_weighDigs) (maxL := 6) (ret := none) hl (by decide) rfl (Nat.le_of_ble_eq_true rfl) ?_
  intro C E h1 h2 h3 hr hnm hT hE
  subst h1; subst h2; subst h3
  have E : gOk C cX5_weighDigs 6 wsX5_weighDigs RX5 e0 rm_X5_weighDigs := E
  show G C (cW (xy C) S) 0 0 0 [(0, .ref (ad 5 0)), (1, .int (cl))] []
  have hc := hI.cnt
  have hr0 : ∃ r0, r0 = r := ⟨r, rfl⟩
  obtain ⟨r0, hr0⟩ := hr0
  have hi0 : ∃ i0, i0 = i := ⟨i, rfl⟩
  obtain ⟨i0, hi0⟩ := hi0
  have hS : SC i0 r0 i r := by rw [hi0, hr0]; exact SC.rf
  rw [← hr0, ← hi0] at hE hLI
  rw [← hi0] at hm
  rw [← hr0] at hln
  refine g_aload_n E dX5_weighDigs_0 rfl 0 rfl ?_
  refine g_iload_n E dX5_weighDigs_1 rfl 1 rfl ?_
  refine c_invV (n := 1) (rest := []) E (m_X5_loadOf (xl C) E.tr (xD C) (xy C) e0 (cl := cl) hI ((congrFun (hS.1 15 (by decide) (by decide)) _).trans hm) hm2 (hS.lns hln) hV (hS.li hLI)) (hI.obj (kd := 5) (k := 0) (by omega) hI.c5).1 gX5_weighDigs_X5_loadOf rfl rfl rfl (by decide +kernel) ⟨Nat.le_of_ble_eq_true rfl, Nat.le_of_ble_eq_true rfl⟩ (wF_PW (hI.obj (kd := 5) (k := 0) (by omega) hI.c5).2) rfl rfl rfl rfl (Nat.le_of_ble_eq_true rfl) dX5_weighDigs_2 ⟨Nat.le_of_ble_eq_true rfl, Nat.le_of_ble_eq_true rfl⟩ (fun _ _ h9 => h9.elim) (fun v9 S9_2 h9 => ?_)
  obtain ⟨i', r', hI, hS9, hV, hv9⟩ := h9
  rw [hv9, hS.ldS]
  have hS := hS.tr hS9
  show G C (cW (xy C) S9_2) 0 0 5 [(0, .ref (ad 5 0)), (1, .int (cl))] [.long ((ldS i0 r0 cl M (c 0)))]
  refine g_lstore_n (L' := [(2, .long ((ldS i0 r0 cl M (c 0)))), (0, .ref (ad 5 0)), (1, .int (cl))]) E dX5_weighDigs_5 rfl (by decide) rfl ?_
  refine g_iconst (v := 0) E dX5_weighDigs_6 (by decide) ?_
  refine g_istore (L' := [(4, .int (0)), (2, .long ((ldS i0 r0 cl M (c 0)))), (0, .ref (ad 5 0)), (1, .int (cl))]) E dX5_weighDigs_7 (by decide) rfl ?_
  refine g_locals [(0, .ref (ad 5 0)), (1, .int (cl)), (2, .long ((ldS i0 r0 cl M (c 0)))), (4, .int (0))] [2, 3, 1, 0] rfl ?_
  have loop_9 : ∀ (n_9 k : Nat) (S : wS) (i : Nat → Nat → Int32) (r : Nat → Nat → Int32), (CI e0 S c ad i (wgJ i0 j r0 cl M (c 0) (c 2) k) p r) → (SC i0 r0 i r) → (WV i r M) → k ≤ c 2 → c 2 < n_9 + k → G C (cW (xy C) S) 0 0 9 [(0, .ref (ad 5 0)), (1, .int (cl)), (2, .long ((ldS i0 r0 cl M (c 0)))), (4, .int (nI k))] [] := by
    intro n_9
    induction n_9 with
    | zero => intro k S i r hI hS hV g1 g2; exact absurd g2 (by omega)
    | succ n_9 ih_9 =>
      intro k S i r hI hS hV h1_9 h2_9
      have hc := hI.cnt
      refine g_iload E dX5_weighDigs_9 3 rfl ?_
      refine g_aload_n E dX5_weighDigs_11 rfl 0 rfl ?_
      refine q_get_PW_permits E hI (fun _ h => (List.mem_cons_of_mem _ (List.mem_append_left _ (List.mem_append_left _ (List.mem_append_left _ (List.mem_append_left _ (List.mem_append_left _ (List.mem_append_right _ h)))))))) (List.mem_cons_of_mem _ (List.mem_append_left _ (List.mem_append_left _ (List.mem_append_left _ (List.mem_append_left _ (List.mem_append_left _ (List.mem_append_left _ (List.mem_append_left _ (List.mem_of_getElem? (i := 0) rfl))))))))) dX5_weighDigs_12 ?_
      refine c_invV (n := 0) (rest := [.int (nI k)]) E (m_Jx4a65c_size_8abf5 (xl C) E.tr (xD C) (xy C) e0 hI.lists.2.1) (hI.obj (kd := 6) (k := 1) (by omega) (by have := hI.cnt; omega)).1 gX5_weighDigs_Jx4a65c_size_8abf5 rfl rfl rfl (by decide +kernel) ⟨Nat.le_of_ble_eq_true rfl, Nat.le_of_ble_eq_true rfl⟩ (wF_AL (hI.obj (kd := 6) (k := 1) (by omega) (by have := hI.cnt; omega)).2) rfl rfl rfl rfl (Nat.le_of_ble_eq_true rfl) dX5_weighDigs_15 ⟨Nat.le_of_ble_eq_true rfl, Nat.le_of_ble_eq_true rfl⟩ (fun _ _ h9 => h9.elim) (fun v9 S9_15 h9 => ?_)
      obtain ⟨hv9, hS9⟩ := h9
      rw [hv9, hS9]
      show G C (cW (xy C) S) 0 0 18 [(0, .ref (ad 5 0)), (1, .int (cl)), (2, .long ((ldS i0 r0 cl M (c 0)))), (4, .int (nI k))] [.int (nI (c 2)), .int (nI k)]
      refine g_icmp_ge (tgt := 67) E dX5_weighDigs_18 (by decide) (fun c_18 => ?_) (fun c_18 => ?_)
      · have e_k : k = c 2 := Nat.le_antisymm h1_9 (nI_ge_nat (by omega) (by omega) c_18)
        exact g_vret E hE hr dX5_weighDigs_67 (Nat.le_of_ble_eq_true rfl) (Nat.le_of_ble_eq_true rfl) ⟨S, rfl, rfl, i, r, by rw [e_k] at hI; exact hI, hS, hV⟩
      · have hk_k : k < c 2 := nI_nge_nat (by omega) (by omega) c_18
        refine g_aload_n E dX5_weighDigs_21 rfl 0 rfl ?_
        refine q_get_PW_permits E hI (fun _ h => (List.mem_cons_of_mem _ (List.mem_append_left _ (List.mem_append_left _ (List.mem_append_left _ (List.mem_append_left _ (List.mem_append_left _ (List.mem_append_right _ h)))))))) (List.mem_cons_of_mem _ (List.mem_append_left _ (List.mem_append_left _ (List.mem_append_left _ (List.mem_append_left _ (List.mem_append_left _ (List.mem_append_left _ (List.mem_append_left _ (List.mem_of_getElem? (i := 0) rfl))))))))) dX5_weighDigs_22 ?_
        refine g_iload E dX5_weighDigs_25 3 rfl ?_
        refine c_invV (n := 1) (rest := []) E (m_Jx4a65c_get_915e3 (xl C) E.tr (xD C) (xy C) e0 hI.lists.2.1 (k := k) hk_k) (hI.obj (kd := 6) (k := 1) (by omega) (by have := hI.cnt; omega)).1 gX5_weighDigs_Jx4a65c_get_915e3 rfl rfl rfl (by decide +kernel) ⟨Nat.le_of_ble_eq_true rfl, Nat.le_of_ble_eq_true rfl⟩ (wF_AL (hI.obj (kd := 6) (k := 1) (by omega) (by have := hI.cnt; omega)).2) rfl rfl rfl rfl (Nat.le_of_ble_eq_true rfl) dX5_weighDigs_27 ⟨Nat.le_of_ble_eq_true rfl, Nat.le_of_ble_eq_true rfl⟩ (fun _ _ h9 => h9.elim) (fun v9 S9_27 h9 => ?_)
        obtain ⟨hv9, hS9⟩ := h9
        rw [hv9, hS9]
        show G C (cW (xy C) S) 0 0 30 [(0, .ref (ad 5 0)), (1, .int (cl)), (2, .long ((ldS i0 r0 cl M (c 0)))), (4, .int (nI k))] [.ref (ad 2 k)]
        refine p_cast E (List.mem_cons_of_mem _ (List.mem_append_left _ (List.mem_append_left _ (List.mem_append_left _ (List.mem_append_left _ (List.mem_append_left _ (List.mem_append_left _ (List.mem_append_left _ (List.mem_of_getElem? (i := 1) rfl))))))))) (hI.obj (kd := 2) (k := k) (by omega) hk_k).1 (wF_Permit (hI.obj (kd := 2) (k := k) (by omega) hk_k).2) rfl rfl dX5_weighDigs_30 ?_
        refine g_astore (L' := [(5, .ref (ad 2 k)), (0, .ref (ad 5 0)), (1, .int (cl)), (2, .long ((ldS i0 r0 cl M (c 0)))), (4, .int (nI k))]) E dX5_weighDigs_33 (by decide) rfl ?_
        refine g_aload E dX5_weighDigs_35 0 rfl ?_
        refine q_getN_Permit_state E hI hk_k (fun _ h => (List.mem_cons_of_mem _ (List.mem_append_left _ (List.mem_append_left _ (List.mem_append_left _ (List.mem_append_left _ (List.mem_append_right _ h))))))) tbF_RX5_146 dX5_weighDigs_37 ?_
        rw [show i 11 k = i0 11 k by rw [hS.1 11 (by decide) (by decide)]]
        show G C (cW (xy C) S) 0 0 40 [(5, .ref (ad 2 k)), (0, .ref (ad 5 0)), (1, .int (cl)), (2, .long ((ldS i0 r0 cl M (c 0)))), (4, .int (nI k))] [.int (i0 11 k)]
        refine g_iconst (v := 2) E dX5_weighDigs_40 (by decide) ?_
        refine g_icmp_ne (tgt := 61) E dX5_weighDigs_41 (by decide) (fun c_41 => ?_) (fun c_41 => ?_)
        · refine g_iinc (v := nI (k + 1)) (L' := [(4, .int (nI (k + 1))), (5, .ref (ad 2 k)), (0, .ref (ad 5 0)), (1, .int (cl)), (2, .long ((ldS i0 r0 cl M (c 0))))]) E dX5_weighDigs_61 4 rfl (nI_1 k) (by decide) rfl ?_
          refine g_goto (tgt := 9) E dX5_weighDigs_64 (by decide) ?_
          refine g_locals [(0, .ref (ad 5 0)), (1, .int (cl)), (2, .long ((ldS i0 r0 cl M (c 0)))), (4, .int (nI (k + 1)))] [2, 3, 4, 0] rfl ?_
          refine g_L (L' := [(0, .ref (ad 5 0)), (1, .int (cl)), (2, .long ((ldS i0 r0 cl M (c 0)))), (4, .int (nI (k + 1)))]) (by rfl) (ih_9 (k + 1) (_) (_) (_) (by rw [wgJ_f c_41]; exact hI) (hS) (hV) (by omega) (by omega))
        · refine g_aload E dX5_weighDigs_44 0 rfl ?_
          refine g_lload_n E dX5_weighDigs_46 rfl 3 rfl ?_
          refine g_aload_n E dX5_weighDigs_47 rfl 1 rfl ?_
          refine g_aload_n E dX5_weighDigs_48 rfl 1 rfl ?_
          refine g_aload E dX5_weighDigs_49 0 rfl ?_
          refine c_invV (n := 1) (rest := [.ref (ad 5 0), .long ((ldS i0 r0 cl M (c 0))), .ref (ad 2 k)]) E (m_X5_closedBut (xl C) E.tr (xD C) (xy C) e0 hI hk_k) (hI.obj (kd := 5) (k := 0) (by omega) hI.c5).1 gX5_weighDigs_X5_closedBut rfl rfl rfl (by decide +kernel) ⟨Nat.le_of_ble_eq_true rfl, Nat.le_of_ble_eq_true rfl⟩ (wF_PW (hI.obj (kd := 5) (k := 0) (by omega) hI.c5).2) rfl rfl rfl rfl (Nat.le_of_ble_eq_true rfl) dX5_weighDigs_51 ⟨Nat.le_of_ble_eq_true rfl, Nat.le_of_ble_eq_true rfl⟩ (fun _ _ h9 => h9.elim) (fun v9 S9_51 h9 => ?_)
          obtain ⟨hv9, hS9⟩ := h9
          rw [hv9, hS9, hS.clM]
          show G C (cW (xy C) S) 0 0 54 [(5, .ref (ad 2 k)), (0, .ref (ad 5 0)), (1, .int (cl)), (2, .long ((ldS i0 r0 cl M (c 0)))), (4, .int (nI k))] [.int ((clM (fun k => i0 11 k) (fun k => i0 7 k) (some k) (c 2))), .ref (ad 5 0), .long ((ldS i0 r0 cl M (c 0))), .ref (ad 2 k)]
          refine c_invV (n := 1) (rest := [.long ((ldS i0 r0 cl M (c 0))), .ref (ad 2 k)]) E (m_X5_loadOf (xl C) E.tr (xD C) (xy C) e0 (cl := (clM (fun k => i0 11 k) (fun k => i0 7 k) (some k) (c 2))) hI ((congrFun (hS.1 15 (by decide) (by decide)) _).trans hm) hm2 (hS.lns hln) hV (hS.li hLI)) (hI.obj (kd := 5) (k := 0) (by omega) hI.c5).1 gX5_weighDigs_X5_loadOf rfl rfl rfl (by decide +kernel) ⟨Nat.le_of_ble_eq_true rfl, Nat.le_of_ble_eq_true rfl⟩ (wF_PW (hI.obj (kd := 5) (k := 0) (by omega) hI.c5).2) rfl rfl rfl rfl (Nat.le_of_ble_eq_true rfl) dX5_weighDigs_54 ⟨Nat.le_of_ble_eq_true rfl, Nat.le_of_ble_eq_true rfl⟩ (fun _ _ h9 => h9.elim) (fun v9 S9_54 h9 => ?_)
          obtain ⟨i', r', hI, hS9, hV, hv9⟩ := h9
          rw [hv9, hS.ldS]
          have hS := hS.tr hS9
          show G C (cW (xy C) S9_54) 0 0 57 [(5, .ref (ad 2 k)), (0, .ref (ad 5 0)), (1, .int (cl)), (2, .long ((ldS i0 r0 cl M (c 0)))), (4, .int (nI k))] [.long ((ldS i0 r0 (clM (fun k => i0 11 k) (fun k => i0 7 k) (some k) (c 2)) M (c 0))), .long ((ldS i0 r0 cl M (c 0))), .ref (ad 2 k)]
          refine g_lsub E dX5_weighDigs_57 ?_
          refine q_putN_Permit_hourlyCost E hI hk_k (fun _ h => (List.mem_cons_of_mem _ (List.mem_append_left _ (List.mem_append_left _ (List.mem_append_left _ (List.mem_append_left _ (List.mem_append_right _ h))))))) tbF_RX5_309 dX5_weighDigs_58 (fun S hI => ?_)
          refine g_iinc (v := nI (k + 1)) (L' := [(4, .int (nI (k + 1))), (5, .ref (ad 2 k)), (0, .ref (ad 5 0)), (1, .int (cl)), (2, .long ((ldS i0 r0 cl M (c 0))))]) E dX5_weighDigs_61 4 rfl (nI_1 k) (by decide) rfl ?_
          refine g_goto (tgt := 9) E dX5_weighDigs_64 (by decide) ?_
          refine g_locals [(0, .ref (ad 5 0)), (1, .int (cl)), (2, .long ((ldS i0 r0 cl M (c 0)))), (4, .int (nI (k + 1)))] [2, 3, 4, 0] rfl ?_
          refine g_L (L' := [(0, .ref (ad 5 0)), (1, .int (cl)), (2, .long ((ldS i0 r0 cl M (c 0)))), (4, .int (nI (k + 1)))]) (by rfl) (ih_9 (k + 1) (_) (_) (_) (by rw [← wgJ_s c_41]; exact hI) (hS) (hV) (by omega) (by omega))
  exact loop_9 (c 2 + 1) 0 (_) (_) (_) (by rw [wgJ_0]; exact hI) (hS) (hV) (by omega) (by omega)
abbrev rm_X5_forgive : Room := { frames := 0, cells := 0, slots := 0, locals := 0 }
set_option maxHeartbeats 4000000 in
set_option maxRecDepth 100000 in
theorem m_X5_forgive (l : Launch) (hl : l.stackTraces = false) (D : va_G) (cy : Nat → ClassId) (e0 : Nat) {S : wS} {c : Nat → Nat} {ad : Nat → Nat → Nat} {i : Nat → Nat → Int32} {j : Nat → Nat → Int64} {p : Nat → Nat → Option Nat} {r : Nat → Nat → Int32} (hI : CI e0 S c ad i j p r)  : cMet l yX5_forgive wsX5_forgive rm_X5_forgive D cy e0 [.ref (ad 5 0)] S (fun v S' => v = none ∧ CI e0 S' c ad i j p (fgR r 6)) (fun _ _ => False) 0 0 := by
  refine gMet.of (cc := cX5_forgive) (maxL := 2) (ret := none) hl (by decide) rfl (Nat.le_of_ble_eq_true rfl) ?_
  intro C E h1 h2 h3 hr hnm hT hE
  subst h1; subst h2; subst h3
  have E : gOk C cX5_forgive 2 wsX5_forgive RX5 e0 rm_X5_forgive := E
  show G C (cW (xy C) S) 0 0 0 [(0, .ref (ad 5 0))] []
  have hc := hI.cnt
  refine g_iconst (v := 0) E dX5_forgive_0 (by decide) ?_
  refine g_istore_n (L' := [(1, .int (0)), (0, .ref (ad 5 0))]) E dX5_forgive_1 rfl (by decide) rfl ?_
  refine g_locals [(0, .ref (ad 5 0)), (1, .int (0))] [1, 0] rfl ?_
  have loop_2 : ∀ (n_2 k : Nat) (S : wS), (CI e0 S c ad i j p (fgR r k)) → k ≤ 6 → 6 < n_2 + k → G C (cW (xy C) S) 0 0 2 [(0, .ref (ad 5 0)), (1, .int (nI k))] [] := by
    intro n_2
    induction n_2 with
    | zero => intro k S hI g1 g2; exact absurd g2 (by omega)
    | succ n_2 ih_2 =>
      intro k S hI h1_2 h2_2
      have hc := hI.cnt
      refine g_iload_n E dX5_forgive_2 rfl 1 rfl ?_
      refine g_bipush (v := 6) E dX5_forgive_3 (by decide) ?_
      refine g_icmp_ge (tgt := 33) E dX5_forgive_5 (by decide) (fun c_5 => ?_) (fun c_5 => ?_)
      · have e_k : k = 6 := Nat.le_antisymm h1_2 (nI_ge_nat (b := 6) (by decide) (by omega) c_5)
        exact g_vret E hE hr dX5_forgive_33 (Nat.le_of_ble_eq_true rfl) (Nat.le_of_ble_eq_true rfl) ⟨S, rfl, rfl, by rw [e_k] at hI; exact hI⟩
      · have hk6 : k < 6 := nI_nge_nat (b := 6) (by decide) (by omega) c_5
        refine g_aload_n E dX5_forgive_8 rfl 0 rfl ?_
        refine q_get_PW_points E hI (fun _ h => (List.mem_cons_of_mem _ (List.mem_append_right _ h))) (List.mem_cons_of_mem _ (List.mem_append_left _ (List.mem_of_getElem? (i := 0) rfl))) dX5_forgive_9 ?_
        refine g_iload_n E dX5_forgive_12 rfl 1 rfl ?_
        refine q_iald E hI (hI.c7 (by omega)) k rfl (by first | omega | (rw [alen_w (by omega) (by omega)]; omega) | (rw [alen_s]; omega) | (show _ < 24; omega) | (show _ < 6; omega)) dX5_forgive_13 ?_
        have e_r : (fgR r k) 3 k = r 3 k := fgR_at
        rw [e_r]
        show G C (cW (xy C) S) 0 0 14 [(0, .ref (ad 5 0)), (1, .int (nI k))] [.int (r 3 k)]
        refine g_if_le (tgt := 27) E dX5_forgive_14 (by decide) (fun c_14 => ?_) (fun c_14 => ?_)
        · refine g_iinc (v := nI (k + 1)) (L' := [(1, .int (nI (k + 1))), (0, .ref (ad 5 0))]) E dX5_forgive_27 1 rfl (nI_1 k) (by decide) rfl ?_
          refine g_goto (tgt := 2) E dX5_forgive_30 (by decide) ?_
          refine g_locals [(0, .ref (ad 5 0)), (1, .int (nI (k + 1)))] [1, 0] rfl ?_
          refine g_L (L' := [(0, .ref (ad 5 0)), (1, .int (nI (k + 1)))]) (by rfl) (ih_2 (k + 1) (_) (by rw [fgR_f (Int32.not_lt.mpr c_14)]; exact hI) (by omega) (by omega))
        · refine g_aload_n E dX5_forgive_17 rfl 0 rfl ?_
          refine q_get_PW_points E hI (fun _ h => (List.mem_cons_of_mem _ (List.mem_append_right _ h))) (List.mem_cons_of_mem _ (List.mem_append_left _ (List.mem_of_getElem? (i := 0) rfl))) dX5_forgive_18 ?_
          refine g_iload_n E dX5_forgive_21 rfl 1 rfl ?_
          refine g_dup2_11 E dX5_forgive_22 rfl rfl ?_
          refine q_iald E hI (hI.c7 (by omega)) k rfl (by first | omega | (rw [alen_w (by omega) (by omega)]; omega) | (rw [alen_s]; omega) | (show _ < 24; omega) | (show _ < 6; omega)) dX5_forgive_23 ?_
          have e_r : (fgR r k) 3 k = r 3 k := fgR_at
          rw [e_r]
          show G C (cW (xy C) S) 0 0 24 [(0, .ref (ad 5 0)), (1, .int (nI k))] [.int (r 3 k), .int (nI k), .ref (ad 7 3)]
          refine g_iconst (v := 1) E dX5_forgive_24 (by decide) ?_
          refine g_isub E dX5_forgive_25 ?_
          refine q_iast E hI (hI.c7 (by omega)) k rfl (by first | omega | (rw [alen_w (by omega) (by omega)]; omega) | (rw [alen_s]; omega) | (show _ < 24; omega) | (show _ < 6; omega)) dX5_forgive_26 (fun S hI => ?_)
          refine g_iinc (v := nI (k + 1)) (L' := [(1, .int (nI (k + 1))), (0, .ref (ad 5 0))]) E dX5_forgive_27 1 rfl (nI_1 k) (by decide) rfl ?_
          refine g_goto (tgt := 2) E dX5_forgive_30 (by decide) ?_
          refine g_locals [(0, .ref (ad 5 0)), (1, .int (nI (k + 1)))] [1, 0] rfl ?_
          refine g_L (L' := [(0, .ref (ad 5 0)), (1, .int (nI (k + 1)))]) (by rfl) (ih_2 (k + 1) (_) (by rw [← fgR_s (Int32.not_le.mp c_14)]; exact hI) (by omega) (by omega))
  exact loop_2 (6 + 1) 0 (_) (by rw [fgR_0]; exact hI) (by omega) (by omega)
abbrev rm_X5_passHour : Room := { frames := 3, cells := 0, slots := 0, locals := 64 }
set_option maxHeartbeats 4000000 in
set_option maxRecDepth 100000 in
theorem m_X5_passHour (l : Launch) (hl : l.stackTraces = false) (D : va_G) (cy : Nat → ClassId) (e0 : Nat) {S : wS} {c : Nat → Nat} {ad : Nat → Nat → Nat} {i : Nat → Nat → Int32} {j : Nat → Nat → Int64} {p : Nat → Nat → Option Nat} {r : Nat → Nat → Int32} (hI : CI e0 S c ad i j p r)  (hap : ∀ k, k < c 2 → ∃ a, a < 6 ∧ i 6 k = nI a) : cMet l yX5_passHour wsX5_passHour rm_X5_passHour D cy e0 [.ref (ad 5 0)] S (fun v S' => v = none ∧ CI e0 S' c ad (up2 i 18 0 (i 18 0 + 1)) (phJ i j p (c 2)) p (phE i j p r (i 18 0 + 1) (c 2))) (fun _ _ => False) 0 0 := by
  refine gMet.of (cc := cX5_passHour) (maxL := 3) (ret := none) hl (by decide) rfl (Nat.le_of_ble_eq_true rfl) ?_
  intro C E h1 h2 h3 hr hnm hT hE
  subst h1; subst h2; subst h3
  have E : gOk C cX5_passHour 3 wsX5_passHour RX5 e0 rm_X5_passHour := E
  show G C (cW (xy C) S) 0 0 0 [(0, .ref (ad 5 0))] []
  have hc := hI.cnt
  refine g_iconst (v := 0) E dX5_passHour_0 (by decide) ?_
  refine g_istore_n (L' := [(1, .int (0)), (0, .ref (ad 5 0))]) E dX5_passHour_1 rfl (by decide) rfl ?_
  refine g_locals [(0, .ref (ad 5 0)), (1, .int (0))] [1, 0] rfl ?_
  have loop_2 : ∀ (n_2 k : Nat) (S : wS), (CI e0 S c ad i (phJ i j p k) p (phR i j p r k)) → k ≤ c 2 → c 2 < n_2 + k → G C (cW (xy C) S) 0 0 2 [(0, .ref (ad 5 0)), (1, .int (nI k))] [] := by
    intro n_2
    induction n_2 with
    | zero => intro k S hI g1 g2; exact absurd g2 (by omega)
    | succ n_2 ih_2 =>
      intro k S hI h1_2 h2_2
      have hc := hI.cnt
      refine g_iload_n E dX5_passHour_2 rfl 1 rfl ?_
      refine g_aload_n E dX5_passHour_3 rfl 0 rfl ?_
      refine q_get_PW_permits E hI (fun _ h => (List.mem_cons_of_mem _ (List.mem_append_left _ (List.mem_append_left _ (List.mem_append_left _ (List.mem_append_right _ h)))))) (List.mem_cons_of_mem _ (List.mem_append_left _ (List.mem_append_left _ (List.mem_append_left _ (List.mem_append_left _ (List.mem_append_left _ (List.mem_of_getElem? (i := 0) rfl))))))) dX5_passHour_4 ?_
      refine c_invV (n := 0) (rest := [.int (nI k)]) E (m_Jx4a65c_size_8abf5 (xl C) E.tr (xD C) (xy C) e0 hI.lists.2.1) (hI.obj (kd := 6) (k := 1) (by omega) (by have := hI.cnt; omega)).1 gX5_passHour_Jx4a65c_size_8abf5 rfl rfl rfl (by decide +kernel) ⟨Nat.le_of_ble_eq_true rfl, Nat.le_of_ble_eq_true rfl⟩ (wF_AL (hI.obj (kd := 6) (k := 1) (by omega) (by have := hI.cnt; omega)).2) rfl rfl rfl rfl (Nat.le_of_ble_eq_true rfl) dX5_passHour_7 ⟨Nat.le_of_ble_eq_true rfl, Nat.le_of_ble_eq_true rfl⟩ (fun _ _ h9 => h9.elim) (fun v9 S9_7 h9 => ?_)
      obtain ⟨hv9, hS9⟩ := h9
      rw [hv9, hS9]
      show G C (cW (xy C) S) 0 0 10 [(0, .ref (ad 5 0)), (1, .int (nI k))] [.int (nI (c 2)), .int (nI k)]
      refine g_icmp_ge (tgt := 85) E dX5_passHour_10 (by decide) (fun c_10 => ?_) (fun c_10 => ?_)
      · have e_k : k = c 2 := Nat.le_antisymm h1_2 (nI_ge_nat (by omega) (by omega) c_10)
        refine g_aload_n E dX5_passHour_85 rfl 0 rfl ?_
        refine g_dup E dX5_passHour_86 rfl ?_
        refine q_get_PW_now E hI hI.c5 (fun _ h => (List.mem_cons_of_mem _ (List.mem_append_left _ (List.mem_append_left _ (List.mem_append_left _ (List.mem_append_right _ h)))))) (List.mem_cons_of_mem _ (List.mem_append_left _ (List.mem_append_left _ (List.mem_append_left _ (List.mem_append_left _ (List.mem_append_left _ (List.mem_of_getElem? (i := 2) rfl))))))) dX5_passHour_87 ?_
        refine g_iconst (v := 1) E dX5_passHour_90 (by decide) ?_
        refine g_iadd E dX5_passHour_91 ?_
        refine q_put_PW_now E hI hI.c5 (fun _ h => (List.mem_cons_of_mem _ (List.mem_append_left _ (List.mem_append_left _ (List.mem_append_left _ (List.mem_append_right _ h)))))) (List.mem_cons_of_mem _ (List.mem_append_left _ (List.mem_append_left _ (List.mem_append_left _ (List.mem_append_left _ (List.mem_append_left _ (List.mem_of_getElem? (i := 2) rfl))))))) dX5_passHour_92 (fun S hI => ?_)
        refine g_aload_n E dX5_passHour_95 rfl 0 rfl ?_
        refine q_get_PW_now E hI hI.c5 (fun _ h => (List.mem_cons_of_mem _ (List.mem_append_left _ (List.mem_append_left _ (List.mem_append_left _ (List.mem_append_right _ h)))))) (List.mem_cons_of_mem _ (List.mem_append_left _ (List.mem_append_left _ (List.mem_append_left _ (List.mem_append_left _ (List.mem_append_left _ (List.mem_of_getElem? (i := 2) rfl))))))) dX5_passHour_96 ?_
        have e_n : (up2 i 18 0 ((i 18 0 + 1))) 18 0 = i 18 0 + 1 := up2_self _ _ _ _
        rw [e_n]
        show G C (cW (xy C) S) 0 0 99 [(0, .ref (ad 5 0)), (1, .int (nI k))] [.int (i 18 0 + 1)]
        refine g_bipush (v := 100) E dX5_passHour_99 (by decide) ?_
        refine g_irem E dX5_passHour_101 (by decide) ?_
        refine g_if_ne (tgt := 109) E dX5_passHour_102 (by decide) (fun c_102 => ?_) (fun c_102 => ?_)
        · exact g_vret E hE hr dX5_passHour_109 (Nat.le_of_ble_eq_true rfl) (Nat.le_of_ble_eq_true rfl) ⟨S, rfl, rfl, by rw [e_k] at hI; unfold phE; rw [if_neg c_102]; exact hI⟩
        · refine g_aload_n E dX5_passHour_105 rfl 0 rfl ?_
          refine c_invV (n := 0) (rest := []) E (m_X5_forgive (xl C) E.tr (xD C) (xy C) e0 hI) (hI.obj (kd := 5) (k := 0) (by omega) hI.c5).1 gX5_passHour_X5_forgive rfl rfl rfl (by decide +kernel) ⟨Nat.le_of_ble_eq_true rfl, Nat.le_of_ble_eq_true rfl⟩ (wF_PW (hI.obj (kd := 5) (k := 0) (by omega) hI.c5).2) rfl rfl rfl rfl (Nat.le_of_ble_eq_true rfl) dX5_passHour_106 ⟨Nat.le_of_ble_eq_true rfl, Nat.le_of_ble_eq_true rfl⟩ (fun _ _ h9 => h9.elim) (fun v9 S9_106 h9 => ?_)
          obtain ⟨hv9, hI⟩ := h9
          rw [hv9]
          show G C (cW (xy C) S9_106) 0 0 109 [(0, .ref (ad 5 0)), (1, .int (nI k))] []
          exact g_vret E hE hr dX5_passHour_109 (Nat.le_of_ble_eq_true rfl) (Nat.le_of_ble_eq_true rfl) ⟨S9_106, rfl, rfl, by rw [e_k] at hI; unfold phE; rw [if_pos c_102]; exact hI⟩
      · have hk_k : k < c 2 := nI_nge_nat (by omega) (by omega) c_10
        refine g_aload_n E dX5_passHour_13 rfl 0 rfl ?_
        refine q_get_PW_permits E hI (fun _ h => (List.mem_cons_of_mem _ (List.mem_append_left _ (List.mem_append_left _ (List.mem_append_left _ (List.mem_append_right _ h)))))) (List.mem_cons_of_mem _ (List.mem_append_left _ (List.mem_append_left _ (List.mem_append_left _ (List.mem_append_left _ (List.mem_append_left _ (List.mem_of_getElem? (i := 0) rfl))))))) dX5_passHour_14 ?_
        refine g_iload_n E dX5_passHour_17 rfl 1 rfl ?_
        refine c_invV (n := 1) (rest := []) E (m_Jx4a65c_get_915e3 (xl C) E.tr (xD C) (xy C) e0 hI.lists.2.1 (k := k) hk_k) (hI.obj (kd := 6) (k := 1) (by omega) (by have := hI.cnt; omega)).1 gX5_passHour_Jx4a65c_get_915e3 rfl rfl rfl (by decide +kernel) ⟨Nat.le_of_ble_eq_true rfl, Nat.le_of_ble_eq_true rfl⟩ (wF_AL (hI.obj (kd := 6) (k := 1) (by omega) (by have := hI.cnt; omega)).2) rfl rfl rfl rfl (Nat.le_of_ble_eq_true rfl) dX5_passHour_18 ⟨Nat.le_of_ble_eq_true rfl, Nat.le_of_ble_eq_true rfl⟩ (fun _ _ h9 => h9.elim) (fun v9 S9_18 h9 => ?_)
        obtain ⟨hv9, hS9⟩ := h9
        rw [hv9, hS9]
        show G C (cW (xy C) S) 0 0 21 [(0, .ref (ad 5 0)), (1, .int (nI k))] [.ref (ad 2 k)]
        refine p_cast E (List.mem_cons_of_mem _ (List.mem_append_left _ (List.mem_append_left _ (List.mem_append_left _ (List.mem_append_left _ (List.mem_append_left _ (List.mem_of_getElem? (i := 1) rfl))))))) (hI.obj (kd := 2) (k := k) (by omega) hk_k).1 (wF_Permit (hI.obj (kd := 2) (k := k) (by omega) hk_k).2) rfl rfl dX5_passHour_21 ?_
        refine g_astore_n (L' := [(2, .ref (ad 2 k)), (0, .ref (ad 5 0)), (1, .int (nI k))]) E dX5_passHour_24 rfl (by decide) rfl ?_
        refine g_aload_n E dX5_passHour_25 rfl 0 rfl ?_
        refine q_getN_Permit_state E hI hk_k (fun _ h => (List.mem_cons_of_mem _ (List.mem_append_left _ (List.mem_append_left _ (List.mem_append_right _ h))))) tbF_RX5_146 dX5_passHour_26 ?_
        refine g_iconst (v := 2) E dX5_passHour_29 (by decide) ?_
        refine g_icmp_ne (tgt := 79) E dX5_passHour_30 (by decide) (fun c_30 => ?_) (fun c_30 => ?_)
        · refine g_iinc (v := nI (k + 1)) (L' := [(1, .int (nI (k + 1))), (2, .ref (ad 2 k)), (0, .ref (ad 5 0))]) E dX5_passHour_79 2 rfl (nI_1 k) (by decide) rfl ?_
          refine g_goto (tgt := 2) E dX5_passHour_82 (by decide) ?_
          refine g_locals [(0, .ref (ad 5 0)), (1, .int (nI (k + 1)))] [2, 0] rfl ?_
          refine g_L (L' := [(0, .ref (ad 5 0)), (1, .int (nI (k + 1)))]) (by rfl) (ih_2 (k + 1) (_) (by rw [phJ_f (fun q => c_30 q.1), phR_f (fun q => c_30 q.1)]; exact hI) (by omega) (by omega))
        · refine g_aload_n E dX5_passHour_33 rfl 0 rfl ?_
          refine g_aload_n E dX5_passHour_34 rfl 1 rfl ?_
          refine q_get_PW_now E hI hI.c5 (fun _ h => (List.mem_cons_of_mem _ (List.mem_append_left _ (List.mem_append_left _ (List.mem_append_left _ (List.mem_append_right _ h)))))) (List.mem_cons_of_mem _ (List.mem_append_left _ (List.mem_append_left _ (List.mem_append_left _ (List.mem_append_left _ (List.mem_append_left _ (List.mem_of_getElem? (i := 2) rfl))))))) dX5_passHour_35 ?_
          refine c_invV (n := 1) (rest := []) E (m_X2_isBeside (xl C) E.tr (xD C) (xy C) e0 (x := i 18 0) hI hk_k) (hI.obj (kd := 2) (k := k) (by omega) hk_k).1 gX5_passHour_X2_isBeside rfl rfl rfl (by decide +kernel) ⟨Nat.le_of_ble_eq_true rfl, Nat.le_of_ble_eq_true rfl⟩ (wF_Permit (hI.obj (kd := 2) (k := k) (by omega) hk_k).2) rfl rfl rfl rfl (Nat.le_of_ble_eq_true rfl) dX5_passHour_38 ⟨Nat.le_of_ble_eq_true rfl, Nat.le_of_ble_eq_true rfl⟩ (fun _ _ h9 => h9.elim) (fun v9 S9_38 h9 => ?_)
          obtain ⟨hv9, hS9⟩ := h9
          rw [hv9, hS9]
          show G C (cW (xy C) S) 0 0 41 [(2, .ref (ad 2 k)), (0, .ref (ad 5 0)), (1, .int (nI k))] [.int ((bI (i 18 0 < (p 2 k).elim (i 8 k) (i 3) ∨ (p 2 k).elim (i 9 k) (i 4) ≤ i 18 0)))]
          refine g_if_eq (tgt := 79) E dX5_passHour_41 (by decide) (fun c_41 => ?_) (fun c_41 => ?_)
          · refine g_iinc (v := nI (k + 1)) (L' := [(1, .int (nI (k + 1))), (2, .ref (ad 2 k)), (0, .ref (ad 5 0))]) E dX5_passHour_79 2 rfl (nI_1 k) (by decide) rfl ?_
            refine g_goto (tgt := 2) E dX5_passHour_82 (by decide) ?_
            refine g_locals [(0, .ref (ad 5 0)), (1, .int (nI (k + 1)))] [2, 0] rfl ?_
            refine g_L (L' := [(0, .ref (ad 5 0)), (1, .int (nI (k + 1)))]) (by rfl) (ih_2 (k + 1) (_) (by rw [phJ_f (fun q => bI_eq0.mp c_41 q.2.1), phR_f (fun q => bI_eq0.mp c_41 q.2.1)]; exact hI) (by omega) (by omega))
          · refine g_aload_n E dX5_passHour_44 rfl 0 rfl ?_
            refine q_getN_Permit_hourlyCost E hI hk_k (fun _ h => (List.mem_cons_of_mem _ (List.mem_append_left _ (List.mem_append_left _ (List.mem_append_right _ h))))) tbF_RX5_309 dX5_passHour_45 ?_
            have e_3 : (phJ i j p k) 3 k = j 3 k := phJ_3
            rw [e_3]
            show G C (cW (xy C) S) 0 0 48 [(2, .ref (ad 2 k)), (0, .ref (ad 5 0)), (1, .int (nI k))] [.long (j 3 k)]
            refine g_lconst (v := 0) E dX5_passHour_48 (by decide) ?_
            refine g_lcmp E dX5_passHour_49 ?_
            refine g_if_le (tgt := 79) E dX5_passHour_50 (by decide) (fun c_50 => ?_) (fun c_50 => ?_)
            · refine g_iinc (v := nI (k + 1)) (L' := [(1, .int (nI (k + 1))), (2, .ref (ad 2 k)), (0, .ref (ad 5 0))]) E dX5_passHour_79 2 rfl (nI_1 k) (by decide) rfl ?_
              refine g_goto (tgt := 2) E dX5_passHour_82 (by decide) ?_
              refine g_locals [(0, .ref (ad 5 0)), (1, .int (nI (k + 1)))] [2, 0] rfl ?_
              refine g_L (L' := [(0, .ref (ad 5 0)), (1, .int (nI (k + 1)))]) (by rfl) (ih_2 (k + 1) (_) (by rw [phJ_f (fun q => Int64.not_lt.mpr ((lg_cmp_le _ _).mp c_50) q.2.2), phR_f (fun q => Int64.not_lt.mpr ((lg_cmp_le _ _).mp c_50) q.2.2)]; exact hI) (by omega) (by omega))
            · have h_hit : hitP i j p k := ⟨c_30, bI_ne0.mp c_41, by have := Int64.not_le.mp (fun q => c_50 ((lg_cmp_le _ _).mpr q)); exact this⟩
              obtain ⟨a, ha6, hak⟩ := hap k hk_k
              have e_ta : tn (i 6 k) = a := by rw [hak]; exact tn_nI (by omega)
              have e_ap : i 6 k = nI (tn (i 6 k)) := by rw [e_ta]; exact hak
              refine g_aload_n E dX5_passHour_53 rfl 0 rfl ?_
              refine g_dup E dX5_passHour_54 rfl ?_
              refine q_getN_Permit_damage E hI hk_k (fun _ h => (List.mem_cons_of_mem _ (List.mem_append_left _ (List.mem_append_left _ (List.mem_append_right _ h))))) tbF_RX5_315 dX5_passHour_55 ?_
              have e_2 : (phJ i j p k) 2 k = j 2 k := phJ_2
              rw [e_2]
              show G C (cW (xy C) S) 0 0 58 [(2, .ref (ad 2 k)), (0, .ref (ad 5 0)), (1, .int (nI k))] [.long (j 2 k), .ref (ad 2 k)]
              refine g_aload_n E dX5_passHour_58 rfl 0 rfl ?_
              refine q_getN_Permit_hourlyCost E hI hk_k (fun _ h => (List.mem_cons_of_mem _ (List.mem_append_left _ (List.mem_append_left _ (List.mem_append_right _ h))))) tbF_RX5_309 dX5_passHour_59 ?_
              have e_3 : (phJ i j p k) 3 k = j 3 k := phJ_3
              rw [e_3]
              show G C (cW (xy C) S) 0 0 62 [(2, .ref (ad 2 k)), (0, .ref (ad 5 0)), (1, .int (nI k))] [.long (j 3 k), .long (j 2 k), .ref (ad 2 k)]
              refine g_ladd E dX5_passHour_62 ?_
              refine q_putN_Permit_damage E hI hk_k (fun _ h => (List.mem_cons_of_mem _ (List.mem_append_left _ (List.mem_append_left _ (List.mem_append_right _ h))))) tbF_RX5_315 dX5_passHour_63 (fun S hI => ?_)
              refine g_aload_n E dX5_passHour_66 rfl 1 rfl ?_
              refine q_get_PW_points E hI (fun _ h => (List.mem_cons_of_mem _ (List.mem_append_left _ (List.mem_append_left _ (List.mem_append_left _ (List.mem_append_right _ h)))))) (List.mem_cons_of_mem _ (List.mem_append_left _ (List.mem_append_left _ (List.mem_append_left _ (List.mem_append_left _ (List.mem_append_left _ (List.mem_of_getElem? (i := 3) rfl))))))) dX5_passHour_67 ?_
              refine g_aload_n E dX5_passHour_70 rfl 0 rfl ?_
              refine q_getN_Permit_applicant E hI hk_k (fun _ h => (List.mem_cons_of_mem _ (List.mem_append_left _ (List.mem_append_left _ (List.mem_append_right _ h))))) tbF_RX5_220 dX5_passHour_71 ?_
              rw [e_ap]
              show G C (cW (xy C) S) 0 0 74 [(2, .ref (ad 2 k)), (0, .ref (ad 5 0)), (1, .int (nI k))] [.int (nI (tn (i 6 k))), .ref (ad 7 3)]
              refine g_dup2_11 E dX5_passHour_74 rfl rfl ?_
              refine q_iald E hI (hI.c7 (by omega)) ((tn (i 6 k))) rfl (by first | omega | (rw [alen_w (by omega) (by omega)]; omega) | (rw [alen_s]; omega) | (show _ < 24; omega) | (show _ < 6; omega)) dX5_passHour_75 ?_
              refine g_iconst (v := 1) E dX5_passHour_76 (by decide) ?_
              refine g_iadd E dX5_passHour_77 ?_
              refine q_iast E hI (hI.c7 (by omega)) ((tn (i 6 k))) rfl (by first | omega | (rw [alen_w (by omega) (by omega)]; omega) | (rw [alen_s]; omega) | (show _ < 24; omega) | (show _ < 6; omega)) dX5_passHour_78 (fun S hI => ?_)
              refine g_iinc (v := nI (k + 1)) (L' := [(1, .int (nI (k + 1))), (2, .ref (ad 2 k)), (0, .ref (ad 5 0))]) E dX5_passHour_79 2 rfl (nI_1 k) (by decide) rfl ?_
              refine g_goto (tgt := 2) E dX5_passHour_82 (by decide) ?_
              refine g_locals [(0, .ref (ad 5 0)), (1, .int (nI (k + 1)))] [2, 0] rfl ?_
              refine g_L (L' := [(0, .ref (ad 5 0)), (1, .int (nI (k + 1)))]) (by rfl) (ih_2 (k + 1) (_) (by rw [← phJ_s h_hit, phR_t h_hit]; exact hI) (by omega) (by omega))
  exact loop_2 (c 2 + 1) 0 (_) (by rw [phJ_0]; exact hI) (by omega) (by omega)
