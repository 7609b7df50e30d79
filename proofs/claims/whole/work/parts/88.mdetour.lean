def MLI (s : mS) (nl : Nat) : Prop := ∀ l, l < nl → ∃ n, n < 6 ∧ mr s 8 l = nI (n + 1) ∧ MSP s l (n + 1)
/-- the detour of line l -/
noncomputable def mdL (s : mS) (cl : Int32) (M l : Nat) : Int32 := mdt s cl M l (tn (mr s 8 l) - 1)
theorem mdL_of {s : mS} {cl : Int32} {M l n : Nat} (h : mr s 8 l = nI (n + 1)) (hn : n < 6) : mdt s cl M l n = mdL s cl M l := by
  unfold mdL
  rw [h, tn_nI (by omega)]
  rfl
abbrev rm_X6_detour : Room := { frames := 2, cells := 0, slots := 0, locals := 53 }
set_option maxHeartbeats 4000000 in
set_option maxRecDepth 100000 in
theorem m_X6_detour (l : Launch) (hl : l.stackTraces = false) (D : va_G) (cy : Nat → ClassId) (e0 : Nat) {ma : Nat → Nat} {s : mS} {np : Nat} (hp0 : mi s 21 = nI np) (hp1 : np ≤ 40) {M : Nat} (hM : mi s 5 = nI M) (hM1 : M ≤ 24) (hln : MLN s M) {nl : Nat} (hl0 : mi s 10 = nI nl) (hl1 : nl ≤ 6) (hLI : MLI s nl) {x : Int32} : mMet l yX6_detour wsX6_detour rm_X6_detour D cy e0 [.ref (ma 0), .int (x)] ma s (fun v s' => (∃ k, k < nl ∧ x = nI k ∧ v = some (.int (mdL s (mcl s np M) M k)) ∧ ∃ g, s' = mFar (muI s 0 0) g) ∨ ((∀ k, k < nl → x ≠ nI k) ∧ v = some (.int 0) ∧ s' = muI s 0 1)) := by
  refine gMet.of (cc := cX6_detour) (maxL := 2) (ret := (some .int)) hl (by decide) rfl (Nat.le_of_ble_eq_true rfl) ?_
  intro C E h1 h2 h3 hr hnm hT hE
  subst h1; subst h2; subst h3
  have E : gOk C cX6_detour 2 wsX6_detour RX6 e0 rm_X6_detour := E
  show G C (mW (xy C) ma s) 0 0 0 [(0, .ref (ma 0)), (1, .int (x))] []
  refine g_aload_n E dX6_detour_0 rfl 0 rfl ?_
  refine g_aload_n E dX6_detour_1 rfl 0 rfl ?_
  refine g_iload_n E dX6_detour_2 rfl 1 rfl ?_
  refine k_invV (n := 1) (rest := [.ref (ma 0)]) E (m_X6_isLine (xl C) E.tr (xD C) (xy C) e0 hl0) gX6_detour_X6_isLine rfl rfl rfl (by decide +kernel) ⟨Nat.le_of_ble_eq_true rfl, Nat.le_of_ble_eq_true rfl⟩ rfl rfl (Nat.le_of_ble_eq_true rfl) dX6_detour_3 ⟨Nat.le_of_ble_eq_true rfl, Nat.le_of_ble_eq_true rfl⟩ (fun v9 s9_3 h9 => ?_)
  obtain ⟨hv9, hS9⟩ := h9
  rw [hv9, hS9]
  show G C (mW (xy C) ma s) 0 0 6 [(0, .ref (ma 0)), (1, .int (x))] [.int ((isIx (x) nl)), .ref (ma 0)]
  refine g_if_eq (tgt := 13) E dX6_detour_6 (by decide) (fun c_6 => ?_) (fun c_6 => ?_)
  · have hbad := isIx_f (by omega) c_6
    refine g_iconst (v := 1) E dX6_detour_13 (by decide) ?_
    refine k_invV (n := 1) (rest := []) E (m_X6_isFine (xl C) E.tr (xD C) (xy C) e0 (s := s) (x := 1)) gX6_detour_X6_isFine rfl rfl rfl (by decide +kernel) ⟨Nat.le_of_ble_eq_true rfl, Nat.le_of_ble_eq_true rfl⟩ rfl rfl (Nat.le_of_ble_eq_true rfl) dX6_detour_14 ⟨Nat.le_of_ble_eq_true rfl, Nat.le_of_ble_eq_true rfl⟩ (fun v9 s9_14 h9 => ?_)
    obtain ⟨hv9, hS9⟩ := h9
    rw [hv9, hS9]
    rw [show bI ((1 : Int32) = 0) = 0 by decide]
    show G C (mW (xy C) ma (muI s 0 (1))) 0 0 17 [(0, .ref (ma 0)), (1, .int (x))] [.int (0)]
    refine g_if_eq (tgt := 32) E dX6_detour_17 (by decide) (fun c_17 => ?_) (fun c_17 => ?_)
    · refine g_iconst (v := 0) E dX6_detour_32 (by decide) ?_
      exact g_iret E hE hr dX6_detour_33 (Nat.le_of_ble_eq_true rfl) (Nat.le_of_ble_eq_true rfl) ⟨(muI s 0 (1)), rfl, Or.inr ⟨hbad, rfl, rfl⟩⟩
    · exact absurd c_17 (by decide)
  · obtain ⟨k, hk, hx⟩ := isIx_t (by omega) c_6
    subst hx
    show G C (mW (xy C) ma s) 0 0 9 [(0, .ref (ma 0)), (1, .int (nI k))] [.ref (ma 0)]
    refine g_iconst (v := 0) E dX6_detour_9 (by decide) ?_
    refine g_goto (tgt := 14) E dX6_detour_10 (by decide) ?_
    refine k_invV (n := 1) (rest := []) E (m_X6_isFine (xl C) E.tr (xD C) (xy C) e0 (s := s) (x := 0)) gX6_detour_X6_isFine rfl rfl rfl (by decide +kernel) ⟨Nat.le_of_ble_eq_true rfl, Nat.le_of_ble_eq_true rfl⟩ rfl rfl (Nat.le_of_ble_eq_true rfl) dX6_detour_14 ⟨Nat.le_of_ble_eq_true rfl, Nat.le_of_ble_eq_true rfl⟩ (fun v9 s9_14 h9 => ?_)
    obtain ⟨hv9, hS9⟩ := h9
    rw [hv9, hS9]
    rw [show bI ((0 : Int32) = 0) = 1 by decide]
    show G C (mW (xy C) ma (muI s 0 (0))) 0 0 17 [(0, .ref (ma 0)), (1, .int (nI k))] [.int (1)]
    refine g_if_eq (tgt := 32) E dX6_detour_17 (by decide) (fun c_17 => ?_) (fun c_17 => ?_)
    · exact absurd c_17 (by decide)
    · refine g_aload_n E dX6_detour_20 rfl 0 rfl ?_
      refine g_iload_n E dX6_detour_21 rfl 1 rfl ?_
      refine g_aload_n E dX6_detour_22 rfl 0 rfl ?_
      refine k_invV (n := 0) (rest := [.int (nI k), .ref (ma 0)]) E (m_X6_closed (xl C) E.tr (xD C) (xy C) e0 (s := (muI s 0 (0))) hp0 hp1 hM hM1) gX6_detour_X6_closed rfl rfl rfl (by decide +kernel) ⟨Nat.le_of_ble_eq_true rfl, Nat.le_of_ble_eq_true rfl⟩ rfl rfl (Nat.le_of_ble_eq_true rfl) dX6_detour_23 ⟨Nat.le_of_ble_eq_true rfl, Nat.le_of_ble_eq_true rfl⟩ (fun v9 s9_23 h9 => ?_)
      obtain ⟨hv9, hS9⟩ := h9
      rw [hv9, hS9, mcl_muI]
      show G C (mW (xy C) ma (muI s 0 (0))) 0 0 26 [(0, .ref (ma 0)), (1, .int (nI k))] [.int ((mcl s np M)), .int (nI k), .ref (ma 0)]
      obtain ⟨n, hn6, hst, hsp⟩ := hLI k hk
      refine k_invV (n := 2) (rest := []) E (m_X6_detourBy (xl C) E.tr (xD C) (xy C) e0 (s := (muI s 0 (0))) (cl := (mcl s np M)) hM hM1 hln (by omega) hst hn6 hsp) gX6_detour_X6_detourBy rfl rfl rfl (by decide +kernel) ⟨Nat.le_of_ble_eq_true rfl, Nat.le_of_ble_eq_true rfl⟩ rfl rfl (Nat.le_of_ble_eq_true rfl) dX6_detour_26 ⟨Nat.le_of_ble_eq_true rfl, Nat.le_of_ble_eq_true rfl⟩ (fun v9 s9_26 h9 => ?_)
      obtain ⟨hv9, g, hS9⟩ := h9
      rw [hv9, hS9, show mdt (muI s 0 0) (mcl s np M) M k n = mdL s (mcl s np M) M k from mdL_of hst hn6]
      show G C (mW (xy C) ma (mFar (muI s 0 (0)) g)) 0 0 29 [(0, .ref (ma 0)), (1, .int (nI k))] [.int ((mdL s (mcl s np M) M k))]
      refine g_goto (tgt := 33) E dX6_detour_29 (by decide) ?_
      exact g_iret E hE hr dX6_detour_33 (Nat.le_of_ble_eq_true rfl) (Nat.le_of_ble_eq_true rfl) ⟨(mFar (muI s 0 (0)) g), rfl, Or.inl ⟨k, hk, rfl, rfl, g, rfl⟩⟩
