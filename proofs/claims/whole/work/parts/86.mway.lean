theorem mFar_mst {s : mS} {g : Nat → Int32} {l k : Nat} : mst (mFar s g) l k = mst s l k := by unfold mst; rw [mFar_oth (by decide)]
theorem mFar_MSP {s : mS} {g : Nat → Int32} {l n : Nat} (h : MSP s l n) : MSP (mFar s g) l n := by
  intro k hk
  rw [mFar_mst, mFar_oth (by decide)]
  exact h k hk
theorem mFar_mdt {s : mS} {g : Nat → Int32} {cl : Int32} {M l n : Nat} : mdt (mFar s g) cl M l n = mdt s cl M l n := by
  have e : mleg (mFar s g) cl M l = mleg s cl M l := by
    funext k
    unfold mleg
    rw [mFar_mst, mFar_mst, mFar_mds, mFar_mds]
  unfold mdt
  rw [e]
theorem mcl_muI {s : mS} {f : Nat} {v : Int32} {np n : Nat} : mcl (muI s f v) np n = mcl s np n := by
  induction n with
  | zero => rfl
  | succ n ih =>
    show mcl (muI s f v) np n ||| (if 0 < opC (muI s f v) np (nI n) then (1 : Int32) <<< (nI n &&& 31) else 0) = mcl s np n ||| (if 0 < opC s np (nI n) then (1 : Int32) <<< (nI n &&& 31) else 0)
    rw [ih]
    rfl
noncomputable def mcost (s : mS) (np : Nat) (cl : Int32) (M l n p : Nat) : Int32 := if mr s 17 p = 2 ∧ opC s np (mr s 12 p) = 1 then mdt s cl M l n - mdt s (cl &&& (((1 : Int32) <<< (mr s 12 p &&& 31)) ^^^ (-1))) M l n else 0
abbrev rm_X6_cost : Room := { frames := 2, cells := 0, slots := 0, locals := 53 }
set_option maxHeartbeats 4000000 in
set_option maxRecDepth 100000 in
theorem m_X6_cost (l : Launch) (hl : l.stackTraces = false) (D : va_G) (cy : Nat → ClassId) (e0 : Nat) {ma : Nat → Nat} {s : mS} {np : Nat} (hp0 : mi s 21 = nI np) (hp1 : np ≤ 40) {M li n : Nat} (hM : mi s 5 = nI M) (hM1 : M ≤ 24) (hln : MLN s M) (hl6 : li < 6) (hst : mr s 8 li = nI (n + 1)) (hn6 : n < 6) (hsp : MSP s li (n + 1))  {cl : Int32} {k : Nat} (hk : k < 40) : mMet l yX6_cost wsX6_cost rm_X6_cost D cy e0 [.ref (ma 0), .int (nI k), .int (nI li), .int (cl)] ma s (fun v s' => v = some (.int (mcost s np cl M li n k)) ∧ ∃ g, s' = mFar s g) := by
  refine gMet.of (cc := cX6_cost) (maxL := 5) (ret := (some .int)) hl (by decide) rfl (Nat.le_of_ble_eq_true rfl) ?_
  intro C E h1 h2 h3 hr hnm hT hE
  subst h1; subst h2; subst h3
  have E : gOk C cX6_cost 5 wsX6_cost RX6 e0 rm_X6_cost := E
  show G C (mW (xy C) ma s) 0 0 0 [(0, .ref (ma 0)), (1, .int (nI k)), (2, .int (nI li)), (3, .int (cl))] []
  refine g_aload_n E dX6_cost_0 rfl 0 rfl ?_
  refine k_get_state (s := s) E (fun _ h => (List.mem_cons_of_mem _ (List.mem_append_right _ h))) (List.mem_cons_of_mem _ (List.mem_append_left _ (List.mem_of_getElem? (i := 0) rfl))) dX6_cost_1 ?_
  refine g_iload_n E dX6_cost_4 rfl 1 rfl ?_
  refine k_ald_state (s := s) E k rfl (by omega) dX6_cost_5 ?_
  refine g_iconst (v := 2) E dX6_cost_6 (by decide) ?_
  refine g_icmp_ne (tgt := 28) E dX6_cost_7 (by decide) (fun c_7 => ?_) (fun c_7 => ?_)
  · refine g_iconst (v := 0) E dX6_cost_28 (by decide) ?_
    refine g_istore (L' := [(4, .int (0)), (0, .ref (ma 0)), (1, .int (nI k)), (2, .int (nI li)), (3, .int (cl))]) E dX6_cost_29 (by decide) rfl ?_
    refine g_iload E dX6_cost_31 0 rfl ?_
    refine g_if_eq (tgt := 63) E dX6_cost_33 (by decide) (fun c_33 => ?_) (fun c_33 => ?_)
    · refine g_iconst (v := 0) E dX6_cost_63 (by decide) ?_
      exact g_iret E hE hr dX6_cost_64 (Nat.le_of_ble_eq_true rfl) (Nat.le_of_ble_eq_true rfl) ⟨s, rfl, by rw [show mcost s np cl M li n k = 0 from if_neg (fun q => c_7 q.1)], _, (mFar_id s).symm⟩
    · exact absurd c_33 (by decide)
  · refine g_aload_n E dX6_cost_10 rfl 0 rfl ?_
    refine g_aload_n E dX6_cost_11 rfl 0 rfl ?_
    refine k_get_lane (s := s) E (fun _ h => (List.mem_cons_of_mem _ (List.mem_append_right _ h))) (List.mem_cons_of_mem _ (List.mem_append_left _ (List.mem_of_getElem? (i := 1) rfl))) dX6_cost_12 ?_
    refine g_iload_n E dX6_cost_15 rfl 1 rfl ?_
    refine k_ald_lane (s := s) E k rfl (by omega) dX6_cost_16 ?_
    refine k_invV (n := 1) (rest := []) E (m_X6_openOn (xl C) E.tr (xD C) (xy C) e0 (s := s) (x := mr s 12 k) hp0 hp1) gX6_cost_X6_openOn rfl rfl rfl (by decide +kernel) ⟨Nat.le_of_ble_eq_true rfl, Nat.le_of_ble_eq_true rfl⟩ rfl rfl (Nat.le_of_ble_eq_true rfl) dX6_cost_17 ⟨Nat.le_of_ble_eq_true rfl, Nat.le_of_ble_eq_true rfl⟩ (fun v9 s9_17 h9 => ?_)
    obtain ⟨hv9, hS9⟩ := h9
    rw [hv9, hS9]
    show G C (mW (xy C) ma s) 0 0 20 [(0, .ref (ma 0)), (1, .int (nI k)), (2, .int (nI li)), (3, .int (cl))] [.int ((opC s np (mr s 12 k)))]
    refine g_iconst (v := 1) E dX6_cost_20 (by decide) ?_
    refine g_icmp_ne (tgt := 28) E dX6_cost_21 (by decide) (fun c_21 => ?_) (fun c_21 => ?_)
    · refine g_iconst (v := 0) E dX6_cost_28 (by decide) ?_
      refine g_istore (L' := [(4, .int (0)), (0, .ref (ma 0)), (1, .int (nI k)), (2, .int (nI li)), (3, .int (cl))]) E dX6_cost_29 (by decide) rfl ?_
      refine g_iload E dX6_cost_31 0 rfl ?_
      refine g_if_eq (tgt := 63) E dX6_cost_33 (by decide) (fun c_33 => ?_) (fun c_33 => ?_)
      · refine g_iconst (v := 0) E dX6_cost_63 (by decide) ?_
        exact g_iret E hE hr dX6_cost_64 (Nat.le_of_ble_eq_true rfl) (Nat.le_of_ble_eq_true rfl) ⟨s, rfl, by rw [show mcost s np cl M li n k = 0 from if_neg (fun q => c_21 q.2)], _, (mFar_id s).symm⟩
      · exact absurd c_33 (by decide)
    · refine g_iconst (v := 1) E dX6_cost_24 (by decide) ?_
      refine g_goto (tgt := 29) E dX6_cost_25 (by decide) ?_
      refine g_istore (L' := [(4, .int (1)), (0, .ref (ma 0)), (1, .int (nI k)), (2, .int (nI li)), (3, .int (cl))]) E dX6_cost_29 (by decide) rfl ?_
      refine g_iload E dX6_cost_31 0 rfl ?_
      refine g_if_eq (tgt := 63) E dX6_cost_33 (by decide) (fun c_33 => ?_) (fun c_33 => ?_)
      · exact absurd c_33 (by decide)
      · refine g_aload_n E dX6_cost_36 rfl 1 rfl ?_
        refine g_iload_n E dX6_cost_37 rfl 3 rfl ?_
        refine g_iload_n E dX6_cost_38 rfl 4 rfl ?_
        refine k_invV (n := 2) (rest := []) E (m_X6_detourBy (xl C) E.tr (xD C) (xy C) e0 (s := s) (cl := cl) hM hM1 hln hl6 hst hn6 hsp) gX6_cost_X6_detourBy rfl rfl rfl (by decide +kernel) ⟨Nat.le_of_ble_eq_true rfl, Nat.le_of_ble_eq_true rfl⟩ rfl rfl (Nat.le_of_ble_eq_true rfl) dX6_cost_39 ⟨Nat.le_of_ble_eq_true rfl, Nat.le_of_ble_eq_true rfl⟩ (fun v9 s9_39 h9 => ?_)
        obtain ⟨hv9, g_39, hS9⟩ := h9
        rw [hv9, hS9]
        show G C (mW (xy C) ma (mFar s g_39)) 0 0 42 [(4, .int (1)), (0, .ref (ma 0)), (1, .int (nI k)), (2, .int (nI li)), (3, .int (cl))] [.int ((mdt s cl M li n))]
        refine g_aload_n E dX6_cost_42 rfl 1 rfl ?_
        refine g_iload_n E dX6_cost_43 rfl 3 rfl ?_
        refine g_iload_n E dX6_cost_44 rfl 4 rfl ?_
        refine g_iconst (v := 1) E dX6_cost_45 (by decide) ?_
        refine g_aload_n E dX6_cost_46 rfl 1 rfl ?_
        refine k_get_lane (s := (mFar s g_39)) E (fun _ h => (List.mem_cons_of_mem _ (List.mem_append_right _ h))) (List.mem_cons_of_mem _ (List.mem_append_left _ (List.mem_of_getElem? (i := 1) rfl))) dX6_cost_47 ?_
        refine g_iload_n E dX6_cost_50 rfl 2 rfl ?_
        refine k_ald_lane (s := (mFar s g_39)) E k rfl (by omega) dX6_cost_51 ?_
        rw [show mr (mFar s g_39) 12 k = (mr s 12 k) from (by rw [mFar_oth (by decide)])]
        show G C (mW (xy C) ma (mFar s g_39)) 0 0 52 [(4, .int (1)), (0, .ref (ma 0)), (1, .int (nI k)), (2, .int (nI li)), (3, .int (cl))] [.int ((mr s 12 k)), .int (1), .int (cl), .int (nI li), .ref (ma 0), .int ((mdt s cl M li n))]
        refine g_ishl E dX6_cost_52 ?_
        refine g_iconst (v := (-1)) E dX6_cost_53 (by decide) ?_
        refine g_ixor E dX6_cost_54 ?_
        refine g_iand E dX6_cost_55 ?_
        refine k_invV (n := 2) (rest := [.int ((mdt s cl M li n))]) E (m_X6_detourBy (xl C) E.tr (xD C) (xy C) e0 (s := (mFar s g_39)) (cl := (cl &&& ((1 <<< ((mr s 12 k) &&& 31)) ^^^ (-1)))) hM hM1 (mFar_MLN hln) hl6 (by rw [mFar_oth (by decide)]; exact hst) hn6 (mFar_MSP hsp)) gX6_cost_X6_detourBy rfl rfl rfl (by decide +kernel) ⟨Nat.le_of_ble_eq_true rfl, Nat.le_of_ble_eq_true rfl⟩ rfl rfl (Nat.le_of_ble_eq_true rfl) dX6_cost_56 ⟨Nat.le_of_ble_eq_true rfl, Nat.le_of_ble_eq_true rfl⟩ (fun v9 s9_56 h9 => ?_)
        obtain ⟨hv9, g_56, hS9⟩ := h9
        rw [hv9, hS9, mFar_mFar, mFar_mdt]
        show G C (mW (xy C) ma (mFar s g_56)) 0 0 59 [(4, .int (1)), (0, .ref (ma 0)), (1, .int (nI k)), (2, .int (nI li)), (3, .int (cl))] [.int ((mdt s (cl &&& ((1 <<< ((mr s 12 k) &&& 31)) ^^^ (-1))) M li n)), .int ((mdt s cl M li n))]
        refine g_isub E dX6_cost_59 ?_
        refine g_goto (tgt := 64) E dX6_cost_60 (by decide) ?_
        exact g_iret E hE hr dX6_cost_64 (Nat.le_of_ble_eq_true rfl) (Nat.le_of_ble_eq_true rfl) ⟨(mFar s g_56), rfl, by rw [show mcost s np cl M li n k = _ from if_pos ⟨c_7, c_21⟩], _, rfl⟩
abbrev rm_X6_way : Room := { frames := 2, cells := 0, slots := 0, locals := 45 }
set_option maxHeartbeats 4000000 in
set_option maxRecDepth 100000 in
theorem m_X6_way (l : Launch) (hl : l.stackTraces = false) (D : va_G) (cy : Nat → ClassId) (e0 : Nat) {ma : Nat → Nat} {s : mS} {np : Nat} (hp0 : mi s 21 = nI np) (hp1 : np ≤ 40) {M : Nat} (hM : mi s 5 = nI M) (hM1 : M ≤ 24) (hln : MLN s M) {x y : Int32} : mMet l yX6_way wsX6_way rm_X6_way D cy e0 [.ref (ma 0), .int (x), .int (y)] ma s (fun v s' => (∃ a b, a < 10 ∧ b < 10 ∧ x = nI a ∧ y = nI b ∧ v = some (.int (if mds s (mcl s np M) M a b = 1000000 then -1 else mds s (mcl s np M) M a b)) ∧ ∃ g, s' = mFar (muI s 0 0) g) ∨ (¬ (JN x ∧ JN y) ∧ v = some (.int 0) ∧ s' = muI s 0 1)) := by
  refine gMet.of (cc := cX6_way) (maxL := 4) (ret := (some .int)) hl (by decide) rfl (Nat.le_of_ble_eq_true rfl) ?_
  intro C E h1 h2 h3 hr hnm hT hE
  subst h1; subst h2; subst h3
  have E : gOk C cX6_way 4 wsX6_way RX6 e0 rm_X6_way := E
  show G C (mW (xy C) ma s) 0 0 0 [(0, .ref (ma 0)), (1, .int (x)), (2, .int (y))] []
  refine g_aload_n E dX6_way_0 rfl 0 rfl ?_
  refine g_iload_n E dX6_way_1 rfl 1 rfl ?_
  refine k_invS (n := 1) (rest := [.ref (ma 0)]) E (m_X6_isJunction (xl C) E.tr (xD C) (xy C) e0 ) gX6_way_X6_isJunction rfl rfl rfl (by decide +kernel) ⟨Nat.le_of_ble_eq_true rfl, Nat.le_of_ble_eq_true rfl⟩ rfl rfl (Nat.le_of_ble_eq_true rfl) dX6_way_2 ⟨Nat.le_of_ble_eq_true rfl, Nat.le_of_ble_eq_true rfl⟩ (fun v9 s9_2 h9 => ?_)
  obtain ⟨hv9, hS9⟩ := h9
  rw [hv9, hS9]
  show G C (mW (xy C) ma s) 0 0 5 [(0, .ref (ma 0)), (1, .int (x)), (2, .int (y))] [.int ((isIx (x) 10)), .ref (ma 0)]
  refine g_if_eq (tgt := 19) E dX6_way_5 (by decide) (fun c_5 => ?_) (fun c_5 => ?_)
  · refine g_iconst (v := 1) E dX6_way_19 (by decide) ?_
    refine k_invV (n := 1) (rest := []) E (m_X6_isFine (xl C) E.tr (xD C) (xy C) e0 (s := s) (x := 1)) gX6_way_X6_isFine rfl rfl rfl (by decide +kernel) ⟨Nat.le_of_ble_eq_true rfl, Nat.le_of_ble_eq_true rfl⟩ rfl rfl (Nat.le_of_ble_eq_true rfl) dX6_way_20 ⟨Nat.le_of_ble_eq_true rfl, Nat.le_of_ble_eq_true rfl⟩ (fun v9 s9_20 h9 => ?_)
    obtain ⟨hv9, hS9⟩ := h9
    rw [hv9, hS9]
    rw [show bI ((1 : Int32) = 0) = 0 by decide]
    show G C (mW (xy C) ma (muI s 0 (1))) 0 0 23 [(0, .ref (ma 0)), (1, .int (x)), (2, .int (y))] [.int (0)]
    refine g_if_ne (tgt := 28) E dX6_way_23 (by decide) (fun c_23 => ?_) (fun c_23 => ?_)
    · exact absurd c_23 (by decide)
    · refine g_iconst (v := 0) E dX6_way_26 (by decide) ?_
      exact g_iret E hE hr dX6_way_27 (Nat.le_of_ble_eq_true rfl) (Nat.le_of_ble_eq_true rfl) ⟨(muI s 0 (1)), rfl, Or.inr ⟨fun q => q.1.elim fun a g => isIx_f (by omega) c_5 a g.1 g.2, rfl, rfl⟩⟩
  · obtain ⟨a, ha, hxa⟩ := isIx_t (by omega) c_5
    subst hxa
    show G C (mW (xy C) ma s) 0 0 8 [(0, .ref (ma 0)), (1, .int (nI a)), (2, .int (y))] [.ref (ma 0)]
    refine g_iload_n E dX6_way_8 rfl 2 rfl ?_
    refine k_invS (n := 1) (rest := [.ref (ma 0)]) E (m_X6_isJunction (xl C) E.tr (xD C) (xy C) e0 ) gX6_way_X6_isJunction rfl rfl rfl (by decide +kernel) ⟨Nat.le_of_ble_eq_true rfl, Nat.le_of_ble_eq_true rfl⟩ rfl rfl (Nat.le_of_ble_eq_true rfl) dX6_way_9 ⟨Nat.le_of_ble_eq_true rfl, Nat.le_of_ble_eq_true rfl⟩ (fun v9 s9_9 h9 => ?_)
    obtain ⟨hv9, hS9⟩ := h9
    rw [hv9, hS9]
    show G C (mW (xy C) ma s) 0 0 12 [(0, .ref (ma 0)), (1, .int (nI a)), (2, .int (y))] [.int ((isIx (y) 10)), .ref (ma 0)]
    refine g_if_eq (tgt := 19) E dX6_way_12 (by decide) (fun c_12 => ?_) (fun c_12 => ?_)
    · refine g_iconst (v := 1) E dX6_way_19 (by decide) ?_
      refine k_invV (n := 1) (rest := []) E (m_X6_isFine (xl C) E.tr (xD C) (xy C) e0 (s := s) (x := 1)) gX6_way_X6_isFine rfl rfl rfl (by decide +kernel) ⟨Nat.le_of_ble_eq_true rfl, Nat.le_of_ble_eq_true rfl⟩ rfl rfl (Nat.le_of_ble_eq_true rfl) dX6_way_20 ⟨Nat.le_of_ble_eq_true rfl, Nat.le_of_ble_eq_true rfl⟩ (fun v9 s9_20 h9 => ?_)
      obtain ⟨hv9, hS9⟩ := h9
      rw [hv9, hS9]
      rw [show bI ((1 : Int32) = 0) = 0 by decide]
      show G C (mW (xy C) ma (muI s 0 (1))) 0 0 23 [(0, .ref (ma 0)), (1, .int (nI a)), (2, .int (y))] [.int (0)]
      refine g_if_ne (tgt := 28) E dX6_way_23 (by decide) (fun c_23 => ?_) (fun c_23 => ?_)
      · exact absurd c_23 (by decide)
      · refine g_iconst (v := 0) E dX6_way_26 (by decide) ?_
        exact g_iret E hE hr dX6_way_27 (Nat.le_of_ble_eq_true rfl) (Nat.le_of_ble_eq_true rfl) ⟨(muI s 0 (1)), rfl, Or.inr ⟨fun q => q.2.elim fun a g => isIx_f (by omega) c_12 a g.1 g.2, rfl, rfl⟩⟩
    · obtain ⟨b, hb, hxb⟩ := isIx_t (by omega) c_12
      subst hxb
      show G C (mW (xy C) ma s) 0 0 15 [(0, .ref (ma 0)), (1, .int (nI a)), (2, .int (nI b))] [.ref (ma 0)]
      refine g_iconst (v := 0) E dX6_way_15 (by decide) ?_
      refine g_goto (tgt := 20) E dX6_way_16 (by decide) ?_
      refine k_invV (n := 1) (rest := []) E (m_X6_isFine (xl C) E.tr (xD C) (xy C) e0 (s := s) (x := 0)) gX6_way_X6_isFine rfl rfl rfl (by decide +kernel) ⟨Nat.le_of_ble_eq_true rfl, Nat.le_of_ble_eq_true rfl⟩ rfl rfl (Nat.le_of_ble_eq_true rfl) dX6_way_20 ⟨Nat.le_of_ble_eq_true rfl, Nat.le_of_ble_eq_true rfl⟩ (fun v9 s9_20 h9 => ?_)
      obtain ⟨hv9, hS9⟩ := h9
      rw [hv9, hS9]
      rw [show bI ((0 : Int32) = 0) = 1 by decide]
      show G C (mW (xy C) ma (muI s 0 (0))) 0 0 23 [(0, .ref (ma 0)), (1, .int (nI a)), (2, .int (nI b))] [.int (1)]
      refine g_if_ne (tgt := 28) E dX6_way_23 (by decide) (fun c_23 => ?_) (fun c_23 => ?_)
      · refine g_aload_n E dX6_way_28 rfl 0 rfl ?_
        refine g_iload_n E dX6_way_29 rfl 1 rfl ?_
        refine g_iload_n E dX6_way_30 rfl 2 rfl ?_
        refine g_aload_n E dX6_way_31 rfl 0 rfl ?_
        refine k_invV (n := 0) (rest := [.int (nI b), .int (nI a), .ref (ma 0)]) E (m_X6_closed (xl C) E.tr (xD C) (xy C) e0 (s := (muI s 0 (0))) hp0 hp1 hM hM1) gX6_way_X6_closed rfl rfl rfl (by decide +kernel) ⟨Nat.le_of_ble_eq_true rfl, Nat.le_of_ble_eq_true rfl⟩ rfl rfl (Nat.le_of_ble_eq_true rfl) dX6_way_32 ⟨Nat.le_of_ble_eq_true rfl, Nat.le_of_ble_eq_true rfl⟩ (fun v9 s9_32 h9 => ?_)
        obtain ⟨hv9, hS9⟩ := h9
        rw [hv9, hS9, mcl_muI]
        show G C (mW (xy C) ma (muI s 0 (0))) 0 0 35 [(0, .ref (ma 0)), (1, .int (nI a)), (2, .int (nI b))] [.int ((mcl s np M)), .int (nI b), .int (nI a), .ref (ma 0)]
        refine k_invV (n := 3) (rest := []) E (m_X6_shortest (xl C) E.tr (xD C) (xy C) e0 (s := (muI s 0 (0))) (cl := (mcl s np M)) hM hM1 hln ha hb) gX6_way_X6_shortest rfl rfl rfl (by decide +kernel) ⟨Nat.le_of_ble_eq_true rfl, Nat.le_of_ble_eq_true rfl⟩ rfl rfl (Nat.le_of_ble_eq_true rfl) dX6_way_35 ⟨Nat.le_of_ble_eq_true rfl, Nat.le_of_ble_eq_true rfl⟩ (fun v9 s9_35 h9 => ?_)
        obtain ⟨hv9, g, hS9⟩ := h9
        rw [hv9, hS9]
        show G C (mW (xy C) ma (mFar (muI s 0 (0)) g)) 0 0 38 [(0, .ref (ma 0)), (1, .int (nI a)), (2, .int (nI b))] [.int ((mds s (mcl s np M) M a b))]
        refine g_istore_n (L' := [(3, .int ((mds s (mcl s np M) M a b))), (0, .ref (ma 0)), (1, .int (nI a)), (2, .int (nI b))]) E dX6_way_38 rfl (by decide) rfl ?_
        refine g_iload_n E dX6_way_39 rfl 0 rfl ?_
        refine g_ldc E (List.mem_cons_of_mem _ (List.mem_append_left _ (List.mem_append_left _ (List.mem_of_getElem? (i := 0) rfl)))) dX6_way_40 ?_
        refine g_icmp_ne (tgt := 49) E dX6_way_42 (by decide) (fun c_42 => ?_) (fun c_42 => ?_)
        · refine g_iload_n E dX6_way_49 rfl 0 rfl ?_
          exact g_iret E hE hr dX6_way_50 (Nat.le_of_ble_eq_true rfl) (Nat.le_of_ble_eq_true rfl) ⟨(mFar (muI s 0 (0)) g), rfl, Or.inl ⟨a, b, ha, hb, rfl, rfl, congrArg (fun z => some (Value.int z)) (if_neg c_42).symm, g, rfl⟩⟩
        · refine g_iconst (v := (-1)) E dX6_way_45 (by decide) ?_
          refine g_goto (tgt := 50) E dX6_way_46 (by decide) ?_
          exact g_iret E hE hr dX6_way_50 (Nat.le_of_ble_eq_true rfl) (Nat.le_of_ble_eq_true rfl) ⟨(mFar (muI s 0 (0)) g), rfl, Or.inl ⟨a, b, ha, hb, rfl, rfl, congrArg (fun z => some (Value.int z)) (if_pos c_42).symm, g, rfl⟩⟩
      · exact absurd c_23 (by decide)
