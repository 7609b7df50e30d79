abbrev rm_X1_isThere : Room := { frames := 0, cells := 0, slots := 0, locals := 0 }
set_option maxHeartbeats 4000000 in
set_option maxRecDepth 100000 in
theorem m_X1_isThere (l : Launch) (hl : l.stackTraces = false) (D : va_G) (cy : Nat → ClassId) (e0 : Nat) {S : wS}  {a : Nat} (ham : a ∈ sL S) (hak : sK S a = 1) : cMet l yX1_isThere wsX1_isThere rm_X1_isThere D cy e0 [.ref (a)] S (fun v S' => v = some (.int (bI (¬ sJ S 1 a = 0))) ∧ S' = S) (fun _ _ => False) 0 0 := by
  refine gMet.of (cc := cX1_isThere) (maxL := 1) (ret := (some .boolean)) hl (by decide) rfl (Nat.le_of_ble_eq_true rfl) ?_
  intro C E h1 h2 h3 hr hnm hT hE
  subst h1; subst h2; subst h3
  have E : gOk C cX1_isThere 1 wsX1_isThere RX1 e0 rm_X1_isThere := E
  show G C (cW (xy C) S) 0 0 0 [(0, .ref (a))] []
  refine g_aload_n E dX1_isThere_0 rfl 0 rfl ?_
  refine p_get_Opening_members (S := S) E ham hak (fun _ h => (List.mem_cons_of_mem _ (List.mem_append_right _ h))) (List.mem_cons_of_mem _ (List.mem_append_left _ (List.mem_of_getElem? (i := 0) rfl))) dX1_isThere_1 ?_
  refine g_lconst (v := 0) E dX1_isThere_4 (by decide) ?_
  refine g_lcmp E dX1_isThere_5 ?_
  refine g_if_eq (tgt := 13) E dX1_isThere_6 (by decide) (fun c_6 => ?_) (fun c_6 => ?_)
  · refine g_iconst (v := 0) E dX1_isThere_13 (by decide) ?_
    exact g_zret E hE hr (Or.inl rfl) dX1_isThere_14 (Nat.le_of_ble_eq_true rfl) (Nat.le_of_ble_eq_true rfl) ⟨S, rfl, by rw [bI_f (P := ¬ sJ S 1 a = 0) (fun q => q ((lg_cmp_eq _ _).mp c_6))], rfl⟩
  · refine g_iconst (v := 1) E dX1_isThere_9 (by decide) ?_
    refine g_goto (tgt := 14) E dX1_isThere_10 (by decide) ?_
    exact g_zret E hE hr (Or.inr rfl) dX1_isThere_14 (Nat.le_of_ble_eq_true rfl) (Nat.le_of_ble_eq_true rfl) ⟨S, rfl, by rw [bI_t (P := ¬ sJ S 1 a = 0) (fun q => c_6 ((lg_cmp_eq _ _).mpr q))], rfl⟩
abbrev rm_X1_meets : Room := { frames := 0, cells := 0, slots := 0, locals := 0 }
set_option maxHeartbeats 4000000 in
set_option maxRecDepth 100000 in
theorem m_X1_meets (l : Launch) (hl : l.stackTraces = false) (D : va_G) (cy : Nat → ClassId) (e0 : Nat) {S : wS}  {a q : Nat} (ham : a ∈ sL S) (hak : sK S a = 1) (hqm : q ∈ sL S) (hqk : sK S q = 2) : cMet l yX1_meets wsX1_meets rm_X1_meets D cy e0 [.ref (a), .ref (q)] S (fun v S' => v = some (.int (bI (sI S 8 q < sI S 4 a ∧ sI S 3 a < sI S 9 q))) ∧ S' = S) (fun _ _ => False) 0 0 := by
  refine gMet.of (cc := cX1_meets) (maxL := 2) (ret := (some .boolean)) hl (by decide) rfl (Nat.le_of_ble_eq_true rfl) ?_
  intro C E h1 h2 h3 hr hnm hT hE
  subst h1; subst h2; subst h3
  have E : gOk C cX1_meets 2 wsX1_meets RX1 e0 rm_X1_meets := E
  show G C (cW (xy C) S) 0 0 0 [(0, .ref (a)), (1, .ref (q))] []
  refine g_aload_n E dX1_meets_0 rfl 1 rfl ?_
  refine p_getN_Permit_appliedFrom (S := S) E hqm hqk (fun _ h => (List.mem_cons_of_mem _ (List.mem_append_left _ (List.mem_append_right _ h)))) tbF_RX1_25 dX1_meets_1 ?_
  refine g_aload_n E dX1_meets_4 rfl 0 rfl ?_
  refine p_get_Opening_end (S := S) E ham hak (fun _ h => (List.mem_cons_of_mem _ (List.mem_append_right _ h))) (List.mem_cons_of_mem _ (List.mem_append_left _ (List.mem_append_left _ (List.mem_of_getElem? (i := 0) rfl)))) dX1_meets_5 ?_
  refine g_icmp_ge (tgt := 26) E dX1_meets_8 (by decide) (fun c_8 => ?_) (fun c_8 => ?_)
  · refine g_iconst (v := 0) E dX1_meets_26 (by decide) ?_
    exact g_zret E hE hr (Or.inl rfl) dX1_meets_27 (Nat.le_of_ble_eq_true rfl) (Nat.le_of_ble_eq_true rfl) ⟨S, rfl, by rw [bI_f (fun q => Int32.not_le.mpr q.1 c_8)], rfl⟩
  · refine g_aload_n E dX1_meets_11 rfl 0 rfl ?_
    refine p_get_Opening_first (S := S) E ham hak (fun _ h => (List.mem_cons_of_mem _ (List.mem_append_right _ h))) (List.mem_cons_of_mem _ (List.mem_append_left _ (List.mem_append_left _ (List.mem_of_getElem? (i := 1) rfl)))) dX1_meets_12 ?_
    refine g_aload_n E dX1_meets_15 rfl 1 rfl ?_
    refine p_getN_Permit_appliedEnd (S := S) E hqm hqk (fun _ h => (List.mem_cons_of_mem _ (List.mem_append_left _ (List.mem_append_right _ h)))) tbF_RX1_30 dX1_meets_16 ?_
    refine g_icmp_ge (tgt := 26) E dX1_meets_19 (by decide) (fun c_19 => ?_) (fun c_19 => ?_)
    · refine g_iconst (v := 0) E dX1_meets_26 (by decide) ?_
      exact g_zret E hE hr (Or.inl rfl) dX1_meets_27 (Nat.le_of_ble_eq_true rfl) (Nat.le_of_ble_eq_true rfl) ⟨S, rfl, by rw [bI_f (fun q => Int32.not_le.mpr q.2 c_19)], rfl⟩
    · refine g_iconst (v := 1) E dX1_meets_22 (by decide) ?_
      refine g_goto (tgt := 27) E dX1_meets_23 (by decide) ?_
      exact g_zret E hE hr (Or.inr rfl) dX1_meets_27 (Nat.le_of_ble_eq_true rfl) (Nat.le_of_ble_eq_true rfl) ⟨S, rfl, by rw [bI_t ⟨Int32.not_le.mp c_8, Int32.not_le.mp c_19⟩], rfl⟩
abbrev rm_X1_firstWith : Room := { frames := 1, cells := 0, slots := 0, locals := 24 }
set_option maxHeartbeats 4000000 in
set_option maxRecDepth 100000 in
theorem m_X1_firstWith (l : Launch) (hl : l.stackTraces = false) (D : va_G) (cy : Nat → ClassId) (e0 : Nat) {S : wS}  {a q : Nat} (ham : a ∈ sL S) (hak : sK S a = 1) (hqm : q ∈ sL S) (hqk : sK S q = 2) : cMet l yX1_firstWith wsX1_firstWith rm_X1_firstWith D cy e0 [.ref (a), .ref (q)] S (fun v S' => v = some (.int (mnI (sI S 3 a) (sI S 8 q))) ∧ S' = S) (fun _ _ => False) 0 0 := by
  refine gMet.of (cc := cX1_firstWith) (maxL := 2) (ret := (some .int)) hl (by decide) rfl (Nat.le_of_ble_eq_true rfl) ?_
  intro C E h1 h2 h3 hr hnm hT hE
  subst h1; subst h2; subst h3
  have E : gOk C cX1_firstWith 2 wsX1_firstWith RX1 e0 rm_X1_firstWith := E
  show G C (cW (xy C) S) 0 0 0 [(0, .ref (a)), (1, .ref (q))] []
  refine g_aload_n E dX1_firstWith_0 rfl 0 rfl ?_
  refine p_get_Opening_first (S := S) E ham hak (fun _ h => (List.mem_cons_of_mem _ (List.mem_append_left _ (List.mem_append_right _ h)))) (List.mem_cons_of_mem _ (List.mem_append_left _ (List.mem_append_left _ (List.mem_of_getElem? (i := 0) rfl)))) dX1_firstWith_1 ?_
  refine g_aload_n E dX1_firstWith_4 rfl 1 rfl ?_
  refine p_getN_Permit_appliedFrom (S := S) E hqm hqk (fun _ h => (List.mem_cons_of_mem _ (List.mem_append_right _ h))) tbF_RX1_25 dX1_firstWith_5 ?_
  refine g_mmin (rest := []) E (List.mem_cons_of_mem _ (List.mem_append_left _ (List.mem_append_left _ (List.mem_of_getElem? (i := 1) rfl)))) (List.mem_cons_of_mem _ (List.mem_append_left _ (List.mem_append_left _ (List.mem_of_getElem? (i := 2) rfl)))) (List.mem_cons_of_mem _ (List.mem_append_left _ (List.mem_append_left _ (List.mem_of_getElem? (i := 3) rfl)))) (List.mem_cons_of_mem _ (List.mem_append_left _ (List.mem_append_left _ (List.mem_of_getElem? (i := 4) rfl)))) dX1_firstWith_8 (Nat.le_of_ble_eq_true rfl) (Nat.le_of_ble_eq_true rfl) (Nat.le_of_ble_eq_true rfl) (Nat.le_of_ble_eq_true rfl) ?_
  exact g_iret E hE hr dX1_firstWith_11 (Nat.le_of_ble_eq_true rfl) (Nat.le_of_ble_eq_true rfl) ⟨S, rfl, rfl, rfl⟩
abbrev rm_X1_endWith : Room := { frames := 1, cells := 0, slots := 0, locals := 24 }
set_option maxHeartbeats 4000000 in
set_option maxRecDepth 100000 in
theorem m_X1_endWith (l : Launch) (hl : l.stackTraces = false) (D : va_G) (cy : Nat → ClassId) (e0 : Nat) {S : wS}  {a q : Nat} (ham : a ∈ sL S) (hak : sK S a = 1) (hqm : q ∈ sL S) (hqk : sK S q = 2) : cMet l yX1_endWith wsX1_endWith rm_X1_endWith D cy e0 [.ref (a), .ref (q)] S (fun v S' => v = some (.int (mxI (sI S 4 a) (sI S 9 q))) ∧ S' = S) (fun _ _ => False) 0 0 := by
  refine gMet.of (cc := cX1_endWith) (maxL := 2) (ret := (some .int)) hl (by decide) rfl (Nat.le_of_ble_eq_true rfl) ?_
  intro C E h1 h2 h3 hr hnm hT hE
  subst h1; subst h2; subst h3
  have E : gOk C cX1_endWith 2 wsX1_endWith RX1 e0 rm_X1_endWith := E
  show G C (cW (xy C) S) 0 0 0 [(0, .ref (a)), (1, .ref (q))] []
  refine g_aload_n E dX1_endWith_0 rfl 0 rfl ?_
  refine p_get_Opening_end (S := S) E ham hak (fun _ h => (List.mem_cons_of_mem _ (List.mem_append_left _ (List.mem_append_right _ h)))) (List.mem_cons_of_mem _ (List.mem_append_left _ (List.mem_append_left _ (List.mem_of_getElem? (i := 0) rfl)))) dX1_endWith_1 ?_
  refine g_aload_n E dX1_endWith_4 rfl 1 rfl ?_
  refine p_getN_Permit_appliedEnd (S := S) E hqm hqk (fun _ h => (List.mem_cons_of_mem _ (List.mem_append_right _ h))) tbF_RX1_30 dX1_endWith_5 ?_
  refine g_mmax (rest := []) E (List.mem_cons_of_mem _ (List.mem_append_left _ (List.mem_append_left _ (List.mem_of_getElem? (i := 1) rfl)))) (List.mem_cons_of_mem _ (List.mem_append_left _ (List.mem_append_left _ (List.mem_of_getElem? (i := 2) rfl)))) (List.mem_cons_of_mem _ (List.mem_append_left _ (List.mem_append_left _ (List.mem_of_getElem? (i := 3) rfl)))) (List.mem_cons_of_mem _ (List.mem_append_left _ (List.mem_append_left _ (List.mem_of_getElem? (i := 4) rfl)))) dX1_endWith_8 (Nat.le_of_ble_eq_true rfl) (Nat.le_of_ble_eq_true rfl) (Nat.le_of_ble_eq_true rfl) (Nat.le_of_ble_eq_true rfl) ?_
  exact g_iret E hE hr dX1_endWith_11 (Nat.le_of_ble_eq_true rfl) (Nat.le_of_ble_eq_true rfl) ⟨S, rfl, rfl, rfl⟩
abbrev rm_X1_hoursWith : Room := { frames := 2, cells := 0, slots := 0, locals := 45 }
set_option maxHeartbeats 4000000 in
set_option maxRecDepth 100000 in
theorem m_X1_hoursWith (l : Launch) (hl : l.stackTraces = false) (D : va_G) (cy : Nat → ClassId) (e0 : Nat) {S : wS}  {a q : Nat} (ham : a ∈ sL S) (hak : sK S a = 1) (hqm : q ∈ sL S) (hqk : sK S q = 2) : cMet l yX1_hoursWith wsX1_hoursWith rm_X1_hoursWith D cy e0 [.ref (a), .ref (q)] S (fun v S' => v = some (.int (mxI (sI S 4 a) (sI S 9 q) - mnI (sI S 3 a) (sI S 8 q))) ∧ S' = S) (fun _ _ => False) 0 0 := by
  refine gMet.of (cc := cX1_hoursWith) (maxL := 2) (ret := (some .int)) hl (by decide) rfl (Nat.le_of_ble_eq_true rfl) ?_
  intro C E h1 h2 h3 hr hnm hT hE
  subst h1; subst h2; subst h3
  have E : gOk C cX1_hoursWith 2 wsX1_hoursWith RX1 e0 rm_X1_hoursWith := E
  show G C (cW (xy C) S) 0 0 0 [(0, .ref (a)), (1, .ref (q))] []
  refine g_aload_n E dX1_hoursWith_0 rfl 0 rfl ?_
  refine g_aload_n E dX1_hoursWith_1 rfl 1 rfl ?_
  refine c_invV (n := 1) (rest := []) E (m_X1_endWith (xl C) E.tr (xD C) (xy C) e0 (S := S) ham hak hqm hqk) ham gX1_hoursWith_X1_endWith rfl rfl rfl (by decide +kernel) ⟨Nat.le_of_ble_eq_true rfl, Nat.le_of_ble_eq_true rfl⟩ (wF_Opening hak) rfl rfl rfl rfl (Nat.le_of_ble_eq_true rfl) dX1_hoursWith_2 ⟨Nat.le_of_ble_eq_true rfl, Nat.le_of_ble_eq_true rfl⟩ (fun _ _ h9 => h9.elim) (fun v9 S9 h9 => ?_)
  obtain ⟨hv9, hS9⟩ := h9
  rw [hv9, hS9]
  show G C (cW (xy C) S) 0 0 5 [(0, .ref (a)), (1, .ref (q))] [.int ((mxI (sI S 4 (a)) (sI S 9 (q))))]
  refine g_aload_n E dX1_hoursWith_5 rfl 0 rfl ?_
  refine g_aload_n E dX1_hoursWith_6 rfl 1 rfl ?_
  refine c_invV (n := 1) (rest := [.int ((mxI (sI S 4 (a)) (sI S 9 (q))))]) E (m_X1_firstWith (xl C) E.tr (xD C) (xy C) e0 (S := S) ham hak hqm hqk) ham gX1_hoursWith_X1_firstWith rfl rfl rfl (by decide +kernel) ⟨Nat.le_of_ble_eq_true rfl, Nat.le_of_ble_eq_true rfl⟩ (wF_Opening hak) rfl rfl rfl rfl (Nat.le_of_ble_eq_true rfl) dX1_hoursWith_7 ⟨Nat.le_of_ble_eq_true rfl, Nat.le_of_ble_eq_true rfl⟩ (fun _ _ h9 => h9.elim) (fun v9 S9 h9 => ?_)
  obtain ⟨hv9, hS9⟩ := h9
  rw [hv9, hS9]
  show G C (cW (xy C) S) 0 0 10 [(0, .ref (a)), (1, .ref (q))] [.int ((mnI (sI S 3 (a)) (sI S 8 (q)))), .int ((mxI (sI S 4 (a)) (sI S 9 (q))))]
  refine g_isub E dX1_hoursWith_10 ?_
  exact g_iret E hE hr dX1_hoursWith_11 (Nat.le_of_ble_eq_true rfl) (Nat.le_of_ble_eq_true rfl) ⟨S, rfl, rfl, rfl⟩
abbrev rm_X1_release : Room := { frames := 0, cells := 0, slots := 0, locals := 0 }
set_option maxHeartbeats 4000000 in
set_option maxRecDepth 100000 in
theorem m_X1_release (l : Launch) (hl : l.stackTraces = false) (D : va_G) (cy : Nat → ClassId) (e0 : Nat) {S : wS}  {a q : Nat} (ham : a ∈ sL S) (hak : sK S a = 1) (hqm : q ∈ sL S) (hqk : sK S q = 2) : cMet l yX1_release wsX1_release rm_X1_release D cy e0 [.ref (a), .ref (q)] S (fun v S' => v = none ∧ S' = uJ S 1 a (sJ S 1 a &&& (((1 : Int64) <<< ((sI S 5 q : Int32).toInt64 &&& 63)) ^^^ (-1)))) (fun _ _ => False) 0 0 := by
  refine gMet.of (cc := cX1_release) (maxL := 2) (ret := none) hl (by decide) rfl (Nat.le_of_ble_eq_true rfl) ?_
  intro C E h1 h2 h3 hr hnm hT hE
  subst h1; subst h2; subst h3
  have E : gOk C cX1_release 2 wsX1_release RX1 e0 rm_X1_release := E
  show G C (cW (xy C) S) 0 0 0 [(0, .ref (a)), (1, .ref (q))] []
  refine g_aload_n E dX1_release_0 rfl 0 rfl ?_
  refine g_dup E dX1_release_1 rfl ?_
  refine p_get_Opening_members (S := S) E ham hak (fun _ h => (List.mem_cons_of_mem _ (List.mem_append_left _ (List.mem_append_right _ h)))) (List.mem_cons_of_mem _ (List.mem_append_left _ (List.mem_append_left _ (List.mem_of_getElem? (i := 0) rfl)))) dX1_release_2 ?_
  refine g_lconst (v := 1) E dX1_release_5 (by decide) ?_
  refine g_aload_n E dX1_release_6 rfl 1 rfl ?_
  refine p_getN_Permit_number (S := S) E hqm hqk (fun _ h => (List.mem_cons_of_mem _ (List.mem_append_right _ h))) tbF_RX1_49 dX1_release_7 ?_
  refine g_lshl E dX1_release_10 rfl ?_
  refine g_ldc2 E (List.mem_cons_of_mem _ (List.mem_append_left _ (List.mem_append_left _ (List.mem_of_getElem? (i := 1) rfl)))) dX1_release_11 ?_
  refine g_lxor E dX1_release_14 ?_
  refine g_land E dX1_release_15 ?_
  refine p_put_Opening_members (S := S) (v := (sJ S 1 (a) &&& ((1 <<< ((sI S 5 (q) : Int32).toInt64 &&& 63)) ^^^ (-1)))) E ham hak (fun _ h => (List.mem_cons_of_mem _ (List.mem_append_left _ (List.mem_append_right _ h)))) (List.mem_cons_of_mem _ (List.mem_append_left _ (List.mem_append_left _ (List.mem_of_getElem? (i := 0) rfl)))) rfl dX1_release_16 ?_
  exact g_vret E hE hr dX1_release_19 (Nat.le_of_ble_eq_true rfl) (Nat.le_of_ble_eq_true rfl) ⟨(uJ S 1 (a) ((sJ S 1 (a) &&& ((1 <<< ((sI S 5 (q) : Int32).toInt64 &&& 63)) ^^^ (-1))))), rfl, rfl, rfl⟩
abbrev rm_X1_admit : Room := { frames := 2, cells := 0, slots := 0, locals := 45 }
set_option maxHeartbeats 4000000 in
set_option maxRecDepth 100000 in
theorem m_X1_admit (l : Launch) (hl : l.stackTraces = false) (D : va_G) (cy : Nat → ClassId) (e0 : Nat) {S : wS}  {a q : Nat} (ham : a ∈ sL S) (hak : sK S a = 1) (hqm : q ∈ sL S) (hqk : sK S q = 2) : cMet l yX1_admit wsX1_admit rm_X1_admit D cy e0 [.ref (a), .ref (q)] S (fun v S' => v = none ∧ S' = uJ (uI (uI S 3 a (mnI (sI S 3 a) (sI S 8 q))) 4 a (mxI (sI S 4 a) (sI S 9 q))) 1 a (sJ S 1 a ||| ((1 : Int64) <<< ((sI S 5 q : Int32).toInt64 &&& 63)))) (fun _ _ => False) 0 0 := by
  refine gMet.of (cc := cX1_admit) (maxL := 2) (ret := none) hl (by decide) rfl (Nat.le_of_ble_eq_true rfl) ?_
  intro C E h1 h2 h3 hr hnm hT hE
  subst h1; subst h2; subst h3
  have E : gOk C cX1_admit 2 wsX1_admit RX1 e0 rm_X1_admit := E
  show G C (cW (xy C) S) 0 0 0 [(0, .ref (a)), (1, .ref (q))] []
  refine g_aload_n E dX1_admit_0 rfl 0 rfl ?_
  refine g_aload_n E dX1_admit_1 rfl 0 rfl ?_
  refine g_aload_n E dX1_admit_2 rfl 1 rfl ?_
  refine c_invV (n := 1) (rest := [.ref (a)]) E (m_X1_firstWith (xl C) E.tr (xD C) (xy C) e0 (S := S) ham hak hqm hqk) ham gX1_admit_X1_firstWith rfl rfl rfl (by decide +kernel) ⟨Nat.le_of_ble_eq_true rfl, Nat.le_of_ble_eq_true rfl⟩ (wF_Opening hak) rfl rfl rfl rfl (Nat.le_of_ble_eq_true rfl) dX1_admit_3 ⟨Nat.le_of_ble_eq_true rfl, Nat.le_of_ble_eq_true rfl⟩ (fun _ _ h9 => h9.elim) (fun v9 S9 h9 => ?_)
  obtain ⟨hv9, hS9⟩ := h9
  rw [hv9, hS9]
  show G C (cW (xy C) S) 0 0 6 [(0, .ref (a)), (1, .ref (q))] [.int ((mnI (sI S 3 (a)) (sI S 8 (q)))), .ref (a)]
  refine p_put_Opening_first (S := S) (v := (mnI (sI S 3 (a)) (sI S 8 (q)))) E ham hak (fun _ h => (List.mem_cons_of_mem _ (List.mem_append_left _ (List.mem_append_right _ h)))) (List.mem_cons_of_mem _ (List.mem_append_left _ (List.mem_append_left _ (List.mem_of_getElem? (i := 0) rfl)))) rfl dX1_admit_6 ?_
  refine g_aload_n E dX1_admit_9 rfl 0 rfl ?_
  refine g_aload_n E dX1_admit_10 rfl 0 rfl ?_
  refine g_aload_n E dX1_admit_11 rfl 1 rfl ?_
  refine c_invV (n := 1) (rest := [.ref (a)]) E (m_X1_endWith (xl C) E.tr (xD C) (xy C) e0 (S := (uI S 3 (a) ((mnI (sI S 3 (a)) (sI S 8 (q)))))) ham hak hqm hqk) ham gX1_admit_X1_endWith rfl rfl rfl (by decide +kernel) ⟨Nat.le_of_ble_eq_true rfl, Nat.le_of_ble_eq_true rfl⟩ (wF_Opening hak) rfl rfl rfl rfl (Nat.le_of_ble_eq_true rfl) dX1_admit_12 ⟨Nat.le_of_ble_eq_true rfl, Nat.le_of_ble_eq_true rfl⟩ (fun _ _ h9 => h9.elim) (fun v9 S9 h9 => ?_)
  obtain ⟨hv9, hS9⟩ := h9
  rw [hv9, hS9]
  show G C (cW (xy C) (uI S 3 (a) ((mnI (sI S 3 (a)) (sI S 8 (q)))))) 0 0 15 [(0, .ref (a)), (1, .ref (q))] [.int ((mxI (sI (uI S 3 (a) ((mnI (sI S 3 (a)) (sI S 8 (q))))) 4 (a)) (sI (uI S 3 (a) ((mnI (sI S 3 (a)) (sI S 8 (q))))) 9 (q)))), .ref (a)]
  refine p_put_Opening_end (S := (uI S 3 (a) ((mnI (sI S 3 (a)) (sI S 8 (q)))))) (v := (mxI (sI (uI S 3 (a) ((mnI (sI S 3 (a)) (sI S 8 (q))))) 4 (a)) (sI (uI S 3 (a) ((mnI (sI S 3 (a)) (sI S 8 (q))))) 9 (q)))) E ham hak (fun _ h => (List.mem_cons_of_mem _ (List.mem_append_left _ (List.mem_append_right _ h)))) (List.mem_cons_of_mem _ (List.mem_append_left _ (List.mem_append_left _ (List.mem_of_getElem? (i := 1) rfl)))) rfl dX1_admit_15 ?_
  refine g_aload_n E dX1_admit_18 rfl 0 rfl ?_
  refine g_dup E dX1_admit_19 rfl ?_
  refine p_get_Opening_members (S := (uI (uI S 3 (a) ((mnI (sI S 3 (a)) (sI S 8 (q))))) 4 (a) ((mxI (sI (uI S 3 (a) ((mnI (sI S 3 (a)) (sI S 8 (q))))) 4 (a)) (sI (uI S 3 (a) ((mnI (sI S 3 (a)) (sI S 8 (q))))) 9 (q)))))) E ham hak (fun _ h => (List.mem_cons_of_mem _ (List.mem_append_left _ (List.mem_append_right _ h)))) (List.mem_cons_of_mem _ (List.mem_append_left _ (List.mem_append_left _ (List.mem_of_getElem? (i := 2) rfl)))) dX1_admit_20 ?_
  refine g_lconst (v := 1) E dX1_admit_23 (by decide) ?_
  refine g_aload_n E dX1_admit_24 rfl 1 rfl ?_
  refine p_getN_Permit_number (S := (uI (uI S 3 (a) ((mnI (sI S 3 (a)) (sI S 8 (q))))) 4 (a) ((mxI (sI (uI S 3 (a) ((mnI (sI S 3 (a)) (sI S 8 (q))))) 4 (a)) (sI (uI S 3 (a) ((mnI (sI S 3 (a)) (sI S 8 (q))))) 9 (q)))))) E hqm hqk (fun _ h => (List.mem_cons_of_mem _ (List.mem_append_right _ h))) tbF_RX1_49 dX1_admit_25 ?_
  refine g_lshl E dX1_admit_28 rfl ?_
  refine g_lor E dX1_admit_29 ?_
  refine p_put_Opening_members (S := (uI (uI S 3 (a) ((mnI (sI S 3 (a)) (sI S 8 (q))))) 4 (a) ((mxI (sI (uI S 3 (a) ((mnI (sI S 3 (a)) (sI S 8 (q))))) 4 (a)) (sI (uI S 3 (a) ((mnI (sI S 3 (a)) (sI S 8 (q))))) 9 (q)))))) (v := (sJ (uI (uI S 3 (a) ((mnI (sI S 3 (a)) (sI S 8 (q))))) 4 (a) ((mxI (sI (uI S 3 (a) ((mnI (sI S 3 (a)) (sI S 8 (q))))) 4 (a)) (sI (uI S 3 (a) ((mnI (sI S 3 (a)) (sI S 8 (q))))) 9 (q))))) 1 (a) ||| (1 <<< ((sI (uI (uI S 3 (a) ((mnI (sI S 3 (a)) (sI S 8 (q))))) 4 (a) ((mxI (sI (uI S 3 (a) ((mnI (sI S 3 (a)) (sI S 8 (q))))) 4 (a)) (sI (uI S 3 (a) ((mnI (sI S 3 (a)) (sI S 8 (q))))) 9 (q))))) 5 (q) : Int32).toInt64 &&& 63)))) E ham hak (fun _ h => (List.mem_cons_of_mem _ (List.mem_append_left _ (List.mem_append_right _ h)))) (List.mem_cons_of_mem _ (List.mem_append_left _ (List.mem_append_left _ (List.mem_of_getElem? (i := 2) rfl)))) rfl dX1_admit_30 ?_
  exact g_vret E hE hr dX1_admit_33 (Nat.le_of_ble_eq_true rfl) (Nat.le_of_ble_eq_true rfl) ⟨(uJ (uI (uI S 3 (a) ((mnI (sI S 3 (a)) (sI S 8 (q))))) 4 (a) ((mxI (sI (uI S 3 (a) ((mnI (sI S 3 (a)) (sI S 8 (q))))) 4 (a)) (sI (uI S 3 (a) ((mnI (sI S 3 (a)) (sI S 8 (q))))) 9 (q))))) 1 (a) ((sJ (uI (uI S 3 (a) ((mnI (sI S 3 (a)) (sI S 8 (q))))) 4 (a) ((mxI (sI (uI S 3 (a) ((mnI (sI S 3 (a)) (sI S 8 (q))))) 4 (a)) (sI (uI S 3 (a) ((mnI (sI S 3 (a)) (sI S 8 (q))))) 9 (q))))) 1 (a) ||| (1 <<< ((sI (uI (uI S 3 (a) ((mnI (sI S 3 (a)) (sI S 8 (q))))) 4 (a) ((mxI (sI (uI S 3 (a) ((mnI (sI S 3 (a)) (sI S 8 (q))))) 4 (a)) (sI (uI S 3 (a) ((mnI (sI S 3 (a)) (sI S 8 (q))))) 9 (q))))) 5 (q) : Int32).toInt64 &&& 63))))), rfl, rfl, rfl⟩
abbrev rm_X2_firstHour : Room := { frames := 0, cells := 0, slots := 0, locals := 0 }
set_option maxHeartbeats 4000000 in
set_option maxRecDepth 100000 in
theorem m_X2_firstHour (l : Launch) (hl : l.stackTraces = false) (D : va_G) (cy : Nat → ClassId) (e0 : Nat) {S : wS} {c : Nat → Nat} {ad : Nat → Nat → Nat} {i : Nat → Nat → Int32} {j : Nat → Nat → Int64} {p : Nat → Nat → Option Nat} {r : Nat → Nat → Int32} (hI : CI e0 S c ad i j p r) {k : Nat} (hk : k < c 2) : cMet l yX2_firstHour wsX2_firstHour rm_X2_firstHour D cy e0 [.ref (ad 2 k)] S (fun v S' => v = some (.int ((p 2 k).elim (i 8 k) (i 3))) ∧ S' = S) (fun _ _ => False) 0 0 := by
  refine gMet.of (cc := cX2_firstHour) (maxL := 1) (ret := (some .int)) hl (by decide) rfl (Nat.le_of_ble_eq_true rfl) ?_
  intro C E h1 h2 h3 hr hnm hT hE
  subst h1; subst h2; subst h3
  have E : gOk C cX2_firstHour 1 wsX2_firstHour RX2 e0 rm_X2_firstHour := E
  show G C (cW (xy C) S) 0 0 0 [(0, .ref (ad 2 k))] []
  refine g_aload_n E dX2_firstHour_0 rfl 0 rfl ?_
  refine q_get_Permit_opening E hI hk (fun _ h => (List.mem_cons_of_mem _ (List.mem_append_left _ (List.mem_append_right _ h)))) (List.mem_cons_of_mem _ (List.mem_append_left _ (List.mem_append_left _ (List.mem_of_getElem? (i := 0) rfl)))) dX2_firstHour_1 (fun n_1 => ?_) (fun y_1 n_1 b_1 => ?_)
  · refine g_ifnonnullN E dX2_firstHour_4 ?_
    refine g_aload_n E dX2_firstHour_7 rfl 0 rfl ?_
    refine q_get_Permit_appliedFrom E hI hk (fun _ h => (List.mem_cons_of_mem _ (List.mem_append_left _ (List.mem_append_right _ h)))) (List.mem_cons_of_mem _ (List.mem_append_left _ (List.mem_append_left _ (List.mem_of_getElem? (i := 1) rfl)))) dX2_firstHour_8 ?_
    refine g_goto (tgt := 21) E dX2_firstHour_11 (by decide) ?_
    exact g_iret E hE hr dX2_firstHour_21 (Nat.le_of_ble_eq_true rfl) (Nat.le_of_ble_eq_true rfl) ⟨S, rfl, by rw [n_1]; rfl, rfl⟩
  · refine g_ifnonnull (tgt := 14) E dX2_firstHour_4 (by decide) ?_
    refine g_aload_n E dX2_firstHour_14 rfl 0 rfl ?_
    refine q_get_Permit_opening E hI hk (fun _ h => (List.mem_cons_of_mem _ (List.mem_append_left _ (List.mem_append_right _ h)))) (List.mem_cons_of_mem _ (List.mem_append_left _ (List.mem_append_left _ (List.mem_of_getElem? (i := 0) rfl)))) dX2_firstHour_15 (fun n_15 => ?_) (fun y_15 n_15 b_15 => ?_)
    · exact absurd (n_1.symm.trans n_15) (by simp)
    · obtain rfl : y_1 = y_15 := Option.some.inj (n_1.symm.trans n_15)
      refine q_getN_Opening_first E hI b_1 (fun _ h => (List.mem_cons_of_mem _ (List.mem_append_right _ h))) tbF_RX2_51 dX2_firstHour_18 ?_
      exact g_iret E hE hr dX2_firstHour_21 (Nat.le_of_ble_eq_true rfl) (Nat.le_of_ble_eq_true rfl) ⟨S, rfl, by rw [n_1]; rfl, rfl⟩
abbrev rm_X2_endHour : Room := { frames := 0, cells := 0, slots := 0, locals := 0 }
set_option maxHeartbeats 4000000 in
set_option maxRecDepth 100000 in
theorem m_X2_endHour (l : Launch) (hl : l.stackTraces = false) (D : va_G) (cy : Nat → ClassId) (e0 : Nat) {S : wS} {c : Nat → Nat} {ad : Nat → Nat → Nat} {i : Nat → Nat → Int32} {j : Nat → Nat → Int64} {p : Nat → Nat → Option Nat} {r : Nat → Nat → Int32} (hI : CI e0 S c ad i j p r) {k : Nat} (hk : k < c 2) : cMet l yX2_endHour wsX2_endHour rm_X2_endHour D cy e0 [.ref (ad 2 k)] S (fun v S' => v = some (.int ((p 2 k).elim (i 9 k) (i 4))) ∧ S' = S) (fun _ _ => False) 0 0 := by
  refine gMet.of (cc := cX2_endHour) (maxL := 1) (ret := (some .int)) hl (by decide) rfl (Nat.le_of_ble_eq_true rfl) ?_
  intro C E h1 h2 h3 hr hnm hT hE
  subst h1; subst h2; subst h3
  have E : gOk C cX2_endHour 1 wsX2_endHour RX2 e0 rm_X2_endHour := E
  show G C (cW (xy C) S) 0 0 0 [(0, .ref (ad 2 k))] []
  refine g_aload_n E dX2_endHour_0 rfl 0 rfl ?_
  refine q_get_Permit_opening E hI hk (fun _ h => (List.mem_cons_of_mem _ (List.mem_append_left _ (List.mem_append_right _ h)))) (List.mem_cons_of_mem _ (List.mem_append_left _ (List.mem_append_left _ (List.mem_of_getElem? (i := 0) rfl)))) dX2_endHour_1 (fun n_1 => ?_) (fun y_1 n_1 b_1 => ?_)
  · refine g_ifnonnullN E dX2_endHour_4 ?_
    refine g_aload_n E dX2_endHour_7 rfl 0 rfl ?_
    refine q_get_Permit_appliedEnd E hI hk (fun _ h => (List.mem_cons_of_mem _ (List.mem_append_left _ (List.mem_append_right _ h)))) (List.mem_cons_of_mem _ (List.mem_append_left _ (List.mem_append_left _ (List.mem_of_getElem? (i := 1) rfl)))) dX2_endHour_8 ?_
    refine g_goto (tgt := 21) E dX2_endHour_11 (by decide) ?_
    exact g_iret E hE hr dX2_endHour_21 (Nat.le_of_ble_eq_true rfl) (Nat.le_of_ble_eq_true rfl) ⟨S, rfl, by rw [n_1]; rfl, rfl⟩
  · refine g_ifnonnull (tgt := 14) E dX2_endHour_4 (by decide) ?_
    refine g_aload_n E dX2_endHour_14 rfl 0 rfl ?_
    refine q_get_Permit_opening E hI hk (fun _ h => (List.mem_cons_of_mem _ (List.mem_append_left _ (List.mem_append_right _ h)))) (List.mem_cons_of_mem _ (List.mem_append_left _ (List.mem_append_left _ (List.mem_of_getElem? (i := 0) rfl)))) dX2_endHour_15 (fun n_15 => ?_) (fun y_15 n_15 b_15 => ?_)
    · exact absurd (n_1.symm.trans n_15) (by simp)
    · obtain rfl : y_1 = y_15 := Option.some.inj (n_1.symm.trans n_15)
      refine q_getN_Opening_end E hI b_1 (fun _ h => (List.mem_cons_of_mem _ (List.mem_append_right _ h))) tbF_RX2_56 dX2_endHour_18 ?_
      exact g_iret E hE hr dX2_endHour_21 (Nat.le_of_ble_eq_true rfl) (Nat.le_of_ble_eq_true rfl) ⟨S, rfl, by rw [n_1]; rfl, rfl⟩
abbrev rm_X2_isBeside : Room := { frames := 1, cells := 0, slots := 0, locals := 20 }
set_option maxHeartbeats 4000000 in
set_option maxRecDepth 100000 in
theorem m_X2_isBeside (l : Launch) (hl : l.stackTraces = false) (D : va_G) (cy : Nat → ClassId) (e0 : Nat) {S : wS} {c : Nat → Nat} {ad : Nat → Nat → Nat} {i : Nat → Nat → Int32} {j : Nat → Nat → Int64} {p : Nat → Nat → Option Nat} {r : Nat → Nat → Int32} (hI : CI e0 S c ad i j p r) {k : Nat} (hk : k < c 2) {x : Int32} : cMet l yX2_isBeside wsX2_isBeside rm_X2_isBeside D cy e0 [.ref (ad 2 k), .int (x)] S (fun v S' => v = some (.int (bI (x < ((p 2 k).elim (i 8 k) (i 3)) ∨ ((p 2 k).elim (i 9 k) (i 4)) ≤ x))) ∧ S' = S) (fun _ _ => False) 0 0 := by
  refine gMet.of (cc := cX2_isBeside) (maxL := 2) (ret := (some .boolean)) hl (by decide) rfl (Nat.le_of_ble_eq_true rfl) ?_
  intro C E h1 h2 h3 hr hnm hT hE
  subst h1; subst h2; subst h3
  have E : gOk C cX2_isBeside 2 wsX2_isBeside RX2 e0 rm_X2_isBeside := E
  show G C (cW (xy C) S) 0 0 0 [(0, .ref (ad 2 k)), (1, .int (x))] []
  refine g_iload_n E dX2_isBeside_0 rfl 1 rfl ?_
  refine g_aload_n E dX2_isBeside_1 rfl 0 rfl ?_
  refine c_invV (n := 0) (rest := [.int (x)]) E (m_X2_firstHour (xl C) E.tr (xD C) (xy C) e0 hI hk) (hI.obj (kd := 2) (k := k) (by omega) hk).1 gX2_isBeside_X2_firstHour rfl rfl rfl (by decide +kernel) ⟨Nat.le_of_ble_eq_true rfl, Nat.le_of_ble_eq_true rfl⟩ (wF_Permit (hI.obj (kd := 2) (k := k) (by omega) hk).2) rfl rfl rfl rfl (Nat.le_of_ble_eq_true rfl) dX2_isBeside_2 ⟨Nat.le_of_ble_eq_true rfl, Nat.le_of_ble_eq_true rfl⟩ (fun _ _ h9 => h9.elim) (fun v9 S9 h9 => ?_)
  obtain ⟨hv9, hS9⟩ := h9
  rw [hv9, hS9]
  show G C (cW (xy C) S) 0 0 5 [(0, .ref (ad 2 k)), (1, .int (x))] [.int (((p 2 k).elim (i 8 k) (i 3))), .int (x)]
  refine g_icmp_lt (tgt := 16) E dX2_isBeside_5 (by decide) (fun c_5 => ?_) (fun c_5 => ?_)
  · refine g_iconst (v := 1) E dX2_isBeside_16 (by decide) ?_
    refine g_goto (tgt := 21) E dX2_isBeside_17 (by decide) ?_
    exact g_zret E hE hr (Or.inr rfl) dX2_isBeside_21 (Nat.le_of_ble_eq_true rfl) (Nat.le_of_ble_eq_true rfl) ⟨S, rfl, by rw [bI_t (Or.inl c_5)], rfl⟩
  · refine g_iload_n E dX2_isBeside_8 rfl 1 rfl ?_
    refine g_aload_n E dX2_isBeside_9 rfl 0 rfl ?_
    refine c_invV (n := 0) (rest := [.int (x)]) E (m_X2_endHour (xl C) E.tr (xD C) (xy C) e0 hI hk) (hI.obj (kd := 2) (k := k) (by omega) hk).1 gX2_isBeside_X2_endHour rfl rfl rfl (by decide +kernel) ⟨Nat.le_of_ble_eq_true rfl, Nat.le_of_ble_eq_true rfl⟩ (wF_Permit (hI.obj (kd := 2) (k := k) (by omega) hk).2) rfl rfl rfl rfl (Nat.le_of_ble_eq_true rfl) dX2_isBeside_10 ⟨Nat.le_of_ble_eq_true rfl, Nat.le_of_ble_eq_true rfl⟩ (fun _ _ h9 => h9.elim) (fun v9 S9 h9 => ?_)
    obtain ⟨hv9, hS9⟩ := h9
    rw [hv9, hS9]
    show G C (cW (xy C) S) 0 0 13 [(0, .ref (ad 2 k)), (1, .int (x))] [.int (((p 2 k).elim (i 9 k) (i 4))), .int (x)]
    refine g_icmp_lt (tgt := 20) E dX2_isBeside_13 (by decide) (fun c_13 => ?_) (fun c_13 => ?_)
    · refine g_iconst (v := 0) E dX2_isBeside_20 (by decide) ?_
      exact g_zret E hE hr (Or.inl rfl) dX2_isBeside_21 (Nat.le_of_ble_eq_true rfl) (Nat.le_of_ble_eq_true rfl) ⟨S, rfl, by rw [bI_f (fun q => q.elim c_5 (fun h => Int32.not_le.mpr c_13 h))], rfl⟩
    · refine g_iconst (v := 1) E dX2_isBeside_16 (by decide) ?_
      refine g_goto (tgt := 21) E dX2_isBeside_17 (by decide) ?_
      exact g_zret E hE hr (Or.inr rfl) dX2_isBeside_21 (Nat.le_of_ble_eq_true rfl) (Nat.le_of_ble_eq_true rfl) ⟨S, rfl, by rw [bI_t (Or.inr (Int32.not_lt.mp c_13))], rfl⟩
abbrev rm_X2_wasOpenDuring : Room := { frames := 0, cells := 0, slots := 0, locals := 0 }
set_option maxHeartbeats 4000000 in
set_option maxRecDepth 100000 in
theorem m_X2_wasOpenDuring (l : Launch) (hl : l.stackTraces = false) (D : va_G) (cy : Nat → ClassId) (e0 : Nat) {S : wS} {c : Nat → Nat} {ad : Nat → Nat → Nat} {i : Nat → Nat → Int32} {j : Nat → Nat → Int64} {p : Nat → Nat → Option Nat} {r : Nat → Nat → Int32} (hI : CI e0 S c ad i j p r) {k : Nat} (hk : k < c 2) {x : Int32} : cMet l yX2_wasOpenDuring wsX2_wasOpenDuring rm_X2_wasOpenDuring D cy e0 [.ref (ad 2 k), .int (x)] S (fun v S' => v = some (.int (bI (i 13 k ≠ -1 ∧ i 13 k ≤ x ∧ (i 14 k = -1 ∨ x < i 14 k)))) ∧ S' = S) (fun _ _ => False) 0 0 := by
  refine gMet.of (cc := cX2_wasOpenDuring) (maxL := 2) (ret := (some .boolean)) hl (by decide) rfl (Nat.le_of_ble_eq_true rfl) ?_
  intro C E h1 h2 h3 hr hnm hT hE
  subst h1; subst h2; subst h3
  have E : gOk C cX2_wasOpenDuring 2 wsX2_wasOpenDuring RX2 e0 rm_X2_wasOpenDuring := E
  show G C (cW (xy C) S) 0 0 0 [(0, .ref (ad 2 k)), (1, .int (x))] []
  refine g_aload_n E dX2_wasOpenDuring_0 rfl 0 rfl ?_
  refine q_get_Permit_begunAt E hI hk (fun _ h => (List.mem_cons_of_mem _ (List.mem_append_right _ h))) (List.mem_cons_of_mem _ (List.mem_append_left _ (List.mem_of_getElem? (i := 0) rfl))) dX2_wasOpenDuring_1 ?_
  refine g_iconst (v := (-1)) E dX2_wasOpenDuring_4 (by decide) ?_
  refine g_icmp_eq (tgt := 36) E dX2_wasOpenDuring_5 (by decide) (fun c_5 => ?_) (fun c_5 => ?_)
  · refine g_iconst (v := 0) E dX2_wasOpenDuring_36 (by decide) ?_
    exact g_zret E hE hr (Or.inl rfl) dX2_wasOpenDuring_37 (Nat.le_of_ble_eq_true rfl) (Nat.le_of_ble_eq_true rfl) ⟨S, rfl, by rw [bI_f (fun q => q.1 c_5)], rfl⟩
  · refine g_aload_n E dX2_wasOpenDuring_8 rfl 0 rfl ?_
    refine q_get_Permit_begunAt E hI hk (fun _ h => (List.mem_cons_of_mem _ (List.mem_append_right _ h))) (List.mem_cons_of_mem _ (List.mem_append_left _ (List.mem_of_getElem? (i := 0) rfl))) dX2_wasOpenDuring_9 ?_
    refine g_iload_n E dX2_wasOpenDuring_12 rfl 1 rfl ?_
    refine g_icmp_gt (tgt := 36) E dX2_wasOpenDuring_13 (by decide) (fun c_13 => ?_) (fun c_13 => ?_)
    · refine g_iconst (v := 0) E dX2_wasOpenDuring_36 (by decide) ?_
      exact g_zret E hE hr (Or.inl rfl) dX2_wasOpenDuring_37 (Nat.le_of_ble_eq_true rfl) (Nat.le_of_ble_eq_true rfl) ⟨S, rfl, by rw [bI_f (fun q => Int32.not_lt.mpr q.2.1 c_13)], rfl⟩
    · refine g_aload_n E dX2_wasOpenDuring_16 rfl 0 rfl ?_
      refine q_get_Permit_finishedAt E hI hk (fun _ h => (List.mem_cons_of_mem _ (List.mem_append_right _ h))) (List.mem_cons_of_mem _ (List.mem_append_left _ (List.mem_of_getElem? (i := 1) rfl))) dX2_wasOpenDuring_17 ?_
      refine g_iconst (v := (-1)) E dX2_wasOpenDuring_20 (by decide) ?_
      refine g_icmp_eq (tgt := 32) E dX2_wasOpenDuring_21 (by decide) (fun c_21 => ?_) (fun c_21 => ?_)
      · refine g_iconst (v := 1) E dX2_wasOpenDuring_32 (by decide) ?_
        refine g_goto (tgt := 37) E dX2_wasOpenDuring_33 (by decide) ?_
        exact g_zret E hE hr (Or.inr rfl) dX2_wasOpenDuring_37 (Nat.le_of_ble_eq_true rfl) (Nat.le_of_ble_eq_true rfl) ⟨S, rfl, by rw [bI_t ⟨c_5, Int32.not_lt.mp c_13, Or.inl c_21⟩], rfl⟩
      · refine g_iload_n E dX2_wasOpenDuring_24 rfl 1 rfl ?_
        refine g_aload_n E dX2_wasOpenDuring_25 rfl 0 rfl ?_
        refine q_get_Permit_finishedAt E hI hk (fun _ h => (List.mem_cons_of_mem _ (List.mem_append_right _ h))) (List.mem_cons_of_mem _ (List.mem_append_left _ (List.mem_of_getElem? (i := 1) rfl))) dX2_wasOpenDuring_26 ?_
        refine g_icmp_ge (tgt := 36) E dX2_wasOpenDuring_29 (by decide) (fun c_29 => ?_) (fun c_29 => ?_)
        · refine g_iconst (v := 0) E dX2_wasOpenDuring_36 (by decide) ?_
          exact g_zret E hE hr (Or.inl rfl) dX2_wasOpenDuring_37 (Nat.le_of_ble_eq_true rfl) (Nat.le_of_ble_eq_true rfl) ⟨S, rfl, by rw [bI_f (fun q => q.2.2.elim c_21 (fun h => Int32.not_le.mpr h c_29))], rfl⟩
        · refine g_iconst (v := 1) E dX2_wasOpenDuring_32 (by decide) ?_
          refine g_goto (tgt := 37) E dX2_wasOpenDuring_33 (by decide) ?_
          exact g_zret E hE hr (Or.inr rfl) dX2_wasOpenDuring_37 (Nat.le_of_ble_eq_true rfl) (Nat.le_of_ble_eq_true rfl) ⟨S, rfl, by rw [bI_t ⟨c_5, Int32.not_lt.mp c_13, Or.inr (Int32.not_le.mp c_29)⟩], rfl⟩
abbrev rm_X2_fineSoFar : Room := { frames := 0, cells := 0, slots := 0, locals := 0 }
set_option maxHeartbeats 4000000 in
set_option maxRecDepth 100000 in
theorem m_X2_fineSoFar (l : Launch) (hl : l.stackTraces = false) (D : va_G) (cy : Nat → ClassId) (e0 : Nat) {S : wS} {c : Nat → Nat} {ad : Nat → Nat → Nat} {i : Nat → Nat → Int32} {j : Nat → Nat → Int64} {p : Nat → Nat → Option Nat} {r : Nat → Nat → Int32} (hI : CI e0 S c ad i j p r) {k : Nat} (hk : k < c 2) : cMet l yX2_fineSoFar wsX2_fineSoFar rm_X2_fineSoFar D cy e0 [.ref (ad 2 k)] S (fun v S' => v = some (.long (2 * j 2 k)) ∧ S' = S) (fun _ _ => False) 0 0 := by
  refine gMet.of (cc := cX2_fineSoFar) (maxL := 1) (ret := (some .long)) hl (by decide) rfl (Nat.le_of_ble_eq_true rfl) ?_
  intro C E h1 h2 h3 hr hnm hT hE
  subst h1; subst h2; subst h3
  have E : gOk C cX2_fineSoFar 1 wsX2_fineSoFar RX2 e0 rm_X2_fineSoFar := E
  show G C (cW (xy C) S) 0 0 0 [(0, .ref (ad 2 k))] []
  refine g_ldc2 E (List.mem_cons_of_mem _ (List.mem_append_left _ (List.mem_of_getElem? (i := 0) rfl))) dX2_fineSoFar_0 ?_
  refine g_aload_n E dX2_fineSoFar_3 rfl 0 rfl ?_
  refine q_get_Permit_damage E hI hk (fun _ h => (List.mem_cons_of_mem _ (List.mem_append_right _ h))) (List.mem_cons_of_mem _ (List.mem_append_left _ (List.mem_of_getElem? (i := 1) rfl))) dX2_fineSoFar_4 ?_
  refine g_lmul E dX2_fineSoFar_7 ?_
  exact g_lret E hE hr dX2_fineSoFar_8 (Nat.le_of_ble_eq_true rfl) (Nat.le_of_ble_eq_true rfl) ⟨S, rfl, rfl, rfl⟩
abbrev rm_X2_cancel : Room := { frames := 1, cells := 0, slots := 0, locals := 21 }
set_option maxHeartbeats 4000000 in
set_option maxRecDepth 100000 in
theorem m_X2_cancel (l : Launch) (hl : l.stackTraces = false) (D : va_G) (cy : Nat → ClassId) (e0 : Nat) {S : wS} {c : Nat → Nat} {ad : Nat → Nat → Nat} {i : Nat → Nat → Int32} {j : Nat → Nat → Int64} {p : Nat → Nat → Option Nat} {r : Nat → Nat → Int32} (hI : CI e0 S c ad i j p r) {k : Nat} (hk : k < c 2) : cMet l yX2_cancel wsX2_cancel rm_X2_cancel D cy e0 [.ref (ad 2 k)] S (fun v S' => v = none ∧ CI e0 S' c ad (up2 i 11 k 4) ((p 2 k).elim j (fun y => up2 j 1 y (j 1 y &&& (((1 : Int64) <<< ((i 5 k : Int32).toInt64 &&& 63)) ^^^ (-1))))) p r) (fun _ _ => False) 0 0 := by
  refine gMet.of (cc := cX2_cancel) (maxL := 1) (ret := none) hl (by decide) rfl (Nat.le_of_ble_eq_true rfl) ?_
  intro C E h1 h2 h3 hr hnm hT hE
  subst h1; subst h2; subst h3
  have E : gOk C cX2_cancel 1 wsX2_cancel RX2 e0 rm_X2_cancel := E
  show G C (cW (xy C) S) 0 0 0 [(0, .ref (ad 2 k))] []
  refine g_aload_n E dX2_cancel_0 rfl 0 rfl ?_
  refine g_iconst (v := 4) E dX2_cancel_1 (by decide) ?_
  refine q_put_Permit_state E hI hk (fun _ h => (List.mem_cons_of_mem _ (List.mem_append_left _ (List.mem_append_right _ h)))) (List.mem_cons_of_mem _ (List.mem_append_left _ (List.mem_append_left _ (List.mem_of_getElem? (i := 0) rfl)))) dX2_cancel_2 (fun S hI => ?_)
  refine g_aload_n E dX2_cancel_5 rfl 0 rfl ?_
  refine q_get_Permit_opening E hI hk (fun _ h => (List.mem_cons_of_mem _ (List.mem_append_left _ (List.mem_append_right _ h)))) (List.mem_cons_of_mem _ (List.mem_append_left _ (List.mem_append_left _ (List.mem_of_getElem? (i := 1) rfl)))) dX2_cancel_6 (fun n_6 => ?_) (fun y_6 n_6 b_6 => ?_)
  · refine g_ifnullN (tgt := 20) E dX2_cancel_9 (by decide) ?_
    exact g_vret E hE hr dX2_cancel_20 (Nat.le_of_ble_eq_true rfl) (Nat.le_of_ble_eq_true rfl) ⟨S, rfl, by rw [n_6]; exact ⟨rfl, hI⟩⟩
  · refine g_ifnull E dX2_cancel_9 ?_
    refine g_aload_n E dX2_cancel_12 rfl 0 rfl ?_
    refine q_get_Permit_opening E hI hk (fun _ h => (List.mem_cons_of_mem _ (List.mem_append_left _ (List.mem_append_right _ h)))) (List.mem_cons_of_mem _ (List.mem_append_left _ (List.mem_append_left _ (List.mem_of_getElem? (i := 1) rfl)))) dX2_cancel_13 (fun n_13 => ?_) (fun y_13 n_13 b_13 => ?_)
    · exact absurd (n_6.symm.trans n_13) (by simp)
    · obtain rfl : y_6 = y_13 := Option.some.inj (n_6.symm.trans n_13)
      refine g_aload_n E dX2_cancel_16 rfl 0 rfl ?_
      refine c_invV (n := 1) (rest := []) E (m_X1_release (xl C) E.tr (xD C) (xy C) e0 (S := S) (hI.obj (kd := 1) (k := y_6) (by omega) b_6).1 (hI.obj (kd := 1) (k := y_6) (by omega) b_6).2 (hI.obj (kd := 2) (k := k) (by omega) hk).1 (hI.obj (kd := 2) (k := k) (by omega) hk).2) (hI.obj (kd := 1) (k := y_6) (by omega) b_6).1 gX2_cancel_X1_release rfl rfl rfl (by decide +kernel) ⟨Nat.le_of_ble_eq_true rfl, Nat.le_of_ble_eq_true rfl⟩ (wF_Opening (hI.obj (kd := 1) (k := y_6) (by omega) b_6).2) rfl rfl rfl rfl (Nat.le_of_ble_eq_true rfl) dX2_cancel_17 ⟨Nat.le_of_ble_eq_true rfl, Nat.le_of_ble_eq_true rfl⟩ (fun _ _ h9 => h9.elim) (fun v9 S9 h9 => ?_)
      obtain ⟨hv9, hS9⟩ := h9
      have e1 : sJ S 1 (ad 1 y_6) = j 1 y_6 := hI.long (f := 1) b_6
      have e2 : sI S 5 (ad 2 k) = (up2 i 11 k (4)) 5 k := hI.int (f := 5) hk
      rw [hv9, hS9, e1, e2]
      have hI2 := hI.uJ (f := 1) b_6 (j 1 y_6 &&& (((1 : Int64) <<< (((up2 i 11 k (4)) 5 k : Int32).toInt64 &&& 63)) ^^^ (-1)))
      show G C (cW (xy C) (uJ S 1 (ad 1 y_6) (j 1 y_6 &&& (((1 : Int64) <<< (((up2 i 11 k (4)) 5 k : Int32).toInt64 &&& 63)) ^^^ (-1))))) 0 0 20 [(0, .ref (ad 2 k))] []
      exact g_vret E hE hr dX2_cancel_20 (Nat.le_of_ble_eq_true rfl) (Nat.le_of_ble_eq_true rfl) ⟨(uJ S 1 (ad 1 y_6) (j 1 y_6 &&& (((1 : Int64) <<< (((up2 i 11 k (4)) 5 k : Int32).toInt64 &&& 63)) ^^^ (-1)))), rfl, by rw [n_6]; exact ⟨rfl, hI2⟩⟩
