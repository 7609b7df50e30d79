abbrev rm_J3_checkIndex_8e157 : Room := { frames := 0, cells := 0, slots := 0, locals := 0 }
set_option maxHeartbeats 4000000 in
set_option maxRecDepth 100000 in
theorem m_J3_checkIndex_8e157 (l : Launch) (hl : l.stackTraces = false) (D : va_G) (cy : Nat → ClassId) (e0 : Nat) {S : wS}  {k n : Nat} (hkn : k < n) (hn : n ≤ 1000) : cMet l yJ3_checkIndex_8e157 wsJ3_checkIndex_8e157 rm_J3_checkIndex_8e157 D cy e0 [.int (nI k), .int (nI n), .null] S (fun v S' => v = some (.int (nI k)) ∧ S' = S) (fun _ _ => False) 0 0 := by
  refine gMet.of (cc := cJ3_checkIndex_8e157) (maxL := 3) (ret := (some .int)) hl (by decide) rfl (Nat.le_of_ble_eq_true rfl) ?_
  intro C E h1 h2 h3 hr hnm hT hE
  subst h1; subst h2; subst h3
  have E : gOk C cJ3_checkIndex_8e157 3 wsJ3_checkIndex_8e157 RJ3 e0 rm_J3_checkIndex_8e157 := E
  show G C (cW (xy C) S) 0 0 0 [(0, .int (nI k)), (1, .int (nI n)), (2, .null)] []
  refine g_iload_n E dJ3_checkIndex_8e157_0 rfl 0 rfl ?_
  refine g_if_lt (tgt := 9) E dJ3_checkIndex_8e157_1 (by decide) (fun c_1 => ?_) (fun c_1 => ?_)
  · exact absurd c_1 (nI_pos (by omega))
  · refine g_iload_n E dJ3_checkIndex_8e157_4 rfl 0 rfl ?_
    refine g_iload_n E dJ3_checkIndex_8e157_5 rfl 1 rfl ?_
    refine g_icmp_lt (tgt := 16) E dJ3_checkIndex_8e157_6 (by decide) (fun c_6 => ?_) (fun c_6 => ?_)
    · refine g_iload_n E dJ3_checkIndex_8e157_16 rfl 0 rfl ?_
      exact g_iret E hE hr dJ3_checkIndex_8e157_17 (Nat.le_of_ble_eq_true rfl) (Nat.le_of_ble_eq_true rfl) ⟨S, rfl, rfl, rfl⟩
    · exact absurd (nI_lt hkn (by omega)) c_6
abbrev rm_J15_checkIndex_7cf53 : Room := { frames := 1, cells := 0, slots := 0, locals := 22 }
set_option maxHeartbeats 4000000 in
set_option maxRecDepth 100000 in
theorem m_J15_checkIndex_7cf53 (l : Launch) (hl : l.stackTraces = false) (D : va_G) (cy : Nat → ClassId) (e0 : Nat) {S : wS}  {k n : Nat} (hkn : k < n) (hn : n ≤ 1000) : cMet l yJ15_checkIndex_7cf53 wsJ15_checkIndex_7cf53 rm_J15_checkIndex_7cf53 D cy e0 [.int (nI k), .int (nI n)] S (fun v S' => v = some (.int (nI k)) ∧ S' = S) (fun _ _ => False) 0 0 := by
  refine gMet.of (cc := cJ15_checkIndex_7cf53) (maxL := 2) (ret := (some .int)) hl (by decide) rfl (Nat.le_of_ble_eq_true rfl) ?_
  intro C E h1 h2 h3 hr hnm hT hE
  subst h1; subst h2; subst h3
  have E : gOk C cJ15_checkIndex_7cf53 2 wsJ15_checkIndex_7cf53 RJ15 e0 rm_J15_checkIndex_7cf53 := E
  show G C (cW (xy C) S) 0 0 0 [(0, .int (nI k)), (1, .int (nI n))] []
  refine g_iload_n E dJ15_checkIndex_7cf53_0 rfl 0 rfl ?_
  refine g_iload_n E dJ15_checkIndex_7cf53_1 rfl 1 rfl ?_
  refine g_null E dJ15_checkIndex_7cf53_2 ?_
  refine c_invS (n := 3) (rest := []) E (m_J3_checkIndex_8e157 (xl C) E.tr (xD C) (xy C) e0 hkn hn) gJ15_checkIndex_7cf53_J3_checkIndex_8e157 rfl rfl rfl (by decide +kernel) ⟨Nat.le_of_ble_eq_true rfl, Nat.le_of_ble_eq_true rfl⟩ rfl rfl (Nat.le_of_ble_eq_true rfl) dJ15_checkIndex_7cf53_3 ⟨Nat.le_of_ble_eq_true rfl, Nat.le_of_ble_eq_true rfl⟩ (fun _ _ h9 => h9.elim) (fun v9 S9 h9 => ?_)
  obtain ⟨hv9, hS9⟩ := h9
  rw [hv9, hS9]
  show G C (cW (xy C) S) 0 0 6 [(0, .int (nI k)), (1, .int (nI n))] [.int (nI k)]
  exact g_iret E hE hr dJ15_checkIndex_7cf53_6 (Nat.le_of_ble_eq_true rfl) (Nat.le_of_ble_eq_true rfl) ⟨S, rfl, rfl, rfl⟩
abbrev rm_Jx4a65c_size_8abf5 : Room := { frames := 0, cells := 0, slots := 0, locals := 0 }
set_option maxHeartbeats 4000000 in
set_option maxRecDepth 100000 in
theorem m_Jx4a65c_size_8abf5 (l : Launch) (hl : l.stackTraces = false) (D : va_G) (cy : Nat → ClassId) (e0 : Nat) {S : wS}  {lq d n : Nat} {e : Nat → Nat} (hL : okL e0 S lq d n e) : cMet l yJx4a65c_size_8abf5 wsJx4a65c_size_8abf5 rm_Jx4a65c_size_8abf5 D cy e0 [.ref (lq)] S (fun v S' => v = some (.int (nI n)) ∧ S' = S) (fun _ _ => False) 0 0 := by
  refine gMet.of (cc := cJx4a65c_size_8abf5) (maxL := 1) (ret := (some .int)) hl (by decide) rfl (Nat.le_of_ble_eq_true rfl) ?_
  intro C E h1 h2 h3 hr hnm hT hE
  subst h1; subst h2; subst h3
  have E : gOk C cJx4a65c_size_8abf5 1 wsJx4a65c_size_8abf5 RJx4a65c e0 rm_Jx4a65c_size_8abf5 := E
  show G C (cW (xy C) S) 0 0 0 [(0, .ref (lq))] []
  obtain ⟨hlq, hlk, hsz, hn, hd, hq⟩ := hL
  refine g_aload_n E dJx4a65c_size_8abf5_0 rfl 0 rfl ?_
  refine p_get_AL_size E hlq hlk (fun _ h => (List.mem_cons_of_mem _ (List.mem_append_right _ h))) (List.mem_cons_of_mem _ (List.mem_append_left _ (List.mem_of_getElem? (i := 0) rfl))) dJx4a65c_size_8abf5_1 ?_
  rw [hsz]
  exact g_iret E hE hr dJx4a65c_size_8abf5_4 (Nat.le_of_ble_eq_true rfl) (Nat.le_of_ble_eq_true rfl) ⟨S, rfl, rfl, rfl⟩
abbrev rm_Jx4a65c_elementData_915e3 : Room := { frames := 0, cells := 0, slots := 0, locals := 0 }
set_option maxHeartbeats 4000000 in
set_option maxRecDepth 100000 in
theorem m_Jx4a65c_elementData_915e3 (l : Launch) (hl : l.stackTraces = false) (D : va_G) (cy : Nat → ClassId) (e0 : Nat) {S : wS}  {lq d n : Nat} {e : Nat → Nat} (hL : okL e0 S lq d n e) {k : Nat} (hk : k < n) : cMet l yJx4a65c_elementData_915e3 wsJx4a65c_elementData_915e3 rm_Jx4a65c_elementData_915e3 D cy e0 [.ref (lq), .int (nI k)] S (fun v S' => v = some (.ref (e k)) ∧ S' = S) (fun _ _ => False) 0 0 := by
  refine gMet.of (cc := cJx4a65c_elementData_915e3) (maxL := 2) (ret := (some (.object "java/lang/Object"))) hl (by decide) rfl (Nat.le_of_ble_eq_true rfl) ?_
  intro C E h1 h2 h3 hr hnm hT hE
  subst h1; subst h2; subst h3
  have E : gOk C cJx4a65c_elementData_915e3 2 wsJx4a65c_elementData_915e3 RJx4a65c e0 rm_Jx4a65c_elementData_915e3 := E
  show G C (cW (xy C) S) 0 0 0 [(0, .ref (lq)), (1, .int (nI k))] []
  obtain ⟨hlq, hlk, hsz, hn, hd, hq⟩ := hL
  rcases hq with ⟨h0, _⟩ | ⟨hdm, hdk, hdn, hdN, hde⟩
  · exact absurd hk (by omega)
  refine g_aload_n E dJx4a65c_elementData_915e3_0 rfl 0 rfl ?_
  refine p_get_AL_elementData E hlq hlk (fun _ h => (List.mem_cons_of_mem _ (List.mem_append_right _ h))) (List.mem_cons_of_mem _ (List.mem_append_left _ (List.mem_of_getElem? (i := 0) rfl))) dJx4a65c_elementData_915e3_1 ?_
  rw [hd]
  show G C (cW (xy C) S) 0 0 4 [(0, .ref (lq)), (1, .int (nI k))] [.ref (d)]
  refine g_iload_n E dJx4a65c_elementData_915e3_4 rfl 1 rfl ?_
  refine p_aald E hdm hdk (by omega) k rfl (by omega) (hde k hk) dJx4a65c_elementData_915e3_5 ?_
  exact g_aret E hE hr (by first | exact Or.inl ⟨_, rfl⟩ | exact Or.inr ⟨_, rfl⟩) (by first | exact Or.inl rfl | exact Or.inr ⟨_, rfl⟩) dJx4a65c_elementData_915e3_6 (Nat.le_of_ble_eq_true rfl) (Nat.le_of_ble_eq_true rfl) ⟨S, rfl, rfl, rfl⟩
abbrev rm_Jx4a65c_get_915e3 : Room := { frames := 2, cells := 0, slots := 0, locals := 43 }
set_option maxHeartbeats 4000000 in
set_option maxRecDepth 100000 in
theorem m_Jx4a65c_get_915e3 (l : Launch) (hl : l.stackTraces = false) (D : va_G) (cy : Nat → ClassId) (e0 : Nat) {S : wS}  {lq d n : Nat} {e : Nat → Nat} (hL : okL e0 S lq d n e) {k : Nat} (hk : k < n) : cMet l yJx4a65c_get_915e3 wsJx4a65c_get_915e3 rm_Jx4a65c_get_915e3 D cy e0 [.ref (lq), .int (nI k)] S (fun v S' => v = some (.ref (e k)) ∧ S' = S) (fun _ _ => False) 0 0 := by
  refine gMet.of (cc := cJx4a65c_get_915e3) (maxL := 2) (ret := (some (.object "java/lang/Object"))) hl (by decide) rfl (Nat.le_of_ble_eq_true rfl) ?_
  intro C E h1 h2 h3 hr hnm hT hE
  subst h1; subst h2; subst h3
  have E : gOk C cJx4a65c_get_915e3 2 wsJx4a65c_get_915e3 RJx4a65c e0 rm_Jx4a65c_get_915e3 := E
  show G C (cW (xy C) S) 0 0 0 [(0, .ref (lq)), (1, .int (nI k))] []
  have hL0 := hL
  obtain ⟨hlq, hlk, hsz, hn, hd, hq⟩ := hL0
  refine g_iload_n E dJx4a65c_get_915e3_0 rfl 1 rfl ?_
  refine g_aload_n E dJx4a65c_get_915e3_1 rfl 0 rfl ?_
  refine p_get_AL_size E hlq hlk (fun _ h => (List.mem_cons_of_mem _ (List.mem_append_right _ h))) (List.mem_cons_of_mem _ (List.mem_append_left _ (List.mem_of_getElem? (i := 0) rfl))) dJx4a65c_get_915e3_2 ?_
  rw [hsz]
  refine c_invS (n := 2) (rest := []) E (m_J15_checkIndex_7cf53 (xl C) E.tr (xD C) (xy C) e0 hk (by omega)) gJx4a65c_get_915e3_J15_checkIndex_7cf53 rfl rfl rfl (by decide +kernel) ⟨Nat.le_of_ble_eq_true rfl, Nat.le_of_ble_eq_true rfl⟩ rfl rfl (Nat.le_of_ble_eq_true rfl) dJx4a65c_get_915e3_5 ⟨Nat.le_of_ble_eq_true rfl, Nat.le_of_ble_eq_true rfl⟩ (fun _ _ h9 => h9.elim) (fun v9 S9 h9 => ?_)
  obtain ⟨hv9, hS9⟩ := h9
  rw [hv9, hS9]
  show G C (cW (xy C) S) 0 0 8 [(0, .ref (lq)), (1, .int (nI k))] [.int (nI k)]
  refine g_pop E dJx4a65c_get_915e3_8 rfl ?_
  refine g_aload_n E dJx4a65c_get_915e3_9 rfl 0 rfl ?_
  refine g_iload_n E dJx4a65c_get_915e3_10 rfl 1 rfl ?_
  refine c_invV (n := 1) (rest := []) E (m_Jx4a65c_elementData_915e3 (xl C) E.tr (xD C) (xy C) e0 hL hk) hlq gJx4a65c_get_915e3_Jx4a65c_elementData_915e3 rfl rfl rfl (by decide +kernel) ⟨Nat.le_of_ble_eq_true rfl, Nat.le_of_ble_eq_true rfl⟩ (wF_AL hlk) rfl rfl rfl rfl (Nat.le_of_ble_eq_true rfl) dJx4a65c_get_915e3_11 ⟨Nat.le_of_ble_eq_true rfl, Nat.le_of_ble_eq_true rfl⟩ (fun _ _ h9 => h9.elim) (fun v9 S9 h9 => ?_)
  obtain ⟨hv9, hS9⟩ := h9
  rw [hv9, hS9]
  show G C (cW (xy C) S) 0 0 14 [(0, .ref (lq)), (1, .int (nI k))] [.ref (e k)]
  exact g_aret E hE hr (by first | exact Or.inl ⟨_, rfl⟩ | exact Or.inr ⟨_, rfl⟩) (by first | exact Or.inl rfl | exact Or.inr ⟨_, rfl⟩) dJx4a65c_get_915e3_14 (Nat.le_of_ble_eq_true rfl) (Nat.le_of_ble_eq_true rfl) ⟨S, rfl, rfl, rfl⟩
