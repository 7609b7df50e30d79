abbrev rm_X3_init : Room := { frames := 2, cells := 27, slots := 298, locals := 50 }
set_option maxHeartbeats 4000000 in
set_option maxRecDepth 100000 in
theorem m_X3_init (l : Launch) (hl : l.stackTraces = false) (D : va_G) (cy : Nat → ClassId) (e0 : Nat) {S : wS}  {a : Nat} (ham : a ∈ sL S) (hak : sK S a = 3) : cMet l yX3_init wsX3_init rm_X3_init D cy e0 [.ref (a)] S (fun v S' => v = none ∧ pRd S S' a) (fun _ _ => False) 27 298 := by
  refine gMet.of (cc := cX3_init) (maxL := 1) (ret := none) hl (by decide) rfl (Nat.le_of_ble_eq_true rfl) ?_
  intro C E h1 h2 h3 hr hnm hT hE
  subst h1; subst h2; subst h3
  have E : gOk C cX3_init 1 wsX3_init RX3 e0 rm_X3_init := E
  have hin : (xh C).name = "<init>" := hnm
  show G C (cW (xy C) S) 0 0 0 [(0, .ref (a))] []
  have h0 : FR S S (fun x => x = a) := FR.rf
  have hi15 : sI S 15 a = sI S 15 a := rfl
  have hak0 := hak
  refine g_aload_n E dX3_init_0 rfl 0 rfl ?_
  refine g_objInit (rest := []) E (List.mem_cons_of_mem _ (List.mem_append_left _ (List.mem_append_left _ (List.mem_of_getElem? (i := 0) rfl)))) (List.mem_cons_of_mem _ (List.mem_append_left _ (List.mem_append_left _ (List.mem_of_getElem? (i := 1) rfl)))) (List.mem_cons_of_mem _ (List.mem_append_left _ (List.mem_append_left _ (List.mem_of_getElem? (i := 2) rfl)))) dX3_init_1 (Nat.le_of_ble_eq_true rfl) (Nat.le_of_ble_eq_true rfl) ?_
  refine g_aload_n E dX3_init_4 rfl 0 rfl ?_
  refine g_bipush (v := 24) E dX3_init_5 (by decide) ?_
  refine p_newa (S := S) E (List.mem_cons_of_mem _ (List.mem_append_left _ (List.mem_append_left _ (List.mem_of_getElem? (i := 3) rfl)))) 24 rfl (by decide) (Nat.le_of_ble_eq_true rfl) (Nat.le_of_ble_eq_true rfl) dX3_init_7 (fun q0 h_q0 => ?_)
  have hn_q0 : q0 ∉ sL S := fun h => h_q0 (h0.1 _ h)
  have hne_q0 : q0 ≠ a := fun e => h_q0 (e ▸ ham)
  have hT_1 : ∃ T, T = nw S q0 7 24 := ⟨_, rfl⟩
  obtain ⟨T_1, hT_1⟩ := hT_1
  rw [← hT_1]
  have hF_1 : FR S T_1 (fun _ => False) := by rw [hT_1]; exact FR.nw h_q0
  have hi15 := ((hF_1.2 a ham (fun h => h)).2.1 15).trans hi15
  have hak := (hF_1.2 a ham (fun h => h)).1.trans hak
  have h0 : FR S T_1 (fun x => x = a) := h0.tr hF_1 (fun _ _ h => h) (fun _ _ h => h.elim)
  have ham := hF_1.1 a ham
  have A_q0 : Ar T_1 q0 24 := by rw [hT_1]; exact Ar.new
  show G C (cW (xy C) T_1) 1 24 9 [(0, .ref (a))] [.ref (q0), .ref (a)]
  refine p_put_Roads_ones (S := T_1) (v := some q0) E ham hak (fun _ h => (List.mem_cons_of_mem _ (List.mem_append_left _ (List.mem_append_right _ h)))) hin rfl (List.mem_cons_of_mem _ (List.mem_append_left _ (List.mem_append_left _ (List.mem_of_getElem? (i := 4) rfl)))) rfl dX3_init_9 ?_
  have hT_2 : ∃ T, T = uP T_1 3 a (some q0) := ⟨_, rfl⟩
  obtain ⟨T_2, hT_2⟩ := hT_2
  rw [← hT_2]
  have hF_2 : FR T_1 T_2 (fun x => x = a) := by rw [hT_2]; exact FR.uP
  have A_q0 := A_q0.fr hF_2 (hne_q0)
  have h0 : FR S T_2 (fun x => x = a) := h0.tr hF_2 (fun _ _ h => h) (fun _ _ h => h)
  have ham := hF_2.1 a ham
  have hi15 : sI T_2 15 a = sI S 15 a := by rw [hT_2]; exact hi15
  have hak : sK T_2 a = 3 := by rw [hT_2, sk_uP]; exact hak
  have hP3 : sP T_2 3 a = some q0 := by rw [hT_2]; exact up2_self _ _ _ _
  show G C (cW (xy C) T_2) 1 24 12 [(0, .ref (a))] []
  refine g_aload_n E dX3_init_12 rfl 0 rfl ?_
  refine g_bipush (v := 24) E dX3_init_13 (by decide) ?_
  refine p_newa (S := T_2) E (List.mem_cons_of_mem _ (List.mem_append_left _ (List.mem_append_left _ (List.mem_of_getElem? (i := 3) rfl)))) 24 rfl (by decide) (Nat.le_of_ble_eq_true rfl) (Nat.le_of_ble_eq_true rfl) dX3_init_15 (fun q1 h_q1 => ?_)
  have hn_q1 : q1 ∉ sL S := fun h => h_q1 (h0.1 _ h)
  have hne_q1 : q1 ≠ a := fun e => h_q1 (e ▸ ham)
  have hd_q0_q1 : q0 ≠ q1 := fun e => h_q1 (e ▸ A_q0.1)
  have hT_3 : ∃ T, T = nw T_2 q1 7 24 := ⟨_, rfl⟩
  obtain ⟨T_3, hT_3⟩ := hT_3
  rw [← hT_3]
  have hF_3 : FR T_2 T_3 (fun _ => False) := by rw [hT_3]; exact FR.nw h_q1
  have A_q0 := A_q0.fr hF_3 (fun h => h)
  have hP3 := ((hF_3.2 a ham (fun h => h)).2.2.2.1 3).trans hP3
  have hi15 := ((hF_3.2 a ham (fun h => h)).2.1 15).trans hi15
  have hak := (hF_3.2 a ham (fun h => h)).1.trans hak
  have h0 : FR S T_3 (fun x => x = a) := h0.tr hF_3 (fun _ _ h => h) (fun _ _ h => h.elim)
  have ham := hF_3.1 a ham
  have A_q1 : Ar T_3 q1 24 := by rw [hT_3]; exact Ar.new
  show G C (cW (xy C) T_3) 2 48 17 [(0, .ref (a))] [.ref (q1), .ref (a)]
  refine p_put_Roads_others (S := T_3) (v := some q1) E ham hak (fun _ h => (List.mem_cons_of_mem _ (List.mem_append_left _ (List.mem_append_right _ h)))) hin rfl (List.mem_cons_of_mem _ (List.mem_append_left _ (List.mem_append_left _ (List.mem_of_getElem? (i := 5) rfl)))) rfl dX3_init_17 ?_
  have hT_4 : ∃ T, T = uP T_3 4 a (some q1) := ⟨_, rfl⟩
  obtain ⟨T_4, hT_4⟩ := hT_4
  rw [← hT_4]
  have hF_4 : FR T_3 T_4 (fun x => x = a) := by rw [hT_4]; exact FR.uP
  have A_q0 := A_q0.fr hF_4 (hne_q0)
  have A_q1 := A_q1.fr hF_4 (hne_q1)
  have h0 : FR S T_4 (fun x => x = a) := h0.tr hF_4 (fun _ _ h => h) (fun _ _ h => h)
  have ham := hF_4.1 a ham
  have hP3 : sP T_4 3 a = some q0 := by rw [hT_4]; show up2 T_3.2.2.2.2.1 4 a (some q1) 3 a = _; rw [up2_nf (by decide)]; exact hP3
  have hi15 : sI T_4 15 a = sI S 15 a := by rw [hT_4]; exact hi15
  have hak : sK T_4 a = 3 := by rw [hT_4, sk_uP]; exact hak
  have hP4 : sP T_4 4 a = some q1 := by rw [hT_4]; exact up2_self _ _ _ _
  show G C (cW (xy C) T_4) 2 48 20 [(0, .ref (a))] []
  refine g_aload_n E dX3_init_20 rfl 0 rfl ?_
  refine g_bipush (v := 24) E dX3_init_21 (by decide) ?_
  refine p_newa (S := T_4) E (List.mem_cons_of_mem _ (List.mem_append_left _ (List.mem_append_left _ (List.mem_of_getElem? (i := 3) rfl)))) 24 rfl (by decide) (Nat.le_of_ble_eq_true rfl) (Nat.le_of_ble_eq_true rfl) dX3_init_23 (fun q2 h_q2 => ?_)
  have hn_q2 : q2 ∉ sL S := fun h => h_q2 (h0.1 _ h)
  have hne_q2 : q2 ≠ a := fun e => h_q2 (e ▸ ham)
  have hd_q0_q2 : q0 ≠ q2 := fun e => h_q2 (e ▸ A_q0.1)
  have hd_q1_q2 : q1 ≠ q2 := fun e => h_q2 (e ▸ A_q1.1)
  have hT_5 : ∃ T, T = nw T_4 q2 7 24 := ⟨_, rfl⟩
  obtain ⟨T_5, hT_5⟩ := hT_5
  rw [← hT_5]
  have hF_5 : FR T_4 T_5 (fun _ => False) := by rw [hT_5]; exact FR.nw h_q2
  have A_q0 := A_q0.fr hF_5 (fun h => h)
  have A_q1 := A_q1.fr hF_5 (fun h => h)
  have hP3 := ((hF_5.2 a ham (fun h => h)).2.2.2.1 3).trans hP3
  have hP4 := ((hF_5.2 a ham (fun h => h)).2.2.2.1 4).trans hP4
  have hi15 := ((hF_5.2 a ham (fun h => h)).2.1 15).trans hi15
  have hak := (hF_5.2 a ham (fun h => h)).1.trans hak
  have h0 : FR S T_5 (fun x => x = a) := h0.tr hF_5 (fun _ _ h => h) (fun _ _ h => h.elim)
  have ham := hF_5.1 a ham
  have A_q2 : Ar T_5 q2 24 := by rw [hT_5]; exact Ar.new
  show G C (cW (xy C) T_5) 3 72 25 [(0, .ref (a))] [.ref (q2), .ref (a)]
  refine p_put_Roads_laneMinutes (S := T_5) (v := some q2) E ham hak (fun _ h => (List.mem_cons_of_mem _ (List.mem_append_left _ (List.mem_append_right _ h)))) hin rfl (List.mem_cons_of_mem _ (List.mem_append_left _ (List.mem_append_left _ (List.mem_of_getElem? (i := 6) rfl)))) rfl dX3_init_25 ?_
  have hT_6 : ∃ T, T = uP T_5 5 a (some q2) := ⟨_, rfl⟩
  obtain ⟨T_6, hT_6⟩ := hT_6
  rw [← hT_6]
  have hF_6 : FR T_5 T_6 (fun x => x = a) := by rw [hT_6]; exact FR.uP
  have A_q0 := A_q0.fr hF_6 (hne_q0)
  have A_q1 := A_q1.fr hF_6 (hne_q1)
  have A_q2 := A_q2.fr hF_6 (hne_q2)
  have h0 : FR S T_6 (fun x => x = a) := h0.tr hF_6 (fun _ _ h => h) (fun _ _ h => h)
  have ham := hF_6.1 a ham
  have hP3 : sP T_6 3 a = some q0 := by rw [hT_6]; show up2 T_5.2.2.2.2.1 5 a (some q2) 3 a = _; rw [up2_nf (by decide)]; exact hP3
  have hP4 : sP T_6 4 a = some q1 := by rw [hT_6]; show up2 T_5.2.2.2.2.1 5 a (some q2) 4 a = _; rw [up2_nf (by decide)]; exact hP4
  have hi15 : sI T_6 15 a = sI S 15 a := by rw [hT_6]; exact hi15
  have hak : sK T_6 a = 3 := by rw [hT_6, sk_uP]; exact hak
  have hP5 : sP T_6 5 a = some q2 := by rw [hT_6]; exact up2_self _ _ _ _
  show G C (cW (xy C) T_6) 3 72 28 [(0, .ref (a))] []
  refine g_aload_n E dX3_init_28 rfl 0 rfl ?_
  refine p_new_Ways E (fun _ h => (List.mem_cons_of_mem _ (List.mem_append_right _ h))) (List.mem_cons_of_mem _ (List.mem_append_left _ (List.mem_append_left _ (List.mem_of_getElem? (i := 7) rfl)))) (List.mem_cons_of_mem _ (List.mem_append_left _ (List.mem_append_left _ (List.mem_of_getElem? (i := 8) rfl)))) (List.mem_cons_of_mem _ (List.mem_append_left _ (List.mem_append_left _ (List.mem_of_getElem? (i := 9) rfl)))) (Nat.le_of_ble_eq_true rfl) (Nat.le_of_ble_eq_true rfl) dX3_init_29 (fun q_29 hq_29 => ?_)
  have hn_q_29 : q_29 ∉ sL S := fun h => hq_29 (h0.1 _ h)
  have hne_q_29 : q_29 ≠ a := fun e => hq_29 (e ▸ ham)
  have hd_q0_q_29 : q0 ≠ q_29 := fun e => hq_29 (e ▸ A_q0.1)
  have hd_q1_q_29 : q1 ≠ q_29 := fun e => hq_29 (e ▸ A_q1.1)
  have hd_q2_q_29 : q2 ≠ q_29 := fun e => hq_29 (e ▸ A_q2.1)
  have hT_7 : ∃ T, T = nw T_6 q_29 4 0 := ⟨_, rfl⟩
  obtain ⟨T_7, hT_7⟩ := hT_7
  rw [← hT_7]
  have hF_7 : FR T_6 T_7 (fun _ => False) := by rw [hT_7]; exact FR.nw hq_29
  have A_q0 := A_q0.fr hF_7 (fun h => h)
  have A_q1 := A_q1.fr hF_7 (fun h => h)
  have A_q2 := A_q2.fr hF_7 (fun h => h)
  have hP3 := ((hF_7.2 a ham (fun h => h)).2.2.2.1 3).trans hP3
  have hP4 := ((hF_7.2 a ham (fun h => h)).2.2.2.1 4).trans hP4
  have hP5 := ((hF_7.2 a ham (fun h => h)).2.2.2.1 5).trans hP5
  have hi15 := ((hF_7.2 a ham (fun h => h)).2.1 15).trans hi15
  have hak := (hF_7.2 a ham (fun h => h)).1.trans hak
  have h0 : FR S T_7 (fun x => x = a) := h0.tr hF_7 (fun _ _ h => h) (fun _ _ h => h.elim)
  have ham := hF_7.1 a ham
  have m_q_29 : q_29 ∈ sL T_7 := by rw [hT_7]; exact nw_own
  have k_q_29 : sK T_7 q_29 = 4 := by rw [hT_7]; exact nw_Ko
  have j_q_29 : sI T_7 17 q_29 = 0 := by rw [hT_7]; exact nw_Io
  show G C (cW (xy C) T_7) 4 75 32 [(0, .ref (a))] [.ref (q_29), .ref (a)]
  refine g_dup E dX3_init_32 rfl ?_
  refine c_invIN (n := 0) (host := "PermitWeave") (rest := [.ref (q_29), .ref (a)]) E (m_X4_init (xl C) E.tr (xD C) (xy C) e0 (S := T_7) m_q_29 k_q_29) gX3_init_X4_init_n23 rfl rfl rfl (List.mem_cons_of_mem _ (List.mem_append_left _ (List.mem_append_left _ (List.mem_of_getElem? (i := 9) rfl)))) tbM_RX3_23 (List.mem_cons_of_mem _ (List.mem_append_left _ (List.mem_append_left _ (List.mem_of_getElem? (i := 12) rfl)))) rfl (by decide +kernel) ⟨Nat.le_of_ble_eq_true rfl, Nat.le_of_ble_eq_true rfl⟩ rfl rfl (Nat.le_of_ble_eq_true rfl) dX3_init_33 ⟨Nat.le_of_ble_eq_true rfl, Nat.le_of_ble_eq_true rfl⟩ (fun _ _ h9 => h9.elim) (fun v9 S9_33 h9 => ?_)
  obtain ⟨hv9, hFw_q_29, hw16, hw17, hwk, g_q_29, r_q_29, hg1, hg2, hg3, hg4, hg5, hg6, hg7, hg8⟩ := h9
  rw [hv9]
  have hn_g_q_29 : g_q_29 ∉ sL S := fun h => hg1 (h0.1 _ h)
  have hne_g_q_29 : g_q_29 ≠ a := fun e => hg1 (e ▸ ham)
  have hn_r_q_29 : ∀ b, b < 10 → r_q_29 b ∉ sL S := fun b hb h => (hg8 b hb).1 (h0.1 _ h)
  have hne_r_q_29 : ∀ b, b < 10 → r_q_29 b ≠ a := fun b hb e => (hg8 b hb).1 (e ▸ ham)
  have hd_q0_r_q_29 : ∀ b, b < 10 → q0 ≠ r_q_29 b := fun b hb e => (hg8 b hb).1 (e ▸ A_q0.1)
  have hd_q1_r_q_29 : ∀ b, b < 10 → q1 ≠ r_q_29 b := fun b hb e => (hg8 b hb).1 (e ▸ A_q1.1)
  have hd_q2_r_q_29 : ∀ b, b < 10 → q2 ≠ r_q_29 b := fun b hb e => (hg8 b hb).1 (e ▸ A_q2.1)
  have i_r_q_29 := hg7
  have hF_8 : FR T_7 S9_33 (fun x => x = q_29) := hFw_q_29
  have A_q0 := A_q0.fr hF_8 (hd_q0_q_29)
  have A_q1 := A_q1.fr hF_8 (hd_q1_q_29)
  have A_q2 := A_q2.fr hF_8 (hd_q2_q_29)
  have hP3 := ((hF_8.2 a ham (fun e => hne_q_29 e.symm)).2.2.2.1 3).trans hP3
  have hP4 := ((hF_8.2 a ham (fun e => hne_q_29 e.symm)).2.2.2.1 4).trans hP4
  have hP5 := ((hF_8.2 a ham (fun e => hne_q_29 e.symm)).2.2.2.1 5).trans hP5
  have hi15 := ((hF_8.2 a ham (fun e => hne_q_29 e.symm)).2.1 15).trans hi15
  have hak := (hF_8.2 a ham (fun e => hne_q_29 e.symm)).1.trans hak
  have h0 : FR S S9_33 (fun x => x = a) := h0.tr hF_8 (fun _ _ h => h) (fun x hx h => absurd hx (h ▸ hn_q_29))
  have ham := hF_8.1 a ham
  have Y_q_29 : Wy S9_33 q_29 g_q_29 := ⟨hF_8.1 _ m_q_29, hwk.trans k_q_29, hw16, hw17.trans j_q_29, hg5⟩
  have G_g_q_29 : Gr S9_33 g_q_29 r_q_29 := ⟨hg2, hg3, hg4, hg6⟩
  have A_r_q_29 : ∀ b, b < 10 → Ar S9_33 (r_q_29 b) 10 := fun b hb => (hg8 b hb).2
  show G C (cW (xy C) S9_33) 15 185 36 [(0, .ref (a))] [.ref (q_29), .ref (a)]
  refine p_put_Roads_free (S := S9_33) (v := some q_29) E ham hak (fun _ h => (List.mem_cons_of_mem _ (List.mem_append_left _ (List.mem_append_right _ h)))) hin rfl (List.mem_cons_of_mem _ (List.mem_append_left _ (List.mem_append_left _ (List.mem_of_getElem? (i := 10) rfl)))) rfl dX3_init_36 ?_
  have hT_9 : ∃ T, T = uP S9_33 6 a (some q_29) := ⟨_, rfl⟩
  obtain ⟨T_9, hT_9⟩ := hT_9
  rw [← hT_9]
  have hF_9 : FR S9_33 T_9 (fun x => x = a) := by rw [hT_9]; exact FR.uP
  have A_q0 := A_q0.fr hF_9 (hne_q0)
  have A_q1 := A_q1.fr hF_9 (hne_q1)
  have A_q2 := A_q2.fr hF_9 (hne_q2)
  have Y_q_29 := Y_q_29.fr hF_9 (hne_q_29)
  have G_g_q_29 := G_g_q_29.fr hF_9 (hne_g_q_29)
  have A_r_q_29 := fun (b : Nat) (hb : b < 10) => (A_r_q_29 b hb).fr hF_9 (hne_r_q_29 b hb)
  have h0 : FR S T_9 (fun x => x = a) := h0.tr hF_9 (fun _ _ h => h) (fun _ _ h => h)
  have ham := hF_9.1 a ham
  have hP3 : sP T_9 3 a = some q0 := by rw [hT_9]; show up2 S9_33.2.2.2.2.1 6 a (some q_29) 3 a = _; rw [up2_nf (by decide)]; exact hP3
  have hP4 : sP T_9 4 a = some q1 := by rw [hT_9]; show up2 S9_33.2.2.2.2.1 6 a (some q_29) 4 a = _; rw [up2_nf (by decide)]; exact hP4
  have hP5 : sP T_9 5 a = some q2 := by rw [hT_9]; show up2 S9_33.2.2.2.2.1 6 a (some q_29) 5 a = _; rw [up2_nf (by decide)]; exact hP5
  have hi15 : sI T_9 15 a = sI S 15 a := by rw [hT_9]; exact hi15
  have hak : sK T_9 a = 3 := by rw [hT_9, sk_uP]; exact hak
  have hP6 : sP T_9 6 a = some q_29 := by rw [hT_9]; exact up2_self _ _ _ _
  show G C (cW (xy C) T_9) 15 185 39 [(0, .ref (a))] []
  refine g_aload_n E dX3_init_39 rfl 0 rfl ?_
  refine p_new_Ways E (fun _ h => (List.mem_cons_of_mem _ (List.mem_append_right _ h))) (List.mem_cons_of_mem _ (List.mem_append_left _ (List.mem_append_left _ (List.mem_of_getElem? (i := 7) rfl)))) (List.mem_cons_of_mem _ (List.mem_append_left _ (List.mem_append_left _ (List.mem_of_getElem? (i := 8) rfl)))) (List.mem_cons_of_mem _ (List.mem_append_left _ (List.mem_append_left _ (List.mem_of_getElem? (i := 9) rfl)))) (Nat.le_of_ble_eq_true rfl) (Nat.le_of_ble_eq_true rfl) dX3_init_40 (fun q_40 hq_40 => ?_)
  have hn_q_40 : q_40 ∉ sL S := fun h => hq_40 (h0.1 _ h)
  have hne_q_40 : q_40 ≠ a := fun e => hq_40 (e ▸ ham)
  have hd_q0_q_40 : q0 ≠ q_40 := fun e => hq_40 (e ▸ A_q0.1)
  have hd_q1_q_40 : q1 ≠ q_40 := fun e => hq_40 (e ▸ A_q1.1)
  have hd_q2_q_40 : q2 ≠ q_40 := fun e => hq_40 (e ▸ A_q2.1)
  have hd_q_29_q_40 : q_29 ≠ q_40 := fun e => hq_40 (e ▸ Y_q_29.1)
  have hd_g_q_29_q_40 : g_q_29 ≠ q_40 := fun e => hq_40 (e ▸ G_g_q_29.1)
  have hd_r_q_29_q_40 : ∀ b, b < 10 → r_q_29 b ≠ q_40 := fun b hb e => hq_40 (e ▸ (A_r_q_29 b hb).1)
  have hT_10 : ∃ T, T = nw T_9 q_40 4 0 := ⟨_, rfl⟩
  obtain ⟨T_10, hT_10⟩ := hT_10
  rw [← hT_10]
  have hF_10 : FR T_9 T_10 (fun _ => False) := by rw [hT_10]; exact FR.nw hq_40
  have A_q0 := A_q0.fr hF_10 (fun h => h)
  have A_q1 := A_q1.fr hF_10 (fun h => h)
  have A_q2 := A_q2.fr hF_10 (fun h => h)
  have Y_q_29 := Y_q_29.fr hF_10 (fun h => h)
  have G_g_q_29 := G_g_q_29.fr hF_10 (fun h => h)
  have A_r_q_29 := fun (b : Nat) (hb : b < 10) => (A_r_q_29 b hb).fr hF_10 (fun h => h)
  have hP3 := ((hF_10.2 a ham (fun h => h)).2.2.2.1 3).trans hP3
  have hP4 := ((hF_10.2 a ham (fun h => h)).2.2.2.1 4).trans hP4
  have hP5 := ((hF_10.2 a ham (fun h => h)).2.2.2.1 5).trans hP5
  have hP6 := ((hF_10.2 a ham (fun h => h)).2.2.2.1 6).trans hP6
  have hi15 := ((hF_10.2 a ham (fun h => h)).2.1 15).trans hi15
  have hak := (hF_10.2 a ham (fun h => h)).1.trans hak
  have h0 : FR S T_10 (fun x => x = a) := h0.tr hF_10 (fun _ _ h => h) (fun _ _ h => h.elim)
  have ham := hF_10.1 a ham
  have m_q_40 : q_40 ∈ sL T_10 := by rw [hT_10]; exact nw_own
  have k_q_40 : sK T_10 q_40 = 4 := by rw [hT_10]; exact nw_Ko
  have j_q_40 : sI T_10 17 q_40 = 0 := by rw [hT_10]; exact nw_Io
  show G C (cW (xy C) T_10) 16 188 43 [(0, .ref (a))] [.ref (q_40), .ref (a)]
  refine g_dup E dX3_init_43 rfl ?_
  refine c_invIN (n := 0) (host := "PermitWeave") (rest := [.ref (q_40), .ref (a)]) E (m_X4_init (xl C) E.tr (xD C) (xy C) e0 (S := T_10) m_q_40 k_q_40) gX3_init_X4_init_n23 rfl rfl rfl (List.mem_cons_of_mem _ (List.mem_append_left _ (List.mem_append_left _ (List.mem_of_getElem? (i := 9) rfl)))) tbM_RX3_23 (List.mem_cons_of_mem _ (List.mem_append_left _ (List.mem_append_left _ (List.mem_of_getElem? (i := 12) rfl)))) rfl (by decide +kernel) ⟨Nat.le_of_ble_eq_true rfl, Nat.le_of_ble_eq_true rfl⟩ rfl rfl (Nat.le_of_ble_eq_true rfl) dX3_init_44 ⟨Nat.le_of_ble_eq_true rfl, Nat.le_of_ble_eq_true rfl⟩ (fun _ _ h9 => h9.elim) (fun v9 S9_44 h9 => ?_)
  obtain ⟨hv9, hFw_q_40, hw16, hw17, hwk, g_q_40, r_q_40, hg1, hg2, hg3, hg4, hg5, hg6, hg7, hg8⟩ := h9
  rw [hv9]
  have hd_r_q_29_g_q_40 : ∀ b, b < 10 → r_q_29 b ≠ g_q_40 := fun b hb e => hg1 (e ▸ (A_r_q_29 b hb).1)
  have hn_g_q_40 : g_q_40 ∉ sL S := fun h => hg1 (h0.1 _ h)
  have hne_g_q_40 : g_q_40 ≠ a := fun e => hg1 (e ▸ ham)
  have hn_r_q_40 : ∀ b, b < 10 → r_q_40 b ∉ sL S := fun b hb h => (hg8 b hb).1 (h0.1 _ h)
  have hne_r_q_40 : ∀ b, b < 10 → r_q_40 b ≠ a := fun b hb e => (hg8 b hb).1 (e ▸ ham)
  have hd_q0_r_q_40 : ∀ b, b < 10 → q0 ≠ r_q_40 b := fun b hb e => (hg8 b hb).1 (e ▸ A_q0.1)
  have hd_q1_r_q_40 : ∀ b, b < 10 → q1 ≠ r_q_40 b := fun b hb e => (hg8 b hb).1 (e ▸ A_q1.1)
  have hd_q2_r_q_40 : ∀ b, b < 10 → q2 ≠ r_q_40 b := fun b hb e => (hg8 b hb).1 (e ▸ A_q2.1)
  have hd_r_q_29_r_q_40 : ∀ b b2, b < 10 → b2 < 10 → r_q_29 b ≠ r_q_40 b2 := fun b b2 hb hb2 e => (hg8 b2 hb2).1 (e ▸ (A_r_q_29 b hb).1)
  have i_r_q_40 := hg7
  have hF_11 : FR T_10 S9_44 (fun x => x = q_40) := hFw_q_40
  have A_q0 := A_q0.fr hF_11 (hd_q0_q_40)
  have A_q1 := A_q1.fr hF_11 (hd_q1_q_40)
  have A_q2 := A_q2.fr hF_11 (hd_q2_q_40)
  have Y_q_29 := Y_q_29.fr hF_11 (hd_q_29_q_40)
  have G_g_q_29 := G_g_q_29.fr hF_11 (hd_g_q_29_q_40)
  have A_r_q_29 := fun (b : Nat) (hb : b < 10) => (A_r_q_29 b hb).fr hF_11 (hd_r_q_29_q_40 b hb)
  have hP3 := ((hF_11.2 a ham (fun e => hne_q_40 e.symm)).2.2.2.1 3).trans hP3
  have hP4 := ((hF_11.2 a ham (fun e => hne_q_40 e.symm)).2.2.2.1 4).trans hP4
  have hP5 := ((hF_11.2 a ham (fun e => hne_q_40 e.symm)).2.2.2.1 5).trans hP5
  have hP6 := ((hF_11.2 a ham (fun e => hne_q_40 e.symm)).2.2.2.1 6).trans hP6
  have hi15 := ((hF_11.2 a ham (fun e => hne_q_40 e.symm)).2.1 15).trans hi15
  have hak := (hF_11.2 a ham (fun e => hne_q_40 e.symm)).1.trans hak
  have h0 : FR S S9_44 (fun x => x = a) := h0.tr hF_11 (fun _ _ h => h) (fun x hx h => absurd hx (h ▸ hn_q_40))
  have ham := hF_11.1 a ham
  have Y_q_40 : Wy S9_44 q_40 g_q_40 := ⟨hF_11.1 _ m_q_40, hwk.trans k_q_40, hw16, hw17.trans j_q_40, hg5⟩
  have G_g_q_40 : Gr S9_44 g_q_40 r_q_40 := ⟨hg2, hg3, hg4, hg6⟩
  have A_r_q_40 : ∀ b, b < 10 → Ar S9_44 (r_q_40 b) 10 := fun b hb => (hg8 b hb).2
  show G C (cW (xy C) S9_44) 27 298 47 [(0, .ref (a))] [.ref (q_40), .ref (a)]
  refine p_put_Roads_round (S := S9_44) (v := some q_40) E ham hak (fun _ h => (List.mem_cons_of_mem _ (List.mem_append_left _ (List.mem_append_right _ h)))) hin rfl (List.mem_cons_of_mem _ (List.mem_append_left _ (List.mem_append_left _ (List.mem_of_getElem? (i := 11) rfl)))) rfl dX3_init_47 ?_
  have hT_12 : ∃ T, T = uP S9_44 7 a (some q_40) := ⟨_, rfl⟩
  obtain ⟨T_12, hT_12⟩ := hT_12
  rw [← hT_12]
  have hF_12 : FR S9_44 T_12 (fun x => x = a) := by rw [hT_12]; exact FR.uP
  have A_q0 := A_q0.fr hF_12 (hne_q0)
  have A_q1 := A_q1.fr hF_12 (hne_q1)
  have A_q2 := A_q2.fr hF_12 (hne_q2)
  have Y_q_29 := Y_q_29.fr hF_12 (hne_q_29)
  have G_g_q_29 := G_g_q_29.fr hF_12 (hne_g_q_29)
  have A_r_q_29 := fun (b : Nat) (hb : b < 10) => (A_r_q_29 b hb).fr hF_12 (hne_r_q_29 b hb)
  have Y_q_40 := Y_q_40.fr hF_12 (hne_q_40)
  have G_g_q_40 := G_g_q_40.fr hF_12 (hne_g_q_40)
  have A_r_q_40 := fun (b : Nat) (hb : b < 10) => (A_r_q_40 b hb).fr hF_12 (hne_r_q_40 b hb)
  have h0 : FR S T_12 (fun x => x = a) := h0.tr hF_12 (fun _ _ h => h) (fun _ _ h => h)
  have ham := hF_12.1 a ham
  have hP3 : sP T_12 3 a = some q0 := by rw [hT_12]; show up2 S9_44.2.2.2.2.1 7 a (some q_40) 3 a = _; rw [up2_nf (by decide)]; exact hP3
  have hP4 : sP T_12 4 a = some q1 := by rw [hT_12]; show up2 S9_44.2.2.2.2.1 7 a (some q_40) 4 a = _; rw [up2_nf (by decide)]; exact hP4
  have hP5 : sP T_12 5 a = some q2 := by rw [hT_12]; show up2 S9_44.2.2.2.2.1 7 a (some q_40) 5 a = _; rw [up2_nf (by decide)]; exact hP5
  have hP6 : sP T_12 6 a = some q_29 := by rw [hT_12]; show up2 S9_44.2.2.2.2.1 7 a (some q_40) 6 a = _; rw [up2_nf (by decide)]; exact hP6
  have hi15 : sI T_12 15 a = sI S 15 a := by rw [hT_12]; exact hi15
  have hak : sK T_12 a = 3 := by rw [hT_12, sk_uP]; exact hak
  have hP7 : sP T_12 7 a = some q_40 := by rw [hT_12]; exact up2_self _ _ _ _
  show G C (cW (xy C) T_12) 27 298 50 [(0, .ref (a))] []
  have hA : ∀ k, k < 24 → k ≠ 3 → rdA q0 q1 q2 r_q_29 r_q_40 k ∉ sL S ∧ Ar T_12 (rdA q0 q1 q2 r_q_29 r_q_40 k) (alen k) := by
    intro k hk h3
    rcases rd_cases hk h3 with rfl | rfl | rfl | ⟨b, hb, rfl⟩ | ⟨b, hb, rfl⟩
    · exact ⟨hn_q0, A_q0⟩
    · exact ⟨hn_q1, A_q1⟩
    · exact ⟨hn_q2, A_q2⟩
    · rw [rdA_a hb, show alen (4 + b) = 10 by rw [show 4 + b = 4 + 10 * 0 + b by omega]; exact alen_w (by omega) hb]; exact ⟨hn_r_q_29 b hb, A_r_q_29 b hb⟩
    · rw [rdA_b, show alen (14 + b) = 10 by rw [show 14 + b = 4 + 10 * 1 + b by omega]; exact alen_w (by omega) hb]; exact ⟨hn_r_q_40 b hb, A_r_q_40 b hb⟩
  have hinjA : ∀ k k', k < 24 → k' < 24 → k ≠ 3 → k' ≠ 3 → rdA q0 q1 q2 r_q_29 r_q_40 k = rdA q0 q1 q2 r_q_29 r_q_40 k' → k = k' := by
    have sym : ∀ k k', k < 24 → k' < 24 → k ≠ 3 → k' ≠ 3 → k < k' → rdA q0 q1 q2 r_q_29 r_q_40 k ≠ rdA q0 q1 q2 r_q_29 r_q_40 k' := by
      intro k k' hk hk' h3 h3' hlt e
      rcases rd_cases hk h3 with rfl | rfl | rfl | ⟨b, hb, rfl⟩ | ⟨b, hb, rfl⟩ <;> rcases rd_cases hk' h3' with rfl | rfl | rfl | ⟨b', hb', rfl⟩ | ⟨b', hb', rfl⟩ <;>
        (try rw [rdA_0] at e) <;> (try rw [rdA_1] at e) <;> (try rw [rdA_2] at e) <;> (try rw [rdA_a hb] at e) <;> (try rw [rdA_a hb'] at e) <;> (try rw [rdA_b] at e) <;> (try rw [rdA_b] at e) <;>
        first
        | omega
        | exact hd_q0_q1 e
        | exact hd_q0_q2 e
        | exact hd_q1_q2 e
        | exact hd_q0_r_q_29 b' hb' e
        | exact hd_q1_r_q_29 b' hb' e
        | exact hd_q2_r_q_29 b' hb' e
        | exact hd_q0_r_q_40 b' hb' e
        | exact hd_q1_r_q_40 b' hb' e
        | exact hd_q2_r_q_40 b' hb' e
        | exact hd_r_q_29_r_q_40 b b' hb hb' e
        | (have := i_r_q_29 b b' hb hb' e; omega)
        | (have := i_r_q_40 b b' hb hb' e; omega)
    intro k k' hk hk' h3 h3' e
    rcases Nat.lt_trichotomy k k' with h | h | h
    · exact absurd e (sym k k' hk hk' h3 h3' h)
    · exact h
    · exact absurd e.symm (sym k' k hk' hk h3' h3 h)
  have hW : ∀ w, w < 2 → (fun w => if w = 0 then q_29 else q_40) w ∉ sL S ∧ Wy T_12 ((fun w => if w = 0 then q_29 else q_40) w) ((fun w => if w = 0 then g_q_29 else g_q_40) w) ∧ (fun w => if w = 0 then g_q_29 else g_q_40) w ∉ sL S ∧ Gr T_12 ((fun w => if w = 0 then g_q_29 else g_q_40) w) (fun b => rdA q0 q1 q2 r_q_29 r_q_40 (4 + 10 * w + b)) := by
    intro w hw
    rcases (show w = 0 ∨ w = 1 by omega) with rfl | rfl
    · exact ⟨hn_q_29, Y_q_29, hn_g_q_29, G_g_q_29.1, G_g_q_29.2.1, G_g_q_29.2.2.1, fun b hb => by show sQ T_12 g_q_29 b = some (rdA q0 q1 q2 r_q_29 r_q_40 (4 + 10 * 0 + b)); rw [show 4 + 10 * 0 + b = 4 + b by omega, rdA_a hb]; exact G_g_q_29.2.2.2 b hb⟩
    · exact ⟨hn_q_40, Y_q_40, hn_g_q_40, G_g_q_40.1, G_g_q_40.2.1, G_g_q_40.2.2.1, fun b hb => by show sQ T_12 g_q_40 b = some (rdA q0 q1 q2 r_q_29 r_q_40 (4 + 10 * 1 + b)); rw [show 4 + 10 * 1 + b = 14 + b by omega, rdA_b]; exact G_g_q_40.2.2.2 b hb⟩
  exact g_vret E hE hr dX3_init_50 (Nat.le_of_ble_eq_true rfl) (Nat.le_of_ble_eq_true rfl) ⟨T_12, rfl, rfl, h0, hak.trans hak0.symm, hi15, rdA q0 q1 q2 r_q_29 r_q_40, _, _, hA, hinjA, hW, hd_q_29_q_40, hP3, hP4, hP5, hP6, hP7⟩
