section CS
variable {C : gT} {e0 a ob b Ln q mc ms : Nat} {ma : Nat → Nat} {xv : Nat → Int32} {W : va_W}
set_option maxHeartbeats 4000000 in
set_option maxRecDepth 100000 in
theorem cs_state (E : gOk C cL_law 8 wsL_law RL e0 room_1) (hX : va_X b Ln xv (xs C) (xs C).heap) (hbl : b < (xs C).heap.size) (hbA : ¬ xA C b) (hL : Ln ≤ 3584) (hq : q + 7 ≤ Ln) (hW : LV C e0 a ob ma W) (hmc : mc + 10 ≤ 601024) (hms : ms + 4000 ≤ 7293034) (kk : ∀ W', LV C e0 a ob ma W' → G C W' (mc + 10) (ms + 4000) 1647 [(4, .int (nI q)), (3, .ref ob), (2, .ref (ma 0)), (1, .ref a), (0, .ref b)] []) : G C W mc ms 966 [(4, .int (nI q)), (3, .ref ob), (2, .ref (ma 0)), (1, .ref a), (0, .ref b)] [] := by
  obtain ⟨S, o, s, c, ad, i, j, p, r, rfl, hI, hA, M, N, h⟩ := hW
  subst hA
  refine g_aload_n E dL_law_966 rfl 3 rfl ?_
  refine g_aload_n E dL_law_967 rfl 4 rfl ?_
  refine g_iload E dL_law_968 0 rfl ?_
  refine g_iconst (v := nI 1) E dL_law_970 (by decide) ?_
  refine g_iadd E dL_law_971 ?_
  refine g_sld E hX hbl hbA hL (q + 1) (nI_add q 1) (by omega) dL_law_972 ?_
  refine g_aload_n E dL_law_973 rfl 1 rfl ?_
  refine g_invSW (rm' := rm_L_state) (mc' := 1) (ms' := 6) (As := [.ref (ad 5 0), .int (xv (q + 1)), .ref ob]) (rest := []) (n := 3) E ((w_state (xl C) E.tr (xD C) (xy C) e0 (hI.obj (kd := 5) (by decide) hI.c5).1 (hI.obj (kd := 5) (by decide) hI.c5).2 (m_X5_state (xl C) E.tr (xD C) (xy C) e0 hI) (fun v S' hP => by rcases hP with ⟨_, ⟨_, _, _, hv⟩⟩ <;> exact ⟨_, hv⟩) (fun _ _ h => h.1)).frameRN (mW (xy C) ma s)) gL_law_L_state rfl rfl rfl (by decide +kernel) ⟨Nat.le_of_ble_eq_true rfl, Nat.le_of_ble_eq_true rfl⟩ rfl rfl (Nat.le_of_ble_eq_true rfl) dL_law_974 ⟨by exact Nat.le_trans (Nat.add_le_add_left (Nat.le_of_ble_eq_true rfl) _) hmc, by exact Nat.le_trans (Nat.add_le_add_left (Nat.le_of_ble_eq_true rfl) _) hms⟩ (fun v w h9 => ?_)
  obtain ⟨w1, rfl, h9⟩ := h9
  rcases h9 with ⟨S', vv, x, rfl, rfl, hP, hcv⟩ | ⟨S', X, k, rfl, rfl, hXP, hec⟩
  · obtain ⟨c', ad', i', j', p', r', hI', hA', hn⟩ := nx_state hI h hP
    show G C ((cW (xy C) S' ++ [oE (xy C) ob (vp_updL o 0 x)]) ++ mW (xy C) ma s) (mc + 1) (ms + 6) 977 [(4, .int (nI q)), (3, .ref ob), (2, .ref (ma 0)), (1, .ref (ad 5 0)), (0, .ref b)] [.int 0]
    refine g_istore (L' := [(5, .int 0), (4, .int (nI q)), (3, .ref ob), (2, .ref (ma 0)), (1, .ref (ad 5 0)), (0, .ref b)]) E dL_law_977 (by decide) rfl ?_
    refine g_aload_n E dL_law_979 rfl 3 rfl ?_
    refine g_aload_n E dL_law_980 rfl 5 rfl ?_
    refine g_iload E dL_law_981 1 rfl ?_
    refine g_iconst (v := nI 1) E dL_law_983 (by decide) ?_
    refine g_iadd E dL_law_984 ?_
    refine g_sld E hX hbl hbA hL (q + 1) (nI_add q 1) (by omega) dL_law_985 ?_
    refine g_invV (rm' := rm_X6_state) (mc' := 0) (ms' := 0) (As := [.int (xv (q + 1))]) (rest := []) (n := 1) E (gMet.frameL (m_X6_state (xl C) E.tr (xD C) (xy C) e0 h.1.2.2.2.2.2.1 h.b.2.1) (cW (xy C) S' ++ [oE (xy C) ob (vp_updL o 0 x)])) gL_law_X6_state rfl rfl rfl (by decide +kernel) ⟨Nat.le_of_ble_eq_true rfl, Nat.le_of_ble_eq_true rfl⟩ _ 7 rfl rfl (app_r (k := 0) rfl) rfl rfl (Nat.le_of_ble_eq_true rfl) dL_law_986 ⟨Nat.le_trans (show mc + 1 + 0 ≤ mc + 10 from Nat.add_le_add_left (Nat.le_of_ble_eq_true rfl) mc) hmc, Nat.le_trans (show ms + 6 + 0 ≤ ms + 4000 from Nat.add_le_add_left (Nat.le_of_ble_eq_true rfl) ms) hms⟩ (fun X9 w h9 => by obtain ⟨_, _, h9⟩ := h9; exact h9.elim) (fun v w h9 => ?_)
    obtain ⟨w1, rfl, s', rfl, hQ⟩ := h9
    obtain ⟨z, rfl⟩ := sh_state hQ
    obtain ⟨h0, hv, hR⟩ := hn _ _ hQ
    show G C ((cW (xy C) S' ++ [oE (xy C) ob (vp_updL o 0 x)]) ++ mW (xy C) ma s') (mc + 1) (ms + 6) 989 [(5, .int 0), (4, .int (nI q)), (3, .ref ob), (2, .ref (ma 0)), (1, .ref (ad 5 0)), (0, .ref b)] [.int z]
    refine g_istore (L' := [(6, .int z), (5, .int 0), (4, .int (nI q)), (3, .ref ob), (2, .ref (ma 0)), (1, .ref (ad 5 0)), (0, .ref b)]) E dL_law_989 (by decide) rfl ?_
    refine g_aload_n E dL_law_991 rfl 4 rfl ?_
    refine g_invV (rm' := rm_X6_thrown) (mc' := 0) (ms' := 0) (As := []) (rest := []) (n := 0) E (gMet.frameL (m_X6_thrown (xl C) E.tr (xD C) (xy C) e0 (ma := ma) (s := s')) (cW (xy C) S' ++ [oE (xy C) ob (vp_updL o 0 x)])) gL_law_X6_thrown rfl rfl rfl (by decide +kernel) ⟨Nat.le_of_ble_eq_true rfl, Nat.le_of_ble_eq_true rfl⟩ _ 7 rfl rfl (app_r (k := 0) rfl) rfl rfl (Nat.le_of_ble_eq_true rfl) dL_law_992 ⟨Nat.le_trans (show mc + 1 + 0 ≤ mc + 10 from Nat.add_le_add_left (Nat.le_of_ble_eq_true rfl) mc) hmc, Nat.le_trans (show ms + 6 + 0 ≤ ms + 4000 from Nat.add_le_add_left (Nat.le_of_ble_eq_true rfl) ms) hms⟩ (fun X9 w h9 => by obtain ⟨_, _, h9⟩ := h9; exact h9.elim) (fun v w h9 => ?_)
    obtain ⟨w1, rfl, s9, rfl, rfl, rfl⟩ := h9
    show G C ((cW (xy C) S' ++ [oE (xy C) ob (vp_updL o 0 x)]) ++ mW (xy C) ma s9) (mc + 1) (ms + 6) 995 [(6, .int z), (5, .int 0), (4, .int (nI q)), (3, .ref ob), (2, .ref (ma 0)), (1, .ref (ad 5 0)), (0, .ref b)] [.int (mi s9 0)]
    refine g_iload E dL_law_995 1 rfl ?_
    refine g_icmp_eq (tgt := 1002) E dL_law_997 (by decide) (fun _ => ?_) (fun hz => absurd h0 hz)
    refine g_iload E dL_law_1002 1 rfl ?_
    refine g_if_ne (tgt := 1019) E dL_law_1004 (by decide) (fun hz => absurd rfl hz) (fun _ => ?_)
    refine g_aload_n E dL_law_1007 rfl 3 rfl ?_
    refine g_iconst (v := 0) E dL_law_1008 (by decide) ?_
    refine g_outld E dL_law_1009 ?_
    show G C ((cW (xy C) S' ++ [oE (xy C) ob (vp_updL o 0 x)]) ++ mW (xy C) ma s9) (mc + 1) (ms + 6) 1010 [(6, .int z), (5, .int 0), (4, .int (nI q)), (3, .ref ob), (2, .ref (ma 0)), (1, .ref (ad 5 0)), (0, .ref b)] [.long x]
    refine g_iload E dL_law_1010 0 rfl ?_
    refine g_i2l E dL_law_1012 ?_
    have hxz : x = z.toInt64 := by obtain ⟨z0, h4, h6⟩ := hcv; have h5 := hv.trans h4; injection h5 with h5; injection h5 with h5; rw [h6, h5]
    refine g_lcmp E dL_law_1013 ?_
    refine g_if_eq (tgt := 1019) E dL_law_1014 (by decide) (fun _ => ?_) (fun hz => absurd ((lg_cmp_eq _ _).mpr hxz) hz)
    refine g_goto (tgt := 1647) E dL_law_1019 (by decide) ?_
    refine g_widen (mc' := mc + 10) (ms' := ms + 4000) (Nat.add_le_add_left (Nat.le_of_ble_eq_true rfl) _) (Nat.add_le_add_left (Nat.le_of_ble_eq_true rfl) _) ?_
    refine g_locals [(4, .int (nI q)), (3, .ref ob), (2, .ref (ma 0)), (1, .ref (ad 5 0)), (0, .ref b)] [2, 3, 4, 5, 6] rfl ?_
    exact kk _ ⟨S', _, _, c', ad', i', j', p', r', rfl, hI', hA', hR⟩
  · obtain ⟨hk0, c', ad', i', j', p', r', hI', hA', hn⟩ := xx_state hI h hXP hec
    show G C ((cW (xy C) S' ++ [oE (xy C) ob o]) ++ mW (xy C) ma s) (mc + 1) (ms + 6) 977 [(4, .int (nI q)), (3, .ref ob), (2, .ref (ma 0)), (1, .ref (ad 5 0)), (0, .ref b)] [.int k]
    refine g_istore (L' := [(5, .int k), (4, .int (nI q)), (3, .ref ob), (2, .ref (ma 0)), (1, .ref (ad 5 0)), (0, .ref b)]) E dL_law_977 (by decide) rfl ?_
    refine g_aload_n E dL_law_979 rfl 3 rfl ?_
    refine g_aload_n E dL_law_980 rfl 5 rfl ?_
    refine g_iload E dL_law_981 1 rfl ?_
    refine g_iconst (v := nI 1) E dL_law_983 (by decide) ?_
    refine g_iadd E dL_law_984 ?_
    refine g_sld E hX hbl hbA hL (q + 1) (nI_add q 1) (by omega) dL_law_985 ?_
    refine g_invV (rm' := rm_X6_state) (mc' := 0) (ms' := 0) (As := [.int (xv (q + 1))]) (rest := []) (n := 1) E (gMet.frameL (m_X6_state (xl C) E.tr (xD C) (xy C) e0 h.1.2.2.2.2.2.1 h.b.2.1) (cW (xy C) S' ++ [oE (xy C) ob o])) gL_law_X6_state rfl rfl rfl (by decide +kernel) ⟨Nat.le_of_ble_eq_true rfl, Nat.le_of_ble_eq_true rfl⟩ _ 7 rfl rfl (app_r (k := 0) rfl) rfl rfl (Nat.le_of_ble_eq_true rfl) dL_law_986 ⟨Nat.le_trans (show mc + 1 + 0 ≤ mc + 10 from Nat.add_le_add_left (Nat.le_of_ble_eq_true rfl) mc) hmc, Nat.le_trans (show ms + 6 + 0 ≤ ms + 4000 from Nat.add_le_add_left (Nat.le_of_ble_eq_true rfl) ms) hms⟩ (fun X9 w h9 => by obtain ⟨_, _, h9⟩ := h9; exact h9.elim) (fun v w h9 => ?_)
    obtain ⟨w1, rfl, s', rfl, hQ⟩ := h9
    obtain ⟨z, rfl⟩ := sh_state hQ
    obtain ⟨h0, hR⟩ := hn _ _ hQ
    show G C ((cW (xy C) S' ++ [oE (xy C) ob o]) ++ mW (xy C) ma s') (mc + 1) (ms + 6) 989 [(5, .int k), (4, .int (nI q)), (3, .ref ob), (2, .ref (ma 0)), (1, .ref (ad 5 0)), (0, .ref b)] [.int z]
    refine g_istore (L' := [(6, .int z), (5, .int k), (4, .int (nI q)), (3, .ref ob), (2, .ref (ma 0)), (1, .ref (ad 5 0)), (0, .ref b)]) E dL_law_989 (by decide) rfl ?_
    refine g_aload_n E dL_law_991 rfl 4 rfl ?_
    refine g_invV (rm' := rm_X6_thrown) (mc' := 0) (ms' := 0) (As := []) (rest := []) (n := 0) E (gMet.frameL (m_X6_thrown (xl C) E.tr (xD C) (xy C) e0 (ma := ma) (s := s')) (cW (xy C) S' ++ [oE (xy C) ob o])) gL_law_X6_thrown rfl rfl rfl (by decide +kernel) ⟨Nat.le_of_ble_eq_true rfl, Nat.le_of_ble_eq_true rfl⟩ _ 7 rfl rfl (app_r (k := 0) rfl) rfl rfl (Nat.le_of_ble_eq_true rfl) dL_law_992 ⟨Nat.le_trans (show mc + 1 + 0 ≤ mc + 10 from Nat.add_le_add_left (Nat.le_of_ble_eq_true rfl) mc) hmc, Nat.le_trans (show ms + 6 + 0 ≤ ms + 4000 from Nat.add_le_add_left (Nat.le_of_ble_eq_true rfl) ms) hms⟩ (fun X9 w h9 => by obtain ⟨_, _, h9⟩ := h9; exact h9.elim) (fun v w h9 => ?_)
    obtain ⟨w1, rfl, s9, rfl, rfl, rfl⟩ := h9
    show G C ((cW (xy C) S' ++ [oE (xy C) ob o]) ++ mW (xy C) ma s9) (mc + 1) (ms + 6) 995 [(6, .int z), (5, .int k), (4, .int (nI q)), (3, .ref ob), (2, .ref (ma 0)), (1, .ref (ad 5 0)), (0, .ref b)] [.int (mi s9 0)]
    refine g_iload E dL_law_995 1 rfl ?_
    refine g_icmp_eq (tgt := 1002) E dL_law_997 (by decide) (fun _ => ?_) (fun hz => absurd h0 hz)
    refine g_iload E dL_law_1002 1 rfl ?_
    refine g_if_ne (tgt := 1019) E dL_law_1004 (by decide) (fun _ => ?_) (fun hz => absurd hz hk0)
    refine g_goto (tgt := 1647) E dL_law_1019 (by decide) ?_
    refine g_widen (mc' := mc + 10) (ms' := ms + 4000) (Nat.add_le_add_left (Nat.le_of_ble_eq_true rfl) _) (Nat.add_le_add_left (Nat.le_of_ble_eq_true rfl) _) ?_
    refine g_locals [(4, .int (nI q)), (3, .ref ob), (2, .ref (ma 0)), (1, .ref (ad 5 0)), (0, .ref b)] [2, 3, 4, 5, 6] rfl ?_
    exact kk _ ⟨S', _, _, c', ad', i', j', p', r', rfl, hI', hA', hR⟩
set_option maxHeartbeats 4000000 in
set_option maxRecDepth 100000 in
theorem cs_cause (E : gOk C cL_law 8 wsL_law RL e0 room_1) (hX : va_X b Ln xv (xs C) (xs C).heap) (hbl : b < (xs C).heap.size) (hbA : ¬ xA C b) (hL : Ln ≤ 3584) (hq : q + 7 ≤ Ln) (hW : LV C e0 a ob ma W) (hmc : mc + 10 ≤ 601024) (hms : ms + 4000 ≤ 7293034) (kk : ∀ W', LV C e0 a ob ma W' → G C W' (mc + 10) (ms + 4000) 1647 [(4, .int (nI q)), (3, .ref ob), (2, .ref (ma 0)), (1, .ref a), (0, .ref b)] []) : G C W mc ms 1022 [(4, .int (nI q)), (3, .ref ob), (2, .ref (ma 0)), (1, .ref a), (0, .ref b)] [] := by
  obtain ⟨S, o, s, c, ad, i, j, p, r, rfl, hI, hA, M, N, h⟩ := hW
  subst hA
  refine g_aload_n E dL_law_1022 rfl 3 rfl ?_
  refine g_aload_n E dL_law_1023 rfl 4 rfl ?_
  refine g_iload E dL_law_1024 0 rfl ?_
  refine g_iconst (v := nI 1) E dL_law_1026 (by decide) ?_
  refine g_iadd E dL_law_1027 ?_
  refine g_sld E hX hbl hbA hL (q + 1) (nI_add q 1) (by omega) dL_law_1028 ?_
  refine g_aload_n E dL_law_1029 rfl 1 rfl ?_
  refine g_invSW (rm' := rm_L_cause) (mc' := 1) (ms' := 6) (As := [.ref (ad 5 0), .int (xv (q + 1)), .ref ob]) (rest := []) (n := 3) E ((w_cause (xl C) E.tr (xD C) (xy C) e0 (hI.obj (kd := 5) (by decide) hI.c5).1 (hI.obj (kd := 5) (by decide) hI.c5).2 (m_X5_cause (xl C) E.tr (xD C) (xy C) e0 hI) (fun v S' hP => by rcases hP with ⟨_, ⟨_, _, _, hv⟩⟩ <;> exact ⟨_, hv⟩) (fun _ _ h => h.1)).frameRN (mW (xy C) ma s)) gL_law_L_cause rfl rfl rfl (by decide +kernel) ⟨Nat.le_of_ble_eq_true rfl, Nat.le_of_ble_eq_true rfl⟩ rfl rfl (Nat.le_of_ble_eq_true rfl) dL_law_1030 ⟨by exact Nat.le_trans (Nat.add_le_add_left (Nat.le_of_ble_eq_true rfl) _) hmc, by exact Nat.le_trans (Nat.add_le_add_left (Nat.le_of_ble_eq_true rfl) _) hms⟩ (fun v w h9 => ?_)
  obtain ⟨w1, rfl, h9⟩ := h9
  rcases h9 with ⟨S', vv, x, rfl, rfl, hP, hcv⟩ | ⟨S', X, k, rfl, rfl, hXP, hec⟩
  · obtain ⟨c', ad', i', j', p', r', hI', hA', hn⟩ := nx_cause hI h hP
    show G C ((cW (xy C) S' ++ [oE (xy C) ob (vp_updL o 0 x)]) ++ mW (xy C) ma s) (mc + 1) (ms + 6) 1033 [(4, .int (nI q)), (3, .ref ob), (2, .ref (ma 0)), (1, .ref (ad 5 0)), (0, .ref b)] [.int 0]
    refine g_istore (L' := [(5, .int 0), (4, .int (nI q)), (3, .ref ob), (2, .ref (ma 0)), (1, .ref (ad 5 0)), (0, .ref b)]) E dL_law_1033 (by decide) rfl ?_
    refine g_aload_n E dL_law_1035 rfl 3 rfl ?_
    refine g_aload_n E dL_law_1036 rfl 5 rfl ?_
    refine g_iload E dL_law_1037 1 rfl ?_
    refine g_iconst (v := nI 1) E dL_law_1039 (by decide) ?_
    refine g_iadd E dL_law_1040 ?_
    refine g_sld E hX hbl hbA hL (q + 1) (nI_add q 1) (by omega) dL_law_1041 ?_
    refine g_invV (rm' := rm_X6_cause) (mc' := 0) (ms' := 0) (As := [.int (xv (q + 1))]) (rest := []) (n := 1) E (gMet.frameL (m_X6_cause (xl C) E.tr (xD C) (xy C) e0 h.1.2.2.2.2.2.1 h.b.2.1) (cW (xy C) S' ++ [oE (xy C) ob (vp_updL o 0 x)])) gL_law_X6_cause rfl rfl rfl (by decide +kernel) ⟨Nat.le_of_ble_eq_true rfl, Nat.le_of_ble_eq_true rfl⟩ _ 7 rfl rfl (app_r (k := 0) rfl) rfl rfl (Nat.le_of_ble_eq_true rfl) dL_law_1042 ⟨Nat.le_trans (show mc + 1 + 0 ≤ mc + 10 from Nat.add_le_add_left (Nat.le_of_ble_eq_true rfl) mc) hmc, Nat.le_trans (show ms + 6 + 0 ≤ ms + 4000 from Nat.add_le_add_left (Nat.le_of_ble_eq_true rfl) ms) hms⟩ (fun X9 w h9 => by obtain ⟨_, _, h9⟩ := h9; exact h9.elim) (fun v w h9 => ?_)
    obtain ⟨w1, rfl, s', rfl, hQ⟩ := h9
    obtain ⟨z, rfl⟩ := sh_cause hQ
    obtain ⟨h0, hv, hR⟩ := hn _ _ hQ
    show G C ((cW (xy C) S' ++ [oE (xy C) ob (vp_updL o 0 x)]) ++ mW (xy C) ma s') (mc + 1) (ms + 6) 1045 [(5, .int 0), (4, .int (nI q)), (3, .ref ob), (2, .ref (ma 0)), (1, .ref (ad 5 0)), (0, .ref b)] [.int z]
    refine g_istore (L' := [(6, .int z), (5, .int 0), (4, .int (nI q)), (3, .ref ob), (2, .ref (ma 0)), (1, .ref (ad 5 0)), (0, .ref b)]) E dL_law_1045 (by decide) rfl ?_
    refine g_aload_n E dL_law_1047 rfl 4 rfl ?_
    refine g_invV (rm' := rm_X6_thrown) (mc' := 0) (ms' := 0) (As := []) (rest := []) (n := 0) E (gMet.frameL (m_X6_thrown (xl C) E.tr (xD C) (xy C) e0 (ma := ma) (s := s')) (cW (xy C) S' ++ [oE (xy C) ob (vp_updL o 0 x)])) gL_law_X6_thrown rfl rfl rfl (by decide +kernel) ⟨Nat.le_of_ble_eq_true rfl, Nat.le_of_ble_eq_true rfl⟩ _ 7 rfl rfl (app_r (k := 0) rfl) rfl rfl (Nat.le_of_ble_eq_true rfl) dL_law_1048 ⟨Nat.le_trans (show mc + 1 + 0 ≤ mc + 10 from Nat.add_le_add_left (Nat.le_of_ble_eq_true rfl) mc) hmc, Nat.le_trans (show ms + 6 + 0 ≤ ms + 4000 from Nat.add_le_add_left (Nat.le_of_ble_eq_true rfl) ms) hms⟩ (fun X9 w h9 => by obtain ⟨_, _, h9⟩ := h9; exact h9.elim) (fun v w h9 => ?_)
    obtain ⟨w1, rfl, s9, rfl, rfl, rfl⟩ := h9
    show G C ((cW (xy C) S' ++ [oE (xy C) ob (vp_updL o 0 x)]) ++ mW (xy C) ma s9) (mc + 1) (ms + 6) 1051 [(6, .int z), (5, .int 0), (4, .int (nI q)), (3, .ref ob), (2, .ref (ma 0)), (1, .ref (ad 5 0)), (0, .ref b)] [.int (mi s9 0)]
    refine g_iload E dL_law_1051 1 rfl ?_
    refine g_icmp_eq (tgt := 1058) E dL_law_1053 (by decide) (fun _ => ?_) (fun hz => absurd h0 hz)
    refine g_iload E dL_law_1058 1 rfl ?_
    refine g_if_ne (tgt := 1075) E dL_law_1060 (by decide) (fun hz => absurd rfl hz) (fun _ => ?_)
    refine g_aload_n E dL_law_1063 rfl 3 rfl ?_
    refine g_iconst (v := 0) E dL_law_1064 (by decide) ?_
    refine g_outld E dL_law_1065 ?_
    show G C ((cW (xy C) S' ++ [oE (xy C) ob (vp_updL o 0 x)]) ++ mW (xy C) ma s9) (mc + 1) (ms + 6) 1066 [(6, .int z), (5, .int 0), (4, .int (nI q)), (3, .ref ob), (2, .ref (ma 0)), (1, .ref (ad 5 0)), (0, .ref b)] [.long x]
    refine g_iload E dL_law_1066 0 rfl ?_
    refine g_i2l E dL_law_1068 ?_
    have hxz : x = z.toInt64 := by obtain ⟨z0, h4, h6⟩ := hcv; have h5 := hv.trans h4; injection h5 with h5; injection h5 with h5; rw [h6, h5]
    refine g_lcmp E dL_law_1069 ?_
    refine g_if_eq (tgt := 1075) E dL_law_1070 (by decide) (fun _ => ?_) (fun hz => absurd ((lg_cmp_eq _ _).mpr hxz) hz)
    refine g_goto (tgt := 1647) E dL_law_1075 (by decide) ?_
    refine g_widen (mc' := mc + 10) (ms' := ms + 4000) (Nat.add_le_add_left (Nat.le_of_ble_eq_true rfl) _) (Nat.add_le_add_left (Nat.le_of_ble_eq_true rfl) _) ?_
    refine g_locals [(4, .int (nI q)), (3, .ref ob), (2, .ref (ma 0)), (1, .ref (ad 5 0)), (0, .ref b)] [2, 3, 4, 5, 6] rfl ?_
    exact kk _ ⟨S', _, _, c', ad', i', j', p', r', rfl, hI', hA', hR⟩
  · obtain ⟨hk0, c', ad', i', j', p', r', hI', hA', hn⟩ := xx_cause hI h hXP hec
    show G C ((cW (xy C) S' ++ [oE (xy C) ob o]) ++ mW (xy C) ma s) (mc + 1) (ms + 6) 1033 [(4, .int (nI q)), (3, .ref ob), (2, .ref (ma 0)), (1, .ref (ad 5 0)), (0, .ref b)] [.int k]
    refine g_istore (L' := [(5, .int k), (4, .int (nI q)), (3, .ref ob), (2, .ref (ma 0)), (1, .ref (ad 5 0)), (0, .ref b)]) E dL_law_1033 (by decide) rfl ?_
    refine g_aload_n E dL_law_1035 rfl 3 rfl ?_
    refine g_aload_n E dL_law_1036 rfl 5 rfl ?_
    refine g_iload E dL_law_1037 1 rfl ?_
    refine g_iconst (v := nI 1) E dL_law_1039 (by decide) ?_
    refine g_iadd E dL_law_1040 ?_
    refine g_sld E hX hbl hbA hL (q + 1) (nI_add q 1) (by omega) dL_law_1041 ?_
    refine g_invV (rm' := rm_X6_cause) (mc' := 0) (ms' := 0) (As := [.int (xv (q + 1))]) (rest := []) (n := 1) E (gMet.frameL (m_X6_cause (xl C) E.tr (xD C) (xy C) e0 h.1.2.2.2.2.2.1 h.b.2.1) (cW (xy C) S' ++ [oE (xy C) ob o])) gL_law_X6_cause rfl rfl rfl (by decide +kernel) ⟨Nat.le_of_ble_eq_true rfl, Nat.le_of_ble_eq_true rfl⟩ _ 7 rfl rfl (app_r (k := 0) rfl) rfl rfl (Nat.le_of_ble_eq_true rfl) dL_law_1042 ⟨Nat.le_trans (show mc + 1 + 0 ≤ mc + 10 from Nat.add_le_add_left (Nat.le_of_ble_eq_true rfl) mc) hmc, Nat.le_trans (show ms + 6 + 0 ≤ ms + 4000 from Nat.add_le_add_left (Nat.le_of_ble_eq_true rfl) ms) hms⟩ (fun X9 w h9 => by obtain ⟨_, _, h9⟩ := h9; exact h9.elim) (fun v w h9 => ?_)
    obtain ⟨w1, rfl, s', rfl, hQ⟩ := h9
    obtain ⟨z, rfl⟩ := sh_cause hQ
    obtain ⟨h0, hR⟩ := hn _ _ hQ
    show G C ((cW (xy C) S' ++ [oE (xy C) ob o]) ++ mW (xy C) ma s') (mc + 1) (ms + 6) 1045 [(5, .int k), (4, .int (nI q)), (3, .ref ob), (2, .ref (ma 0)), (1, .ref (ad 5 0)), (0, .ref b)] [.int z]
    refine g_istore (L' := [(6, .int z), (5, .int k), (4, .int (nI q)), (3, .ref ob), (2, .ref (ma 0)), (1, .ref (ad 5 0)), (0, .ref b)]) E dL_law_1045 (by decide) rfl ?_
    refine g_aload_n E dL_law_1047 rfl 4 rfl ?_
    refine g_invV (rm' := rm_X6_thrown) (mc' := 0) (ms' := 0) (As := []) (rest := []) (n := 0) E (gMet.frameL (m_X6_thrown (xl C) E.tr (xD C) (xy C) e0 (ma := ma) (s := s')) (cW (xy C) S' ++ [oE (xy C) ob o])) gL_law_X6_thrown rfl rfl rfl (by decide +kernel) ⟨Nat.le_of_ble_eq_true rfl, Nat.le_of_ble_eq_true rfl⟩ _ 7 rfl rfl (app_r (k := 0) rfl) rfl rfl (Nat.le_of_ble_eq_true rfl) dL_law_1048 ⟨Nat.le_trans (show mc + 1 + 0 ≤ mc + 10 from Nat.add_le_add_left (Nat.le_of_ble_eq_true rfl) mc) hmc, Nat.le_trans (show ms + 6 + 0 ≤ ms + 4000 from Nat.add_le_add_left (Nat.le_of_ble_eq_true rfl) ms) hms⟩ (fun X9 w h9 => by obtain ⟨_, _, h9⟩ := h9; exact h9.elim) (fun v w h9 => ?_)
    obtain ⟨w1, rfl, s9, rfl, rfl, rfl⟩ := h9
    show G C ((cW (xy C) S' ++ [oE (xy C) ob o]) ++ mW (xy C) ma s9) (mc + 1) (ms + 6) 1051 [(6, .int z), (5, .int k), (4, .int (nI q)), (3, .ref ob), (2, .ref (ma 0)), (1, .ref (ad 5 0)), (0, .ref b)] [.int (mi s9 0)]
    refine g_iload E dL_law_1051 1 rfl ?_
    refine g_icmp_eq (tgt := 1058) E dL_law_1053 (by decide) (fun _ => ?_) (fun hz => absurd h0 hz)
    refine g_iload E dL_law_1058 1 rfl ?_
    refine g_if_ne (tgt := 1075) E dL_law_1060 (by decide) (fun _ => ?_) (fun hz => absurd hz hk0)
    refine g_goto (tgt := 1647) E dL_law_1075 (by decide) ?_
    refine g_widen (mc' := mc + 10) (ms' := ms + 4000) (Nat.add_le_add_left (Nat.le_of_ble_eq_true rfl) _) (Nat.add_le_add_left (Nat.le_of_ble_eq_true rfl) _) ?_
    refine g_locals [(4, .int (nI q)), (3, .ref ob), (2, .ref (ma 0)), (1, .ref (ad 5 0)), (0, .ref b)] [2, 3, 4, 5, 6] rfl ?_
    exact kk _ ⟨S', _, _, c', ad', i', j', p', r', rfl, hI', hA', hR⟩
set_option maxHeartbeats 4000000 in
set_option maxRecDepth 100000 in
theorem cs_from (E : gOk C cL_law 8 wsL_law RL e0 room_1) (hX : va_X b Ln xv (xs C) (xs C).heap) (hbl : b < (xs C).heap.size) (hbA : ¬ xA C b) (hL : Ln ≤ 3584) (hq : q + 7 ≤ Ln) (hW : LV C e0 a ob ma W) (hmc : mc + 10 ≤ 601024) (hms : ms + 4000 ≤ 7293034) (kk : ∀ W', LV C e0 a ob ma W' → G C W' (mc + 10) (ms + 4000) 1647 [(4, .int (nI q)), (3, .ref ob), (2, .ref (ma 0)), (1, .ref a), (0, .ref b)] []) : G C W mc ms 1078 [(4, .int (nI q)), (3, .ref ob), (2, .ref (ma 0)), (1, .ref a), (0, .ref b)] [] := by
  obtain ⟨S, o, s, c, ad, i, j, p, r, rfl, hI, hA, M, N, h⟩ := hW
  subst hA
  refine g_aload_n E dL_law_1078 rfl 3 rfl ?_
  refine g_aload_n E dL_law_1079 rfl 4 rfl ?_
  refine g_iload E dL_law_1080 0 rfl ?_
  refine g_iconst (v := nI 1) E dL_law_1082 (by decide) ?_
  refine g_iadd E dL_law_1083 ?_
  refine g_sld E hX hbl hbA hL (q + 1) (nI_add q 1) (by omega) dL_law_1084 ?_
  refine g_aload_n E dL_law_1085 rfl 1 rfl ?_
  refine g_invSW (rm' := rm_L_from) (mc' := 1) (ms' := 6) (As := [.ref (ad 5 0), .int (xv (q + 1)), .ref ob]) (rest := []) (n := 3) E ((w_from (xl C) E.tr (xD C) (xy C) e0 (hI.obj (kd := 5) (by decide) hI.c5).1 (hI.obj (kd := 5) (by decide) hI.c5).2 (m_X5_from (xl C) E.tr (xD C) (xy C) e0 hI) (fun v S' hP => by rcases hP with ⟨_, ⟨_, _, _, hv⟩⟩ <;> exact ⟨_, hv⟩) (fun _ _ h => h.1)).frameRN (mW (xy C) ma s)) gL_law_L_from rfl rfl rfl (by decide +kernel) ⟨Nat.le_of_ble_eq_true rfl, Nat.le_of_ble_eq_true rfl⟩ rfl rfl (Nat.le_of_ble_eq_true rfl) dL_law_1086 ⟨by exact Nat.le_trans (Nat.add_le_add_left (Nat.le_of_ble_eq_true rfl) _) hmc, by exact Nat.le_trans (Nat.add_le_add_left (Nat.le_of_ble_eq_true rfl) _) hms⟩ (fun v w h9 => ?_)
  obtain ⟨w1, rfl, h9⟩ := h9
  rcases h9 with ⟨S', vv, x, rfl, rfl, hP, hcv⟩ | ⟨S', X, k, rfl, rfl, hXP, hec⟩
  · obtain ⟨c', ad', i', j', p', r', hI', hA', hn⟩ := nx_from hI h hP
    show G C ((cW (xy C) S' ++ [oE (xy C) ob (vp_updL o 0 x)]) ++ mW (xy C) ma s) (mc + 1) (ms + 6) 1089 [(4, .int (nI q)), (3, .ref ob), (2, .ref (ma 0)), (1, .ref (ad 5 0)), (0, .ref b)] [.int 0]
    refine g_istore (L' := [(5, .int 0), (4, .int (nI q)), (3, .ref ob), (2, .ref (ma 0)), (1, .ref (ad 5 0)), (0, .ref b)]) E dL_law_1089 (by decide) rfl ?_
    refine g_aload_n E dL_law_1091 rfl 3 rfl ?_
    refine g_aload_n E dL_law_1092 rfl 5 rfl ?_
    refine g_iload E dL_law_1093 1 rfl ?_
    refine g_iconst (v := nI 1) E dL_law_1095 (by decide) ?_
    refine g_iadd E dL_law_1096 ?_
    refine g_sld E hX hbl hbA hL (q + 1) (nI_add q 1) (by omega) dL_law_1097 ?_
    refine g_invV (rm' := rm_X6_from) (mc' := 0) (ms' := 0) (As := [.int (xv (q + 1))]) (rest := []) (n := 1) E (gMet.frameL (m_X6_from (xl C) E.tr (xD C) (xy C) e0 h.1.2.2.2.2.2.1 h.b.2.1 (h.pm.hop h.b.2.2.1 h.b.2.1)) (cW (xy C) S' ++ [oE (xy C) ob (vp_updL o 0 x)])) gL_law_X6_from rfl rfl rfl (by decide +kernel) ⟨Nat.le_of_ble_eq_true rfl, Nat.le_of_ble_eq_true rfl⟩ _ 7 rfl rfl (app_r (k := 0) rfl) rfl rfl (Nat.le_of_ble_eq_true rfl) dL_law_1098 ⟨Nat.le_trans (show mc + 1 + 0 ≤ mc + 10 from Nat.add_le_add_left (Nat.le_of_ble_eq_true rfl) mc) hmc, Nat.le_trans (show ms + 6 + 0 ≤ ms + 4000 from Nat.add_le_add_left (Nat.le_of_ble_eq_true rfl) ms) hms⟩ (fun X9 w h9 => by obtain ⟨_, _, h9⟩ := h9; exact h9.elim) (fun v w h9 => ?_)
    obtain ⟨w1, rfl, s', rfl, hQ⟩ := h9
    obtain ⟨z, rfl⟩ := sh_from hQ
    obtain ⟨h0, hv, hR⟩ := hn _ _ hQ
    show G C ((cW (xy C) S' ++ [oE (xy C) ob (vp_updL o 0 x)]) ++ mW (xy C) ma s') (mc + 1) (ms + 6) 1101 [(5, .int 0), (4, .int (nI q)), (3, .ref ob), (2, .ref (ma 0)), (1, .ref (ad 5 0)), (0, .ref b)] [.int z]
    refine g_istore (L' := [(6, .int z), (5, .int 0), (4, .int (nI q)), (3, .ref ob), (2, .ref (ma 0)), (1, .ref (ad 5 0)), (0, .ref b)]) E dL_law_1101 (by decide) rfl ?_
    refine g_aload_n E dL_law_1103 rfl 4 rfl ?_
    refine g_invV (rm' := rm_X6_thrown) (mc' := 0) (ms' := 0) (As := []) (rest := []) (n := 0) E (gMet.frameL (m_X6_thrown (xl C) E.tr (xD C) (xy C) e0 (ma := ma) (s := s')) (cW (xy C) S' ++ [oE (xy C) ob (vp_updL o 0 x)])) gL_law_X6_thrown rfl rfl rfl (by decide +kernel) ⟨Nat.le_of_ble_eq_true rfl, Nat.le_of_ble_eq_true rfl⟩ _ 7 rfl rfl (app_r (k := 0) rfl) rfl rfl (Nat.le_of_ble_eq_true rfl) dL_law_1104 ⟨Nat.le_trans (show mc + 1 + 0 ≤ mc + 10 from Nat.add_le_add_left (Nat.le_of_ble_eq_true rfl) mc) hmc, Nat.le_trans (show ms + 6 + 0 ≤ ms + 4000 from Nat.add_le_add_left (Nat.le_of_ble_eq_true rfl) ms) hms⟩ (fun X9 w h9 => by obtain ⟨_, _, h9⟩ := h9; exact h9.elim) (fun v w h9 => ?_)
    obtain ⟨w1, rfl, s9, rfl, rfl, rfl⟩ := h9
    show G C ((cW (xy C) S' ++ [oE (xy C) ob (vp_updL o 0 x)]) ++ mW (xy C) ma s9) (mc + 1) (ms + 6) 1107 [(6, .int z), (5, .int 0), (4, .int (nI q)), (3, .ref ob), (2, .ref (ma 0)), (1, .ref (ad 5 0)), (0, .ref b)] [.int (mi s9 0)]
    refine g_iload E dL_law_1107 1 rfl ?_
    refine g_icmp_eq (tgt := 1114) E dL_law_1109 (by decide) (fun _ => ?_) (fun hz => absurd h0 hz)
    refine g_iload E dL_law_1114 1 rfl ?_
    refine g_if_ne (tgt := 1131) E dL_law_1116 (by decide) (fun hz => absurd rfl hz) (fun _ => ?_)
    refine g_aload_n E dL_law_1119 rfl 3 rfl ?_
    refine g_iconst (v := 0) E dL_law_1120 (by decide) ?_
    refine g_outld E dL_law_1121 ?_
    show G C ((cW (xy C) S' ++ [oE (xy C) ob (vp_updL o 0 x)]) ++ mW (xy C) ma s9) (mc + 1) (ms + 6) 1122 [(6, .int z), (5, .int 0), (4, .int (nI q)), (3, .ref ob), (2, .ref (ma 0)), (1, .ref (ad 5 0)), (0, .ref b)] [.long x]
    refine g_iload E dL_law_1122 0 rfl ?_
    refine g_i2l E dL_law_1124 ?_
    have hxz : x = z.toInt64 := by obtain ⟨z0, h4, h6⟩ := hcv; have h5 := hv.trans h4; injection h5 with h5; injection h5 with h5; rw [h6, h5]
    refine g_lcmp E dL_law_1125 ?_
    refine g_if_eq (tgt := 1131) E dL_law_1126 (by decide) (fun _ => ?_) (fun hz => absurd ((lg_cmp_eq _ _).mpr hxz) hz)
    refine g_goto (tgt := 1647) E dL_law_1131 (by decide) ?_
    refine g_widen (mc' := mc + 10) (ms' := ms + 4000) (Nat.add_le_add_left (Nat.le_of_ble_eq_true rfl) _) (Nat.add_le_add_left (Nat.le_of_ble_eq_true rfl) _) ?_
    refine g_locals [(4, .int (nI q)), (3, .ref ob), (2, .ref (ma 0)), (1, .ref (ad 5 0)), (0, .ref b)] [2, 3, 4, 5, 6] rfl ?_
    exact kk _ ⟨S', _, _, c', ad', i', j', p', r', rfl, hI', hA', hR⟩
  · obtain ⟨hk0, c', ad', i', j', p', r', hI', hA', hn⟩ := xx_from hI h hXP hec
    show G C ((cW (xy C) S' ++ [oE (xy C) ob o]) ++ mW (xy C) ma s) (mc + 1) (ms + 6) 1089 [(4, .int (nI q)), (3, .ref ob), (2, .ref (ma 0)), (1, .ref (ad 5 0)), (0, .ref b)] [.int k]
    refine g_istore (L' := [(5, .int k), (4, .int (nI q)), (3, .ref ob), (2, .ref (ma 0)), (1, .ref (ad 5 0)), (0, .ref b)]) E dL_law_1089 (by decide) rfl ?_
    refine g_aload_n E dL_law_1091 rfl 3 rfl ?_
    refine g_aload_n E dL_law_1092 rfl 5 rfl ?_
    refine g_iload E dL_law_1093 1 rfl ?_
    refine g_iconst (v := nI 1) E dL_law_1095 (by decide) ?_
    refine g_iadd E dL_law_1096 ?_
    refine g_sld E hX hbl hbA hL (q + 1) (nI_add q 1) (by omega) dL_law_1097 ?_
    refine g_invV (rm' := rm_X6_from) (mc' := 0) (ms' := 0) (As := [.int (xv (q + 1))]) (rest := []) (n := 1) E (gMet.frameL (m_X6_from (xl C) E.tr (xD C) (xy C) e0 h.1.2.2.2.2.2.1 h.b.2.1 (h.pm.hop h.b.2.2.1 h.b.2.1)) (cW (xy C) S' ++ [oE (xy C) ob o])) gL_law_X6_from rfl rfl rfl (by decide +kernel) ⟨Nat.le_of_ble_eq_true rfl, Nat.le_of_ble_eq_true rfl⟩ _ 7 rfl rfl (app_r (k := 0) rfl) rfl rfl (Nat.le_of_ble_eq_true rfl) dL_law_1098 ⟨Nat.le_trans (show mc + 1 + 0 ≤ mc + 10 from Nat.add_le_add_left (Nat.le_of_ble_eq_true rfl) mc) hmc, Nat.le_trans (show ms + 6 + 0 ≤ ms + 4000 from Nat.add_le_add_left (Nat.le_of_ble_eq_true rfl) ms) hms⟩ (fun X9 w h9 => by obtain ⟨_, _, h9⟩ := h9; exact h9.elim) (fun v w h9 => ?_)
    obtain ⟨w1, rfl, s', rfl, hQ⟩ := h9
    obtain ⟨z, rfl⟩ := sh_from hQ
    obtain ⟨h0, hR⟩ := hn _ _ hQ
    show G C ((cW (xy C) S' ++ [oE (xy C) ob o]) ++ mW (xy C) ma s') (mc + 1) (ms + 6) 1101 [(5, .int k), (4, .int (nI q)), (3, .ref ob), (2, .ref (ma 0)), (1, .ref (ad 5 0)), (0, .ref b)] [.int z]
    refine g_istore (L' := [(6, .int z), (5, .int k), (4, .int (nI q)), (3, .ref ob), (2, .ref (ma 0)), (1, .ref (ad 5 0)), (0, .ref b)]) E dL_law_1101 (by decide) rfl ?_
    refine g_aload_n E dL_law_1103 rfl 4 rfl ?_
    refine g_invV (rm' := rm_X6_thrown) (mc' := 0) (ms' := 0) (As := []) (rest := []) (n := 0) E (gMet.frameL (m_X6_thrown (xl C) E.tr (xD C) (xy C) e0 (ma := ma) (s := s')) (cW (xy C) S' ++ [oE (xy C) ob o])) gL_law_X6_thrown rfl rfl rfl (by decide +kernel) ⟨Nat.le_of_ble_eq_true rfl, Nat.le_of_ble_eq_true rfl⟩ _ 7 rfl rfl (app_r (k := 0) rfl) rfl rfl (Nat.le_of_ble_eq_true rfl) dL_law_1104 ⟨Nat.le_trans (show mc + 1 + 0 ≤ mc + 10 from Nat.add_le_add_left (Nat.le_of_ble_eq_true rfl) mc) hmc, Nat.le_trans (show ms + 6 + 0 ≤ ms + 4000 from Nat.add_le_add_left (Nat.le_of_ble_eq_true rfl) ms) hms⟩ (fun X9 w h9 => by obtain ⟨_, _, h9⟩ := h9; exact h9.elim) (fun v w h9 => ?_)
    obtain ⟨w1, rfl, s9, rfl, rfl, rfl⟩ := h9
    show G C ((cW (xy C) S' ++ [oE (xy C) ob o]) ++ mW (xy C) ma s9) (mc + 1) (ms + 6) 1107 [(6, .int z), (5, .int k), (4, .int (nI q)), (3, .ref ob), (2, .ref (ma 0)), (1, .ref (ad 5 0)), (0, .ref b)] [.int (mi s9 0)]
    refine g_iload E dL_law_1107 1 rfl ?_
    refine g_icmp_eq (tgt := 1114) E dL_law_1109 (by decide) (fun _ => ?_) (fun hz => absurd h0 hz)
    refine g_iload E dL_law_1114 1 rfl ?_
    refine g_if_ne (tgt := 1131) E dL_law_1116 (by decide) (fun _ => ?_) (fun hz => absurd hz hk0)
    refine g_goto (tgt := 1647) E dL_law_1131 (by decide) ?_
    refine g_widen (mc' := mc + 10) (ms' := ms + 4000) (Nat.add_le_add_left (Nat.le_of_ble_eq_true rfl) _) (Nat.add_le_add_left (Nat.le_of_ble_eq_true rfl) _) ?_
    refine g_locals [(4, .int (nI q)), (3, .ref ob), (2, .ref (ma 0)), (1, .ref (ad 5 0)), (0, .ref b)] [2, 3, 4, 5, 6] rfl ?_
    exact kk _ ⟨S', _, _, c', ad', i', j', p', r', rfl, hI', hA', hR⟩
set_option maxHeartbeats 4000000 in
set_option maxRecDepth 100000 in
theorem cs_end (E : gOk C cL_law 8 wsL_law RL e0 room_1) (hX : va_X b Ln xv (xs C) (xs C).heap) (hbl : b < (xs C).heap.size) (hbA : ¬ xA C b) (hL : Ln ≤ 3584) (hq : q + 7 ≤ Ln) (hW : LV C e0 a ob ma W) (hmc : mc + 10 ≤ 601024) (hms : ms + 4000 ≤ 7293034) (kk : ∀ W', LV C e0 a ob ma W' → G C W' (mc + 10) (ms + 4000) 1647 [(4, .int (nI q)), (3, .ref ob), (2, .ref (ma 0)), (1, .ref a), (0, .ref b)] []) : G C W mc ms 1134 [(4, .int (nI q)), (3, .ref ob), (2, .ref (ma 0)), (1, .ref a), (0, .ref b)] [] := by
  obtain ⟨S, o, s, c, ad, i, j, p, r, rfl, hI, hA, M, N, h⟩ := hW
  subst hA
  refine g_aload_n E dL_law_1134 rfl 3 rfl ?_
  refine g_aload_n E dL_law_1135 rfl 4 rfl ?_
  refine g_iload E dL_law_1136 0 rfl ?_
  refine g_iconst (v := nI 1) E dL_law_1138 (by decide) ?_
  refine g_iadd E dL_law_1139 ?_
  refine g_sld E hX hbl hbA hL (q + 1) (nI_add q 1) (by omega) dL_law_1140 ?_
  refine g_aload_n E dL_law_1141 rfl 1 rfl ?_
  refine g_invSW (rm' := rm_L_end) (mc' := 1) (ms' := 6) (As := [.ref (ad 5 0), .int (xv (q + 1)), .ref ob]) (rest := []) (n := 3) E ((w_end (xl C) E.tr (xD C) (xy C) e0 (hI.obj (kd := 5) (by decide) hI.c5).1 (hI.obj (kd := 5) (by decide) hI.c5).2 (m_X5_end (xl C) E.tr (xD C) (xy C) e0 hI) (fun v S' hP => by rcases hP with ⟨_, ⟨_, _, _, hv⟩⟩ <;> exact ⟨_, hv⟩) (fun _ _ h => h.1)).frameRN (mW (xy C) ma s)) gL_law_L_end rfl rfl rfl (by decide +kernel) ⟨Nat.le_of_ble_eq_true rfl, Nat.le_of_ble_eq_true rfl⟩ rfl rfl (Nat.le_of_ble_eq_true rfl) dL_law_1142 ⟨by exact Nat.le_trans (Nat.add_le_add_left (Nat.le_of_ble_eq_true rfl) _) hmc, by exact Nat.le_trans (Nat.add_le_add_left (Nat.le_of_ble_eq_true rfl) _) hms⟩ (fun v w h9 => ?_)
  obtain ⟨w1, rfl, h9⟩ := h9
  rcases h9 with ⟨S', vv, x, rfl, rfl, hP, hcv⟩ | ⟨S', X, k, rfl, rfl, hXP, hec⟩
  · obtain ⟨c', ad', i', j', p', r', hI', hA', hn⟩ := nx_end hI h hP
    show G C ((cW (xy C) S' ++ [oE (xy C) ob (vp_updL o 0 x)]) ++ mW (xy C) ma s) (mc + 1) (ms + 6) 1145 [(4, .int (nI q)), (3, .ref ob), (2, .ref (ma 0)), (1, .ref (ad 5 0)), (0, .ref b)] [.int 0]
    refine g_istore (L' := [(5, .int 0), (4, .int (nI q)), (3, .ref ob), (2, .ref (ma 0)), (1, .ref (ad 5 0)), (0, .ref b)]) E dL_law_1145 (by decide) rfl ?_
    refine g_aload_n E dL_law_1147 rfl 3 rfl ?_
    refine g_aload_n E dL_law_1148 rfl 5 rfl ?_
    refine g_iload E dL_law_1149 1 rfl ?_
    refine g_iconst (v := nI 1) E dL_law_1151 (by decide) ?_
    refine g_iadd E dL_law_1152 ?_
    refine g_sld E hX hbl hbA hL (q + 1) (nI_add q 1) (by omega) dL_law_1153 ?_
    refine g_invV (rm' := rm_X6_end) (mc' := 0) (ms' := 0) (As := [.int (xv (q + 1))]) (rest := []) (n := 1) E (gMet.frameL (m_X6_end (xl C) E.tr (xD C) (xy C) e0 h.1.2.2.2.2.2.1 h.b.2.1 (h.pm.hop h.b.2.2.1 h.b.2.1)) (cW (xy C) S' ++ [oE (xy C) ob (vp_updL o 0 x)])) gL_law_X6_end rfl rfl rfl (by decide +kernel) ⟨Nat.le_of_ble_eq_true rfl, Nat.le_of_ble_eq_true rfl⟩ _ 7 rfl rfl (app_r (k := 0) rfl) rfl rfl (Nat.le_of_ble_eq_true rfl) dL_law_1154 ⟨Nat.le_trans (show mc + 1 + 0 ≤ mc + 10 from Nat.add_le_add_left (Nat.le_of_ble_eq_true rfl) mc) hmc, Nat.le_trans (show ms + 6 + 0 ≤ ms + 4000 from Nat.add_le_add_left (Nat.le_of_ble_eq_true rfl) ms) hms⟩ (fun X9 w h9 => by obtain ⟨_, _, h9⟩ := h9; exact h9.elim) (fun v w h9 => ?_)
    obtain ⟨w1, rfl, s', rfl, hQ⟩ := h9
    obtain ⟨z, rfl⟩ := sh_end hQ
    obtain ⟨h0, hv, hR⟩ := hn _ _ hQ
    show G C ((cW (xy C) S' ++ [oE (xy C) ob (vp_updL o 0 x)]) ++ mW (xy C) ma s') (mc + 1) (ms + 6) 1157 [(5, .int 0), (4, .int (nI q)), (3, .ref ob), (2, .ref (ma 0)), (1, .ref (ad 5 0)), (0, .ref b)] [.int z]
    refine g_istore (L' := [(6, .int z), (5, .int 0), (4, .int (nI q)), (3, .ref ob), (2, .ref (ma 0)), (1, .ref (ad 5 0)), (0, .ref b)]) E dL_law_1157 (by decide) rfl ?_
    refine g_aload_n E dL_law_1159 rfl 4 rfl ?_
    refine g_invV (rm' := rm_X6_thrown) (mc' := 0) (ms' := 0) (As := []) (rest := []) (n := 0) E (gMet.frameL (m_X6_thrown (xl C) E.tr (xD C) (xy C) e0 (ma := ma) (s := s')) (cW (xy C) S' ++ [oE (xy C) ob (vp_updL o 0 x)])) gL_law_X6_thrown rfl rfl rfl (by decide +kernel) ⟨Nat.le_of_ble_eq_true rfl, Nat.le_of_ble_eq_true rfl⟩ _ 7 rfl rfl (app_r (k := 0) rfl) rfl rfl (Nat.le_of_ble_eq_true rfl) dL_law_1160 ⟨Nat.le_trans (show mc + 1 + 0 ≤ mc + 10 from Nat.add_le_add_left (Nat.le_of_ble_eq_true rfl) mc) hmc, Nat.le_trans (show ms + 6 + 0 ≤ ms + 4000 from Nat.add_le_add_left (Nat.le_of_ble_eq_true rfl) ms) hms⟩ (fun X9 w h9 => by obtain ⟨_, _, h9⟩ := h9; exact h9.elim) (fun v w h9 => ?_)
    obtain ⟨w1, rfl, s9, rfl, rfl, rfl⟩ := h9
    show G C ((cW (xy C) S' ++ [oE (xy C) ob (vp_updL o 0 x)]) ++ mW (xy C) ma s9) (mc + 1) (ms + 6) 1163 [(6, .int z), (5, .int 0), (4, .int (nI q)), (3, .ref ob), (2, .ref (ma 0)), (1, .ref (ad 5 0)), (0, .ref b)] [.int (mi s9 0)]
    refine g_iload E dL_law_1163 1 rfl ?_
    refine g_icmp_eq (tgt := 1170) E dL_law_1165 (by decide) (fun _ => ?_) (fun hz => absurd h0 hz)
    refine g_iload E dL_law_1170 1 rfl ?_
    refine g_if_ne (tgt := 1187) E dL_law_1172 (by decide) (fun hz => absurd rfl hz) (fun _ => ?_)
    refine g_aload_n E dL_law_1175 rfl 3 rfl ?_
    refine g_iconst (v := 0) E dL_law_1176 (by decide) ?_
    refine g_outld E dL_law_1177 ?_
    show G C ((cW (xy C) S' ++ [oE (xy C) ob (vp_updL o 0 x)]) ++ mW (xy C) ma s9) (mc + 1) (ms + 6) 1178 [(6, .int z), (5, .int 0), (4, .int (nI q)), (3, .ref ob), (2, .ref (ma 0)), (1, .ref (ad 5 0)), (0, .ref b)] [.long x]
    refine g_iload E dL_law_1178 0 rfl ?_
    refine g_i2l E dL_law_1180 ?_
    have hxz : x = z.toInt64 := by obtain ⟨z0, h4, h6⟩ := hcv; have h5 := hv.trans h4; injection h5 with h5; injection h5 with h5; rw [h6, h5]
    refine g_lcmp E dL_law_1181 ?_
    refine g_if_eq (tgt := 1187) E dL_law_1182 (by decide) (fun _ => ?_) (fun hz => absurd ((lg_cmp_eq _ _).mpr hxz) hz)
    refine g_goto (tgt := 1647) E dL_law_1187 (by decide) ?_
    refine g_widen (mc' := mc + 10) (ms' := ms + 4000) (Nat.add_le_add_left (Nat.le_of_ble_eq_true rfl) _) (Nat.add_le_add_left (Nat.le_of_ble_eq_true rfl) _) ?_
    refine g_locals [(4, .int (nI q)), (3, .ref ob), (2, .ref (ma 0)), (1, .ref (ad 5 0)), (0, .ref b)] [2, 3, 4, 5, 6] rfl ?_
    exact kk _ ⟨S', _, _, c', ad', i', j', p', r', rfl, hI', hA', hR⟩
  · obtain ⟨hk0, c', ad', i', j', p', r', hI', hA', hn⟩ := xx_end hI h hXP hec
    show G C ((cW (xy C) S' ++ [oE (xy C) ob o]) ++ mW (xy C) ma s) (mc + 1) (ms + 6) 1145 [(4, .int (nI q)), (3, .ref ob), (2, .ref (ma 0)), (1, .ref (ad 5 0)), (0, .ref b)] [.int k]
    refine g_istore (L' := [(5, .int k), (4, .int (nI q)), (3, .ref ob), (2, .ref (ma 0)), (1, .ref (ad 5 0)), (0, .ref b)]) E dL_law_1145 (by decide) rfl ?_
    refine g_aload_n E dL_law_1147 rfl 3 rfl ?_
    refine g_aload_n E dL_law_1148 rfl 5 rfl ?_
    refine g_iload E dL_law_1149 1 rfl ?_
    refine g_iconst (v := nI 1) E dL_law_1151 (by decide) ?_
    refine g_iadd E dL_law_1152 ?_
    refine g_sld E hX hbl hbA hL (q + 1) (nI_add q 1) (by omega) dL_law_1153 ?_
    refine g_invV (rm' := rm_X6_end) (mc' := 0) (ms' := 0) (As := [.int (xv (q + 1))]) (rest := []) (n := 1) E (gMet.frameL (m_X6_end (xl C) E.tr (xD C) (xy C) e0 h.1.2.2.2.2.2.1 h.b.2.1 (h.pm.hop h.b.2.2.1 h.b.2.1)) (cW (xy C) S' ++ [oE (xy C) ob o])) gL_law_X6_end rfl rfl rfl (by decide +kernel) ⟨Nat.le_of_ble_eq_true rfl, Nat.le_of_ble_eq_true rfl⟩ _ 7 rfl rfl (app_r (k := 0) rfl) rfl rfl (Nat.le_of_ble_eq_true rfl) dL_law_1154 ⟨Nat.le_trans (show mc + 1 + 0 ≤ mc + 10 from Nat.add_le_add_left (Nat.le_of_ble_eq_true rfl) mc) hmc, Nat.le_trans (show ms + 6 + 0 ≤ ms + 4000 from Nat.add_le_add_left (Nat.le_of_ble_eq_true rfl) ms) hms⟩ (fun X9 w h9 => by obtain ⟨_, _, h9⟩ := h9; exact h9.elim) (fun v w h9 => ?_)
    obtain ⟨w1, rfl, s', rfl, hQ⟩ := h9
    obtain ⟨z, rfl⟩ := sh_end hQ
    obtain ⟨h0, hR⟩ := hn _ _ hQ
    show G C ((cW (xy C) S' ++ [oE (xy C) ob o]) ++ mW (xy C) ma s') (mc + 1) (ms + 6) 1157 [(5, .int k), (4, .int (nI q)), (3, .ref ob), (2, .ref (ma 0)), (1, .ref (ad 5 0)), (0, .ref b)] [.int z]
    refine g_istore (L' := [(6, .int z), (5, .int k), (4, .int (nI q)), (3, .ref ob), (2, .ref (ma 0)), (1, .ref (ad 5 0)), (0, .ref b)]) E dL_law_1157 (by decide) rfl ?_
    refine g_aload_n E dL_law_1159 rfl 4 rfl ?_
    refine g_invV (rm' := rm_X6_thrown) (mc' := 0) (ms' := 0) (As := []) (rest := []) (n := 0) E (gMet.frameL (m_X6_thrown (xl C) E.tr (xD C) (xy C) e0 (ma := ma) (s := s')) (cW (xy C) S' ++ [oE (xy C) ob o])) gL_law_X6_thrown rfl rfl rfl (by decide +kernel) ⟨Nat.le_of_ble_eq_true rfl, Nat.le_of_ble_eq_true rfl⟩ _ 7 rfl rfl (app_r (k := 0) rfl) rfl rfl (Nat.le_of_ble_eq_true rfl) dL_law_1160 ⟨Nat.le_trans (show mc + 1 + 0 ≤ mc + 10 from Nat.add_le_add_left (Nat.le_of_ble_eq_true rfl) mc) hmc, Nat.le_trans (show ms + 6 + 0 ≤ ms + 4000 from Nat.add_le_add_left (Nat.le_of_ble_eq_true rfl) ms) hms⟩ (fun X9 w h9 => by obtain ⟨_, _, h9⟩ := h9; exact h9.elim) (fun v w h9 => ?_)
    obtain ⟨w1, rfl, s9, rfl, rfl, rfl⟩ := h9
    show G C ((cW (xy C) S' ++ [oE (xy C) ob o]) ++ mW (xy C) ma s9) (mc + 1) (ms + 6) 1163 [(6, .int z), (5, .int k), (4, .int (nI q)), (3, .ref ob), (2, .ref (ma 0)), (1, .ref (ad 5 0)), (0, .ref b)] [.int (mi s9 0)]
    refine g_iload E dL_law_1163 1 rfl ?_
    refine g_icmp_eq (tgt := 1170) E dL_law_1165 (by decide) (fun _ => ?_) (fun hz => absurd h0 hz)
    refine g_iload E dL_law_1170 1 rfl ?_
    refine g_if_ne (tgt := 1187) E dL_law_1172 (by decide) (fun _ => ?_) (fun hz => absurd hz hk0)
    refine g_goto (tgt := 1647) E dL_law_1187 (by decide) ?_
    refine g_widen (mc' := mc + 10) (ms' := ms + 4000) (Nat.add_le_add_left (Nat.le_of_ble_eq_true rfl) _) (Nat.add_le_add_left (Nat.le_of_ble_eq_true rfl) _) ?_
    refine g_locals [(4, .int (nI q)), (3, .ref ob), (2, .ref (ma 0)), (1, .ref (ad 5 0)), (0, .ref b)] [2, 3, 4, 5, 6] rfl ?_
    exact kk _ ⟨S', _, _, c', ad', i', j', p', r', rfl, hI', hA', hR⟩
set_option maxHeartbeats 4000000 in
set_option maxRecDepth 100000 in
theorem cs_together (E : gOk C cL_law 8 wsL_law RL e0 room_1) (hX : va_X b Ln xv (xs C) (xs C).heap) (hbl : b < (xs C).heap.size) (hbA : ¬ xA C b) (hL : Ln ≤ 3584) (hq : q + 7 ≤ Ln) (hW : LV C e0 a ob ma W) (hmc : mc + 10 ≤ 601024) (hms : ms + 4000 ≤ 7293034) (kk : ∀ W', LV C e0 a ob ma W' → G C W' (mc + 10) (ms + 4000) 1647 [(4, .int (nI q)), (3, .ref ob), (2, .ref (ma 0)), (1, .ref a), (0, .ref b)] []) : G C W mc ms 1190 [(4, .int (nI q)), (3, .ref ob), (2, .ref (ma 0)), (1, .ref a), (0, .ref b)] [] := by
  obtain ⟨S, o, s, c, ad, i, j, p, r, rfl, hI, hA, M, N, h⟩ := hW
  subst hA
  refine g_aload_n E dL_law_1190 rfl 3 rfl ?_
  refine g_aload_n E dL_law_1191 rfl 4 rfl ?_
  refine g_iload E dL_law_1192 0 rfl ?_
  refine g_iconst (v := nI 1) E dL_law_1194 (by decide) ?_
  refine g_iadd E dL_law_1195 ?_
  refine g_sld E hX hbl hbA hL (q + 1) (nI_add q 1) (by omega) dL_law_1196 ?_
  refine g_aload_n E dL_law_1197 rfl 1 rfl ?_
  refine g_invSW (rm' := rm_L_together) (mc' := 1) (ms' := 6) (As := [.ref (ad 5 0), .int (xv (q + 1)), .ref ob]) (rest := []) (n := 3) E ((w_together (xl C) E.tr (xD C) (xy C) e0 (hI.obj (kd := 5) (by decide) hI.c5).1 (hI.obj (kd := 5) (by decide) hI.c5).2 (m_X5_together (xl C) E.tr (xD C) (xy C) e0 hI) (fun v S' hP => by rcases hP with ⟨_, ⟨_, _, _, hv⟩⟩ <;> exact ⟨_, hv⟩) (fun _ _ h => h.1)).frameRN (mW (xy C) ma s)) gL_law_L_together rfl rfl rfl (by decide +kernel) ⟨Nat.le_of_ble_eq_true rfl, Nat.le_of_ble_eq_true rfl⟩ rfl rfl (Nat.le_of_ble_eq_true rfl) dL_law_1198 ⟨by exact Nat.le_trans (Nat.add_le_add_left (Nat.le_of_ble_eq_true rfl) _) hmc, by exact Nat.le_trans (Nat.add_le_add_left (Nat.le_of_ble_eq_true rfl) _) hms⟩ (fun v w h9 => ?_)
  obtain ⟨w1, rfl, h9⟩ := h9
  rcases h9 with ⟨S', vv, x, rfl, rfl, hP, hcv⟩ | ⟨S', X, k, rfl, rfl, hXP, hec⟩
  · obtain ⟨c', ad', i', j', p', r', hI', hA', hn⟩ := nx_together hI h hP
    show G C ((cW (xy C) S' ++ [oE (xy C) ob (vp_updL o 0 x)]) ++ mW (xy C) ma s) (mc + 1) (ms + 6) 1201 [(4, .int (nI q)), (3, .ref ob), (2, .ref (ma 0)), (1, .ref (ad 5 0)), (0, .ref b)] [.int 0]
    refine g_istore (L' := [(5, .int 0), (4, .int (nI q)), (3, .ref ob), (2, .ref (ma 0)), (1, .ref (ad 5 0)), (0, .ref b)]) E dL_law_1201 (by decide) rfl ?_
    refine g_aload_n E dL_law_1203 rfl 3 rfl ?_
    refine g_aload_n E dL_law_1204 rfl 5 rfl ?_
    refine g_iload E dL_law_1205 1 rfl ?_
    refine g_iconst (v := nI 1) E dL_law_1207 (by decide) ?_
    refine g_iadd E dL_law_1208 ?_
    refine g_sld E hX hbl hbA hL (q + 1) (nI_add q 1) (by omega) dL_law_1209 ?_
    refine g_invV (rm' := rm_X6_together) (mc' := 0) (ms' := 0) (As := [.int (xv (q + 1))]) (rest := []) (n := 1) E (gMet.frameL (m_X6_together (xl C) E.tr (xD C) (xy C) e0 h.1.2.2.2.2.2.1 h.b.2.1) (cW (xy C) S' ++ [oE (xy C) ob (vp_updL o 0 x)])) gL_law_X6_together rfl rfl rfl (by decide +kernel) ⟨Nat.le_of_ble_eq_true rfl, Nat.le_of_ble_eq_true rfl⟩ _ 7 rfl rfl (app_r (k := 0) rfl) rfl rfl (Nat.le_of_ble_eq_true rfl) dL_law_1210 ⟨Nat.le_trans (show mc + 1 + 0 ≤ mc + 10 from Nat.add_le_add_left (Nat.le_of_ble_eq_true rfl) mc) hmc, Nat.le_trans (show ms + 6 + 0 ≤ ms + 4000 from Nat.add_le_add_left (Nat.le_of_ble_eq_true rfl) ms) hms⟩ (fun X9 w h9 => by obtain ⟨_, _, h9⟩ := h9; exact h9.elim) (fun v w h9 => ?_)
    obtain ⟨w1, rfl, s', rfl, hQ⟩ := h9
    obtain ⟨z, rfl⟩ := sh_together hQ
    obtain ⟨h0, hv, hR⟩ := hn _ _ hQ
    show G C ((cW (xy C) S' ++ [oE (xy C) ob (vp_updL o 0 x)]) ++ mW (xy C) ma s') (mc + 1) (ms + 6) 1213 [(5, .int 0), (4, .int (nI q)), (3, .ref ob), (2, .ref (ma 0)), (1, .ref (ad 5 0)), (0, .ref b)] [.long z]
    refine g_lstore (L' := [(6, .long z), (5, .int 0), (4, .int (nI q)), (3, .ref ob), (2, .ref (ma 0)), (1, .ref (ad 5 0)), (0, .ref b)]) E dL_law_1213 (by decide) rfl ?_
    refine g_aload_n E dL_law_1215 rfl 4 rfl ?_
    refine g_invV (rm' := rm_X6_thrown) (mc' := 0) (ms' := 0) (As := []) (rest := []) (n := 0) E (gMet.frameL (m_X6_thrown (xl C) E.tr (xD C) (xy C) e0 (ma := ma) (s := s')) (cW (xy C) S' ++ [oE (xy C) ob (vp_updL o 0 x)])) gL_law_X6_thrown rfl rfl rfl (by decide +kernel) ⟨Nat.le_of_ble_eq_true rfl, Nat.le_of_ble_eq_true rfl⟩ _ 7 rfl rfl (app_r (k := 0) rfl) rfl rfl (Nat.le_of_ble_eq_true rfl) dL_law_1216 ⟨Nat.le_trans (show mc + 1 + 0 ≤ mc + 10 from Nat.add_le_add_left (Nat.le_of_ble_eq_true rfl) mc) hmc, Nat.le_trans (show ms + 6 + 0 ≤ ms + 4000 from Nat.add_le_add_left (Nat.le_of_ble_eq_true rfl) ms) hms⟩ (fun X9 w h9 => by obtain ⟨_, _, h9⟩ := h9; exact h9.elim) (fun v w h9 => ?_)
    obtain ⟨w1, rfl, s9, rfl, rfl, rfl⟩ := h9
    show G C ((cW (xy C) S' ++ [oE (xy C) ob (vp_updL o 0 x)]) ++ mW (xy C) ma s9) (mc + 1) (ms + 6) 1219 [(6, .long z), (5, .int 0), (4, .int (nI q)), (3, .ref ob), (2, .ref (ma 0)), (1, .ref (ad 5 0)), (0, .ref b)] [.int (mi s9 0)]
    refine g_iload E dL_law_1219 1 rfl ?_
    refine g_icmp_eq (tgt := 1226) E dL_law_1221 (by decide) (fun _ => ?_) (fun hz => absurd h0 hz)
    refine g_iload E dL_law_1226 1 rfl ?_
    refine g_if_ne (tgt := 1242) E dL_law_1228 (by decide) (fun hz => absurd rfl hz) (fun _ => ?_)
    refine g_aload_n E dL_law_1231 rfl 3 rfl ?_
    refine g_iconst (v := 0) E dL_law_1232 (by decide) ?_
    refine g_outld E dL_law_1233 ?_
    show G C ((cW (xy C) S' ++ [oE (xy C) ob (vp_updL o 0 x)]) ++ mW (xy C) ma s9) (mc + 1) (ms + 6) 1234 [(6, .long z), (5, .int 0), (4, .int (nI q)), (3, .ref ob), (2, .ref (ma 0)), (1, .ref (ad 5 0)), (0, .ref b)] [.long x]
    refine g_lload E dL_law_1234 0 rfl ?_
    have hxz : x = z := by have h5 := hv.trans hcv; injection h5 with h5; injection h5 with h5; exact h5.symm
    subst hxz
    refine g_lcmp E dL_law_1236 ?_
    refine g_if_eq (tgt := 1242) E dL_law_1237 (by decide) (fun _ => ?_) (fun hz => absurd ((lg_cmp_eq _ _).mpr rfl) hz)
    refine g_goto (tgt := 1647) E dL_law_1242 (by decide) ?_
    refine g_widen (mc' := mc + 10) (ms' := ms + 4000) (Nat.add_le_add_left (Nat.le_of_ble_eq_true rfl) _) (Nat.add_le_add_left (Nat.le_of_ble_eq_true rfl) _) ?_
    refine g_locals [(4, .int (nI q)), (3, .ref ob), (2, .ref (ma 0)), (1, .ref (ad 5 0)), (0, .ref b)] [2, 3, 4, 5, 6] rfl ?_
    exact kk _ ⟨S', _, _, c', ad', i', j', p', r', rfl, hI', hA', hR⟩
  · obtain ⟨hk0, c', ad', i', j', p', r', hI', hA', hn⟩ := xx_together hI h hXP hec
    show G C ((cW (xy C) S' ++ [oE (xy C) ob o]) ++ mW (xy C) ma s) (mc + 1) (ms + 6) 1201 [(4, .int (nI q)), (3, .ref ob), (2, .ref (ma 0)), (1, .ref (ad 5 0)), (0, .ref b)] [.int k]
    refine g_istore (L' := [(5, .int k), (4, .int (nI q)), (3, .ref ob), (2, .ref (ma 0)), (1, .ref (ad 5 0)), (0, .ref b)]) E dL_law_1201 (by decide) rfl ?_
    refine g_aload_n E dL_law_1203 rfl 3 rfl ?_
    refine g_aload_n E dL_law_1204 rfl 5 rfl ?_
    refine g_iload E dL_law_1205 1 rfl ?_
    refine g_iconst (v := nI 1) E dL_law_1207 (by decide) ?_
    refine g_iadd E dL_law_1208 ?_
    refine g_sld E hX hbl hbA hL (q + 1) (nI_add q 1) (by omega) dL_law_1209 ?_
    refine g_invV (rm' := rm_X6_together) (mc' := 0) (ms' := 0) (As := [.int (xv (q + 1))]) (rest := []) (n := 1) E (gMet.frameL (m_X6_together (xl C) E.tr (xD C) (xy C) e0 h.1.2.2.2.2.2.1 h.b.2.1) (cW (xy C) S' ++ [oE (xy C) ob o])) gL_law_X6_together rfl rfl rfl (by decide +kernel) ⟨Nat.le_of_ble_eq_true rfl, Nat.le_of_ble_eq_true rfl⟩ _ 7 rfl rfl (app_r (k := 0) rfl) rfl rfl (Nat.le_of_ble_eq_true rfl) dL_law_1210 ⟨Nat.le_trans (show mc + 1 + 0 ≤ mc + 10 from Nat.add_le_add_left (Nat.le_of_ble_eq_true rfl) mc) hmc, Nat.le_trans (show ms + 6 + 0 ≤ ms + 4000 from Nat.add_le_add_left (Nat.le_of_ble_eq_true rfl) ms) hms⟩ (fun X9 w h9 => by obtain ⟨_, _, h9⟩ := h9; exact h9.elim) (fun v w h9 => ?_)
    obtain ⟨w1, rfl, s', rfl, hQ⟩ := h9
    obtain ⟨z, rfl⟩ := sh_together hQ
    obtain ⟨h0, hR⟩ := hn _ _ hQ
    show G C ((cW (xy C) S' ++ [oE (xy C) ob o]) ++ mW (xy C) ma s') (mc + 1) (ms + 6) 1213 [(5, .int k), (4, .int (nI q)), (3, .ref ob), (2, .ref (ma 0)), (1, .ref (ad 5 0)), (0, .ref b)] [.long z]
    refine g_lstore (L' := [(6, .long z), (5, .int k), (4, .int (nI q)), (3, .ref ob), (2, .ref (ma 0)), (1, .ref (ad 5 0)), (0, .ref b)]) E dL_law_1213 (by decide) rfl ?_
    refine g_aload_n E dL_law_1215 rfl 4 rfl ?_
    refine g_invV (rm' := rm_X6_thrown) (mc' := 0) (ms' := 0) (As := []) (rest := []) (n := 0) E (gMet.frameL (m_X6_thrown (xl C) E.tr (xD C) (xy C) e0 (ma := ma) (s := s')) (cW (xy C) S' ++ [oE (xy C) ob o])) gL_law_X6_thrown rfl rfl rfl (by decide +kernel) ⟨Nat.le_of_ble_eq_true rfl, Nat.le_of_ble_eq_true rfl⟩ _ 7 rfl rfl (app_r (k := 0) rfl) rfl rfl (Nat.le_of_ble_eq_true rfl) dL_law_1216 ⟨Nat.le_trans (show mc + 1 + 0 ≤ mc + 10 from Nat.add_le_add_left (Nat.le_of_ble_eq_true rfl) mc) hmc, Nat.le_trans (show ms + 6 + 0 ≤ ms + 4000 from Nat.add_le_add_left (Nat.le_of_ble_eq_true rfl) ms) hms⟩ (fun X9 w h9 => by obtain ⟨_, _, h9⟩ := h9; exact h9.elim) (fun v w h9 => ?_)
    obtain ⟨w1, rfl, s9, rfl, rfl, rfl⟩ := h9
    show G C ((cW (xy C) S' ++ [oE (xy C) ob o]) ++ mW (xy C) ma s9) (mc + 1) (ms + 6) 1219 [(6, .long z), (5, .int k), (4, .int (nI q)), (3, .ref ob), (2, .ref (ma 0)), (1, .ref (ad 5 0)), (0, .ref b)] [.int (mi s9 0)]
    refine g_iload E dL_law_1219 1 rfl ?_
    refine g_icmp_eq (tgt := 1226) E dL_law_1221 (by decide) (fun _ => ?_) (fun hz => absurd h0 hz)
    refine g_iload E dL_law_1226 1 rfl ?_
    refine g_if_ne (tgt := 1242) E dL_law_1228 (by decide) (fun _ => ?_) (fun hz => absurd hz hk0)
    refine g_goto (tgt := 1647) E dL_law_1242 (by decide) ?_
    refine g_widen (mc' := mc + 10) (ms' := ms + 4000) (Nat.add_le_add_left (Nat.le_of_ble_eq_true rfl) _) (Nat.add_le_add_left (Nat.le_of_ble_eq_true rfl) _) ?_
    refine g_locals [(4, .int (nI q)), (3, .ref ob), (2, .ref (ma 0)), (1, .ref (ad 5 0)), (0, .ref b)] [2, 3, 4, 5, 6] rfl ?_
    exact kk _ ⟨S', _, _, c', ad', i', j', p', r', rfl, hI', hA', hR⟩
set_option maxHeartbeats 4000000 in
set_option maxRecDepth 100000 in
theorem cs_openings (E : gOk C cL_law 8 wsL_law RL e0 room_1) (hX : va_X b Ln xv (xs C) (xs C).heap) (hbl : b < (xs C).heap.size) (hbA : ¬ xA C b) (hL : Ln ≤ 3584) (hq : q + 7 ≤ Ln) (hW : LV C e0 a ob ma W) (hmc : mc + 10 ≤ 601024) (hms : ms + 4000 ≤ 7293034) (kk : ∀ W', LV C e0 a ob ma W' → G C W' (mc + 10) (ms + 4000) 1647 [(4, .int (nI q)), (3, .ref ob), (2, .ref (ma 0)), (1, .ref a), (0, .ref b)] []) : G C W mc ms 1245 [(4, .int (nI q)), (3, .ref ob), (2, .ref (ma 0)), (1, .ref a), (0, .ref b)] [] := by
  obtain ⟨S, o, s, c, ad, i, j, p, r, rfl, hI, hA, M, N, h⟩ := hW
  subst hA
  refine g_aload_n E dL_law_1245 rfl 3 rfl ?_
  refine g_aload_n E dL_law_1246 rfl 4 rfl ?_
  refine g_iload E dL_law_1247 0 rfl ?_
  refine g_iconst (v := nI 1) E dL_law_1249 (by decide) ?_
  refine g_iadd E dL_law_1250 ?_
  refine g_sld E hX hbl hbA hL (q + 1) (nI_add q 1) (by omega) dL_law_1251 ?_
  refine g_aload_n E dL_law_1252 rfl 4 rfl ?_
  refine g_iload E dL_law_1253 0 rfl ?_
  refine g_iconst (v := nI 2) E dL_law_1255 (by decide) ?_
  refine g_iadd E dL_law_1256 ?_
  refine g_sld E hX hbl hbA hL (q + 2) (nI_add q 2) (by omega) dL_law_1257 ?_
  refine g_aload_n E dL_law_1258 rfl 1 rfl ?_
  refine g_invSW (rm' := rm_L_openings) (mc' := 2) (ms' := 12) (As := [.ref (ad 5 0), .int (xv (q + 1)), .int (xv (q + 2)), .ref ob]) (rest := []) (n := 4) E ((w_openings (xl C) E.tr (xD C) (xy C) e0 (hI.obj (kd := 5) (by decide) hI.c5).1 (hI.obj (kd := 5) (by decide) hI.c5).2 (m_X5_openings (xl C) E.tr (xD C) (xy C) e0 hI h.1.1 h.b.2.2.2.1) (fun v S' hP => by rcases hP with ⟨_, ⟨_, _, _, _, _, hv⟩⟩ <;> exact ⟨_, hv⟩) (fun _ _ h => h.elim (fun h => Or.inl h.1) (fun h => Or.inr h.1))).frameRN (mW (xy C) ma s)) gL_law_L_openings rfl rfl rfl (by decide +kernel) ⟨Nat.le_of_ble_eq_true rfl, Nat.le_of_ble_eq_true rfl⟩ rfl rfl (Nat.le_of_ble_eq_true rfl) dL_law_1259 ⟨by exact Nat.le_trans (Nat.add_le_add_left (Nat.le_of_ble_eq_true rfl) _) hmc, by exact Nat.le_trans (Nat.add_le_add_left (Nat.le_of_ble_eq_true rfl) _) hms⟩ (fun v w h9 => ?_)
  obtain ⟨w1, rfl, h9⟩ := h9
  rcases h9 with ⟨S', vv, x, rfl, rfl, hP, hcv⟩ | ⟨S', X, k, rfl, rfl, hXP, hec⟩
  · obtain ⟨c', ad', i', j', p', r', hI', hA', hn⟩ := nx_openings hI h hP
    show G C ((cW (xy C) S' ++ [oE (xy C) ob (vp_updL o 0 x)]) ++ mW (xy C) ma s) (mc + 2) (ms + 12) 1262 [(4, .int (nI q)), (3, .ref ob), (2, .ref (ma 0)), (1, .ref (ad 5 0)), (0, .ref b)] [.int 0]
    refine g_istore (L' := [(5, .int 0), (4, .int (nI q)), (3, .ref ob), (2, .ref (ma 0)), (1, .ref (ad 5 0)), (0, .ref b)]) E dL_law_1262 (by decide) rfl ?_
    refine g_aload_n E dL_law_1264 rfl 3 rfl ?_
    refine g_aload_n E dL_law_1265 rfl 5 rfl ?_
    refine g_iload E dL_law_1266 1 rfl ?_
    refine g_iconst (v := nI 1) E dL_law_1268 (by decide) ?_
    refine g_iadd E dL_law_1269 ?_
    refine g_sld E hX hbl hbA hL (q + 1) (nI_add q 1) (by omega) dL_law_1270 ?_
    refine g_aload_n E dL_law_1271 rfl 5 rfl ?_
    refine g_iload E dL_law_1272 1 rfl ?_
    refine g_iconst (v := nI 2) E dL_law_1274 (by decide) ?_
    refine g_iadd E dL_law_1275 ?_
    refine g_sld E hX hbl hbA hL (q + 2) (nI_add q 2) (by omega) dL_law_1276 ?_
    refine g_invV (rm' := rm_X6_openings) (mc' := 0) (ms' := 0) (As := [.int (xv (q + 1)), .int (xv (q + 2))]) (rest := []) (n := 2) E (gMet.frameL (m_X6_openings (xl C) E.tr (xD C) (xy C) e0 h.1.2.2.2.2.2.1 h.b.2.1 h.1.2.1 h.b.2.2.2.1 h.1.2.2.2.2.2.2.2.1 (by have := h.b.2.1; have := h.b.2.2.1; omega)) (cW (xy C) S' ++ [oE (xy C) ob (vp_updL o 0 x)])) gL_law_X6_openings rfl rfl rfl (by decide +kernel) ⟨Nat.le_of_ble_eq_true rfl, Nat.le_of_ble_eq_true rfl⟩ _ 7 rfl rfl (app_r (k := 0) rfl) rfl rfl (Nat.le_of_ble_eq_true rfl) dL_law_1277 ⟨Nat.le_trans (show mc + 2 + 0 ≤ mc + 10 from Nat.add_le_add_left (Nat.le_of_ble_eq_true rfl) mc) hmc, Nat.le_trans (show ms + 12 + 0 ≤ ms + 4000 from Nat.add_le_add_left (Nat.le_of_ble_eq_true rfl) ms) hms⟩ (fun X9 w h9 => by obtain ⟨_, _, h9⟩ := h9; exact h9.elim) (fun v w h9 => ?_)
    obtain ⟨w1, rfl, s', rfl, hQ⟩ := h9
    obtain ⟨z, rfl⟩ := sh_openings hQ
    obtain ⟨h0, hv, hR⟩ := hn _ _ hQ
    show G C ((cW (xy C) S' ++ [oE (xy C) ob (vp_updL o 0 x)]) ++ mW (xy C) ma s') (mc + 2) (ms + 12) 1280 [(5, .int 0), (4, .int (nI q)), (3, .ref ob), (2, .ref (ma 0)), (1, .ref (ad 5 0)), (0, .ref b)] [.int z]
    refine g_istore (L' := [(6, .int z), (5, .int 0), (4, .int (nI q)), (3, .ref ob), (2, .ref (ma 0)), (1, .ref (ad 5 0)), (0, .ref b)]) E dL_law_1280 (by decide) rfl ?_
    refine g_aload_n E dL_law_1282 rfl 4 rfl ?_
    refine g_invV (rm' := rm_X6_thrown) (mc' := 0) (ms' := 0) (As := []) (rest := []) (n := 0) E (gMet.frameL (m_X6_thrown (xl C) E.tr (xD C) (xy C) e0 (ma := ma) (s := s')) (cW (xy C) S' ++ [oE (xy C) ob (vp_updL o 0 x)])) gL_law_X6_thrown rfl rfl rfl (by decide +kernel) ⟨Nat.le_of_ble_eq_true rfl, Nat.le_of_ble_eq_true rfl⟩ _ 7 rfl rfl (app_r (k := 0) rfl) rfl rfl (Nat.le_of_ble_eq_true rfl) dL_law_1283 ⟨Nat.le_trans (show mc + 2 + 0 ≤ mc + 10 from Nat.add_le_add_left (Nat.le_of_ble_eq_true rfl) mc) hmc, Nat.le_trans (show ms + 12 + 0 ≤ ms + 4000 from Nat.add_le_add_left (Nat.le_of_ble_eq_true rfl) ms) hms⟩ (fun X9 w h9 => by obtain ⟨_, _, h9⟩ := h9; exact h9.elim) (fun v w h9 => ?_)
    obtain ⟨w1, rfl, s9, rfl, rfl, rfl⟩ := h9
    show G C ((cW (xy C) S' ++ [oE (xy C) ob (vp_updL o 0 x)]) ++ mW (xy C) ma s9) (mc + 2) (ms + 12) 1286 [(6, .int z), (5, .int 0), (4, .int (nI q)), (3, .ref ob), (2, .ref (ma 0)), (1, .ref (ad 5 0)), (0, .ref b)] [.int (mi s9 0)]
    refine g_iload E dL_law_1286 1 rfl ?_
    refine g_icmp_eq (tgt := 1293) E dL_law_1288 (by decide) (fun _ => ?_) (fun hz => absurd h0 hz)
    refine g_iload E dL_law_1293 1 rfl ?_
    refine g_if_ne (tgt := 1310) E dL_law_1295 (by decide) (fun hz => absurd rfl hz) (fun _ => ?_)
    refine g_aload_n E dL_law_1298 rfl 3 rfl ?_
    refine g_iconst (v := 0) E dL_law_1299 (by decide) ?_
    refine g_outld E dL_law_1300 ?_
    show G C ((cW (xy C) S' ++ [oE (xy C) ob (vp_updL o 0 x)]) ++ mW (xy C) ma s9) (mc + 2) (ms + 12) 1301 [(6, .int z), (5, .int 0), (4, .int (nI q)), (3, .ref ob), (2, .ref (ma 0)), (1, .ref (ad 5 0)), (0, .ref b)] [.long x]
    refine g_iload E dL_law_1301 0 rfl ?_
    refine g_i2l E dL_law_1303 ?_
    have hxz : x = z.toInt64 := by obtain ⟨z0, h4, h6⟩ := hcv; have h5 := hv.trans h4; injection h5 with h5; injection h5 with h5; rw [h6, h5]
    refine g_lcmp E dL_law_1304 ?_
    refine g_if_eq (tgt := 1310) E dL_law_1305 (by decide) (fun _ => ?_) (fun hz => absurd ((lg_cmp_eq _ _).mpr hxz) hz)
    refine g_goto (tgt := 1647) E dL_law_1310 (by decide) ?_
    refine g_widen (mc' := mc + 10) (ms' := ms + 4000) (Nat.add_le_add_left (Nat.le_of_ble_eq_true rfl) _) (Nat.add_le_add_left (Nat.le_of_ble_eq_true rfl) _) ?_
    refine g_locals [(4, .int (nI q)), (3, .ref ob), (2, .ref (ma 0)), (1, .ref (ad 5 0)), (0, .ref b)] [2, 3, 4, 5, 6] rfl ?_
    exact kk _ ⟨S', _, _, c', ad', i', j', p', r', rfl, hI', hA', hR⟩
  · obtain ⟨hk0, c', ad', i', j', p', r', hI', hA', hn⟩ := xx_openings hI h hXP hec
    show G C ((cW (xy C) S' ++ [oE (xy C) ob o]) ++ mW (xy C) ma s) (mc + 2) (ms + 12) 1262 [(4, .int (nI q)), (3, .ref ob), (2, .ref (ma 0)), (1, .ref (ad 5 0)), (0, .ref b)] [.int k]
    refine g_istore (L' := [(5, .int k), (4, .int (nI q)), (3, .ref ob), (2, .ref (ma 0)), (1, .ref (ad 5 0)), (0, .ref b)]) E dL_law_1262 (by decide) rfl ?_
    refine g_aload_n E dL_law_1264 rfl 3 rfl ?_
    refine g_aload_n E dL_law_1265 rfl 5 rfl ?_
    refine g_iload E dL_law_1266 1 rfl ?_
    refine g_iconst (v := nI 1) E dL_law_1268 (by decide) ?_
    refine g_iadd E dL_law_1269 ?_
    refine g_sld E hX hbl hbA hL (q + 1) (nI_add q 1) (by omega) dL_law_1270 ?_
    refine g_aload_n E dL_law_1271 rfl 5 rfl ?_
    refine g_iload E dL_law_1272 1 rfl ?_
    refine g_iconst (v := nI 2) E dL_law_1274 (by decide) ?_
    refine g_iadd E dL_law_1275 ?_
    refine g_sld E hX hbl hbA hL (q + 2) (nI_add q 2) (by omega) dL_law_1276 ?_
    refine g_invV (rm' := rm_X6_openings) (mc' := 0) (ms' := 0) (As := [.int (xv (q + 1)), .int (xv (q + 2))]) (rest := []) (n := 2) E (gMet.frameL (m_X6_openings (xl C) E.tr (xD C) (xy C) e0 h.1.2.2.2.2.2.1 h.b.2.1 h.1.2.1 h.b.2.2.2.1 h.1.2.2.2.2.2.2.2.1 (by have := h.b.2.1; have := h.b.2.2.1; omega)) (cW (xy C) S' ++ [oE (xy C) ob o])) gL_law_X6_openings rfl rfl rfl (by decide +kernel) ⟨Nat.le_of_ble_eq_true rfl, Nat.le_of_ble_eq_true rfl⟩ _ 7 rfl rfl (app_r (k := 0) rfl) rfl rfl (Nat.le_of_ble_eq_true rfl) dL_law_1277 ⟨Nat.le_trans (show mc + 2 + 0 ≤ mc + 10 from Nat.add_le_add_left (Nat.le_of_ble_eq_true rfl) mc) hmc, Nat.le_trans (show ms + 12 + 0 ≤ ms + 4000 from Nat.add_le_add_left (Nat.le_of_ble_eq_true rfl) ms) hms⟩ (fun X9 w h9 => by obtain ⟨_, _, h9⟩ := h9; exact h9.elim) (fun v w h9 => ?_)
    obtain ⟨w1, rfl, s', rfl, hQ⟩ := h9
    obtain ⟨z, rfl⟩ := sh_openings hQ
    obtain ⟨h0, hR⟩ := hn _ _ hQ
    show G C ((cW (xy C) S' ++ [oE (xy C) ob o]) ++ mW (xy C) ma s') (mc + 2) (ms + 12) 1280 [(5, .int k), (4, .int (nI q)), (3, .ref ob), (2, .ref (ma 0)), (1, .ref (ad 5 0)), (0, .ref b)] [.int z]
    refine g_istore (L' := [(6, .int z), (5, .int k), (4, .int (nI q)), (3, .ref ob), (2, .ref (ma 0)), (1, .ref (ad 5 0)), (0, .ref b)]) E dL_law_1280 (by decide) rfl ?_
    refine g_aload_n E dL_law_1282 rfl 4 rfl ?_
    refine g_invV (rm' := rm_X6_thrown) (mc' := 0) (ms' := 0) (As := []) (rest := []) (n := 0) E (gMet.frameL (m_X6_thrown (xl C) E.tr (xD C) (xy C) e0 (ma := ma) (s := s')) (cW (xy C) S' ++ [oE (xy C) ob o])) gL_law_X6_thrown rfl rfl rfl (by decide +kernel) ⟨Nat.le_of_ble_eq_true rfl, Nat.le_of_ble_eq_true rfl⟩ _ 7 rfl rfl (app_r (k := 0) rfl) rfl rfl (Nat.le_of_ble_eq_true rfl) dL_law_1283 ⟨Nat.le_trans (show mc + 2 + 0 ≤ mc + 10 from Nat.add_le_add_left (Nat.le_of_ble_eq_true rfl) mc) hmc, Nat.le_trans (show ms + 12 + 0 ≤ ms + 4000 from Nat.add_le_add_left (Nat.le_of_ble_eq_true rfl) ms) hms⟩ (fun X9 w h9 => by obtain ⟨_, _, h9⟩ := h9; exact h9.elim) (fun v w h9 => ?_)
    obtain ⟨w1, rfl, s9, rfl, rfl, rfl⟩ := h9
    show G C ((cW (xy C) S' ++ [oE (xy C) ob o]) ++ mW (xy C) ma s9) (mc + 2) (ms + 12) 1286 [(6, .int z), (5, .int k), (4, .int (nI q)), (3, .ref ob), (2, .ref (ma 0)), (1, .ref (ad 5 0)), (0, .ref b)] [.int (mi s9 0)]
    refine g_iload E dL_law_1286 1 rfl ?_
    refine g_icmp_eq (tgt := 1293) E dL_law_1288 (by decide) (fun _ => ?_) (fun hz => absurd h0 hz)
    refine g_iload E dL_law_1293 1 rfl ?_
    refine g_if_ne (tgt := 1310) E dL_law_1295 (by decide) (fun _ => ?_) (fun hz => absurd hz hk0)
    refine g_goto (tgt := 1647) E dL_law_1310 (by decide) ?_
    refine g_widen (mc' := mc + 10) (ms' := ms + 4000) (Nat.add_le_add_left (Nat.le_of_ble_eq_true rfl) _) (Nat.add_le_add_left (Nat.le_of_ble_eq_true rfl) _) ?_
    refine g_locals [(4, .int (nI q)), (3, .ref ob), (2, .ref (ma 0)), (1, .ref (ad 5 0)), (0, .ref b)] [2, 3, 4, 5, 6] rfl ?_
    exact kk _ ⟨S', _, _, c', ad', i', j', p', r', rfl, hI', hA', hR⟩
end CS
