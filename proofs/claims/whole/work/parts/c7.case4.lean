section CS
variable {C : gT} {e0 a ob b Ln q mc ms : Nat} {ma : Nat → Nat} {xv : Nat → Int32} {W : va_W}
set_option maxHeartbeats 4000000 in
set_option maxRecDepth 100000 in
theorem cs_fee (E : gOk C cL_law 8 wsL_law RL e0 room_1) (hX : va_X b Ln xv (xs C) (xs C).heap) (hbl : b < (xs C).heap.size) (hbA : ¬ xA C b) (hL : Ln ≤ 3584) (hq : q + 7 ≤ Ln) (hW : LV C e0 a ob ma W) (hmc : mc + 10 ≤ 601024) (hms : ms + 4000 ≤ 7293034) (kk : ∀ W', LV C e0 a ob ma W' → G C W' (mc + 10) (ms + 4000) 1647 [(4, .int (nI q)), (3, .ref ob), (2, .ref (ma 0)), (1, .ref a), (0, .ref b)] []) : G C W mc ms 1313 [(4, .int (nI q)), (3, .ref ob), (2, .ref (ma 0)), (1, .ref a), (0, .ref b)] [] := by
  obtain ⟨S, o, s, c, ad, i, j, p, r, rfl, hI, hA, M, N, h⟩ := hW
  subst hA
  refine g_aload_n E dL_law_1313 rfl 3 rfl ?_
  refine g_aload_n E dL_law_1314 rfl 4 rfl ?_
  refine g_iload E dL_law_1315 0 rfl ?_
  refine g_iconst (v := nI 1) E dL_law_1317 (by decide) ?_
  refine g_iadd E dL_law_1318 ?_
  refine g_sld E hX hbl hbA hL (q + 1) (nI_add q 1) (by omega) dL_law_1319 ?_
  refine g_aload_n E dL_law_1320 rfl 1 rfl ?_
  refine g_invSW (rm' := rm_L_fee) (mc' := 1) (ms' := 6) (As := [.ref (ad 5 0), .int (xv (q + 1)), .ref ob]) (rest := []) (n := 3) E ((w_fee (xl C) E.tr (xD C) (xy C) e0 (hI.obj (kd := 5) (by decide) hI.c5).1 (hI.obj (kd := 5) (by decide) hI.c5).2 (m_X5_fee (xl C) E.tr (xD C) (xy C) e0 hI) (fun v S' hP => by rcases hP with ⟨_, ⟨_, _, _, hv⟩⟩ <;> exact ⟨_, hv⟩) (fun _ _ h => h.1)).frameRN (mW (xy C) ma s)) gL_law_L_fee rfl rfl rfl (by decide +kernel) ⟨Nat.le_of_ble_eq_true rfl, Nat.le_of_ble_eq_true rfl⟩ rfl rfl (Nat.le_of_ble_eq_true rfl) dL_law_1321 ⟨by exact Nat.le_trans (Nat.add_le_add_left (Nat.le_of_ble_eq_true rfl) _) hmc, by exact Nat.le_trans (Nat.add_le_add_left (Nat.le_of_ble_eq_true rfl) _) hms⟩ (fun v w h9 => ?_)
  obtain ⟨w1, rfl, h9⟩ := h9
  rcases h9 with ⟨S', vv, x, rfl, rfl, hP, hcv⟩ | ⟨S', X, k, rfl, rfl, hXP, hec⟩
  · obtain ⟨c', ad', i', j', p', r', hI', hA', hn⟩ := nx_fee hI h hP
    show G C ((cW (xy C) S' ++ [oE (xy C) ob (vp_updL o 0 x)]) ++ mW (xy C) ma s) (mc + 1) (ms + 6) 1324 [(4, .int (nI q)), (3, .ref ob), (2, .ref (ma 0)), (1, .ref (ad 5 0)), (0, .ref b)] [.int 0]
    refine g_istore (L' := [(5, .int 0), (4, .int (nI q)), (3, .ref ob), (2, .ref (ma 0)), (1, .ref (ad 5 0)), (0, .ref b)]) E dL_law_1324 (by decide) rfl ?_
    refine g_aload_n E dL_law_1326 rfl 3 rfl ?_
    refine g_aload_n E dL_law_1327 rfl 5 rfl ?_
    refine g_iload E dL_law_1328 1 rfl ?_
    refine g_iconst (v := nI 1) E dL_law_1330 (by decide) ?_
    refine g_iadd E dL_law_1331 ?_
    refine g_sld E hX hbl hbA hL (q + 1) (nI_add q 1) (by omega) dL_law_1332 ?_
    refine g_invV (rm' := rm_X6_fee) (mc' := 0) (ms' := 0) (As := [.int (xv (q + 1))]) (rest := []) (n := 1) E (gMet.frameL (m_X6_fee (xl C) E.tr (xD C) (xy C) e0 h.1.2.2.2.2.2.1 h.b.2.1 (h.pm.hop h.b.2.2.1 h.b.2.1)) (cW (xy C) S' ++ [oE (xy C) ob (vp_updL o 0 x)])) gL_law_X6_fee rfl rfl rfl (by decide +kernel) ⟨Nat.le_of_ble_eq_true rfl, Nat.le_of_ble_eq_true rfl⟩ _ 7 rfl rfl (app_r (k := 0) rfl) rfl rfl (Nat.le_of_ble_eq_true rfl) dL_law_1333 ⟨Nat.le_trans (show mc + 1 + 0 ≤ mc + 10 from Nat.add_le_add_left (Nat.le_of_ble_eq_true rfl) mc) hmc, Nat.le_trans (show ms + 6 + 0 ≤ ms + 4000 from Nat.add_le_add_left (Nat.le_of_ble_eq_true rfl) ms) hms⟩ (fun X9 w h9 => by obtain ⟨_, _, h9⟩ := h9; exact h9.elim) (fun v w h9 => ?_)
    obtain ⟨w1, rfl, s', rfl, hQ⟩ := h9
    obtain ⟨z, rfl⟩ := sh_fee hQ
    obtain ⟨h0, hv, hR⟩ := hn _ _ hQ
    show G C ((cW (xy C) S' ++ [oE (xy C) ob (vp_updL o 0 x)]) ++ mW (xy C) ma s') (mc + 1) (ms + 6) 1336 [(5, .int 0), (4, .int (nI q)), (3, .ref ob), (2, .ref (ma 0)), (1, .ref (ad 5 0)), (0, .ref b)] [.int z]
    refine g_istore (L' := [(6, .int z), (5, .int 0), (4, .int (nI q)), (3, .ref ob), (2, .ref (ma 0)), (1, .ref (ad 5 0)), (0, .ref b)]) E dL_law_1336 (by decide) rfl ?_
    refine g_aload_n E dL_law_1338 rfl 4 rfl ?_
    refine g_invV (rm' := rm_X6_thrown) (mc' := 0) (ms' := 0) (As := []) (rest := []) (n := 0) E (gMet.frameL (m_X6_thrown (xl C) E.tr (xD C) (xy C) e0 (ma := ma) (s := s')) (cW (xy C) S' ++ [oE (xy C) ob (vp_updL o 0 x)])) gL_law_X6_thrown rfl rfl rfl (by decide +kernel) ⟨Nat.le_of_ble_eq_true rfl, Nat.le_of_ble_eq_true rfl⟩ _ 7 rfl rfl (app_r (k := 0) rfl) rfl rfl (Nat.le_of_ble_eq_true rfl) dL_law_1339 ⟨Nat.le_trans (show mc + 1 + 0 ≤ mc + 10 from Nat.add_le_add_left (Nat.le_of_ble_eq_true rfl) mc) hmc, Nat.le_trans (show ms + 6 + 0 ≤ ms + 4000 from Nat.add_le_add_left (Nat.le_of_ble_eq_true rfl) ms) hms⟩ (fun X9 w h9 => by obtain ⟨_, _, h9⟩ := h9; exact h9.elim) (fun v w h9 => ?_)
    obtain ⟨w1, rfl, s9, rfl, rfl, rfl⟩ := h9
    show G C ((cW (xy C) S' ++ [oE (xy C) ob (vp_updL o 0 x)]) ++ mW (xy C) ma s9) (mc + 1) (ms + 6) 1342 [(6, .int z), (5, .int 0), (4, .int (nI q)), (3, .ref ob), (2, .ref (ma 0)), (1, .ref (ad 5 0)), (0, .ref b)] [.int (mi s9 0)]
    refine g_iload E dL_law_1342 1 rfl ?_
    refine g_icmp_eq (tgt := 1349) E dL_law_1344 (by decide) (fun _ => ?_) (fun hz => absurd h0 hz)
    refine g_iload E dL_law_1349 1 rfl ?_
    refine g_if_ne (tgt := 1366) E dL_law_1351 (by decide) (fun hz => absurd rfl hz) (fun _ => ?_)
    refine g_aload_n E dL_law_1354 rfl 3 rfl ?_
    refine g_iconst (v := 0) E dL_law_1355 (by decide) ?_
    refine g_outld E dL_law_1356 ?_
    show G C ((cW (xy C) S' ++ [oE (xy C) ob (vp_updL o 0 x)]) ++ mW (xy C) ma s9) (mc + 1) (ms + 6) 1357 [(6, .int z), (5, .int 0), (4, .int (nI q)), (3, .ref ob), (2, .ref (ma 0)), (1, .ref (ad 5 0)), (0, .ref b)] [.long x]
    refine g_iload E dL_law_1357 0 rfl ?_
    refine g_i2l E dL_law_1359 ?_
    have hxz : x = z.toInt64 := by obtain ⟨z0, h4, h6⟩ := hcv; have h5 := hv.trans h4; injection h5 with h5; injection h5 with h5; rw [h6, h5]
    refine g_lcmp E dL_law_1360 ?_
    refine g_if_eq (tgt := 1366) E dL_law_1361 (by decide) (fun _ => ?_) (fun hz => absurd ((lg_cmp_eq _ _).mpr hxz) hz)
    refine g_goto (tgt := 1647) E dL_law_1366 (by decide) ?_
    refine g_widen (mc' := mc + 10) (ms' := ms + 4000) (Nat.add_le_add_left (Nat.le_of_ble_eq_true rfl) _) (Nat.add_le_add_left (Nat.le_of_ble_eq_true rfl) _) ?_
    refine g_locals [(4, .int (nI q)), (3, .ref ob), (2, .ref (ma 0)), (1, .ref (ad 5 0)), (0, .ref b)] [2, 3, 4, 5, 6] rfl ?_
    exact kk _ ⟨S', _, _, c', ad', i', j', p', r', rfl, hI', hA', hR⟩
  · obtain ⟨hk0, c', ad', i', j', p', r', hI', hA', hn⟩ := xx_fee hI h hXP hec
    show G C ((cW (xy C) S' ++ [oE (xy C) ob o]) ++ mW (xy C) ma s) (mc + 1) (ms + 6) 1324 [(4, .int (nI q)), (3, .ref ob), (2, .ref (ma 0)), (1, .ref (ad 5 0)), (0, .ref b)] [.int k]
    refine g_istore (L' := [(5, .int k), (4, .int (nI q)), (3, .ref ob), (2, .ref (ma 0)), (1, .ref (ad 5 0)), (0, .ref b)]) E dL_law_1324 (by decide) rfl ?_
    refine g_aload_n E dL_law_1326 rfl 3 rfl ?_
    refine g_aload_n E dL_law_1327 rfl 5 rfl ?_
    refine g_iload E dL_law_1328 1 rfl ?_
    refine g_iconst (v := nI 1) E dL_law_1330 (by decide) ?_
    refine g_iadd E dL_law_1331 ?_
    refine g_sld E hX hbl hbA hL (q + 1) (nI_add q 1) (by omega) dL_law_1332 ?_
    refine g_invV (rm' := rm_X6_fee) (mc' := 0) (ms' := 0) (As := [.int (xv (q + 1))]) (rest := []) (n := 1) E (gMet.frameL (m_X6_fee (xl C) E.tr (xD C) (xy C) e0 h.1.2.2.2.2.2.1 h.b.2.1 (h.pm.hop h.b.2.2.1 h.b.2.1)) (cW (xy C) S' ++ [oE (xy C) ob o])) gL_law_X6_fee rfl rfl rfl (by decide +kernel) ⟨Nat.le_of_ble_eq_true rfl, Nat.le_of_ble_eq_true rfl⟩ _ 7 rfl rfl (app_r (k := 0) rfl) rfl rfl (Nat.le_of_ble_eq_true rfl) dL_law_1333 ⟨Nat.le_trans (show mc + 1 + 0 ≤ mc + 10 from Nat.add_le_add_left (Nat.le_of_ble_eq_true rfl) mc) hmc, Nat.le_trans (show ms + 6 + 0 ≤ ms + 4000 from Nat.add_le_add_left (Nat.le_of_ble_eq_true rfl) ms) hms⟩ (fun X9 w h9 => by obtain ⟨_, _, h9⟩ := h9; exact h9.elim) (fun v w h9 => ?_)
    obtain ⟨w1, rfl, s', rfl, hQ⟩ := h9
    obtain ⟨z, rfl⟩ := sh_fee hQ
    obtain ⟨h0, hR⟩ := hn _ _ hQ
    show G C ((cW (xy C) S' ++ [oE (xy C) ob o]) ++ mW (xy C) ma s') (mc + 1) (ms + 6) 1336 [(5, .int k), (4, .int (nI q)), (3, .ref ob), (2, .ref (ma 0)), (1, .ref (ad 5 0)), (0, .ref b)] [.int z]
    refine g_istore (L' := [(6, .int z), (5, .int k), (4, .int (nI q)), (3, .ref ob), (2, .ref (ma 0)), (1, .ref (ad 5 0)), (0, .ref b)]) E dL_law_1336 (by decide) rfl ?_
    refine g_aload_n E dL_law_1338 rfl 4 rfl ?_
    refine g_invV (rm' := rm_X6_thrown) (mc' := 0) (ms' := 0) (As := []) (rest := []) (n := 0) E (gMet.frameL (m_X6_thrown (xl C) E.tr (xD C) (xy C) e0 (ma := ma) (s := s')) (cW (xy C) S' ++ [oE (xy C) ob o])) gL_law_X6_thrown rfl rfl rfl (by decide +kernel) ⟨Nat.le_of_ble_eq_true rfl, Nat.le_of_ble_eq_true rfl⟩ _ 7 rfl rfl (app_r (k := 0) rfl) rfl rfl (Nat.le_of_ble_eq_true rfl) dL_law_1339 ⟨Nat.le_trans (show mc + 1 + 0 ≤ mc + 10 from Nat.add_le_add_left (Nat.le_of_ble_eq_true rfl) mc) hmc, Nat.le_trans (show ms + 6 + 0 ≤ ms + 4000 from Nat.add_le_add_left (Nat.le_of_ble_eq_true rfl) ms) hms⟩ (fun X9 w h9 => by obtain ⟨_, _, h9⟩ := h9; exact h9.elim) (fun v w h9 => ?_)
    obtain ⟨w1, rfl, s9, rfl, rfl, rfl⟩ := h9
    show G C ((cW (xy C) S' ++ [oE (xy C) ob o]) ++ mW (xy C) ma s9) (mc + 1) (ms + 6) 1342 [(6, .int z), (5, .int k), (4, .int (nI q)), (3, .ref ob), (2, .ref (ma 0)), (1, .ref (ad 5 0)), (0, .ref b)] [.int (mi s9 0)]
    refine g_iload E dL_law_1342 1 rfl ?_
    refine g_icmp_eq (tgt := 1349) E dL_law_1344 (by decide) (fun _ => ?_) (fun hz => absurd h0 hz)
    refine g_iload E dL_law_1349 1 rfl ?_
    refine g_if_ne (tgt := 1366) E dL_law_1351 (by decide) (fun _ => ?_) (fun hz => absurd hz hk0)
    refine g_goto (tgt := 1647) E dL_law_1366 (by decide) ?_
    refine g_widen (mc' := mc + 10) (ms' := ms + 4000) (Nat.add_le_add_left (Nat.le_of_ble_eq_true rfl) _) (Nat.add_le_add_left (Nat.le_of_ble_eq_true rfl) _) ?_
    refine g_locals [(4, .int (nI q)), (3, .ref ob), (2, .ref (ma 0)), (1, .ref (ad 5 0)), (0, .ref b)] [2, 3, 4, 5, 6] rfl ?_
    exact kk _ ⟨S', _, _, c', ad', i', j', p', r', rfl, hI', hA', hR⟩
set_option maxHeartbeats 4000000 in
set_option maxRecDepth 100000 in
theorem cs_pass (E : gOk C cL_law 8 wsL_law RL e0 room_1) (hX : va_X b Ln xv (xs C) (xs C).heap) (hbl : b < (xs C).heap.size) (hbA : ¬ xA C b) (hL : Ln ≤ 3584) (hq : q + 7 ≤ Ln) (hW : LV C e0 a ob ma W) (hmc : mc + 10 ≤ 601024) (hms : ms + 4000 ≤ 7293034) (kk : ∀ W', LV C e0 a ob ma W' → G C W' (mc + 10) (ms + 4000) 1647 [(4, .int (nI q)), (3, .ref ob), (2, .ref (ma 0)), (1, .ref a), (0, .ref b)] []) : G C W mc ms 1369 [(4, .int (nI q)), (3, .ref ob), (2, .ref (ma 0)), (1, .ref a), (0, .ref b)] [] := by
  obtain ⟨S, o, s, c, ad, i, j, p, r, rfl, hI, hA, M, N, h⟩ := hW
  subst hA
  refine g_aload_n E dL_law_1369 rfl 3 rfl ?_
  refine g_aload_n E dL_law_1370 rfl 4 rfl ?_
  refine g_iload E dL_law_1371 0 rfl ?_
  refine g_iconst (v := nI 1) E dL_law_1373 (by decide) ?_
  refine g_iadd E dL_law_1374 ?_
  refine g_sld E hX hbl hbA hL (q + 1) (nI_add q 1) (by omega) dL_law_1375 ?_
  refine g_aload_n E dL_law_1376 rfl 1 rfl ?_
  refine g_invSW (rm' := rm_L_pass) (mc' := 1) (ms' := 6) (As := [.ref (ad 5 0), .int (xv (q + 1)), .ref ob]) (rest := []) (n := 3) E ((w_pass (xl C) E.tr (xD C) (xy C) e0 (hI.obj (kd := 5) (by decide) hI.c5).1 (hI.obj (kd := 5) (by decide) hI.c5).2 (m_X5_pass (xl C) E.tr (xD C) (xy C) e0 hI h.1.1 h.b.2.2.2.1 h.ln.lns h.wv h.li.li h.pm.cap) (fun v S' hP => by rcases hP with ⟨_, _, _, _, _, ⟨_, _, _, _, _, _, _, ⟨_, _, _, hv⟩⟩⟩ <;> exact ⟨_, hv⟩) (fun _ _ h => h.elim (fun h => Or.inl h.1) (fun h => Or.inr h.1))).frameRN (mW (xy C) ma s)) gL_law_L_pass rfl rfl rfl (by decide +kernel) ⟨Nat.le_of_ble_eq_true rfl, Nat.le_of_ble_eq_true rfl⟩ rfl rfl (Nat.le_of_ble_eq_true rfl) dL_law_1377 ⟨by exact Nat.le_trans (Nat.add_le_add_left (Nat.le_of_ble_eq_true rfl) _) hmc, by exact Nat.le_trans (Nat.add_le_add_left (Nat.le_of_ble_eq_true rfl) _) hms⟩ (fun v w h9 => ?_)
  obtain ⟨w1, rfl, h9⟩ := h9
  rcases h9 with ⟨S', vv, x, rfl, rfl, hP, hcv⟩ | ⟨S', X, k, rfl, rfl, hXP, hec⟩
  · obtain ⟨c', ad', i', j', p', r', hI', hA', hn⟩ := nx_pass hI h hP
    show G C ((cW (xy C) S' ++ [oE (xy C) ob (vp_updL o 0 x)]) ++ mW (xy C) ma s) (mc + 1) (ms + 6) 1380 [(4, .int (nI q)), (3, .ref ob), (2, .ref (ma 0)), (1, .ref (ad 5 0)), (0, .ref b)] [.int 0]
    refine g_istore (L' := [(5, .int 0), (4, .int (nI q)), (3, .ref ob), (2, .ref (ma 0)), (1, .ref (ad 5 0)), (0, .ref b)]) E dL_law_1380 (by decide) rfl ?_
    refine g_aload_n E dL_law_1382 rfl 3 rfl ?_
    refine g_aload_n E dL_law_1383 rfl 5 rfl ?_
    refine g_iload E dL_law_1384 1 rfl ?_
    refine g_iconst (v := nI 1) E dL_law_1386 (by decide) ?_
    refine g_iadd E dL_law_1387 ?_
    refine g_sld E hX hbl hbA hL (q + 1) (nI_add q 1) (by omega) dL_law_1388 ?_
    refine g_invV (rm' := rm_X6_pass) (mc' := 0) (ms' := 0) (As := [.int (xv (q + 1))]) (rest := []) (n := 1) E (gMet.frameL (m_X6_pass (xl C) E.tr (xD C) (xy C) e0 h.1.2.2.2.2.2.1 h.b.2.1 h.1.2.1 h.b.2.2.2.1 h.ln.mln h.1.2.2.2.1 h.b.1 h.li.mli (h.pm.hop h.b.2.2.1 h.b.2.1) h.pm.hap) (cW (xy C) S' ++ [oE (xy C) ob (vp_updL o 0 x)])) gL_law_X6_pass rfl rfl rfl (by decide +kernel) ⟨Nat.le_of_ble_eq_true rfl, Nat.le_of_ble_eq_true rfl⟩ _ 7 rfl rfl (app_r (k := 0) rfl) rfl rfl (Nat.le_of_ble_eq_true rfl) dL_law_1389 ⟨Nat.le_trans (show mc + 1 + 0 ≤ mc + 10 from Nat.add_le_add_left (Nat.le_of_ble_eq_true rfl) mc) hmc, Nat.le_trans (show ms + 6 + 0 ≤ ms + 4000 from Nat.add_le_add_left (Nat.le_of_ble_eq_true rfl) ms) hms⟩ (fun X9 w h9 => by obtain ⟨_, _, h9⟩ := h9; exact h9.elim) (fun v w h9 => ?_)
    obtain ⟨w1, rfl, s', rfl, hQ⟩ := h9
    obtain ⟨z, rfl⟩ := sh_pass hQ
    obtain ⟨h0, hv, hR⟩ := hn _ _ hQ
    show G C ((cW (xy C) S' ++ [oE (xy C) ob (vp_updL o 0 x)]) ++ mW (xy C) ma s') (mc + 1) (ms + 6) 1392 [(5, .int 0), (4, .int (nI q)), (3, .ref ob), (2, .ref (ma 0)), (1, .ref (ad 5 0)), (0, .ref b)] [.int z]
    refine g_istore (L' := [(6, .int z), (5, .int 0), (4, .int (nI q)), (3, .ref ob), (2, .ref (ma 0)), (1, .ref (ad 5 0)), (0, .ref b)]) E dL_law_1392 (by decide) rfl ?_
    refine g_aload_n E dL_law_1394 rfl 4 rfl ?_
    refine g_invV (rm' := rm_X6_thrown) (mc' := 0) (ms' := 0) (As := []) (rest := []) (n := 0) E (gMet.frameL (m_X6_thrown (xl C) E.tr (xD C) (xy C) e0 (ma := ma) (s := s')) (cW (xy C) S' ++ [oE (xy C) ob (vp_updL o 0 x)])) gL_law_X6_thrown rfl rfl rfl (by decide +kernel) ⟨Nat.le_of_ble_eq_true rfl, Nat.le_of_ble_eq_true rfl⟩ _ 7 rfl rfl (app_r (k := 0) rfl) rfl rfl (Nat.le_of_ble_eq_true rfl) dL_law_1395 ⟨Nat.le_trans (show mc + 1 + 0 ≤ mc + 10 from Nat.add_le_add_left (Nat.le_of_ble_eq_true rfl) mc) hmc, Nat.le_trans (show ms + 6 + 0 ≤ ms + 4000 from Nat.add_le_add_left (Nat.le_of_ble_eq_true rfl) ms) hms⟩ (fun X9 w h9 => by obtain ⟨_, _, h9⟩ := h9; exact h9.elim) (fun v w h9 => ?_)
    obtain ⟨w1, rfl, s9, rfl, rfl, rfl⟩ := h9
    show G C ((cW (xy C) S' ++ [oE (xy C) ob (vp_updL o 0 x)]) ++ mW (xy C) ma s9) (mc + 1) (ms + 6) 1398 [(6, .int z), (5, .int 0), (4, .int (nI q)), (3, .ref ob), (2, .ref (ma 0)), (1, .ref (ad 5 0)), (0, .ref b)] [.int (mi s9 0)]
    refine g_iload E dL_law_1398 1 rfl ?_
    refine g_icmp_eq (tgt := 1405) E dL_law_1400 (by decide) (fun _ => ?_) (fun hz => absurd h0 hz)
    refine g_iload E dL_law_1405 1 rfl ?_
    refine g_if_ne (tgt := 1422) E dL_law_1407 (by decide) (fun hz => absurd rfl hz) (fun _ => ?_)
    refine g_aload_n E dL_law_1410 rfl 3 rfl ?_
    refine g_iconst (v := 0) E dL_law_1411 (by decide) ?_
    refine g_outld E dL_law_1412 ?_
    show G C ((cW (xy C) S' ++ [oE (xy C) ob (vp_updL o 0 x)]) ++ mW (xy C) ma s9) (mc + 1) (ms + 6) 1413 [(6, .int z), (5, .int 0), (4, .int (nI q)), (3, .ref ob), (2, .ref (ma 0)), (1, .ref (ad 5 0)), (0, .ref b)] [.long x]
    refine g_iload E dL_law_1413 0 rfl ?_
    refine g_i2l E dL_law_1415 ?_
    have hxz : x = z.toInt64 := by obtain ⟨z0, h4, h6⟩ := hcv; have h5 := hv.trans h4; injection h5 with h5; injection h5 with h5; rw [h6, h5]
    refine g_lcmp E dL_law_1416 ?_
    refine g_if_eq (tgt := 1422) E dL_law_1417 (by decide) (fun _ => ?_) (fun hz => absurd ((lg_cmp_eq _ _).mpr hxz) hz)
    refine g_goto (tgt := 1647) E dL_law_1422 (by decide) ?_
    refine g_widen (mc' := mc + 10) (ms' := ms + 4000) (Nat.add_le_add_left (Nat.le_of_ble_eq_true rfl) _) (Nat.add_le_add_left (Nat.le_of_ble_eq_true rfl) _) ?_
    refine g_locals [(4, .int (nI q)), (3, .ref ob), (2, .ref (ma 0)), (1, .ref (ad 5 0)), (0, .ref b)] [2, 3, 4, 5, 6] rfl ?_
    exact kk _ ⟨S', _, _, c', ad', i', j', p', r', rfl, hI', hA', hR⟩
  · obtain ⟨hk0, c', ad', i', j', p', r', hI', hA', hn⟩ := xx_pass hI h hXP hec
    show G C ((cW (xy C) S' ++ [oE (xy C) ob o]) ++ mW (xy C) ma s) (mc + 1) (ms + 6) 1380 [(4, .int (nI q)), (3, .ref ob), (2, .ref (ma 0)), (1, .ref (ad 5 0)), (0, .ref b)] [.int k]
    refine g_istore (L' := [(5, .int k), (4, .int (nI q)), (3, .ref ob), (2, .ref (ma 0)), (1, .ref (ad 5 0)), (0, .ref b)]) E dL_law_1380 (by decide) rfl ?_
    refine g_aload_n E dL_law_1382 rfl 3 rfl ?_
    refine g_aload_n E dL_law_1383 rfl 5 rfl ?_
    refine g_iload E dL_law_1384 1 rfl ?_
    refine g_iconst (v := nI 1) E dL_law_1386 (by decide) ?_
    refine g_iadd E dL_law_1387 ?_
    refine g_sld E hX hbl hbA hL (q + 1) (nI_add q 1) (by omega) dL_law_1388 ?_
    refine g_invV (rm' := rm_X6_pass) (mc' := 0) (ms' := 0) (As := [.int (xv (q + 1))]) (rest := []) (n := 1) E (gMet.frameL (m_X6_pass (xl C) E.tr (xD C) (xy C) e0 h.1.2.2.2.2.2.1 h.b.2.1 h.1.2.1 h.b.2.2.2.1 h.ln.mln h.1.2.2.2.1 h.b.1 h.li.mli (h.pm.hop h.b.2.2.1 h.b.2.1) h.pm.hap) (cW (xy C) S' ++ [oE (xy C) ob o])) gL_law_X6_pass rfl rfl rfl (by decide +kernel) ⟨Nat.le_of_ble_eq_true rfl, Nat.le_of_ble_eq_true rfl⟩ _ 7 rfl rfl (app_r (k := 0) rfl) rfl rfl (Nat.le_of_ble_eq_true rfl) dL_law_1389 ⟨Nat.le_trans (show mc + 1 + 0 ≤ mc + 10 from Nat.add_le_add_left (Nat.le_of_ble_eq_true rfl) mc) hmc, Nat.le_trans (show ms + 6 + 0 ≤ ms + 4000 from Nat.add_le_add_left (Nat.le_of_ble_eq_true rfl) ms) hms⟩ (fun X9 w h9 => by obtain ⟨_, _, h9⟩ := h9; exact h9.elim) (fun v w h9 => ?_)
    obtain ⟨w1, rfl, s', rfl, hQ⟩ := h9
    obtain ⟨z, rfl⟩ := sh_pass hQ
    obtain ⟨h0, hR⟩ := hn _ _ hQ
    show G C ((cW (xy C) S' ++ [oE (xy C) ob o]) ++ mW (xy C) ma s') (mc + 1) (ms + 6) 1392 [(5, .int k), (4, .int (nI q)), (3, .ref ob), (2, .ref (ma 0)), (1, .ref (ad 5 0)), (0, .ref b)] [.int z]
    refine g_istore (L' := [(6, .int z), (5, .int k), (4, .int (nI q)), (3, .ref ob), (2, .ref (ma 0)), (1, .ref (ad 5 0)), (0, .ref b)]) E dL_law_1392 (by decide) rfl ?_
    refine g_aload_n E dL_law_1394 rfl 4 rfl ?_
    refine g_invV (rm' := rm_X6_thrown) (mc' := 0) (ms' := 0) (As := []) (rest := []) (n := 0) E (gMet.frameL (m_X6_thrown (xl C) E.tr (xD C) (xy C) e0 (ma := ma) (s := s')) (cW (xy C) S' ++ [oE (xy C) ob o])) gL_law_X6_thrown rfl rfl rfl (by decide +kernel) ⟨Nat.le_of_ble_eq_true rfl, Nat.le_of_ble_eq_true rfl⟩ _ 7 rfl rfl (app_r (k := 0) rfl) rfl rfl (Nat.le_of_ble_eq_true rfl) dL_law_1395 ⟨Nat.le_trans (show mc + 1 + 0 ≤ mc + 10 from Nat.add_le_add_left (Nat.le_of_ble_eq_true rfl) mc) hmc, Nat.le_trans (show ms + 6 + 0 ≤ ms + 4000 from Nat.add_le_add_left (Nat.le_of_ble_eq_true rfl) ms) hms⟩ (fun X9 w h9 => by obtain ⟨_, _, h9⟩ := h9; exact h9.elim) (fun v w h9 => ?_)
    obtain ⟨w1, rfl, s9, rfl, rfl, rfl⟩ := h9
    show G C ((cW (xy C) S' ++ [oE (xy C) ob o]) ++ mW (xy C) ma s9) (mc + 1) (ms + 6) 1398 [(6, .int z), (5, .int k), (4, .int (nI q)), (3, .ref ob), (2, .ref (ma 0)), (1, .ref (ad 5 0)), (0, .ref b)] [.int (mi s9 0)]
    refine g_iload E dL_law_1398 1 rfl ?_
    refine g_icmp_eq (tgt := 1405) E dL_law_1400 (by decide) (fun _ => ?_) (fun hz => absurd h0 hz)
    refine g_iload E dL_law_1405 1 rfl ?_
    refine g_if_ne (tgt := 1422) E dL_law_1407 (by decide) (fun _ => ?_) (fun hz => absurd hz hk0)
    refine g_goto (tgt := 1647) E dL_law_1422 (by decide) ?_
    refine g_widen (mc' := mc + 10) (ms' := ms + 4000) (Nat.add_le_add_left (Nat.le_of_ble_eq_true rfl) _) (Nat.add_le_add_left (Nat.le_of_ble_eq_true rfl) _) ?_
    refine g_locals [(4, .int (nI q)), (3, .ref ob), (2, .ref (ma 0)), (1, .ref (ad 5 0)), (0, .ref b)] [2, 3, 4, 5, 6] rfl ?_
    exact kk _ ⟨S', _, _, c', ad', i', j', p', r', rfl, hI', hA', hR⟩
set_option maxHeartbeats 4000000 in
set_option maxRecDepth 100000 in
theorem cs_complain (E : gOk C cL_law 8 wsL_law RL e0 room_1) (hX : va_X b Ln xv (xs C) (xs C).heap) (hbl : b < (xs C).heap.size) (hbA : ¬ xA C b) (hL : Ln ≤ 3584) (hq : q + 7 ≤ Ln) (hW : LV C e0 a ob ma W) (hmc : mc + 10 ≤ 601024) (hms : ms + 4000 ≤ 7293034) (kk : ∀ W', LV C e0 a ob ma W' → G C W' (mc + 10) (ms + 4000) 1647 [(4, .int (nI q)), (3, .ref ob), (2, .ref (ma 0)), (1, .ref a), (0, .ref b)] []) : G C W mc ms 1425 [(4, .int (nI q)), (3, .ref ob), (2, .ref (ma 0)), (1, .ref a), (0, .ref b)] [] := by
  obtain ⟨S, o, s, c, ad, i, j, p, r, rfl, hI, hA, M, N, h⟩ := hW
  subst hA
  refine g_aload_n E dL_law_1425 rfl 3 rfl ?_
  refine g_aload_n E dL_law_1426 rfl 4 rfl ?_
  refine g_iload E dL_law_1427 0 rfl ?_
  refine g_iconst (v := nI 1) E dL_law_1429 (by decide) ?_
  refine g_iadd E dL_law_1430 ?_
  refine g_sld E hX hbl hbA hL (q + 1) (nI_add q 1) (by omega) dL_law_1431 ?_
  refine g_aload_n E dL_law_1432 rfl 1 rfl ?_
  refine g_invSW (rm' := rm_L_complain) (mc' := 1) (ms' := 6) (As := [.ref (ad 5 0), .int (xv (q + 1)), .ref ob]) (rest := []) (n := 3) E ((w_complain (xl C) E.tr (xD C) (xy C) e0 (hI.obj (kd := 5) (by decide) hI.c5).1 (hI.obj (kd := 5) (by decide) hI.c5).2 (m_X5_complain (xl C) E.tr (xD C) (xy C) e0 hI h.1.1 h.b.2.2.2.1 h.ln.lns h.wv h.li.li) (fun v S' hP => by rcases hP with ⟨_, _, _, ⟨_, _, _, _, _, hv⟩⟩ <;> exact ⟨_, hv⟩) (fun _ _ h => h.1)).frameRN (mW (xy C) ma s)) gL_law_L_complain rfl rfl rfl (by decide +kernel) ⟨Nat.le_of_ble_eq_true rfl, Nat.le_of_ble_eq_true rfl⟩ rfl rfl (Nat.le_of_ble_eq_true rfl) dL_law_1433 ⟨by exact Nat.le_trans (Nat.add_le_add_left (Nat.le_of_ble_eq_true rfl) _) hmc, by exact Nat.le_trans (Nat.add_le_add_left (Nat.le_of_ble_eq_true rfl) _) hms⟩ (fun v w h9 => ?_)
  obtain ⟨w1, rfl, h9⟩ := h9
  rcases h9 with ⟨S', vv, x, rfl, rfl, hP, hcv⟩ | ⟨S', X, k, rfl, rfl, hXP, hec⟩
  · obtain ⟨c', ad', i', j', p', r', hI', hA', hn⟩ := nx_complain hI h hP
    show G C ((cW (xy C) S' ++ [oE (xy C) ob (vp_updL o 0 x)]) ++ mW (xy C) ma s) (mc + 1) (ms + 6) 1436 [(4, .int (nI q)), (3, .ref ob), (2, .ref (ma 0)), (1, .ref (ad 5 0)), (0, .ref b)] [.int 0]
    refine g_istore (L' := [(5, .int 0), (4, .int (nI q)), (3, .ref ob), (2, .ref (ma 0)), (1, .ref (ad 5 0)), (0, .ref b)]) E dL_law_1436 (by decide) rfl ?_
    refine g_aload_n E dL_law_1438 rfl 3 rfl ?_
    refine g_aload_n E dL_law_1439 rfl 5 rfl ?_
    refine g_iload E dL_law_1440 1 rfl ?_
    refine g_iconst (v := nI 1) E dL_law_1442 (by decide) ?_
    refine g_iadd E dL_law_1443 ?_
    refine g_sld E hX hbl hbA hL (q + 1) (nI_add q 1) (by omega) dL_law_1444 ?_
    refine g_invV (rm' := rm_X6_complain) (mc' := 0) (ms' := 0) (As := [.int (xv (q + 1))]) (rest := []) (n := 1) E (gMet.frameL (m_X6_complain (xl C) E.tr (xD C) (xy C) e0 h.1.2.2.2.2.2.1 h.b.2.1 h.1.2.1 h.b.2.2.2.1 h.ln.mln h.1.2.2.2.1 h.b.1 h.li.mli h.pm.hap) (cW (xy C) S' ++ [oE (xy C) ob (vp_updL o 0 x)])) gL_law_X6_complain rfl rfl rfl (by decide +kernel) ⟨Nat.le_of_ble_eq_true rfl, Nat.le_of_ble_eq_true rfl⟩ _ 7 rfl rfl (app_r (k := 0) rfl) rfl rfl (Nat.le_of_ble_eq_true rfl) dL_law_1445 ⟨Nat.le_trans (show mc + 1 + 0 ≤ mc + 10 from Nat.add_le_add_left (Nat.le_of_ble_eq_true rfl) mc) hmc, Nat.le_trans (show ms + 6 + 0 ≤ ms + 4000 from Nat.add_le_add_left (Nat.le_of_ble_eq_true rfl) ms) hms⟩ (fun X9 w h9 => by obtain ⟨_, _, h9⟩ := h9; exact h9.elim) (fun v w h9 => ?_)
    obtain ⟨w1, rfl, s', rfl, hQ⟩ := h9
    obtain ⟨z, rfl⟩ := sh_complain hQ
    obtain ⟨h0, hv, hR⟩ := hn _ _ hQ
    show G C ((cW (xy C) S' ++ [oE (xy C) ob (vp_updL o 0 x)]) ++ mW (xy C) ma s') (mc + 1) (ms + 6) 1448 [(5, .int 0), (4, .int (nI q)), (3, .ref ob), (2, .ref (ma 0)), (1, .ref (ad 5 0)), (0, .ref b)] [.int z]
    refine g_istore (L' := [(6, .int z), (5, .int 0), (4, .int (nI q)), (3, .ref ob), (2, .ref (ma 0)), (1, .ref (ad 5 0)), (0, .ref b)]) E dL_law_1448 (by decide) rfl ?_
    refine g_aload_n E dL_law_1450 rfl 4 rfl ?_
    refine g_invV (rm' := rm_X6_thrown) (mc' := 0) (ms' := 0) (As := []) (rest := []) (n := 0) E (gMet.frameL (m_X6_thrown (xl C) E.tr (xD C) (xy C) e0 (ma := ma) (s := s')) (cW (xy C) S' ++ [oE (xy C) ob (vp_updL o 0 x)])) gL_law_X6_thrown rfl rfl rfl (by decide +kernel) ⟨Nat.le_of_ble_eq_true rfl, Nat.le_of_ble_eq_true rfl⟩ _ 7 rfl rfl (app_r (k := 0) rfl) rfl rfl (Nat.le_of_ble_eq_true rfl) dL_law_1451 ⟨Nat.le_trans (show mc + 1 + 0 ≤ mc + 10 from Nat.add_le_add_left (Nat.le_of_ble_eq_true rfl) mc) hmc, Nat.le_trans (show ms + 6 + 0 ≤ ms + 4000 from Nat.add_le_add_left (Nat.le_of_ble_eq_true rfl) ms) hms⟩ (fun X9 w h9 => by obtain ⟨_, _, h9⟩ := h9; exact h9.elim) (fun v w h9 => ?_)
    obtain ⟨w1, rfl, s9, rfl, rfl, rfl⟩ := h9
    show G C ((cW (xy C) S' ++ [oE (xy C) ob (vp_updL o 0 x)]) ++ mW (xy C) ma s9) (mc + 1) (ms + 6) 1454 [(6, .int z), (5, .int 0), (4, .int (nI q)), (3, .ref ob), (2, .ref (ma 0)), (1, .ref (ad 5 0)), (0, .ref b)] [.int (mi s9 0)]
    refine g_iload E dL_law_1454 1 rfl ?_
    refine g_icmp_eq (tgt := 1461) E dL_law_1456 (by decide) (fun _ => ?_) (fun hz => absurd h0 hz)
    refine g_iload E dL_law_1461 1 rfl ?_
    refine g_if_ne (tgt := 1478) E dL_law_1463 (by decide) (fun hz => absurd rfl hz) (fun _ => ?_)
    refine g_aload_n E dL_law_1466 rfl 3 rfl ?_
    refine g_iconst (v := 0) E dL_law_1467 (by decide) ?_
    refine g_outld E dL_law_1468 ?_
    show G C ((cW (xy C) S' ++ [oE (xy C) ob (vp_updL o 0 x)]) ++ mW (xy C) ma s9) (mc + 1) (ms + 6) 1469 [(6, .int z), (5, .int 0), (4, .int (nI q)), (3, .ref ob), (2, .ref (ma 0)), (1, .ref (ad 5 0)), (0, .ref b)] [.long x]
    refine g_iload E dL_law_1469 0 rfl ?_
    refine g_i2l E dL_law_1471 ?_
    have hxz : x = z.toInt64 := by obtain ⟨z0, h4, h6⟩ := hcv; have h5 := hv.trans h4; injection h5 with h5; injection h5 with h5; rw [h6, h5]
    refine g_lcmp E dL_law_1472 ?_
    refine g_if_eq (tgt := 1478) E dL_law_1473 (by decide) (fun _ => ?_) (fun hz => absurd ((lg_cmp_eq _ _).mpr hxz) hz)
    refine g_goto (tgt := 1647) E dL_law_1478 (by decide) ?_
    refine g_widen (mc' := mc + 10) (ms' := ms + 4000) (Nat.add_le_add_left (Nat.le_of_ble_eq_true rfl) _) (Nat.add_le_add_left (Nat.le_of_ble_eq_true rfl) _) ?_
    refine g_locals [(4, .int (nI q)), (3, .ref ob), (2, .ref (ma 0)), (1, .ref (ad 5 0)), (0, .ref b)] [2, 3, 4, 5, 6] rfl ?_
    exact kk _ ⟨S', _, _, c', ad', i', j', p', r', rfl, hI', hA', hR⟩
  · obtain ⟨hk0, c', ad', i', j', p', r', hI', hA', hn⟩ := xx_complain hI h hXP hec
    show G C ((cW (xy C) S' ++ [oE (xy C) ob o]) ++ mW (xy C) ma s) (mc + 1) (ms + 6) 1436 [(4, .int (nI q)), (3, .ref ob), (2, .ref (ma 0)), (1, .ref (ad 5 0)), (0, .ref b)] [.int k]
    refine g_istore (L' := [(5, .int k), (4, .int (nI q)), (3, .ref ob), (2, .ref (ma 0)), (1, .ref (ad 5 0)), (0, .ref b)]) E dL_law_1436 (by decide) rfl ?_
    refine g_aload_n E dL_law_1438 rfl 3 rfl ?_
    refine g_aload_n E dL_law_1439 rfl 5 rfl ?_
    refine g_iload E dL_law_1440 1 rfl ?_
    refine g_iconst (v := nI 1) E dL_law_1442 (by decide) ?_
    refine g_iadd E dL_law_1443 ?_
    refine g_sld E hX hbl hbA hL (q + 1) (nI_add q 1) (by omega) dL_law_1444 ?_
    refine g_invV (rm' := rm_X6_complain) (mc' := 0) (ms' := 0) (As := [.int (xv (q + 1))]) (rest := []) (n := 1) E (gMet.frameL (m_X6_complain (xl C) E.tr (xD C) (xy C) e0 h.1.2.2.2.2.2.1 h.b.2.1 h.1.2.1 h.b.2.2.2.1 h.ln.mln h.1.2.2.2.1 h.b.1 h.li.mli h.pm.hap) (cW (xy C) S' ++ [oE (xy C) ob o])) gL_law_X6_complain rfl rfl rfl (by decide +kernel) ⟨Nat.le_of_ble_eq_true rfl, Nat.le_of_ble_eq_true rfl⟩ _ 7 rfl rfl (app_r (k := 0) rfl) rfl rfl (Nat.le_of_ble_eq_true rfl) dL_law_1445 ⟨Nat.le_trans (show mc + 1 + 0 ≤ mc + 10 from Nat.add_le_add_left (Nat.le_of_ble_eq_true rfl) mc) hmc, Nat.le_trans (show ms + 6 + 0 ≤ ms + 4000 from Nat.add_le_add_left (Nat.le_of_ble_eq_true rfl) ms) hms⟩ (fun X9 w h9 => by obtain ⟨_, _, h9⟩ := h9; exact h9.elim) (fun v w h9 => ?_)
    obtain ⟨w1, rfl, s', rfl, hQ⟩ := h9
    obtain ⟨z, rfl⟩ := sh_complain hQ
    obtain ⟨h0, hR⟩ := hn _ _ hQ
    show G C ((cW (xy C) S' ++ [oE (xy C) ob o]) ++ mW (xy C) ma s') (mc + 1) (ms + 6) 1448 [(5, .int k), (4, .int (nI q)), (3, .ref ob), (2, .ref (ma 0)), (1, .ref (ad 5 0)), (0, .ref b)] [.int z]
    refine g_istore (L' := [(6, .int z), (5, .int k), (4, .int (nI q)), (3, .ref ob), (2, .ref (ma 0)), (1, .ref (ad 5 0)), (0, .ref b)]) E dL_law_1448 (by decide) rfl ?_
    refine g_aload_n E dL_law_1450 rfl 4 rfl ?_
    refine g_invV (rm' := rm_X6_thrown) (mc' := 0) (ms' := 0) (As := []) (rest := []) (n := 0) E (gMet.frameL (m_X6_thrown (xl C) E.tr (xD C) (xy C) e0 (ma := ma) (s := s')) (cW (xy C) S' ++ [oE (xy C) ob o])) gL_law_X6_thrown rfl rfl rfl (by decide +kernel) ⟨Nat.le_of_ble_eq_true rfl, Nat.le_of_ble_eq_true rfl⟩ _ 7 rfl rfl (app_r (k := 0) rfl) rfl rfl (Nat.le_of_ble_eq_true rfl) dL_law_1451 ⟨Nat.le_trans (show mc + 1 + 0 ≤ mc + 10 from Nat.add_le_add_left (Nat.le_of_ble_eq_true rfl) mc) hmc, Nat.le_trans (show ms + 6 + 0 ≤ ms + 4000 from Nat.add_le_add_left (Nat.le_of_ble_eq_true rfl) ms) hms⟩ (fun X9 w h9 => by obtain ⟨_, _, h9⟩ := h9; exact h9.elim) (fun v w h9 => ?_)
    obtain ⟨w1, rfl, s9, rfl, rfl, rfl⟩ := h9
    show G C ((cW (xy C) S' ++ [oE (xy C) ob o]) ++ mW (xy C) ma s9) (mc + 1) (ms + 6) 1454 [(6, .int z), (5, .int k), (4, .int (nI q)), (3, .ref ob), (2, .ref (ma 0)), (1, .ref (ad 5 0)), (0, .ref b)] [.int (mi s9 0)]
    refine g_iload E dL_law_1454 1 rfl ?_
    refine g_icmp_eq (tgt := 1461) E dL_law_1456 (by decide) (fun _ => ?_) (fun hz => absurd h0 hz)
    refine g_iload E dL_law_1461 1 rfl ?_
    refine g_if_ne (tgt := 1478) E dL_law_1463 (by decide) (fun _ => ?_) (fun hz => absurd hz hk0)
    refine g_goto (tgt := 1647) E dL_law_1478 (by decide) ?_
    refine g_widen (mc' := mc + 10) (ms' := ms + 4000) (Nat.add_le_add_left (Nat.le_of_ble_eq_true rfl) _) (Nat.add_le_add_left (Nat.le_of_ble_eq_true rfl) _) ?_
    refine g_locals [(4, .int (nI q)), (3, .ref ob), (2, .ref (ma 0)), (1, .ref (ad 5 0)), (0, .ref b)] [2, 3, 4, 5, 6] rfl ?_
    exact kk _ ⟨S', _, _, c', ad', i', j', p', r', rfl, hI', hA', hR⟩
set_option maxHeartbeats 4000000 in
set_option maxRecDepth 100000 in
theorem cs_points (E : gOk C cL_law 8 wsL_law RL e0 room_1) (hX : va_X b Ln xv (xs C) (xs C).heap) (hbl : b < (xs C).heap.size) (hbA : ¬ xA C b) (hL : Ln ≤ 3584) (hq : q + 7 ≤ Ln) (hW : LV C e0 a ob ma W) (hmc : mc + 10 ≤ 601024) (hms : ms + 4000 ≤ 7293034) (kk : ∀ W', LV C e0 a ob ma W' → G C W' (mc + 10) (ms + 4000) 1647 [(4, .int (nI q)), (3, .ref ob), (2, .ref (ma 0)), (1, .ref a), (0, .ref b)] []) : G C W mc ms 1481 [(4, .int (nI q)), (3, .ref ob), (2, .ref (ma 0)), (1, .ref a), (0, .ref b)] [] := by
  obtain ⟨S, o, s, c, ad, i, j, p, r, rfl, hI, hA, M, N, h⟩ := hW
  subst hA
  refine g_aload_n E dL_law_1481 rfl 3 rfl ?_
  refine g_aload_n E dL_law_1482 rfl 4 rfl ?_
  refine g_iload E dL_law_1483 0 rfl ?_
  refine g_iconst (v := nI 1) E dL_law_1485 (by decide) ?_
  refine g_iadd E dL_law_1486 ?_
  refine g_sld E hX hbl hbA hL (q + 1) (nI_add q 1) (by omega) dL_law_1487 ?_
  refine g_aload_n E dL_law_1488 rfl 1 rfl ?_
  refine g_invSW (rm' := rm_L_points) (mc' := 1) (ms' := 6) (As := [.ref (ad 5 0), .int (xv (q + 1)), .ref ob]) (rest := []) (n := 3) E ((w_points (xl C) E.tr (xD C) (xy C) e0 (hI.obj (kd := 5) (by decide) hI.c5).1 (hI.obj (kd := 5) (by decide) hI.c5).2 (m_X5_points (xl C) E.tr (xD C) (xy C) e0 hI) (fun v S' hP => by rcases hP with ⟨_, ⟨_, _, _, hv⟩⟩ <;> exact ⟨_, hv⟩) (fun _ _ h => h.1)).frameRN (mW (xy C) ma s)) gL_law_L_points rfl rfl rfl (by decide +kernel) ⟨Nat.le_of_ble_eq_true rfl, Nat.le_of_ble_eq_true rfl⟩ rfl rfl (Nat.le_of_ble_eq_true rfl) dL_law_1489 ⟨by exact Nat.le_trans (Nat.add_le_add_left (Nat.le_of_ble_eq_true rfl) _) hmc, by exact Nat.le_trans (Nat.add_le_add_left (Nat.le_of_ble_eq_true rfl) _) hms⟩ (fun v w h9 => ?_)
  obtain ⟨w1, rfl, h9⟩ := h9
  rcases h9 with ⟨S', vv, x, rfl, rfl, hP, hcv⟩ | ⟨S', X, k, rfl, rfl, hXP, hec⟩
  · obtain ⟨c', ad', i', j', p', r', hI', hA', hn⟩ := nx_points hI h hP
    show G C ((cW (xy C) S' ++ [oE (xy C) ob (vp_updL o 0 x)]) ++ mW (xy C) ma s) (mc + 1) (ms + 6) 1492 [(4, .int (nI q)), (3, .ref ob), (2, .ref (ma 0)), (1, .ref (ad 5 0)), (0, .ref b)] [.int 0]
    refine g_istore (L' := [(5, .int 0), (4, .int (nI q)), (3, .ref ob), (2, .ref (ma 0)), (1, .ref (ad 5 0)), (0, .ref b)]) E dL_law_1492 (by decide) rfl ?_
    refine g_aload_n E dL_law_1494 rfl 3 rfl ?_
    refine g_aload_n E dL_law_1495 rfl 5 rfl ?_
    refine g_iload E dL_law_1496 1 rfl ?_
    refine g_iconst (v := nI 1) E dL_law_1498 (by decide) ?_
    refine g_iadd E dL_law_1499 ?_
    refine g_sld E hX hbl hbA hL (q + 1) (nI_add q 1) (by omega) dL_law_1500 ?_
    refine g_invV (rm' := rm_X6_points) (mc' := 0) (ms' := 0) (As := [.int (xv (q + 1))]) (rest := []) (n := 1) E (gMet.frameL (m_X6_points (xl C) E.tr (xD C) (xy C) e0 ) (cW (xy C) S' ++ [oE (xy C) ob (vp_updL o 0 x)])) gL_law_X6_points rfl rfl rfl (by decide +kernel) ⟨Nat.le_of_ble_eq_true rfl, Nat.le_of_ble_eq_true rfl⟩ _ 7 rfl rfl (app_r (k := 0) rfl) rfl rfl (Nat.le_of_ble_eq_true rfl) dL_law_1501 ⟨Nat.le_trans (show mc + 1 + 0 ≤ mc + 10 from Nat.add_le_add_left (Nat.le_of_ble_eq_true rfl) mc) hmc, Nat.le_trans (show ms + 6 + 0 ≤ ms + 4000 from Nat.add_le_add_left (Nat.le_of_ble_eq_true rfl) ms) hms⟩ (fun X9 w h9 => by obtain ⟨_, _, h9⟩ := h9; exact h9.elim) (fun v w h9 => ?_)
    obtain ⟨w1, rfl, s', rfl, hQ⟩ := h9
    obtain ⟨z, rfl⟩ := sh_points hQ
    obtain ⟨h0, hv, hR⟩ := hn _ _ hQ
    show G C ((cW (xy C) S' ++ [oE (xy C) ob (vp_updL o 0 x)]) ++ mW (xy C) ma s') (mc + 1) (ms + 6) 1504 [(5, .int 0), (4, .int (nI q)), (3, .ref ob), (2, .ref (ma 0)), (1, .ref (ad 5 0)), (0, .ref b)] [.int z]
    refine g_istore (L' := [(6, .int z), (5, .int 0), (4, .int (nI q)), (3, .ref ob), (2, .ref (ma 0)), (1, .ref (ad 5 0)), (0, .ref b)]) E dL_law_1504 (by decide) rfl ?_
    refine g_aload_n E dL_law_1506 rfl 4 rfl ?_
    refine g_invV (rm' := rm_X6_thrown) (mc' := 0) (ms' := 0) (As := []) (rest := []) (n := 0) E (gMet.frameL (m_X6_thrown (xl C) E.tr (xD C) (xy C) e0 (ma := ma) (s := s')) (cW (xy C) S' ++ [oE (xy C) ob (vp_updL o 0 x)])) gL_law_X6_thrown rfl rfl rfl (by decide +kernel) ⟨Nat.le_of_ble_eq_true rfl, Nat.le_of_ble_eq_true rfl⟩ _ 7 rfl rfl (app_r (k := 0) rfl) rfl rfl (Nat.le_of_ble_eq_true rfl) dL_law_1507 ⟨Nat.le_trans (show mc + 1 + 0 ≤ mc + 10 from Nat.add_le_add_left (Nat.le_of_ble_eq_true rfl) mc) hmc, Nat.le_trans (show ms + 6 + 0 ≤ ms + 4000 from Nat.add_le_add_left (Nat.le_of_ble_eq_true rfl) ms) hms⟩ (fun X9 w h9 => by obtain ⟨_, _, h9⟩ := h9; exact h9.elim) (fun v w h9 => ?_)
    obtain ⟨w1, rfl, s9, rfl, rfl, rfl⟩ := h9
    show G C ((cW (xy C) S' ++ [oE (xy C) ob (vp_updL o 0 x)]) ++ mW (xy C) ma s9) (mc + 1) (ms + 6) 1510 [(6, .int z), (5, .int 0), (4, .int (nI q)), (3, .ref ob), (2, .ref (ma 0)), (1, .ref (ad 5 0)), (0, .ref b)] [.int (mi s9 0)]
    refine g_iload E dL_law_1510 1 rfl ?_
    refine g_icmp_eq (tgt := 1517) E dL_law_1512 (by decide) (fun _ => ?_) (fun hz => absurd h0 hz)
    refine g_iload E dL_law_1517 1 rfl ?_
    refine g_if_ne (tgt := 1534) E dL_law_1519 (by decide) (fun hz => absurd rfl hz) (fun _ => ?_)
    refine g_aload_n E dL_law_1522 rfl 3 rfl ?_
    refine g_iconst (v := 0) E dL_law_1523 (by decide) ?_
    refine g_outld E dL_law_1524 ?_
    show G C ((cW (xy C) S' ++ [oE (xy C) ob (vp_updL o 0 x)]) ++ mW (xy C) ma s9) (mc + 1) (ms + 6) 1525 [(6, .int z), (5, .int 0), (4, .int (nI q)), (3, .ref ob), (2, .ref (ma 0)), (1, .ref (ad 5 0)), (0, .ref b)] [.long x]
    refine g_iload E dL_law_1525 0 rfl ?_
    refine g_i2l E dL_law_1527 ?_
    have hxz : x = z.toInt64 := by obtain ⟨z0, h4, h6⟩ := hcv; have h5 := hv.trans h4; injection h5 with h5; injection h5 with h5; rw [h6, h5]
    refine g_lcmp E dL_law_1528 ?_
    refine g_if_eq (tgt := 1534) E dL_law_1529 (by decide) (fun _ => ?_) (fun hz => absurd ((lg_cmp_eq _ _).mpr hxz) hz)
    refine g_goto (tgt := 1647) E dL_law_1534 (by decide) ?_
    refine g_widen (mc' := mc + 10) (ms' := ms + 4000) (Nat.add_le_add_left (Nat.le_of_ble_eq_true rfl) _) (Nat.add_le_add_left (Nat.le_of_ble_eq_true rfl) _) ?_
    refine g_locals [(4, .int (nI q)), (3, .ref ob), (2, .ref (ma 0)), (1, .ref (ad 5 0)), (0, .ref b)] [2, 3, 4, 5, 6] rfl ?_
    exact kk _ ⟨S', _, _, c', ad', i', j', p', r', rfl, hI', hA', hR⟩
  · obtain ⟨hk0, c', ad', i', j', p', r', hI', hA', hn⟩ := xx_points hI h hXP hec
    show G C ((cW (xy C) S' ++ [oE (xy C) ob o]) ++ mW (xy C) ma s) (mc + 1) (ms + 6) 1492 [(4, .int (nI q)), (3, .ref ob), (2, .ref (ma 0)), (1, .ref (ad 5 0)), (0, .ref b)] [.int k]
    refine g_istore (L' := [(5, .int k), (4, .int (nI q)), (3, .ref ob), (2, .ref (ma 0)), (1, .ref (ad 5 0)), (0, .ref b)]) E dL_law_1492 (by decide) rfl ?_
    refine g_aload_n E dL_law_1494 rfl 3 rfl ?_
    refine g_aload_n E dL_law_1495 rfl 5 rfl ?_
    refine g_iload E dL_law_1496 1 rfl ?_
    refine g_iconst (v := nI 1) E dL_law_1498 (by decide) ?_
    refine g_iadd E dL_law_1499 ?_
    refine g_sld E hX hbl hbA hL (q + 1) (nI_add q 1) (by omega) dL_law_1500 ?_
    refine g_invV (rm' := rm_X6_points) (mc' := 0) (ms' := 0) (As := [.int (xv (q + 1))]) (rest := []) (n := 1) E (gMet.frameL (m_X6_points (xl C) E.tr (xD C) (xy C) e0 ) (cW (xy C) S' ++ [oE (xy C) ob o])) gL_law_X6_points rfl rfl rfl (by decide +kernel) ⟨Nat.le_of_ble_eq_true rfl, Nat.le_of_ble_eq_true rfl⟩ _ 7 rfl rfl (app_r (k := 0) rfl) rfl rfl (Nat.le_of_ble_eq_true rfl) dL_law_1501 ⟨Nat.le_trans (show mc + 1 + 0 ≤ mc + 10 from Nat.add_le_add_left (Nat.le_of_ble_eq_true rfl) mc) hmc, Nat.le_trans (show ms + 6 + 0 ≤ ms + 4000 from Nat.add_le_add_left (Nat.le_of_ble_eq_true rfl) ms) hms⟩ (fun X9 w h9 => by obtain ⟨_, _, h9⟩ := h9; exact h9.elim) (fun v w h9 => ?_)
    obtain ⟨w1, rfl, s', rfl, hQ⟩ := h9
    obtain ⟨z, rfl⟩ := sh_points hQ
    obtain ⟨h0, hR⟩ := hn _ _ hQ
    show G C ((cW (xy C) S' ++ [oE (xy C) ob o]) ++ mW (xy C) ma s') (mc + 1) (ms + 6) 1504 [(5, .int k), (4, .int (nI q)), (3, .ref ob), (2, .ref (ma 0)), (1, .ref (ad 5 0)), (0, .ref b)] [.int z]
    refine g_istore (L' := [(6, .int z), (5, .int k), (4, .int (nI q)), (3, .ref ob), (2, .ref (ma 0)), (1, .ref (ad 5 0)), (0, .ref b)]) E dL_law_1504 (by decide) rfl ?_
    refine g_aload_n E dL_law_1506 rfl 4 rfl ?_
    refine g_invV (rm' := rm_X6_thrown) (mc' := 0) (ms' := 0) (As := []) (rest := []) (n := 0) E (gMet.frameL (m_X6_thrown (xl C) E.tr (xD C) (xy C) e0 (ma := ma) (s := s')) (cW (xy C) S' ++ [oE (xy C) ob o])) gL_law_X6_thrown rfl rfl rfl (by decide +kernel) ⟨Nat.le_of_ble_eq_true rfl, Nat.le_of_ble_eq_true rfl⟩ _ 7 rfl rfl (app_r (k := 0) rfl) rfl rfl (Nat.le_of_ble_eq_true rfl) dL_law_1507 ⟨Nat.le_trans (show mc + 1 + 0 ≤ mc + 10 from Nat.add_le_add_left (Nat.le_of_ble_eq_true rfl) mc) hmc, Nat.le_trans (show ms + 6 + 0 ≤ ms + 4000 from Nat.add_le_add_left (Nat.le_of_ble_eq_true rfl) ms) hms⟩ (fun X9 w h9 => by obtain ⟨_, _, h9⟩ := h9; exact h9.elim) (fun v w h9 => ?_)
    obtain ⟨w1, rfl, s9, rfl, rfl, rfl⟩ := h9
    show G C ((cW (xy C) S' ++ [oE (xy C) ob o]) ++ mW (xy C) ma s9) (mc + 1) (ms + 6) 1510 [(6, .int z), (5, .int k), (4, .int (nI q)), (3, .ref ob), (2, .ref (ma 0)), (1, .ref (ad 5 0)), (0, .ref b)] [.int (mi s9 0)]
    refine g_iload E dL_law_1510 1 rfl ?_
    refine g_icmp_eq (tgt := 1517) E dL_law_1512 (by decide) (fun _ => ?_) (fun hz => absurd h0 hz)
    refine g_iload E dL_law_1517 1 rfl ?_
    refine g_if_ne (tgt := 1534) E dL_law_1519 (by decide) (fun _ => ?_) (fun hz => absurd hz hk0)
    refine g_goto (tgt := 1647) E dL_law_1534 (by decide) ?_
    refine g_widen (mc' := mc + 10) (ms' := ms + 4000) (Nat.add_le_add_left (Nat.le_of_ble_eq_true rfl) _) (Nat.add_le_add_left (Nat.le_of_ble_eq_true rfl) _) ?_
    refine g_locals [(4, .int (nI q)), (3, .ref ob), (2, .ref (ma 0)), (1, .ref (ad 5 0)), (0, .ref b)] [2, 3, 4, 5, 6] rfl ?_
    exact kk _ ⟨S', _, _, c', ad', i', j', p', r', rfl, hI', hA', hR⟩
set_option maxHeartbeats 4000000 in
set_option maxRecDepth 100000 in
theorem cs_fine (E : gOk C cL_law 8 wsL_law RL e0 room_1) (hX : va_X b Ln xv (xs C) (xs C).heap) (hbl : b < (xs C).heap.size) (hbA : ¬ xA C b) (hL : Ln ≤ 3584) (hq : q + 7 ≤ Ln) (hW : LV C e0 a ob ma W) (hmc : mc + 10 ≤ 601024) (hms : ms + 4000 ≤ 7293034) (kk : ∀ W', LV C e0 a ob ma W' → G C W' (mc + 10) (ms + 4000) 1647 [(4, .int (nI q)), (3, .ref ob), (2, .ref (ma 0)), (1, .ref a), (0, .ref b)] []) : G C W mc ms 1537 [(4, .int (nI q)), (3, .ref ob), (2, .ref (ma 0)), (1, .ref a), (0, .ref b)] [] := by
  obtain ⟨S, o, s, c, ad, i, j, p, r, rfl, hI, hA, M, N, h⟩ := hW
  subst hA
  refine g_aload_n E dL_law_1537 rfl 3 rfl ?_
  refine g_aload_n E dL_law_1538 rfl 4 rfl ?_
  refine g_iload E dL_law_1539 0 rfl ?_
  refine g_iconst (v := nI 1) E dL_law_1541 (by decide) ?_
  refine g_iadd E dL_law_1542 ?_
  refine g_sld E hX hbl hbA hL (q + 1) (nI_add q 1) (by omega) dL_law_1543 ?_
  refine g_aload_n E dL_law_1544 rfl 1 rfl ?_
  refine g_invSW (rm' := rm_L_fine) (mc' := 1) (ms' := 6) (As := [.ref (ad 5 0), .int (xv (q + 1)), .ref ob]) (rest := []) (n := 3) E ((w_fine (xl C) E.tr (xD C) (xy C) e0 (hI.obj (kd := 5) (by decide) hI.c5).1 (hI.obj (kd := 5) (by decide) hI.c5).2 (m_X5_fine (xl C) E.tr (xD C) (xy C) e0 hI) (fun v S' hP => by rcases hP with ⟨_, ⟨_, _, _, hv⟩⟩ <;> exact ⟨_, hv⟩) (fun _ _ h => h.1)).frameRN (mW (xy C) ma s)) gL_law_L_fine rfl rfl rfl (by decide +kernel) ⟨Nat.le_of_ble_eq_true rfl, Nat.le_of_ble_eq_true rfl⟩ rfl rfl (Nat.le_of_ble_eq_true rfl) dL_law_1545 ⟨by exact Nat.le_trans (Nat.add_le_add_left (Nat.le_of_ble_eq_true rfl) _) hmc, by exact Nat.le_trans (Nat.add_le_add_left (Nat.le_of_ble_eq_true rfl) _) hms⟩ (fun v w h9 => ?_)
  obtain ⟨w1, rfl, h9⟩ := h9
  rcases h9 with ⟨S', vv, x, rfl, rfl, hP, hcv⟩ | ⟨S', X, k, rfl, rfl, hXP, hec⟩
  · obtain ⟨c', ad', i', j', p', r', hI', hA', hn⟩ := nx_fine hI h hP
    show G C ((cW (xy C) S' ++ [oE (xy C) ob (vp_updL o 0 x)]) ++ mW (xy C) ma s) (mc + 1) (ms + 6) 1548 [(4, .int (nI q)), (3, .ref ob), (2, .ref (ma 0)), (1, .ref (ad 5 0)), (0, .ref b)] [.int 0]
    refine g_istore (L' := [(5, .int 0), (4, .int (nI q)), (3, .ref ob), (2, .ref (ma 0)), (1, .ref (ad 5 0)), (0, .ref b)]) E dL_law_1548 (by decide) rfl ?_
    refine g_aload_n E dL_law_1550 rfl 3 rfl ?_
    refine g_aload_n E dL_law_1551 rfl 5 rfl ?_
    refine g_iload E dL_law_1552 1 rfl ?_
    refine g_iconst (v := nI 1) E dL_law_1554 (by decide) ?_
    refine g_iadd E dL_law_1555 ?_
    refine g_sld E hX hbl hbA hL (q + 1) (nI_add q 1) (by omega) dL_law_1556 ?_
    refine g_invV (rm' := rm_X6_fine) (mc' := 0) (ms' := 0) (As := [.int (xv (q + 1))]) (rest := []) (n := 1) E (gMet.frameL (m_X6_fine (xl C) E.tr (xD C) (xy C) e0 h.1.2.2.2.2.2.1 h.b.2.1) (cW (xy C) S' ++ [oE (xy C) ob (vp_updL o 0 x)])) gL_law_X6_fine rfl rfl rfl (by decide +kernel) ⟨Nat.le_of_ble_eq_true rfl, Nat.le_of_ble_eq_true rfl⟩ _ 7 rfl rfl (app_r (k := 0) rfl) rfl rfl (Nat.le_of_ble_eq_true rfl) dL_law_1557 ⟨Nat.le_trans (show mc + 1 + 0 ≤ mc + 10 from Nat.add_le_add_left (Nat.le_of_ble_eq_true rfl) mc) hmc, Nat.le_trans (show ms + 6 + 0 ≤ ms + 4000 from Nat.add_le_add_left (Nat.le_of_ble_eq_true rfl) ms) hms⟩ (fun X9 w h9 => by obtain ⟨_, _, h9⟩ := h9; exact h9.elim) (fun v w h9 => ?_)
    obtain ⟨w1, rfl, s', rfl, hQ⟩ := h9
    obtain ⟨z, rfl⟩ := sh_fine hQ
    obtain ⟨h0, hv, hR⟩ := hn _ _ hQ
    show G C ((cW (xy C) S' ++ [oE (xy C) ob (vp_updL o 0 x)]) ++ mW (xy C) ma s') (mc + 1) (ms + 6) 1560 [(5, .int 0), (4, .int (nI q)), (3, .ref ob), (2, .ref (ma 0)), (1, .ref (ad 5 0)), (0, .ref b)] [.long z]
    refine g_lstore (L' := [(6, .long z), (5, .int 0), (4, .int (nI q)), (3, .ref ob), (2, .ref (ma 0)), (1, .ref (ad 5 0)), (0, .ref b)]) E dL_law_1560 (by decide) rfl ?_
    refine g_aload_n E dL_law_1562 rfl 4 rfl ?_
    refine g_invV (rm' := rm_X6_thrown) (mc' := 0) (ms' := 0) (As := []) (rest := []) (n := 0) E (gMet.frameL (m_X6_thrown (xl C) E.tr (xD C) (xy C) e0 (ma := ma) (s := s')) (cW (xy C) S' ++ [oE (xy C) ob (vp_updL o 0 x)])) gL_law_X6_thrown rfl rfl rfl (by decide +kernel) ⟨Nat.le_of_ble_eq_true rfl, Nat.le_of_ble_eq_true rfl⟩ _ 7 rfl rfl (app_r (k := 0) rfl) rfl rfl (Nat.le_of_ble_eq_true rfl) dL_law_1563 ⟨Nat.le_trans (show mc + 1 + 0 ≤ mc + 10 from Nat.add_le_add_left (Nat.le_of_ble_eq_true rfl) mc) hmc, Nat.le_trans (show ms + 6 + 0 ≤ ms + 4000 from Nat.add_le_add_left (Nat.le_of_ble_eq_true rfl) ms) hms⟩ (fun X9 w h9 => by obtain ⟨_, _, h9⟩ := h9; exact h9.elim) (fun v w h9 => ?_)
    obtain ⟨w1, rfl, s9, rfl, rfl, rfl⟩ := h9
    show G C ((cW (xy C) S' ++ [oE (xy C) ob (vp_updL o 0 x)]) ++ mW (xy C) ma s9) (mc + 1) (ms + 6) 1566 [(6, .long z), (5, .int 0), (4, .int (nI q)), (3, .ref ob), (2, .ref (ma 0)), (1, .ref (ad 5 0)), (0, .ref b)] [.int (mi s9 0)]
    refine g_iload E dL_law_1566 1 rfl ?_
    refine g_icmp_eq (tgt := 1573) E dL_law_1568 (by decide) (fun _ => ?_) (fun hz => absurd h0 hz)
    refine g_iload E dL_law_1573 1 rfl ?_
    refine g_if_ne (tgt := 1589) E dL_law_1575 (by decide) (fun hz => absurd rfl hz) (fun _ => ?_)
    refine g_aload_n E dL_law_1578 rfl 3 rfl ?_
    refine g_iconst (v := 0) E dL_law_1579 (by decide) ?_
    refine g_outld E dL_law_1580 ?_
    show G C ((cW (xy C) S' ++ [oE (xy C) ob (vp_updL o 0 x)]) ++ mW (xy C) ma s9) (mc + 1) (ms + 6) 1581 [(6, .long z), (5, .int 0), (4, .int (nI q)), (3, .ref ob), (2, .ref (ma 0)), (1, .ref (ad 5 0)), (0, .ref b)] [.long x]
    refine g_lload E dL_law_1581 0 rfl ?_
    have hxz : x = z := by have h5 := hv.trans hcv; injection h5 with h5; injection h5 with h5; exact h5.symm
    subst hxz
    refine g_lcmp E dL_law_1583 ?_
    refine g_if_eq (tgt := 1589) E dL_law_1584 (by decide) (fun _ => ?_) (fun hz => absurd ((lg_cmp_eq _ _).mpr rfl) hz)
    refine g_goto (tgt := 1647) E dL_law_1589 (by decide) ?_
    refine g_widen (mc' := mc + 10) (ms' := ms + 4000) (Nat.add_le_add_left (Nat.le_of_ble_eq_true rfl) _) (Nat.add_le_add_left (Nat.le_of_ble_eq_true rfl) _) ?_
    refine g_locals [(4, .int (nI q)), (3, .ref ob), (2, .ref (ma 0)), (1, .ref (ad 5 0)), (0, .ref b)] [2, 3, 4, 5, 6] rfl ?_
    exact kk _ ⟨S', _, _, c', ad', i', j', p', r', rfl, hI', hA', hR⟩
  · obtain ⟨hk0, c', ad', i', j', p', r', hI', hA', hn⟩ := xx_fine hI h hXP hec
    show G C ((cW (xy C) S' ++ [oE (xy C) ob o]) ++ mW (xy C) ma s) (mc + 1) (ms + 6) 1548 [(4, .int (nI q)), (3, .ref ob), (2, .ref (ma 0)), (1, .ref (ad 5 0)), (0, .ref b)] [.int k]
    refine g_istore (L' := [(5, .int k), (4, .int (nI q)), (3, .ref ob), (2, .ref (ma 0)), (1, .ref (ad 5 0)), (0, .ref b)]) E dL_law_1548 (by decide) rfl ?_
    refine g_aload_n E dL_law_1550 rfl 3 rfl ?_
    refine g_aload_n E dL_law_1551 rfl 5 rfl ?_
    refine g_iload E dL_law_1552 1 rfl ?_
    refine g_iconst (v := nI 1) E dL_law_1554 (by decide) ?_
    refine g_iadd E dL_law_1555 ?_
    refine g_sld E hX hbl hbA hL (q + 1) (nI_add q 1) (by omega) dL_law_1556 ?_
    refine g_invV (rm' := rm_X6_fine) (mc' := 0) (ms' := 0) (As := [.int (xv (q + 1))]) (rest := []) (n := 1) E (gMet.frameL (m_X6_fine (xl C) E.tr (xD C) (xy C) e0 h.1.2.2.2.2.2.1 h.b.2.1) (cW (xy C) S' ++ [oE (xy C) ob o])) gL_law_X6_fine rfl rfl rfl (by decide +kernel) ⟨Nat.le_of_ble_eq_true rfl, Nat.le_of_ble_eq_true rfl⟩ _ 7 rfl rfl (app_r (k := 0) rfl) rfl rfl (Nat.le_of_ble_eq_true rfl) dL_law_1557 ⟨Nat.le_trans (show mc + 1 + 0 ≤ mc + 10 from Nat.add_le_add_left (Nat.le_of_ble_eq_true rfl) mc) hmc, Nat.le_trans (show ms + 6 + 0 ≤ ms + 4000 from Nat.add_le_add_left (Nat.le_of_ble_eq_true rfl) ms) hms⟩ (fun X9 w h9 => by obtain ⟨_, _, h9⟩ := h9; exact h9.elim) (fun v w h9 => ?_)
    obtain ⟨w1, rfl, s', rfl, hQ⟩ := h9
    obtain ⟨z, rfl⟩ := sh_fine hQ
    obtain ⟨h0, hR⟩ := hn _ _ hQ
    show G C ((cW (xy C) S' ++ [oE (xy C) ob o]) ++ mW (xy C) ma s') (mc + 1) (ms + 6) 1560 [(5, .int k), (4, .int (nI q)), (3, .ref ob), (2, .ref (ma 0)), (1, .ref (ad 5 0)), (0, .ref b)] [.long z]
    refine g_lstore (L' := [(6, .long z), (5, .int k), (4, .int (nI q)), (3, .ref ob), (2, .ref (ma 0)), (1, .ref (ad 5 0)), (0, .ref b)]) E dL_law_1560 (by decide) rfl ?_
    refine g_aload_n E dL_law_1562 rfl 4 rfl ?_
    refine g_invV (rm' := rm_X6_thrown) (mc' := 0) (ms' := 0) (As := []) (rest := []) (n := 0) E (gMet.frameL (m_X6_thrown (xl C) E.tr (xD C) (xy C) e0 (ma := ma) (s := s')) (cW (xy C) S' ++ [oE (xy C) ob o])) gL_law_X6_thrown rfl rfl rfl (by decide +kernel) ⟨Nat.le_of_ble_eq_true rfl, Nat.le_of_ble_eq_true rfl⟩ _ 7 rfl rfl (app_r (k := 0) rfl) rfl rfl (Nat.le_of_ble_eq_true rfl) dL_law_1563 ⟨Nat.le_trans (show mc + 1 + 0 ≤ mc + 10 from Nat.add_le_add_left (Nat.le_of_ble_eq_true rfl) mc) hmc, Nat.le_trans (show ms + 6 + 0 ≤ ms + 4000 from Nat.add_le_add_left (Nat.le_of_ble_eq_true rfl) ms) hms⟩ (fun X9 w h9 => by obtain ⟨_, _, h9⟩ := h9; exact h9.elim) (fun v w h9 => ?_)
    obtain ⟨w1, rfl, s9, rfl, rfl, rfl⟩ := h9
    show G C ((cW (xy C) S' ++ [oE (xy C) ob o]) ++ mW (xy C) ma s9) (mc + 1) (ms + 6) 1566 [(6, .long z), (5, .int k), (4, .int (nI q)), (3, .ref ob), (2, .ref (ma 0)), (1, .ref (ad 5 0)), (0, .ref b)] [.int (mi s9 0)]
    refine g_iload E dL_law_1566 1 rfl ?_
    refine g_icmp_eq (tgt := 1573) E dL_law_1568 (by decide) (fun _ => ?_) (fun hz => absurd h0 hz)
    refine g_iload E dL_law_1573 1 rfl ?_
    refine g_if_ne (tgt := 1589) E dL_law_1575 (by decide) (fun _ => ?_) (fun hz => absurd hz hk0)
    refine g_goto (tgt := 1647) E dL_law_1589 (by decide) ?_
    refine g_widen (mc' := mc + 10) (ms' := ms + 4000) (Nat.add_le_add_left (Nat.le_of_ble_eq_true rfl) _) (Nat.add_le_add_left (Nat.le_of_ble_eq_true rfl) _) ?_
    refine g_locals [(4, .int (nI q)), (3, .ref ob), (2, .ref (ma 0)), (1, .ref (ad 5 0)), (0, .ref b)] [2, 3, 4, 5, 6] rfl ?_
    exact kk _ ⟨S', _, _, c', ad', i', j', p', r', rfl, hI', hA', hR⟩
set_option maxHeartbeats 4000000 in
set_option maxRecDepth 100000 in
theorem cs_fines (E : gOk C cL_law 8 wsL_law RL e0 room_1) (hX : va_X b Ln xv (xs C) (xs C).heap) (hbl : b < (xs C).heap.size) (hbA : ¬ xA C b) (hL : Ln ≤ 3584) (hq : q + 7 ≤ Ln) (hW : LV C e0 a ob ma W) (hmc : mc + 10 ≤ 601024) (hms : ms + 4000 ≤ 7293034) (kk : ∀ W', LV C e0 a ob ma W' → G C W' (mc + 10) (ms + 4000) 1647 [(4, .int (nI q)), (3, .ref ob), (2, .ref (ma 0)), (1, .ref a), (0, .ref b)] []) : G C W mc ms 1592 [(4, .int (nI q)), (3, .ref ob), (2, .ref (ma 0)), (1, .ref a), (0, .ref b)] [] := by
  obtain ⟨S, o, s, c, ad, i, j, p, r, rfl, hI, hA, M, N, h⟩ := hW
  subst hA
  refine g_aload_n E dL_law_1592 rfl 3 rfl ?_
  refine g_aload_n E dL_law_1593 rfl 4 rfl ?_
  refine g_iload E dL_law_1594 0 rfl ?_
  refine g_iconst (v := nI 1) E dL_law_1596 (by decide) ?_
  refine g_iadd E dL_law_1597 ?_
  refine g_sld E hX hbl hbA hL (q + 1) (nI_add q 1) (by omega) dL_law_1598 ?_
  refine g_aload_n E dL_law_1599 rfl 1 rfl ?_
  refine g_invSW (rm' := rm_L_fines) (mc' := 1) (ms' := 6) (As := [.ref (ad 5 0), .int (xv (q + 1)), .ref ob]) (rest := []) (n := 3) E ((w_fines (xl C) E.tr (xD C) (xy C) e0 (hI.obj (kd := 5) (by decide) hI.c5).1 (hI.obj (kd := 5) (by decide) hI.c5).2 (m_X5_fines (xl C) E.tr (xD C) (xy C) e0 hI) (fun v S' hP => by rcases hP with ⟨_, ⟨_, _, _, hv⟩⟩ <;> exact ⟨_, hv⟩) (fun _ _ h => h.1)).frameRN (mW (xy C) ma s)) gL_law_L_fines rfl rfl rfl (by decide +kernel) ⟨Nat.le_of_ble_eq_true rfl, Nat.le_of_ble_eq_true rfl⟩ rfl rfl (Nat.le_of_ble_eq_true rfl) dL_law_1600 ⟨by exact Nat.le_trans (Nat.add_le_add_left (Nat.le_of_ble_eq_true rfl) _) hmc, by exact Nat.le_trans (Nat.add_le_add_left (Nat.le_of_ble_eq_true rfl) _) hms⟩ (fun v w h9 => ?_)
  obtain ⟨w1, rfl, h9⟩ := h9
  rcases h9 with ⟨S', vv, x, rfl, rfl, hP, hcv⟩ | ⟨S', X, k, rfl, rfl, hXP, hec⟩
  · obtain ⟨c', ad', i', j', p', r', hI', hA', hn⟩ := nx_fines hI h hP
    show G C ((cW (xy C) S' ++ [oE (xy C) ob (vp_updL o 0 x)]) ++ mW (xy C) ma s) (mc + 1) (ms + 6) 1603 [(4, .int (nI q)), (3, .ref ob), (2, .ref (ma 0)), (1, .ref (ad 5 0)), (0, .ref b)] [.int 0]
    refine g_istore (L' := [(5, .int 0), (4, .int (nI q)), (3, .ref ob), (2, .ref (ma 0)), (1, .ref (ad 5 0)), (0, .ref b)]) E dL_law_1603 (by decide) rfl ?_
    refine g_aload_n E dL_law_1605 rfl 3 rfl ?_
    refine g_aload_n E dL_law_1606 rfl 5 rfl ?_
    refine g_iload E dL_law_1607 1 rfl ?_
    refine g_iconst (v := nI 1) E dL_law_1609 (by decide) ?_
    refine g_iadd E dL_law_1610 ?_
    refine g_sld E hX hbl hbA hL (q + 1) (nI_add q 1) (by omega) dL_law_1611 ?_
    refine g_invV (rm' := rm_X6_fines) (mc' := 0) (ms' := 0) (As := [.int (xv (q + 1))]) (rest := []) (n := 1) E (gMet.frameL (m_X6_fines (xl C) E.tr (xD C) (xy C) e0 h.1.2.2.2.2.2.1 h.b.2.1) (cW (xy C) S' ++ [oE (xy C) ob (vp_updL o 0 x)])) gL_law_X6_fines rfl rfl rfl (by decide +kernel) ⟨Nat.le_of_ble_eq_true rfl, Nat.le_of_ble_eq_true rfl⟩ _ 7 rfl rfl (app_r (k := 0) rfl) rfl rfl (Nat.le_of_ble_eq_true rfl) dL_law_1612 ⟨Nat.le_trans (show mc + 1 + 0 ≤ mc + 10 from Nat.add_le_add_left (Nat.le_of_ble_eq_true rfl) mc) hmc, Nat.le_trans (show ms + 6 + 0 ≤ ms + 4000 from Nat.add_le_add_left (Nat.le_of_ble_eq_true rfl) ms) hms⟩ (fun X9 w h9 => by obtain ⟨_, _, h9⟩ := h9; exact h9.elim) (fun v w h9 => ?_)
    obtain ⟨w1, rfl, s', rfl, hQ⟩ := h9
    obtain ⟨z, rfl⟩ := sh_fines hQ
    obtain ⟨h0, hv, hR⟩ := hn _ _ hQ
    show G C ((cW (xy C) S' ++ [oE (xy C) ob (vp_updL o 0 x)]) ++ mW (xy C) ma s') (mc + 1) (ms + 6) 1615 [(5, .int 0), (4, .int (nI q)), (3, .ref ob), (2, .ref (ma 0)), (1, .ref (ad 5 0)), (0, .ref b)] [.long z]
    refine g_lstore (L' := [(6, .long z), (5, .int 0), (4, .int (nI q)), (3, .ref ob), (2, .ref (ma 0)), (1, .ref (ad 5 0)), (0, .ref b)]) E dL_law_1615 (by decide) rfl ?_
    refine g_aload_n E dL_law_1617 rfl 4 rfl ?_
    refine g_invV (rm' := rm_X6_thrown) (mc' := 0) (ms' := 0) (As := []) (rest := []) (n := 0) E (gMet.frameL (m_X6_thrown (xl C) E.tr (xD C) (xy C) e0 (ma := ma) (s := s')) (cW (xy C) S' ++ [oE (xy C) ob (vp_updL o 0 x)])) gL_law_X6_thrown rfl rfl rfl (by decide +kernel) ⟨Nat.le_of_ble_eq_true rfl, Nat.le_of_ble_eq_true rfl⟩ _ 7 rfl rfl (app_r (k := 0) rfl) rfl rfl (Nat.le_of_ble_eq_true rfl) dL_law_1618 ⟨Nat.le_trans (show mc + 1 + 0 ≤ mc + 10 from Nat.add_le_add_left (Nat.le_of_ble_eq_true rfl) mc) hmc, Nat.le_trans (show ms + 6 + 0 ≤ ms + 4000 from Nat.add_le_add_left (Nat.le_of_ble_eq_true rfl) ms) hms⟩ (fun X9 w h9 => by obtain ⟨_, _, h9⟩ := h9; exact h9.elim) (fun v w h9 => ?_)
    obtain ⟨w1, rfl, s9, rfl, rfl, rfl⟩ := h9
    show G C ((cW (xy C) S' ++ [oE (xy C) ob (vp_updL o 0 x)]) ++ mW (xy C) ma s9) (mc + 1) (ms + 6) 1621 [(6, .long z), (5, .int 0), (4, .int (nI q)), (3, .ref ob), (2, .ref (ma 0)), (1, .ref (ad 5 0)), (0, .ref b)] [.int (mi s9 0)]
    refine g_iload E dL_law_1621 1 rfl ?_
    refine g_icmp_eq (tgt := 1628) E dL_law_1623 (by decide) (fun _ => ?_) (fun hz => absurd h0 hz)
    refine g_iload E dL_law_1628 1 rfl ?_
    refine g_if_ne (tgt := 1644) E dL_law_1630 (by decide) (fun hz => absurd rfl hz) (fun _ => ?_)
    refine g_aload_n E dL_law_1633 rfl 3 rfl ?_
    refine g_iconst (v := 0) E dL_law_1634 (by decide) ?_
    refine g_outld E dL_law_1635 ?_
    show G C ((cW (xy C) S' ++ [oE (xy C) ob (vp_updL o 0 x)]) ++ mW (xy C) ma s9) (mc + 1) (ms + 6) 1636 [(6, .long z), (5, .int 0), (4, .int (nI q)), (3, .ref ob), (2, .ref (ma 0)), (1, .ref (ad 5 0)), (0, .ref b)] [.long x]
    refine g_lload E dL_law_1636 0 rfl ?_
    have hxz : x = z := by have h5 := hv.trans hcv; injection h5 with h5; injection h5 with h5; exact h5.symm
    subst hxz
    refine g_lcmp E dL_law_1638 ?_
    refine g_if_eq (tgt := 1644) E dL_law_1639 (by decide) (fun _ => ?_) (fun hz => absurd ((lg_cmp_eq _ _).mpr rfl) hz)
    refine g_goto (tgt := 1647) E dL_law_1644 (by decide) ?_
    refine g_widen (mc' := mc + 10) (ms' := ms + 4000) (Nat.add_le_add_left (Nat.le_of_ble_eq_true rfl) _) (Nat.add_le_add_left (Nat.le_of_ble_eq_true rfl) _) ?_
    refine g_locals [(4, .int (nI q)), (3, .ref ob), (2, .ref (ma 0)), (1, .ref (ad 5 0)), (0, .ref b)] [2, 3, 4, 5, 6] rfl ?_
    exact kk _ ⟨S', _, _, c', ad', i', j', p', r', rfl, hI', hA', hR⟩
  · obtain ⟨hk0, c', ad', i', j', p', r', hI', hA', hn⟩ := xx_fines hI h hXP hec
    show G C ((cW (xy C) S' ++ [oE (xy C) ob o]) ++ mW (xy C) ma s) (mc + 1) (ms + 6) 1603 [(4, .int (nI q)), (3, .ref ob), (2, .ref (ma 0)), (1, .ref (ad 5 0)), (0, .ref b)] [.int k]
    refine g_istore (L' := [(5, .int k), (4, .int (nI q)), (3, .ref ob), (2, .ref (ma 0)), (1, .ref (ad 5 0)), (0, .ref b)]) E dL_law_1603 (by decide) rfl ?_
    refine g_aload_n E dL_law_1605 rfl 3 rfl ?_
    refine g_aload_n E dL_law_1606 rfl 5 rfl ?_
    refine g_iload E dL_law_1607 1 rfl ?_
    refine g_iconst (v := nI 1) E dL_law_1609 (by decide) ?_
    refine g_iadd E dL_law_1610 ?_
    refine g_sld E hX hbl hbA hL (q + 1) (nI_add q 1) (by omega) dL_law_1611 ?_
    refine g_invV (rm' := rm_X6_fines) (mc' := 0) (ms' := 0) (As := [.int (xv (q + 1))]) (rest := []) (n := 1) E (gMet.frameL (m_X6_fines (xl C) E.tr (xD C) (xy C) e0 h.1.2.2.2.2.2.1 h.b.2.1) (cW (xy C) S' ++ [oE (xy C) ob o])) gL_law_X6_fines rfl rfl rfl (by decide +kernel) ⟨Nat.le_of_ble_eq_true rfl, Nat.le_of_ble_eq_true rfl⟩ _ 7 rfl rfl (app_r (k := 0) rfl) rfl rfl (Nat.le_of_ble_eq_true rfl) dL_law_1612 ⟨Nat.le_trans (show mc + 1 + 0 ≤ mc + 10 from Nat.add_le_add_left (Nat.le_of_ble_eq_true rfl) mc) hmc, Nat.le_trans (show ms + 6 + 0 ≤ ms + 4000 from Nat.add_le_add_left (Nat.le_of_ble_eq_true rfl) ms) hms⟩ (fun X9 w h9 => by obtain ⟨_, _, h9⟩ := h9; exact h9.elim) (fun v w h9 => ?_)
    obtain ⟨w1, rfl, s', rfl, hQ⟩ := h9
    obtain ⟨z, rfl⟩ := sh_fines hQ
    obtain ⟨h0, hR⟩ := hn _ _ hQ
    show G C ((cW (xy C) S' ++ [oE (xy C) ob o]) ++ mW (xy C) ma s') (mc + 1) (ms + 6) 1615 [(5, .int k), (4, .int (nI q)), (3, .ref ob), (2, .ref (ma 0)), (1, .ref (ad 5 0)), (0, .ref b)] [.long z]
    refine g_lstore (L' := [(6, .long z), (5, .int k), (4, .int (nI q)), (3, .ref ob), (2, .ref (ma 0)), (1, .ref (ad 5 0)), (0, .ref b)]) E dL_law_1615 (by decide) rfl ?_
    refine g_aload_n E dL_law_1617 rfl 4 rfl ?_
    refine g_invV (rm' := rm_X6_thrown) (mc' := 0) (ms' := 0) (As := []) (rest := []) (n := 0) E (gMet.frameL (m_X6_thrown (xl C) E.tr (xD C) (xy C) e0 (ma := ma) (s := s')) (cW (xy C) S' ++ [oE (xy C) ob o])) gL_law_X6_thrown rfl rfl rfl (by decide +kernel) ⟨Nat.le_of_ble_eq_true rfl, Nat.le_of_ble_eq_true rfl⟩ _ 7 rfl rfl (app_r (k := 0) rfl) rfl rfl (Nat.le_of_ble_eq_true rfl) dL_law_1618 ⟨Nat.le_trans (show mc + 1 + 0 ≤ mc + 10 from Nat.add_le_add_left (Nat.le_of_ble_eq_true rfl) mc) hmc, Nat.le_trans (show ms + 6 + 0 ≤ ms + 4000 from Nat.add_le_add_left (Nat.le_of_ble_eq_true rfl) ms) hms⟩ (fun X9 w h9 => by obtain ⟨_, _, h9⟩ := h9; exact h9.elim) (fun v w h9 => ?_)
    obtain ⟨w1, rfl, s9, rfl, rfl, rfl⟩ := h9
    show G C ((cW (xy C) S' ++ [oE (xy C) ob o]) ++ mW (xy C) ma s9) (mc + 1) (ms + 6) 1621 [(6, .long z), (5, .int k), (4, .int (nI q)), (3, .ref ob), (2, .ref (ma 0)), (1, .ref (ad 5 0)), (0, .ref b)] [.int (mi s9 0)]
    refine g_iload E dL_law_1621 1 rfl ?_
    refine g_icmp_eq (tgt := 1628) E dL_law_1623 (by decide) (fun _ => ?_) (fun hz => absurd h0 hz)
    refine g_iload E dL_law_1628 1 rfl ?_
    refine g_if_ne (tgt := 1644) E dL_law_1630 (by decide) (fun _ => ?_) (fun hz => absurd hz hk0)
    refine g_goto (tgt := 1647) E dL_law_1644 (by decide) ?_
    refine g_widen (mc' := mc + 10) (ms' := ms + 4000) (Nat.add_le_add_left (Nat.le_of_ble_eq_true rfl) _) (Nat.add_le_add_left (Nat.le_of_ble_eq_true rfl) _) ?_
    refine g_locals [(4, .int (nI q)), (3, .ref ob), (2, .ref (ma 0)), (1, .ref (ad 5 0)), (0, .ref b)] [2, 3, 4, 5, 6] rfl ?_
    exact kk _ ⟨S', _, _, c', ad', i', j', p', r', rfl, hI', hA', hR⟩
end CS
