section CS
variable {C : gT} {e0 a ob b Ln q mc ms : Nat} {ma : Nat → Nat} {xv : Nat → Int32} {W : va_W}
set_option maxHeartbeats 4000000 in
set_option maxRecDepth 100000 in
theorem cs_minutes (E : gOk C cL_law 8 wsL_law RL e0 room_1) (hX : va_X b Ln xv (xs C) (xs C).heap) (hbl : b < (xs C).heap.size) (hbA : ¬ xA C b) (hL : Ln ≤ 3584) (hq : q + 7 ≤ Ln) (hW : LV C e0 a ob ma W) (hmc : mc + 10 ≤ 601024) (hms : ms + 4000 ≤ 7293034) (kk : ∀ W', LV C e0 a ob ma W' → G C W' (mc + 10) (ms + 4000) 1647 [(4, .int (nI q)), (3, .ref ob), (2, .ref (ma 0)), (1, .ref a), (0, .ref b)] []) : G C W mc ms 555 [(4, .int (nI q)), (3, .ref ob), (2, .ref (ma 0)), (1, .ref a), (0, .ref b)] [] := by
  obtain ⟨S, o, s, c, ad, i, j, p, r, rfl, hI, hA, M, N, h⟩ := hW
  subst hA
  refine g_aload_n E dL_law_555 rfl 3 rfl ?_
  refine g_aload_n E dL_law_556 rfl 4 rfl ?_
  refine g_iload E dL_law_557 0 rfl ?_
  refine g_iconst (v := nI 1) E dL_law_559 (by decide) ?_
  refine g_iadd E dL_law_560 ?_
  refine g_sld E hX hbl hbA hL (q + 1) (nI_add q 1) (by omega) dL_law_561 ?_
  refine g_aload_n E dL_law_562 rfl 1 rfl ?_
  refine g_invSW (rm' := rm_L_minutes) (mc' := 1) (ms' := 6) (As := [.ref (ad 5 0), .int (xv (q + 1)), .ref ob]) (rest := []) (n := 3) E ((w_minutes (xl C) E.tr (xD C) (xy C) e0 (hI.obj (kd := 5) (by decide) hI.c5).1 (hI.obj (kd := 5) (by decide) hI.c5).2 (m_X5_minutes (xl C) E.tr (xD C) (xy C) e0 hI) (fun v S' hP => by rcases hP with ⟨_, ⟨_, _, _, hv⟩⟩ <;> exact ⟨_, hv⟩) (fun _ _ h => h.1)).frameRN (mW (xy C) ma s)) gL_law_L_minutes rfl rfl rfl (by decide +kernel) ⟨Nat.le_of_ble_eq_true rfl, Nat.le_of_ble_eq_true rfl⟩ rfl rfl (Nat.le_of_ble_eq_true rfl) dL_law_563 ⟨by exact Nat.le_trans (Nat.add_le_add_left (Nat.le_of_ble_eq_true rfl) _) hmc, by exact Nat.le_trans (Nat.add_le_add_left (Nat.le_of_ble_eq_true rfl) _) hms⟩ (fun v w h9 => ?_)
  obtain ⟨w1, rfl, h9⟩ := h9
  rcases h9 with ⟨S', vv, x, rfl, rfl, hP, hcv⟩ | ⟨S', X, k, rfl, rfl, hXP, hec⟩
  · obtain ⟨c', ad', i', j', p', r', hI', hA', hn⟩ := nx_minutes hI h hP
    show G C ((cW (xy C) S' ++ [oE (xy C) ob (vp_updL o 0 x)]) ++ mW (xy C) ma s) (mc + 1) (ms + 6) 566 [(4, .int (nI q)), (3, .ref ob), (2, .ref (ma 0)), (1, .ref (ad 5 0)), (0, .ref b)] [.int 0]
    refine g_istore (L' := [(5, .int 0), (4, .int (nI q)), (3, .ref ob), (2, .ref (ma 0)), (1, .ref (ad 5 0)), (0, .ref b)]) E dL_law_566 (by decide) rfl ?_
    refine g_aload_n E dL_law_568 rfl 3 rfl ?_
    refine g_aload_n E dL_law_569 rfl 5 rfl ?_
    refine g_iload E dL_law_570 1 rfl ?_
    refine g_iconst (v := nI 1) E dL_law_572 (by decide) ?_
    refine g_iadd E dL_law_573 ?_
    refine g_sld E hX hbl hbA hL (q + 1) (nI_add q 1) (by omega) dL_law_574 ?_
    refine g_invV (rm' := rm_X6_minutes) (mc' := 0) (ms' := 0) (As := [.int (xv (q + 1))]) (rest := []) (n := 1) E (gMet.frameL (m_X6_minutes (xl C) E.tr (xD C) (xy C) e0 h.1.2.2.2.1 h.b.1) (cW (xy C) S' ++ [oE (xy C) ob (vp_updL o 0 x)])) gL_law_X6_minutes rfl rfl rfl (by decide +kernel) ⟨Nat.le_of_ble_eq_true rfl, Nat.le_of_ble_eq_true rfl⟩ _ 7 rfl rfl (app_r (k := 0) rfl) rfl rfl (Nat.le_of_ble_eq_true rfl) dL_law_575 ⟨Nat.le_trans (show mc + 1 + 0 ≤ mc + 10 from Nat.add_le_add_left (Nat.le_of_ble_eq_true rfl) mc) hmc, Nat.le_trans (show ms + 6 + 0 ≤ ms + 4000 from Nat.add_le_add_left (Nat.le_of_ble_eq_true rfl) ms) hms⟩ (fun X9 w h9 => by obtain ⟨_, _, h9⟩ := h9; exact h9.elim) (fun v w h9 => ?_)
    obtain ⟨w1, rfl, s', rfl, hQ⟩ := h9
    obtain ⟨z, rfl⟩ := sh_minutes hQ
    obtain ⟨h0, hv, hR⟩ := hn _ _ hQ
    show G C ((cW (xy C) S' ++ [oE (xy C) ob (vp_updL o 0 x)]) ++ mW (xy C) ma s') (mc + 1) (ms + 6) 578 [(5, .int 0), (4, .int (nI q)), (3, .ref ob), (2, .ref (ma 0)), (1, .ref (ad 5 0)), (0, .ref b)] [.long z]
    refine g_lstore (L' := [(6, .long z), (5, .int 0), (4, .int (nI q)), (3, .ref ob), (2, .ref (ma 0)), (1, .ref (ad 5 0)), (0, .ref b)]) E dL_law_578 (by decide) rfl ?_
    refine g_aload_n E dL_law_580 rfl 4 rfl ?_
    refine g_invV (rm' := rm_X6_thrown) (mc' := 0) (ms' := 0) (As := []) (rest := []) (n := 0) E (gMet.frameL (m_X6_thrown (xl C) E.tr (xD C) (xy C) e0 (ma := ma) (s := s')) (cW (xy C) S' ++ [oE (xy C) ob (vp_updL o 0 x)])) gL_law_X6_thrown rfl rfl rfl (by decide +kernel) ⟨Nat.le_of_ble_eq_true rfl, Nat.le_of_ble_eq_true rfl⟩ _ 7 rfl rfl (app_r (k := 0) rfl) rfl rfl (Nat.le_of_ble_eq_true rfl) dL_law_581 ⟨Nat.le_trans (show mc + 1 + 0 ≤ mc + 10 from Nat.add_le_add_left (Nat.le_of_ble_eq_true rfl) mc) hmc, Nat.le_trans (show ms + 6 + 0 ≤ ms + 4000 from Nat.add_le_add_left (Nat.le_of_ble_eq_true rfl) ms) hms⟩ (fun X9 w h9 => by obtain ⟨_, _, h9⟩ := h9; exact h9.elim) (fun v w h9 => ?_)
    obtain ⟨w1, rfl, s9, rfl, rfl, rfl⟩ := h9
    show G C ((cW (xy C) S' ++ [oE (xy C) ob (vp_updL o 0 x)]) ++ mW (xy C) ma s9) (mc + 1) (ms + 6) 584 [(6, .long z), (5, .int 0), (4, .int (nI q)), (3, .ref ob), (2, .ref (ma 0)), (1, .ref (ad 5 0)), (0, .ref b)] [.int (mi s9 0)]
    refine g_iload E dL_law_584 1 rfl ?_
    refine g_icmp_eq (tgt := 591) E dL_law_586 (by decide) (fun _ => ?_) (fun hz => absurd h0 hz)
    refine g_iload E dL_law_591 1 rfl ?_
    refine g_if_ne (tgt := 607) E dL_law_593 (by decide) (fun hz => absurd rfl hz) (fun _ => ?_)
    refine g_aload_n E dL_law_596 rfl 3 rfl ?_
    refine g_iconst (v := 0) E dL_law_597 (by decide) ?_
    refine g_outld E dL_law_598 ?_
    show G C ((cW (xy C) S' ++ [oE (xy C) ob (vp_updL o 0 x)]) ++ mW (xy C) ma s9) (mc + 1) (ms + 6) 599 [(6, .long z), (5, .int 0), (4, .int (nI q)), (3, .ref ob), (2, .ref (ma 0)), (1, .ref (ad 5 0)), (0, .ref b)] [.long x]
    refine g_lload E dL_law_599 0 rfl ?_
    have hxz : x = z := by have h5 := hv.trans hcv; injection h5 with h5; injection h5 with h5; exact h5.symm
    subst hxz
    refine g_lcmp E dL_law_601 ?_
    refine g_if_eq (tgt := 607) E dL_law_602 (by decide) (fun _ => ?_) (fun hz => absurd ((lg_cmp_eq _ _).mpr rfl) hz)
    refine g_goto (tgt := 1647) E dL_law_607 (by decide) ?_
    refine g_widen (mc' := mc + 10) (ms' := ms + 4000) (Nat.add_le_add_left (Nat.le_of_ble_eq_true rfl) _) (Nat.add_le_add_left (Nat.le_of_ble_eq_true rfl) _) ?_
    refine g_locals [(4, .int (nI q)), (3, .ref ob), (2, .ref (ma 0)), (1, .ref (ad 5 0)), (0, .ref b)] [2, 3, 4, 5, 6] rfl ?_
    exact kk _ ⟨S', _, _, c', ad', i', j', p', r', rfl, hI', hA', hR⟩
  · obtain ⟨hk0, c', ad', i', j', p', r', hI', hA', hn⟩ := xx_minutes hI h hXP hec
    show G C ((cW (xy C) S' ++ [oE (xy C) ob o]) ++ mW (xy C) ma s) (mc + 1) (ms + 6) 566 [(4, .int (nI q)), (3, .ref ob), (2, .ref (ma 0)), (1, .ref (ad 5 0)), (0, .ref b)] [.int k]
    refine g_istore (L' := [(5, .int k), (4, .int (nI q)), (3, .ref ob), (2, .ref (ma 0)), (1, .ref (ad 5 0)), (0, .ref b)]) E dL_law_566 (by decide) rfl ?_
    refine g_aload_n E dL_law_568 rfl 3 rfl ?_
    refine g_aload_n E dL_law_569 rfl 5 rfl ?_
    refine g_iload E dL_law_570 1 rfl ?_
    refine g_iconst (v := nI 1) E dL_law_572 (by decide) ?_
    refine g_iadd E dL_law_573 ?_
    refine g_sld E hX hbl hbA hL (q + 1) (nI_add q 1) (by omega) dL_law_574 ?_
    refine g_invV (rm' := rm_X6_minutes) (mc' := 0) (ms' := 0) (As := [.int (xv (q + 1))]) (rest := []) (n := 1) E (gMet.frameL (m_X6_minutes (xl C) E.tr (xD C) (xy C) e0 h.1.2.2.2.1 h.b.1) (cW (xy C) S' ++ [oE (xy C) ob o])) gL_law_X6_minutes rfl rfl rfl (by decide +kernel) ⟨Nat.le_of_ble_eq_true rfl, Nat.le_of_ble_eq_true rfl⟩ _ 7 rfl rfl (app_r (k := 0) rfl) rfl rfl (Nat.le_of_ble_eq_true rfl) dL_law_575 ⟨Nat.le_trans (show mc + 1 + 0 ≤ mc + 10 from Nat.add_le_add_left (Nat.le_of_ble_eq_true rfl) mc) hmc, Nat.le_trans (show ms + 6 + 0 ≤ ms + 4000 from Nat.add_le_add_left (Nat.le_of_ble_eq_true rfl) ms) hms⟩ (fun X9 w h9 => by obtain ⟨_, _, h9⟩ := h9; exact h9.elim) (fun v w h9 => ?_)
    obtain ⟨w1, rfl, s', rfl, hQ⟩ := h9
    obtain ⟨z, rfl⟩ := sh_minutes hQ
    obtain ⟨h0, hR⟩ := hn _ _ hQ
    show G C ((cW (xy C) S' ++ [oE (xy C) ob o]) ++ mW (xy C) ma s') (mc + 1) (ms + 6) 578 [(5, .int k), (4, .int (nI q)), (3, .ref ob), (2, .ref (ma 0)), (1, .ref (ad 5 0)), (0, .ref b)] [.long z]
    refine g_lstore (L' := [(6, .long z), (5, .int k), (4, .int (nI q)), (3, .ref ob), (2, .ref (ma 0)), (1, .ref (ad 5 0)), (0, .ref b)]) E dL_law_578 (by decide) rfl ?_
    refine g_aload_n E dL_law_580 rfl 4 rfl ?_
    refine g_invV (rm' := rm_X6_thrown) (mc' := 0) (ms' := 0) (As := []) (rest := []) (n := 0) E (gMet.frameL (m_X6_thrown (xl C) E.tr (xD C) (xy C) e0 (ma := ma) (s := s')) (cW (xy C) S' ++ [oE (xy C) ob o])) gL_law_X6_thrown rfl rfl rfl (by decide +kernel) ⟨Nat.le_of_ble_eq_true rfl, Nat.le_of_ble_eq_true rfl⟩ _ 7 rfl rfl (app_r (k := 0) rfl) rfl rfl (Nat.le_of_ble_eq_true rfl) dL_law_581 ⟨Nat.le_trans (show mc + 1 + 0 ≤ mc + 10 from Nat.add_le_add_left (Nat.le_of_ble_eq_true rfl) mc) hmc, Nat.le_trans (show ms + 6 + 0 ≤ ms + 4000 from Nat.add_le_add_left (Nat.le_of_ble_eq_true rfl) ms) hms⟩ (fun X9 w h9 => by obtain ⟨_, _, h9⟩ := h9; exact h9.elim) (fun v w h9 => ?_)
    obtain ⟨w1, rfl, s9, rfl, rfl, rfl⟩ := h9
    show G C ((cW (xy C) S' ++ [oE (xy C) ob o]) ++ mW (xy C) ma s9) (mc + 1) (ms + 6) 584 [(6, .long z), (5, .int k), (4, .int (nI q)), (3, .ref ob), (2, .ref (ma 0)), (1, .ref (ad 5 0)), (0, .ref b)] [.int (mi s9 0)]
    refine g_iload E dL_law_584 1 rfl ?_
    refine g_icmp_eq (tgt := 591) E dL_law_586 (by decide) (fun _ => ?_) (fun hz => absurd h0 hz)
    refine g_iload E dL_law_591 1 rfl ?_
    refine g_if_ne (tgt := 607) E dL_law_593 (by decide) (fun _ => ?_) (fun hz => absurd hz hk0)
    refine g_goto (tgt := 1647) E dL_law_607 (by decide) ?_
    refine g_widen (mc' := mc + 10) (ms' := ms + 4000) (Nat.add_le_add_left (Nat.le_of_ble_eq_true rfl) _) (Nat.add_le_add_left (Nat.le_of_ble_eq_true rfl) _) ?_
    refine g_locals [(4, .int (nI q)), (3, .ref ob), (2, .ref (ma 0)), (1, .ref (ad 5 0)), (0, .ref b)] [2, 3, 4, 5, 6] rfl ?_
    exact kk _ ⟨S', _, _, c', ad', i', j', p', r', rfl, hI', hA', hR⟩
set_option maxHeartbeats 4000000 in
set_option maxRecDepth 100000 in
theorem cs_minutesAnew (E : gOk C cL_law 8 wsL_law RL e0 room_1) (hX : va_X b Ln xv (xs C) (xs C).heap) (hbl : b < (xs C).heap.size) (hbA : ¬ xA C b) (hL : Ln ≤ 3584) (hq : q + 7 ≤ Ln) (hW : LV C e0 a ob ma W) (hmc : mc + 10 ≤ 601024) (hms : ms + 4000 ≤ 7293034) (kk : ∀ W', LV C e0 a ob ma W' → G C W' (mc + 10) (ms + 4000) 1647 [(4, .int (nI q)), (3, .ref ob), (2, .ref (ma 0)), (1, .ref a), (0, .ref b)] []) : G C W mc ms 610 [(4, .int (nI q)), (3, .ref ob), (2, .ref (ma 0)), (1, .ref a), (0, .ref b)] [] := by
  obtain ⟨S, o, s, c, ad, i, j, p, r, rfl, hI, hA, M, N, h⟩ := hW
  subst hA
  refine g_aload_n E dL_law_610 rfl 3 rfl ?_
  refine g_aload_n E dL_law_611 rfl 4 rfl ?_
  refine g_iload E dL_law_612 0 rfl ?_
  refine g_iconst (v := nI 1) E dL_law_614 (by decide) ?_
  refine g_iadd E dL_law_615 ?_
  refine g_sld E hX hbl hbA hL (q + 1) (nI_add q 1) (by omega) dL_law_616 ?_
  refine g_aload_n E dL_law_617 rfl 1 rfl ?_
  refine g_invSW (rm' := rm_L_minutesAnew) (mc' := 1) (ms' := 6) (As := [.ref (ad 5 0), .int (xv (q + 1)), .ref ob]) (rest := []) (n := 3) E ((w_minutesAnew (xl C) E.tr (xD C) (xy C) e0 (hI.obj (kd := 5) (by decide) hI.c5).1 (hI.obj (kd := 5) (by decide) hI.c5).2 (m_X5_minutesAnew (xl C) E.tr (xD C) (xy C) e0 hI h.1.1 h.b.2.2.2.1 h.ln.lns h.wv h.li.li) (fun v S' hP => by rcases hP with ⟨_, _, _, ⟨_, _, _, _, ⟨_, _, _, _, _, hv⟩⟩⟩ <;> exact ⟨_, hv⟩) (fun _ _ h => h.1)).frameRN (mW (xy C) ma s)) gL_law_L_minutesAnew rfl rfl rfl (by decide +kernel) ⟨Nat.le_of_ble_eq_true rfl, Nat.le_of_ble_eq_true rfl⟩ rfl rfl (Nat.le_of_ble_eq_true rfl) dL_law_618 ⟨by exact Nat.le_trans (Nat.add_le_add_left (Nat.le_of_ble_eq_true rfl) _) hmc, by exact Nat.le_trans (Nat.add_le_add_left (Nat.le_of_ble_eq_true rfl) _) hms⟩ (fun v w h9 => ?_)
  obtain ⟨w1, rfl, h9⟩ := h9
  rcases h9 with ⟨S', vv, x, rfl, rfl, hP, hcv⟩ | ⟨S', X, k, rfl, rfl, hXP, hec⟩
  · obtain ⟨c', ad', i', j', p', r', hI', hA', hn⟩ := nx_minutesAnew hI h hP
    show G C ((cW (xy C) S' ++ [oE (xy C) ob (vp_updL o 0 x)]) ++ mW (xy C) ma s) (mc + 1) (ms + 6) 621 [(4, .int (nI q)), (3, .ref ob), (2, .ref (ma 0)), (1, .ref (ad 5 0)), (0, .ref b)] [.int 0]
    refine g_istore (L' := [(5, .int 0), (4, .int (nI q)), (3, .ref ob), (2, .ref (ma 0)), (1, .ref (ad 5 0)), (0, .ref b)]) E dL_law_621 (by decide) rfl ?_
    refine g_aload_n E dL_law_623 rfl 3 rfl ?_
    refine g_aload_n E dL_law_624 rfl 5 rfl ?_
    refine g_iload E dL_law_625 1 rfl ?_
    refine g_iconst (v := nI 1) E dL_law_627 (by decide) ?_
    refine g_iadd E dL_law_628 ?_
    refine g_sld E hX hbl hbA hL (q + 1) (nI_add q 1) (by omega) dL_law_629 ?_
    refine g_invV (rm' := rm_X6_minutesAnew) (mc' := 0) (ms' := 0) (As := [.int (xv (q + 1))]) (rest := []) (n := 1) E (gMet.frameL (m_X6_minutesAnew (xl C) E.tr (xD C) (xy C) e0 h.1.2.2.2.1 h.b.1) (cW (xy C) S' ++ [oE (xy C) ob (vp_updL o 0 x)])) gL_law_X6_minutesAnew rfl rfl rfl (by decide +kernel) ⟨Nat.le_of_ble_eq_true rfl, Nat.le_of_ble_eq_true rfl⟩ _ 7 rfl rfl (app_r (k := 0) rfl) rfl rfl (Nat.le_of_ble_eq_true rfl) dL_law_630 ⟨Nat.le_trans (show mc + 1 + 0 ≤ mc + 10 from Nat.add_le_add_left (Nat.le_of_ble_eq_true rfl) mc) hmc, Nat.le_trans (show ms + 6 + 0 ≤ ms + 4000 from Nat.add_le_add_left (Nat.le_of_ble_eq_true rfl) ms) hms⟩ (fun X9 w h9 => by obtain ⟨_, _, h9⟩ := h9; exact h9.elim) (fun v w h9 => ?_)
    obtain ⟨w1, rfl, s', rfl, hQ⟩ := h9
    obtain ⟨z, rfl⟩ := sh_minutesAnew hQ
    obtain ⟨h0, hv, hR⟩ := hn _ _ hQ
    show G C ((cW (xy C) S' ++ [oE (xy C) ob (vp_updL o 0 x)]) ++ mW (xy C) ma s') (mc + 1) (ms + 6) 633 [(5, .int 0), (4, .int (nI q)), (3, .ref ob), (2, .ref (ma 0)), (1, .ref (ad 5 0)), (0, .ref b)] [.long z]
    refine g_lstore (L' := [(6, .long z), (5, .int 0), (4, .int (nI q)), (3, .ref ob), (2, .ref (ma 0)), (1, .ref (ad 5 0)), (0, .ref b)]) E dL_law_633 (by decide) rfl ?_
    refine g_aload_n E dL_law_635 rfl 4 rfl ?_
    refine g_invV (rm' := rm_X6_thrown) (mc' := 0) (ms' := 0) (As := []) (rest := []) (n := 0) E (gMet.frameL (m_X6_thrown (xl C) E.tr (xD C) (xy C) e0 (ma := ma) (s := s')) (cW (xy C) S' ++ [oE (xy C) ob (vp_updL o 0 x)])) gL_law_X6_thrown rfl rfl rfl (by decide +kernel) ⟨Nat.le_of_ble_eq_true rfl, Nat.le_of_ble_eq_true rfl⟩ _ 7 rfl rfl (app_r (k := 0) rfl) rfl rfl (Nat.le_of_ble_eq_true rfl) dL_law_636 ⟨Nat.le_trans (show mc + 1 + 0 ≤ mc + 10 from Nat.add_le_add_left (Nat.le_of_ble_eq_true rfl) mc) hmc, Nat.le_trans (show ms + 6 + 0 ≤ ms + 4000 from Nat.add_le_add_left (Nat.le_of_ble_eq_true rfl) ms) hms⟩ (fun X9 w h9 => by obtain ⟨_, _, h9⟩ := h9; exact h9.elim) (fun v w h9 => ?_)
    obtain ⟨w1, rfl, s9, rfl, rfl, rfl⟩ := h9
    show G C ((cW (xy C) S' ++ [oE (xy C) ob (vp_updL o 0 x)]) ++ mW (xy C) ma s9) (mc + 1) (ms + 6) 639 [(6, .long z), (5, .int 0), (4, .int (nI q)), (3, .ref ob), (2, .ref (ma 0)), (1, .ref (ad 5 0)), (0, .ref b)] [.int (mi s9 0)]
    refine g_iload E dL_law_639 1 rfl ?_
    refine g_icmp_eq (tgt := 646) E dL_law_641 (by decide) (fun _ => ?_) (fun hz => absurd h0 hz)
    refine g_iload E dL_law_646 1 rfl ?_
    refine g_if_ne (tgt := 662) E dL_law_648 (by decide) (fun hz => absurd rfl hz) (fun _ => ?_)
    refine g_aload_n E dL_law_651 rfl 3 rfl ?_
    refine g_iconst (v := 0) E dL_law_652 (by decide) ?_
    refine g_outld E dL_law_653 ?_
    show G C ((cW (xy C) S' ++ [oE (xy C) ob (vp_updL o 0 x)]) ++ mW (xy C) ma s9) (mc + 1) (ms + 6) 654 [(6, .long z), (5, .int 0), (4, .int (nI q)), (3, .ref ob), (2, .ref (ma 0)), (1, .ref (ad 5 0)), (0, .ref b)] [.long x]
    refine g_lload E dL_law_654 0 rfl ?_
    have hxz : x = z := by have h5 := hv.trans hcv; injection h5 with h5; injection h5 with h5; exact h5.symm
    subst hxz
    refine g_lcmp E dL_law_656 ?_
    refine g_if_eq (tgt := 662) E dL_law_657 (by decide) (fun _ => ?_) (fun hz => absurd ((lg_cmp_eq _ _).mpr rfl) hz)
    refine g_goto (tgt := 1647) E dL_law_662 (by decide) ?_
    refine g_widen (mc' := mc + 10) (ms' := ms + 4000) (Nat.add_le_add_left (Nat.le_of_ble_eq_true rfl) _) (Nat.add_le_add_left (Nat.le_of_ble_eq_true rfl) _) ?_
    refine g_locals [(4, .int (nI q)), (3, .ref ob), (2, .ref (ma 0)), (1, .ref (ad 5 0)), (0, .ref b)] [2, 3, 4, 5, 6] rfl ?_
    exact kk _ ⟨S', _, _, c', ad', i', j', p', r', rfl, hI', hA', hR⟩
  · obtain ⟨hk0, c', ad', i', j', p', r', hI', hA', hn⟩ := xx_minutesAnew hI h hXP hec
    show G C ((cW (xy C) S' ++ [oE (xy C) ob o]) ++ mW (xy C) ma s) (mc + 1) (ms + 6) 621 [(4, .int (nI q)), (3, .ref ob), (2, .ref (ma 0)), (1, .ref (ad 5 0)), (0, .ref b)] [.int k]
    refine g_istore (L' := [(5, .int k), (4, .int (nI q)), (3, .ref ob), (2, .ref (ma 0)), (1, .ref (ad 5 0)), (0, .ref b)]) E dL_law_621 (by decide) rfl ?_
    refine g_aload_n E dL_law_623 rfl 3 rfl ?_
    refine g_aload_n E dL_law_624 rfl 5 rfl ?_
    refine g_iload E dL_law_625 1 rfl ?_
    refine g_iconst (v := nI 1) E dL_law_627 (by decide) ?_
    refine g_iadd E dL_law_628 ?_
    refine g_sld E hX hbl hbA hL (q + 1) (nI_add q 1) (by omega) dL_law_629 ?_
    refine g_invV (rm' := rm_X6_minutesAnew) (mc' := 0) (ms' := 0) (As := [.int (xv (q + 1))]) (rest := []) (n := 1) E (gMet.frameL (m_X6_minutesAnew (xl C) E.tr (xD C) (xy C) e0 h.1.2.2.2.1 h.b.1) (cW (xy C) S' ++ [oE (xy C) ob o])) gL_law_X6_minutesAnew rfl rfl rfl (by decide +kernel) ⟨Nat.le_of_ble_eq_true rfl, Nat.le_of_ble_eq_true rfl⟩ _ 7 rfl rfl (app_r (k := 0) rfl) rfl rfl (Nat.le_of_ble_eq_true rfl) dL_law_630 ⟨Nat.le_trans (show mc + 1 + 0 ≤ mc + 10 from Nat.add_le_add_left (Nat.le_of_ble_eq_true rfl) mc) hmc, Nat.le_trans (show ms + 6 + 0 ≤ ms + 4000 from Nat.add_le_add_left (Nat.le_of_ble_eq_true rfl) ms) hms⟩ (fun X9 w h9 => by obtain ⟨_, _, h9⟩ := h9; exact h9.elim) (fun v w h9 => ?_)
    obtain ⟨w1, rfl, s', rfl, hQ⟩ := h9
    obtain ⟨z, rfl⟩ := sh_minutesAnew hQ
    obtain ⟨h0, hR⟩ := hn _ _ hQ
    show G C ((cW (xy C) S' ++ [oE (xy C) ob o]) ++ mW (xy C) ma s') (mc + 1) (ms + 6) 633 [(5, .int k), (4, .int (nI q)), (3, .ref ob), (2, .ref (ma 0)), (1, .ref (ad 5 0)), (0, .ref b)] [.long z]
    refine g_lstore (L' := [(6, .long z), (5, .int k), (4, .int (nI q)), (3, .ref ob), (2, .ref (ma 0)), (1, .ref (ad 5 0)), (0, .ref b)]) E dL_law_633 (by decide) rfl ?_
    refine g_aload_n E dL_law_635 rfl 4 rfl ?_
    refine g_invV (rm' := rm_X6_thrown) (mc' := 0) (ms' := 0) (As := []) (rest := []) (n := 0) E (gMet.frameL (m_X6_thrown (xl C) E.tr (xD C) (xy C) e0 (ma := ma) (s := s')) (cW (xy C) S' ++ [oE (xy C) ob o])) gL_law_X6_thrown rfl rfl rfl (by decide +kernel) ⟨Nat.le_of_ble_eq_true rfl, Nat.le_of_ble_eq_true rfl⟩ _ 7 rfl rfl (app_r (k := 0) rfl) rfl rfl (Nat.le_of_ble_eq_true rfl) dL_law_636 ⟨Nat.le_trans (show mc + 1 + 0 ≤ mc + 10 from Nat.add_le_add_left (Nat.le_of_ble_eq_true rfl) mc) hmc, Nat.le_trans (show ms + 6 + 0 ≤ ms + 4000 from Nat.add_le_add_left (Nat.le_of_ble_eq_true rfl) ms) hms⟩ (fun X9 w h9 => by obtain ⟨_, _, h9⟩ := h9; exact h9.elim) (fun v w h9 => ?_)
    obtain ⟨w1, rfl, s9, rfl, rfl, rfl⟩ := h9
    show G C ((cW (xy C) S' ++ [oE (xy C) ob o]) ++ mW (xy C) ma s9) (mc + 1) (ms + 6) 639 [(6, .long z), (5, .int k), (4, .int (nI q)), (3, .ref ob), (2, .ref (ma 0)), (1, .ref (ad 5 0)), (0, .ref b)] [.int (mi s9 0)]
    refine g_iload E dL_law_639 1 rfl ?_
    refine g_icmp_eq (tgt := 646) E dL_law_641 (by decide) (fun _ => ?_) (fun hz => absurd h0 hz)
    refine g_iload E dL_law_646 1 rfl ?_
    refine g_if_ne (tgt := 662) E dL_law_648 (by decide) (fun _ => ?_) (fun hz => absurd hz hk0)
    refine g_goto (tgt := 1647) E dL_law_662 (by decide) ?_
    refine g_widen (mc' := mc + 10) (ms' := ms + 4000) (Nat.add_le_add_left (Nat.le_of_ble_eq_true rfl) _) (Nat.add_le_add_left (Nat.le_of_ble_eq_true rfl) _) ?_
    refine g_locals [(4, .int (nI q)), (3, .ref ob), (2, .ref (ma 0)), (1, .ref (ad 5 0)), (0, .ref b)] [2, 3, 4, 5, 6] rfl ?_
    exact kk _ ⟨S', _, _, c', ad', i', j', p', r', rfl, hI', hA', hR⟩
set_option maxHeartbeats 4000000 in
set_option maxRecDepth 100000 in
theorem cs_apply (E : gOk C cL_law 8 wsL_law RL e0 room_1) (hX : va_X b Ln xv (xs C) (xs C).heap) (hbl : b < (xs C).heap.size) (hbA : ¬ xA C b) (hL : Ln ≤ 3584) (hq : q + 7 ≤ Ln) (hW : LV C e0 a ob ma W) (hmc : mc + 10 ≤ 601024) (hms : ms + 4000 ≤ 7293034) (kk : ∀ W', LV C e0 a ob ma W' → G C W' (mc + 10) (ms + 4000) 1647 [(4, .int (nI q)), (3, .ref ob), (2, .ref (ma 0)), (1, .ref a), (0, .ref b)] []) : G C W mc ms 665 [(4, .int (nI q)), (3, .ref ob), (2, .ref (ma 0)), (1, .ref a), (0, .ref b)] [] := by
  obtain ⟨S, o, s, c, ad, i, j, p, r, rfl, hI, hA, M, N, h⟩ := hW
  subst hA
  obtain ⟨ur, hur⟩ : ∃ u : Int32, u = if xv (q + 6) = 0 then 0 else 1 := ⟨_, rfl⟩
  have hu : ur = 0 ∨ ur = 1 := by rw [hur]; split; exact Or.inl rfl; exact Or.inr rfl
  refine g_aload_n E dL_law_665 rfl 3 rfl ?_
  refine g_aload_n E dL_law_666 rfl 4 rfl ?_
  refine g_iload E dL_law_667 0 rfl ?_
  refine g_iconst (v := nI 1) E dL_law_669 (by decide) ?_
  refine g_iadd E dL_law_670 ?_
  refine g_sld E hX hbl hbA hL (q + 1) (nI_add q 1) (by omega) dL_law_671 ?_
  refine g_aload_n E dL_law_672 rfl 4 rfl ?_
  refine g_iload E dL_law_673 0 rfl ?_
  refine g_iconst (v := nI 2) E dL_law_675 (by decide) ?_
  refine g_iadd E dL_law_676 ?_
  refine g_sld E hX hbl hbA hL (q + 2) (nI_add q 2) (by omega) dL_law_677 ?_
  refine g_aload_n E dL_law_678 rfl 4 rfl ?_
  refine g_iload E dL_law_679 0 rfl ?_
  refine g_iconst (v := nI 3) E dL_law_681 (by decide) ?_
  refine g_iadd E dL_law_682 ?_
  refine g_sld E hX hbl hbA hL (q + 3) (nI_add q 3) (by omega) dL_law_683 ?_
  refine g_aload_n E dL_law_684 rfl 4 rfl ?_
  refine g_iload E dL_law_685 0 rfl ?_
  refine g_iconst (v := nI 4) E dL_law_687 (by decide) ?_
  refine g_iadd E dL_law_688 ?_
  refine g_sld E hX hbl hbA hL (q + 4) (nI_add q 4) (by omega) dL_law_689 ?_
  refine g_aload_n E dL_law_690 rfl 4 rfl ?_
  refine g_iload E dL_law_691 0 rfl ?_
  refine g_iconst (v := nI 5) E dL_law_693 (by decide) ?_
  refine g_iadd E dL_law_694 ?_
  refine g_sld E hX hbl hbA hL (q + 5) (nI_add q 5) (by omega) dL_law_695 ?_
  refine g_aload_n E dL_law_696 rfl 4 rfl ?_
  refine g_iload E dL_law_697 0 rfl ?_
  refine g_bipush (v := nI 6) E dL_law_699 (by decide) ?_
  refine g_iadd E dL_law_701 ?_
  refine g_sld E hX hbl hbA hL (q + 6) (nI_add q 6) (by omega) dL_law_702 ?_
  have key711 : G C ((cW (xy C) S ++ [oE (xy C) ob o]) ++ mW (xy C) ma s) (mc) (ms) 711 [(4, .int (nI q)), (3, .ref ob), (2, .ref (ma 0)), (1, .ref (ad 5 0)), (0, .ref b)] [.int ur, .int (xv (q + 5)), .int (xv (q + 4)), .int (xv (q + 3)), .int (xv (q + 2)), .int (xv (q + 1)), .ref (ad 5 0)] := by
    refine g_aload_n E dL_law_711 rfl 1 rfl ?_
    refine g_invSW (rm' := rm_L_apply) (mc' := 10) (ms' := 2100) (As := [.ref (ad 5 0), .int (xv (q + 1)), .int (xv (q + 2)), .int (xv (q + 3)), .int (xv (q + 4)), .int (xv (q + 5)), .int ur, .ref ob]) (rest := []) (n := 8) E ((w_apply (xl C) E.tr (xD C) (xy C) e0 (hI.obj (kd := 5) (by decide) hI.c5).1 (hI.obj (kd := 5) (by decide) hI.c5).2 (m_X5_apply (xl C) E.tr (xD C) (xy C) e0 hI hu h.1.1 h.b.2.2.2.1 (by have := h.b.2.1; have := h.b.2.2.1; omega)) (fun v S' hP => by rcases hP with ⟨_, _, _, _, _, _, _, _, _, _, hv, _⟩ <;> exact ⟨_, hv⟩) (fun _ _ h => h.elim (fun h => Or.inl h.1) (fun h => h.elim (fun h => Or.inr (Or.inl h.1)) (fun h => Or.inr (Or.inr h.1))))).frameRN (mW (xy C) ma s)) gL_law_L_apply rfl rfl rfl (by decide +kernel) ⟨Nat.le_of_ble_eq_true rfl, Nat.le_of_ble_eq_true rfl⟩ rfl rfl (Nat.le_of_ble_eq_true rfl) dL_law_712 ⟨by exact Nat.le_trans (Nat.add_le_add_left (Nat.le_of_ble_eq_true rfl) _) hmc, by exact Nat.le_trans (Nat.add_le_add_left (Nat.le_of_ble_eq_true rfl) _) hms⟩ (fun v w h9 => ?_)
    obtain ⟨w1, rfl, h9⟩ := h9
    rcases h9 with ⟨S', vv, x, rfl, rfl, hP, hcv⟩ | ⟨S', X, k, rfl, rfl, hXP, hec⟩
    · obtain ⟨c', ad', i', j', p', r', hI', hA', hn⟩ := nx_apply hI h hP
      show G C ((cW (xy C) S' ++ [oE (xy C) ob (vp_updL o 0 x)]) ++ mW (xy C) ma s) (mc + 10) (ms + 2100) 715 [(4, .int (nI q)), (3, .ref ob), (2, .ref (ma 0)), (1, .ref (ad 5 0)), (0, .ref b)] [.int 0]
      refine g_istore (L' := [(5, .int 0), (4, .int (nI q)), (3, .ref ob), (2, .ref (ma 0)), (1, .ref (ad 5 0)), (0, .ref b)]) E dL_law_715 (by decide) rfl ?_
      refine g_aload_n E dL_law_717 rfl 3 rfl ?_
      refine g_aload_n E dL_law_718 rfl 5 rfl ?_
      refine g_iload E dL_law_719 1 rfl ?_
      refine g_iconst (v := nI 1) E dL_law_721 (by decide) ?_
      refine g_iadd E dL_law_722 ?_
      refine g_sld E hX hbl hbA hL (q + 1) (nI_add q 1) (by omega) dL_law_723 ?_
      refine g_aload_n E dL_law_724 rfl 5 rfl ?_
      refine g_iload E dL_law_725 1 rfl ?_
      refine g_iconst (v := nI 2) E dL_law_727 (by decide) ?_
      refine g_iadd E dL_law_728 ?_
      refine g_sld E hX hbl hbA hL (q + 2) (nI_add q 2) (by omega) dL_law_729 ?_
      refine g_aload_n E dL_law_730 rfl 5 rfl ?_
      refine g_iload E dL_law_731 1 rfl ?_
      refine g_iconst (v := nI 3) E dL_law_733 (by decide) ?_
      refine g_iadd E dL_law_734 ?_
      refine g_sld E hX hbl hbA hL (q + 3) (nI_add q 3) (by omega) dL_law_735 ?_
      refine g_aload_n E dL_law_736 rfl 5 rfl ?_
      refine g_iload E dL_law_737 1 rfl ?_
      refine g_iconst (v := nI 4) E dL_law_739 (by decide) ?_
      refine g_iadd E dL_law_740 ?_
      refine g_sld E hX hbl hbA hL (q + 4) (nI_add q 4) (by omega) dL_law_741 ?_
      refine g_aload_n E dL_law_742 rfl 5 rfl ?_
      refine g_iload E dL_law_743 1 rfl ?_
      refine g_iconst (v := nI 5) E dL_law_745 (by decide) ?_
      refine g_iadd E dL_law_746 ?_
      refine g_sld E hX hbl hbA hL (q + 5) (nI_add q 5) (by omega) dL_law_747 ?_
      refine g_aload_n E dL_law_748 rfl 5 rfl ?_
      refine g_iload E dL_law_749 1 rfl ?_
      refine g_bipush (v := nI 6) E dL_law_751 (by decide) ?_
      refine g_iadd E dL_law_753 ?_
      refine g_sld E hX hbl hbA hL (q + 6) (nI_add q 6) (by omega) dL_law_754 ?_
      have key763 : G C ((cW (xy C) S' ++ [oE (xy C) ob (vp_updL o 0 x)]) ++ mW (xy C) ma s) (mc + 10) (ms + 2100) 763 [(5, .int 0), (4, .int (nI q)), (3, .ref ob), (2, .ref (ma 0)), (1, .ref (ad 5 0)), (0, .ref b)] [.int ur, .int (xv (q + 5)), .int (xv (q + 4)), .int (xv (q + 3)), .int (xv (q + 2)), .int (xv (q + 1)), .ref (ma 0)] := by
        refine g_invV (rm' := rm_X6_apply) (mc' := 0) (ms' := 0) (As := [.int (xv (q + 1)), .int (xv (q + 2)), .int (xv (q + 3)), .int (xv (q + 4)), .int (xv (q + 5)), .int ur]) (rest := []) (n := 6) E (gMet.frameL (m_X6_apply (xl C) E.tr (xD C) (xy C) e0 h.1.2.2.2.2.2.1 h.b.2.1 h.1.2.1 h.b.2.2.2.1 h.1.2.2.2.2.2.2.2.1 (by have := h.b.2.1; have := h.b.2.2.1; omega) (h.pm.hop h.b.2.2.1 h.b.2.1) hu) (cW (xy C) S' ++ [oE (xy C) ob (vp_updL o 0 x)])) gL_law_X6_apply rfl rfl rfl (by decide +kernel) ⟨Nat.le_of_ble_eq_true rfl, Nat.le_of_ble_eq_true rfl⟩ _ 7 rfl rfl (app_r (k := 0) rfl) rfl rfl (Nat.le_of_ble_eq_true rfl) dL_law_763 ⟨Nat.le_trans (show mc + 10 + 0 ≤ mc + 10 from Nat.add_le_add_left (Nat.le_of_ble_eq_true rfl) mc) hmc, Nat.le_trans (show ms + 2100 + 0 ≤ ms + 4000 from Nat.add_le_add_left (Nat.le_of_ble_eq_true rfl) ms) hms⟩ (fun X9 w h9 => by obtain ⟨_, _, h9⟩ := h9; exact h9.elim) (fun v w h9 => ?_)
        obtain ⟨w1, rfl, s', rfl, hQ⟩ := h9
        obtain ⟨z, rfl⟩ := sh_apply hQ
        obtain ⟨h0, hv, hR⟩ := hn _ _ hQ
        show G C ((cW (xy C) S' ++ [oE (xy C) ob (vp_updL o 0 x)]) ++ mW (xy C) ma s') (mc + 10) (ms + 2100) 766 [(5, .int 0), (4, .int (nI q)), (3, .ref ob), (2, .ref (ma 0)), (1, .ref (ad 5 0)), (0, .ref b)] [.int z]
        refine g_istore (L' := [(6, .int z), (5, .int 0), (4, .int (nI q)), (3, .ref ob), (2, .ref (ma 0)), (1, .ref (ad 5 0)), (0, .ref b)]) E dL_law_766 (by decide) rfl ?_
        refine g_aload_n E dL_law_768 rfl 4 rfl ?_
        refine g_invV (rm' := rm_X6_thrown) (mc' := 0) (ms' := 0) (As := []) (rest := []) (n := 0) E (gMet.frameL (m_X6_thrown (xl C) E.tr (xD C) (xy C) e0 (ma := ma) (s := s')) (cW (xy C) S' ++ [oE (xy C) ob (vp_updL o 0 x)])) gL_law_X6_thrown rfl rfl rfl (by decide +kernel) ⟨Nat.le_of_ble_eq_true rfl, Nat.le_of_ble_eq_true rfl⟩ _ 7 rfl rfl (app_r (k := 0) rfl) rfl rfl (Nat.le_of_ble_eq_true rfl) dL_law_769 ⟨Nat.le_trans (show mc + 10 + 0 ≤ mc + 10 from Nat.add_le_add_left (Nat.le_of_ble_eq_true rfl) mc) hmc, Nat.le_trans (show ms + 2100 + 0 ≤ ms + 4000 from Nat.add_le_add_left (Nat.le_of_ble_eq_true rfl) ms) hms⟩ (fun X9 w h9 => by obtain ⟨_, _, h9⟩ := h9; exact h9.elim) (fun v w h9 => ?_)
        obtain ⟨w1, rfl, s9, rfl, rfl, rfl⟩ := h9
        show G C ((cW (xy C) S' ++ [oE (xy C) ob (vp_updL o 0 x)]) ++ mW (xy C) ma s9) (mc + 10) (ms + 2100) 772 [(6, .int z), (5, .int 0), (4, .int (nI q)), (3, .ref ob), (2, .ref (ma 0)), (1, .ref (ad 5 0)), (0, .ref b)] [.int (mi s9 0)]
        refine g_iload E dL_law_772 1 rfl ?_
        refine g_icmp_eq (tgt := 779) E dL_law_774 (by decide) (fun _ => ?_) (fun hz => absurd h0 hz)
        refine g_iload E dL_law_779 1 rfl ?_
        refine g_if_ne (tgt := 796) E dL_law_781 (by decide) (fun hz => absurd rfl hz) (fun _ => ?_)
        refine g_aload_n E dL_law_784 rfl 3 rfl ?_
        refine g_iconst (v := 0) E dL_law_785 (by decide) ?_
        refine g_outld E dL_law_786 ?_
        show G C ((cW (xy C) S' ++ [oE (xy C) ob (vp_updL o 0 x)]) ++ mW (xy C) ma s9) (mc + 10) (ms + 2100) 787 [(6, .int z), (5, .int 0), (4, .int (nI q)), (3, .ref ob), (2, .ref (ma 0)), (1, .ref (ad 5 0)), (0, .ref b)] [.long x]
        refine g_iload E dL_law_787 0 rfl ?_
        refine g_i2l E dL_law_789 ?_
        have hxz : x = z.toInt64 := by obtain ⟨z0, h4, h6⟩ := hcv; have h5 := hv.trans h4; injection h5 with h5; injection h5 with h5; rw [h6, h5]
        refine g_lcmp E dL_law_790 ?_
        refine g_if_eq (tgt := 796) E dL_law_791 (by decide) (fun _ => ?_) (fun hz => absurd ((lg_cmp_eq _ _).mpr hxz) hz)
        refine g_goto (tgt := 1647) E dL_law_796 (by decide) ?_
        refine g_widen (mc' := mc + 10) (ms' := ms + 4000) (Nat.add_le_add_left (Nat.le_of_ble_eq_true rfl) _) (Nat.add_le_add_left (Nat.le_of_ble_eq_true rfl) _) ?_
        refine g_locals [(4, .int (nI q)), (3, .ref ob), (2, .ref (ma 0)), (1, .ref (ad 5 0)), (0, .ref b)] [2, 3, 4, 5, 6] rfl ?_
        exact kk _ ⟨S', _, _, c', ad', i', j', p', r', rfl, hI', hA', hR⟩
      refine g_if_eq (tgt := 762) E dL_law_755 (by decide) (fun hz => ?_) (fun hz => ?_)
      · refine g_iconst (v := ur) E dL_law_762 (by rw [hur, if_pos hz]; decide) ?_
        exact key763
      · refine g_iconst (v := ur) E dL_law_758 (by rw [hur, if_neg hz]; decide) ?_
        refine g_goto (tgt := 763) E dL_law_759 (by decide) ?_
        exact key763
    · obtain ⟨hk0, c', ad', i', j', p', r', hI', hA', hn⟩ := xx_apply hI h hXP hec
      show G C ((cW (xy C) S' ++ [oE (xy C) ob o]) ++ mW (xy C) ma s) (mc + 10) (ms + 2100) 715 [(4, .int (nI q)), (3, .ref ob), (2, .ref (ma 0)), (1, .ref (ad 5 0)), (0, .ref b)] [.int k]
      refine g_istore (L' := [(5, .int k), (4, .int (nI q)), (3, .ref ob), (2, .ref (ma 0)), (1, .ref (ad 5 0)), (0, .ref b)]) E dL_law_715 (by decide) rfl ?_
      refine g_aload_n E dL_law_717 rfl 3 rfl ?_
      refine g_aload_n E dL_law_718 rfl 5 rfl ?_
      refine g_iload E dL_law_719 1 rfl ?_
      refine g_iconst (v := nI 1) E dL_law_721 (by decide) ?_
      refine g_iadd E dL_law_722 ?_
      refine g_sld E hX hbl hbA hL (q + 1) (nI_add q 1) (by omega) dL_law_723 ?_
      refine g_aload_n E dL_law_724 rfl 5 rfl ?_
      refine g_iload E dL_law_725 1 rfl ?_
      refine g_iconst (v := nI 2) E dL_law_727 (by decide) ?_
      refine g_iadd E dL_law_728 ?_
      refine g_sld E hX hbl hbA hL (q + 2) (nI_add q 2) (by omega) dL_law_729 ?_
      refine g_aload_n E dL_law_730 rfl 5 rfl ?_
      refine g_iload E dL_law_731 1 rfl ?_
      refine g_iconst (v := nI 3) E dL_law_733 (by decide) ?_
      refine g_iadd E dL_law_734 ?_
      refine g_sld E hX hbl hbA hL (q + 3) (nI_add q 3) (by omega) dL_law_735 ?_
      refine g_aload_n E dL_law_736 rfl 5 rfl ?_
      refine g_iload E dL_law_737 1 rfl ?_
      refine g_iconst (v := nI 4) E dL_law_739 (by decide) ?_
      refine g_iadd E dL_law_740 ?_
      refine g_sld E hX hbl hbA hL (q + 4) (nI_add q 4) (by omega) dL_law_741 ?_
      refine g_aload_n E dL_law_742 rfl 5 rfl ?_
      refine g_iload E dL_law_743 1 rfl ?_
      refine g_iconst (v := nI 5) E dL_law_745 (by decide) ?_
      refine g_iadd E dL_law_746 ?_
      refine g_sld E hX hbl hbA hL (q + 5) (nI_add q 5) (by omega) dL_law_747 ?_
      refine g_aload_n E dL_law_748 rfl 5 rfl ?_
      refine g_iload E dL_law_749 1 rfl ?_
      refine g_bipush (v := nI 6) E dL_law_751 (by decide) ?_
      refine g_iadd E dL_law_753 ?_
      refine g_sld E hX hbl hbA hL (q + 6) (nI_add q 6) (by omega) dL_law_754 ?_
      have key763 : G C ((cW (xy C) S' ++ [oE (xy C) ob o]) ++ mW (xy C) ma s) (mc + 10) (ms + 2100) 763 [(5, .int k), (4, .int (nI q)), (3, .ref ob), (2, .ref (ma 0)), (1, .ref (ad 5 0)), (0, .ref b)] [.int ur, .int (xv (q + 5)), .int (xv (q + 4)), .int (xv (q + 3)), .int (xv (q + 2)), .int (xv (q + 1)), .ref (ma 0)] := by
        refine g_invV (rm' := rm_X6_apply) (mc' := 0) (ms' := 0) (As := [.int (xv (q + 1)), .int (xv (q + 2)), .int (xv (q + 3)), .int (xv (q + 4)), .int (xv (q + 5)), .int ur]) (rest := []) (n := 6) E (gMet.frameL (m_X6_apply (xl C) E.tr (xD C) (xy C) e0 h.1.2.2.2.2.2.1 h.b.2.1 h.1.2.1 h.b.2.2.2.1 h.1.2.2.2.2.2.2.2.1 (by have := h.b.2.1; have := h.b.2.2.1; omega) (h.pm.hop h.b.2.2.1 h.b.2.1) hu) (cW (xy C) S' ++ [oE (xy C) ob o])) gL_law_X6_apply rfl rfl rfl (by decide +kernel) ⟨Nat.le_of_ble_eq_true rfl, Nat.le_of_ble_eq_true rfl⟩ _ 7 rfl rfl (app_r (k := 0) rfl) rfl rfl (Nat.le_of_ble_eq_true rfl) dL_law_763 ⟨Nat.le_trans (show mc + 10 + 0 ≤ mc + 10 from Nat.add_le_add_left (Nat.le_of_ble_eq_true rfl) mc) hmc, Nat.le_trans (show ms + 2100 + 0 ≤ ms + 4000 from Nat.add_le_add_left (Nat.le_of_ble_eq_true rfl) ms) hms⟩ (fun X9 w h9 => by obtain ⟨_, _, h9⟩ := h9; exact h9.elim) (fun v w h9 => ?_)
        obtain ⟨w1, rfl, s', rfl, hQ⟩ := h9
        obtain ⟨z, rfl⟩ := sh_apply hQ
        obtain ⟨h0, hR⟩ := hn _ _ hQ
        show G C ((cW (xy C) S' ++ [oE (xy C) ob o]) ++ mW (xy C) ma s') (mc + 10) (ms + 2100) 766 [(5, .int k), (4, .int (nI q)), (3, .ref ob), (2, .ref (ma 0)), (1, .ref (ad 5 0)), (0, .ref b)] [.int z]
        refine g_istore (L' := [(6, .int z), (5, .int k), (4, .int (nI q)), (3, .ref ob), (2, .ref (ma 0)), (1, .ref (ad 5 0)), (0, .ref b)]) E dL_law_766 (by decide) rfl ?_
        refine g_aload_n E dL_law_768 rfl 4 rfl ?_
        refine g_invV (rm' := rm_X6_thrown) (mc' := 0) (ms' := 0) (As := []) (rest := []) (n := 0) E (gMet.frameL (m_X6_thrown (xl C) E.tr (xD C) (xy C) e0 (ma := ma) (s := s')) (cW (xy C) S' ++ [oE (xy C) ob o])) gL_law_X6_thrown rfl rfl rfl (by decide +kernel) ⟨Nat.le_of_ble_eq_true rfl, Nat.le_of_ble_eq_true rfl⟩ _ 7 rfl rfl (app_r (k := 0) rfl) rfl rfl (Nat.le_of_ble_eq_true rfl) dL_law_769 ⟨Nat.le_trans (show mc + 10 + 0 ≤ mc + 10 from Nat.add_le_add_left (Nat.le_of_ble_eq_true rfl) mc) hmc, Nat.le_trans (show ms + 2100 + 0 ≤ ms + 4000 from Nat.add_le_add_left (Nat.le_of_ble_eq_true rfl) ms) hms⟩ (fun X9 w h9 => by obtain ⟨_, _, h9⟩ := h9; exact h9.elim) (fun v w h9 => ?_)
        obtain ⟨w1, rfl, s9, rfl, rfl, rfl⟩ := h9
        show G C ((cW (xy C) S' ++ [oE (xy C) ob o]) ++ mW (xy C) ma s9) (mc + 10) (ms + 2100) 772 [(6, .int z), (5, .int k), (4, .int (nI q)), (3, .ref ob), (2, .ref (ma 0)), (1, .ref (ad 5 0)), (0, .ref b)] [.int (mi s9 0)]
        refine g_iload E dL_law_772 1 rfl ?_
        refine g_icmp_eq (tgt := 779) E dL_law_774 (by decide) (fun _ => ?_) (fun hz => absurd h0 hz)
        refine g_iload E dL_law_779 1 rfl ?_
        refine g_if_ne (tgt := 796) E dL_law_781 (by decide) (fun _ => ?_) (fun hz => absurd hz hk0)
        refine g_goto (tgt := 1647) E dL_law_796 (by decide) ?_
        refine g_widen (mc' := mc + 10) (ms' := ms + 4000) (Nat.add_le_add_left (Nat.le_of_ble_eq_true rfl) _) (Nat.add_le_add_left (Nat.le_of_ble_eq_true rfl) _) ?_
        refine g_locals [(4, .int (nI q)), (3, .ref ob), (2, .ref (ma 0)), (1, .ref (ad 5 0)), (0, .ref b)] [2, 3, 4, 5, 6] rfl ?_
        exact kk _ ⟨S', _, _, c', ad', i', j', p', r', rfl, hI', hA', hR⟩
      refine g_if_eq (tgt := 762) E dL_law_755 (by decide) (fun hz => ?_) (fun hz => ?_)
      · refine g_iconst (v := ur) E dL_law_762 (by rw [hur, if_pos hz]; decide) ?_
        exact key763
      · refine g_iconst (v := ur) E dL_law_758 (by rw [hur, if_neg hz]; decide) ?_
        refine g_goto (tgt := 763) E dL_law_759 (by decide) ?_
        exact key763
  refine g_if_eq (tgt := 710) E dL_law_703 (by decide) (fun hz => ?_) (fun hz => ?_)
  · refine g_iconst (v := ur) E dL_law_710 (by rw [hur, if_pos hz]; decide) ?_
    exact key711
  · refine g_iconst (v := ur) E dL_law_706 (by rw [hur, if_neg hz]; decide) ?_
    refine g_goto (tgt := 711) E dL_law_707 (by decide) ?_
    exact key711
set_option maxHeartbeats 4000000 in
set_option maxRecDepth 100000 in
theorem cs_withdraw (E : gOk C cL_law 8 wsL_law RL e0 room_1) (hX : va_X b Ln xv (xs C) (xs C).heap) (hbl : b < (xs C).heap.size) (hbA : ¬ xA C b) (hL : Ln ≤ 3584) (hq : q + 7 ≤ Ln) (hW : LV C e0 a ob ma W) (hmc : mc + 10 ≤ 601024) (hms : ms + 4000 ≤ 7293034) (kk : ∀ W', LV C e0 a ob ma W' → G C W' (mc + 10) (ms + 4000) 1647 [(4, .int (nI q)), (3, .ref ob), (2, .ref (ma 0)), (1, .ref a), (0, .ref b)] []) : G C W mc ms 799 [(4, .int (nI q)), (3, .ref ob), (2, .ref (ma 0)), (1, .ref a), (0, .ref b)] [] := by
  obtain ⟨S, o, s, c, ad, i, j, p, r, rfl, hI, hA, M, N, h⟩ := hW
  subst hA
  refine g_aload_n E dL_law_799 rfl 3 rfl ?_
  refine g_aload_n E dL_law_800 rfl 4 rfl ?_
  refine g_iload E dL_law_801 0 rfl ?_
  refine g_iconst (v := nI 1) E dL_law_803 (by decide) ?_
  refine g_iadd E dL_law_804 ?_
  refine g_sld E hX hbl hbA hL (q + 1) (nI_add q 1) (by omega) dL_law_805 ?_
  refine g_aload_n E dL_law_806 rfl 1 rfl ?_
  refine g_invSW (rm' := rm_L_withdraw) (mc' := 2) (ms' := 12) (As := [.ref (ad 5 0), .int (xv (q + 1)), .ref ob]) (rest := []) (n := 3) E ((w_withdraw (xl C) E.tr (xD C) (xy C) e0 (hI.obj (kd := 5) (by decide) hI.c5).1 (hI.obj (kd := 5) (by decide) hI.c5).2 (m_X5_withdraw (xl C) E.tr (xD C) (xy C) e0 hI) (fun v S' hP => by rcases hP with ⟨_, _, _, _, ⟨_, _, hv, _⟩⟩ <;> exact ⟨_, hv⟩) (fun _ _ h => h.elim (fun h => Or.inl h.1) (fun h => Or.inr h.1))).frameRN (mW (xy C) ma s)) gL_law_L_withdraw rfl rfl rfl (by decide +kernel) ⟨Nat.le_of_ble_eq_true rfl, Nat.le_of_ble_eq_true rfl⟩ rfl rfl (Nat.le_of_ble_eq_true rfl) dL_law_807 ⟨by exact Nat.le_trans (Nat.add_le_add_left (Nat.le_of_ble_eq_true rfl) _) hmc, by exact Nat.le_trans (Nat.add_le_add_left (Nat.le_of_ble_eq_true rfl) _) hms⟩ (fun v w h9 => ?_)
  obtain ⟨w1, rfl, h9⟩ := h9
  rcases h9 with ⟨S', vv, x, rfl, rfl, hP, hcv⟩ | ⟨S', X, k, rfl, rfl, hXP, hec⟩
  · obtain ⟨c', ad', i', j', p', r', hI', hA', hn⟩ := nx_withdraw hI h hP
    show G C ((cW (xy C) S' ++ [oE (xy C) ob (vp_updL o 0 x)]) ++ mW (xy C) ma s) (mc + 2) (ms + 12) 810 [(4, .int (nI q)), (3, .ref ob), (2, .ref (ma 0)), (1, .ref (ad 5 0)), (0, .ref b)] [.int 0]
    refine g_istore (L' := [(5, .int 0), (4, .int (nI q)), (3, .ref ob), (2, .ref (ma 0)), (1, .ref (ad 5 0)), (0, .ref b)]) E dL_law_810 (by decide) rfl ?_
    refine g_aload_n E dL_law_812 rfl 3 rfl ?_
    refine g_aload_n E dL_law_813 rfl 5 rfl ?_
    refine g_iload E dL_law_814 1 rfl ?_
    refine g_iconst (v := nI 1) E dL_law_816 (by decide) ?_
    refine g_iadd E dL_law_817 ?_
    refine g_sld E hX hbl hbA hL (q + 1) (nI_add q 1) (by omega) dL_law_818 ?_
    refine g_invV (rm' := rm_X6_withdraw) (mc' := 0) (ms' := 0) (As := [.int (xv (q + 1))]) (rest := []) (n := 1) E (gMet.frameL (m_X6_withdraw (xl C) E.tr (xD C) (xy C) e0 h.1.2.2.2.2.2.1 h.b.2.1 (h.pm.hnd h.b.2.1)) (cW (xy C) S' ++ [oE (xy C) ob (vp_updL o 0 x)])) gL_law_X6_withdraw rfl rfl rfl (by decide +kernel) ⟨Nat.le_of_ble_eq_true rfl, Nat.le_of_ble_eq_true rfl⟩ _ 7 rfl rfl (app_r (k := 0) rfl) rfl rfl (Nat.le_of_ble_eq_true rfl) dL_law_819 ⟨Nat.le_trans (show mc + 2 + 0 ≤ mc + 10 from Nat.add_le_add_left (Nat.le_of_ble_eq_true rfl) mc) hmc, Nat.le_trans (show ms + 12 + 0 ≤ ms + 4000 from Nat.add_le_add_left (Nat.le_of_ble_eq_true rfl) ms) hms⟩ (fun X9 w h9 => by obtain ⟨_, _, h9⟩ := h9; exact h9.elim) (fun v w h9 => ?_)
    obtain ⟨w1, rfl, s', rfl, hQ⟩ := h9
    obtain ⟨z, rfl⟩ := sh_withdraw hQ
    obtain ⟨h0, hv, hR⟩ := hn _ _ hQ
    show G C ((cW (xy C) S' ++ [oE (xy C) ob (vp_updL o 0 x)]) ++ mW (xy C) ma s') (mc + 2) (ms + 12) 822 [(5, .int 0), (4, .int (nI q)), (3, .ref ob), (2, .ref (ma 0)), (1, .ref (ad 5 0)), (0, .ref b)] [.int z]
    refine g_istore (L' := [(6, .int z), (5, .int 0), (4, .int (nI q)), (3, .ref ob), (2, .ref (ma 0)), (1, .ref (ad 5 0)), (0, .ref b)]) E dL_law_822 (by decide) rfl ?_
    refine g_aload_n E dL_law_824 rfl 4 rfl ?_
    refine g_invV (rm' := rm_X6_thrown) (mc' := 0) (ms' := 0) (As := []) (rest := []) (n := 0) E (gMet.frameL (m_X6_thrown (xl C) E.tr (xD C) (xy C) e0 (ma := ma) (s := s')) (cW (xy C) S' ++ [oE (xy C) ob (vp_updL o 0 x)])) gL_law_X6_thrown rfl rfl rfl (by decide +kernel) ⟨Nat.le_of_ble_eq_true rfl, Nat.le_of_ble_eq_true rfl⟩ _ 7 rfl rfl (app_r (k := 0) rfl) rfl rfl (Nat.le_of_ble_eq_true rfl) dL_law_825 ⟨Nat.le_trans (show mc + 2 + 0 ≤ mc + 10 from Nat.add_le_add_left (Nat.le_of_ble_eq_true rfl) mc) hmc, Nat.le_trans (show ms + 12 + 0 ≤ ms + 4000 from Nat.add_le_add_left (Nat.le_of_ble_eq_true rfl) ms) hms⟩ (fun X9 w h9 => by obtain ⟨_, _, h9⟩ := h9; exact h9.elim) (fun v w h9 => ?_)
    obtain ⟨w1, rfl, s9, rfl, rfl, rfl⟩ := h9
    show G C ((cW (xy C) S' ++ [oE (xy C) ob (vp_updL o 0 x)]) ++ mW (xy C) ma s9) (mc + 2) (ms + 12) 828 [(6, .int z), (5, .int 0), (4, .int (nI q)), (3, .ref ob), (2, .ref (ma 0)), (1, .ref (ad 5 0)), (0, .ref b)] [.int (mi s9 0)]
    refine g_iload E dL_law_828 1 rfl ?_
    refine g_icmp_eq (tgt := 835) E dL_law_830 (by decide) (fun _ => ?_) (fun hz => absurd h0 hz)
    refine g_iload E dL_law_835 1 rfl ?_
    refine g_if_ne (tgt := 852) E dL_law_837 (by decide) (fun hz => absurd rfl hz) (fun _ => ?_)
    refine g_aload_n E dL_law_840 rfl 3 rfl ?_
    refine g_iconst (v := 0) E dL_law_841 (by decide) ?_
    refine g_outld E dL_law_842 ?_
    show G C ((cW (xy C) S' ++ [oE (xy C) ob (vp_updL o 0 x)]) ++ mW (xy C) ma s9) (mc + 2) (ms + 12) 843 [(6, .int z), (5, .int 0), (4, .int (nI q)), (3, .ref ob), (2, .ref (ma 0)), (1, .ref (ad 5 0)), (0, .ref b)] [.long x]
    refine g_iload E dL_law_843 0 rfl ?_
    refine g_i2l E dL_law_845 ?_
    have hxz : x = z.toInt64 := by obtain ⟨z0, h4, h6⟩ := hcv; have h5 := hv.trans h4; injection h5 with h5; injection h5 with h5; rw [h6, h5]
    refine g_lcmp E dL_law_846 ?_
    refine g_if_eq (tgt := 852) E dL_law_847 (by decide) (fun _ => ?_) (fun hz => absurd ((lg_cmp_eq _ _).mpr hxz) hz)
    refine g_goto (tgt := 1647) E dL_law_852 (by decide) ?_
    refine g_widen (mc' := mc + 10) (ms' := ms + 4000) (Nat.add_le_add_left (Nat.le_of_ble_eq_true rfl) _) (Nat.add_le_add_left (Nat.le_of_ble_eq_true rfl) _) ?_
    refine g_locals [(4, .int (nI q)), (3, .ref ob), (2, .ref (ma 0)), (1, .ref (ad 5 0)), (0, .ref b)] [2, 3, 4, 5, 6] rfl ?_
    exact kk _ ⟨S', _, _, c', ad', i', j', p', r', rfl, hI', hA', hR⟩
  · obtain ⟨hk0, c', ad', i', j', p', r', hI', hA', hn⟩ := xx_withdraw hI h hXP hec
    show G C ((cW (xy C) S' ++ [oE (xy C) ob o]) ++ mW (xy C) ma s) (mc + 2) (ms + 12) 810 [(4, .int (nI q)), (3, .ref ob), (2, .ref (ma 0)), (1, .ref (ad 5 0)), (0, .ref b)] [.int k]
    refine g_istore (L' := [(5, .int k), (4, .int (nI q)), (3, .ref ob), (2, .ref (ma 0)), (1, .ref (ad 5 0)), (0, .ref b)]) E dL_law_810 (by decide) rfl ?_
    refine g_aload_n E dL_law_812 rfl 3 rfl ?_
    refine g_aload_n E dL_law_813 rfl 5 rfl ?_
    refine g_iload E dL_law_814 1 rfl ?_
    refine g_iconst (v := nI 1) E dL_law_816 (by decide) ?_
    refine g_iadd E dL_law_817 ?_
    refine g_sld E hX hbl hbA hL (q + 1) (nI_add q 1) (by omega) dL_law_818 ?_
    refine g_invV (rm' := rm_X6_withdraw) (mc' := 0) (ms' := 0) (As := [.int (xv (q + 1))]) (rest := []) (n := 1) E (gMet.frameL (m_X6_withdraw (xl C) E.tr (xD C) (xy C) e0 h.1.2.2.2.2.2.1 h.b.2.1 (h.pm.hnd h.b.2.1)) (cW (xy C) S' ++ [oE (xy C) ob o])) gL_law_X6_withdraw rfl rfl rfl (by decide +kernel) ⟨Nat.le_of_ble_eq_true rfl, Nat.le_of_ble_eq_true rfl⟩ _ 7 rfl rfl (app_r (k := 0) rfl) rfl rfl (Nat.le_of_ble_eq_true rfl) dL_law_819 ⟨Nat.le_trans (show mc + 2 + 0 ≤ mc + 10 from Nat.add_le_add_left (Nat.le_of_ble_eq_true rfl) mc) hmc, Nat.le_trans (show ms + 12 + 0 ≤ ms + 4000 from Nat.add_le_add_left (Nat.le_of_ble_eq_true rfl) ms) hms⟩ (fun X9 w h9 => by obtain ⟨_, _, h9⟩ := h9; exact h9.elim) (fun v w h9 => ?_)
    obtain ⟨w1, rfl, s', rfl, hQ⟩ := h9
    obtain ⟨z, rfl⟩ := sh_withdraw hQ
    obtain ⟨h0, hR⟩ := hn _ _ hQ
    show G C ((cW (xy C) S' ++ [oE (xy C) ob o]) ++ mW (xy C) ma s') (mc + 2) (ms + 12) 822 [(5, .int k), (4, .int (nI q)), (3, .ref ob), (2, .ref (ma 0)), (1, .ref (ad 5 0)), (0, .ref b)] [.int z]
    refine g_istore (L' := [(6, .int z), (5, .int k), (4, .int (nI q)), (3, .ref ob), (2, .ref (ma 0)), (1, .ref (ad 5 0)), (0, .ref b)]) E dL_law_822 (by decide) rfl ?_
    refine g_aload_n E dL_law_824 rfl 4 rfl ?_
    refine g_invV (rm' := rm_X6_thrown) (mc' := 0) (ms' := 0) (As := []) (rest := []) (n := 0) E (gMet.frameL (m_X6_thrown (xl C) E.tr (xD C) (xy C) e0 (ma := ma) (s := s')) (cW (xy C) S' ++ [oE (xy C) ob o])) gL_law_X6_thrown rfl rfl rfl (by decide +kernel) ⟨Nat.le_of_ble_eq_true rfl, Nat.le_of_ble_eq_true rfl⟩ _ 7 rfl rfl (app_r (k := 0) rfl) rfl rfl (Nat.le_of_ble_eq_true rfl) dL_law_825 ⟨Nat.le_trans (show mc + 2 + 0 ≤ mc + 10 from Nat.add_le_add_left (Nat.le_of_ble_eq_true rfl) mc) hmc, Nat.le_trans (show ms + 12 + 0 ≤ ms + 4000 from Nat.add_le_add_left (Nat.le_of_ble_eq_true rfl) ms) hms⟩ (fun X9 w h9 => by obtain ⟨_, _, h9⟩ := h9; exact h9.elim) (fun v w h9 => ?_)
    obtain ⟨w1, rfl, s9, rfl, rfl, rfl⟩ := h9
    show G C ((cW (xy C) S' ++ [oE (xy C) ob o]) ++ mW (xy C) ma s9) (mc + 2) (ms + 12) 828 [(6, .int z), (5, .int k), (4, .int (nI q)), (3, .ref ob), (2, .ref (ma 0)), (1, .ref (ad 5 0)), (0, .ref b)] [.int (mi s9 0)]
    refine g_iload E dL_law_828 1 rfl ?_
    refine g_icmp_eq (tgt := 835) E dL_law_830 (by decide) (fun _ => ?_) (fun hz => absurd h0 hz)
    refine g_iload E dL_law_835 1 rfl ?_
    refine g_if_ne (tgt := 852) E dL_law_837 (by decide) (fun _ => ?_) (fun hz => absurd hz hk0)
    refine g_goto (tgt := 1647) E dL_law_852 (by decide) ?_
    refine g_widen (mc' := mc + 10) (ms' := ms + 4000) (Nat.add_le_add_left (Nat.le_of_ble_eq_true rfl) _) (Nat.add_le_add_left (Nat.le_of_ble_eq_true rfl) _) ?_
    refine g_locals [(4, .int (nI q)), (3, .ref ob), (2, .ref (ma 0)), (1, .ref (ad 5 0)), (0, .ref b)] [2, 3, 4, 5, 6] rfl ?_
    exact kk _ ⟨S', _, _, c', ad', i', j', p', r', rfl, hI', hA', hR⟩
set_option maxHeartbeats 4000000 in
set_option maxRecDepth 100000 in
theorem cs_begin (E : gOk C cL_law 8 wsL_law RL e0 room_1) (hX : va_X b Ln xv (xs C) (xs C).heap) (hbl : b < (xs C).heap.size) (hbA : ¬ xA C b) (hL : Ln ≤ 3584) (hq : q + 7 ≤ Ln) (hW : LV C e0 a ob ma W) (hmc : mc + 10 ≤ 601024) (hms : ms + 4000 ≤ 7293034) (kk : ∀ W', LV C e0 a ob ma W' → G C W' (mc + 10) (ms + 4000) 1647 [(4, .int (nI q)), (3, .ref ob), (2, .ref (ma 0)), (1, .ref a), (0, .ref b)] []) : G C W mc ms 855 [(4, .int (nI q)), (3, .ref ob), (2, .ref (ma 0)), (1, .ref a), (0, .ref b)] [] := by
  obtain ⟨S, o, s, c, ad, i, j, p, r, rfl, hI, hA, M, N, h⟩ := hW
  subst hA
  refine g_aload_n E dL_law_855 rfl 3 rfl ?_
  refine g_aload_n E dL_law_856 rfl 4 rfl ?_
  refine g_iload E dL_law_857 0 rfl ?_
  refine g_iconst (v := nI 1) E dL_law_859 (by decide) ?_
  refine g_iadd E dL_law_860 ?_
  refine g_sld E hX hbl hbA hL (q + 1) (nI_add q 1) (by omega) dL_law_861 ?_
  refine g_aload_n E dL_law_862 rfl 1 rfl ?_
  refine g_invSW (rm' := rm_L_begin) (mc' := 2) (ms' := 12) (As := [.ref (ad 5 0), .int (xv (q + 1)), .ref ob]) (rest := []) (n := 3) E ((w_begin (xl C) E.tr (xD C) (xy C) e0 (hI.obj (kd := 5) (by decide) hI.c5).1 (hI.obj (kd := 5) (by decide) hI.c5).2 (m_X5_begin (xl C) E.tr (xD C) (xy C) e0 hI) (fun v S' hP => by rcases hP with ⟨_, _, _, _, hv, _⟩ <;> exact ⟨_, hv⟩) (fun _ _ h => h.elim (fun h => Or.inl h.1) (fun h => Or.inr h.1))).frameRN (mW (xy C) ma s)) gL_law_L_begin rfl rfl rfl (by decide +kernel) ⟨Nat.le_of_ble_eq_true rfl, Nat.le_of_ble_eq_true rfl⟩ rfl rfl (Nat.le_of_ble_eq_true rfl) dL_law_863 ⟨by exact Nat.le_trans (Nat.add_le_add_left (Nat.le_of_ble_eq_true rfl) _) hmc, by exact Nat.le_trans (Nat.add_le_add_left (Nat.le_of_ble_eq_true rfl) _) hms⟩ (fun v w h9 => ?_)
  obtain ⟨w1, rfl, h9⟩ := h9
  rcases h9 with ⟨S', vv, x, rfl, rfl, hP, hcv⟩ | ⟨S', X, k, rfl, rfl, hXP, hec⟩
  · obtain ⟨c', ad', i', j', p', r', hI', hA', hn⟩ := nx_begin hI h hP
    show G C ((cW (xy C) S' ++ [oE (xy C) ob (vp_updL o 0 x)]) ++ mW (xy C) ma s) (mc + 2) (ms + 12) 866 [(4, .int (nI q)), (3, .ref ob), (2, .ref (ma 0)), (1, .ref (ad 5 0)), (0, .ref b)] [.int 0]
    refine g_istore (L' := [(5, .int 0), (4, .int (nI q)), (3, .ref ob), (2, .ref (ma 0)), (1, .ref (ad 5 0)), (0, .ref b)]) E dL_law_866 (by decide) rfl ?_
    refine g_aload_n E dL_law_868 rfl 3 rfl ?_
    refine g_aload_n E dL_law_869 rfl 5 rfl ?_
    refine g_iload E dL_law_870 1 rfl ?_
    refine g_iconst (v := nI 1) E dL_law_872 (by decide) ?_
    refine g_iadd E dL_law_873 ?_
    refine g_sld E hX hbl hbA hL (q + 1) (nI_add q 1) (by omega) dL_law_874 ?_
    refine g_invV (rm' := rm_X6_begin) (mc' := 0) (ms' := 0) (As := [.int (xv (q + 1))]) (rest := []) (n := 1) E (gMet.frameL (m_X6_begin (xl C) E.tr (xD C) (xy C) e0 h.1.2.2.2.2.2.1 h.b.2.1 (h.pm.hop h.b.2.2.1 h.b.2.1) (h.pm.hnd h.b.2.1)) (cW (xy C) S' ++ [oE (xy C) ob (vp_updL o 0 x)])) gL_law_X6_begin rfl rfl rfl (by decide +kernel) ⟨Nat.le_of_ble_eq_true rfl, Nat.le_of_ble_eq_true rfl⟩ _ 7 rfl rfl (app_r (k := 0) rfl) rfl rfl (Nat.le_of_ble_eq_true rfl) dL_law_875 ⟨Nat.le_trans (show mc + 2 + 0 ≤ mc + 10 from Nat.add_le_add_left (Nat.le_of_ble_eq_true rfl) mc) hmc, Nat.le_trans (show ms + 12 + 0 ≤ ms + 4000 from Nat.add_le_add_left (Nat.le_of_ble_eq_true rfl) ms) hms⟩ (fun X9 w h9 => by obtain ⟨_, _, h9⟩ := h9; exact h9.elim) (fun v w h9 => ?_)
    obtain ⟨w1, rfl, s', rfl, hQ⟩ := h9
    obtain ⟨z, rfl⟩ := sh_begin hQ
    obtain ⟨h0, hv, hR⟩ := hn _ _ hQ
    show G C ((cW (xy C) S' ++ [oE (xy C) ob (vp_updL o 0 x)]) ++ mW (xy C) ma s') (mc + 2) (ms + 12) 878 [(5, .int 0), (4, .int (nI q)), (3, .ref ob), (2, .ref (ma 0)), (1, .ref (ad 5 0)), (0, .ref b)] [.int z]
    refine g_istore (L' := [(6, .int z), (5, .int 0), (4, .int (nI q)), (3, .ref ob), (2, .ref (ma 0)), (1, .ref (ad 5 0)), (0, .ref b)]) E dL_law_878 (by decide) rfl ?_
    refine g_aload_n E dL_law_880 rfl 4 rfl ?_
    refine g_invV (rm' := rm_X6_thrown) (mc' := 0) (ms' := 0) (As := []) (rest := []) (n := 0) E (gMet.frameL (m_X6_thrown (xl C) E.tr (xD C) (xy C) e0 (ma := ma) (s := s')) (cW (xy C) S' ++ [oE (xy C) ob (vp_updL o 0 x)])) gL_law_X6_thrown rfl rfl rfl (by decide +kernel) ⟨Nat.le_of_ble_eq_true rfl, Nat.le_of_ble_eq_true rfl⟩ _ 7 rfl rfl (app_r (k := 0) rfl) rfl rfl (Nat.le_of_ble_eq_true rfl) dL_law_881 ⟨Nat.le_trans (show mc + 2 + 0 ≤ mc + 10 from Nat.add_le_add_left (Nat.le_of_ble_eq_true rfl) mc) hmc, Nat.le_trans (show ms + 12 + 0 ≤ ms + 4000 from Nat.add_le_add_left (Nat.le_of_ble_eq_true rfl) ms) hms⟩ (fun X9 w h9 => by obtain ⟨_, _, h9⟩ := h9; exact h9.elim) (fun v w h9 => ?_)
    obtain ⟨w1, rfl, s9, rfl, rfl, rfl⟩ := h9
    show G C ((cW (xy C) S' ++ [oE (xy C) ob (vp_updL o 0 x)]) ++ mW (xy C) ma s9) (mc + 2) (ms + 12) 884 [(6, .int z), (5, .int 0), (4, .int (nI q)), (3, .ref ob), (2, .ref (ma 0)), (1, .ref (ad 5 0)), (0, .ref b)] [.int (mi s9 0)]
    refine g_iload E dL_law_884 1 rfl ?_
    refine g_icmp_eq (tgt := 891) E dL_law_886 (by decide) (fun _ => ?_) (fun hz => absurd h0 hz)
    refine g_iload E dL_law_891 1 rfl ?_
    refine g_if_ne (tgt := 908) E dL_law_893 (by decide) (fun hz => absurd rfl hz) (fun _ => ?_)
    refine g_aload_n E dL_law_896 rfl 3 rfl ?_
    refine g_iconst (v := 0) E dL_law_897 (by decide) ?_
    refine g_outld E dL_law_898 ?_
    show G C ((cW (xy C) S' ++ [oE (xy C) ob (vp_updL o 0 x)]) ++ mW (xy C) ma s9) (mc + 2) (ms + 12) 899 [(6, .int z), (5, .int 0), (4, .int (nI q)), (3, .ref ob), (2, .ref (ma 0)), (1, .ref (ad 5 0)), (0, .ref b)] [.long x]
    refine g_iload E dL_law_899 0 rfl ?_
    refine g_i2l E dL_law_901 ?_
    have hxz : x = z.toInt64 := by obtain ⟨z0, h4, h6⟩ := hcv; have h5 := hv.trans h4; injection h5 with h5; injection h5 with h5; rw [h6, h5]
    refine g_lcmp E dL_law_902 ?_
    refine g_if_eq (tgt := 908) E dL_law_903 (by decide) (fun _ => ?_) (fun hz => absurd ((lg_cmp_eq _ _).mpr hxz) hz)
    refine g_goto (tgt := 1647) E dL_law_908 (by decide) ?_
    refine g_widen (mc' := mc + 10) (ms' := ms + 4000) (Nat.add_le_add_left (Nat.le_of_ble_eq_true rfl) _) (Nat.add_le_add_left (Nat.le_of_ble_eq_true rfl) _) ?_
    refine g_locals [(4, .int (nI q)), (3, .ref ob), (2, .ref (ma 0)), (1, .ref (ad 5 0)), (0, .ref b)] [2, 3, 4, 5, 6] rfl ?_
    exact kk _ ⟨S', _, _, c', ad', i', j', p', r', rfl, hI', hA', hR⟩
  · obtain ⟨hk0, c', ad', i', j', p', r', hI', hA', hn⟩ := xx_begin hI h hXP hec
    show G C ((cW (xy C) S' ++ [oE (xy C) ob o]) ++ mW (xy C) ma s) (mc + 2) (ms + 12) 866 [(4, .int (nI q)), (3, .ref ob), (2, .ref (ma 0)), (1, .ref (ad 5 0)), (0, .ref b)] [.int k]
    refine g_istore (L' := [(5, .int k), (4, .int (nI q)), (3, .ref ob), (2, .ref (ma 0)), (1, .ref (ad 5 0)), (0, .ref b)]) E dL_law_866 (by decide) rfl ?_
    refine g_aload_n E dL_law_868 rfl 3 rfl ?_
    refine g_aload_n E dL_law_869 rfl 5 rfl ?_
    refine g_iload E dL_law_870 1 rfl ?_
    refine g_iconst (v := nI 1) E dL_law_872 (by decide) ?_
    refine g_iadd E dL_law_873 ?_
    refine g_sld E hX hbl hbA hL (q + 1) (nI_add q 1) (by omega) dL_law_874 ?_
    refine g_invV (rm' := rm_X6_begin) (mc' := 0) (ms' := 0) (As := [.int (xv (q + 1))]) (rest := []) (n := 1) E (gMet.frameL (m_X6_begin (xl C) E.tr (xD C) (xy C) e0 h.1.2.2.2.2.2.1 h.b.2.1 (h.pm.hop h.b.2.2.1 h.b.2.1) (h.pm.hnd h.b.2.1)) (cW (xy C) S' ++ [oE (xy C) ob o])) gL_law_X6_begin rfl rfl rfl (by decide +kernel) ⟨Nat.le_of_ble_eq_true rfl, Nat.le_of_ble_eq_true rfl⟩ _ 7 rfl rfl (app_r (k := 0) rfl) rfl rfl (Nat.le_of_ble_eq_true rfl) dL_law_875 ⟨Nat.le_trans (show mc + 2 + 0 ≤ mc + 10 from Nat.add_le_add_left (Nat.le_of_ble_eq_true rfl) mc) hmc, Nat.le_trans (show ms + 12 + 0 ≤ ms + 4000 from Nat.add_le_add_left (Nat.le_of_ble_eq_true rfl) ms) hms⟩ (fun X9 w h9 => by obtain ⟨_, _, h9⟩ := h9; exact h9.elim) (fun v w h9 => ?_)
    obtain ⟨w1, rfl, s', rfl, hQ⟩ := h9
    obtain ⟨z, rfl⟩ := sh_begin hQ
    obtain ⟨h0, hR⟩ := hn _ _ hQ
    show G C ((cW (xy C) S' ++ [oE (xy C) ob o]) ++ mW (xy C) ma s') (mc + 2) (ms + 12) 878 [(5, .int k), (4, .int (nI q)), (3, .ref ob), (2, .ref (ma 0)), (1, .ref (ad 5 0)), (0, .ref b)] [.int z]
    refine g_istore (L' := [(6, .int z), (5, .int k), (4, .int (nI q)), (3, .ref ob), (2, .ref (ma 0)), (1, .ref (ad 5 0)), (0, .ref b)]) E dL_law_878 (by decide) rfl ?_
    refine g_aload_n E dL_law_880 rfl 4 rfl ?_
    refine g_invV (rm' := rm_X6_thrown) (mc' := 0) (ms' := 0) (As := []) (rest := []) (n := 0) E (gMet.frameL (m_X6_thrown (xl C) E.tr (xD C) (xy C) e0 (ma := ma) (s := s')) (cW (xy C) S' ++ [oE (xy C) ob o])) gL_law_X6_thrown rfl rfl rfl (by decide +kernel) ⟨Nat.le_of_ble_eq_true rfl, Nat.le_of_ble_eq_true rfl⟩ _ 7 rfl rfl (app_r (k := 0) rfl) rfl rfl (Nat.le_of_ble_eq_true rfl) dL_law_881 ⟨Nat.le_trans (show mc + 2 + 0 ≤ mc + 10 from Nat.add_le_add_left (Nat.le_of_ble_eq_true rfl) mc) hmc, Nat.le_trans (show ms + 12 + 0 ≤ ms + 4000 from Nat.add_le_add_left (Nat.le_of_ble_eq_true rfl) ms) hms⟩ (fun X9 w h9 => by obtain ⟨_, _, h9⟩ := h9; exact h9.elim) (fun v w h9 => ?_)
    obtain ⟨w1, rfl, s9, rfl, rfl, rfl⟩ := h9
    show G C ((cW (xy C) S' ++ [oE (xy C) ob o]) ++ mW (xy C) ma s9) (mc + 2) (ms + 12) 884 [(6, .int z), (5, .int k), (4, .int (nI q)), (3, .ref ob), (2, .ref (ma 0)), (1, .ref (ad 5 0)), (0, .ref b)] [.int (mi s9 0)]
    refine g_iload E dL_law_884 1 rfl ?_
    refine g_icmp_eq (tgt := 891) E dL_law_886 (by decide) (fun _ => ?_) (fun hz => absurd h0 hz)
    refine g_iload E dL_law_891 1 rfl ?_
    refine g_if_ne (tgt := 908) E dL_law_893 (by decide) (fun _ => ?_) (fun hz => absurd hz hk0)
    refine g_goto (tgt := 1647) E dL_law_908 (by decide) ?_
    refine g_widen (mc' := mc + 10) (ms' := ms + 4000) (Nat.add_le_add_left (Nat.le_of_ble_eq_true rfl) _) (Nat.add_le_add_left (Nat.le_of_ble_eq_true rfl) _) ?_
    refine g_locals [(4, .int (nI q)), (3, .ref ob), (2, .ref (ma 0)), (1, .ref (ad 5 0)), (0, .ref b)] [2, 3, 4, 5, 6] rfl ?_
    exact kk _ ⟨S', _, _, c', ad', i', j', p', r', rfl, hI', hA', hR⟩
set_option maxHeartbeats 4000000 in
set_option maxRecDepth 100000 in
theorem cs_finish (E : gOk C cL_law 8 wsL_law RL e0 room_1) (hX : va_X b Ln xv (xs C) (xs C).heap) (hbl : b < (xs C).heap.size) (hbA : ¬ xA C b) (hL : Ln ≤ 3584) (hq : q + 7 ≤ Ln) (hW : LV C e0 a ob ma W) (hmc : mc + 10 ≤ 601024) (hms : ms + 4000 ≤ 7293034) (kk : ∀ W', LV C e0 a ob ma W' → G C W' (mc + 10) (ms + 4000) 1647 [(4, .int (nI q)), (3, .ref ob), (2, .ref (ma 0)), (1, .ref a), (0, .ref b)] []) : G C W mc ms 911 [(4, .int (nI q)), (3, .ref ob), (2, .ref (ma 0)), (1, .ref a), (0, .ref b)] [] := by
  obtain ⟨S, o, s, c, ad, i, j, p, r, rfl, hI, hA, M, N, h⟩ := hW
  subst hA
  refine g_aload_n E dL_law_911 rfl 3 rfl ?_
  refine g_aload_n E dL_law_912 rfl 4 rfl ?_
  refine g_iload E dL_law_913 0 rfl ?_
  refine g_iconst (v := nI 1) E dL_law_915 (by decide) ?_
  refine g_iadd E dL_law_916 ?_
  refine g_sld E hX hbl hbA hL (q + 1) (nI_add q 1) (by omega) dL_law_917 ?_
  refine g_aload_n E dL_law_918 rfl 1 rfl ?_
  refine g_invSW (rm' := rm_L_finish) (mc' := 2) (ms' := 12) (As := [.ref (ad 5 0), .int (xv (q + 1)), .ref ob]) (rest := []) (n := 3) E ((w_finish (xl C) E.tr (xD C) (xy C) e0 (hI.obj (kd := 5) (by decide) hI.c5).1 (hI.obj (kd := 5) (by decide) hI.c5).2 (m_X5_finish (xl C) E.tr (xD C) (xy C) e0 hI) (fun v S' hP => by rcases hP with ⟨_, _, _, _, hv, _⟩ <;> exact ⟨_, hv⟩) (fun _ _ h => h.elim (fun h => Or.inl h.1) (fun h => Or.inr h.1))).frameRN (mW (xy C) ma s)) gL_law_L_finish rfl rfl rfl (by decide +kernel) ⟨Nat.le_of_ble_eq_true rfl, Nat.le_of_ble_eq_true rfl⟩ rfl rfl (Nat.le_of_ble_eq_true rfl) dL_law_919 ⟨by exact Nat.le_trans (Nat.add_le_add_left (Nat.le_of_ble_eq_true rfl) _) hmc, by exact Nat.le_trans (Nat.add_le_add_left (Nat.le_of_ble_eq_true rfl) _) hms⟩ (fun v w h9 => ?_)
  obtain ⟨w1, rfl, h9⟩ := h9
  rcases h9 with ⟨S', vv, x, rfl, rfl, hP, hcv⟩ | ⟨S', X, k, rfl, rfl, hXP, hec⟩
  · obtain ⟨c', ad', i', j', p', r', hI', hA', hn⟩ := nx_finish hI h hP
    show G C ((cW (xy C) S' ++ [oE (xy C) ob (vp_updL o 0 x)]) ++ mW (xy C) ma s) (mc + 2) (ms + 12) 922 [(4, .int (nI q)), (3, .ref ob), (2, .ref (ma 0)), (1, .ref (ad 5 0)), (0, .ref b)] [.int 0]
    refine g_istore (L' := [(5, .int 0), (4, .int (nI q)), (3, .ref ob), (2, .ref (ma 0)), (1, .ref (ad 5 0)), (0, .ref b)]) E dL_law_922 (by decide) rfl ?_
    refine g_aload_n E dL_law_924 rfl 3 rfl ?_
    refine g_aload_n E dL_law_925 rfl 5 rfl ?_
    refine g_iload E dL_law_926 1 rfl ?_
    refine g_iconst (v := nI 1) E dL_law_928 (by decide) ?_
    refine g_iadd E dL_law_929 ?_
    refine g_sld E hX hbl hbA hL (q + 1) (nI_add q 1) (by omega) dL_law_930 ?_
    refine g_invV (rm' := rm_X6_finish) (mc' := 0) (ms' := 0) (As := [.int (xv (q + 1))]) (rest := []) (n := 1) E (gMet.frameL (m_X6_finish (xl C) E.tr (xD C) (xy C) e0 h.1.2.2.2.2.2.1 h.b.2.1) (cW (xy C) S' ++ [oE (xy C) ob (vp_updL o 0 x)])) gL_law_X6_finish rfl rfl rfl (by decide +kernel) ⟨Nat.le_of_ble_eq_true rfl, Nat.le_of_ble_eq_true rfl⟩ _ 7 rfl rfl (app_r (k := 0) rfl) rfl rfl (Nat.le_of_ble_eq_true rfl) dL_law_931 ⟨Nat.le_trans (show mc + 2 + 0 ≤ mc + 10 from Nat.add_le_add_left (Nat.le_of_ble_eq_true rfl) mc) hmc, Nat.le_trans (show ms + 12 + 0 ≤ ms + 4000 from Nat.add_le_add_left (Nat.le_of_ble_eq_true rfl) ms) hms⟩ (fun X9 w h9 => by obtain ⟨_, _, h9⟩ := h9; exact h9.elim) (fun v w h9 => ?_)
    obtain ⟨w1, rfl, s', rfl, hQ⟩ := h9
    obtain ⟨z, rfl⟩ := sh_finish hQ
    obtain ⟨h0, hv, hR⟩ := hn _ _ hQ
    show G C ((cW (xy C) S' ++ [oE (xy C) ob (vp_updL o 0 x)]) ++ mW (xy C) ma s') (mc + 2) (ms + 12) 934 [(5, .int 0), (4, .int (nI q)), (3, .ref ob), (2, .ref (ma 0)), (1, .ref (ad 5 0)), (0, .ref b)] [.long z]
    refine g_lstore (L' := [(6, .long z), (5, .int 0), (4, .int (nI q)), (3, .ref ob), (2, .ref (ma 0)), (1, .ref (ad 5 0)), (0, .ref b)]) E dL_law_934 (by decide) rfl ?_
    refine g_aload_n E dL_law_936 rfl 4 rfl ?_
    refine g_invV (rm' := rm_X6_thrown) (mc' := 0) (ms' := 0) (As := []) (rest := []) (n := 0) E (gMet.frameL (m_X6_thrown (xl C) E.tr (xD C) (xy C) e0 (ma := ma) (s := s')) (cW (xy C) S' ++ [oE (xy C) ob (vp_updL o 0 x)])) gL_law_X6_thrown rfl rfl rfl (by decide +kernel) ⟨Nat.le_of_ble_eq_true rfl, Nat.le_of_ble_eq_true rfl⟩ _ 7 rfl rfl (app_r (k := 0) rfl) rfl rfl (Nat.le_of_ble_eq_true rfl) dL_law_937 ⟨Nat.le_trans (show mc + 2 + 0 ≤ mc + 10 from Nat.add_le_add_left (Nat.le_of_ble_eq_true rfl) mc) hmc, Nat.le_trans (show ms + 12 + 0 ≤ ms + 4000 from Nat.add_le_add_left (Nat.le_of_ble_eq_true rfl) ms) hms⟩ (fun X9 w h9 => by obtain ⟨_, _, h9⟩ := h9; exact h9.elim) (fun v w h9 => ?_)
    obtain ⟨w1, rfl, s9, rfl, rfl, rfl⟩ := h9
    show G C ((cW (xy C) S' ++ [oE (xy C) ob (vp_updL o 0 x)]) ++ mW (xy C) ma s9) (mc + 2) (ms + 12) 940 [(6, .long z), (5, .int 0), (4, .int (nI q)), (3, .ref ob), (2, .ref (ma 0)), (1, .ref (ad 5 0)), (0, .ref b)] [.int (mi s9 0)]
    refine g_iload E dL_law_940 1 rfl ?_
    refine g_icmp_eq (tgt := 947) E dL_law_942 (by decide) (fun _ => ?_) (fun hz => absurd h0 hz)
    refine g_iload E dL_law_947 1 rfl ?_
    refine g_if_ne (tgt := 963) E dL_law_949 (by decide) (fun hz => absurd rfl hz) (fun _ => ?_)
    refine g_aload_n E dL_law_952 rfl 3 rfl ?_
    refine g_iconst (v := 0) E dL_law_953 (by decide) ?_
    refine g_outld E dL_law_954 ?_
    show G C ((cW (xy C) S' ++ [oE (xy C) ob (vp_updL o 0 x)]) ++ mW (xy C) ma s9) (mc + 2) (ms + 12) 955 [(6, .long z), (5, .int 0), (4, .int (nI q)), (3, .ref ob), (2, .ref (ma 0)), (1, .ref (ad 5 0)), (0, .ref b)] [.long x]
    refine g_lload E dL_law_955 0 rfl ?_
    have hxz : x = z := by have h5 := hv.trans hcv; injection h5 with h5; injection h5 with h5; exact h5.symm
    subst hxz
    refine g_lcmp E dL_law_957 ?_
    refine g_if_eq (tgt := 963) E dL_law_958 (by decide) (fun _ => ?_) (fun hz => absurd ((lg_cmp_eq _ _).mpr rfl) hz)
    refine g_goto (tgt := 1647) E dL_law_963 (by decide) ?_
    refine g_widen (mc' := mc + 10) (ms' := ms + 4000) (Nat.add_le_add_left (Nat.le_of_ble_eq_true rfl) _) (Nat.add_le_add_left (Nat.le_of_ble_eq_true rfl) _) ?_
    refine g_locals [(4, .int (nI q)), (3, .ref ob), (2, .ref (ma 0)), (1, .ref (ad 5 0)), (0, .ref b)] [2, 3, 4, 5, 6] rfl ?_
    exact kk _ ⟨S', _, _, c', ad', i', j', p', r', rfl, hI', hA', hR⟩
  · obtain ⟨hk0, c', ad', i', j', p', r', hI', hA', hn⟩ := xx_finish hI h hXP hec
    show G C ((cW (xy C) S' ++ [oE (xy C) ob o]) ++ mW (xy C) ma s) (mc + 2) (ms + 12) 922 [(4, .int (nI q)), (3, .ref ob), (2, .ref (ma 0)), (1, .ref (ad 5 0)), (0, .ref b)] [.int k]
    refine g_istore (L' := [(5, .int k), (4, .int (nI q)), (3, .ref ob), (2, .ref (ma 0)), (1, .ref (ad 5 0)), (0, .ref b)]) E dL_law_922 (by decide) rfl ?_
    refine g_aload_n E dL_law_924 rfl 3 rfl ?_
    refine g_aload_n E dL_law_925 rfl 5 rfl ?_
    refine g_iload E dL_law_926 1 rfl ?_
    refine g_iconst (v := nI 1) E dL_law_928 (by decide) ?_
    refine g_iadd E dL_law_929 ?_
    refine g_sld E hX hbl hbA hL (q + 1) (nI_add q 1) (by omega) dL_law_930 ?_
    refine g_invV (rm' := rm_X6_finish) (mc' := 0) (ms' := 0) (As := [.int (xv (q + 1))]) (rest := []) (n := 1) E (gMet.frameL (m_X6_finish (xl C) E.tr (xD C) (xy C) e0 h.1.2.2.2.2.2.1 h.b.2.1) (cW (xy C) S' ++ [oE (xy C) ob o])) gL_law_X6_finish rfl rfl rfl (by decide +kernel) ⟨Nat.le_of_ble_eq_true rfl, Nat.le_of_ble_eq_true rfl⟩ _ 7 rfl rfl (app_r (k := 0) rfl) rfl rfl (Nat.le_of_ble_eq_true rfl) dL_law_931 ⟨Nat.le_trans (show mc + 2 + 0 ≤ mc + 10 from Nat.add_le_add_left (Nat.le_of_ble_eq_true rfl) mc) hmc, Nat.le_trans (show ms + 12 + 0 ≤ ms + 4000 from Nat.add_le_add_left (Nat.le_of_ble_eq_true rfl) ms) hms⟩ (fun X9 w h9 => by obtain ⟨_, _, h9⟩ := h9; exact h9.elim) (fun v w h9 => ?_)
    obtain ⟨w1, rfl, s', rfl, hQ⟩ := h9
    obtain ⟨z, rfl⟩ := sh_finish hQ
    obtain ⟨h0, hR⟩ := hn _ _ hQ
    show G C ((cW (xy C) S' ++ [oE (xy C) ob o]) ++ mW (xy C) ma s') (mc + 2) (ms + 12) 934 [(5, .int k), (4, .int (nI q)), (3, .ref ob), (2, .ref (ma 0)), (1, .ref (ad 5 0)), (0, .ref b)] [.long z]
    refine g_lstore (L' := [(6, .long z), (5, .int k), (4, .int (nI q)), (3, .ref ob), (2, .ref (ma 0)), (1, .ref (ad 5 0)), (0, .ref b)]) E dL_law_934 (by decide) rfl ?_
    refine g_aload_n E dL_law_936 rfl 4 rfl ?_
    refine g_invV (rm' := rm_X6_thrown) (mc' := 0) (ms' := 0) (As := []) (rest := []) (n := 0) E (gMet.frameL (m_X6_thrown (xl C) E.tr (xD C) (xy C) e0 (ma := ma) (s := s')) (cW (xy C) S' ++ [oE (xy C) ob o])) gL_law_X6_thrown rfl rfl rfl (by decide +kernel) ⟨Nat.le_of_ble_eq_true rfl, Nat.le_of_ble_eq_true rfl⟩ _ 7 rfl rfl (app_r (k := 0) rfl) rfl rfl (Nat.le_of_ble_eq_true rfl) dL_law_937 ⟨Nat.le_trans (show mc + 2 + 0 ≤ mc + 10 from Nat.add_le_add_left (Nat.le_of_ble_eq_true rfl) mc) hmc, Nat.le_trans (show ms + 12 + 0 ≤ ms + 4000 from Nat.add_le_add_left (Nat.le_of_ble_eq_true rfl) ms) hms⟩ (fun X9 w h9 => by obtain ⟨_, _, h9⟩ := h9; exact h9.elim) (fun v w h9 => ?_)
    obtain ⟨w1, rfl, s9, rfl, rfl, rfl⟩ := h9
    show G C ((cW (xy C) S' ++ [oE (xy C) ob o]) ++ mW (xy C) ma s9) (mc + 2) (ms + 12) 940 [(6, .long z), (5, .int k), (4, .int (nI q)), (3, .ref ob), (2, .ref (ma 0)), (1, .ref (ad 5 0)), (0, .ref b)] [.int (mi s9 0)]
    refine g_iload E dL_law_940 1 rfl ?_
    refine g_icmp_eq (tgt := 947) E dL_law_942 (by decide) (fun _ => ?_) (fun hz => absurd h0 hz)
    refine g_iload E dL_law_947 1 rfl ?_
    refine g_if_ne (tgt := 963) E dL_law_949 (by decide) (fun _ => ?_) (fun hz => absurd hz hk0)
    refine g_goto (tgt := 1647) E dL_law_963 (by decide) ?_
    refine g_widen (mc' := mc + 10) (ms' := ms + 4000) (Nat.add_le_add_left (Nat.le_of_ble_eq_true rfl) _) (Nat.add_le_add_left (Nat.le_of_ble_eq_true rfl) _) ?_
    refine g_locals [(4, .int (nI q)), (3, .ref ob), (2, .ref (ma 0)), (1, .ref (ad 5 0)), (0, .ref b)] [2, 3, 4, 5, 6] rfl ?_
    exact kk _ ⟨S', _, _, c', ad', i', j', p', r', rfl, hI', hA', hR⟩
end CS
