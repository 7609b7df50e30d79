/-! the law: behind each turn -/
section LZ
variable {C : gT} {e0 a b : Nat} {aa : Nat → Nat} {av : Nat → Nat → Int32} {c : Nat → Nat} {i : Nat → Nat → Int32} {j : Nat → Nat → Int64} {p : Nat → Nat → Option Nat} {r : Nat → Nat → Int32} {N : Nat} {W : va_W} {mc ms Y D pN ln t T : Nat}
set_option maxHeartbeats 4000000 in
set_option maxRecDepth 100000 in
theorem z_check2 (E : gOk C cL_law 27 wsL_law RL e0 room_1) (hW : LW (xy C) e0 a aa av c i j p r 14 W) (hK : KN c i j p r 14 N) (hA : LA c i p r av) (h4 : c 0 = 4) (hln : ln < 4) (hY : Y < 2 ^ 28) (ht : t < 200) {m0 s0 : Nat} (hm0 : m0 ≤ mc) (hs0 : s0 ≤ ms) (hmc : mc + 1000 ≤ 646545) (hms : ms + 8000 ≤ 7162134) (kk : ∀ W, LW (xy C) e0 a aa av c i j p r 14 W → G C W (mc + 50) (ms + 400) 392 [(14, .int (nI (t + 1))), (13, .int (nI T)), (12, .int (nI 1)), (11, .int (nI (c 2))), (10, .int (nI 4)), (0, .ref b), (1, .ref a), (2, .ref (aa 0)), (3, .ref (aa 1)), (4, .ref (aa 2)), (5, .ref (aa 3)), (6, .ref (aa 4)), (7, .ref (aa 5)), (8, .ref (aa 6)), (9, .ref (aa 7))] []) : G C W m0 s0 1516 [(12, .int (nI 1)), (19, .int (nI ln)), (18, .int (nI pN)), (16, .int (nI Y)), (14, .int (nI t)), (13, .int (nI T)), (11, .int (nI (c 2))), (10, .int (nI 4)), (0, .ref b), (1, .ref a), (2, .ref (aa 0)), (3, .ref (aa 1)), (4, .ref (aa 2)), (5, .ref (aa 3)), (6, .ref (aa 4)), (7, .ref (aa 5)), (8, .ref (aa 6)), (9, .ref (aa 7))] [] := by
  have hb := hK.b
  have loop : ∀ g : Nat, g < 6 → ∀ (n q : Nat), q + n = c 2 → ∀ W, LW (xy C) e0 a aa av c i j p r 14 W → G C W (mc + q) (ms + 6 * q) 1544 [(23, .int (nI q)), (22, .int (nI g)), (20, .long (fnJ i j (nI g) q)), (12, .int (nI 1)), (19, .int (nI ln)), (18, .int (nI pN)), (16, .int (nI Y)), (14, .int (nI t)), (13, .int (nI T)), (11, .int (nI (c 2))), (10, .int (nI 4)), (0, .ref b), (1, .ref a), (2, .ref (aa 0)), (3, .ref (aa 1)), (4, .ref (aa 2)), (5, .ref (aa 3)), (6, .ref (aa 4)), (7, .ref (aa 5)), (8, .ref (aa 6)), (9, .ref (aa 7))] [] := by
    intro g hg n
    induction n with
    | zero =>
      intro q hq W hW
      obtain rfl : q = c 2 := by omega
      refine g_iload E dL_law_1544 0 rfl ?_
      refine g_iload E dL_law_1546 9 rfl ?_
      refine n_icmp_ge (tgt := 1582) E (by omega) (by omega) dL_law_1548 (by decide) (fun c_1548 => ?_) (fun z => by omega)
      refine g_aload_n E dL_law_1582 rfl 12 rfl ?_
      refine g_iload E dL_law_1583 1 rfl ?_
      refine k_fines E hW hK (k := g) hg gL_law_X5_fines ⟨Nat.le_of_ble_eq_true rfl, Nat.le_of_ble_eq_true rfl⟩ (Nat.le_of_ble_eq_true rfl) dL_law_1585 ⟨by show _ ≤ 646545; omega, by show _ ≤ 7162134; omega⟩ (fun W hW => ?_)
      refine g_lload E dL_law_1588 2 rfl ?_
      refine g_lcmp E dL_law_1590 ?_
      refine g_if_ne (tgt := 1614) E dL_law_1591 (by decide) (fun z => absurd ((lg_cmp_eq _ _).mpr rfl) z) (fun c_1591 => ?_)
      refine g_aload_n E dL_law_1594 rfl 12 rfl ?_
      refine g_iload E dL_law_1595 4 rfl ?_
      refine k_minutesAnew E hW hK (k := ln) (by omega) gL_law_X5_minutesAnew ⟨Nat.le_of_ble_eq_true rfl, Nat.le_of_ble_eq_true rfl⟩ (Nat.le_of_ble_eq_true rfl) dL_law_1597 ⟨by show _ ≤ 646545; omega, by show _ ≤ 7162134; omega⟩ (fun W hW => ?_)
      refine g_aload_n E dL_law_1600 rfl 12 rfl ?_
      refine g_iload E dL_law_1601 4 rfl ?_
      refine k_minutes E hW hK (k := ln) (by omega) gL_law_X5_minutes ⟨Nat.le_of_ble_eq_true rfl, Nat.le_of_ble_eq_true rfl⟩ (Nat.le_of_ble_eq_true rfl) dL_law_1603 ⟨by show _ ≤ 646545; omega, by show _ ≤ 7162134; omega⟩ (fun W hW => ?_)
      refine g_lcmp E dL_law_1606 ?_
      refine g_if_ne (tgt := 1614) E dL_law_1607 (by decide) (fun z => absurd ((lg_cmp_eq _ _).mpr rfl) z) (fun c_1607 => ?_)
      refine g_iconst (v := nI 1) E dL_law_1610 (by decide) ?_
      refine g_goto (tgt := 1615) E dL_law_1611 (by decide) ?_
      refine g_istore (L' := [(12, .int (nI 1)), (23, .int (nI (c 2))), (22, .int (nI g)), (20, .long (fnJ i j (nI g) (c 2))), (19, .int (nI ln)), (18, .int (nI pN)), (16, .int (nI Y)), (14, .int (nI t)), (13, .int (nI T)), (11, .int (nI (c 2))), (10, .int (nI 4)), (0, .ref b), (1, .ref a), (2, .ref (aa 0)), (3, .ref (aa 1)), (4, .ref (aa 2)), (5, .ref (aa 3)), (6, .ref (aa 4)), (7, .ref (aa 5)), (8, .ref (aa 6)), (9, .ref (aa 7))]) E dL_law_1615 (by decide) rfl ?_
      refine g_iinc (v := nI (t + 1)) (L' := [(14, .int (nI (t + 1))), (12, .int (nI 1)), (23, .int (nI (c 2))), (22, .int (nI g)), (20, .long (fnJ i j (nI g) (c 2))), (19, .int (nI ln)), (18, .int (nI pN)), (16, .int (nI Y)), (13, .int (nI T)), (11, .int (nI (c 2))), (10, .int (nI 4)), (0, .ref b), (1, .ref a), (2, .ref (aa 0)), (3, .ref (aa 1)), (4, .ref (aa 2)), (5, .ref (aa 3)), (6, .ref (aa 4)), (7, .ref (aa 5)), (8, .ref (aa 6)), (9, .ref (aa 7))]) E dL_law_1617 7 rfl (nI_1 t) (by decide) rfl ?_
      refine g_goto (tgt := 392) E dL_law_1620 (by decide) ?_
      refine g_locals [(14, .int (nI (t + 1))), (13, .int (nI T)), (12, .int (nI 1)), (11, .int (nI (c 2))), (10, .int (nI 4)), (0, .ref b), (1, .ref a), (2, .ref (aa 0)), (3, .ref (aa 1)), (4, .ref (aa 2)), (5, .ref (aa 3)), (6, .ref (aa 4)), (7, .ref (aa 5)), (8, .ref (aa 6)), (9, .ref (aa 7))] [0, 8, 1, 9, 10, 11, 12, 13, 14, 15, 16, 17, 18, 19, 20] rfl ?_
      exact g_widen (by omega) (by omega) (kk W hW)
    | succ n ih =>
      intro q hq W hW
      refine g_iload E dL_law_1544 0 rfl ?_
      refine g_iload E dL_law_1546 9 rfl ?_
      refine n_icmp_ge (tgt := 1582) E (by omega) (by omega) dL_law_1548 (by decide) (fun z => by omega) (fun c_1548 => ?_)
      refine g_lload E dL_law_1551 2 rfl ?_
      refine g_aload E dL_law_1553 19 rfl ?_
      refine g_iload E dL_law_1555 0 rfl ?_
      refine l_ald E hW 6 q (by decide) (by show _ < 40; omega) dL_law_1557 ?_
      rw [(hA.2.2 q (by omega)).2.2.1]
      refine g_iload E dL_law_1558 1 rfl ?_
      by_cases h6 : i 6 q = nI g
      · refine g_icmp_ne (tgt := 1572) E dL_law_1560 (by decide) (fun z => absurd h6 z) (fun c_1560 => ?_)
        refine g_aload_n E dL_law_1563 rfl 12 rfl ?_
        refine g_iload E dL_law_1564 0 rfl ?_
        refine k_fine E hW hK (k := q) (by omega) gL_law_X5_fine ⟨Nat.le_of_ble_eq_true rfl, Nat.le_of_ble_eq_true rfl⟩ (Nat.le_of_ble_eq_true rfl) dL_law_1566 ⟨by show _ ≤ 646545; omega, by show _ ≤ 7162134; omega⟩ (fun W hW => ?_)
        refine g_goto (tgt := 1573) E dL_law_1569 (by decide) ?_
        refine g_ladd E dL_law_1573 ?_
        refine g_lstore (L' := [(20, .long ((fnJ i j (nI g) q) + (2 * j 2 q))), (23, .int (nI q)), (22, .int (nI g)), (12, .int (nI 1)), (19, .int (nI ln)), (18, .int (nI pN)), (16, .int (nI Y)), (14, .int (nI t)), (13, .int (nI T)), (11, .int (nI (c 2))), (10, .int (nI 4)), (0, .ref b), (1, .ref a), (2, .ref (aa 0)), (3, .ref (aa 1)), (4, .ref (aa 2)), (5, .ref (aa 3)), (6, .ref (aa 4)), (7, .ref (aa 5)), (8, .ref (aa 6)), (9, .ref (aa 7))]) E dL_law_1574 (by decide) rfl ?_
        refine g_iinc (v := nI (q + 1)) (L' := [(23, .int (nI (q + 1))), (20, .long ((fnJ i j (nI g) q) + (2 * j 2 q))), (22, .int (nI g)), (12, .int (nI 1)), (19, .int (nI ln)), (18, .int (nI pN)), (16, .int (nI Y)), (14, .int (nI t)), (13, .int (nI T)), (11, .int (nI (c 2))), (10, .int (nI 4)), (0, .ref b), (1, .ref a), (2, .ref (aa 0)), (3, .ref (aa 1)), (4, .ref (aa 2)), (5, .ref (aa 3)), (6, .ref (aa 4)), (7, .ref (aa 5)), (8, .ref (aa 6)), (9, .ref (aa 7))]) E dL_law_1576 1 rfl (nI_1 q) (by decide) rfl ?_
        refine g_goto (tgt := 1544) E dL_law_1579 (by decide) ?_
        refine g_locals [(23, .int (nI (q + 1))), (22, .int (nI g)), (20, .long ((fnJ i j (nI g) q) + (2 * j 2 q))), (12, .int (nI 1)), (19, .int (nI ln)), (18, .int (nI pN)), (16, .int (nI Y)), (14, .int (nI t)), (13, .int (nI T)), (11, .int (nI (c 2))), (10, .int (nI 4)), (0, .ref b), (1, .ref a), (2, .ref (aa 0)), (3, .ref (aa 1)), (4, .ref (aa 2)), (5, .ref (aa 3)), (6, .ref (aa 4)), (7, .ref (aa 5)), (8, .ref (aa 6)), (9, .ref (aa 7))] [0, 2, 1, 3, 4, 5, 6, 7, 8, 9, 10, 11, 12, 13, 14, 15, 16, 17, 18, 19, 20] rfl ?_
        rw [← fnJ_t h6]
        exact g_widen (by omega) (by omega) (ih (q + 1) (by omega) W hW)
      · refine g_icmp_ne (tgt := 1572) E dL_law_1560 (by decide) (fun c_1560 => ?_) (fun z => absurd z h6)
        refine g_lconst (v := 0) E dL_law_1572 (by decide) ?_
        refine g_ladd E dL_law_1573 ?_
        refine g_lstore (L' := [(20, .long ((fnJ i j (nI g) q) + 0)), (23, .int (nI q)), (22, .int (nI g)), (12, .int (nI 1)), (19, .int (nI ln)), (18, .int (nI pN)), (16, .int (nI Y)), (14, .int (nI t)), (13, .int (nI T)), (11, .int (nI (c 2))), (10, .int (nI 4)), (0, .ref b), (1, .ref a), (2, .ref (aa 0)), (3, .ref (aa 1)), (4, .ref (aa 2)), (5, .ref (aa 3)), (6, .ref (aa 4)), (7, .ref (aa 5)), (8, .ref (aa 6)), (9, .ref (aa 7))]) E dL_law_1574 (by decide) rfl ?_
        refine g_iinc (v := nI (q + 1)) (L' := [(23, .int (nI (q + 1))), (20, .long ((fnJ i j (nI g) q) + 0)), (22, .int (nI g)), (12, .int (nI 1)), (19, .int (nI ln)), (18, .int (nI pN)), (16, .int (nI Y)), (14, .int (nI t)), (13, .int (nI T)), (11, .int (nI (c 2))), (10, .int (nI 4)), (0, .ref b), (1, .ref a), (2, .ref (aa 0)), (3, .ref (aa 1)), (4, .ref (aa 2)), (5, .ref (aa 3)), (6, .ref (aa 4)), (7, .ref (aa 5)), (8, .ref (aa 6)), (9, .ref (aa 7))]) E dL_law_1576 1 rfl (nI_1 q) (by decide) rfl ?_
        refine g_goto (tgt := 1544) E dL_law_1579 (by decide) ?_
        refine g_locals [(23, .int (nI (q + 1))), (22, .int (nI g)), (20, .long ((fnJ i j (nI g) q) + 0)), (12, .int (nI 1)), (19, .int (nI ln)), (18, .int (nI pN)), (16, .int (nI Y)), (14, .int (nI t)), (13, .int (nI T)), (11, .int (nI (c 2))), (10, .int (nI 4)), (0, .ref b), (1, .ref a), (2, .ref (aa 0)), (3, .ref (aa 1)), (4, .ref (aa 2)), (5, .ref (aa 3)), (6, .ref (aa 4)), (7, .ref (aa 5)), (8, .ref (aa 6)), (9, .ref (aa 7))] [0, 2, 1, 3, 4, 5, 6, 7, 8, 9, 10, 11, 12, 13, 14, 15, 16, 17, 18, 19, 20] rfl ?_
        rw [Int64.add_zero, ← fnJ_f h6]
        exact g_widen (by omega) (by omega) (ih (q + 1) (by omega) W hW)
  refine g_iload E dL_law_1516 0 rfl ?_
  refine g_if_eq (tgt := 1617) E dL_law_1518 (by decide) (fun z => absurd z (by decide)) (fun c_1518 => ?_)
  refine g_iload E dL_law_1521 4 rfl ?_
  refine g_bipush (v := nI 40) E dL_law_1523 (by decide) ?_
  refine n_irem E (by omega) (by omega) (by omega) dL_law_1525 ?_
  refine g_bipush (v := nI 27) E dL_law_1526 (by decide) ?_
  by_cases h27 : t % 40 = 27
  · refine n_icmp_ne (tgt := 1617) E (by omega) (by omega) dL_law_1528 (by decide) (fun z => absurd h27 z) (fun c_1528 => ?_)
    refine g_lconst (v := 0) E dL_law_1531 (by decide) ?_
    refine g_lstore (L' := [(20, .long 0), (12, .int (nI 1)), (19, .int (nI ln)), (18, .int (nI pN)), (16, .int (nI Y)), (14, .int (nI t)), (13, .int (nI T)), (11, .int (nI (c 2))), (10, .int (nI 4)), (0, .ref b), (1, .ref a), (2, .ref (aa 0)), (3, .ref (aa 1)), (4, .ref (aa 2)), (5, .ref (aa 3)), (6, .ref (aa 4)), (7, .ref (aa 5)), (8, .ref (aa 6)), (9, .ref (aa 7))]) E dL_law_1532 (by decide) rfl ?_
    refine g_iload E dL_law_1534 4 rfl ?_
    refine g_bipush (v := nI 6) E dL_law_1536 (by decide) ?_
    refine n_irem E (by omega) (by omega) (by omega) dL_law_1538 ?_
    refine g_istore (L' := [(22, .int (nI (Y % 6))), (20, .long 0), (12, .int (nI 1)), (19, .int (nI ln)), (18, .int (nI pN)), (16, .int (nI Y)), (14, .int (nI t)), (13, .int (nI T)), (11, .int (nI (c 2))), (10, .int (nI 4)), (0, .ref b), (1, .ref a), (2, .ref (aa 0)), (3, .ref (aa 1)), (4, .ref (aa 2)), (5, .ref (aa 3)), (6, .ref (aa 4)), (7, .ref (aa 5)), (8, .ref (aa 6)), (9, .ref (aa 7))]) E dL_law_1539 (by decide) rfl ?_
    refine g_iconst (v := nI 0) E dL_law_1541 (by decide) ?_
    refine g_istore (L' := [(23, .int (nI 0)), (22, .int (nI (Y % 6))), (20, .long 0), (12, .int (nI 1)), (19, .int (nI ln)), (18, .int (nI pN)), (16, .int (nI Y)), (14, .int (nI t)), (13, .int (nI T)), (11, .int (nI (c 2))), (10, .int (nI 4)), (0, .ref b), (1, .ref a), (2, .ref (aa 0)), (3, .ref (aa 1)), (4, .ref (aa 2)), (5, .ref (aa 3)), (6, .ref (aa 4)), (7, .ref (aa 5)), (8, .ref (aa 6)), (9, .ref (aa 7))]) E dL_law_1542 (by decide) rfl ?_
    obtain ⟨g, hg⟩ : ∃ g, g = Y % 6 := ⟨_, rfl⟩
    rw [← hg]
    refine g_locals [(23, .int (nI 0)), (22, .int (nI g)), (20, .long 0), (12, .int (nI 1)), (19, .int (nI ln)), (18, .int (nI pN)), (16, .int (nI Y)), (14, .int (nI t)), (13, .int (nI T)), (11, .int (nI (c 2))), (10, .int (nI 4)), (0, .ref b), (1, .ref a), (2, .ref (aa 0)), (3, .ref (aa 1)), (4, .ref (aa 2)), (5, .ref (aa 3)), (6, .ref (aa 4)), (7, .ref (aa 5)), (8, .ref (aa 6)), (9, .ref (aa 7))] [0, 1, 2, 3, 4, 5, 6, 7, 8, 9, 10, 11, 12, 13, 14, 15, 16, 17, 18, 19, 20] rfl ?_
    exact g_widen (by omega) (by omega) (loop g (by omega) (c 2) 0 (Nat.zero_add _) W hW)
  · refine n_icmp_ne (tgt := 1617) E (by omega) (by omega) dL_law_1528 (by decide) (fun c_1528 => ?_) (fun z => absurd z h27)
    refine g_iinc (v := nI (t + 1)) (L' := [(14, .int (nI (t + 1))), (12, .int (nI 1)), (19, .int (nI ln)), (18, .int (nI pN)), (16, .int (nI Y)), (13, .int (nI T)), (11, .int (nI (c 2))), (10, .int (nI 4)), (0, .ref b), (1, .ref a), (2, .ref (aa 0)), (3, .ref (aa 1)), (4, .ref (aa 2)), (5, .ref (aa 3)), (6, .ref (aa 4)), (7, .ref (aa 5)), (8, .ref (aa 6)), (9, .ref (aa 7))]) E dL_law_1617 4 rfl (nI_1 t) (by decide) rfl ?_
    refine g_goto (tgt := 392) E dL_law_1620 (by decide) ?_
    refine g_locals [(14, .int (nI (t + 1))), (13, .int (nI T)), (12, .int (nI 1)), (11, .int (nI (c 2))), (10, .int (nI 4)), (0, .ref b), (1, .ref a), (2, .ref (aa 0)), (3, .ref (aa 1)), (4, .ref (aa 2)), (5, .ref (aa 3)), (6, .ref (aa 4)), (7, .ref (aa 5)), (8, .ref (aa 6)), (9, .ref (aa 7))] [0, 5, 1, 6, 7, 8, 9, 10, 11, 12, 13, 14, 15, 16, 17] rfl ?_
    exact g_widen (by omega) (by omega) (kk W hW)
set_option maxHeartbeats 4000000 in
set_option maxRecDepth 100000 in
theorem z_check (E : gOk C cL_law 27 wsL_law RL e0 room_1) (hW : LW (xy C) e0 a aa av c i j p r 14 W) (hK : KN c i j p r 14 N) (hA : LA c i p r av) (h4 : c 0 = 4) (hln : ln < 4) (hY : Y < 2 ^ 28) (ht : t < 200) {m0 s0 : Nat} (hm0 : m0 ≤ mc) (hs0 : s0 ≤ ms) (hmc : mc + 2000 ≤ 646545) (hms : ms + 20000 ≤ 7162134) (hpN : pN < c 2 ∨ c 2 = 0) (kk : ∀ W, LW (xy C) e0 a aa av c i j p r 14 W → G C W (mc + 550) (ms + 4000) 392 [(14, .int (nI (t + 1))), (13, .int (nI T)), (12, .int (nI 1)), (11, .int (nI (c 2))), (10, .int (nI 4)), (0, .ref b), (1, .ref a), (2, .ref (aa 0)), (3, .ref (aa 1)), (4, .ref (aa 2)), (5, .ref (aa 3)), (6, .ref (aa 4)), (7, .ref (aa 5)), (8, .ref (aa 6)), (9, .ref (aa 7))] []) : G C W m0 s0 1435 [(12, .int (nI 1)), (19, .int (nI ln)), (18, .int (nI pN)), (16, .int (nI Y)), (14, .int (nI t)), (13, .int (nI T)), (11, .int (nI (c 2))), (10, .int (nI 4)), (0, .ref b), (1, .ref a), (2, .ref (aa 0)), (3, .ref (aa 1)), (4, .ref (aa 2)), (5, .ref (aa 3)), (6, .ref (aa 4)), (7, .ref (aa 5)), (8, .ref (aa 6)), (9, .ref (aa 7))] [] := by
  have hb := hK.b
  have k1484 : ∀ W, LW (xy C) e0 a aa av c i j p r 14 W → G C W (mc + 400) (ms + 2400) 1484 [(12, .int (nI 1)), (19, .int (nI ln)), (18, .int (nI pN)), (16, .int (nI Y)), (14, .int (nI t)), (13, .int (nI T)), (11, .int (nI (c 2))), (10, .int (nI 4)), (0, .ref b), (1, .ref a), (2, .ref (aa 0)), (3, .ref (aa 1)), (4, .ref (aa 2)), (5, .ref (aa 3)), (6, .ref (aa 4)), (7, .ref (aa 5)), (8, .ref (aa 6)), (9, .ref (aa 7))] [] := by
    intro W hW
    refine g_aload_n E dL_law_1484 rfl 9 rfl ?_
    refine g_aload E dL_law_1485 14 rfl ?_
    refine g_iload E dL_law_1487 3 rfl ?_
    refine g_bipush (v := nI 14) E dL_law_1489 (by decide) ?_
    refine n_irem E (by omega) (by omega) (by omega) dL_law_1491 ?_
    refine g_bipush (v := nI 8) E dL_law_1492 (by decide) ?_
    refine g_iload E dL_law_1494 3 rfl ?_
    refine g_iconst (v := nI 4) E dL_law_1496 (by decide) ?_
    refine n_ishr E (by omega) (by decide) dL_law_1497 ?_
    refine g_iconst (v := nI 2) E dL_law_1498 (by decide) ?_
    refine n_irem E (by omega) (by omega) (by omega) dL_law_1499 ?_
    refine n_iadd E dL_law_1500 ?_
    refine g_iload E dL_law_1501 6 rfl ?_
    refine g_invS (n := 5) (As := [.ref a, .ref (aa 4), .int (nI (Y % 14)), .int (nI (8 + ((Y / 2 ^ 4) % 2))), .int (nI (c 2))]) (rest := []) E (m_L_isLane (xl C) E.tr (xD C) (xy C) e0 hW hK hA (ln := Y % 14) (se := 8 + Y / 2 ^ 4 % 2) (by omega) (by omega)) gL_law_L_isLane rfl rfl rfl (by decide +kernel) ⟨Nat.le_of_ble_eq_true rfl, Nat.le_of_ble_eq_true rfl⟩ rfl rfl (Nat.le_of_ble_eq_true rfl) dL_law_1503 ⟨by show _ ≤ 646545; omega, by show _ ≤ 7162134; omega⟩ (fun X w h => h.elim) (fun v W h => ?_)
    obtain ⟨rfl, hW⟩ := h
    show G C W _ _ 1506 [(12, .int (nI 1)), (19, .int (nI ln)), (18, .int (nI pN)), (16, .int (nI Y)), (14, .int (nI t)), (13, .int (nI T)), (11, .int (nI (c 2))), (10, .int (nI 4)), (0, .ref b), (1, .ref a), (2, .ref (aa 0)), (3, .ref (aa 1)), (4, .ref (aa 2)), (5, .ref (aa 3)), (6, .ref (aa 4)), (7, .ref (aa 5)), (8, .ref (aa 6)), (9, .ref (aa 7))] [.int 1]
    refine g_if_eq (tgt := 1513) E dL_law_1506 (by decide) (fun z => absurd z (by decide)) (fun c_1506 => ?_)
    refine g_iconst (v := nI 1) E dL_law_1509 (by decide) ?_
    refine g_goto (tgt := 1514) E dL_law_1510 (by decide) ?_
    refine g_istore (L' := [(12, .int (nI 1)), (19, .int (nI ln)), (18, .int (nI pN)), (16, .int (nI Y)), (14, .int (nI t)), (13, .int (nI T)), (11, .int (nI (c 2))), (10, .int (nI 4)), (0, .ref b), (1, .ref a), (2, .ref (aa 0)), (3, .ref (aa 1)), (4, .ref (aa 2)), (5, .ref (aa 3)), (6, .ref (aa 4)), (7, .ref (aa 5)), (8, .ref (aa 6)), (9, .ref (aa 7))]) E dL_law_1514 (by decide) rfl ?_
    refine g_locals [(12, .int (nI 1)), (19, .int (nI ln)), (18, .int (nI pN)), (16, .int (nI Y)), (14, .int (nI t)), (13, .int (nI T)), (11, .int (nI (c 2))), (10, .int (nI 4)), (0, .ref b), (1, .ref a), (2, .ref (aa 0)), (3, .ref (aa 1)), (4, .ref (aa 2)), (5, .ref (aa 3)), (6, .ref (aa 4)), (7, .ref (aa 5)), (8, .ref (aa 6)), (9, .ref (aa 7))] [0, 1, 2, 3, 4, 5, 6, 7, 8, 9, 10, 11, 12, 13, 14, 15, 16, 17] rfl ?_
    exact z_check2 (mc := mc + 500) (ms := ms + 3600) E hW hK hA h4 hln hY ht (by omega) (by omega) (by omega) (by omega) (fun W hW => g_widen (by omega) (by omega) (kk W hW))
  have k1464 : ∀ W, LW (xy C) e0 a aa av c i j p r 14 W → G C W (mc + 200) (ms + 1200) 1464 [(12, .int (nI 1)), (19, .int (nI ln)), (18, .int (nI pN)), (16, .int (nI Y)), (14, .int (nI t)), (13, .int (nI T)), (11, .int (nI (c 2))), (10, .int (nI 4)), (0, .ref b), (1, .ref a), (2, .ref (aa 0)), (3, .ref (aa 1)), (4, .ref (aa 2)), (5, .ref (aa 3)), (6, .ref (aa 4)), (7, .ref (aa 5)), (8, .ref (aa 6)), (9, .ref (aa 7))] [] := by
    intro W hW
    refine g_iload E dL_law_1464 6 rfl ?_
    by_cases h0 : c 2 = 0
    · refine g_if_eq (tgt := 1484) E dL_law_1466 (by decide) (fun c_1466 => ?_) (fun z => absurd (by rw [h0]; rfl) z)
      exact g_widen (by omega) (by omega) (k1484 W hW)
    · refine g_if_eq (tgt := 1484) E dL_law_1466 (by decide) (fun z => absurd z (nI_ne0 (by omega) (by omega))) (fun c_1466 => ?_)
      refine g_aload_n E dL_law_1469 rfl 9 rfl ?_
      refine g_aload E dL_law_1470 14 rfl ?_
      refine g_aload E dL_law_1472 15 rfl ?_
      refine g_iload E dL_law_1474 2 rfl ?_
      refine g_iload E dL_law_1476 6 rfl ?_
      refine g_invS (n := 5) (As := [.ref a, .ref (aa 4), .ref (aa 5), .int (nI pN), .int (nI (c 2))]) (rest := []) E (m_L_isPermit (xl C) E.tr (xD C) (xy C) e0 hW hK hA (k := pN) (by omega)) gL_law_L_isPermit rfl rfl rfl (by decide +kernel) ⟨Nat.le_of_ble_eq_true rfl, Nat.le_of_ble_eq_true rfl⟩ rfl rfl (Nat.le_of_ble_eq_true rfl) dL_law_1478 ⟨by show _ ≤ 646545; omega, by show _ ≤ 7162134; omega⟩ (fun X w h => h.elim) (fun v W h => ?_)
      obtain ⟨rfl, hW⟩ := h
      show G C W _ _ 1481 [(12, .int (nI 1)), (19, .int (nI ln)), (18, .int (nI pN)), (16, .int (nI Y)), (14, .int (nI t)), (13, .int (nI T)), (11, .int (nI (c 2))), (10, .int (nI 4)), (0, .ref b), (1, .ref a), (2, .ref (aa 0)), (3, .ref (aa 1)), (4, .ref (aa 2)), (5, .ref (aa 3)), (6, .ref (aa 4)), (7, .ref (aa 5)), (8, .ref (aa 6)), (9, .ref (aa 7))] [.int 1]
      refine g_if_eq (tgt := 1513) E dL_law_1481 (by decide) (fun z => absurd z (by decide)) (fun c_1481 => ?_)
      exact g_widen (by omega) (by omega) (k1484 W hW)
  refine g_iload E dL_law_1435 0 rfl ?_
  refine g_if_eq (tgt := 1513) E dL_law_1437 (by decide) (fun z => absurd z (by decide)) (fun c_1437 => ?_)
  refine g_iload E dL_law_1440 4 rfl ?_
  refine g_iconst (v := nI 4) E dL_law_1442 (by decide) ?_
  refine n_irem E (by omega) (by omega) (by omega) dL_law_1443 ?_
  by_cases ht4 : t % 4 = 0
  · refine g_if_gt (tgt := 1464) E dL_law_1444 (by decide) (fun z => absurd z (by rw [ht4]; decide)) (fun c_1444 => ?_)
    refine g_aload_n E dL_law_1447 rfl 9 rfl ?_
    refine g_aload_n E dL_law_1448 rfl 10 rfl ?_
    refine g_aload_n E dL_law_1449 rfl 11 rfl ?_
    refine g_aload E dL_law_1450 12 rfl ?_
    refine g_aload E dL_law_1452 14 rfl ?_
    refine g_bipush (v := nI 14) E dL_law_1454 (by decide) ?_
    refine g_iload E dL_law_1456 6 rfl ?_
    refine g_invS (n := 7) (As := [.ref a, .ref (aa 0), .ref (aa 1), .ref (aa 2), .ref (aa 4), .int (nI 14), .int (nI (c 2))]) (rest := []) E (m_L_areLanes (xl C) E.tr (xD C) (xy C) e0 hW hK hA) gL_law_L_areLanes rfl rfl rfl (by decide +kernel) ⟨Nat.le_of_ble_eq_true rfl, Nat.le_of_ble_eq_true rfl⟩ rfl rfl (Nat.le_of_ble_eq_true rfl) dL_law_1458 ⟨by show _ ≤ 646545; omega, by show _ ≤ 7162134; omega⟩ (fun X w h => h.elim) (fun v W h => ?_)
    obtain ⟨rfl, hW⟩ := h
    show G C W _ _ 1461 [(12, .int (nI 1)), (19, .int (nI ln)), (18, .int (nI pN)), (16, .int (nI Y)), (14, .int (nI t)), (13, .int (nI T)), (11, .int (nI (c 2))), (10, .int (nI 4)), (0, .ref b), (1, .ref a), (2, .ref (aa 0)), (3, .ref (aa 1)), (4, .ref (aa 2)), (5, .ref (aa 3)), (6, .ref (aa 4)), (7, .ref (aa 5)), (8, .ref (aa 6)), (9, .ref (aa 7))] [.int 1]
    refine g_if_eq (tgt := 1513) E dL_law_1461 (by decide) (fun z => absurd z (by decide)) (fun c_1461 => ?_)
    exact g_widen (by omega) (by omega) (k1464 W hW)
  · refine g_if_gt (tgt := 1464) E dL_law_1444 (by decide) (fun c_1444 => ?_) (fun z => absurd ((nI_ltI (a := 0) (by decide) (by omega)).mpr (by omega)) z)
    exact g_widen (by omega) (by omega) (k1464 W hW)
end LZ
