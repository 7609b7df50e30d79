/-! the law: a complaint -/
section LZ
variable {C : gT} {e0 a b : Nat} {aa : Nat → Nat} {av : Nat → Nat → Int32} {c : Nat → Nat} {i : Nat → Nat → Int32} {j : Nat → Nat → Int64} {p : Nat → Nat → Option Nat} {r : Nat → Nat → Int32} {N : Nat} {W : va_W} {mc ms Y D pN ln t T : Nat}
set_option maxHeartbeats 4000000 in
set_option maxRecDepth 100000 in
theorem z_complain (E : gOk C cL_law 27 wsL_law RL e0 room_1) (hW : LW (xy C) e0 a aa av c i j p r 14 W) (hK : KN c i j p r 14 N) (hA : LA c i p r av) (h4 : c 0 = 4) (hln : ln < 4) (hY : Y < 2 ^ 28) (hmc : mc + 1000 ≤ 646545) (hms : ms + 8000 ≤ 7162134) (hpN : pN < c 2 ∨ (c 2 = 0 ∧ pN = 0)) (kk : ∀ (av : Nat → Nat → Int32) (c : Nat → Nat) (i : Nat → Nat → Int32) (j : Nat → Nat → Int64) (p : Nat → Nat → Option Nat) (r : Nat → Nat → Int32) (N' : Nat) (W : va_W), LW (xy C) e0 a aa av c i j p r 14 W → KN c i j p r 14 N' → LA c i p r av → c 0 = 4 → N' ≤ N + 20 → (pN < c 2 ∨ c 2 = 0) → G C W (mc + 150) (ms + 3000) 1435 [(12, .int (nI 1)), (19, .int (nI ln)), (18, .int (nI pN)), (16, .int (nI Y)), (14, .int (nI t)), (13, .int (nI T)), (11, .int (nI (c 2))), (10, .int (nI 4)), (0, .ref b), (1, .ref a), (2, .ref (aa 0)), (3, .ref (aa 1)), (4, .ref (aa 2)), (5, .ref (aa 3)), (6, .ref (aa 4)), (7, .ref (aa 5)), (8, .ref (aa 6)), (9, .ref (aa 7))] []) : G C W mc ms 1320 [(19, .int (nI ln)), (18, .int (nI pN)), (17, .int (nI D)), (16, .int (nI Y)), (14, .int (nI t)), (13, .int (nI T)), (12, .int (nI 1)), (11, .int (nI (c 2))), (10, .int (nI 4)), (0, .ref b), (1, .ref a), (2, .ref (aa 0)), (3, .ref (aa 1)), (4, .ref (aa 2)), (5, .ref (aa 3)), (6, .ref (aa 4)), (7, .ref (aa 5)), (8, .ref (aa 6)), (9, .ref (aa 7))] [] := by
  have hb := hK.b
  obtain ⟨d, hd9, hd⟩ := hK.ex_pos (l := ln) (by omega) (cl := clM (fun k => i 11 k) (fun k => i 7 k) none (c 2))
  have loop2 : ∀ (R : Nat → Nat → Int32) (g : Nat), KN c i j p R 14 N → LA c i p R av → g < 7 → ptS R 6 = ptS r 6 + nI g → (¬ 0 < nI d → g = 0) → ∀ (n q : Nat), q + n = 6 → ∀ W, LW (xy C) e0 a aa av c i j p R 14 W → G C W (mc + 8 + q) (ms + 48 + 6 * q) 1372 [(24, .int (nI q)), (23, .int (nI g)), (22, .int (nI d)), (21, .int (ptS R q)), (20, .int (ptS r 6)), (19, .int (nI ln)), (18, .int (nI pN)), (17, .int (nI D)), (16, .int (nI Y)), (14, .int (nI t)), (13, .int (nI T)), (12, .int (nI 1)), (11, .int (nI (c 2))), (10, .int (nI 4)), (0, .ref b), (1, .ref a), (2, .ref (aa 0)), (3, .ref (aa 1)), (4, .ref (aa 2)), (5, .ref (aa 3)), (6, .ref (aa 4)), (7, .ref (aa 5)), (8, .ref (aa 6)), (9, .ref (aa 7))] [] := by
    intro R g hK2 hA2 hg hS hz n
    induction n with
    | zero =>
      intro q hq W hW
      obtain rfl : q = 6 := by omega
      refine g_iload E dL_law_1372 0 rfl ?_
      refine g_bipush (v := nI 6) E dL_law_1374 (by decide) ?_
      refine n_icmp_ge (tgt := 1396) E (by omega) (by omega) dL_law_1376 (by decide) (fun c_1376 => ?_) (fun z => by omega)
      refine g_iload E dL_law_1396 1 rfl ?_
      refine g_if_lt (tgt := 1432) E dL_law_1398 (by decide) (fun z => absurd z (nI_pos (by omega))) (fun c_1398 => ?_)
      refine g_iload E dL_law_1401 1 rfl ?_
      refine g_bipush (v := nI 7) E dL_law_1403 (by decide) ?_
      refine n_icmp_ge (tgt := 1432) E (by omega) (by omega) dL_law_1405 (by decide) (fun z => by omega) (fun c_1405 => ?_)
      refine g_iload E dL_law_1408 3 rfl ?_
      refine g_iload E dL_law_1410 4 rfl ?_
      refine g_iload E dL_law_1412 1 rfl ?_
      refine g_iadd E dL_law_1414 ?_
      refine g_icmp_ne (tgt := 1432) E dL_law_1415 (by decide) (fun z => absurd hS z) (fun c_1415 => ?_)
      refine g_iload E dL_law_1418 2 rfl ?_
      by_cases h0 : 0 < nI d
      · refine g_if_gt (tgt := 1428) E dL_law_1420 (by decide) (fun c_1420 => ?_) (fun z => absurd h0 z)
        refine g_iconst (v := nI 1) E dL_law_1428 (by decide) ?_
        refine g_goto (tgt := 1433) E dL_law_1429 (by decide) ?_
        refine g_istore (L' := [(12, .int (nI 1)), (24, .int (nI 6)), (23, .int (nI g)), (22, .int (nI d)), (21, .int (ptS R 6)), (20, .int (ptS r 6)), (19, .int (nI ln)), (18, .int (nI pN)), (17, .int (nI D)), (16, .int (nI Y)), (14, .int (nI t)), (13, .int (nI T)), (11, .int (nI (c 2))), (10, .int (nI 4)), (0, .ref b), (1, .ref a), (2, .ref (aa 0)), (3, .ref (aa 1)), (4, .ref (aa 2)), (5, .ref (aa 3)), (6, .ref (aa 4)), (7, .ref (aa 5)), (8, .ref (aa 6)), (9, .ref (aa 7))]) E dL_law_1433 (by decide) rfl ?_
        refine g_locals [(12, .int (nI 1)), (19, .int (nI ln)), (18, .int (nI pN)), (16, .int (nI Y)), (14, .int (nI t)), (13, .int (nI T)), (11, .int (nI (c 2))), (10, .int (nI 4)), (0, .ref b), (1, .ref a), (2, .ref (aa 0)), (3, .ref (aa 1)), (4, .ref (aa 2)), (5, .ref (aa 3)), (6, .ref (aa 4)), (7, .ref (aa 5)), (8, .ref (aa 6)), (9, .ref (aa 7))] [0, 6, 7, 9, 10, 11, 12, 13, 14, 15, 16, 17, 18, 19, 20, 21, 22, 23] rfl ?_
        exact g_widen (by omega) (by omega) (kk av c i j p R N W hW hK2 hA2 h4 (by omega) (hpN.elim Or.inl (fun z => Or.inr z.1)))
      · refine g_if_gt (tgt := 1428) E dL_law_1420 (by decide) (fun z => absurd z h0) (fun c_1420 => ?_)
        refine g_iload E dL_law_1423 1 rfl ?_
        refine g_if_ne (tgt := 1432) E dL_law_1425 (by decide) (fun z => absurd (by rw [hz h0]; rfl) z) (fun c_1425 => ?_)
        refine g_iconst (v := nI 1) E dL_law_1428 (by decide) ?_
        refine g_goto (tgt := 1433) E dL_law_1429 (by decide) ?_
        refine g_istore (L' := [(12, .int (nI 1)), (24, .int (nI 6)), (23, .int (nI g)), (22, .int (nI d)), (21, .int (ptS R 6)), (20, .int (ptS r 6)), (19, .int (nI ln)), (18, .int (nI pN)), (17, .int (nI D)), (16, .int (nI Y)), (14, .int (nI t)), (13, .int (nI T)), (11, .int (nI (c 2))), (10, .int (nI 4)), (0, .ref b), (1, .ref a), (2, .ref (aa 0)), (3, .ref (aa 1)), (4, .ref (aa 2)), (5, .ref (aa 3)), (6, .ref (aa 4)), (7, .ref (aa 5)), (8, .ref (aa 6)), (9, .ref (aa 7))]) E dL_law_1433 (by decide) rfl ?_
        refine g_locals [(12, .int (nI 1)), (19, .int (nI ln)), (18, .int (nI pN)), (16, .int (nI Y)), (14, .int (nI t)), (13, .int (nI T)), (11, .int (nI (c 2))), (10, .int (nI 4)), (0, .ref b), (1, .ref a), (2, .ref (aa 0)), (3, .ref (aa 1)), (4, .ref (aa 2)), (5, .ref (aa 3)), (6, .ref (aa 4)), (7, .ref (aa 5)), (8, .ref (aa 6)), (9, .ref (aa 7))] [0, 6, 7, 9, 10, 11, 12, 13, 14, 15, 16, 17, 18, 19, 20, 21, 22, 23] rfl ?_
        exact g_widen (by omega) (by omega) (kk av c i j p R N W hW hK2 hA2 h4 (by omega) (hpN.elim Or.inl (fun z => Or.inr z.1)))
    | succ n ih =>
      intro q hq W hW
      refine g_iload E dL_law_1372 0 rfl ?_
      refine g_bipush (v := nI 6) E dL_law_1374 (by decide) ?_
      refine n_icmp_ge (tgt := 1396) E (by omega) (by omega) dL_law_1376 (by decide) (fun z => by omega) (fun c_1376 => ?_)
      refine g_iload E dL_law_1379 3 rfl ?_
      refine g_aload_n E dL_law_1381 rfl 15 rfl ?_
      refine g_iload E dL_law_1382 0 rfl ?_
      refine k_points E hW hK2 (k := q) (by omega) gL_law_X5_points ⟨Nat.le_of_ble_eq_true rfl, Nat.le_of_ble_eq_true rfl⟩ (Nat.le_of_ble_eq_true rfl) dL_law_1384 ⟨by show _ ≤ 646545; omega, by show _ ≤ 7162134; omega⟩ (fun W hW => ?_)
      refine g_iadd E dL_law_1387 ?_
      refine g_istore (L' := [(21, .int ((ptS R q) + (R 3 q))), (24, .int (nI q)), (23, .int (nI g)), (22, .int (nI d)), (20, .int (ptS r 6)), (19, .int (nI ln)), (18, .int (nI pN)), (17, .int (nI D)), (16, .int (nI Y)), (14, .int (nI t)), (13, .int (nI T)), (12, .int (nI 1)), (11, .int (nI (c 2))), (10, .int (nI 4)), (0, .ref b), (1, .ref a), (2, .ref (aa 0)), (3, .ref (aa 1)), (4, .ref (aa 2)), (5, .ref (aa 3)), (6, .ref (aa 4)), (7, .ref (aa 5)), (8, .ref (aa 6)), (9, .ref (aa 7))]) E dL_law_1388 (by decide) rfl ?_
      refine g_iinc (v := nI (q + 1)) (L' := [(24, .int (nI (q + 1))), (21, .int ((ptS R q) + (R 3 q))), (23, .int (nI g)), (22, .int (nI d)), (20, .int (ptS r 6)), (19, .int (nI ln)), (18, .int (nI pN)), (17, .int (nI D)), (16, .int (nI Y)), (14, .int (nI t)), (13, .int (nI T)), (12, .int (nI 1)), (11, .int (nI (c 2))), (10, .int (nI 4)), (0, .ref b), (1, .ref a), (2, .ref (aa 0)), (3, .ref (aa 1)), (4, .ref (aa 2)), (5, .ref (aa 3)), (6, .ref (aa 4)), (7, .ref (aa 5)), (8, .ref (aa 6)), (9, .ref (aa 7))]) E dL_law_1390 1 rfl (nI_1 q) (by decide) rfl ?_
      refine g_goto (tgt := 1372) E dL_law_1393 (by decide) ?_
      refine g_locals [(24, .int (nI (q + 1))), (23, .int (nI g)), (22, .int (nI d)), (21, .int ((ptS R q) + (R 3 q))), (20, .int (ptS r 6)), (19, .int (nI ln)), (18, .int (nI pN)), (17, .int (nI D)), (16, .int (nI Y)), (14, .int (nI t)), (13, .int (nI T)), (12, .int (nI 1)), (11, .int (nI (c 2))), (10, .int (nI 4)), (0, .ref b), (1, .ref a), (2, .ref (aa 0)), (3, .ref (aa 1)), (4, .ref (aa 2)), (5, .ref (aa 3)), (6, .ref (aa 4)), (7, .ref (aa 5)), (8, .ref (aa 6)), (9, .ref (aa 7))] [0, 2, 3, 1, 4, 5, 6, 7, 8, 9, 10, 11, 12, 13, 14, 15, 16, 17, 18, 19, 20, 21, 22, 23] rfl ?_
      exact g_widen (by omega) (by omega) (ih (q + 1) (by omega) W hW)
  have loop1 : ∀ (n q : Nat), q + n = 6 → ∀ W, LW (xy C) e0 a aa av c i j p r 14 W → G C W (mc + 1 + q) (ms + 6 + 6 * q) 1337 [(23, .int (nI q)), (22, .int (nI d)), (20, .int (ptS r q)), (21, .int (nI 0)), (19, .int (nI ln)), (18, .int (nI pN)), (17, .int (nI D)), (16, .int (nI Y)), (14, .int (nI t)), (13, .int (nI T)), (12, .int (nI 1)), (11, .int (nI (c 2))), (10, .int (nI 4)), (0, .ref b), (1, .ref a), (2, .ref (aa 0)), (3, .ref (aa 1)), (4, .ref (aa 2)), (5, .ref (aa 3)), (6, .ref (aa 4)), (7, .ref (aa 5)), (8, .ref (aa 6)), (9, .ref (aa 7))] [] := by
    intro n
    induction n with
    | zero =>
      intro q hq W hW
      obtain rfl : q = 6 := by omega
      refine g_iload E dL_law_1337 0 rfl ?_
      refine g_bipush (v := nI 6) E dL_law_1339 (by decide) ?_
      refine n_icmp_ge (tgt := 1361) E (by omega) (by omega) dL_law_1341 (by decide) (fun c_1341 => ?_) (fun z => by omega)
      refine g_aload_n E dL_law_1361 rfl 14 rfl ?_
      refine g_iload E dL_law_1362 4 rfl ?_
      refine k_complain E hW hK (k := ln) (by omega) gL_law_X5_complain ⟨Nat.le_of_ble_eq_true rfl, Nat.le_of_ble_eq_true rfl⟩ (Nat.le_of_ble_eq_true rfl) dL_law_1364 ⟨by show _ ≤ 646545; omega, by show _ ≤ 7162134; omega⟩ (fun g R W hg hR hS hz hW => ?_)
      refine g_istore (L' := [(23, .int (nI g)), (22, .int (nI d)), (20, .int (ptS r 6)), (21, .int (nI 0)), (19, .int (nI ln)), (18, .int (nI pN)), (17, .int (nI D)), (16, .int (nI Y)), (14, .int (nI t)), (13, .int (nI T)), (12, .int (nI 1)), (11, .int (nI (c 2))), (10, .int (nI 4)), (0, .ref b), (1, .ref a), (2, .ref (aa 0)), (3, .ref (aa 1)), (4, .ref (aa 2)), (5, .ref (aa 3)), (6, .ref (aa 4)), (7, .ref (aa 5)), (8, .ref (aa 6)), (9, .ref (aa 7))]) E dL_law_1367 (by decide) rfl ?_
      refine g_iconst (v := nI 0) E dL_law_1369 (by decide) ?_
      refine g_istore (L' := [(24, .int (nI 0)), (23, .int (nI g)), (22, .int (nI d)), (20, .int (ptS r 6)), (21, .int (nI 0)), (19, .int (nI ln)), (18, .int (nI pN)), (17, .int (nI D)), (16, .int (nI Y)), (14, .int (nI t)), (13, .int (nI T)), (12, .int (nI 1)), (11, .int (nI (c 2))), (10, .int (nI 4)), (0, .ref b), (1, .ref a), (2, .ref (aa 0)), (3, .ref (aa 1)), (4, .ref (aa 2)), (5, .ref (aa 3)), (6, .ref (aa 4)), (7, .ref (aa 5)), (8, .ref (aa 6)), (9, .ref (aa 7))]) E dL_law_1370 (by decide) rfl ?_
      refine g_locals [(24, .int (nI 0)), (23, .int (nI g)), (22, .int (nI d)), (21, .int (nI 0)), (20, .int (ptS r 6)), (19, .int (nI ln)), (18, .int (nI pN)), (17, .int (nI D)), (16, .int (nI Y)), (14, .int (nI t)), (13, .int (nI T)), (12, .int (nI 1)), (11, .int (nI (c 2))), (10, .int (nI 4)), (0, .ref b), (1, .ref a), (2, .ref (aa 0)), (3, .ref (aa 1)), (4, .ref (aa 2)), (5, .ref (aa 3)), (6, .ref (aa 4)), (7, .ref (aa 5)), (8, .ref (aa 6)), (9, .ref (aa 7))] [0, 1, 2, 4, 3, 5, 6, 7, 8, 9, 10, 11, 12, 13, 14, 15, 16, 17, 18, 19, 20, 21, 22, 23] rfl ?_
      have hA2 : LA c i p R av := ⟨fun e he => by rw [hR 0 (by decide), hR 1 (by decide), hR 2 (by decide)]; exact hA.1 e he, hA.2⟩
      exact g_widen (by omega) (by omega) (loop2 R g (hK.pts hR) hA2 hg hS (fun z => hz (by rw [hd]; exact z)) 6 0 rfl W hW)
    | succ n ih =>
      intro q hq W hW
      refine g_iload E dL_law_1337 0 rfl ?_
      refine g_bipush (v := nI 6) E dL_law_1339 (by decide) ?_
      refine n_icmp_ge (tgt := 1361) E (by omega) (by omega) dL_law_1341 (by decide) (fun z => by omega) (fun c_1341 => ?_)
      refine g_iload E dL_law_1344 2 rfl ?_
      refine g_aload_n E dL_law_1346 rfl 14 rfl ?_
      refine g_iload E dL_law_1347 0 rfl ?_
      refine k_points E hW hK (k := q) (by omega) gL_law_X5_points ⟨Nat.le_of_ble_eq_true rfl, Nat.le_of_ble_eq_true rfl⟩ (Nat.le_of_ble_eq_true rfl) dL_law_1349 ⟨by show _ ≤ 646545; omega, by show _ ≤ 7162134; omega⟩ (fun W hW => ?_)
      refine g_iadd E dL_law_1352 ?_
      refine g_istore (L' := [(20, .int ((ptS r q) + (r 3 q))), (23, .int (nI q)), (22, .int (nI d)), (21, .int (nI 0)), (19, .int (nI ln)), (18, .int (nI pN)), (17, .int (nI D)), (16, .int (nI Y)), (14, .int (nI t)), (13, .int (nI T)), (12, .int (nI 1)), (11, .int (nI (c 2))), (10, .int (nI 4)), (0, .ref b), (1, .ref a), (2, .ref (aa 0)), (3, .ref (aa 1)), (4, .ref (aa 2)), (5, .ref (aa 3)), (6, .ref (aa 4)), (7, .ref (aa 5)), (8, .ref (aa 6)), (9, .ref (aa 7))]) E dL_law_1353 (by decide) rfl ?_
      refine g_iinc (v := nI (q + 1)) (L' := [(23, .int (nI (q + 1))), (20, .int ((ptS r q) + (r 3 q))), (22, .int (nI d)), (21, .int (nI 0)), (19, .int (nI ln)), (18, .int (nI pN)), (17, .int (nI D)), (16, .int (nI Y)), (14, .int (nI t)), (13, .int (nI T)), (12, .int (nI 1)), (11, .int (nI (c 2))), (10, .int (nI 4)), (0, .ref b), (1, .ref a), (2, .ref (aa 0)), (3, .ref (aa 1)), (4, .ref (aa 2)), (5, .ref (aa 3)), (6, .ref (aa 4)), (7, .ref (aa 5)), (8, .ref (aa 6)), (9, .ref (aa 7))]) E dL_law_1355 1 rfl (nI_1 q) (by decide) rfl ?_
      refine g_goto (tgt := 1337) E dL_law_1358 (by decide) ?_
      refine g_locals [(23, .int (nI (q + 1))), (22, .int (nI d)), (20, .int ((ptS r q) + (r 3 q))), (21, .int (nI 0)), (19, .int (nI ln)), (18, .int (nI pN)), (17, .int (nI D)), (16, .int (nI Y)), (14, .int (nI t)), (13, .int (nI T)), (12, .int (nI 1)), (11, .int (nI (c 2))), (10, .int (nI 4)), (0, .ref b), (1, .ref a), (2, .ref (aa 0)), (3, .ref (aa 1)), (4, .ref (aa 2)), (5, .ref (aa 3)), (6, .ref (aa 4)), (7, .ref (aa 5)), (8, .ref (aa 6)), (9, .ref (aa 7))] [0, 2, 1, 3, 4, 5, 6, 7, 8, 9, 10, 11, 12, 13, 14, 15, 16, 17, 18, 19, 20, 21, 22] rfl ?_
      exact g_widen (by omega) (by omega) (ih (q + 1) (by omega) W hW)
  refine g_iconst (v := nI 0) E dL_law_1320 (by decide) ?_
  refine g_istore (L' := [(20, .int (nI 0)), (19, .int (nI ln)), (18, .int (nI pN)), (17, .int (nI D)), (16, .int (nI Y)), (14, .int (nI t)), (13, .int (nI T)), (12, .int (nI 1)), (11, .int (nI (c 2))), (10, .int (nI 4)), (0, .ref b), (1, .ref a), (2, .ref (aa 0)), (3, .ref (aa 1)), (4, .ref (aa 2)), (5, .ref (aa 3)), (6, .ref (aa 4)), (7, .ref (aa 5)), (8, .ref (aa 6)), (9, .ref (aa 7))]) E dL_law_1321 (by decide) rfl ?_
  refine g_iconst (v := nI 0) E dL_law_1323 (by decide) ?_
  refine g_istore (L' := [(21, .int (nI 0)), (20, .int (nI 0)), (19, .int (nI ln)), (18, .int (nI pN)), (17, .int (nI D)), (16, .int (nI Y)), (14, .int (nI t)), (13, .int (nI T)), (12, .int (nI 1)), (11, .int (nI (c 2))), (10, .int (nI 4)), (0, .ref b), (1, .ref a), (2, .ref (aa 0)), (3, .ref (aa 1)), (4, .ref (aa 2)), (5, .ref (aa 3)), (6, .ref (aa 4)), (7, .ref (aa 5)), (8, .ref (aa 6)), (9, .ref (aa 7))]) E dL_law_1324 (by decide) rfl ?_
  refine g_aload_n E dL_law_1326 rfl 12 rfl ?_
  refine g_iload E dL_law_1327 2 rfl ?_
  refine k_detour E hW hK (k := ln) (by omega) gL_law_X5_detour ⟨Nat.le_of_ble_eq_true rfl, Nat.le_of_ble_eq_true rfl⟩ (Nat.le_of_ble_eq_true rfl) dL_law_1329 ⟨by show _ ≤ 646545; omega, by show _ ≤ 7162134; omega⟩ (fun W hW => ?_)
  rw [hd]
  refine g_istore (L' := [(22, .int (nI d)), (21, .int (nI 0)), (20, .int (nI 0)), (19, .int (nI ln)), (18, .int (nI pN)), (17, .int (nI D)), (16, .int (nI Y)), (14, .int (nI t)), (13, .int (nI T)), (12, .int (nI 1)), (11, .int (nI (c 2))), (10, .int (nI 4)), (0, .ref b), (1, .ref a), (2, .ref (aa 0)), (3, .ref (aa 1)), (4, .ref (aa 2)), (5, .ref (aa 3)), (6, .ref (aa 4)), (7, .ref (aa 5)), (8, .ref (aa 6)), (9, .ref (aa 7))]) E dL_law_1332 (by decide) rfl ?_
  refine g_iconst (v := nI 0) E dL_law_1334 (by decide) ?_
  refine g_istore (L' := [(23, .int (nI 0)), (22, .int (nI d)), (21, .int (nI 0)), (20, .int (nI 0)), (19, .int (nI ln)), (18, .int (nI pN)), (17, .int (nI D)), (16, .int (nI Y)), (14, .int (nI t)), (13, .int (nI T)), (12, .int (nI 1)), (11, .int (nI (c 2))), (10, .int (nI 4)), (0, .ref b), (1, .ref a), (2, .ref (aa 0)), (3, .ref (aa 1)), (4, .ref (aa 2)), (5, .ref (aa 3)), (6, .ref (aa 4)), (7, .ref (aa 5)), (8, .ref (aa 6)), (9, .ref (aa 7))]) E dL_law_1335 (by decide) rfl ?_
  refine g_locals [(23, .int (nI 0)), (22, .int (nI d)), (20, .int (nI 0)), (21, .int (nI 0)), (19, .int (nI ln)), (18, .int (nI pN)), (17, .int (nI D)), (16, .int (nI Y)), (14, .int (nI t)), (13, .int (nI T)), (12, .int (nI 1)), (11, .int (nI (c 2))), (10, .int (nI 4)), (0, .ref b), (1, .ref a), (2, .ref (aa 0)), (3, .ref (aa 1)), (4, .ref (aa 2)), (5, .ref (aa 3)), (6, .ref (aa 4)), (7, .ref (aa 5)), (8, .ref (aa 6)), (9, .ref (aa 7))] [0, 1, 3, 2, 4, 5, 6, 7, 8, 9, 10, 11, 12, 13, 14, 15, 16, 17, 18, 19, 20, 21, 22] rfl ?_
  exact g_widen (by omega) (by omega) (loop1 6 0 rfl W hW)
end LZ
