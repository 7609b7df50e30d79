/-! the law: its turns -/
section LZ
variable {C : gT} {e0 a b : Nat} {aa : Nat → Nat} {av : Nat → Nat → Int32} {c : Nat → Nat} {i : Nat → Nat → Int32} {j : Nat → Nat → Int64} {p : Nat → Nat → Option Nat} {r : Nat → Nat → Int32} {N : Nat} {W : va_W} {mc ms Y D pN ln t T : Nat}
variable {Ln : Nat} {xv : Nat → Int32}
set_option maxHeartbeats 4000000 in
set_option maxRecDepth 100000 in
theorem z_head (E : gOk C cL_law 27 wsL_law RL e0 room_1) (hX : va_X b Ln xv (xs C) (xs C).heap) (hbl : b < (xs C).heap.size) (hbA : ¬ xA C b) (hL : Ln ≤ 260) (ht : t < 200) (hc2 : c 2 ≤ 40) (kk : ∀ Y D pN ln : Nat, Y < 2 ^ 28 → D < 16 → ln < 4 → (pN < c 2 ∨ (c 2 = 0 ∧ pN = 0)) → G C W mc ms 487 [(19, .int (nI ln)), (18, .int (nI pN)), (17, .int (nI D)), (16, .int (nI Y)), (14, .int (nI t)), (13, .int (nI T)), (12, .int (nI 1)), (11, .int (nI (c 2))), (10, .int (nI 4)), (0, .ref b), (1, .ref a), (2, .ref (aa 0)), (3, .ref (aa 1)), (4, .ref (aa 2)), (5, .ref (aa 3)), (6, .ref (aa 4)), (7, .ref (aa 5)), (8, .ref (aa 6)), (9, .ref (aa 7))] []) : G C W mc ms 404 [(14, .int (nI t)), (13, .int (nI T)), (12, .int (nI 1)), (11, .int (nI (c 2))), (10, .int (nI 4)), (0, .ref b), (1, .ref a), (2, .ref (aa 0)), (3, .ref (aa 1)), (4, .ref (aa 2)), (5, .ref (aa 3)), (6, .ref (aa 4)), (7, .ref (aa 5)), (8, .ref (aa 6)), (9, .ref (aa 7))] [] := by
  have k478 : ∀ (x : Int32) (Y D pN : Nat), Y < 2 ^ 28 → D < 16 → (pN < c 2 ∨ (c 2 = 0 ∧ pN = 0)) → G C W mc ms 478 [(17, .int (nI D)), (16, .int (nI Y)), (15, .int x), (14, .int (nI t)), (13, .int (nI T)), (12, .int (nI 1)), (11, .int (nI (c 2))), (10, .int (nI 4)), (0, .ref b), (1, .ref a), (2, .ref (aa 0)), (3, .ref (aa 1)), (4, .ref (aa 2)), (5, .ref (aa 3)), (6, .ref (aa 4)), (7, .ref (aa 5)), (8, .ref (aa 6)), (9, .ref (aa 7))] [.int (nI pN)] := by
    intro x Y D pN hY hD hp
    refine g_istore (L' := [(18, .int (nI pN)), (17, .int (nI D)), (16, .int (nI Y)), (15, .int x), (14, .int (nI t)), (13, .int (nI T)), (12, .int (nI 1)), (11, .int (nI (c 2))), (10, .int (nI 4)), (0, .ref b), (1, .ref a), (2, .ref (aa 0)), (3, .ref (aa 1)), (4, .ref (aa 2)), (5, .ref (aa 3)), (6, .ref (aa 4)), (7, .ref (aa 5)), (8, .ref (aa 6)), (9, .ref (aa 7))]) E dL_law_478 (by decide) rfl ?_
    refine g_iload E dL_law_480 2 rfl ?_
    refine g_iload E dL_law_482 8 rfl ?_
    refine n_irem E (by omega) (by omega) (by omega) dL_law_484 ?_
    refine g_istore (L' := [(19, .int (nI (Y % 4))), (18, .int (nI pN)), (17, .int (nI D)), (16, .int (nI Y)), (15, .int x), (14, .int (nI t)), (13, .int (nI T)), (12, .int (nI 1)), (11, .int (nI (c 2))), (10, .int (nI 4)), (0, .ref b), (1, .ref a), (2, .ref (aa 0)), (3, .ref (aa 1)), (4, .ref (aa 2)), (5, .ref (aa 3)), (6, .ref (aa 4)), (7, .ref (aa 5)), (8, .ref (aa 6)), (9, .ref (aa 7))]) E dL_law_485 (by decide) rfl ?_
    obtain ⟨ln, hln⟩ : ∃ ln, ln = Y % 4 := ⟨_, rfl⟩
    rw [← hln]
    refine g_locals [(19, .int (nI ln)), (18, .int (nI pN)), (17, .int (nI D)), (16, .int (nI Y)), (14, .int (nI t)), (13, .int (nI T)), (12, .int (nI 1)), (11, .int (nI (c 2))), (10, .int (nI 4)), (0, .ref b), (1, .ref a), (2, .ref (aa 0)), (3, .ref (aa 1)), (4, .ref (aa 2)), (5, .ref (aa 3)), (6, .ref (aa 4)), (7, .ref (aa 5)), (8, .ref (aa 6)), (9, .ref (aa 7))] [0, 1, 2, 3, 5, 6, 7, 8, 9, 10, 11, 12, 13, 14, 15, 16, 17, 18, 19] rfl ?_
    exact kk Y D pN ln hY hD (by omega) hp
  have k462 : ∀ (x : Int32) (Y D : Nat), Y < 2 ^ 28 → D < 16 → G C W mc ms 462 [(16, .int (nI Y)), (15, .int x), (14, .int (nI t)), (13, .int (nI T)), (12, .int (nI 1)), (11, .int (nI (c 2))), (10, .int (nI 4)), (0, .ref b), (1, .ref a), (2, .ref (aa 0)), (3, .ref (aa 1)), (4, .ref (aa 2)), (5, .ref (aa 3)), (6, .ref (aa 4)), (7, .ref (aa 5)), (8, .ref (aa 6)), (9, .ref (aa 7))] [.int (nI D)] := by
    intro x Y D hY hD
    refine g_istore (L' := [(17, .int (nI D)), (16, .int (nI Y)), (15, .int x), (14, .int (nI t)), (13, .int (nI T)), (12, .int (nI 1)), (11, .int (nI (c 2))), (10, .int (nI 4)), (0, .ref b), (1, .ref a), (2, .ref (aa 0)), (3, .ref (aa 1)), (4, .ref (aa 2)), (5, .ref (aa 3)), (6, .ref (aa 4)), (7, .ref (aa 5)), (8, .ref (aa 6)), (9, .ref (aa 7))]) E dL_law_462 (by decide) rfl ?_
    refine g_iload E dL_law_464 6 rfl ?_
    by_cases h0 : c 2 = 0
    · refine g_if_ne (tgt := 473) E dL_law_466 (by decide) (fun z => absurd (by rw [h0]; rfl) z) (fun c_466 => ?_)
      refine g_iconst (v := nI 0) E dL_law_469 (by decide) ?_
      refine g_goto (tgt := 478) E dL_law_470 (by decide) ?_
      exact k478 x Y D 0 hY hD (Or.inr ⟨h0, rfl⟩)
    · refine g_if_ne (tgt := 473) E dL_law_466 (by decide) (fun c_466 => ?_) (fun z => absurd z (nI_ne0 (by omega) (by omega)))
      refine g_iload E dL_law_473 1 rfl ?_
      refine g_iload E dL_law_475 6 rfl ?_
      refine n_irem E (by omega) (by omega) (by omega) dL_law_477 ?_
      exact k478 x Y D _ hY hD (Or.inl (Nat.mod_lt _ (by omega)))
  have k436 : ∀ (x : Int32), G C W mc ms 436 [(14, .int (nI t)), (13, .int (nI T)), (12, .int (nI 1)), (11, .int (nI (c 2))), (10, .int (nI 4)), (0, .ref b), (1, .ref a), (2, .ref (aa 0)), (3, .ref (aa 1)), (4, .ref (aa 2)), (5, .ref (aa 3)), (6, .ref (aa 4)), (7, .ref (aa 5)), (8, .ref (aa 6)), (9, .ref (aa 7))] [.int x] := by
    intro x
    refine g_istore (L' := [(15, .int x), (14, .int (nI t)), (13, .int (nI T)), (12, .int (nI 1)), (11, .int (nI (c 2))), (10, .int (nI 4)), (0, .ref b), (1, .ref a), (2, .ref (aa 0)), (3, .ref (aa 1)), (4, .ref (aa 2)), (5, .ref (aa 3)), (6, .ref (aa 4)), (7, .ref (aa 5)), (8, .ref (aa 6)), (9, .ref (aa 7))]) E dL_law_436 (by decide) rfl ?_
    refine g_iload E dL_law_438 0 rfl ?_
    refine g_iconst (v := nI 4) E dL_law_440 (by decide) ?_
    refine g_ishr E dL_law_441 ?_
    refine g_ldc (v := (268435455)) E (by decide +kernel) dL_law_442 ?_
    refine g_iand E dL_law_444 ?_
    obtain ⟨Y, hY, eY⟩ := pk_andE (x >>> (nI 4 &&& 31)) (m := 268435455) 28 rfl
    rw [eY]
    refine g_istore (L' := [(16, .int (nI Y)), (15, .int x), (14, .int (nI t)), (13, .int (nI T)), (12, .int (nI 1)), (11, .int (nI (c 2))), (10, .int (nI 4)), (0, .ref b), (1, .ref a), (2, .ref (aa 0)), (3, .ref (aa 1)), (4, .ref (aa 2)), (5, .ref (aa 3)), (6, .ref (aa 4)), (7, .ref (aa 5)), (8, .ref (aa 6)), (9, .ref (aa 7))]) E dL_law_445 (by decide) rfl ?_
    refine g_iload E dL_law_447 2 rfl ?_
    refine g_iconst (v := nI 3) E dL_law_449 (by decide) ?_
    by_cases h3 : t < 3
    · refine n_icmp_ge (tgt := 457) E (by omega) (by omega) dL_law_450 (by decide) (fun z => by omega) (fun c_450 => ?_)
      refine g_iconst (v := nI 0) E dL_law_453 (by decide) ?_
      refine g_goto (tgt := 462) E dL_law_454 (by decide) ?_
      exact k462 x Y 0 hY (by decide)
    · refine n_icmp_ge (tgt := 457) E (by omega) (by omega) dL_law_450 (by decide) (fun c_450 => ?_) (fun z => by omega)
      refine g_iload E dL_law_457 1 rfl ?_
      refine g_bipush (v := nI 15) E dL_law_459 (by decide) ?_
      refine g_iand E dL_law_461 ?_
      obtain ⟨D, hD, eD⟩ := pk_andE x (m := nI 15) 4 rfl
      rw [eD]
      exact k462 x Y D hY hD
  refine g_iload E dL_law_404 0 rfl ?_
  refine g_aload_n E dL_law_406 rfl 5 rfl ?_
  refine g_slen E hX hbl hbA dL_law_407 ?_
  by_cases hl : t < Ln
  · refine n_icmp_ge (tgt := 418) E (by omega) (by omega) dL_law_408 (by decide) (fun z => by omega) (fun c_408 => ?_)
    refine g_aload_n E dL_law_411 rfl 5 rfl ?_
    refine g_iload E dL_law_412 0 rfl ?_
    refine g_sld E hX hbl hbA (by omega) t rfl (by omega) dL_law_414 ?_
    refine g_goto (tgt := 436) E dL_law_415 (by decide) ?_
    exact k436 _
  · refine n_icmp_ge (tgt := 418) E (by omega) (by omega) dL_law_408 (by decide) (fun c_408 => ?_) (fun z => by omega)
    refine g_ldc (v := (3110017)) E (by decide +kernel) dL_law_418 ?_
    refine g_iload E dL_law_420 0 rfl ?_
    refine g_imul E dL_law_422 ?_
    refine g_iload E dL_law_423 0 rfl ?_
    refine g_imul E dL_law_425 ?_
    refine g_ldc (v := (106019)) E (by decide +kernel) dL_law_426 ?_
    refine g_iload E dL_law_428 0 rfl ?_
    refine g_imul E dL_law_430 ?_
    refine g_iadd E dL_law_431 ?_
    refine g_sipush (v := nI 183) E dL_law_432 (by decide) ?_
    refine g_iadd E dL_law_435 ?_
    exact k436 _
set_option maxHeartbeats 4000000 in
set_option maxRecDepth 100000 in
theorem z_disp (E : gOk C cL_law 27 wsL_law RL e0 room_1) (hW : LW (xy C) e0 a aa av c i j p r 14 W) (hK : KN c i j p r 14 N) (hA : LA c i p r av) (h4 : c 0 = 4) (hln : ln < 4) (hY : Y < 2 ^ 28) (hmc : mc + 1000 ≤ 646545) (hms : ms + 8000 ≤ 7162134) (hN : N ≤ 4000) (hpN : pN < c 2 ∨ (c 2 = 0 ∧ pN = 0)) (hD : D < 16) (kk : ∀ (av : Nat → Nat → Int32) (c : Nat → Nat) (i : Nat → Nat → Int32) (j : Nat → Nat → Int64) (p : Nat → Nat → Option Nat) (r : Nat → Nat → Int32) (N' : Nat) (W : va_W), LW (xy C) e0 a aa av c i j p r 14 W → KN c i j p r 14 N' → LA c i p r av → c 0 = 4 → N' ≤ N + 20 → (pN < c 2 ∨ c 2 = 0) → G C W (mc + 150) (ms + 3000) 1435 [(12, .int (nI 1)), (19, .int (nI ln)), (18, .int (nI pN)), (16, .int (nI Y)), (14, .int (nI t)), (13, .int (nI T)), (11, .int (nI (c 2))), (10, .int (nI 4)), (0, .ref b), (1, .ref a), (2, .ref (aa 0)), (3, .ref (aa 1)), (4, .ref (aa 2)), (5, .ref (aa 3)), (6, .ref (aa 4)), (7, .ref (aa 5)), (8, .ref (aa 6)), (9, .ref (aa 7))] []) : G C W mc ms 487 [(19, .int (nI ln)), (18, .int (nI pN)), (17, .int (nI D)), (16, .int (nI Y)), (14, .int (nI t)), (13, .int (nI T)), (12, .int (nI 1)), (11, .int (nI (c 2))), (10, .int (nI 4)), (0, .ref b), (1, .ref a), (2, .ref (aa 0)), (3, .ref (aa 1)), (4, .ref (aa 2)), (5, .ref (aa 3)), (6, .ref (aa 4)), (7, .ref (aa 5)), (8, .ref (aa 6)), (9, .ref (aa 7))] [] := by
  have hb := hK.b
  have k1147 : G C W mc ms 1147 [(19, .int (nI ln)), (18, .int (nI pN)), (17, .int (nI D)), (16, .int (nI Y)), (14, .int (nI t)), (13, .int (nI T)), (12, .int (nI 1)), (11, .int (nI (c 2))), (10, .int (nI 4)), (0, .ref b), (1, .ref a), (2, .ref (aa 0)), (3, .ref (aa 1)), (4, .ref (aa 2)), (5, .ref (aa 3)), (6, .ref (aa 4)), (7, .ref (aa 5)), (8, .ref (aa 6)), (9, .ref (aa 7))] [] := by
    refine g_iload E dL_law_1147 2 rfl ?_
    refine g_bipush (v := nI 14) E dL_law_1149 (by decide) ?_
    by_cases h : D < 14
    · refine n_icmp_ge (tgt := 1320) E (by omega) (by omega) dL_law_1151 (by decide) (fun z => by omega) (fun c_1151 => ?_)
      exact z_pass E hW hK hA h4 hln hY hmc hms hN hpN kk
    · refine n_icmp_ge (tgt := 1320) E (by omega) (by omega) dL_law_1151 (by decide) (fun c_1151 => ?_) (fun z => by omega)
      exact z_complain E hW hK hA h4 hln hY hmc hms hpN kk
  have k1050 : G C W mc ms 1050 [(19, .int (nI ln)), (18, .int (nI pN)), (17, .int (nI D)), (16, .int (nI Y)), (14, .int (nI t)), (13, .int (nI T)), (12, .int (nI 1)), (11, .int (nI (c 2))), (10, .int (nI 4)), (0, .ref b), (1, .ref a), (2, .ref (aa 0)), (3, .ref (aa 1)), (4, .ref (aa 2)), (5, .ref (aa 3)), (6, .ref (aa 4)), (7, .ref (aa 5)), (8, .ref (aa 6)), (9, .ref (aa 7))] [] := by
    refine g_iload E dL_law_1050 2 rfl ?_
    refine g_bipush (v := nI 11) E dL_law_1052 (by decide) ?_
    by_cases h : D < 11
    · refine n_icmp_ge (tgt := 1147) E (by omega) (by omega) dL_law_1054 (by decide) (fun z => by omega) (fun c_1054 => ?_)
      refine g_iload E dL_law_1057 7 rfl ?_
      by_cases h0 : c 2 = 0
      · refine g_if_le (tgt := 1147) E dL_law_1059 (by decide) (fun c_1059 => ?_) (fun z => absurd (by rw [h0]; decide) z)
        exact k1147
      · refine g_if_le (tgt := 1147) E dL_law_1059 (by decide) (fun z => absurd z (nI_nle (by omega) (by omega))) (fun c_1059 => ?_)
        exact z_finish E hW hK hA h4 hln hY hmc hms (hpN.elim id (fun z => absurd z.1 h0)) kk
    · refine n_icmp_ge (tgt := 1147) E (by omega) (by omega) dL_law_1054 (by decide) (fun c_1054 => ?_) (fun z => by omega)
      exact k1147
  have k908 : G C W mc ms 908 [(19, .int (nI ln)), (18, .int (nI pN)), (17, .int (nI D)), (16, .int (nI Y)), (14, .int (nI t)), (13, .int (nI T)), (12, .int (nI 1)), (11, .int (nI (c 2))), (10, .int (nI 4)), (0, .ref b), (1, .ref a), (2, .ref (aa 0)), (3, .ref (aa 1)), (4, .ref (aa 2)), (5, .ref (aa 3)), (6, .ref (aa 4)), (7, .ref (aa 5)), (8, .ref (aa 6)), (9, .ref (aa 7))] [] := by
    refine g_iload E dL_law_908 2 rfl ?_
    refine g_bipush (v := nI 9) E dL_law_910 (by decide) ?_
    by_cases h : D < 9
    · refine n_icmp_ge (tgt := 1050) E (by omega) (by omega) dL_law_912 (by decide) (fun z => by omega) (fun c_912 => ?_)
      refine g_iload E dL_law_915 7 rfl ?_
      by_cases h0 : c 2 = 0
      · refine g_if_le (tgt := 1050) E dL_law_917 (by decide) (fun c_917 => ?_) (fun z => absurd (by rw [h0]; decide) z)
        exact k1050
      · refine g_if_le (tgt := 1050) E dL_law_917 (by decide) (fun z => absurd z (nI_nle (by omega) (by omega))) (fun c_917 => ?_)
        exact z_begin E hW hK hA h4 hln hY hmc hms (hpN.elim id (fun z => absurd z.1 h0)) kk
    · refine n_icmp_ge (tgt := 1050) E (by omega) (by omega) dL_law_912 (by decide) (fun c_912 => ?_) (fun z => by omega)
      exact k1050
  have k747 : G C W mc ms 747 [(19, .int (nI ln)), (18, .int (nI pN)), (17, .int (nI D)), (16, .int (nI Y)), (14, .int (nI t)), (13, .int (nI T)), (12, .int (nI 1)), (11, .int (nI (c 2))), (10, .int (nI 4)), (0, .ref b), (1, .ref a), (2, .ref (aa 0)), (3, .ref (aa 1)), (4, .ref (aa 2)), (5, .ref (aa 3)), (6, .ref (aa 4)), (7, .ref (aa 5)), (8, .ref (aa 6)), (9, .ref (aa 7))] [] := by
    refine g_iload E dL_law_747 2 rfl ?_
    refine g_iconst (v := nI 5) E dL_law_749 (by decide) ?_
    by_cases h : D = 5
    · refine n_icmp_ne (tgt := 908) E (by omega) (by omega) dL_law_750 (by decide) (fun z => by omega) (fun c_750 => ?_)
      refine g_iload E dL_law_753 7 rfl ?_
      by_cases h0 : c 2 = 0
      · refine g_if_le (tgt := 908) E dL_law_755 (by decide) (fun c_755 => ?_) (fun z => absurd (by rw [h0]; decide) z)
        exact k908
      · refine g_if_le (tgt := 908) E dL_law_755 (by decide) (fun z => absurd z (nI_nle (by omega) (by omega))) (fun c_755 => ?_)
        exact z_withdraw E hW hK hA h4 hln hY hmc hms (hpN.elim id (fun z => absurd z.1 h0)) kk
    · refine n_icmp_ne (tgt := 908) E (by omega) (by omega) dL_law_750 (by decide) (fun c_750 => ?_) (fun z => by omega)
      exact k908
  refine g_iload E dL_law_487 2 rfl ?_
  refine g_iconst (v := nI 5) E dL_law_489 (by decide) ?_
  by_cases h : D < 5
  · refine n_icmp_ge (tgt := 747) E (by omega) (by omega) dL_law_490 (by decide) (fun z => by omega) (fun c_490 => ?_)
    refine g_iload E dL_law_493 7 rfl ?_
    refine g_bipush (v := nI 40) E dL_law_495 (by decide) ?_
    by_cases h0 : c 2 < 40
    · refine n_icmp_ge (tgt := 747) E (by omega) (by omega) dL_law_497 (by decide) (fun z => by omega) (fun c_497 => ?_)
      exact z_apply E hW hK hA h4 hln hY hmc hms hN h0 hpN kk
    · refine n_icmp_ge (tgt := 747) E (by omega) (by omega) dL_law_497 (by decide) (fun c_497 => ?_) (fun z => by omega)
      exact k747
  · refine n_icmp_ge (tgt := 747) E (by omega) (by omega) dL_law_490 (by decide) (fun c_490 => ?_) (fun z => by omega)
    exact k747
set_option maxHeartbeats 4000000 in
set_option maxRecDepth 100000 in
theorem z_loop (E : gOk C cL_law 27 wsL_law RL e0 room_1) (hX : va_X b Ln xv (xs C) (xs C).heap) (hbl : b < (xs C).heap.size) (hbA : ¬ xA C b) (hL : Ln ≤ 260) (hT : T ≤ 200) (fin : ∀ (W : va_W) (L : List (Nat × Value)) (mc ms : Nat), mc ≤ 646545 → ms ≤ 7162134 → G C W mc ms 1625 L [.int (nI 1)]) : ∀ (n t : Nat), t + n = T → ∀ (av : Nat → Nat → Int32) (c : Nat → Nat) (i : Nat → Nat → Int32) (j : Nat → Nat → Int64) (p : Nat → Nat → Option Nat) (r : Nat → Nat → Int32) (N : Nat) (W : va_W), LW (xy C) e0 a aa av c i j p r 14 W → KN c i j p r 14 N → LA c i p r av → c 0 = 4 → N ≤ 20 * t → G C W (1000 + 700 * t) (20000 + 7000 * t) 392 [(14, .int (nI t)), (13, .int (nI T)), (12, .int (nI 1)), (11, .int (nI (c 2))), (10, .int (nI 4)), (0, .ref b), (1, .ref a), (2, .ref (aa 0)), (3, .ref (aa 1)), (4, .ref (aa 2)), (5, .ref (aa 3)), (6, .ref (aa 4)), (7, .ref (aa 5)), (8, .ref (aa 6)), (9, .ref (aa 7))] [] := by
  intro n
  induction n with
  | zero =>
    intro t ht av c i j p r N W hW hK hA h4 hN
    refine g_iload E dL_law_392 0 rfl ?_
    refine g_iload E dL_law_394 1 rfl ?_
    refine n_icmp_ge (tgt := 1623) E (by omega) (by omega) dL_law_396 (by decide) (fun c_396 => ?_) (fun z => by omega)
    refine g_iload E dL_law_1623 2 rfl ?_
    exact fin W _ _ _ (by omega) (by omega)
  | succ n ih =>
    intro t ht av c i j p r N W hW hK hA h4 hN
    have hb := hK.b
    refine g_iload E dL_law_392 0 rfl ?_
    refine g_iload E dL_law_394 1 rfl ?_
    refine n_icmp_ge (tgt := 1623) E (by omega) (by omega) dL_law_396 (by decide) (fun z => by omega) (fun c_396 => ?_)
    refine g_iload E dL_law_399 2 rfl ?_
    refine g_if_eq (tgt := 1623) E dL_law_401 (by decide) (fun z => absurd z (by decide)) (fun c_401 => ?_)
    refine z_head E hX hbl hbA hL (by omega) hb.2.1 (fun Y D pN ln hY hD hln hpN => ?_)
    refine z_disp E hW hK hA h4 hln hY (by omega) (by omega) (by omega) hpN hD (fun av c i j p r N' W hW hK hA h4 hN' hpN => ?_)
    refine z_check (mc := 1000 + 700 * t + 150) (ms := 20000 + 7000 * t + 3000) E hW hK hA h4 hln hY (by omega) (Nat.le_refl _) (Nat.le_refl _) (by omega) (by omega) hpN (fun W hW => ?_)
    exact g_widen (by omega) (by omega) (ih (t + 1) (by omega) av c i j p r N' W hW hK hA h4 (by omega))
end LZ
