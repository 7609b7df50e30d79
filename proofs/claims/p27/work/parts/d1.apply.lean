/-! the law: an application -/
section LZ
variable {C : gT} {e0 a b : Nat} {aa : Nat → Nat} {av : Nat → Nat → Int32} {c : Nat → Nat} {i : Nat → Nat → Int32} {j : Nat → Nat → Int64} {p : Nat → Nat → Option Nat} {r : Nat → Nat → Int32} {N : Nat} {W : va_W} {mc ms Y D pN ln t T : Nat}
set_option maxHeartbeats 4000000 in
set_option maxRecDepth 100000 in
theorem z_apply2 (E : gOk C cL_law 27 wsL_law RL e0 room_1) {av0 : Nat → Nat → Int32} {u : Nat} {nd : Int32} {pn : Option Nat} (hav : av = (up2 (up2 (up2 (up2 av0 6 (c 2) (nI (Y % 6))) 4 (c 2) (nI (Y / 2 ^ 3 % 14))) 5 (c 2) (nI u)) 7 (c 2) nd)) (hW : LW (xy C) e0 a aa av c i j p r 14 W) (hK : KN c i j p r 14 N) (hA : LA c i p r av0) (h4 : c 0 = 4) (hln : ln < 4) (hY : Y < 2 ^ 28) (hmc : mc + 1000 ≤ 646545) (hms : ms + 8000 ≤ 7162134) (hN : N ≤ 4000) (hc40 : c 2 < 40) (hpN : pN < c 2 ∨ (c 2 = 0 ∧ pN = 0)) (hu : u = 0 ∨ u = 1) (hnd : (nd = -1 ∧ pn = none) ∨ ∃ z, z < c 2 ∧ nd = nI z ∧ pn = some z) (kk : ∀ (av : Nat → Nat → Int32) (c : Nat → Nat) (i : Nat → Nat → Int32) (j : Nat → Nat → Int64) (p : Nat → Nat → Option Nat) (r : Nat → Nat → Int32) (N' : Nat) (W : va_W), LW (xy C) e0 a aa av c i j p r 14 W → KN c i j p r 14 N' → LA c i p r av → c 0 = 4 → N' ≤ N + 20 → (pN < c 2 ∨ c 2 = 0) → G C W (mc + 150) (ms + 3000) 1435 [(12, .int (nI 1)), (19, .int (nI ln)), (18, .int (nI pN)), (16, .int (nI Y)), (14, .int (nI t)), (13, .int (nI T)), (11, .int (nI (c 2))), (10, .int (nI 4)), (0, .ref b), (1, .ref a), (2, .ref (aa 0)), (3, .ref (aa 1)), (4, .ref (aa 2)), (5, .ref (aa 3)), (6, .ref (aa 4)), (7, .ref (aa 5)), (8, .ref (aa 6)), (9, .ref (aa 7))] []) : G C W mc ms 574 [(19, .int (nI ln)), (18, .int (nI pN)), (17, .int (nI D)), (16, .int (nI Y)), (14, .int (nI t)), (13, .int (nI T)), (12, .int (nI 1)), (11, .int (nI (c 2))), (10, .int (nI 4)), (0, .ref b), (1, .ref a), (2, .ref (aa 0)), (3, .ref (aa 1)), (4, .ref (aa 2)), (5, .ref (aa 3)), (6, .ref (aa 4)), (7, .ref (aa 5)), (8, .ref (aa 6)), (9, .ref (aa 7))] [] := by
  have hb := hK.b
  have e6 : av 6 (c 2) = nI (Y % 6) := by rw [hav, up2_nf (by decide), up2_nf (by decide), up2_nf (by decide), up2_self]
  have e4 : av 4 (c 2) = nI (Y / 2 ^ 3 % 14) := by rw [hav, up2_nf (by decide), up2_nf (by decide), up2_self]
  have e5 : av 5 (c 2) = nI u := by rw [hav, up2_nf (by decide), up2_self]
  have e7 : av 7 (c 2) = nd := by rw [hav, up2_self]
  have eo : ∀ f k, (f < 4 ∨ k ≠ c 2) → av f k = av0 f k := by
    intro f k h
    rw [hav]
    unfold up2
    rw [if_neg (by omega), if_neg (by omega), if_neg (by omega), if_neg (by omega)]
  have k671 : ∀ f g : Nat, f < 600 → g < 40 → ∀ W, LW (xy C) e0 a aa av c i j p r 14 W → G C W mc ms 671 [(21, .int (nI (1 + g))), (20, .int (nI (4000 + f))), (19, .int (nI ln)), (18, .int (nI pN)), (17, .int (nI D)), (16, .int (nI Y)), (14, .int (nI t)), (13, .int (nI T)), (12, .int (nI 1)), (11, .int (nI (c 2))), (10, .int (nI 4)), (0, .ref b), (1, .ref a), (2, .ref (aa 0)), (3, .ref (aa 1)), (4, .ref (aa 2)), (5, .ref (aa 3)), (6, .ref (aa 4)), (7, .ref (aa 5)), (8, .ref (aa 6)), (9, .ref (aa 7))] [.int (nI u), .int nd, .int (nI (1 + g)), .int (nI (4000 + f)), .int (nI (Y / 2 ^ 3 % 14)), .int (nI (Y % 6)), .ref a] := by
    intro f g hf hg W hW
    refine k_apply E hW hK (ap := Y % 6) (ln := Y / 2 ^ 3 % 14) (f := 4000 + f) (g := 1 + g) (nd := nd) (ur := nI u) (pn := pn) (by omega) (by omega) (by omega) (by omega) (by omega) (by omega) hnd (hu.elim (fun z => Or.inl (by rw [z]; rfl)) (fun z => Or.inr (by rw [z]; rfl))) hc40 gL_law_X5_apply ⟨Nat.le_of_ble_eq_true rfl, Nat.le_of_ble_eq_true rfl⟩ (Nat.le_of_ble_eq_true rfl) dL_law_671 ⟨by show _ ≤ 646545; omega, by show _ ≤ 7162134; omega⟩ (fun c2 i2 j2 p2 R W hK2 hNP hc0 hc2 hi1 hnew hr hW => ?_)
    have hb2 := hK2.b
    obtain ⟨hst, hfi, F, G9, eF, eG, hF, hG, hG5⟩ := hNP
    have hA2 : LA c2 i2 p2 R av := by
      refine ⟨fun e he => ?_, fun l hl => ?_, fun k hk => ?_⟩
      · rw [eo 0 e (Or.inl (by decide)), eo 1 e (Or.inl (by decide)), eo 2 e (Or.inl (by decide)), hr 0 (by omega), hr 1 (by omega), hr 2 (by omega)]
        exact hA.1 e he
      · rw [eo 3 l (Or.inl (by decide)), hi1]
        exact hA.2.1 l (by omega)
      · by_cases q : k = c 2
        · rw [q, e4, e5, e6, e7, hnew.2.1, hnew.2.2.1, hnew.2.2.2.1, hnew.2.2.2.2]
          exact ⟨rfl, rfl, rfl, hnd.elim (fun z => Or.inl ⟨z.2, z.1⟩) (fun ⟨z, z1, z2, z3⟩ => Or.inr ⟨z, z1, z3, z2⟩)⟩
        · rw [eo 4 k (Or.inr q), eo 5 k (Or.inr q), eo 6 k (Or.inr q), eo 7 k (Or.inr q), (hnew.1 k q).1, (hnew.1 k q).2.1, (hnew.1 k q).2.2.1, (hnew.1 k q).2.2.2]
          exact hA.2.2 k (by omega)
    have k698 : ∀ m W, m ≤ mc + 12 → ∀ s9, s9 ≤ ms + 2112 → LW (xy C) e0 a aa av c2 i2 j2 p2 R 14 W → G C W m s9 698 [(21, .int (nI (1 + g))), (20, .int (nI (4000 + f))), (19, .int (nI ln)), (18, .int (nI pN)), (17, .int (nI D)), (16, .int (nI Y)), (14, .int (nI t)), (13, .int (nI T)), (12, .int (nI 1)), (11, .int (nI (c 2))), (10, .int (nI 4)), (0, .ref b), (1, .ref a), (2, .ref (aa 0)), (3, .ref (aa 1)), (4, .ref (aa 2)), (5, .ref (aa 3)), (6, .ref (aa 4)), (7, .ref (aa 5)), (8, .ref (aa 6)), (9, .ref (aa 7))] [] := by
      intro m W hm s9 hs9 hW
      refine g_aload_n E dL_law_698 rfl 12 rfl ?_
      refine g_iload E dL_law_699 9 rfl ?_
      refine k_from E hW hK2 (k := c 2) (by omega) gL_law_X5_from ⟨Nat.le_of_ble_eq_true rfl, Nat.le_of_ble_eq_true rfl⟩ (Nat.le_of_ble_eq_true rfl) dL_law_701 ⟨by show _ ≤ 646545; omega, by show _ ≤ 7162134; omega⟩ (fun W hW => ?_)
      rw [show froV i2 p2 (c 2) = nI F from eF]
      refine g_iload E dL_law_704 1 rfl ?_
      refine n_icmp_gt (tgt := 738) E (by omega) (by omega) dL_law_706 (by decide) (fun z => by omega) (fun c_706 => ?_)
      refine g_aload_n E dL_law_709 rfl 12 rfl ?_
      refine g_iload E dL_law_710 9 rfl ?_
      refine k_end E hW hK2 (k := c 2) (by omega) gL_law_X5_end ⟨Nat.le_of_ble_eq_true rfl, Nat.le_of_ble_eq_true rfl⟩ (Nat.le_of_ble_eq_true rfl) dL_law_712 ⟨by show _ ≤ 646545; omega, by show _ ≤ 7162134; omega⟩ (fun W hW => ?_)
      rw [show endV i2 p2 (c 2) = nI G9 from eG]
      refine g_iload E dL_law_715 1 rfl ?_
      refine g_iload E dL_law_717 0 rfl ?_
      refine n_iadd E dL_law_719 ?_
      refine n_icmp_lt (tgt := 738) E (by omega) (by omega) dL_law_720 (by decide) (fun z => by omega) (fun c_720 => ?_)
      refine g_aload_n E dL_law_723 rfl 12 rfl ?_
      refine g_iload E dL_law_724 9 rfl ?_
      refine k_fine E hW hK2 (k := c 2) (by omega) gL_law_X5_fine ⟨Nat.le_of_ble_eq_true rfl, Nat.le_of_ble_eq_true rfl⟩ (Nat.le_of_ble_eq_true rfl) dL_law_726 ⟨by show _ ≤ 646545; omega, by show _ ≤ 7162134; omega⟩ (fun W hW => ?_)
      rw [hfi]
      refine g_lconst (v := 0) E dL_law_729 (by decide) ?_
      refine g_lcmp E dL_law_730 ?_
      refine g_if_ne (tgt := 738) E dL_law_731 (by decide) (fun z => absurd ((lg_cmp_eq _ _).mpr (by decide)) z) (fun c_731 => ?_)
      refine g_iconst (v := nI 1) E dL_law_734 (by decide) ?_
      refine g_goto (tgt := 739) E dL_law_735 (by decide) ?_
      refine g_istore (L' := [(12, .int (nI 1)), (21, .int (nI (1 + g))), (20, .int (nI (4000 + f))), (19, .int (nI ln)), (18, .int (nI pN)), (17, .int (nI D)), (16, .int (nI Y)), (14, .int (nI t)), (13, .int (nI T)), (11, .int (nI (c 2))), (10, .int (nI 4)), (0, .ref b), (1, .ref a), (2, .ref (aa 0)), (3, .ref (aa 1)), (4, .ref (aa 2)), (5, .ref (aa 3)), (6, .ref (aa 4)), (7, .ref (aa 5)), (8, .ref (aa 6)), (9, .ref (aa 7))]) E dL_law_739 (by decide) rfl ?_
      refine g_iinc (v := nI (c 2 + 1)) (L' := [(11, .int (nI (c 2 + 1))), (12, .int (nI 1)), (21, .int (nI (1 + g))), (20, .int (nI (4000 + f))), (19, .int (nI ln)), (18, .int (nI pN)), (17, .int (nI D)), (16, .int (nI Y)), (14, .int (nI t)), (13, .int (nI T)), (10, .int (nI 4)), (0, .ref b), (1, .ref a), (2, .ref (aa 0)), (3, .ref (aa 1)), (4, .ref (aa 2)), (5, .ref (aa 3)), (6, .ref (aa 4)), (7, .ref (aa 5)), (8, .ref (aa 6)), (9, .ref (aa 7))]) E dL_law_741 9 rfl (nI_1 (c 2)) (by decide) rfl ?_
      refine g_goto (tgt := 1435) E dL_law_744 (by decide) ?_
      refine g_locals [(12, .int (nI 1)), (19, .int (nI ln)), (18, .int (nI pN)), (16, .int (nI Y)), (14, .int (nI t)), (13, .int (nI T)), (11, .int (nI (c 2 + 1))), (10, .int (nI 4)), (0, .ref b), (1, .ref a), (2, .ref (aa 0)), (3, .ref (aa 1)), (4, .ref (aa 2)), (5, .ref (aa 3)), (6, .ref (aa 4)), (7, .ref (aa 5)), (8, .ref (aa 6)), (9, .ref (aa 7))] [1, 4, 5, 7, 8, 9, 0, 10, 11, 12, 13, 14, 15, 16, 17, 18, 19, 20] rfl ?_
      have h9 := kk av c2 i2 j2 p2 R N W hW hK2 hA2 (hc0.trans h4) (by omega) (by omega)
      rw [hc2] at h9
      exact g_widen (by omega) (by omega) h9
    refine g_iload E dL_law_674 9 rfl ?_
    refine n_icmp_ne (tgt := 738) E (by omega) (by omega) dL_law_676 (by decide) (fun z => absurd rfl z) (fun c_676 => ?_)
    refine g_aload_n E dL_law_679 rfl 12 rfl ?_
    refine g_iload E dL_law_680 9 rfl ?_
    refine k_state E hW hK2 (k := c 2) (by omega) gL_law_X5_state ⟨Nat.le_of_ble_eq_true rfl, Nat.le_of_ble_eq_true rfl⟩ (Nat.le_of_ble_eq_true rfl) dL_law_682 ⟨by show _ ≤ 646545; omega, by show _ ≤ 7162134; omega⟩ (fun W hW => ?_)
    rcases hst with hst | hst
    · refine g_if_eq (tgt := 698) E dL_law_685 (by decide) (fun c_685 => ?_) (fun z => absurd hst z)
      exact k698 _ _ (by omega) _ (by omega) hW
    · refine g_if_eq (tgt := 698) E dL_law_685 (by decide) (fun z => absurd (hst.symm.trans z) (by decide)) (fun c_685 => ?_)
      refine g_aload_n E dL_law_688 rfl 12 rfl ?_
      refine g_iload E dL_law_689 9 rfl ?_
      refine k_state E hW hK2 (k := c 2) (by omega) gL_law_X5_state ⟨Nat.le_of_ble_eq_true rfl, Nat.le_of_ble_eq_true rfl⟩ (Nat.le_of_ble_eq_true rfl) dL_law_691 ⟨by show _ ≤ 646545; omega, by show _ ≤ 7162134; omega⟩ (fun W hW => ?_)
      refine g_iconst (v := nI 1) E dL_law_694 (by decide) ?_
      refine g_icmp_ne (tgt := 738) E dL_law_695 (by decide) (fun z => absurd hst z) (fun c_695 => ?_)
      exact k698 _ _ (by omega) _ (by omega) hW
  have k633 : ∀ f m : Nat, f < 600 → (m = 12 ∨ m = 40) → G C W mc ms 633 [(20, .int (nI (4000 + f))), (19, .int (nI ln)), (18, .int (nI pN)), (17, .int (nI D)), (16, .int (nI Y)), (14, .int (nI t)), (13, .int (nI T)), (12, .int (nI 1)), (11, .int (nI (c 2))), (10, .int (nI 4)), (0, .ref b), (1, .ref a), (2, .ref (aa 0)), (3, .ref (aa 1)), (4, .ref (aa 2)), (5, .ref (aa 3)), (6, .ref (aa 4)), (7, .ref (aa 5)), (8, .ref (aa 6)), (9, .ref (aa 7))] [.int (nI m), .int (nI (Y / 2 ^ 13)), .int (nI 1)] := by
    intro f m hf hm
    refine n_irem E (by omega) (by omega) (by omega) dL_law_633 ?_
    refine n_iadd E dL_law_634 ?_
    obtain ⟨g, hg⟩ : ∃ g, g = Y / 2 ^ 13 % m := ⟨_, rfl⟩
    have hg40 : g < 40 := by
      have := Nat.mod_lt (Y / 2 ^ 13) (show 0 < m by omega)
      omega
    rw [← hg]
    refine g_istore (L' := [(21, .int (nI (1 + g))), (20, .int (nI (4000 + f))), (19, .int (nI ln)), (18, .int (nI pN)), (17, .int (nI D)), (16, .int (nI Y)), (14, .int (nI t)), (13, .int (nI T)), (12, .int (nI 1)), (11, .int (nI (c 2))), (10, .int (nI 4)), (0, .ref b), (1, .ref a), (2, .ref (aa 0)), (3, .ref (aa 1)), (4, .ref (aa 2)), (5, .ref (aa 3)), (6, .ref (aa 4)), (7, .ref (aa 5)), (8, .ref (aa 6)), (9, .ref (aa 7))]) E dL_law_635 (by decide) rfl ?_
    refine g_aload_n E dL_law_637 rfl 12 rfl ?_
    refine g_aload E dL_law_638 19 rfl ?_
    refine g_iload E dL_law_640 9 rfl ?_
    refine l_ald E hW 6 (c 2) (by decide) (by show _ < 40; omega) dL_law_642 ?_
    rw [e6]
    refine g_aload E dL_law_643 17 rfl ?_
    refine g_iload E dL_law_645 9 rfl ?_
    refine l_ald E hW 4 (c 2) (by decide) (by show _ < 40; omega) dL_law_647 ?_
    rw [e4]
    refine g_iload E dL_law_648 1 rfl ?_
    refine g_iload E dL_law_650 0 rfl ?_
    refine g_aload E dL_law_652 20 rfl ?_
    refine g_iload E dL_law_654 9 rfl ?_
    refine l_ald E hW 7 (c 2) (by decide) (by show _ < 40; omega) dL_law_656 ?_
    rw [e7]
    refine g_aload E dL_law_657 18 rfl ?_
    refine g_iload E dL_law_659 9 rfl ?_
    refine l_ald E hW 5 (c 2) (by decide) (by show _ < 40; omega) dL_law_661 ?_
    rw [e5]
    refine g_iconst (v := nI 1) E dL_law_662 (by decide) ?_
    rcases hu with rfl | rfl
    · refine n_icmp_ne (tgt := 670) E (by omega) (by omega) dL_law_663 (by decide) (fun c_663 => ?_) (fun z => absurd z (by decide))
      refine g_iconst (v := nI 0) E dL_law_670 (by decide) ?_
      exact k671 f g hf hg40 W hW
    · refine n_icmp_ne (tgt := 670) E (by omega) (by omega) dL_law_663 (by decide) (fun z => absurd rfl z) (fun c_663 => ?_)
      refine g_iconst (v := nI 1) E dL_law_666 (by decide) ?_
      refine g_goto (tgt := 671) E dL_law_667 (by decide) ?_
      exact k671 f g hf hg40 W hW
  have k607 : ∀ f : Nat, f < 600 → G C W mc ms 607 [(19, .int (nI ln)), (18, .int (nI pN)), (17, .int (nI D)), (16, .int (nI Y)), (14, .int (nI t)), (13, .int (nI T)), (12, .int (nI 1)), (11, .int (nI (c 2))), (10, .int (nI 4)), (0, .ref b), (1, .ref a), (2, .ref (aa 0)), (3, .ref (aa 1)), (4, .ref (aa 2)), (5, .ref (aa 3)), (6, .ref (aa 4)), (7, .ref (aa 5)), (8, .ref (aa 6)), (9, .ref (aa 7))] [.int (nI f), .int (nI 4000)] := by
    intro f hf
    refine n_iadd E dL_law_607 ?_
    refine g_istore (L' := [(20, .int (nI (4000 + f))), (19, .int (nI ln)), (18, .int (nI pN)), (17, .int (nI D)), (16, .int (nI Y)), (14, .int (nI t)), (13, .int (nI T)), (12, .int (nI 1)), (11, .int (nI (c 2))), (10, .int (nI 4)), (0, .ref b), (1, .ref a), (2, .ref (aa 0)), (3, .ref (aa 1)), (4, .ref (aa 2)), (5, .ref (aa 3)), (6, .ref (aa 4)), (7, .ref (aa 5)), (8, .ref (aa 6)), (9, .ref (aa 7))]) E dL_law_608 (by decide) rfl ?_
    refine g_iconst (v := nI 1) E dL_law_610 (by decide) ?_
    refine g_iload E dL_law_611 4 rfl ?_
    refine g_bipush (v := nI 13) E dL_law_613 (by decide) ?_
    refine n_ishr E (by omega) (by decide) dL_law_615 ?_
    refine g_iload E dL_law_616 4 rfl ?_
    refine g_bipush (v := nI 9) E dL_law_618 (by decide) ?_
    refine n_ishr E (by omega) (by decide) dL_law_620 ?_
    refine g_iconst (v := nI 1) E dL_law_621 (by decide) ?_
    refine g_iand E dL_law_622 ?_
    rw [pk_andN (n := Y / 2 ^ 9) (by omega) 1 rfl]
    by_cases hz : Y / 2 ^ 9 % 2 ^ 1 = 0
    · refine g_if_ne (tgt := 631) E dL_law_623 (by decide) (fun z => absurd (by rw [hz]; rfl) z) (fun c_623 => ?_)
      refine g_bipush (v := nI 12) E dL_law_626 (by decide) ?_
      refine g_goto (tgt := 633) E dL_law_628 (by decide) ?_
      exact k633 f 12 hf (Or.inl rfl)
    · refine g_if_ne (tgt := 631) E dL_law_623 (by decide) (fun c_623 => ?_) (fun z => absurd z (nI_ne0 (by omega) (by omega)))
      refine g_bipush (v := nI 40) E dL_law_631 (by decide) ?_
      exact k633 f 40 hf (Or.inr rfl)
  refine g_sipush (v := nI 4000) E dL_law_574 (by decide) ?_
  refine g_iload E dL_law_577 3 rfl ?_
  refine g_bipush (v := nI 9) E dL_law_579 (by decide) ?_
  refine n_ishr E (by omega) (by decide) dL_law_581 ?_
  refine g_iconst (v := nI 3) E dL_law_582 (by decide) ?_
  refine g_iand E dL_law_583 ?_
  rw [pk_andN (n := Y / 2 ^ 9) (by omega) 2 rfl]
  by_cases hz : Y / 2 ^ 9 % 2 ^ 2 = 0
  · refine g_if_ne (tgt := 599) E dL_law_584 (by decide) (fun z => absurd (by rw [hz]; rfl) z) (fun c_584 => ?_)
    refine g_iload E dL_law_587 3 rfl ?_
    refine g_bipush (v := nI 11) E dL_law_589 (by decide) ?_
    refine n_ishr E (by omega) (by decide) dL_law_591 ?_
    refine g_sipush (v := nI 600) E dL_law_592 (by decide) ?_
    refine n_irem E (by omega) (by omega) (by omega) dL_law_595 ?_
    refine g_goto (tgt := 607) E dL_law_596 (by decide) ?_
    exact k607 _ (by omega)
  · refine g_if_ne (tgt := 599) E dL_law_584 (by decide) (fun c_584 => ?_) (fun z => absurd z (nI_ne0 (by omega) (by omega)))
    refine g_iload E dL_law_599 3 rfl ?_
    refine g_bipush (v := nI 11) E dL_law_601 (by decide) ?_
    refine n_ishr E (by omega) (by decide) dL_law_603 ?_
    refine g_bipush (v := nI 40) E dL_law_604 (by decide) ?_
    refine n_irem E (by omega) (by omega) (by omega) dL_law_606 ?_
    exact k607 _ (by omega)
set_option maxHeartbeats 4000000 in
set_option maxRecDepth 100000 in
theorem z_apply (E : gOk C cL_law 27 wsL_law RL e0 room_1) (hW : LW (xy C) e0 a aa av c i j p r 14 W) (hK : KN c i j p r 14 N) (hA : LA c i p r av) (h4 : c 0 = 4) (hln : ln < 4) (hY : Y < 2 ^ 28) (hmc : mc + 1000 ≤ 646545) (hms : ms + 8000 ≤ 7162134) (hN : N ≤ 4000) (hc40 : c 2 < 40) (hpN : pN < c 2 ∨ (c 2 = 0 ∧ pN = 0)) (kk : ∀ (av : Nat → Nat → Int32) (c : Nat → Nat) (i : Nat → Nat → Int32) (j : Nat → Nat → Int64) (p : Nat → Nat → Option Nat) (r : Nat → Nat → Int32) (N' : Nat) (W : va_W), LW (xy C) e0 a aa av c i j p r 14 W → KN c i j p r 14 N' → LA c i p r av → c 0 = 4 → N' ≤ N + 20 → (pN < c 2 ∨ c 2 = 0) → G C W (mc + 150) (ms + 3000) 1435 [(12, .int (nI 1)), (19, .int (nI ln)), (18, .int (nI pN)), (16, .int (nI Y)), (14, .int (nI t)), (13, .int (nI T)), (11, .int (nI (c 2))), (10, .int (nI 4)), (0, .ref b), (1, .ref a), (2, .ref (aa 0)), (3, .ref (aa 1)), (4, .ref (aa 2)), (5, .ref (aa 3)), (6, .ref (aa 4)), (7, .ref (aa 5)), (8, .ref (aa 6)), (9, .ref (aa 7))] []) : G C W mc ms 500 [(19, .int (nI ln)), (18, .int (nI pN)), (17, .int (nI D)), (16, .int (nI Y)), (14, .int (nI t)), (13, .int (nI T)), (12, .int (nI 1)), (11, .int (nI (c 2))), (10, .int (nI 4)), (0, .ref b), (1, .ref a), (2, .ref (aa 0)), (3, .ref (aa 1)), (4, .ref (aa 2)), (5, .ref (aa 3)), (6, .ref (aa 4)), (7, .ref (aa 5)), (8, .ref (aa 6)), (9, .ref (aa 7))] [] := by
  have hb := hK.b
  refine g_aload E dL_law_500 17 rfl ?_
  refine g_iload E dL_law_502 7 rfl ?_
  refine g_iload E dL_law_504 3 rfl ?_
  refine g_bipush (v := nI 6) E dL_law_506 (by decide) ?_
  refine n_irem E (by omega) (by omega) (by omega) dL_law_508 ?_
  refine l_ast E hW 6 (c 2) (by decide) (by show _ < 40; omega) dL_law_509 (fun W hW => ?_)
  refine g_aload E dL_law_510 15 rfl ?_
  refine g_iload E dL_law_512 7 rfl ?_
  refine g_iload E dL_law_514 3 rfl ?_
  refine g_iconst (v := nI 3) E dL_law_516 (by decide) ?_
  refine n_ishr E (by omega) (by decide) dL_law_517 ?_
  refine g_bipush (v := nI 14) E dL_law_518 (by decide) ?_
  refine n_irem E (by omega) (by omega) (by omega) dL_law_520 ?_
  refine l_ast E hW 4 (c 2) (by decide) (by show _ < 40; omega) dL_law_521 (fun W hW => ?_)
  refine g_aload E dL_law_522 16 rfl ?_
  refine g_iload E dL_law_524 7 rfl ?_
  refine g_iload E dL_law_526 3 rfl ?_
  refine g_bipush (v := nI 7) E dL_law_528 (by decide) ?_
  refine n_ishr E (by omega) (by decide) dL_law_530 ?_
  refine g_iconst (v := nI 3) E dL_law_531 (by decide) ?_
  refine g_iand E dL_law_532 ?_
  rw [pk_andN (n := Y / 2 ^ 7) (by omega) 2 rfl]
  have k573 : ∀ (W : va_W) (u : Nat) (nd : Int32) (pn : Option Nat), LW (xy C) e0 a aa (up2 (up2 (up2 av 6 (c 2) (nI (Y % 6))) 4 (c 2) (nI (Y / 2 ^ 3 % 14))) 5 (c 2) (nI u)) c i j p r 14 W → (u = 0 ∨ u = 1) → ((nd = -1 ∧ pn = none) ∨ ∃ z, z < c 2 ∧ nd = nI z ∧ pn = some z) → G C W mc ms 573 [(19, .int (nI ln)), (18, .int (nI pN)), (17, .int (nI D)), (16, .int (nI Y)), (14, .int (nI t)), (13, .int (nI T)), (12, .int (nI 1)), (11, .int (nI (c 2))), (10, .int (nI 4)), (0, .ref b), (1, .ref a), (2, .ref (aa 0)), (3, .ref (aa 1)), (4, .ref (aa 2)), (5, .ref (aa 3)), (6, .ref (aa 4)), (7, .ref (aa 5)), (8, .ref (aa 6)), (9, .ref (aa 7))] [.int nd, .int (nI (c 2)), .ref (aa 7)] := by
    intro W u nd pn hW hu hnd
    refine l_ast E hW 7 (c 2) (by decide) (by show _ < 40; omega) dL_law_573 (fun W hW => ?_)
    exact z_apply2 E rfl hW hK hA h4 hln hY hmc hms hN hc40 hpN hu hnd kk
  have k541 : ∀ (u : Nat), (u = 0 ∨ u = 1) → G C W mc ms 541 [(19, .int (nI ln)), (18, .int (nI pN)), (17, .int (nI D)), (16, .int (nI Y)), (14, .int (nI t)), (13, .int (nI T)), (12, .int (nI 1)), (11, .int (nI (c 2))), (10, .int (nI 4)), (0, .ref b), (1, .ref a), (2, .ref (aa 0)), (3, .ref (aa 1)), (4, .ref (aa 2)), (5, .ref (aa 3)), (6, .ref (aa 4)), (7, .ref (aa 5)), (8, .ref (aa 6)), (9, .ref (aa 7))] [.int (nI u), .int (nI (c 2)), .ref (aa 5)] := by
    intro u hu
    refine l_ast E hW 5 (c 2) (by decide) (by show _ < 40; omega) dL_law_541 (fun W hW => ?_)
    refine g_aload E dL_law_542 18 rfl ?_
    refine g_iload E dL_law_544 7 rfl ?_
    refine g_iload E dL_law_546 7 rfl ?_
    by_cases h0 : c 2 = 0
    · refine g_if_eq (tgt := 561) E dL_law_548 (by decide) (fun c_548 => ?_) (fun z => absurd (by rw [h0]; rfl) z)
      refine g_iconst (v := (-1)) E dL_law_561 (by decide) ?_
      refine g_goto (tgt := 573) E dL_law_562 (by decide) ?_
      exact k573 W u _ none hW hu (Or.inl ⟨rfl, rfl⟩)
    · refine g_if_eq (tgt := 561) E dL_law_548 (by decide) (fun z => absurd z (nI_ne0 (by omega) (by omega))) (fun c_548 => ?_)
      refine g_iload E dL_law_551 3 rfl ?_
      refine g_bipush (v := nI 18) E dL_law_553 (by decide) ?_
      refine n_ishr E (by omega) (by decide) dL_law_555 ?_
      refine g_iconst (v := nI 1) E dL_law_556 (by decide) ?_
      refine g_iand E dL_law_557 ?_
      rw [pk_andN (n := Y / 2 ^ 18) (by omega) 1 rfl]
      by_cases hz : Y / 2 ^ 18 % 2 ^ 1 = 0
      · refine g_if_ne (tgt := 565) E dL_law_558 (by decide) (fun z => absurd (by rw [hz]; rfl) z) (fun c_558 => ?_)
        refine g_iconst (v := (-1)) E dL_law_561 (by decide) ?_
        refine g_goto (tgt := 573) E dL_law_562 (by decide) ?_
        exact k573 W u _ none hW hu (Or.inl ⟨rfl, rfl⟩)
      · refine g_if_ne (tgt := 565) E dL_law_558 (by decide) (fun c_558 => ?_) (fun z => absurd z (nI_ne0 (by omega) (by omega)))
        refine g_iload E dL_law_565 3 rfl ?_
        refine g_bipush (v := nI 19) E dL_law_567 (by decide) ?_
        refine n_ishr E (by omega) (by decide) dL_law_569 ?_
        refine g_iload E dL_law_570 7 rfl ?_
        refine n_irem E (by omega) (by omega) (by omega) dL_law_572 ?_
        exact k573 W u _ (some (Y / 2 ^ 19 % c 2)) hW hu (Or.inr ⟨_, Nat.mod_lt _ (by omega), rfl, rfl⟩)
  by_cases hz : Y / 2 ^ 7 % 2 ^ 2 = 0
  · refine g_if_ne (tgt := 540) E dL_law_533 (by decide) (fun z => absurd (by rw [hz]; rfl) z) (fun c_533 => ?_)
    refine g_iconst (v := nI 1) E dL_law_536 (by decide) ?_
    refine g_goto (tgt := 541) E dL_law_537 (by decide) ?_
    exact k541 1 (Or.inr rfl)
  · refine g_if_ne (tgt := 540) E dL_law_533 (by decide) (fun c_533 => ?_) (fun z => absurd z (nI_ne0 (by omega) (by omega)))
    refine g_iconst (v := nI 0) E dL_law_540 (by decide) ?_
    exact k541 0 (Or.inl rfl)
end LZ
