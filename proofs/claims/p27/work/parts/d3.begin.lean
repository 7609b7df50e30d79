/-! the law: a dig begins -/
section LZ
variable {C : gT} {e0 a b : Nat} {aa : Nat → Nat} {av : Nat → Nat → Int32} {c : Nat → Nat} {i : Nat → Nat → Int32} {j : Nat → Nat → Int64} {p : Nat → Nat → Option Nat} {r : Nat → Nat → Int32} {N : Nat} {W : va_W} {mc ms Y D pN ln t T : Nat}
set_option maxHeartbeats 4000000 in
set_option maxRecDepth 100000 in
theorem z_begin (E : gOk C cL_law 27 wsL_law RL e0 room_1) (hW : LW (xy C) e0 a aa av c i j p r 14 W) (hK : KN c i j p r 14 N) (hA : LA c i p r av) (h4 : c 0 = 4) (hln : ln < 4) (hY : Y < 2 ^ 28) (hmc : mc + 1000 ≤ 646545) (hms : ms + 8000 ≤ 7162134) (hpN : pN < c 2) (kk : ∀ (av : Nat → Nat → Int32) (c : Nat → Nat) (i : Nat → Nat → Int32) (j : Nat → Nat → Int64) (p : Nat → Nat → Option Nat) (r : Nat → Nat → Int32) (N' : Nat) (W : va_W), LW (xy C) e0 a aa av c i j p r 14 W → KN c i j p r 14 N' → LA c i p r av → c 0 = 4 → N' ≤ N + 20 → (pN < c 2 ∨ c 2 = 0) → G C W (mc + 150) (ms + 3000) 1435 [(12, .int (nI 1)), (19, .int (nI ln)), (18, .int (nI pN)), (16, .int (nI Y)), (14, .int (nI t)), (13, .int (nI T)), (11, .int (nI (c 2))), (10, .int (nI 4)), (0, .ref b), (1, .ref a), (2, .ref (aa 0)), (3, .ref (aa 1)), (4, .ref (aa 2)), (5, .ref (aa 3)), (6, .ref (aa 4)), (7, .ref (aa 5)), (8, .ref (aa 6)), (9, .ref (aa 7))] []) : G C W mc ms 920 [(19, .int (nI ln)), (18, .int (nI pN)), (17, .int (nI D)), (16, .int (nI Y)), (14, .int (nI t)), (13, .int (nI T)), (12, .int (nI 1)), (11, .int (nI (c 2))), (10, .int (nI 4)), (0, .ref b), (1, .ref a), (2, .ref (aa 0)), (3, .ref (aa 1)), (4, .ref (aa 2)), (5, .ref (aa 3)), (6, .ref (aa 4)), (7, .ref (aa 5)), (8, .ref (aa 6)), (9, .ref (aa 7))] [] := by
  have hb := hK.b
  obtain ⟨f, e, ef, -, hfe, -, he5⟩ := hK.span hpN
  obtain ⟨-, -, ⟨ln2, hl2, el2⟩, -⟩ := hK.pm pN hpN
  have hA4 := (hA.2.2 pN hpN).1
  have k959 : ∀ (W : va_W), LW (xy C) e0 a aa av c i j p r 14 W → ∀ m s, m ≤ mc + 10 → s ≤ ms + 100 → ∀ cv : Nat, ((cv = 1 ∧ (i 11 pN = 0 ∧ ∀ z, p 1 pN = some z → i 11 z = 3)) ∨ (cv = 0 ∧ ¬ (i 11 pN = 0 ∧ ∀ z, p 1 pN = some z → i 11 z = 3))) → G C W m s 959 [(20, .int (i 11 pN)), (19, .int (nI ln)), (18, .int (nI pN)), (17, .int (nI D)), (16, .int (nI Y)), (14, .int (nI t)), (13, .int (nI T)), (12, .int (nI 1)), (11, .int (nI (c 2))), (10, .int (nI 4)), (0, .ref b), (1, .ref a), (2, .ref (aa 0)), (3, .ref (aa 1)), (4, .ref (aa 2)), (5, .ref (aa 3)), (6, .ref (aa 4)), (7, .ref (aa 5)), (8, .ref (aa 6)), (9, .ref (aa 7))] [.int (nI cv)] := by
    intro W hW m s hm hs cv hcv
    refine g_istore (L' := [(21, .int (nI cv)), (20, .int (i 11 pN)), (19, .int (nI ln)), (18, .int (nI pN)), (17, .int (nI D)), (16, .int (nI Y)), (14, .int (nI t)), (13, .int (nI T)), (12, .int (nI 1)), (11, .int (nI (c 2))), (10, .int (nI 4)), (0, .ref b), (1, .ref a), (2, .ref (aa 0)), (3, .ref (aa 1)), (4, .ref (aa 2)), (5, .ref (aa 3)), (6, .ref (aa 4)), (7, .ref (aa 5)), (8, .ref (aa 6)), (9, .ref (aa 7))]) E dL_law_959 (by decide) rfl ?_
    refine g_aload_n E dL_law_961 rfl 12 rfl ?_
    refine g_iconst (v := nI 1) E dL_law_962 (by decide) ?_
    refine g_iload E dL_law_963 3 rfl ?_
    refine g_iconst (v := nI 0) E dL_law_965 (by decide) ?_
    refine k_on_begin E hW hK (k := pN) hpN gL_law_L_on ⟨Nat.le_of_ble_eq_true rfl, Nat.le_of_ble_eq_true rfl⟩ (Nat.le_of_ble_eq_true rfl) dL_law_966 ⟨by show _ ≤ 646545; omega, by show _ ≤ 7162134; omega⟩ (fun h0 W hW => ?_) (fun h0 W hW => ?_)
    · obtain rfl : cv = 1 := hcv.elim (fun z => z.1) (fun z => absurd h0 z.2)
      have hK2 := hK.begin hpN h0
      rw [ef, hK.now]
      obtain ⟨i2, hi2⟩ : ∃ i2, i2 = up2 (up2 i 11 pN 2) 13 pN (i 18 0) := ⟨_, rfl⟩
      rw [hK.now] at hi2 hK2 hW
      rw [← hi2] at hK2 hW
      have e11 : i2 11 pN = 2 := by rw [hi2, up2_nf (by decide), up2_self]
      have eo : ∀ f, f ≠ 11 → f ≠ 13 → i2 f = i f := fun f h1 h2 => by rw [hi2, up2_nf h2, up2_nf h1]
      have hA2 : LA c i2 p r av := by
        refine ⟨hA.1, fun l hl => ?_, fun k hk => ?_⟩
        · rw [eo 1 (by decide) (by decide)]; exact hA.2.1 l hl
        · rw [eo 7 (by decide) (by decide), eo 10 (by decide) (by decide), eo 6 (by decide) (by decide)]; exact hA.2.2 k hk
      have ef2 : froV i2 p pN = nI f := by
        unfold froV at *
        rw [eo 8 (by decide) (by decide), eo 3 (by decide) (by decide)]; exact ef
      have hcl : ¬ opn (clM (fun k => i2 11 k) (fun k => i2 7 k) none (c 2)) ln2 := by
        rw [opn_bt (by omega)]
        have := (clM_bt (st := fun k => i2 11 k) (ln := fun k => i2 7 k) (sp := none) (n := c 2) (e := ln2) (by omega) hK2.lane).mpr ⟨pN, hpN, e11, by simp, by rw [eo 7 (by decide) (by decide)]; exact el2⟩
        rw [this]; decide
      have hle : ((nI f - nI N).toInt64).toInt = (f : Int) - N := by rw [Int32.toInt_toInt64, pk_sub_toInt (by omega) (by omega)]
      refine g_lstore (L' := [(22, .long ((nI f - nI N).toInt64)), (21, .int (nI 1)), (20, .int (i 11 pN)), (19, .int (nI ln)), (18, .int (nI pN)), (17, .int (nI D)), (16, .int (nI Y)), (14, .int (nI t)), (13, .int (nI T)), (12, .int (nI 1)), (11, .int (nI (c 2))), (10, .int (nI 4)), (0, .ref b), (1, .ref a), (2, .ref (aa 0)), (3, .ref (aa 1)), (4, .ref (aa 2)), (5, .ref (aa 3)), (6, .ref (aa 4)), (7, .ref (aa 5)), (8, .ref (aa 6)), (9, .ref (aa 7))]) E dL_law_969 (by decide) rfl ?_
      refine g_lload E dL_law_971 0 rfl ?_
      refine g_ldc2 (v := (-900013)) E (by decide +kernel) dL_law_973 ?_
      refine g_lcmp E dL_law_976 ?_
      refine g_if_eq (tgt := 984) E dL_law_977 (by decide) (fun z => absurd ((lg_cmp_eq _ _).mp z) (fun y => by have y2 := congrArg Int64.toInt y; rw [hle, show (-900013 : Int64).toInt = -900013 from by decide] at y2; omega)) (fun c_977 => ?_)
      refine g_iconst (v := nI 1) E dL_law_980 (by decide) ?_
      refine g_goto (tgt := 985) E dL_law_981 (by decide) ?_
      refine g_iload E dL_law_985 1 rfl ?_
      refine n_icmp_ne (tgt := 1044) E (by omega) (by omega) dL_law_987 (by decide) (fun z => absurd rfl z) (fun c_987 => ?_)
      refine g_aload_n E dL_law_990 rfl 13 rfl ?_
      refine g_iload E dL_law_991 4 rfl ?_
      refine k_state E hW hK2 (k := pN) hpN gL_law_X5_state ⟨Nat.le_of_ble_eq_true rfl, Nat.le_of_ble_eq_true rfl⟩ (Nat.le_of_ble_eq_true rfl) dL_law_993 ⟨by show _ ≤ 646545; omega, by show _ ≤ 7162134; omega⟩ (fun W hW => ?_)
      refine g_iload E dL_law_996 1 rfl ?_
      refine g_if_eq (tgt := 1005) E dL_law_998 (by decide) (fun z => absurd z (by decide)) (fun c_998 => ?_)
      refine g_iconst (v := nI 2) E dL_law_1001 (by decide) ?_
      refine g_goto (tgt := 1007) E dL_law_1002 (by decide) ?_
      refine g_icmp_ne (tgt := 1044) E dL_law_1007 (by decide) (fun z => absurd e11 z) (fun c_1007 => ?_)
      refine g_iload E dL_law_1010 1 rfl ?_
      refine g_if_eq (tgt := 1040) E dL_law_1012 (by decide) (fun z => absurd z (by decide)) (fun c_1012 => ?_)
      refine g_aload_n E dL_law_1015 rfl 13 rfl ?_
      refine g_aload E dL_law_1016 18 rfl ?_
      refine g_iload E dL_law_1018 4 rfl ?_
      refine l_ald E hW 4 pN (by decide) (by show _ < 40; omega) dL_law_1020 ?_
      rw [hA4, el2]
      refine k_isClosed E hW hK2 (k := ln2) (by omega) gL_law_X5_isClosed ⟨Nat.le_of_ble_eq_true rfl, Nat.le_of_ble_eq_true rfl⟩ (Nat.le_of_ble_eq_true rfl) dL_law_1021 ⟨by show _ ≤ 646545; omega, by show _ ≤ 7162134; omega⟩ (fun W hW => ?_)
      refine g_if_eq (tgt := 1044) E dL_law_1024 (by decide) (fun z => absurd z (bI_ne0.mpr hcl)) (fun c_1024 => ?_)
      refine g_lload E dL_law_1027 0 rfl ?_
      refine g_aload_n E dL_law_1029 rfl 13 rfl ?_
      refine g_iload E dL_law_1030 4 rfl ?_
      refine k_from E hW hK2 (k := pN) hpN gL_law_X5_from ⟨Nat.le_of_ble_eq_true rfl, Nat.le_of_ble_eq_true rfl⟩ (Nat.le_of_ble_eq_true rfl) dL_law_1032 ⟨by show _ ≤ 646545; omega, by show _ ≤ 7162134; omega⟩ (fun W hW => ?_)
      rw [ef2]
      refine g_i2l E dL_law_1035 ?_
      refine g_lcmp E dL_law_1036 ?_
      refine g_if_gt (tgt := 1044) E dL_law_1037 (by decide) (fun z => absurd ((lg_cmp_gt _ _).mp z) (fun y => by rw [Int64.lt_iff_toInt_lt, hle, Int32.toInt_toInt64, nI_toInt (by omega)] at y; omega)) (fun c_1037 => ?_)
      refine g_iconst (v := nI 1) E dL_law_1040 (by decide) ?_
      refine g_goto (tgt := 1045) E dL_law_1041 (by decide) ?_
      refine g_istore (L' := [(12, .int (nI 1)), (22, .long ((nI f - nI N).toInt64)), (21, .int (nI 1)), (20, .int (i 11 pN)), (19, .int (nI ln)), (18, .int (nI pN)), (17, .int (nI D)), (16, .int (nI Y)), (14, .int (nI t)), (13, .int (nI T)), (11, .int (nI (c 2))), (10, .int (nI 4)), (0, .ref b), (1, .ref a), (2, .ref (aa 0)), (3, .ref (aa 1)), (4, .ref (aa 2)), (5, .ref (aa 3)), (6, .ref (aa 4)), (7, .ref (aa 5)), (8, .ref (aa 6)), (9, .ref (aa 7))]) E dL_law_1045 (by decide) rfl ?_
      refine g_goto (tgt := 1435) E dL_law_1047 (by decide) ?_
      refine g_locals [(12, .int (nI 1)), (19, .int (nI ln)), (18, .int (nI pN)), (16, .int (nI Y)), (14, .int (nI t)), (13, .int (nI T)), (11, .int (nI (c 2))), (10, .int (nI 4)), (0, .ref b), (1, .ref a), (2, .ref (aa 0)), (3, .ref (aa 1)), (4, .ref (aa 2)), (5, .ref (aa 3)), (6, .ref (aa 4)), (7, .ref (aa 5)), (8, .ref (aa 6)), (9, .ref (aa 7))] [0, 4, 5, 7, 8, 9, 10, 11, 12, 13, 14, 15, 16, 17, 18, 19, 20, 21] rfl ?_
      exact g_widen (by omega) (by omega) (kk av c i2 j p r N W hW hK2 hA2 h4 (by omega) (Or.inl hpN))
    · obtain rfl : cv = 0 := hcv.elim (fun z => absurd z.2 h0) (fun z => z.1)
      refine g_lstore (L' := [(22, .long (-900013)), (21, .int (nI 0)), (20, .int (i 11 pN)), (19, .int (nI ln)), (18, .int (nI pN)), (17, .int (nI D)), (16, .int (nI Y)), (14, .int (nI t)), (13, .int (nI T)), (12, .int (nI 1)), (11, .int (nI (c 2))), (10, .int (nI 4)), (0, .ref b), (1, .ref a), (2, .ref (aa 0)), (3, .ref (aa 1)), (4, .ref (aa 2)), (5, .ref (aa 3)), (6, .ref (aa 4)), (7, .ref (aa 5)), (8, .ref (aa 6)), (9, .ref (aa 7))]) E dL_law_969 (by decide) rfl ?_
      refine g_lload E dL_law_971 0 rfl ?_
      refine g_ldc2 (v := (-900013)) E (by decide +kernel) dL_law_973 ?_
      refine g_lcmp E dL_law_976 ?_
      refine g_if_eq (tgt := 984) E dL_law_977 (by decide) (fun c_977 => ?_) (fun z => absurd ((lg_cmp_eq _ _).mpr rfl) z)
      refine g_iconst (v := nI 0) E dL_law_984 (by decide) ?_
      refine g_iload E dL_law_985 1 rfl ?_
      refine n_icmp_ne (tgt := 1044) E (by omega) (by omega) dL_law_987 (by decide) (fun z => absurd rfl z) (fun c_987 => ?_)
      refine g_aload_n E dL_law_990 rfl 13 rfl ?_
      refine g_iload E dL_law_991 4 rfl ?_
      refine k_state E hW hK (k := pN) hpN gL_law_X5_state ⟨Nat.le_of_ble_eq_true rfl, Nat.le_of_ble_eq_true rfl⟩ (Nat.le_of_ble_eq_true rfl) dL_law_993 ⟨by show _ ≤ 646545; omega, by show _ ≤ 7162134; omega⟩ (fun W hW => ?_)
      refine g_iload E dL_law_996 1 rfl ?_
      refine g_if_eq (tgt := 1005) E dL_law_998 (by decide) (fun c_998 => ?_) (fun z => absurd rfl z)
      refine g_iload E dL_law_1005 2 rfl ?_
      refine g_icmp_ne (tgt := 1044) E dL_law_1007 (by decide) (fun z => absurd rfl z) (fun c_1007 => ?_)
      refine g_iload E dL_law_1010 1 rfl ?_
      refine g_if_eq (tgt := 1040) E dL_law_1012 (by decide) (fun c_1012 => ?_) (fun z => absurd rfl z)
      refine g_iconst (v := nI 1) E dL_law_1040 (by decide) ?_
      refine g_goto (tgt := 1045) E dL_law_1041 (by decide) ?_
      refine g_istore (L' := [(12, .int (nI 1)), (22, .long (-900013)), (21, .int (nI 0)), (20, .int (i 11 pN)), (19, .int (nI ln)), (18, .int (nI pN)), (17, .int (nI D)), (16, .int (nI Y)), (14, .int (nI t)), (13, .int (nI T)), (11, .int (nI (c 2))), (10, .int (nI 4)), (0, .ref b), (1, .ref a), (2, .ref (aa 0)), (3, .ref (aa 1)), (4, .ref (aa 2)), (5, .ref (aa 3)), (6, .ref (aa 4)), (7, .ref (aa 5)), (8, .ref (aa 6)), (9, .ref (aa 7))]) E dL_law_1045 (by decide) rfl ?_
      refine g_goto (tgt := 1435) E dL_law_1047 (by decide) ?_
      refine g_locals [(12, .int (nI 1)), (19, .int (nI ln)), (18, .int (nI pN)), (16, .int (nI Y)), (14, .int (nI t)), (13, .int (nI T)), (11, .int (nI (c 2))), (10, .int (nI 4)), (0, .ref b), (1, .ref a), (2, .ref (aa 0)), (3, .ref (aa 1)), (4, .ref (aa 2)), (5, .ref (aa 3)), (6, .ref (aa 4)), (7, .ref (aa 5)), (8, .ref (aa 6)), (9, .ref (aa 7))] [0, 4, 5, 7, 8, 9, 10, 11, 12, 13, 14, 15, 16, 17, 18, 19, 20, 21] rfl ?_
      exact g_widen (by omega) (by omega) (kk av c i j p r N W hW hK hA h4 (by omega) (Or.inl hpN))
  refine g_aload_n E dL_law_920 rfl 10 rfl ?_
  refine g_iload E dL_law_921 1 rfl ?_
  refine k_state E hW hK (k := pN) hpN gL_law_X5_state ⟨Nat.le_of_ble_eq_true rfl, Nat.le_of_ble_eq_true rfl⟩ (Nat.le_of_ble_eq_true rfl) dL_law_923 ⟨by show _ ≤ 646545; omega, by show _ ≤ 7162134; omega⟩ (fun W hW => ?_)
  refine g_istore (L' := [(20, .int (i 11 pN)), (19, .int (nI ln)), (18, .int (nI pN)), (17, .int (nI D)), (16, .int (nI Y)), (14, .int (nI t)), (13, .int (nI T)), (12, .int (nI 1)), (11, .int (nI (c 2))), (10, .int (nI 4)), (0, .ref b), (1, .ref a), (2, .ref (aa 0)), (3, .ref (aa 1)), (4, .ref (aa 2)), (5, .ref (aa 3)), (6, .ref (aa 4)), (7, .ref (aa 5)), (8, .ref (aa 6)), (9, .ref (aa 7))]) E dL_law_926 (by decide) rfl ?_
  refine g_iload E dL_law_928 0 rfl ?_
  by_cases h0 : i 11 pN = 0
  · refine g_if_ne (tgt := 958) E dL_law_930 (by decide) (fun z => absurd h0 z) (fun c_930 => ?_)
    refine g_aload E dL_law_933 19 rfl ?_
    refine g_iload E dL_law_935 2 rfl ?_
    refine l_ald E hW 7 pN (by decide) (by show _ < 40; omega) dL_law_937 ?_
    rcases (hA.2.2 pN hpN).2.2.2 with ⟨hp1, ha7⟩ | ⟨z, hzq, hp1, ha7⟩
    · refine g_if_lt (tgt := 954) E dL_law_938 (by decide) (fun c_938 => ?_) (fun z => absurd (by rw [ha7]; decide) z)
      refine g_iconst (v := nI 1) E dL_law_954 (by decide) ?_
      refine g_goto (tgt := 959) E dL_law_955 (by decide) ?_
      exact k959 W hW _ _ (by omega) (by omega) 1 (Or.inl ⟨rfl, h0, fun z hz => by rw [hp1] at hz; cases hz⟩)
    · refine g_if_lt (tgt := 954) E dL_law_938 (by decide) (fun z => absurd (by rw [ha7] at z; exact z) (nI_pos (by omega))) (fun c_938 => ?_)
      refine g_aload_n E dL_law_941 rfl 11 rfl ?_
      refine g_aload E dL_law_942 19 rfl ?_
      refine g_iload E dL_law_944 2 rfl ?_
      refine l_ald E hW 7 pN (by decide) (by show _ < 40; omega) dL_law_946 ?_
      rw [ha7]
      refine k_state E hW hK (k := z) (by omega) gL_law_X5_state ⟨Nat.le_of_ble_eq_true rfl, Nat.le_of_ble_eq_true rfl⟩ (Nat.le_of_ble_eq_true rfl) dL_law_947 ⟨by show _ ≤ 646545; omega, by show _ ≤ 7162134; omega⟩ (fun W hW => ?_)
      refine g_iconst (v := nI 3) E dL_law_950 (by decide) ?_
      by_cases h3 : i 11 z = nI 3
      · refine g_icmp_ne (tgt := 958) E dL_law_951 (by decide) (fun z => absurd h3 z) (fun c_951 => ?_)
        refine g_iconst (v := nI 1) E dL_law_954 (by decide) ?_
        refine g_goto (tgt := 959) E dL_law_955 (by decide) ?_
        exact k959 W hW _ _ (by omega) (by omega) 1 (Or.inl ⟨rfl, h0, fun z2 hz2 => by rw [hp1] at hz2; cases hz2; exact h3⟩)
      · refine g_icmp_ne (tgt := 958) E dL_law_951 (by decide) (fun c_951 => ?_) (fun z => absurd z h3)
        refine g_iconst (v := nI 0) E dL_law_958 (by decide) ?_
        exact k959 W hW _ _ (by omega) (by omega) 0 (Or.inr ⟨rfl, fun y => h3 (y.2 z hp1)⟩)
  · refine g_if_ne (tgt := 958) E dL_law_930 (by decide) (fun c_930 => ?_) (fun z => absurd z h0)
    refine g_iconst (v := nI 0) E dL_law_958 (by decide) ?_
    exact k959 W hW _ _ (by omega) (by omega) 0 (Or.inr ⟨rfl, fun y => h0 y.1⟩)
end LZ
