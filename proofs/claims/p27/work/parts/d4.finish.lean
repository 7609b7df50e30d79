/-! the law: a dig ends -/
section LZ
variable {C : gT} {e0 a b : Nat} {aa : Nat → Nat} {av : Nat → Nat → Int32} {c : Nat → Nat} {i : Nat → Nat → Int32} {j : Nat → Nat → Int64} {p : Nat → Nat → Option Nat} {r : Nat → Nat → Int32} {N : Nat} {W : va_W} {mc ms Y D pN ln t T : Nat}
set_option maxHeartbeats 4000000 in
set_option maxRecDepth 100000 in
theorem z_finish (E : gOk C cL_law 27 wsL_law RL e0 room_1) (hW : LW (xy C) e0 a aa av c i j p r 14 W) (hK : KN c i j p r 14 N) (hA : LA c i p r av) (h4 : c 0 = 4) (hln : ln < 4) (hY : Y < 2 ^ 28) (hmc : mc + 1000 ≤ 646545) (hms : ms + 8000 ≤ 7162134) (hpN : pN < c 2) (kk : ∀ (av : Nat → Nat → Int32) (c : Nat → Nat) (i : Nat → Nat → Int32) (j : Nat → Nat → Int64) (p : Nat → Nat → Option Nat) (r : Nat → Nat → Int32) (N' : Nat) (W : va_W), LW (xy C) e0 a aa av c i j p r 14 W → KN c i j p r 14 N' → LA c i p r av → c 0 = 4 → N' ≤ N + 20 → (pN < c 2 ∨ c 2 = 0) → G C W (mc + 150) (ms + 3000) 1435 [(12, .int (nI 1)), (19, .int (nI ln)), (18, .int (nI pN)), (16, .int (nI Y)), (14, .int (nI t)), (13, .int (nI T)), (11, .int (nI (c 2))), (10, .int (nI 4)), (0, .ref b), (1, .ref a), (2, .ref (aa 0)), (3, .ref (aa 1)), (4, .ref (aa 2)), (5, .ref (aa 3)), (6, .ref (aa 4)), (7, .ref (aa 5)), (8, .ref (aa 6)), (9, .ref (aa 7))] []) : G C W mc ms 1062 [(19, .int (nI ln)), (18, .int (nI pN)), (17, .int (nI D)), (16, .int (nI Y)), (14, .int (nI t)), (13, .int (nI T)), (12, .int (nI 1)), (11, .int (nI (c 2))), (10, .int (nI 4)), (0, .ref b), (1, .ref a), (2, .ref (aa 0)), (3, .ref (aa 1)), (4, .ref (aa 2)), (5, .ref (aa 3)), (6, .ref (aa 4)), (7, .ref (aa 5)), (8, .ref (aa 6)), (9, .ref (aa 7))] [] := by
  have hb := hK.b
  refine g_aload_n E dL_law_1062 rfl 10 rfl ?_
  refine g_iload E dL_law_1063 1 rfl ?_
  refine k_state E hW hK (k := pN) hpN gL_law_X5_state ⟨Nat.le_of_ble_eq_true rfl, Nat.le_of_ble_eq_true rfl⟩ (Nat.le_of_ble_eq_true rfl) dL_law_1065 ⟨by show _ ≤ 646545; omega, by show _ ≤ 7162134; omega⟩ (fun W hW => ?_)
  refine g_istore (L' := [(20, .int (i 11 pN)), (19, .int (nI ln)), (18, .int (nI pN)), (17, .int (nI D)), (16, .int (nI Y)), (14, .int (nI t)), (13, .int (nI T)), (12, .int (nI 1)), (11, .int (nI (c 2))), (10, .int (nI 4)), (0, .ref b), (1, .ref a), (2, .ref (aa 0)), (3, .ref (aa 1)), (4, .ref (aa 2)), (5, .ref (aa 3)), (6, .ref (aa 4)), (7, .ref (aa 5)), (8, .ref (aa 6)), (9, .ref (aa 7))]) E dL_law_1068 (by decide) rfl ?_
  refine g_aload_n E dL_law_1070 rfl 11 rfl ?_
  refine g_iload E dL_law_1071 2 rfl ?_
  refine k_fine E hW hK (k := pN) hpN gL_law_X5_fine ⟨Nat.le_of_ble_eq_true rfl, Nat.le_of_ble_eq_true rfl⟩ (Nat.le_of_ble_eq_true rfl) dL_law_1073 ⟨by show _ ≤ 646545; omega, by show _ ≤ 7162134; omega⟩ (fun W hW => ?_)
  refine g_lstore (L' := [(21, .long (2 * j 2 pN)), (20, .int (i 11 pN)), (19, .int (nI ln)), (18, .int (nI pN)), (17, .int (nI D)), (16, .int (nI Y)), (14, .int (nI t)), (13, .int (nI T)), (12, .int (nI 1)), (11, .int (nI (c 2))), (10, .int (nI 4)), (0, .ref b), (1, .ref a), (2, .ref (aa 0)), (3, .ref (aa 1)), (4, .ref (aa 2)), (5, .ref (aa 3)), (6, .ref (aa 4)), (7, .ref (aa 5)), (8, .ref (aa 6)), (9, .ref (aa 7))]) E dL_law_1076 (by decide) rfl ?_
  refine g_aload_n E dL_law_1078 rfl 12 rfl ?_
  refine g_iconst (v := nI 2) E dL_law_1079 (by decide) ?_
  refine g_iload E dL_law_1080 3 rfl ?_
  refine g_iconst (v := nI 0) E dL_law_1082 (by decide) ?_
  refine k_on_finish E hW hK (k := pN) hpN gL_law_L_on ⟨Nat.le_of_ble_eq_true rfl, Nat.le_of_ble_eq_true rfl⟩ (Nat.le_of_ble_eq_true rfl) dL_law_1083 ⟨by show _ ≤ 646545; omega, by show _ ≤ 7162134; omega⟩ (fun h0 W hW => ?_) (fun h0 W hW => ?_)
  · have hK2 := hK.finish hpN h0
    obtain ⟨i2, hi2⟩ : ∃ i2, i2 = up2 (up2 i 11 pN 3) 14 pN (i 18 0) := ⟨_, rfl⟩
    rw [← hi2] at hK2 hW
    have e11 : i2 11 pN = 3 := by rw [hi2, up2_nf (by decide), up2_self]
    have eo : ∀ f, f ≠ 11 → f ≠ 14 → i2 f = i f := fun f h1 h2 => by rw [hi2, up2_nf h2, up2_nf h1]
    have hA2 : LA c i2 p r av := by
      refine ⟨hA.1, fun l hl => ?_, fun k hk => ?_⟩
      · rw [eo 1 (by decide) (by decide)]; exact hA.2.1 l hl
      · rw [eo 7 (by decide) (by decide), eo 10 (by decide) (by decide), eo 6 (by decide) (by decide)]; exact hA.2.2 k hk
    refine g_iload E dL_law_1086 1 rfl ?_
    refine g_iconst (v := nI 2) E dL_law_1088 (by decide) ?_
    refine g_icmp_ne (tgt := 1097) E dL_law_1089 (by decide) (fun z => absurd h0 z) (fun c_1089 => ?_)
    refine g_lload E dL_law_1092 0 rfl ?_
    refine g_goto (tgt := 1100) E dL_law_1094 (by decide) ?_
    refine g_lcmp E dL_law_1100 ?_
    refine g_if_ne (tgt := 1141) E dL_law_1101 (by decide) (fun z => absurd ((lg_cmp_eq _ _).mpr rfl) z) (fun c_1101 => ?_)
    refine g_aload_n E dL_law_1104 rfl 12 rfl ?_
    refine g_iload E dL_law_1105 3 rfl ?_
    refine k_state E hW hK2 (k := pN) hpN gL_law_X5_state ⟨Nat.le_of_ble_eq_true rfl, Nat.le_of_ble_eq_true rfl⟩ (Nat.le_of_ble_eq_true rfl) dL_law_1107 ⟨by show _ ≤ 646545; omega, by show _ ≤ 7162134; omega⟩ (fun W hW => ?_)
    refine g_iload E dL_law_1110 1 rfl ?_
    refine g_iconst (v := nI 2) E dL_law_1112 (by decide) ?_
    refine g_icmp_ne (tgt := 1120) E dL_law_1113 (by decide) (fun z => absurd h0 z) (fun c_1113 => ?_)
    refine g_iconst (v := nI 3) E dL_law_1116 (by decide) ?_
    refine g_goto (tgt := 1122) E dL_law_1117 (by decide) ?_
    refine g_icmp_ne (tgt := 1141) E dL_law_1122 (by decide) (fun z => absurd e11 z) (fun c_1122 => ?_)
    refine g_aload_n E dL_law_1125 rfl 12 rfl ?_
    refine g_iload E dL_law_1126 3 rfl ?_
    refine k_fine E hW hK2 (k := pN) hpN gL_law_X5_fine ⟨Nat.le_of_ble_eq_true rfl, Nat.le_of_ble_eq_true rfl⟩ (Nat.le_of_ble_eq_true rfl) dL_law_1128 ⟨by show _ ≤ 646545; omega, by show _ ≤ 7162134; omega⟩ (fun W hW => ?_)
    refine g_lload E dL_law_1131 0 rfl ?_
    refine g_lcmp E dL_law_1133 ?_
    refine g_if_ne (tgt := 1141) E dL_law_1134 (by decide) (fun z => absurd ((lg_cmp_eq _ _).mpr rfl) z) (fun c_1134 => ?_)
    refine g_iconst (v := nI 1) E dL_law_1137 (by decide) ?_
    refine g_goto (tgt := 1142) E dL_law_1138 (by decide) ?_
    refine g_istore (L' := [(12, .int (nI 1)), (21, .long (2 * j 2 pN)), (20, .int (i 11 pN)), (19, .int (nI ln)), (18, .int (nI pN)), (17, .int (nI D)), (16, .int (nI Y)), (14, .int (nI t)), (13, .int (nI T)), (11, .int (nI (c 2))), (10, .int (nI 4)), (0, .ref b), (1, .ref a), (2, .ref (aa 0)), (3, .ref (aa 1)), (4, .ref (aa 2)), (5, .ref (aa 3)), (6, .ref (aa 4)), (7, .ref (aa 5)), (8, .ref (aa 6)), (9, .ref (aa 7))]) E dL_law_1142 (by decide) rfl ?_
    refine g_goto (tgt := 1435) E dL_law_1144 (by decide) ?_
    refine g_locals [(12, .int (nI 1)), (19, .int (nI ln)), (18, .int (nI pN)), (16, .int (nI Y)), (14, .int (nI t)), (13, .int (nI T)), (11, .int (nI (c 2))), (10, .int (nI 4)), (0, .ref b), (1, .ref a), (2, .ref (aa 0)), (3, .ref (aa 1)), (4, .ref (aa 2)), (5, .ref (aa 3)), (6, .ref (aa 4)), (7, .ref (aa 5)), (8, .ref (aa 6)), (9, .ref (aa 7))] [0, 3, 4, 6, 7, 8, 9, 10, 11, 12, 13, 14, 15, 16, 17, 18, 19, 20] rfl ?_
    exact g_widen (by omega) (by omega) (kk av c i2 j p r N W hW hK2 hA2 h4 (by omega) (Or.inl hpN))
  · refine g_iload E dL_law_1086 1 rfl ?_
    refine g_iconst (v := nI 2) E dL_law_1088 (by decide) ?_
    refine g_icmp_ne (tgt := 1097) E dL_law_1089 (by decide) (fun c_1089 => ?_) (fun z => absurd z h0)
    refine g_ldc2 (v := (-900013)) E (by decide +kernel) dL_law_1097 ?_
    refine g_lcmp E dL_law_1100 ?_
    refine g_if_ne (tgt := 1141) E dL_law_1101 (by decide) (fun z => absurd ((lg_cmp_eq _ _).mpr rfl) z) (fun c_1101 => ?_)
    refine g_aload_n E dL_law_1104 rfl 12 rfl ?_
    refine g_iload E dL_law_1105 3 rfl ?_
    refine k_state E hW hK (k := pN) hpN gL_law_X5_state ⟨Nat.le_of_ble_eq_true rfl, Nat.le_of_ble_eq_true rfl⟩ (Nat.le_of_ble_eq_true rfl) dL_law_1107 ⟨by show _ ≤ 646545; omega, by show _ ≤ 7162134; omega⟩ (fun W hW => ?_)
    refine g_iload E dL_law_1110 1 rfl ?_
    refine g_iconst (v := nI 2) E dL_law_1112 (by decide) ?_
    refine g_icmp_ne (tgt := 1120) E dL_law_1113 (by decide) (fun c_1113 => ?_) (fun z => absurd z h0)
    refine g_iload E dL_law_1120 1 rfl ?_
    refine g_icmp_ne (tgt := 1141) E dL_law_1122 (by decide) (fun z => absurd rfl z) (fun c_1122 => ?_)
    refine g_aload_n E dL_law_1125 rfl 12 rfl ?_
    refine g_iload E dL_law_1126 3 rfl ?_
    refine k_fine E hW hK (k := pN) hpN gL_law_X5_fine ⟨Nat.le_of_ble_eq_true rfl, Nat.le_of_ble_eq_true rfl⟩ (Nat.le_of_ble_eq_true rfl) dL_law_1128 ⟨by show _ ≤ 646545; omega, by show _ ≤ 7162134; omega⟩ (fun W hW => ?_)
    refine g_lload E dL_law_1131 0 rfl ?_
    refine g_lcmp E dL_law_1133 ?_
    refine g_if_ne (tgt := 1141) E dL_law_1134 (by decide) (fun z => absurd ((lg_cmp_eq _ _).mpr rfl) z) (fun c_1134 => ?_)
    refine g_iconst (v := nI 1) E dL_law_1137 (by decide) ?_
    refine g_goto (tgt := 1142) E dL_law_1138 (by decide) ?_
    refine g_istore (L' := [(12, .int (nI 1)), (21, .long (2 * j 2 pN)), (20, .int (i 11 pN)), (19, .int (nI ln)), (18, .int (nI pN)), (17, .int (nI D)), (16, .int (nI Y)), (14, .int (nI t)), (13, .int (nI T)), (11, .int (nI (c 2))), (10, .int (nI 4)), (0, .ref b), (1, .ref a), (2, .ref (aa 0)), (3, .ref (aa 1)), (4, .ref (aa 2)), (5, .ref (aa 3)), (6, .ref (aa 4)), (7, .ref (aa 5)), (8, .ref (aa 6)), (9, .ref (aa 7))]) E dL_law_1142 (by decide) rfl ?_
    refine g_goto (tgt := 1435) E dL_law_1144 (by decide) ?_
    refine g_locals [(12, .int (nI 1)), (19, .int (nI ln)), (18, .int (nI pN)), (16, .int (nI Y)), (14, .int (nI t)), (13, .int (nI T)), (11, .int (nI (c 2))), (10, .int (nI 4)), (0, .ref b), (1, .ref a), (2, .ref (aa 0)), (3, .ref (aa 1)), (4, .ref (aa 2)), (5, .ref (aa 3)), (6, .ref (aa 4)), (7, .ref (aa 5)), (8, .ref (aa 6)), (9, .ref (aa 7))] [0, 3, 4, 6, 7, 8, 9, 10, 11, 12, 13, 14, 15, 16, 17, 18, 19, 20] rfl ?_
    exact g_widen (by omega) (by omega) (kk av c i j p r N W hW hK hA h4 (by omega) (Or.inl hpN))
end LZ
