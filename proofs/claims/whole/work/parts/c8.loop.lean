section LP
variable {C : gT} {e0 a ob b Ln : Nat} {ma : Nat → Nat} {xv : Nat → Int32}
theorem and31 (x : Int32) : ∃ n, n < 32 ∧ x &&& 31 = nI n := by
  refine ⟨(x.toBitVec &&& 31#32).toNat, ?_, ?_⟩
  · rw [BitVec.toNat_and]
    exact Nat.lt_of_le_of_lt Nat.and_le_right (by decide)
  · apply Int32.toBitVec_inj.mp
    rw [Int32.toBitVec_and]
    show x.toBitVec &&& 31#32 = BitVec.ofNat 32 _
    rw [BitVec.ofNat_toNat, BitVec.setWidth_eq]
theorem row_lt {Ln q : Nat} (hL : Ln ≤ 3584) (hq : q ≤ 4000) : nI Ln - 7 < nI q ↔ Ln < q + 7 := by
  rw [Int32.lt_iff_toInt_lt, Int32.toInt_sub, nI_toInt (by omega), nI_toInt (by omega), show (7 : Int32).toInt = 7 from rfl]
  have e : Int.bmod ((Ln : Int) - 7) (2 ^ 32) = (Ln : Int) - 7 := by
    apply Int.bmod_eq_of_le <;> omega
  rw [e]
  omega
set_option maxHeartbeats 4000000 in
set_option maxRecDepth 100000 in
theorem rl_row {q mc ms : Nat} {W : va_W} (E : gOk C cL_law 8 wsL_law RL e0 room_1) (hX : va_X b Ln xv (xs C) (xs C).heap) (hbl : b < (xs C).heap.size) (hbA : ¬ xA C b) (hL : Ln ≤ 3584) (hq : q + 7 ≤ Ln) (hW : LV C e0 a ob ma W) (hmc : mc + 10 ≤ 601024) (hms : ms + 4000 ≤ 7293034) (kk : ∀ W', LV C e0 a ob ma W' → G C W' (mc + 10) (ms + 4000) 1647 [(4, .int (nI q)), (3, .ref ob), (2, .ref (ma 0)), (1, .ref a), (0, .ref b)] []) : G C W mc ms 33 [(4, .int (nI q)), (3, .ref ob), (2, .ref (ma 0)), (1, .ref a), (0, .ref b)] [] := by
  refine g_aload_n E dL_law_33 rfl 4 rfl ?_
  refine g_iload E dL_law_34 0 rfl ?_
  refine g_sld E hX hbl hbA hL q rfl (by omega) dL_law_36 ?_
  refine g_bipush (v := 31) E dL_law_37 (by decide) ?_
  refine g_iand E dL_law_39 ?_
  obtain ⟨n, hn, hx⟩ := and31 (xv q)
  rw [hx]
  rcases (by omega : n = 0 ∨ n = 1 ∨ n = 2 ∨ n = 3 ∨ n = 4 ∨ n = 5 ∨ n = 6 ∨ n = 7 ∨ n = 8 ∨ n = 9 ∨ n = 10 ∨ n = 11 ∨ n = 12 ∨ n = 13 ∨ n = 14 ∨ n = 15 ∨ n = 16 ∨ n = 17 ∨ n = 18 ∨ n = 19 ∨ n = 20 ∨ n = 21 ∨ n = 22 ∨ n = 23 ∨ 24 ≤ n) with rfl | rfl | rfl | rfl | rfl | rfl | rfl | rfl | rfl | rfl | rfl | rfl | rfl | rfl | rfl | rfl | rfl | rfl | rfl | rfl | rfl | rfl | rfl | rfl | h24
  · exact g_tabIn (off := 112) (tgt := 152) E dL_law_40 (by decide) (by decide) (by decide) (by decide) (cs_lane E hX hbl hbA hL hq hW hmc hms kk)
  · exact g_tabIn (off := 192) (tgt := 232) E dL_law_40 (by decide) (by decide) (by decide) (by decide) (cs_line E hX hbl hbA hL hq hW hmc hms kk)
  · exact g_tabIn (off := 260) (tgt := 300) E dL_law_40 (by decide) (by decide) (by decide) (by decide) (cs_stop E hX hbl hbA hL hq hW hmc hms kk)
  · exact g_tabIn (off := 328) (tgt := 368) E dL_law_40 (by decide) (by decide) (by decide) (by decide) (cs_way E hX hbl hbA hL hq hW hmc hms kk)
  · exact g_tabIn (off := 396) (tgt := 436) E dL_law_40 (by decide) (by decide) (by decide) (by decide) (cs_isClosed E hX hbl hbA hL hq hW hmc hms kk)
  · exact g_tabIn (off := 459) (tgt := 499) E dL_law_40 (by decide) (by decide) (by decide) (by decide) (cs_detour E hX hbl hbA hL hq hW hmc hms kk)
  · exact g_tabIn (off := 515) (tgt := 555) E dL_law_40 (by decide) (by decide) (by decide) (by decide) (cs_minutes E hX hbl hbA hL hq hW hmc hms kk)
  · exact g_tabIn (off := 570) (tgt := 610) E dL_law_40 (by decide) (by decide) (by decide) (by decide) (cs_minutesAnew E hX hbl hbA hL hq hW hmc hms kk)
  · exact g_tabIn (off := 625) (tgt := 665) E dL_law_40 (by decide) (by decide) (by decide) (by decide) (cs_apply E hX hbl hbA hL hq hW hmc hms kk)
  · exact g_tabIn (off := 759) (tgt := 799) E dL_law_40 (by decide) (by decide) (by decide) (by decide) (cs_withdraw E hX hbl hbA hL hq hW hmc hms kk)
  · exact g_tabIn (off := 815) (tgt := 855) E dL_law_40 (by decide) (by decide) (by decide) (by decide) (cs_begin E hX hbl hbA hL hq hW hmc hms kk)
  · exact g_tabIn (off := 871) (tgt := 911) E dL_law_40 (by decide) (by decide) (by decide) (by decide) (cs_finish E hX hbl hbA hL hq hW hmc hms kk)
  · exact g_tabIn (off := 926) (tgt := 966) E dL_law_40 (by decide) (by decide) (by decide) (by decide) (cs_state E hX hbl hbA hL hq hW hmc hms kk)
  · exact g_tabIn (off := 982) (tgt := 1022) E dL_law_40 (by decide) (by decide) (by decide) (by decide) (cs_cause E hX hbl hbA hL hq hW hmc hms kk)
  · exact g_tabIn (off := 1038) (tgt := 1078) E dL_law_40 (by decide) (by decide) (by decide) (by decide) (cs_from E hX hbl hbA hL hq hW hmc hms kk)
  · exact g_tabIn (off := 1094) (tgt := 1134) E dL_law_40 (by decide) (by decide) (by decide) (by decide) (cs_end E hX hbl hbA hL hq hW hmc hms kk)
  · exact g_tabIn (off := 1150) (tgt := 1190) E dL_law_40 (by decide) (by decide) (by decide) (by decide) (cs_together E hX hbl hbA hL hq hW hmc hms kk)
  · exact g_tabIn (off := 1205) (tgt := 1245) E dL_law_40 (by decide) (by decide) (by decide) (by decide) (cs_openings E hX hbl hbA hL hq hW hmc hms kk)
  · exact g_tabIn (off := 1273) (tgt := 1313) E dL_law_40 (by decide) (by decide) (by decide) (by decide) (cs_fee E hX hbl hbA hL hq hW hmc hms kk)
  · exact g_tabIn (off := 1329) (tgt := 1369) E dL_law_40 (by decide) (by decide) (by decide) (by decide) (cs_pass E hX hbl hbA hL hq hW hmc hms kk)
  · exact g_tabIn (off := 1385) (tgt := 1425) E dL_law_40 (by decide) (by decide) (by decide) (by decide) (cs_complain E hX hbl hbA hL hq hW hmc hms kk)
  · exact g_tabIn (off := 1441) (tgt := 1481) E dL_law_40 (by decide) (by decide) (by decide) (by decide) (cs_points E hX hbl hbA hL hq hW hmc hms kk)
  · exact g_tabIn (off := 1497) (tgt := 1537) E dL_law_40 (by decide) (by decide) (by decide) (by decide) (cs_fine E hX hbl hbA hL hq hW hmc hms kk)
  · exact g_tabIn (off := 1552) (tgt := 1592) E dL_law_40 (by decide) (by decide) (by decide) (by decide) (cs_fines E hX hbl hbA hL hq hW hmc hms kk)
  · refine g_tabOut (tgt := 1647) E dL_law_40 (Or.inr (by rw [nI_toInt (by omega)]; omega)) (by decide) ?_
    exact g_widen (Nat.le_add_right _ _) (Nat.le_add_right _ _) (kk W hW)
set_option maxHeartbeats 4000000 in
set_option maxRecDepth 100000 in
theorem rl_loop (E : gOk C cL_law 8 wsL_law RL e0 room_1) (hX : va_X b Ln xv (xs C) (xs C).heap) (hbl : b < (xs C).heap.size) (hbA : ¬ xA C b) (hL : Ln ≤ 3584) (fin : ∀ (W : va_W) (L : List (Nat × Value)) (mc ms : Nat), mc ≤ 601024 → ms ≤ 7293034 → G C W mc ms 1653 L []) :
    ∀ (k q mc ms : Nat) (W : va_W), LV C e0 a ob ma W → q ≤ 4000 → Ln < q + 7 * k + 7 → mc + 10 * k ≤ 601024 → ms + 4000 * k ≤ 7293034 → G C W mc ms 23 [(4, .int (nI q)), (3, .ref ob), (2, .ref (ma 0)), (1, .ref a), (0, .ref b)] [] := by
  intro k
  induction k with
  | zero =>
    intro q mc ms W hW hq hk hmc hms
    refine g_iload E dL_law_23 0 rfl ?_
    refine g_aload_n E dL_law_25 rfl 4 rfl ?_
    refine g_slen E hX hbl hbA dL_law_26 ?_
    refine g_bipush (v := 7) E dL_law_27 (by decide) ?_
    refine g_isub E dL_law_29 ?_
    refine g_icmp_gt (tgt := 1653) E dL_law_30 (by decide) (fun _ => ?_) (fun hz => ?_)
    · exact fin W _ mc ms (by omega) (by omega)
    · exact absurd ((row_lt hL hq).mpr (by omega)) hz
  | succ k ih =>
    intro q mc ms W hW hq hk hmc hms
    refine g_iload E dL_law_23 0 rfl ?_
    refine g_aload_n E dL_law_25 rfl 4 rfl ?_
    refine g_slen E hX hbl hbA dL_law_26 ?_
    refine g_bipush (v := 7) E dL_law_27 (by decide) ?_
    refine g_isub E dL_law_29 ?_
    refine g_icmp_gt (tgt := 1653) E dL_law_30 (by decide) (fun _ => ?_) (fun hz => ?_)
    · exact fin W _ mc ms (by omega) (by omega)
    · have hq7 : q + 7 ≤ Ln := by
        have := mt (row_lt hL hq).mpr hz
        omega
      refine rl_row E hX hbl hbA hL hq7 hW (by omega) (by omega) (fun W' hW' => ?_)
      refine g_iinc (v := nI (q + 7)) (L' := [(4, .int (nI (q + 7))), (3, .ref ob), (2, .ref (ma 0)), (1, .ref a), (0, .ref b)]) E dL_law_1647 0 rfl (by rw [show Int32.ofInt 7 = nI 7 from by decide]; exact nI_add q 7) (by decide) rfl ?_
      refine g_goto (tgt := 23) E dL_law_1650 (by decide) ?_
      exact ih (q + 7) (mc + 10) (ms + 4000) W' hW' (by omega) (by omega) (by omega) (by omega)
end LP
