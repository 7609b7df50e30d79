theorem d00_ne {a b : Nat} (h : ¬ a = b) : d00 a b = FAR := if_neg h
theorem d00_eq (a : Nat) : d00 a a = 0 := if_pos rfl
theorem tkS_up (x y t : Nat) (d : Nat → Nat → Nat) : tkS x y t d = up2 (up2 d x y t) y x t := by
  funext a b
  unfold tkS up2
  by_cases h1 : a = y ∧ b = x
  · rw [if_pos (Or.inr h1), if_pos h1]
  · rw [if_neg h1]
    by_cases h2 : a = x ∧ b = y
    · rw [if_pos (Or.inl h2), if_pos h2]
    · rw [if_neg (fun q => q.elim h2 h1), if_neg h2]
abbrev rm_X4_takeLanes : Room := { frames := 0, cells := 0, slots := 0, locals := 0 }
set_option maxHeartbeats 4000000 in
set_option maxRecDepth 100000 in
theorem m_X4_takeLanes (l : Launch) (hl : l.stackTraces = false) (D : va_G) (cy : Nat → ClassId) (e0 : Nat) {S : wS} {c : Nat → Nat} {ad : Nat → Nat → Nat} {i : Nat → Nat → Int32} {j : Nat → Nat → Int64} {p : Nat → Nat → Option Nat} {r : Nat → Nat → Int32} (hI : CI e0 S c ad i j p r) {w : Nat} (hw : w < 2) {cl : Int32} {M : Nat} (hm : i 15 0 = nI M) (hm2 : M ≤ 24) (hln : LNS r M) : cMet l yX4_takeLanes wsX4_takeLanes rm_X4_takeLanes D cy e0 [.ref (ad 4 w), .ref (ad 3 0), .int (cl)] S (fun v S' => v = none ∧ ∃ r' d, CI e0 S' c ad i j p r' ∧ SM w r r' ∧ TW w d r' ∧ tkI (Ed (r 0) (r 1) (r 2) cl M) d) (fun _ _ => False) 0 0 := by
  refine gMet.of (cc := cX4_takeLanes) (maxL := 6) (ret := none) hl (by decide) rfl (Nat.le_of_ble_eq_true rfl) ?_
  intro C E h1 h2 h3 hr hnm hT hE
  subst h1; subst h2; subst h3
  have E : gOk C cX4_takeLanes 6 wsX4_takeLanes RX4 e0 rm_X4_takeLanes := E
  show G C (cW (xy C) S) 0 0 0 [(0, .ref (ad 4 w)), (1, .ref (ad 3 0)), (2, .int (cl))] []
  have hc := hI.cnt
  have hr0 : ∃ r0, r0 = r := ⟨r, rfl⟩
  obtain ⟨r0, hr0⟩ := hr0
  rw [← hr0] at hE hln
  refine g_iconst (v := 0) E dX4_takeLanes_0 (by decide) ?_
  refine g_istore_n (L' := [(3, .int (0)), (0, .ref (ad 4 w)), (1, .ref (ad 3 0)), (2, .int (cl))]) E dX4_takeLanes_1 rfl (by decide) rfl ?_
  refine g_locals [(0, .ref (ad 4 w)), (1, .ref (ad 3 0)), (2, .int (cl)), (3, .int (0))] [1, 2, 3, 0] rfl ?_
  have loop_2 : ∀ (n_2 a : Nat) (S : wS) (r : Nat → Nat → Int32), (CI e0 S c ad i j p r) → (SM w r0 r) → (∀ x y, x < a → y < 10 → r (4 + 10 * w + x) y = nI (d00 x y)) → a ≤ 10 → 10 < n_2 + a → G C (cW (xy C) S) 0 0 2 [(0, .ref (ad 4 w)), (1, .ref (ad 3 0)), (2, .int (cl)), (3, .int (nI a))] [] := by
    intro n_2
    induction n_2 with
    | zero => intro a S r hI hM hA g1 g2; exact absurd g2 (by omega)
    | succ n_2 ih_2 =>
      intro a S r hI hM hA h1_2 h2_2
      have hc := hI.cnt
      refine g_iload_n E dX4_takeLanes_2 rfl 3 rfl ?_
      refine g_bipush (v := 10) E dX4_takeLanes_3 (by decide) ?_
      refine g_icmp_ge (tgt := 51) E dX4_takeLanes_5 (by decide) (fun c_5 => ?_) (fun c_5 => ?_)
      · have e_a : a = 10 := Nat.le_antisymm h1_2 (nI_ge_nat (b := 10) (by decide) (by omega) c_5)
        refine g_iconst (v := 0) E dX4_takeLanes_51 (by decide) ?_
        refine g_istore_n (L' := [(3, .int (0)), (0, .ref (ad 4 w)), (1, .ref (ad 3 0)), (2, .int (cl))]) E dX4_takeLanes_52 rfl (by decide) rfl ?_
        refine g_locals [(0, .ref (ad 4 w)), (1, .ref (ad 3 0)), (2, .int (cl)), (3, .int (0))] [1, 2, 3, 0] rfl ?_
        have loop_53 : ∀ (n_53 m : Nat) (S : wS) (r : Nat → Nat → Int32) (d : Nat → Nat → Nat), (CI e0 S c ad i j p r) → (SM w r0 r) → (TW w d r) → (tkI (Ed (r0 0) (r0 1) (r0 2) cl m) d) → m ≤ M → M < n_53 + m → G C (cW (xy C) S) 0 0 53 [(0, .ref (ad 4 w)), (1, .ref (ad 3 0)), (2, .int (cl)), (3, .int (nI m))] [] := by
          intro n_53
          induction n_53 with
          | zero => intro m S r d hI hM hTw hK g1 g2; exact absurd g2 (by omega)
          | succ n_53 ih_53 =>
            intro m S r d hI hM hTw hK h1_53 h2_53
            have hc := hI.cnt
            refine g_iload_n E dX4_takeLanes_53 rfl 3 rfl ?_
            refine g_aload_n E dX4_takeLanes_54 rfl 1 rfl ?_
            refine q_getN_Roads_count E hI hI.c3 (fun _ h => (List.mem_cons_of_mem _ (List.mem_append_right _ h))) tbF_RX4_20 dX4_takeLanes_55 ?_
            rw [hm]
            show G C (cW (xy C) S) 0 0 58 [(0, .ref (ad 4 w)), (1, .ref (ad 3 0)), (2, .int (cl)), (3, .int (nI m))] [.int (nI M), .int (nI m)]
            refine g_icmp_ge (tgt := 142) E dX4_takeLanes_58 (by decide) (fun c_58 => ?_) (fun c_58 => ?_)
            · have e_m : m = M := Nat.le_antisymm h1_53 (nI_ge_nat (by omega) (by omega) c_58)
              exact g_vret E hE hr dX4_takeLanes_142 (Nat.le_of_ble_eq_true rfl) (Nat.le_of_ble_eq_true rfl) ⟨S, rfl, rfl, r, d, hI, hM, hTw, e_m ▸ hK⟩
            · have hm_k : m < M := nI_nge_nat (by omega) (by omega) c_58
              obtain ⟨x, y, t, ex0, ey0, et0, hx, hy, hxy, ht⟩ := hln m hm_k
              have ex : r 0 m = nI x := by rw [hM 0 (by omega)]; exact ex0
              have ey : r 1 m = nI y := by rw [hM 1 (by omega)]; exact ey0
              have et : r 2 m = nI t := by rw [hM 2 (by omega)]; exact et0
              refine g_aload_n E dX4_takeLanes_61 rfl 1 rfl ?_
              refine q_getN_Roads_ones E hI (fun _ h => (List.mem_cons_of_mem _ (List.mem_append_right _ h))) tbF_RX4_37 dX4_takeLanes_62 ?_
              refine g_iload_n E dX4_takeLanes_65 rfl 3 rfl ?_
              refine q_iald E hI (hI.c7 (by omega)) m rfl (by first | omega | (rw [alen_w (by omega) (by omega)]; omega) | (rw [alen_s]; omega) | (show _ < 24; omega) | (show _ < 6; omega)) dX4_takeLanes_66 ?_
              rw [ex]
              show G C (cW (xy C) S) 0 0 67 [(0, .ref (ad 4 w)), (1, .ref (ad 3 0)), (2, .int (cl)), (3, .int (nI m))] [.int (nI x)]
              refine g_istore (L' := [(4, .int (nI x)), (0, .ref (ad 4 w)), (1, .ref (ad 3 0)), (2, .int (cl)), (3, .int (nI m))]) E dX4_takeLanes_67 (by decide) rfl ?_
              refine g_aload_n E dX4_takeLanes_69 rfl 2 rfl ?_
              refine q_getN_Roads_others E hI (fun _ h => (List.mem_cons_of_mem _ (List.mem_append_right _ h))) tbF_RX4_41 dX4_takeLanes_70 ?_
              refine g_iload_n E dX4_takeLanes_73 rfl 4 rfl ?_
              refine q_iald E hI (hI.c7 (by omega)) m rfl (by first | omega | (rw [alen_w (by omega) (by omega)]; omega) | (rw [alen_s]; omega) | (show _ < 24; omega) | (show _ < 6; omega)) dX4_takeLanes_74 ?_
              rw [ey]
              show G C (cW (xy C) S) 0 0 75 [(4, .int (nI x)), (0, .ref (ad 4 w)), (1, .ref (ad 3 0)), (2, .int (cl)), (3, .int (nI m))] [.int (nI y)]
              refine g_istore (L' := [(5, .int (nI y)), (4, .int (nI x)), (0, .ref (ad 4 w)), (1, .ref (ad 3 0)), (2, .int (cl)), (3, .int (nI m))]) E dX4_takeLanes_75 (by decide) rfl ?_
              refine g_iload_n E dX4_takeLanes_77 rfl 4 rfl ?_
              refine g_iconst (v := 1) E dX4_takeLanes_78 (by decide) ?_
              refine g_iload_n E dX4_takeLanes_79 rfl 5 rfl ?_
              refine g_ishl E dX4_takeLanes_80 ?_
              refine g_iand E dX4_takeLanes_81 ?_
              refine g_if_ne (tgt := 136) E dX4_takeLanes_82 (by decide) (fun c_82 => ?_) (fun c_82 => ?_)
              · refine g_iinc (v := nI (m + 1)) (L' := [(3, .int (nI (m + 1))), (5, .int (nI y)), (4, .int (nI x)), (0, .ref (ad 4 w)), (1, .ref (ad 3 0)), (2, .int (cl))]) E dX4_takeLanes_136 5 rfl (nI_1 m) (by decide) rfl ?_
                refine g_goto (tgt := 53) E dX4_takeLanes_139 (by decide) ?_
                refine g_locals [(0, .ref (ad 4 w)), (1, .ref (ad 3 0)), (2, .int (cl)), (3, .int (nI (m + 1)))] [3, 4, 5, 0] rfl ?_
                refine g_L (L' := [(0, .ref (ad 4 w)), (1, .ref (ad 3 0)), (2, .int (cl)), (3, .int (nI (m + 1)))]) (by rfl) (ih_53 (m + 1) (S) (r) (d) (hI) (hM) (hTw) (tkI_no hK ex0 ey0 et0 hx hy ht (fun q => absurd q c_82)) (by omega) (by omega))
              · refine g_aload_n E dX4_takeLanes_85 rfl 3 rfl ?_
                refine q_getN_Roads_laneMinutes E hI (fun _ h => (List.mem_cons_of_mem _ (List.mem_append_right _ h))) tbF_RX4_44 dX4_takeLanes_86 ?_
                refine g_iload_n E dX4_takeLanes_89 rfl 5 rfl ?_
                refine q_iald E hI (hI.c7 (by omega)) m rfl (by first | omega | (rw [alen_w (by omega) (by omega)]; omega) | (rw [alen_s]; omega) | (show _ < 24; omega) | (show _ < 6; omega)) dX4_takeLanes_90 ?_
                rw [et]
                show G C (cW (xy C) S) 0 0 91 [(5, .int (nI y)), (4, .int (nI x)), (0, .ref (ad 4 w)), (1, .ref (ad 3 0)), (2, .int (cl)), (3, .int (nI m))] [.int (nI t)]
                refine g_aload_n E dX4_takeLanes_91 rfl 2 rfl ?_
                refine q_get_Ways_shortest E hI (hI.c4 hw) (fun _ h => (List.mem_cons_of_mem _ (List.mem_append_left _ (List.mem_append_right _ h)))) (List.mem_cons_of_mem _ (List.mem_append_left _ (List.mem_append_left _ (List.mem_of_getElem? (i := 0) rfl)))) dX4_takeLanes_92 ?_
                refine g_iload E dX4_takeLanes_95 1 rfl ?_
                refine q_row E hI (k := w) (by omega) x rfl (by first | omega | (rw [alen_w (by omega) (by omega)]; omega) | (rw [alen_s]; omega) | (show _ < 24; omega) | (show _ < 6; omega)) dX4_takeLanes_97 ?_
                refine g_iload E dX4_takeLanes_98 0 rfl ?_
                refine q_iald E hI (hI.c7 (by omega)) y rfl (by first | omega | (rw [alen_w (by omega) (by omega)]; omega) | (rw [alen_s]; omega) | (show _ < 24; omega) | (show _ < 6; omega)) dX4_takeLanes_100 ?_
                have e_d : r (4 + 10 * w + x) y = nI (d x y) := hTw x y hx hy
                rw [e_d]
                show G C (cW (xy C) S) 0 0 101 [(5, .int (nI y)), (4, .int (nI x)), (0, .ref (ad 4 w)), (1, .ref (ad 3 0)), (2, .int (cl)), (3, .int (nI m))] [.int (nI (d x y)), .int (nI t)]
                refine g_icmp_ge (tgt := 136) E dX4_takeLanes_101 (by decide) (fun c_101 => ?_) (fun c_101 => ?_)
                · refine g_iinc (v := nI (m + 1)) (L' := [(3, .int (nI (m + 1))), (5, .int (nI y)), (4, .int (nI x)), (0, .ref (ad 4 w)), (1, .ref (ad 3 0)), (2, .int (cl))]) E dX4_takeLanes_136 5 rfl (nI_1 m) (by decide) rfl ?_
                  refine g_goto (tgt := 53) E dX4_takeLanes_139 (by decide) ?_
                  refine g_locals [(0, .ref (ad 4 w)), (1, .ref (ad 3 0)), (2, .int (cl)), (3, .int (nI (m + 1)))] [3, 4, 5, 0] rfl ?_
                  have l1 := hK.2.2.2.1 x y hx hy
                  unfold FAR at l1
                  refine g_L (L' := [(0, .ref (ad 4 w)), (1, .ref (ad 3 0)), (2, .int (cl)), (3, .int (nI (m + 1)))]) (by rfl) (ih_53 (m + 1) (S) (r) (d) (hI) (hM) (hTw) (tkI_no hK ex0 ey0 et0 hx hy ht (fun q => nI_ge_nat (by omega) (by omega) c_101)) (by omega) (by omega))
                · refine g_aload_n E dX4_takeLanes_104 rfl 2 rfl ?_
                  refine q_get_Ways_shortest E hI (hI.c4 hw) (fun _ h => (List.mem_cons_of_mem _ (List.mem_append_left _ (List.mem_append_right _ h)))) (List.mem_cons_of_mem _ (List.mem_append_left _ (List.mem_append_left _ (List.mem_of_getElem? (i := 0) rfl)))) dX4_takeLanes_105 ?_
                  refine g_iload E dX4_takeLanes_108 1 rfl ?_
                  refine q_row E hI (k := w) (by omega) x rfl (by first | omega | (rw [alen_w (by omega) (by omega)]; omega) | (rw [alen_s]; omega) | (show _ < 24; omega) | (show _ < 6; omega)) dX4_takeLanes_110 ?_
                  refine g_iload E dX4_takeLanes_111 0 rfl ?_
                  refine g_aload_n E dX4_takeLanes_113 rfl 3 rfl ?_
                  refine q_getN_Roads_laneMinutes E hI (fun _ h => (List.mem_cons_of_mem _ (List.mem_append_right _ h))) tbF_RX4_44 dX4_takeLanes_114 ?_
                  refine g_iload_n E dX4_takeLanes_117 rfl 5 rfl ?_
                  refine q_iald E hI (hI.c7 (by omega)) m rfl (by first | omega | (rw [alen_w (by omega) (by omega)]; omega) | (rw [alen_s]; omega) | (show _ < 24; omega) | (show _ < 6; omega)) dX4_takeLanes_118 ?_
                  rw [et]
                  show G C (cW (xy C) S) 0 0 119 [(5, .int (nI y)), (4, .int (nI x)), (0, .ref (ad 4 w)), (1, .ref (ad 3 0)), (2, .int (cl)), (3, .int (nI m))] [.int (nI t), .int (nI y), .ref (ad 7 (4 + 10 * w + x))]
                  refine q_iast E hI (hI.c7 (by omega)) y rfl (by first | omega | (rw [alen_w (by omega) (by omega)]; omega) | (rw [alen_s]; omega) | (show _ < 24; omega) | (show _ < 6; omega)) dX4_takeLanes_119 (fun S hI => ?_)
                  refine g_aload_n E dX4_takeLanes_120 rfl 2 rfl ?_
                  refine q_get_Ways_shortest E hI (hI.c4 hw) (fun _ h => (List.mem_cons_of_mem _ (List.mem_append_left _ (List.mem_append_right _ h)))) (List.mem_cons_of_mem _ (List.mem_append_left _ (List.mem_append_left _ (List.mem_of_getElem? (i := 0) rfl)))) dX4_takeLanes_121 ?_
                  refine g_iload E dX4_takeLanes_124 0 rfl ?_
                  refine q_row E hI (k := w) (by omega) y rfl (by first | omega | (rw [alen_w (by omega) (by omega)]; omega) | (rw [alen_s]; omega) | (show _ < 24; omega) | (show _ < 6; omega)) dX4_takeLanes_126 ?_
                  refine g_iload E dX4_takeLanes_127 1 rfl ?_
                  refine g_aload_n E dX4_takeLanes_129 rfl 3 rfl ?_
                  refine q_getN_Roads_laneMinutes E hI (fun _ h => (List.mem_cons_of_mem _ (List.mem_append_right _ h))) tbF_RX4_44 dX4_takeLanes_130 ?_
                  refine g_iload_n E dX4_takeLanes_133 rfl 5 rfl ?_
                  refine q_iald E hI (hI.c7 (by omega)) m rfl (by first | omega | (rw [alen_w (by omega) (by omega)]; omega) | (rw [alen_s]; omega) | (show _ < 24; omega) | (show _ < 6; omega)) dX4_takeLanes_134 ?_
                  have e_t2 : (up2 r (4 + 10 * w + x) y (nI t)) 2 m = nI t := by rw [up2_nf (by omega)]; exact et
                  rw [e_t2]
                  show G C (cW (xy C) S) 0 0 135 [(5, .int (nI y)), (4, .int (nI x)), (0, .ref (ad 4 w)), (1, .ref (ad 3 0)), (2, .int (cl)), (3, .int (nI m))] [.int (nI t), .int (nI x), .ref (ad 7 (4 + 10 * w + y))]
                  refine q_iast E hI (hI.c7 (by omega)) x rfl (by first | omega | (rw [alen_w (by omega) (by omega)]; omega) | (rw [alen_s]; omega) | (show _ < 24; omega) | (show _ < 6; omega)) dX4_takeLanes_135 (fun S hI => ?_)
                  refine g_iinc (v := nI (m + 1)) (L' := [(3, .int (nI (m + 1))), (5, .int (nI y)), (4, .int (nI x)), (0, .ref (ad 4 w)), (1, .ref (ad 3 0)), (2, .int (cl))]) E dX4_takeLanes_136 5 rfl (nI_1 m) (by decide) rfl ?_
                  refine g_goto (tgt := 53) E dX4_takeLanes_139 (by decide) ?_
                  refine g_locals [(0, .ref (ad 4 w)), (1, .ref (ad 3 0)), (2, .int (cl)), (3, .int (nI (m + 1)))] [3, 4, 5, 0] rfl ?_
                  have l1 := hK.2.2.2.1 x y hx hy
                  unfold FAR at l1
                  refine g_L (L' := [(0, .ref (ad 4 w)), (1, .ref (ad 3 0)), (2, .int (cl)), (3, .int (nI (m + 1)))]) (by rfl) (ih_53 (m + 1) (_) (_) (tkS x y t d) (hI) ((hM.put hx).put hy) (by rw [tkS_up]; exact hTw.put.put) (tkI_yes hK ex0 ey0 et0 hx hy ht hxy c_82 (nI_ltn (by omega) (by omega) c_101)) (by omega) (by omega))
        exact loop_53 (M + 1) 0 (_) (_) (d00) (hI) (hM) (fun x y hx hy => hA x y (by omega) hy) (tkI_0) (by omega) (by omega)
      · have hk10 : a < 10 := nI_nge_nat (b := 10) (by decide) (by omega) c_5
        refine g_iconst (v := 0) E dX4_takeLanes_8 (by decide) ?_
        refine g_istore (L' := [(4, .int (0)), (0, .ref (ad 4 w)), (1, .ref (ad 3 0)), (2, .int (cl)), (3, .int (nI a))]) E dX4_takeLanes_9 (by decide) rfl ?_
        refine g_locals [(0, .ref (ad 4 w)), (1, .ref (ad 3 0)), (2, .int (cl)), (3, .int (nI a)), (4, .int (0))] [1, 2, 3, 4, 0] rfl ?_
        have loop_11 : ∀ (n_11 b : Nat) (S : wS) (r : Nat → Nat → Int32), (CI e0 S c ad i j p r) → (SM w r0 r) → (∀ x y, x < a → y < 10 → r (4 + 10 * w + x) y = nI (d00 x y)) → (∀ y, y < b → r (4 + 10 * w + a) y = nI (d00 a y)) → b ≤ 10 → 10 < n_11 + b → G C (cW (xy C) S) 0 0 11 [(0, .ref (ad 4 w)), (1, .ref (ad 3 0)), (2, .int (cl)), (3, .int (nI a)), (4, .int (nI b))] [] := by
          intro n_11
          induction n_11 with
          | zero => intro b S r hI hM hA hB g1 g2; exact absurd g2 (by omega)
          | succ n_11 ih_11 =>
            intro b S r hI hM hA hB h1_11 h2_11
            have hc := hI.cnt
            refine g_iload E dX4_takeLanes_11 4 rfl ?_
            refine g_bipush (v := 10) E dX4_takeLanes_13 (by decide) ?_
            refine g_icmp_ge (tgt := 45) E dX4_takeLanes_15 (by decide) (fun c_15 => ?_) (fun c_15 => ?_)
            · have e_b : b = 10 := Nat.le_antisymm h1_11 (nI_ge_nat (b := 10) (by decide) (by omega) c_15)
              refine g_iinc (v := nI (a + 1)) (L' := [(3, .int (nI (a + 1))), (0, .ref (ad 4 w)), (1, .ref (ad 3 0)), (2, .int (cl)), (4, .int (nI b))]) E dX4_takeLanes_45 3 rfl (nI_1 a) (by decide) rfl ?_
              refine g_goto (tgt := 2) E dX4_takeLanes_48 (by decide) ?_
              refine g_locals [(0, .ref (ad 4 w)), (1, .ref (ad 3 0)), (2, .int (cl)), (3, .int (nI (a + 1)))] [1, 2, 3, 0] rfl ?_
              refine g_L (L' := [(0, .ref (ad 4 w)), (1, .ref (ad 3 0)), (2, .int (cl)), (3, .int (nI (a + 1)))]) (by rfl) (ih_2 (a + 1) (S) (r) (hI) (hM) (fun x y hx hy => (Nat.lt_succ_iff_lt_or_eq.mp hx).elim (fun q => hA x y q hy) (fun q => by rw [q]; exact hB y (by omega))) (by omega) (by omega))
            · have hb10 : b < 10 := nI_nge_nat (b := 10) (by decide) (by omega) c_15
              refine g_aload_n E dX4_takeLanes_18 rfl 0 rfl ?_
              refine q_get_Ways_shortest E hI (hI.c4 hw) (fun _ h => (List.mem_cons_of_mem _ (List.mem_append_left _ (List.mem_append_right _ h)))) (List.mem_cons_of_mem _ (List.mem_append_left _ (List.mem_append_left _ (List.mem_of_getElem? (i := 0) rfl)))) dX4_takeLanes_19 ?_
              refine g_iload_n E dX4_takeLanes_22 rfl 3 rfl ?_
              refine q_row E hI (k := w) (by omega) a rfl (by first | omega | (rw [alen_w (by omega) (by omega)]; omega) | (rw [alen_s]; omega) | (show _ < 24; omega) | (show _ < 6; omega)) dX4_takeLanes_23 ?_
              refine g_iload E dX4_takeLanes_24 4 rfl ?_
              refine g_iload_n E dX4_takeLanes_26 rfl 3 rfl ?_
              refine g_iload E dX4_takeLanes_27 4 rfl ?_
              refine g_icmp_ne (tgt := 36) E dX4_takeLanes_29 (by decide) (fun c_29 => ?_) (fun c_29 => ?_)
              · refine g_ldc E (List.mem_cons_of_mem _ (List.mem_append_left _ (List.mem_append_left _ (List.mem_of_getElem? (i := 1) rfl)))) dX4_takeLanes_36 ?_
                refine q_iast E hI (hI.c7 (by omega)) b rfl (by first | omega | (rw [alen_w (by omega) (by omega)]; omega) | (rw [alen_s]; omega) | (show _ < 24; omega) | (show _ < 6; omega)) dX4_takeLanes_38 (fun S hI => ?_)
                refine g_iinc (v := nI (b + 1)) (L' := [(4, .int (nI (b + 1))), (0, .ref (ad 4 w)), (1, .ref (ad 3 0)), (2, .int (cl)), (3, .int (nI a))]) E dX4_takeLanes_39 4 rfl (nI_1 b) (by decide) rfl ?_
                refine g_goto (tgt := 11) E dX4_takeLanes_42 (by decide) ?_
                refine g_locals [(0, .ref (ad 4 w)), (1, .ref (ad 3 0)), (2, .int (cl)), (3, .int (nI a)), (4, .int (nI (b + 1)))] [1, 2, 3, 4, 0] rfl ?_
                refine g_L (L' := [(0, .ref (ad 4 w)), (1, .ref (ad 3 0)), (2, .int (cl)), (3, .int (nI a)), (4, .int (nI (b + 1)))]) (by rfl) (ih_11 (b + 1) (_) (_) (hI) (hM.put hk10) (fun x y hx hy => by rw [up2_nf (by omega)]; exact hA x y hx hy) (fun y hy => by
                    by_cases e : y = b
                    · rw [e, up2_self]; exact (by rw [d00_ne (fun q => c_29 (congrArg nI q))]; rfl)
                    · rw [up2_na e]; exact hB y (by omega)) (by omega) (by omega))
              · refine g_iconst (v := 0) E dX4_takeLanes_32 (by decide) ?_
                refine g_goto (tgt := 38) E dX4_takeLanes_33 (by decide) ?_
                refine q_iast E hI (hI.c7 (by omega)) b rfl (by first | omega | (rw [alen_w (by omega) (by omega)]; omega) | (rw [alen_s]; omega) | (show _ < 24; omega) | (show _ < 6; omega)) dX4_takeLanes_38 (fun S hI => ?_)
                refine g_iinc (v := nI (b + 1)) (L' := [(4, .int (nI (b + 1))), (0, .ref (ad 4 w)), (1, .ref (ad 3 0)), (2, .int (cl)), (3, .int (nI a))]) E dX4_takeLanes_39 4 rfl (nI_1 b) (by decide) rfl ?_
                refine g_goto (tgt := 11) E dX4_takeLanes_42 (by decide) ?_
                refine g_locals [(0, .ref (ad 4 w)), (1, .ref (ad 3 0)), (2, .int (cl)), (3, .int (nI a)), (4, .int (nI (b + 1)))] [1, 2, 3, 4, 0] rfl ?_
                refine g_L (L' := [(0, .ref (ad 4 w)), (1, .ref (ad 3 0)), (2, .int (cl)), (3, .int (nI a)), (4, .int (nI (b + 1)))]) (by rfl) (ih_11 (b + 1) (_) (_) (hI) (hM.put hk10) (fun x y hx hy => by rw [up2_nf (by omega)]; exact hA x y hx hy) (fun y hy => by
                    by_cases e : y = b
                    · rw [e, up2_self]; exact (by rw [show a = b from nI_inj (by omega) (by omega) c_29, d00_eq]; rfl)
                    · rw [up2_na e]; exact hB y (by omega)) (by omega) (by omega))
        exact loop_11 (10 + 1) 0 (_) (_) (hI) (hM) (hA) (fun y hy => absurd hy (Nat.not_lt_zero y)) (by omega) (by omega)
  exact loop_2 (10 + 1) 0 (_) (_) (hI) (hr0 ▸ SM.rf) (fun x y hx => absurd hx (Nat.not_lt_zero x)) (by omega) (by omega)
theorem nI_nm1 {n : Nat} (h : n < 2 ^ 31) : ¬ (-1 : Int32) = nI n := fun q => nI_pos h (by rw [← q]; decide)
abbrev rm_X4_find : Room := { frames := 1, cells := 0, slots := 0, locals := 25 }
set_option maxHeartbeats 4000000 in
set_option maxRecDepth 100000 in
theorem m_X4_find (l : Launch) (hl : l.stackTraces = false) (D : va_G) (cy : Nat → ClassId) (e0 : Nat) {S : wS} {c : Nat → Nat} {ad : Nat → Nat → Nat} {i : Nat → Nat → Int32} {j : Nat → Nat → Int64} {p : Nat → Nat → Option Nat} {r : Nat → Nat → Int32} (hI : CI e0 S c ad i j p r) {w : Nat} (hw : w < 2) {cl : Int32} {M : Nat} (hm : i 15 0 = nI M) (hm2 : M ≤ 24) (hln : LNS r M) (hwc : WC w i r M) : cMet l yX4_find wsX4_find rm_X4_find D cy e0 [.ref (ad 4 w), .ref (ad 3 0), .int (cl)] S (fun v S' => v = none ∧ ∃ i' r', CI e0 S' c ad i' j p r' ∧ SM w r r' ∧ (∀ f, f ≠ 16 → f ≠ 17 → i' f = i f) ∧ (∀ w1, w1 ≠ w → i' 16 w1 = i 16 w1 ∧ i' 17 w1 = i 17 w1) ∧ i' 16 w = nI M ∧ i' 17 w = cl ∧ TW w (dst (Ed (r 0) (r 1) (r 2) cl M)) r') (fun _ _ => False) 0 0 := by
  refine gMet.of (cc := cX4_find) (maxL := 4) (ret := none) hl (by decide) rfl (Nat.le_of_ble_eq_true rfl) ?_
  intro C E h1 h2 h3 hr hnm hT hE
  subst h1; subst h2; subst h3
  have E : gOk C cX4_find 4 wsX4_find RX4 e0 rm_X4_find := E
  show G C (cW (xy C) S) 0 0 0 [(0, .ref (ad 4 w)), (1, .ref (ad 3 0)), (2, .int (cl))] []
  have hc := hI.cnt
  refine g_aload_n E dX4_find_0 rfl 0 rfl ?_
  refine q_get_Ways_foundLanes E hI (hI.c4 hw) (fun _ h => (List.mem_cons_of_mem _ (List.mem_append_left _ (List.mem_append_right _ h)))) (List.mem_cons_of_mem _ (List.mem_append_left _ (List.mem_append_left _ (List.mem_of_getElem? (i := 0) rfl)))) dX4_find_1 ?_
  refine g_aload_n E dX4_find_4 rfl 1 rfl ?_
  refine q_getN_Roads_count E hI hI.c3 (fun _ h => (List.mem_cons_of_mem _ (List.mem_append_right _ h))) tbF_RX4_20 dX4_find_5 ?_
  refine g_icmp_ne (tgt := 20) E dX4_find_8 (by decide) (fun c_8 => ?_) (fun c_8 => ?_)
  · refine g_aload_n E dX4_find_20 rfl 0 rfl ?_
    refine g_aload_n E dX4_find_21 rfl 1 rfl ?_
    refine q_getN_Roads_count E hI hI.c3 (fun _ h => (List.mem_cons_of_mem _ (List.mem_append_right _ h))) tbF_RX4_20 dX4_find_22 ?_
    refine q_put_Ways_foundLanes E hI (hI.c4 hw) (fun _ h => (List.mem_cons_of_mem _ (List.mem_append_left _ (List.mem_append_right _ h)))) (List.mem_cons_of_mem _ (List.mem_append_left _ (List.mem_append_left _ (List.mem_of_getElem? (i := 0) rfl)))) dX4_find_25 (fun S hI => ?_)
    refine g_aload_n E dX4_find_28 rfl 0 rfl ?_
    refine g_iload_n E dX4_find_29 rfl 2 rfl ?_
    refine q_put_Ways_foundClosed E hI (hI.c4 hw) (fun _ h => (List.mem_cons_of_mem _ (List.mem_append_left _ (List.mem_append_right _ h)))) (List.mem_cons_of_mem _ (List.mem_append_left _ (List.mem_append_left _ (List.mem_of_getElem? (i := 1) rfl)))) dX4_find_30 (fun S hI => ?_)
    refine g_aload_n E dX4_find_33 rfl 0 rfl ?_
    refine g_aload_n E dX4_find_34 rfl 1 rfl ?_
    refine g_iload_n E dX4_find_35 rfl 2 rfl ?_
    refine c_invV (n := 2) (rest := []) E (m_X4_takeLanes (xl C) E.tr (xD C) (xy C) e0 (cl := cl) hI hw (by rw [up2_nf (by decide), up2_nf (by decide)]; exact hm) hm2 hln) (hI.obj (kd := 4) (k := w) (by omega) (hI.c4 hw)).1 gX4_find_X4_takeLanes rfl rfl rfl (by decide +kernel) ⟨Nat.le_of_ble_eq_true rfl, Nat.le_of_ble_eq_true rfl⟩ (wF_Ways (hI.obj (kd := 4) (k := w) (by omega) (hI.c4 hw)).2) rfl rfl rfl rfl (Nat.le_of_ble_eq_true rfl) dX4_find_36 ⟨Nat.le_of_ble_eq_true rfl, Nat.le_of_ble_eq_true rfl⟩ (fun _ _ h9 => h9.elim) (fun v9 S9 h9 => ?_)
    obtain ⟨hv9, r1, d1, hI, hM1, hT1, hK1⟩ := h9
    rw [hv9]
    show G C (cW (xy C) S9) 0 0 39 [(0, .ref (ad 4 w)), (1, .ref (ad 3 0)), (2, .int (cl))] []
    refine g_iconst (v := 0) E dX4_find_39 (by decide) ?_
    refine g_istore_n (L' := [(3, .int (0)), (0, .ref (ad 4 w)), (1, .ref (ad 3 0)), (2, .int (cl))]) E dX4_find_40 rfl (by decide) rfl ?_
    refine g_locals [(0, .ref (ad 4 w)), (1, .ref (ad 3 0)), (2, .int (cl)), (3, .int (0))] [1, 2, 3, 0] rfl ?_
    have loop_41 : ∀ (n_41 k : Nat) (S : wS) (r2 : Nat → Nat → Int32) (d : Nat → Nat → Nat), (CI e0 S c ad (up2 (up2 i 16 w (i 15 0)) 17 w cl) j p r2) → (SM w r r2) → (TW w d r2) → (fwI (Ed (r 0) (r 1) (r 2) cl M) k d) → k ≤ 10 → 10 < n_41 + k → G C (cW (xy C) S) 0 0 41 [(0, .ref (ad 4 w)), (1, .ref (ad 3 0)), (2, .int (cl)), (3, .int (nI k))] [] := by
      intro n_41
      induction n_41 with
      | zero => intro k S r2 d hI hM hTw hF g1 g2; exact absurd g2 (by omega)
      | succ n_41 ih_41 =>
        intro k S r2 d hI hM hTw hF h1_41 h2_41
        have hc := hI.cnt
        refine g_iload_n E dX4_find_41 rfl 3 rfl ?_
        refine g_bipush (v := 10) E dX4_find_42 (by decide) ?_
        refine g_icmp_ge (tgt := 58) E dX4_find_44 (by decide) (fun c_44 => ?_) (fun c_44 => ?_)
        · have e_k : k = 10 := Nat.le_antisymm h1_41 (nI_ge_nat (b := 10) (by decide) (by omega) c_44)
          exact g_vret E hE hr dX4_find_58 (Nat.le_of_ble_eq_true rfl) (Nat.le_of_ble_eq_true rfl) ⟨S, rfl, rfl, _, r2, hI, hM, fun f h1 h2 => by rw [up2_nf h2, up2_nf h1], fun w1 h1 => ⟨by rw [up2_nf (by decide), up2_na h1], by rw [up2_na h1, up2_nf (by decide)]⟩, by rw [up2_nf (by decide), up2_self]; exact hm, by rw [up2_self], hTw.cg (fun a b ha hb => fw_end (fun x y t q => Ed_in q) (e_k ▸ hF) ha hb)⟩
        · have hk10 : k < 10 := nI_nge_nat (b := 10) (by decide) (by omega) c_44
          refine g_aload_n E dX4_find_47 rfl 0 rfl ?_
          refine g_iload_n E dX4_find_48 rfl 3 rfl ?_
          refine c_invV (n := 1) (rest := []) E (m_X4_leadOver (xl C) E.tr (xD C) (xy C) e0 hI hw hk10 hTw (hF.2.2.1 k hk10) hF.2.2.2.1) (hI.obj (kd := 4) (k := w) (by omega) (hI.c4 hw)).1 gX4_find_X4_leadOver rfl rfl rfl (by decide +kernel) ⟨Nat.le_of_ble_eq_true rfl, Nat.le_of_ble_eq_true rfl⟩ (wF_Ways (hI.obj (kd := 4) (k := w) (by omega) (hI.c4 hw)).2) rfl rfl rfl rfl (Nat.le_of_ble_eq_true rfl) dX4_find_49 ⟨Nat.le_of_ble_eq_true rfl, Nat.le_of_ble_eq_true rfl⟩ (fun _ _ h9 => h9.elim) (fun v9 S9 h9 => ?_)
          obtain ⟨hv9, r2, hI, hM2, hT2⟩ := h9
          rw [hv9]
          show G C (cW (xy C) S9) 0 0 52 [(0, .ref (ad 4 w)), (1, .ref (ad 3 0)), (2, .int (cl)), (3, .int (nI k))] []
          refine g_iinc (v := nI (k + 1)) (L' := [(3, .int (nI (k + 1))), (0, .ref (ad 4 w)), (1, .ref (ad 3 0)), (2, .int (cl))]) E dX4_find_52 3 rfl (nI_1 k) (by decide) rfl ?_
          refine g_goto (tgt := 41) E dX4_find_55 (by decide) ?_
          refine g_locals [(0, .ref (ad 4 w)), (1, .ref (ad 3 0)), (2, .int (cl)), (3, .int (nI (k + 1)))] [1, 2, 3, 0] rfl ?_
          refine g_L (L' := [(0, .ref (ad 4 w)), (1, .ref (ad 3 0)), (2, .int (cl)), (3, .int (nI (k + 1)))]) (by rfl) (ih_41 (k + 1) (_) (_) (fwS k d) (hI) (hM.tr hM2) (hT2) (fwI_step hk10 hF) (by omega) (by omega))
    exact loop_41 (10 + 1) 0 (_) (_) (d1) (hI) (hM1) (hT1) (tkI_fw hK1) (by omega) (by omega)
  · refine g_aload_n E dX4_find_11 rfl 0 rfl ?_
    refine q_get_Ways_foundClosed E hI (hI.c4 hw) (fun _ h => (List.mem_cons_of_mem _ (List.mem_append_left _ (List.mem_append_right _ h)))) (List.mem_cons_of_mem _ (List.mem_append_left _ (List.mem_append_left _ (List.mem_of_getElem? (i := 1) rfl)))) dX4_find_12 ?_
    refine g_iload_n E dX4_find_15 rfl 2 rfl ?_
    refine g_icmp_ne (tgt := 20) E dX4_find_16 (by decide) (fun c_16 => ?_) (fun c_16 => ?_)
    · refine g_aload_n E dX4_find_20 rfl 0 rfl ?_
      refine g_aload_n E dX4_find_21 rfl 1 rfl ?_
      refine q_getN_Roads_count E hI hI.c3 (fun _ h => (List.mem_cons_of_mem _ (List.mem_append_right _ h))) tbF_RX4_20 dX4_find_22 ?_
      refine q_put_Ways_foundLanes E hI (hI.c4 hw) (fun _ h => (List.mem_cons_of_mem _ (List.mem_append_left _ (List.mem_append_right _ h)))) (List.mem_cons_of_mem _ (List.mem_append_left _ (List.mem_append_left _ (List.mem_of_getElem? (i := 0) rfl)))) dX4_find_25 (fun S hI => ?_)
      refine g_aload_n E dX4_find_28 rfl 0 rfl ?_
      refine g_iload_n E dX4_find_29 rfl 2 rfl ?_
      refine q_put_Ways_foundClosed E hI (hI.c4 hw) (fun _ h => (List.mem_cons_of_mem _ (List.mem_append_left _ (List.mem_append_right _ h)))) (List.mem_cons_of_mem _ (List.mem_append_left _ (List.mem_append_left _ (List.mem_of_getElem? (i := 1) rfl)))) dX4_find_30 (fun S hI => ?_)
      refine g_aload_n E dX4_find_33 rfl 0 rfl ?_
      refine g_aload_n E dX4_find_34 rfl 1 rfl ?_
      refine g_iload_n E dX4_find_35 rfl 2 rfl ?_
      refine c_invV (n := 2) (rest := []) E (m_X4_takeLanes (xl C) E.tr (xD C) (xy C) e0 (cl := cl) hI hw (by rw [up2_nf (by decide), up2_nf (by decide)]; exact hm) hm2 hln) (hI.obj (kd := 4) (k := w) (by omega) (hI.c4 hw)).1 gX4_find_X4_takeLanes rfl rfl rfl (by decide +kernel) ⟨Nat.le_of_ble_eq_true rfl, Nat.le_of_ble_eq_true rfl⟩ (wF_Ways (hI.obj (kd := 4) (k := w) (by omega) (hI.c4 hw)).2) rfl rfl rfl rfl (Nat.le_of_ble_eq_true rfl) dX4_find_36 ⟨Nat.le_of_ble_eq_true rfl, Nat.le_of_ble_eq_true rfl⟩ (fun _ _ h9 => h9.elim) (fun v9 S9 h9 => ?_)
      obtain ⟨hv9, r1, d1, hI, hM1, hT1, hK1⟩ := h9
      rw [hv9]
      show G C (cW (xy C) S9) 0 0 39 [(0, .ref (ad 4 w)), (1, .ref (ad 3 0)), (2, .int (cl))] []
      refine g_iconst (v := 0) E dX4_find_39 (by decide) ?_
      refine g_istore_n (L' := [(3, .int (0)), (0, .ref (ad 4 w)), (1, .ref (ad 3 0)), (2, .int (cl))]) E dX4_find_40 rfl (by decide) rfl ?_
      refine g_locals [(0, .ref (ad 4 w)), (1, .ref (ad 3 0)), (2, .int (cl)), (3, .int (0))] [1, 2, 3, 0] rfl ?_
      have loop_41 : ∀ (n_41 k : Nat) (S : wS) (r2 : Nat → Nat → Int32) (d : Nat → Nat → Nat), (CI e0 S c ad (up2 (up2 i 16 w (i 15 0)) 17 w cl) j p r2) → (SM w r r2) → (TW w d r2) → (fwI (Ed (r 0) (r 1) (r 2) cl M) k d) → k ≤ 10 → 10 < n_41 + k → G C (cW (xy C) S) 0 0 41 [(0, .ref (ad 4 w)), (1, .ref (ad 3 0)), (2, .int (cl)), (3, .int (nI k))] [] := by
        intro n_41
        induction n_41 with
        | zero => intro k S r2 d hI hM hTw hF g1 g2; exact absurd g2 (by omega)
        | succ n_41 ih_41 =>
          intro k S r2 d hI hM hTw hF h1_41 h2_41
          have hc := hI.cnt
          refine g_iload_n E dX4_find_41 rfl 3 rfl ?_
          refine g_bipush (v := 10) E dX4_find_42 (by decide) ?_
          refine g_icmp_ge (tgt := 58) E dX4_find_44 (by decide) (fun c_44 => ?_) (fun c_44 => ?_)
          · have e_k : k = 10 := Nat.le_antisymm h1_41 (nI_ge_nat (b := 10) (by decide) (by omega) c_44)
            exact g_vret E hE hr dX4_find_58 (Nat.le_of_ble_eq_true rfl) (Nat.le_of_ble_eq_true rfl) ⟨S, rfl, rfl, _, r2, hI, hM, fun f h1 h2 => by rw [up2_nf h2, up2_nf h1], fun w1 h1 => ⟨by rw [up2_nf (by decide), up2_na h1], by rw [up2_na h1, up2_nf (by decide)]⟩, by rw [up2_nf (by decide), up2_self]; exact hm, by rw [up2_self], hTw.cg (fun a b ha hb => fw_end (fun x y t q => Ed_in q) (e_k ▸ hF) ha hb)⟩
          · have hk10 : k < 10 := nI_nge_nat (b := 10) (by decide) (by omega) c_44
            refine g_aload_n E dX4_find_47 rfl 0 rfl ?_
            refine g_iload_n E dX4_find_48 rfl 3 rfl ?_
            refine c_invV (n := 1) (rest := []) E (m_X4_leadOver (xl C) E.tr (xD C) (xy C) e0 hI hw hk10 hTw (hF.2.2.1 k hk10) hF.2.2.2.1) (hI.obj (kd := 4) (k := w) (by omega) (hI.c4 hw)).1 gX4_find_X4_leadOver rfl rfl rfl (by decide +kernel) ⟨Nat.le_of_ble_eq_true rfl, Nat.le_of_ble_eq_true rfl⟩ (wF_Ways (hI.obj (kd := 4) (k := w) (by omega) (hI.c4 hw)).2) rfl rfl rfl rfl (Nat.le_of_ble_eq_true rfl) dX4_find_49 ⟨Nat.le_of_ble_eq_true rfl, Nat.le_of_ble_eq_true rfl⟩ (fun _ _ h9 => h9.elim) (fun v9 S9 h9 => ?_)
            obtain ⟨hv9, r2, hI, hM2, hT2⟩ := h9
            rw [hv9]
            show G C (cW (xy C) S9) 0 0 52 [(0, .ref (ad 4 w)), (1, .ref (ad 3 0)), (2, .int (cl)), (3, .int (nI k))] []
            refine g_iinc (v := nI (k + 1)) (L' := [(3, .int (nI (k + 1))), (0, .ref (ad 4 w)), (1, .ref (ad 3 0)), (2, .int (cl))]) E dX4_find_52 3 rfl (nI_1 k) (by decide) rfl ?_
            refine g_goto (tgt := 41) E dX4_find_55 (by decide) ?_
            refine g_locals [(0, .ref (ad 4 w)), (1, .ref (ad 3 0)), (2, .int (cl)), (3, .int (nI (k + 1)))] [1, 2, 3, 0] rfl ?_
            refine g_L (L' := [(0, .ref (ad 4 w)), (1, .ref (ad 3 0)), (2, .int (cl)), (3, .int (nI (k + 1)))]) (by rfl) (ih_41 (k + 1) (_) (_) (fwS k d) (hI) (hM.tr hM2) (hT2) (fwI_step hk10 hF) (by omega) (by omega))
      exact loop_41 (10 + 1) 0 (_) (_) (d1) (hI) (hM1) (hT1) (tkI_fw hK1) (by omega) (by omega)
    · exact g_vret E hE hr dX4_find_19 (Nat.le_of_ble_eq_true rfl) (Nat.le_of_ble_eq_true rfl) ⟨S, rfl, rfl, i, r, hI, SM.rf, fun _ _ _ => rfl, fun _ _ => ⟨rfl, rfl⟩, c_8.trans hm, c_16, by
        rcases hwc with h | ⟨m, h1, h2, h3⟩
        · exact absurd ((c_8.symm.trans h).symm.trans hm) (nI_nm1 (by omega))
        · rw [show m = M from nI_inj (by omega) (by omega) ((h2.symm.trans c_8).trans hm), c_16] at h3; exact h3⟩
