/-! the law from its entry -/
def wS0 : wS := ([], fun _ => 0, fun _ _ => 0, fun _ _ => 0, fun _ _ => none, fun _ => 0, fun _ _ => 0, fun _ _ => none)
def aaOf (q0 q1 q2 q3 q4 q5 q6 q7 : Nat) : Nat → Nat
  | 0 => q0
  | 1 => q1
  | 2 => q2
  | 3 => q3
  | 4 => q4
  | 5 => q5
  | 6 => q6
  | _ => q7
theorem SU_0 : SU 0 (fun _ _ => 0) c00 i00 (fun _ _ => 0) := ⟨rfl, rfl, fun e he => absurd he (Nat.not_lt_zero e), fun x hx => absurd hx (Nat.not_lt_zero x), fun e he => absurd he (Nat.not_lt_zero e)⟩
set_option maxHeartbeats 4000000 in
set_option maxRecDepth 100000 in
theorem law_go2 {C : gT} {e0 a b Ln : Nat} {xv : Nat → Int32} {aa : Nat → Nat} {W : va_W} (E : gOk C cL_law 27 wsL_law RL e0 room_1) (hX : va_X b Ln xv (xs C) (xs C).heap) (hbl : b < (xs C).heap.size) (hbA : ¬ xA C b) (hL : Ln ≤ 260) (fin : ∀ (W : va_W) (L : List (Nat × Value)) (mc ms : Nat), mc ≤ 646545 → ms ≤ 7162134 → G C W mc ms 1625 L [.int (nI 1)]) (hW : LW (xy C) e0 a aa (fun _ _ => 0) c00 i00 (fun _ _ => 0) (fun _ _ => none) (fun _ _ => 0) 0 W) {mc ms : Nat} (hmc : mc ≤ 60) (hms : ms ≤ 1400) : G C W mc ms 54 [(9, .ref (aa 7)), (8, .ref (aa 6)), (7, .ref (aa 5)), (6, .ref (aa 4)), (5, .ref (aa 3)), (4, .ref (aa 2)), (3, .ref (aa 1)), (2, .ref (aa 0)), (1, .ref a), (0, .ref b)] [] := by
  have hK := KN_new
  refine g_iconst (v := nI 0) E dL_law_54 (by decide) ?_
  refine g_istore (L' := [(10, .int (nI 0)), (9, .ref (aa 7)), (8, .ref (aa 6)), (7, .ref (aa 5)), (6, .ref (aa 4)), (5, .ref (aa 3)), (4, .ref (aa 2)), (3, .ref (aa 1)), (2, .ref (aa 0)), (1, .ref a), (0, .ref b)]) E dL_law_55 (by decide) rfl ?_
  refine g_iconst (v := nI 0) E dL_law_57 (by decide) ?_
  refine g_istore (L' := [(11, .int (nI 0)), (10, .int (nI 0)), (9, .ref (aa 7)), (8, .ref (aa 6)), (7, .ref (aa 5)), (6, .ref (aa 4)), (5, .ref (aa 3)), (4, .ref (aa 2)), (3, .ref (aa 1)), (2, .ref (aa 0)), (1, .ref a), (0, .ref b)]) E dL_law_58 (by decide) rfl ?_
  refine g_aload_n E dL_law_60 rfl 10 rfl ?_
  refine g_iconst (v := nI 3) E dL_law_61 (by decide) ?_
  refine g_iconst (v := nI 3) E dL_law_62 (by decide) ?_
  refine k_way E hW hK (x := 3) (y := 3) (by decide) (by decide) gL_law_X5_way ⟨Nat.le_of_ble_eq_true rfl, Nat.le_of_ble_eq_true rfl⟩ (Nat.le_of_ble_eq_true rfl) dL_law_63 ⟨by show _ ≤ 646545; omega, by show _ ≤ 7162134; omega⟩ (fun W hW => ?_)
  rw [wy_self]
  refine g_if_ne (tgt := 83) E dL_law_66 (by decide) (fun z => absurd rfl z) (fun c_66 => ?_)
  refine g_aload_n E dL_law_69 rfl 10 rfl ?_
  refine g_iconst (v := nI 3) E dL_law_70 (by decide) ?_
  refine g_iconst (v := nI 4) E dL_law_71 (by decide) ?_
  refine k_way E hW hK (x := 3) (y := 4) (by decide) (by decide) gL_law_X5_way ⟨Nat.le_of_ble_eq_true rfl, Nat.le_of_ble_eq_true rfl⟩ (Nat.le_of_ble_eq_true rfl) dL_law_72 ⟨by show _ ≤ 646545; omega, by show _ ≤ 7162134; omega⟩ (fun W hW => ?_)
  rw [wy_none (by decide)]
  refine g_iconst (v := (-1)) E dL_law_75 (by decide) ?_
  refine g_icmp_ne (tgt := 83) E dL_law_76 (by decide) (fun z => absurd rfl z) (fun c_76 => ?_)
  refine g_iconst (v := nI 1) E dL_law_79 (by decide) ?_
  refine g_goto (tgt := 84) E dL_law_80 (by decide) ?_
  refine g_istore (L' := [(12, .int (nI 1)), (11, .int (nI 0)), (10, .int (nI 0)), (9, .ref (aa 7)), (8, .ref (aa 6)), (7, .ref (aa 5)), (6, .ref (aa 4)), (5, .ref (aa 3)), (4, .ref (aa 2)), (3, .ref (aa 1)), (2, .ref (aa 0)), (1, .ref a), (0, .ref b)]) E dL_law_84 (by decide) rfl ?_
  refine g_iconst (v := nI 0) E dL_law_86 (by decide) ?_
  refine g_istore (L' := [(13, .int (nI 0)), (12, .int (nI 1)), (11, .int (nI 0)), (10, .int (nI 0)), (9, .ref (aa 7)), (8, .ref (aa 6)), (7, .ref (aa 5)), (6, .ref (aa 4)), (5, .ref (aa 3)), (4, .ref (aa 2)), (3, .ref (aa 1)), (2, .ref (aa 0)), (1, .ref a), (0, .ref b)]) E dL_law_87 (by decide) rfl ?_
  refine g_locals [(13, .int (nI 0)), (12, .int (nI 1)), (11, .int (nI 0)), (10, .int (nI 0)), (0, .ref b), (1, .ref a), (2, .ref (aa 0)), (3, .ref (aa 1)), (4, .ref (aa 2)), (5, .ref (aa 3)), (6, .ref (aa 4)), (7, .ref (aa 5)), (8, .ref (aa 6)), (9, .ref (aa 7))] [0, 1, 2, 3, 13, 12, 11, 10, 9, 8, 7, 6, 5, 4] rfl ?_
  exact g_widen (by omega) (by omega) (y_loop E hX hbl hbA hL fin 14 0 0 rfl rfl _ _ _ _ _ _ W hW hK SU_0)
set_option maxHeartbeats 4000000 in
set_option maxRecDepth 100000 in
theorem law_go {C : gT} {e0 b Ln : Nat} {xv : Nat → Int32} (E : gOk C cL_law 27 wsL_law RL e0 room_1) (hX : va_X b Ln xv (xs C) (xs C).heap) (hbl : b < (xs C).heap.size) (hbA : ¬ xA C b) (hL : Ln ≤ 260) (fin : ∀ (W : va_W) (L : List (Nat × Value)) (mc ms : Nat), mc ≤ 646545 → ms ≤ 7162134 → G C W mc ms 1625 L [.int (nI 1)]) : G C [] 0 0 0 [(0, .ref b)] [] := by
  show G C (cW (xy C) wS0) 0 0 0 [(0, .ref b)] []
  refine p_new_PW E inlX5 (idx := 8) (by decide +kernel) (by decide +kernel) (by decide +kernel) (Nat.le_of_ble_eq_true rfl) (Nat.le_of_ble_eq_true rfl) dL_law_0 (fun a ha => ?_)
  refine g_dup E dL_law_3 rfl ?_
  refine g_invI (As := []) (rest := [.ref a]) (n := 0) E (m_X5_init (xl C) E.tr (xD C) (xy C) e0 (S := nw wS0 a 5 0) (a := a) (List.mem_append_right _ List.mem_cons_self) (va_up_self _ _ _) (if_pos rfl)) gL_law_X5_init rfl rfl rfl (by decide +kernel) (by decide +kernel) (by decide +kernel) rfl (by decide +kernel) ⟨Nat.le_of_ble_eq_true rfl, Nat.le_of_ble_eq_true rfl⟩ rfl rfl (Nat.le_of_ble_eq_true rfl) dL_law_4 ⟨Nat.le_of_ble_eq_true rfl, Nat.le_of_ble_eq_true rfl⟩ (fun X w h => by obtain ⟨_, _, h⟩ := h; exact h.elim) (fun v w h9 => ?_)
  obtain ⟨S', rfl, rfl, -, ad, hI, rfl⟩ := h9
  refine g_astore_n (L' := [(1, .ref (ad 5 0)), (0, .ref b)]) E dL_law_7 rfl (by decide) rfl ?_
  refine g_bipush (v := nI 24) E dL_law_8 (by decide) ?_
  refine m_naI E (by decide +kernel) 24 rfl (by decide) (Nat.le_of_ble_eq_true rfl) (Nat.le_of_ble_eq_true rfl) dL_law_10 (fun q0 => ?_)
  refine g_astore_n (L' := [(2, .ref q0), (1, .ref (ad 5 0)), (0, .ref b)]) E dL_law_12 rfl (by decide) rfl ?_
  refine g_bipush (v := nI 24) E dL_law_13 (by decide) ?_
  refine m_naI E (by decide +kernel) 24 rfl (by decide) (Nat.le_of_ble_eq_true rfl) (Nat.le_of_ble_eq_true rfl) dL_law_15 (fun q1 => ?_)
  refine g_astore_n (L' := [(3, .ref q1), (2, .ref q0), (1, .ref (ad 5 0)), (0, .ref b)]) E dL_law_17 rfl (by decide) rfl ?_
  refine g_bipush (v := nI 24) E dL_law_18 (by decide) ?_
  refine m_naI E (by decide +kernel) 24 rfl (by decide) (Nat.le_of_ble_eq_true rfl) (Nat.le_of_ble_eq_true rfl) dL_law_20 (fun q2 => ?_)
  refine g_astore (L' := [(4, .ref q2), (3, .ref q1), (2, .ref q0), (1, .ref (ad 5 0)), (0, .ref b)]) E dL_law_22 (by decide) rfl ?_
  refine g_bipush (v := nI 6) E dL_law_24 (by decide) ?_
  refine m_naI E (by decide +kernel) 6 rfl (by decide) (Nat.le_of_ble_eq_true rfl) (Nat.le_of_ble_eq_true rfl) dL_law_26 (fun q3 => ?_)
  refine g_astore (L' := [(5, .ref q3), (4, .ref q2), (3, .ref q1), (2, .ref q0), (1, .ref (ad 5 0)), (0, .ref b)]) E dL_law_28 (by decide) rfl ?_
  refine g_bipush (v := nI 40) E dL_law_30 (by decide) ?_
  refine m_naI E (by decide +kernel) 40 rfl (by decide) (Nat.le_of_ble_eq_true rfl) (Nat.le_of_ble_eq_true rfl) dL_law_32 (fun q4 => ?_)
  refine g_astore (L' := [(6, .ref q4), (5, .ref q3), (4, .ref q2), (3, .ref q1), (2, .ref q0), (1, .ref (ad 5 0)), (0, .ref b)]) E dL_law_34 (by decide) rfl ?_
  refine g_bipush (v := nI 40) E dL_law_36 (by decide) ?_
  refine m_naI E (by decide +kernel) 40 rfl (by decide) (Nat.le_of_ble_eq_true rfl) (Nat.le_of_ble_eq_true rfl) dL_law_38 (fun q5 => ?_)
  refine g_astore (L' := [(7, .ref q5), (6, .ref q4), (5, .ref q3), (4, .ref q2), (3, .ref q1), (2, .ref q0), (1, .ref (ad 5 0)), (0, .ref b)]) E dL_law_40 (by decide) rfl ?_
  refine g_bipush (v := nI 40) E dL_law_42 (by decide) ?_
  refine m_naI E (by decide +kernel) 40 rfl (by decide) (Nat.le_of_ble_eq_true rfl) (Nat.le_of_ble_eq_true rfl) dL_law_44 (fun q6 => ?_)
  refine g_astore (L' := [(8, .ref q6), (7, .ref q5), (6, .ref q4), (5, .ref q3), (4, .ref q2), (3, .ref q1), (2, .ref q0), (1, .ref (ad 5 0)), (0, .ref b)]) E dL_law_46 (by decide) rfl ?_
  refine g_bipush (v := nI 40) E dL_law_48 (by decide) ?_
  refine m_naI E (by decide +kernel) 40 rfl (by decide) (Nat.le_of_ble_eq_true rfl) (Nat.le_of_ble_eq_true rfl) dL_law_50 (fun q7 => ?_)
  refine g_astore (L' := [(9, .ref q7), (8, .ref q6), (7, .ref q5), (6, .ref q4), (5, .ref q3), (4, .ref q2), (3, .ref q1), (2, .ref q0), (1, .ref (ad 5 0)), (0, .ref b)]) E dL_law_52 (by decide) rfl ?_
  refine g_world (ws' := cW (xy C) S' ++ aW (xy C) (aaOf q0 q1 q2 q3 q4 q5 q6 q7) (fun _ _ => 0)) (by simp only [List.append_assoc]; rfl) ?_
  exact law_go2 (aa := aaOf q0 q1 q2 q3 q4 q5 q6 q7) E hX hbl hbA hL fin ⟨S', ad, i00, _, rfl, hI, rfl, SC.rf, KN_new.wv⟩ (Nat.le_of_ble_eq_true rfl) (Nat.le_of_ble_eq_true rfl)
