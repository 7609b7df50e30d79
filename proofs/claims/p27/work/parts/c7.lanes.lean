/-! lanes are closed where a permit is OPEN; ways -/
abbrev rm_L_areLanes : Room := { frames := 8, cells := 200, slots := 1200, locals := 144 }
set_option maxHeartbeats 4000000 in
set_option maxRecDepth 100000 in
theorem m_L_areLanes (l : Launch) (hl : l.stackTraces = false) (D : va_G) (cy : Nat → ClassId) (e0 : Nat) {a N : Nat} {aa : Nat → Nat} {av : Nat → Nat → Int32} {c : Nat → Nat} {i : Nat → Nat → Int32} {j : Nat → Nat → Int64} {p : Nat → Nat → Option Nat} {r : Nat → Nat → Int32} {W : va_W} (hW : LW cy e0 a aa av c i j p r 14 W) (hK : KN c i j p r 14 N) (hA : LA c i p r av)  : gMet l yL_areLanes wsL_areLanes rm_L_areLanes D cy e0 [.ref a, .ref (aa 0), .ref (aa 1), .ref (aa 2), .ref (aa 4), .int (nI 14), .int (nI (c 2))] W (fun v W' => v = some (.int 1) ∧ LW cy e0 a aa av c i j p r 14 W') (fun _ _ => False) 200 1200 := by
  refine gMet.of (cc := cL_areLanes) (maxL := 12) (ret := some .boolean) hl (by decide) rfl (Nat.le_of_ble_eq_true rfl) ?_
  intro C E h1 h2 h3 hr hnm hT hE
  subst h1; subst h2; subst h3
  have E : gOk C cL_areLanes 12 wsL_areLanes RL e0 rm_L_areLanes := E
  have hb := hK.b
  obtain ⟨cl, hcl⟩ : ∃ cl, cl = clM (fun k => i 11 k) (fun k => i 7 k) none (c 2) := ⟨_, rfl⟩
  have loop2 : ∀ (n e : Nat), e + n = 14 → ∀ W, LW (xy C) e0 a aa av c i j p r 14 W → G C W (c 2 + 5 * e) (6 * c 2 + 30 * e) 51 [(9, .int (nI e)), (8, .int (nI 1)), (7, .int cl), (0, .ref a), (1, .ref (aa 0)), (2, .ref (aa 1)), (3, .ref (aa 2)), (4, .ref (aa 4)), (5, .int (nI 14)), (6, .int (nI (c 2)))] [] := by
    intro n
    induction n with
    | zero =>
      intro e he W hW
      refine g_iload E dL_areLanes_51 0 rfl ?_
      refine g_iload E dL_areLanes_53 8 rfl ?_
      refine n_icmp_ge (tgt := 161) E (by omega) (by omega) dL_areLanes_55 (by decide) (fun c_55 => ?_) (fun z => by omega)
      refine g_iload E dL_areLanes_161 1 rfl ?_
      exact g_zret E hE hr (Or.inr rfl) dL_areLanes_163 (by omega) (by omega) ⟨rfl, hW⟩
    | succ n ih =>
      intro e he W hW
      obtain ⟨x, y, t, g1, g2, g3, g4, g5, g6, g7, g8⟩ := hK.ln e (by omega)
      obtain ⟨a0, a1, a2⟩ := hA.1 e (by omega)
      rw [g1] at a0
      rw [g2] at a1
      rw [g3] at a2
      obtain ⟨w1, w2⟩ := hK.ln.way (cl := cl) g6
      have next : ∀ W, LW (xy C) e0 a aa av c i j p r 14 W → G C W (c 2 + 5 * e + 5) (6 * c 2 + 30 * e + 30) 148 [(9, .int (nI e)), (8, .int (nI 1)), (7, .int cl), (0, .ref a), (1, .ref (aa 0)), (2, .ref (aa 1)), (3, .ref (aa 2)), (4, .ref (aa 4)), (5, .int (nI 14)), (6, .int (nI (c 2)))] [] := by
        intro W hW
        refine g_iconst (v := nI 1) E dL_areLanes_148 (by decide) ?_
        refine g_goto (tgt := 153) E dL_areLanes_149 (by decide) ?_
        refine g_istore (L' := [(8, .int (nI 1)), (9, .int (nI e)), (7, .int cl), (0, .ref a), (1, .ref (aa 0)), (2, .ref (aa 1)), (3, .ref (aa 2)), (4, .ref (aa 4)), (5, .int (nI 14)), (6, .int (nI (c 2)))]) E dL_areLanes_153 (by decide) rfl ?_
        refine g_iinc (v := nI (e + 1)) (L' := [(9, .int (nI (e + 1))), (8, .int (nI 1)), (7, .int cl), (0, .ref a), (1, .ref (aa 0)), (2, .ref (aa 1)), (3, .ref (aa 2)), (4, .ref (aa 4)), (5, .int (nI 14)), (6, .int (nI (c 2)))]) E dL_areLanes_155 1 rfl (nI_1 e) (by decide) rfl ?_
        refine g_goto (tgt := 51) E dL_areLanes_158 (by decide) ?_
        refine g_locals [(9, .int (nI (e + 1))), (8, .int (nI 1)), (7, .int cl), (0, .ref a), (1, .ref (aa 0)), (2, .ref (aa 1)), (3, .ref (aa 2)), (4, .ref (aa 4)), (5, .int (nI 14)), (6, .int (nI (c 2)))] [0, 1, 2, 3, 4, 5, 6, 7, 8, 9] rfl ?_
        exact g_widen (by omega) (by omega) (ih (e + 1) (by omega) W hW)
      refine g_iload E dL_areLanes_51 0 rfl ?_
      refine g_iload E dL_areLanes_53 8 rfl ?_
      refine n_icmp_ge (tgt := 161) E (by omega) (by omega) dL_areLanes_55 (by decide) (fun z => by omega) (fun c_55 => ?_)
      refine g_iload E dL_areLanes_58 1 rfl ?_
      refine g_if_eq (tgt := 161) E dL_areLanes_60 (by decide) (fun z => absurd z (by decide)) (fun c_60 => ?_)
      refine g_aload_n E dL_areLanes_63 rfl 3 rfl ?_
      refine g_iload E dL_areLanes_64 0 rfl ?_
      refine k_isClosed E hW hK (k := e) (by omega) gL_areLanes_X5_isClosed ⟨Nat.le_of_ble_eq_true rfl, Nat.le_of_ble_eq_true rfl⟩ (Nat.le_of_ble_eq_true rfl) dL_areLanes_66 ⟨by show _ ≤ 200; omega, by show _ ≤ 1200; omega⟩ (fun W hW => ?_)
      rw [← hcl, closed_bit (show e < 32 by omega)]
      by_cases hc : ((cl >>> (nI e &&& 31)) &&& 1) = 1
      · rw [if_pos hc]
        show G C W _ _ _ _ [.int (nI 1)]
        refine g_istore (L' := [(10, .int (nI 1)), (9, .int (nI e)), (8, .int (nI 1)), (7, .int cl), (0, .ref a), (1, .ref (aa 0)), (2, .ref (aa 1)), (3, .ref (aa 2)), (4, .ref (aa 4)), (5, .int (nI 14)), (6, .int (nI (c 2)))]) E dL_areLanes_69 (by decide) rfl ?_
        refine g_aload_n E dL_areLanes_71 rfl 4 rfl ?_
        refine g_aload_n E dL_areLanes_72 rfl 5 rfl ?_
        refine g_iload E dL_areLanes_73 1 rfl ?_
        refine l_ald E hW 0 e (by decide) (by show _ < 24; omega) dL_areLanes_75 ?_
        rw [a0]
        refine g_aload_n E dL_areLanes_76 rfl 6 rfl ?_
        refine g_iload E dL_areLanes_77 1 rfl ?_
        refine l_ald E hW 1 e (by decide) (by show _ < 24; omega) dL_areLanes_79 ?_
        rw [a1]
        refine k_way E hW hK (x := x) (y := y) g4 g5 gL_areLanes_X5_way ⟨Nat.le_of_ble_eq_true rfl, Nat.le_of_ble_eq_true rfl⟩ (Nat.le_of_ble_eq_true rfl) dL_areLanes_80 ⟨by show _ ≤ 200; omega, by show _ ≤ 1200; omega⟩ (fun W hW => ?_)
        rw [← hcl]
        refine g_istore (L' := [(11, .int (wy (Ed (r 0) (r 1) (r 2) cl 14) x y)), (10, .int (nI 1)), (9, .int (nI e)), (8, .int (nI 1)), (7, .int cl), (0, .ref a), (1, .ref (aa 0)), (2, .ref (aa 1)), (3, .ref (aa 2)), (4, .ref (aa 4)), (5, .int (nI 14)), (6, .int (nI (c 2)))]) E dL_areLanes_83 (by decide) rfl ?_
        refine g_iload E dL_areLanes_85 1 rfl ?_
        refine g_iload E dL_areLanes_87 4 rfl ?_
        refine g_iload E dL_areLanes_89 2 rfl ?_
        refine g_ishr E dL_areLanes_91 ?_
        refine g_iconst (v := nI 1) E dL_areLanes_92 (by decide) ?_
        refine g_iand E dL_areLanes_93 ?_
        refine g_iconst (v := nI 1) E dL_areLanes_94 (by decide) ?_
        refine g_icmp_ne (tgt := 102) E dL_areLanes_95 (by decide) (fun z => absurd hc z) (fun c_95 => ?_)
        refine g_iconst (v := nI 1) E dL_areLanes_98 (by decide) ?_
        refine g_goto (tgt := 103) E dL_areLanes_99 (by decide) ?_
        refine n_icmp_ne (tgt := 152) E (by omega) (by omega) dL_areLanes_103 (by decide) (fun z => absurd rfl z) (fun c_103 => ?_)
        refine g_iload E dL_areLanes_106 0 rfl ?_
        refine g_aload_n E dL_areLanes_108 rfl 5 rfl ?_
        refine g_aload_n E dL_areLanes_109 rfl 7 rfl ?_
        refine g_iload E dL_areLanes_110 2 rfl ?_
        refine l_ald E hW 1 e (by decide) (by show _ < 24; omega) dL_areLanes_112 ?_
        rw [a1]
        refine g_aload_n E dL_areLanes_113 rfl 6 rfl ?_
        refine g_iload E dL_areLanes_114 2 rfl ?_
        refine l_ald E hW 0 e (by decide) (by show _ < 24; omega) dL_areLanes_116 ?_
        rw [a0]
        refine k_way E hW hK (x := y) (y := x) g5 g4 gL_areLanes_X5_way ⟨Nat.le_of_ble_eq_true rfl, Nat.le_of_ble_eq_true rfl⟩ (Nat.le_of_ble_eq_true rfl) dL_areLanes_117 ⟨by show _ ≤ 200; omega, by show _ ≤ 1200; omega⟩ (fun W hW => ?_)
        rw [← hcl]
        refine g_icmp_ne (tgt := 152) E dL_areLanes_120 (by decide) (fun z => absurd w1 z) (fun c_120 => ?_)
        refine g_iload E dL_areLanes_123 0 rfl ?_
        refine g_if_eq (tgt := 152) E dL_areLanes_125 (by decide) (fun z => absurd z w2) (fun c_125 => ?_)
        refine g_iload E dL_areLanes_128 1 rfl ?_
        refine g_if_ne (tgt := 148) E dL_areLanes_130 (by decide) (fun c_130 => ?_) (fun z => absurd z (by decide))
        refine g_locals [(9, .int (nI e)), (8, .int (nI 1)), (7, .int cl), (0, .ref a), (1, .ref (aa 0)), (2, .ref (aa 1)), (3, .ref (aa 2)), (4, .ref (aa 4)), (5, .int (nI 14)), (6, .int (nI (c 2)))] [2, 3, 4, 5, 6, 7, 8, 9, 10, 11] rfl ?_
        exact g_widen (by omega) (by omega) (next W hW)
      · rw [if_neg hc]
        show G C W _ _ _ _ [.int (nI 0)]
        refine g_istore (L' := [(10, .int (nI 0)), (9, .int (nI e)), (8, .int (nI 1)), (7, .int cl), (0, .ref a), (1, .ref (aa 0)), (2, .ref (aa 1)), (3, .ref (aa 2)), (4, .ref (aa 4)), (5, .int (nI 14)), (6, .int (nI (c 2)))]) E dL_areLanes_69 (by decide) rfl ?_
        refine g_aload_n E dL_areLanes_71 rfl 4 rfl ?_
        refine g_aload_n E dL_areLanes_72 rfl 5 rfl ?_
        refine g_iload E dL_areLanes_73 1 rfl ?_
        refine l_ald E hW 0 e (by decide) (by show _ < 24; omega) dL_areLanes_75 ?_
        rw [a0]
        refine g_aload_n E dL_areLanes_76 rfl 6 rfl ?_
        refine g_iload E dL_areLanes_77 1 rfl ?_
        refine l_ald E hW 1 e (by decide) (by show _ < 24; omega) dL_areLanes_79 ?_
        rw [a1]
        refine k_way E hW hK (x := x) (y := y) g4 g5 gL_areLanes_X5_way ⟨Nat.le_of_ble_eq_true rfl, Nat.le_of_ble_eq_true rfl⟩ (Nat.le_of_ble_eq_true rfl) dL_areLanes_80 ⟨by show _ ≤ 200; omega, by show _ ≤ 1200; omega⟩ (fun W hW => ?_)
        rw [← hcl]
        refine g_istore (L' := [(11, .int (wy (Ed (r 0) (r 1) (r 2) cl 14) x y)), (10, .int (nI 0)), (9, .int (nI e)), (8, .int (nI 1)), (7, .int cl), (0, .ref a), (1, .ref (aa 0)), (2, .ref (aa 1)), (3, .ref (aa 2)), (4, .ref (aa 4)), (5, .int (nI 14)), (6, .int (nI (c 2)))]) E dL_areLanes_83 (by decide) rfl ?_
        refine g_iload E dL_areLanes_85 1 rfl ?_
        refine g_iload E dL_areLanes_87 4 rfl ?_
        refine g_iload E dL_areLanes_89 2 rfl ?_
        refine g_ishr E dL_areLanes_91 ?_
        refine g_iconst (v := nI 1) E dL_areLanes_92 (by decide) ?_
        refine g_iand E dL_areLanes_93 ?_
        refine g_iconst (v := nI 1) E dL_areLanes_94 (by decide) ?_
        refine g_icmp_ne (tgt := 102) E dL_areLanes_95 (by decide) (fun c_95 => ?_) (fun z => absurd z hc)
        refine g_iconst (v := nI 0) E dL_areLanes_102 (by decide) ?_
        refine n_icmp_ne (tgt := 152) E (by omega) (by omega) dL_areLanes_103 (by decide) (fun z => absurd rfl z) (fun c_103 => ?_)
        refine g_iload E dL_areLanes_106 0 rfl ?_
        refine g_aload_n E dL_areLanes_108 rfl 5 rfl ?_
        refine g_aload_n E dL_areLanes_109 rfl 7 rfl ?_
        refine g_iload E dL_areLanes_110 2 rfl ?_
        refine l_ald E hW 1 e (by decide) (by show _ < 24; omega) dL_areLanes_112 ?_
        rw [a1]
        refine g_aload_n E dL_areLanes_113 rfl 6 rfl ?_
        refine g_iload E dL_areLanes_114 2 rfl ?_
        refine l_ald E hW 0 e (by decide) (by show _ < 24; omega) dL_areLanes_116 ?_
        rw [a0]
        refine k_way E hW hK (x := y) (y := x) g5 g4 gL_areLanes_X5_way ⟨Nat.le_of_ble_eq_true rfl, Nat.le_of_ble_eq_true rfl⟩ (Nat.le_of_ble_eq_true rfl) dL_areLanes_117 ⟨by show _ ≤ 200; omega, by show _ ≤ 1200; omega⟩ (fun W hW => ?_)
        rw [← hcl]
        refine g_icmp_ne (tgt := 152) E dL_areLanes_120 (by decide) (fun z => absurd w1 z) (fun c_120 => ?_)
        refine g_iload E dL_areLanes_123 0 rfl ?_
        refine g_if_eq (tgt := 152) E dL_areLanes_125 (by decide) (fun z => absurd z w2) (fun c_125 => ?_)
        refine g_iload E dL_areLanes_128 1 rfl ?_
        refine g_if_ne (tgt := 148) E dL_areLanes_130 (by decide) (fun z => absurd rfl z) (fun c_130 => ?_)
        have ho : opn cl e := by
          rw [opn_bt (by omega)]
          cases hbt : bt cl e with
          | false => rfl
          | true => exact absurd (by rw [shr32 (by omega), if_pos hbt]) hc
        obtain ⟨d, d1, d2, d3⟩ := hK.ln.lane (cl := cl) (show e < 14 by omega) ho g1 g2 g3 g4 g5 g6 g8
        rw [d3]
        refine g_iload E dL_areLanes_133 0 rfl ?_
        refine g_iconst (v := nI 1) E dL_areLanes_135 (by decide) ?_
        refine n_icmp_lt (tgt := 152) E (by omega) (by omega) dL_areLanes_136 (by decide) (fun z => by omega) (fun c_136 => ?_)
        refine g_iload E dL_areLanes_139 0 rfl ?_
        refine g_aload_n E dL_areLanes_141 rfl 8 rfl ?_
        refine g_iload E dL_areLanes_142 2 rfl ?_
        refine l_ald E hW 2 e (by decide) (by show _ < 24; omega) dL_areLanes_144 ?_
        rw [a2]
        refine n_icmp_gt (tgt := 152) E (by omega) (by omega) dL_areLanes_145 (by decide) (fun z => by omega) (fun c_145 => ?_)
        refine g_locals [(9, .int (nI e)), (8, .int (nI 1)), (7, .int cl), (0, .ref a), (1, .ref (aa 0)), (2, .ref (aa 1)), (3, .ref (aa 2)), (4, .ref (aa 4)), (5, .int (nI 14)), (6, .int (nI (c 2)))] [2, 3, 4, 5, 6, 7, 8, 9, 10, 11] rfl ?_
        exact g_widen (by omega) (by omega) (next W hW)
  have loop1 : ∀ (n q : Nat), q + n = c 2 → ∀ W, LW (xy C) e0 a aa av c i j p r 14 W → G C W q (6 * q) 9 [(9, .int (nI q)), (8, .int (nI 1)), (7, .int (clM (fun k => i 11 k) (fun k => i 7 k) none q)), (0, .ref a), (1, .ref (aa 0)), (2, .ref (aa 1)), (3, .ref (aa 2)), (4, .ref (aa 4)), (5, .int (nI 14)), (6, .int (nI (c 2)))] [] := by
    intro n
    induction n with
    | zero =>
      intro q hq W hW
      have hq2 : q = c 2 := by omega
      refine g_iload E dL_areLanes_9 0 rfl ?_
      refine g_iload E dL_areLanes_11 9 rfl ?_
      refine n_icmp_ge (tgt := 48) E (by omega) (by omega) dL_areLanes_13 (by decide) (fun c_13 => ?_) (fun z => by omega)
      refine g_iconst (v := nI 0) E dL_areLanes_48 (by decide) ?_
      refine g_istore (L' := [(9, .int (nI 0)), (8, .int (nI 1)), (7, .int (clM (fun k => i 11 k) (fun k => i 7 k) none q)), (0, .ref a), (1, .ref (aa 0)), (2, .ref (aa 1)), (3, .ref (aa 2)), (4, .ref (aa 4)), (5, .int (nI 14)), (6, .int (nI (c 2)))]) E dL_areLanes_49 (by decide) rfl ?_
      refine g_locals [(9, .int (nI 0)), (8, .int (nI 1)), (7, .int (clM (fun k => i 11 k) (fun k => i 7 k) none q)), (0, .ref a), (1, .ref (aa 0)), (2, .ref (aa 1)), (3, .ref (aa 2)), (4, .ref (aa 4)), (5, .int (nI 14)), (6, .int (nI (c 2)))] [0, 1, 2, 3, 4, 5, 6, 7, 8, 9] rfl ?_
      have h9 := loop2 14 0 rfl W hW
      rw [hcl] at h9
      rw [hq2]
      exact h9
    | succ n ih =>
      intro q hq W hW
      refine g_iload E dL_areLanes_9 0 rfl ?_
      refine g_iload E dL_areLanes_11 9 rfl ?_
      refine n_icmp_ge (tgt := 48) E (by omega) (by omega) dL_areLanes_13 (by decide) (fun z => by omega) (fun c_13 => ?_)
      refine g_iload E dL_areLanes_16 2 rfl ?_
      refine g_aload_n E dL_areLanes_18 rfl 3 rfl ?_
      refine g_iload E dL_areLanes_19 0 rfl ?_
      refine k_state E hW hK (k := q) (by omega) gL_areLanes_X5_state ⟨Nat.le_of_ble_eq_true rfl, Nat.le_of_ble_eq_true rfl⟩ (Nat.le_of_ble_eq_true rfl) dL_areLanes_21 ⟨by show _ ≤ 200; omega, by show _ ≤ 1200; omega⟩ (fun W hW => ?_)
      refine g_iconst (v := nI 2) E dL_areLanes_24 (by decide) ?_
      by_cases h2 : i 11 q = nI 2
      · refine g_icmp_ne (tgt := 38) E dL_areLanes_25 (by decide) (fun z => absurd h2 z) (fun c_25 => ?_)
        refine g_iconst (v := nI 1) E dL_areLanes_28 (by decide) ?_
        refine g_aload E dL_areLanes_29 7 rfl ?_
        refine g_iload E dL_areLanes_31 0 rfl ?_
        refine l_ald E hW 4 q (by decide) (by show _ < 40; omega) dL_areLanes_33 ?_
        rw [(hA.2.2 q (by omega)).1]
        refine g_ishl E dL_areLanes_34 ?_
        refine g_goto (tgt := 39) E dL_areLanes_35 (by decide) ?_
        refine g_ior E dL_areLanes_39 ?_
        refine g_istore (L' := [(7, .int ((clM (fun k => i 11 k) (fun k => i 7 k) none q) ||| ((nI 1) <<< ((i 7 q) &&& 31)))), (9, .int (nI q)), (8, .int (nI 1)), (0, .ref a), (1, .ref (aa 0)), (2, .ref (aa 1)), (3, .ref (aa 2)), (4, .ref (aa 4)), (5, .int (nI 14)), (6, .int (nI (c 2)))]) E dL_areLanes_40 (by decide) rfl ?_
        refine g_iinc (v := nI (q + 1)) (L' := [(9, .int (nI (q + 1))), (7, .int ((clM (fun k => i 11 k) (fun k => i 7 k) none q) ||| ((nI 1) <<< ((i 7 q) &&& 31)))), (8, .int (nI 1)), (0, .ref a), (1, .ref (aa 0)), (2, .ref (aa 1)), (3, .ref (aa 2)), (4, .ref (aa 4)), (5, .int (nI 14)), (6, .int (nI (c 2)))]) E dL_areLanes_42 1 rfl (nI_1 q) (by decide) rfl ?_
        refine g_goto (tgt := 9) E dL_areLanes_45 (by decide) ?_
        refine g_locals [(9, .int (nI (q + 1))), (8, .int (nI 1)), (7, .int ((clM (fun k => i 11 k) (fun k => i 7 k) none q) ||| ((nI 1) <<< ((i 7 q) &&& 31)))), (0, .ref a), (1, .ref (aa 0)), (2, .ref (aa 1)), (3, .ref (aa 2)), (4, .ref (aa 4)), (5, .int (nI 14)), (6, .int (nI (c 2)))] [0, 2, 1, 3, 4, 5, 6, 7, 8, 9] rfl ?_
        have e9 : clM (fun k => i 11 k) (fun k => i 7 k) none q ||| (nI 1 <<< (i 7 q &&& 31)) = clM (fun k => i 11 k) (fun k => i 7 k) none (q + 1) := (if_pos (show i 11 q = 2 ∧ (none : Option Nat) ≠ some q from ⟨h2, by simp⟩)).symm
        rw [e9]
        exact g_widen (by omega) (by omega) (ih (q + 1) (by omega) W hW)
      · refine g_icmp_ne (tgt := 38) E dL_areLanes_25 (by decide) (fun c_25 => ?_) (fun z => absurd z h2)
        refine g_iconst (v := nI 0) E dL_areLanes_38 (by decide) ?_
        refine g_ior E dL_areLanes_39 ?_
        refine g_istore (L' := [(7, .int ((clM (fun k => i 11 k) (fun k => i 7 k) none q) ||| (nI 0))), (9, .int (nI q)), (8, .int (nI 1)), (0, .ref a), (1, .ref (aa 0)), (2, .ref (aa 1)), (3, .ref (aa 2)), (4, .ref (aa 4)), (5, .int (nI 14)), (6, .int (nI (c 2)))]) E dL_areLanes_40 (by decide) rfl ?_
        refine g_iinc (v := nI (q + 1)) (L' := [(9, .int (nI (q + 1))), (7, .int ((clM (fun k => i 11 k) (fun k => i 7 k) none q) ||| (nI 0))), (8, .int (nI 1)), (0, .ref a), (1, .ref (aa 0)), (2, .ref (aa 1)), (3, .ref (aa 2)), (4, .ref (aa 4)), (5, .int (nI 14)), (6, .int (nI (c 2)))]) E dL_areLanes_42 1 rfl (nI_1 q) (by decide) rfl ?_
        refine g_goto (tgt := 9) E dL_areLanes_45 (by decide) ?_
        refine g_locals [(9, .int (nI (q + 1))), (8, .int (nI 1)), (7, .int ((clM (fun k => i 11 k) (fun k => i 7 k) none q) ||| (nI 0))), (0, .ref a), (1, .ref (aa 0)), (2, .ref (aa 1)), (3, .ref (aa 2)), (4, .ref (aa 4)), (5, .int (nI 14)), (6, .int (nI (c 2)))] [0, 2, 1, 3, 4, 5, 6, 7, 8, 9] rfl ?_
        have e9 : clM (fun k => i 11 k) (fun k => i 7 k) none q ||| nI 0 = clM (fun k => i 11 k) (fun k => i 7 k) none (q + 1) := (Int32.or_zero).trans (if_neg (fun y : i 11 q = 2 ∧ (none : Option Nat) ≠ some q => h2 y.1)).symm
        rw [e9]
        exact g_widen (by omega) (by omega) (ih (q + 1) (by omega) W hW)
  show G C W 0 0 0 [(0, .ref a), (1, .ref (aa 0)), (2, .ref (aa 1)), (3, .ref (aa 2)), (4, .ref (aa 4)), (5, .int (nI 14)), (6, .int (nI (c 2)))] []
  refine g_iconst (v := nI 0) E dL_areLanes_0 (by decide) ?_
  refine g_istore (L' := [(7, .int (nI 0)), (0, .ref a), (1, .ref (aa 0)), (2, .ref (aa 1)), (3, .ref (aa 2)), (4, .ref (aa 4)), (5, .int (nI 14)), (6, .int (nI (c 2)))]) E dL_areLanes_1 (by decide) rfl ?_
  refine g_iconst (v := nI 1) E dL_areLanes_3 (by decide) ?_
  refine g_istore (L' := [(8, .int (nI 1)), (7, .int (nI 0)), (0, .ref a), (1, .ref (aa 0)), (2, .ref (aa 1)), (3, .ref (aa 2)), (4, .ref (aa 4)), (5, .int (nI 14)), (6, .int (nI (c 2)))]) E dL_areLanes_4 (by decide) rfl ?_
  refine g_iconst (v := nI 0) E dL_areLanes_6 (by decide) ?_
  refine g_istore (L' := [(9, .int (nI 0)), (8, .int (nI 1)), (7, .int (nI 0)), (0, .ref a), (1, .ref (aa 0)), (2, .ref (aa 1)), (3, .ref (aa 2)), (4, .ref (aa 4)), (5, .int (nI 14)), (6, .int (nI (c 2)))]) E dL_areLanes_7 (by decide) rfl ?_
  refine g_locals [(9, .int (nI 0)), (8, .int (nI 1)), (7, .int (nI 0)), (0, .ref a), (1, .ref (aa 0)), (2, .ref (aa 1)), (3, .ref (aa 2)), (4, .ref (aa 4)), (5, .int (nI 14)), (6, .int (nI (c 2)))] [0, 1, 2, 3, 4, 5, 6, 7, 8, 9] rfl ?_
  exact loop1 (c 2) 0 (Nat.zero_add _) W hW
