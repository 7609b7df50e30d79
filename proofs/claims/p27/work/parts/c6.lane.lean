/-! a lane has as many openings as there are sets -/
abbrev rm_L_isLane : Room := { frames := 8, cells := 100, slots := 1000, locals := 144 }
set_option maxHeartbeats 4000000 in
set_option maxRecDepth 100000 in
theorem m_L_isLane (l : Launch) (hl : l.stackTraces = false) (D : va_G) (cy : Nat → ClassId) (e0 : Nat) {a M N : Nat} {aa : Nat → Nat} {av : Nat → Nat → Int32} {c : Nat → Nat} {i : Nat → Nat → Int32} {j : Nat → Nat → Int64} {p : Nat → Nat → Option Nat} {r : Nat → Nat → Int32} {W : va_W} (hW : LW cy e0 a aa av c i j p r M W) (hK : KN c i j p r M N) (hA : LA c i p r av) {ln se : Nat} (hln : ln < M) (hse : se ≤ 10) : gMet l yL_isLane wsL_isLane rm_L_isLane D cy e0 [.ref a, .ref (aa 4), .int (nI ln), .int (nI se), .int (nI (c 2))] W (fun v W' => v = some (.int 1) ∧ LW cy e0 a aa av c i j p r M W') (fun _ _ => False) 100 1000 := by
  refine gMet.of (cc := cL_isLane) (maxL := 12) (ret := some .boolean) hl (by decide) rfl (Nat.le_of_ble_eq_true rfl) ?_
  intro C E h1 h2 h3 hr hnm hT hE
  subst h1; subst h2; subst h3
  have E : gOk C cL_isLane 12 wsL_isLane RL e0 rm_L_isLane := E
  have hb := hK.b
  have loop : ∀ (n q : Nat), q + n = c 2 → ∀ (seen : Int64) (cn : Int32), LNq c i j p (nI ln) (nI se) q seen cn → ∀ W, LW (xy C) e0 a aa av c i j p r M W → G C W (2 * q) (12 * q) 9 [(8, .int (nI q)), (7, .int cn), (5, .long seen), (0, .ref a), (1, .ref (aa 4)), (2, .int (nI ln)), (3, .int (nI se)), (4, .int (nI (c 2)))] [] := by
    intro n
    induction n with
    | zero =>
      intro q hq seen cn hL W hW
      have e9 : q = c 2 := by omega
      have hL : LNq c i j p (nI ln) (nI se) (c 2) seen cn := e9 ▸ hL
      refine g_iload E dL_isLane_9 0 rfl ?_
      refine g_iload E dL_isLane_11 7 rfl ?_
      refine n_icmp_ge (tgt := 111) E (by omega) (by omega) dL_isLane_13 (by decide) (fun c_13 => ?_) (fun z => by omega)
      refine g_aload_n E dL_isLane_111 rfl 3 rfl ?_
      refine g_iload_n E dL_isLane_112 rfl 5 rfl ?_
      refine g_iload_n E dL_isLane_113 rfl 6 rfl ?_
      refine k_openings E hW hK (k := ln) (s := se) hln hse gL_isLane_X5_openings ⟨Nat.le_of_ble_eq_true rfl, Nat.le_of_ble_eq_true rfl⟩ (Nat.le_of_ble_eq_true rfl) dL_isLane_114 ⟨by show _ ≤ 100; omega, by show _ ≤ 1000; omega⟩ (fun W hW => ?_)
      rw [hK.ln_end hL]
      refine g_iload E dL_isLane_117 1 rfl ?_
      refine g_icmp_ne (tgt := 126) E dL_isLane_119 (by decide) (fun z => absurd rfl z) (fun c_119 => ?_)
      refine g_iconst (v := nI 1) E dL_isLane_122 (by decide) ?_
      refine g_goto (tgt := 127) E dL_isLane_123 (by decide) ?_
      exact g_zret E hE hr (Or.inr rfl) dL_isLane_127 (by omega) (by omega) ⟨rfl, hW⟩
    | succ n ih =>
      intro q hq seen cn hL W hW
      obtain ⟨f, e, ef, -, hfe, -, he5⟩ := hK.span (k := q) (by omega)
      obtain ⟨st1, st2⟩ := hK.ln_step (q := q) (by omega) hL
      have hfro : froV i p q / 500 = nI se ↔ f / 500 = se := by
        rw [ef, show (500 : Int32) = nI 500 from rfl, pk_div (by omega) (by decide) (by decide)]
        exact nI_eq (by omega) (by omega)
      have k72 : ∀ W, LW (xy C) e0 a aa av c i j p r M W → ∀ b : Int32, ((b = nI 1 ∧ (¬ lnS i j p (nI ln) q = 0 ∧ seen &&& lnS i j p (nI ln) q = 0 ∧ froV i p q / 500 = nI se)) ∨ (b = nI 0 ∧ ¬ (¬ lnS i j p (nI ln) q = 0 ∧ seen &&& lnS i j p (nI ln) q = 0 ∧ froV i p q / 500 = nI se))) → G C W (2 * q + 2) (12 * q + 12) 72 [(9, .long (lnS i j p (nI ln) q)), (8, .int (nI q)), (7, .int cn), (5, .long seen), (0, .ref a), (1, .ref (aa 4)), (2, .int (nI ln)), (3, .int (nI se)), (4, .int (nI (c 2)))] [.int b] := by
        intro W hW b hb9
        rcases hb9 with ⟨rfl, hF⟩ | ⟨rfl, hF⟩
        · refine g_istore (L' := [(11, .int (nI 1)), (9, .long (lnS i j p (nI ln) q)), (8, .int (nI q)), (7, .int cn), (5, .long seen), (0, .ref a), (1, .ref (aa 4)), (2, .int (nI ln)), (3, .int (nI se)), (4, .int (nI (c 2)))]) E dL_isLane_72 (by decide) rfl ?_
          refine g_iload E dL_isLane_74 3 rfl ?_
          refine g_iload E dL_isLane_76 0 rfl ?_
          refine g_if_eq (tgt := 85) E dL_isLane_78 (by decide) (fun z => absurd z (by decide)) (fun c_78 => ?_)
          refine g_iconst (v := nI 1) E dL_isLane_81 (by decide) ?_
          refine g_goto (tgt := 86) E dL_isLane_82 (by decide) ?_
          refine g_iadd E dL_isLane_86 ?_
          refine g_istore (L' := [(7, .int (cn + (nI 1))), (11, .int (nI 1)), (9, .long (lnS i j p (nI ln) q)), (8, .int (nI q)), (5, .long seen), (0, .ref a), (1, .ref (aa 4)), (2, .int (nI ln)), (3, .int (nI se)), (4, .int (nI (c 2)))]) E dL_isLane_87 (by decide) rfl ?_
          refine g_lload E dL_isLane_89 4 rfl ?_
          refine g_iload E dL_isLane_91 1 rfl ?_
          refine g_if_eq (tgt := 101) E dL_isLane_93 (by decide) (fun z => absurd z (by decide)) (fun c_93 => ?_)
          refine g_lload E dL_isLane_96 2 rfl ?_
          refine g_goto (tgt := 102) E dL_isLane_98 (by decide) ?_
          refine g_lor E dL_isLane_102 ?_
          refine g_lstore (L' := [(5, .long (seen ||| (lnS i j p (nI ln) q))), (7, .int (cn + (nI 1))), (11, .int (nI 1)), (9, .long (lnS i j p (nI ln) q)), (8, .int (nI q)), (0, .ref a), (1, .ref (aa 4)), (2, .int (nI ln)), (3, .int (nI se)), (4, .int (nI (c 2)))]) E dL_isLane_103 (by decide) rfl ?_
          refine g_iinc (v := nI (q + 1)) (L' := [(8, .int (nI (q + 1))), (5, .long (seen ||| (lnS i j p (nI ln) q))), (7, .int (cn + (nI 1))), (11, .int (nI 1)), (9, .long (lnS i j p (nI ln) q)), (0, .ref a), (1, .ref (aa 4)), (2, .int (nI ln)), (3, .int (nI se)), (4, .int (nI (c 2)))]) E dL_isLane_105 4 rfl (nI_1 q) (by decide) rfl ?_
          refine g_goto (tgt := 9) E dL_isLane_108 (by decide) ?_
          refine g_locals [(8, .int (nI (q + 1))), (7, .int (cn + (nI 1))), (5, .long (seen ||| (lnS i j p (nI ln) q))), (0, .ref a), (1, .ref (aa 4)), (2, .int (nI ln)), (3, .int (nI se)), (4, .int (nI (c 2)))] [0, 2, 1, 5, 6, 7, 8, 9] rfl ?_
          exact g_widen (by omega) (by omega) (ih (q + 1) (by omega) _ _ (st1 hF) W hW)
        · refine g_istore (L' := [(11, .int (nI 0)), (9, .long (lnS i j p (nI ln) q)), (8, .int (nI q)), (7, .int cn), (5, .long seen), (0, .ref a), (1, .ref (aa 4)), (2, .int (nI ln)), (3, .int (nI se)), (4, .int (nI (c 2)))]) E dL_isLane_72 (by decide) rfl ?_
          refine g_iload E dL_isLane_74 3 rfl ?_
          refine g_iload E dL_isLane_76 0 rfl ?_
          refine g_if_eq (tgt := 85) E dL_isLane_78 (by decide) (fun c_78 => ?_) (fun z => absurd rfl z)
          refine g_iconst (v := nI 0) E dL_isLane_85 (by decide) ?_
          refine g_iadd E dL_isLane_86 ?_
          refine g_istore (L' := [(7, .int (cn + (nI 0))), (11, .int (nI 0)), (9, .long (lnS i j p (nI ln) q)), (8, .int (nI q)), (5, .long seen), (0, .ref a), (1, .ref (aa 4)), (2, .int (nI ln)), (3, .int (nI se)), (4, .int (nI (c 2)))]) E dL_isLane_87 (by decide) rfl ?_
          refine g_lload E dL_isLane_89 4 rfl ?_
          refine g_iload E dL_isLane_91 1 rfl ?_
          refine g_if_eq (tgt := 101) E dL_isLane_93 (by decide) (fun c_93 => ?_) (fun z => absurd rfl z)
          refine g_lconst (v := 0) E dL_isLane_101 (by decide) ?_
          refine g_lor E dL_isLane_102 ?_
          refine g_lstore (L' := [(5, .long (seen ||| 0)), (7, .int (cn + (nI 0))), (11, .int (nI 0)), (9, .long (lnS i j p (nI ln) q)), (8, .int (nI q)), (0, .ref a), (1, .ref (aa 4)), (2, .int (nI ln)), (3, .int (nI se)), (4, .int (nI (c 2)))]) E dL_isLane_103 (by decide) rfl ?_
          refine g_iinc (v := nI (q + 1)) (L' := [(8, .int (nI (q + 1))), (5, .long (seen ||| 0)), (7, .int (cn + (nI 0))), (11, .int (nI 0)), (9, .long (lnS i j p (nI ln) q)), (0, .ref a), (1, .ref (aa 4)), (2, .int (nI ln)), (3, .int (nI se)), (4, .int (nI (c 2)))]) E dL_isLane_105 4 rfl (nI_1 q) (by decide) rfl ?_
          refine g_goto (tgt := 9) E dL_isLane_108 (by decide) ?_
          refine g_locals [(8, .int (nI (q + 1))), (7, .int (cn + (nI 0))), (5, .long (seen ||| 0)), (0, .ref a), (1, .ref (aa 4)), (2, .int (nI ln)), (3, .int (nI se)), (4, .int (nI (c 2)))] [0, 2, 1, 5, 6, 7, 8, 9] rfl ?_
          rw [show cn + nI 0 = cn from Int32.add_zero cn, Int64.or_zero]
          exact g_widen (by omega) (by omega) (ih (q + 1) (by omega) _ _ (st2 hF) W hW)
      have k34 : ∀ W, LW (xy C) e0 a aa av c i j p r M W → G C W (2 * q + 1) (12 * q + 6) 34 [(8, .int (nI q)), (7, .int cn), (5, .long seen), (0, .ref a), (1, .ref (aa 4)), (2, .int (nI ln)), (3, .int (nI se)), (4, .int (nI (c 2)))] [.long (lnS i j p (nI ln) q)] := by
        intro W hW
        refine g_lstore (L' := [(9, .long (lnS i j p (nI ln) q)), (8, .int (nI q)), (7, .int cn), (5, .long seen), (0, .ref a), (1, .ref (aa 4)), (2, .int (nI ln)), (3, .int (nI se)), (4, .int (nI (c 2)))]) E dL_isLane_34 (by decide) rfl ?_
        refine g_lload E dL_isLane_36 0 rfl ?_
        refine g_lconst (v := 0) E dL_isLane_38 (by decide) ?_
        refine g_lcmp E dL_isLane_39 ?_
        by_cases z1 : lnS i j p (nI ln) q = 0
        · refine g_if_eq (tgt := 71) E dL_isLane_40 (by decide) (fun c_40 => ?_) (fun z => absurd ((lg_cmp_eq _ _).mpr z1) z)
          refine g_iconst (v := nI 0) E dL_isLane_71 (by decide) ?_
          exact g_widen (by omega) (by omega) (k72 W hW _ (Or.inr ⟨rfl, fun y => y.1 z1⟩))
        · refine g_if_eq (tgt := 71) E dL_isLane_40 (by decide) (fun z => absurd ((lg_cmp_eq _ _).mp z) z1) (fun c_40 => ?_)
          refine g_lload E dL_isLane_43 3 rfl ?_
          refine g_lload E dL_isLane_45 0 rfl ?_
          refine g_land E dL_isLane_47 ?_
          refine g_lconst (v := 0) E dL_isLane_48 (by decide) ?_
          refine g_lcmp E dL_isLane_49 ?_
          by_cases z2 : seen &&& lnS i j p (nI ln) q = 0
          · refine g_if_ne (tgt := 71) E dL_isLane_50 (by decide) (fun z => absurd ((lg_cmp_eq _ _).mpr z2) z) (fun c_50 => ?_)
            refine g_aload_n E dL_isLane_53 rfl 4 rfl ?_
            refine g_iload E dL_isLane_54 1 rfl ?_
            refine k_from E hW hK (k := q) (by omega) gL_isLane_X5_from ⟨Nat.le_of_ble_eq_true rfl, Nat.le_of_ble_eq_true rfl⟩ (Nat.le_of_ble_eq_true rfl) dL_isLane_56 ⟨by show _ ≤ 100; omega, by show _ ≤ 1000; omega⟩ (fun W hW => ?_)
            rw [ef]
            refine g_sipush (v := nI 500) E dL_isLane_59 (by decide) ?_
            refine n_idiv E (by omega) (by omega) (by omega) dL_isLane_62 ?_
            refine g_iload_n E dL_isLane_63 rfl 7 rfl ?_
            by_cases z3 : f / 500 = se
            · refine n_icmp_ne (tgt := 71) E (by omega) (by omega) dL_isLane_64 (by decide) (fun z => absurd z3 z) (fun c_64 => ?_)
              refine g_iconst (v := nI 1) E dL_isLane_67 (by decide) ?_
              refine g_goto (tgt := 72) E dL_isLane_68 (by decide) ?_
              exact g_widen (by omega) (by omega) (k72 W hW _ (Or.inl ⟨rfl, z1, z2, hfro.mpr z3⟩))
            · refine n_icmp_ne (tgt := 71) E (by omega) (by omega) dL_isLane_64 (by decide) (fun c_64 => ?_) (fun z => absurd z z3)
              refine g_iconst (v := nI 0) E dL_isLane_71 (by decide) ?_
              exact g_widen (by omega) (by omega) (k72 W hW _ (Or.inr ⟨rfl, fun y => z3 (hfro.mp y.2.2)⟩))
          · refine g_if_ne (tgt := 71) E dL_isLane_50 (by decide) (fun c_50 => ?_) (fun z => absurd ((lg_cmp_eq _ _).mp z) z2)
            refine g_iconst (v := nI 0) E dL_isLane_71 (by decide) ?_
            exact g_widen (by omega) (by omega) (k72 W hW _ (Or.inr ⟨rfl, fun y => z2 y.2.1⟩))
      refine g_iload E dL_isLane_9 0 rfl ?_
      refine g_iload E dL_isLane_11 7 rfl ?_
      refine n_icmp_ge (tgt := 111) E (by omega) (by omega) dL_isLane_13 (by decide) (fun z => by omega) (fun c_13 => ?_)
      refine g_aload_n E dL_isLane_16 rfl 4 rfl ?_
      refine g_iload E dL_isLane_17 0 rfl ?_
      refine l_ald E hW 4 q (by decide) (by show _ < 40; omega) dL_isLane_19 ?_
      rw [(hA.2.2 q (by omega)).1]
      refine g_iload_n E dL_isLane_20 rfl 5 rfl ?_
      by_cases hl : i 7 q = nI ln
      · refine g_icmp_ne (tgt := 33) E dL_isLane_21 (by decide) (fun z => absurd hl z) (fun c_21 => ?_)
        refine g_aload_n E dL_isLane_24 rfl 3 rfl ?_
        refine g_iload E dL_isLane_25 0 rfl ?_
        refine k_together E hW hK (k := q) (by omega) gL_isLane_X5_together ⟨Nat.le_of_ble_eq_true rfl, Nat.le_of_ble_eq_true rfl⟩ (Nat.le_of_ble_eq_true rfl) dL_isLane_27 ⟨by show _ ≤ 100; omega, by show _ ≤ 1000; omega⟩ (fun W hW => ?_)
        refine g_goto (tgt := 34) E dL_isLane_30 (by decide) ?_
        rw [show togV j p q = lnS i j p (nI ln) q from (if_pos hl).symm]
        exact g_widen (by omega) (by omega) (k34 W hW)
      · refine g_icmp_ne (tgt := 33) E dL_isLane_21 (by decide) (fun c_21 => ?_) (fun z => absurd z hl)
        refine g_lconst (v := 0) E dL_isLane_33 (by decide) ?_
        rw [show (0 : Int64) = lnS i j p (nI ln) q from (if_neg hl).symm]
        exact g_widen (by omega) (by omega) (k34 W hW)
  show G C W 0 0 0 [(0, .ref a), (1, .ref (aa 4)), (2, .int (nI ln)), (3, .int (nI se)), (4, .int (nI (c 2)))] []
  refine g_lconst (v := 0) E dL_isLane_0 (by decide) ?_
  refine g_lstore (L' := [(5, .long 0), (0, .ref a), (1, .ref (aa 4)), (2, .int (nI ln)), (3, .int (nI se)), (4, .int (nI (c 2)))]) E dL_isLane_1 (by decide) rfl ?_
  refine g_iconst (v := nI 0) E dL_isLane_3 (by decide) ?_
  refine g_istore (L' := [(7, .int (nI 0)), (5, .long 0), (0, .ref a), (1, .ref (aa 4)), (2, .int (nI ln)), (3, .int (nI se)), (4, .int (nI (c 2)))]) E dL_isLane_4 (by decide) rfl ?_
  refine g_iconst (v := nI 0) E dL_isLane_6 (by decide) ?_
  refine g_istore (L' := [(8, .int (nI 0)), (7, .int (nI 0)), (5, .long 0), (0, .ref a), (1, .ref (aa 4)), (2, .int (nI ln)), (3, .int (nI se)), (4, .int (nI (c 2)))]) E dL_isLane_7 (by decide) rfl ?_
  refine g_locals [(8, .int (nI 0)), (7, .int (nI 0)), (5, .long 0), (0, .ref a), (1, .ref (aa 4)), (2, .int (nI ln)), (3, .int (nI se)), (4, .int (nI (c 2)))] [0, 1, 2, 3, 4, 5, 6, 7] rfl ?_
  exact loop (c 2) 0 (Nat.zero_add _) 0 _ LNq_0 W hW
