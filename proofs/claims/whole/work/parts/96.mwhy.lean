def JO (s : mS) (np : Nat) (ln a b own : Int32) : Prop := (∃ p, p < np ∧ mjF s ln a b p ∧ (∀ q, q < p → ¬ mjF s ln a b q) ∧ own = mr s 19 p) ∨ ((∀ p, p < np → ¬ mjF s ln a b p) ∧ own = -1)
def OWN (s : mS) (np : Nat) (ln a b ur own : Int32) : Prop := (¬ ur = 0 ∧ own = -1) ∨ (ur = 0 ∧ JO s np ln a b own)
def STA (s : mS) (a own : Int32) : Int32 := if own = -1 then a else if a < mr s 22 (tn own) then a else mr s 22 (tn own)
def STP0 (s : mS) (b own : Int32) : Int32 := if own = -1 then b else if mr s 23 (tn own) < b then b else mr s 23 (tn own)
theorem STA_N {s : mS} {a : Int32} : STA s a (-1) = a := if_pos rfl
theorem STP0_N {s : mS} {b : Int32} : STP0 s b (-1) = b := if_pos rfl
def mLT (s : mS) (wh : Nat) (a ur : Int32) : Prop := ur = 0 ∧ a < mi s 1 + 2 + 3 * mr s 25 wh
def mLG (s : mS) (a b own : Int32) : Prop := ¬ own = -1 ∧ 40 < STP0 s b own - STA s a own
def mTW (s : mS) (np : Nat) (ln a ur own : Int32) : Prop := ur = 0 ∧ ∃ q, q < np ∧ mtF s ln own (STA s a own) q
/-- why an application is refused; BK: the permit that it needs breaks it -/
def WHY (s : mS) (np wh : Nat) (ln a b ur : Int32) (BK : Prop) (w : Int32) : Prop :=
  (mLT s wh a ur ∧ w = 0) ∨ (¬ mLT s wh a ur ∧ BK ∧ w = 1) ∨
  (¬ mLT s wh a ur ∧ ¬ BK ∧ ∃ own, OWN s np ln a b ur own ∧ ((mLG s a b own ∧ w = 2) ∨ (¬ mLG s a b own ∧ mTW s np ln a ur own ∧ w = 3) ∨ (¬ mLG s a b own ∧ ¬ mTW s np ln a ur own ∧ w = -1)))
abbrev BKz (s : mS) (z : Nat) (a : Int32) : Prop := (¬ (¬ mr s 17 z = 1 ∧ ¬ mr s 17 z = 4)) ∨ a < mr s 23 (tn (mr s 19 z))
abbrev rm_X6_whyNot : Room := { frames := 2, cells := 0, slots := 0, locals := 47 }
set_option maxHeartbeats 4000000 in
set_option maxRecDepth 100000 in
theorem m_X6_whyNot_N (l : Launch) (hl : l.stackTraces = false) (D : va_G) (cy : Nat → ClassId) (e0 : Nat) {ma : Nat → Nat} {s : mS} {np : Nat} (hp0 : mi s 21 = nI np) (hp1 : np ≤ 40) (hop : HOP s np) {wh : Nat} (hwh : wh < 6) {ln a b ur : Int32} : mMet l yX6_whyNot wsX6_whyNot rm_X6_whyNot D cy e0 [.ref (ma 0), .int (nI wh), .int (ln), .int (a), .int (b), .int ((-1)), .int (ur)] ma s (fun v s' => ∃ w, v = some (.int w) ∧ WHY s np wh ln a b ur False w ∧ s' = s) := by
  refine gMet.of (cc := cX6_whyNot) (maxL := 10) (ret := (some .int)) hl (by decide) rfl (Nat.le_of_ble_eq_true rfl) ?_
  intro C E h1 h2 h3 hr hnm hT hE
  subst h1; subst h2; subst h3
  have E : gOk C cX6_whyNot 10 wsX6_whyNot RX6 e0 rm_X6_whyNot := E
  show G C (mW (xy C) ma s) 0 0 0 [(0, .ref (ma 0)), (1, .int (nI wh)), (2, .int (ln)), (3, .int (a)), (4, .int (b)), (5, .int ((-1))), (6, .int (ur))] []
  refine g_iload E dX6_whyNot_0 6 rfl ?_
  refine g_if_ne (tgt := 26) E dX6_whyNot_2 (by decide) (fun c_2 => ?_) (fun c_2 => ?_)
  · refine g_aload_n E dX6_whyNot_26 rfl 0 rfl ?_
    refine g_iload E dX6_whyNot_27 5 rfl ?_
    refine g_iload_n E dX6_whyNot_29 rfl 3 rfl ?_
    refine k_invV (n := 2) (rest := []) E (m_X6_isBroken_N (xl C) E.tr (xD C) (xy C) e0 (s := s) (a := a)) gX6_whyNot_X6_isBroken rfl rfl rfl (by decide +kernel) ⟨Nat.le_of_ble_eq_true rfl, Nat.le_of_ble_eq_true rfl⟩ rfl rfl (Nat.le_of_ble_eq_true rfl) dX6_whyNot_30 ⟨Nat.le_of_ble_eq_true rfl, Nat.le_of_ble_eq_true rfl⟩ (fun v9 s9_30 h9 => ?_)
    obtain ⟨hv9, hS9⟩ := h9
    rw [hv9, hS9]
    show G C (mW (xy C) ma s) 0 0 33 [(0, .ref (ma 0)), (1, .int (nI wh)), (2, .int (ln)), (3, .int (a)), (4, .int (b)), (5, .int ((-1))), (6, .int (ur))] [.int (0)]
    refine g_if_eq (tgt := 38) E dX6_whyNot_33 (by decide) (fun c_33 => ?_) (fun c_33 => ?_)
    · refine g_iload E dX6_whyNot_38 6 rfl ?_
      refine g_if_eq (tgt := 47) E dX6_whyNot_40 (by decide) (fun c_40 => ?_) (fun c_40 => ?_)
      · exact absurd c_40 c_2
      · refine g_iconst (v := (-1)) E dX6_whyNot_43 (by decide) ?_
        refine g_goto (tgt := 55) E dX6_whyNot_44 (by decide) ?_
        refine g_istore (L' := [(7, .int ((-1))), (0, .ref (ma 0)), (1, .int (nI wh)), (2, .int (ln)), (3, .int (a)), (4, .int (b)), (5, .int ((-1))), (6, .int (ur))]) E dX6_whyNot_55 (by decide) rfl ?_
        refine g_iload E dX6_whyNot_57 0 rfl ?_
        refine g_iconst (v := (-1)) E dX6_whyNot_59 (by decide) ?_
        refine g_icmp_ne (tgt := 67) E dX6_whyNot_60 (by decide) (fun c_60 => ?_) (fun c_60 => ?_)
        · exact absurd c_60 (by decide)
        · refine g_iload_n E dX6_whyNot_63 rfl 4 rfl ?_
          refine g_goto (tgt := 78) E dX6_whyNot_64 (by decide) ?_
          refine g_istore (L' := [(8, .int (a)), (7, .int ((-1))), (0, .ref (ma 0)), (1, .int (nI wh)), (2, .int (ln)), (3, .int (a)), (4, .int (b)), (5, .int ((-1))), (6, .int (ur))]) E dX6_whyNot_78 (by decide) rfl ?_
          refine g_iload E dX6_whyNot_80 1 rfl ?_
          refine g_iconst (v := (-1)) E dX6_whyNot_82 (by decide) ?_
          refine g_icmp_ne (tgt := 91) E dX6_whyNot_83 (by decide) (fun c_83 => ?_) (fun c_83 => ?_)
          · exact absurd c_83 (by decide)
          · refine g_iload E dX6_whyNot_86 6 rfl ?_
            refine g_goto (tgt := 103) E dX6_whyNot_88 (by decide) ?_
            refine g_istore (L' := [(9, .int (b)), (8, .int (a)), (7, .int ((-1))), (0, .ref (ma 0)), (1, .int (nI wh)), (2, .int (ln)), (3, .int (a)), (4, .int (b)), (5, .int ((-1))), (6, .int (ur))]) E dX6_whyNot_103 (by decide) rfl ?_
            refine g_iload E dX6_whyNot_105 2 rfl ?_
            refine g_iconst (v := (-1)) E dX6_whyNot_107 (by decide) ?_
            refine g_icmp_eq (tgt := 125) E dX6_whyNot_108 (by decide) (fun c_108 => ?_) (fun c_108 => ?_)
            · refine g_iload E dX6_whyNot_125 9 rfl ?_
              refine g_if_ne (tgt := 146) E dX6_whyNot_127 (by decide) (fun c_127 => ?_) (fun c_127 => ?_)
              · refine g_iconst (v := (-1)) E dX6_whyNot_146 (by decide) ?_
                exact g_iret E hE hr dX6_whyNot_147 (Nat.le_of_ble_eq_true rfl) (Nat.le_of_ble_eq_true rfl) ⟨s, rfl, (-1), rfl, Or.inr (Or.inr ⟨(fun q => c_2 q.1), id, (-1), Or.inl ⟨c_2, rfl⟩, Or.inr (Or.inr ⟨(fun z => z.1 rfl), (fun z => c_2 z.1), rfl⟩)⟩), rfl⟩
              · exact absurd c_127 c_2
            · exact absurd c_108 (by decide)
    · exact absurd c_33 (by decide)
  · refine g_iload_n E dX6_whyNot_5 rfl 3 rfl ?_
    refine g_aload_n E dX6_whyNot_6 rfl 0 rfl ?_
    refine k_get_now (s := s) E (fun _ h => (List.mem_cons_of_mem _ (List.mem_append_right _ h))) (List.mem_cons_of_mem _ (List.mem_append_left _ (List.mem_append_left _ (List.mem_of_getElem? (i := 0) rfl)))) dX6_whyNot_7 ?_
    refine g_iconst (v := 2) E dX6_whyNot_10 (by decide) ?_
    refine g_iadd E dX6_whyNot_11 ?_
    refine g_iconst (v := 3) E dX6_whyNot_12 (by decide) ?_
    refine g_aload_n E dX6_whyNot_13 rfl 0 rfl ?_
    refine k_get_points (s := s) E (fun _ h => (List.mem_cons_of_mem _ (List.mem_append_right _ h))) (List.mem_cons_of_mem _ (List.mem_append_left _ (List.mem_append_left _ (List.mem_of_getElem? (i := 1) rfl)))) dX6_whyNot_14 ?_
    refine g_iload_n E dX6_whyNot_17 rfl 1 rfl ?_
    refine k_ald_points (s := s) E wh rfl (by omega) dX6_whyNot_18 ?_
    refine g_imul E dX6_whyNot_19 ?_
    refine g_iadd E dX6_whyNot_20 ?_
    refine g_icmp_ge (tgt := 26) E dX6_whyNot_21 (by decide) (fun c_21 => ?_) (fun c_21 => ?_)
    · refine g_aload_n E dX6_whyNot_26 rfl 0 rfl ?_
      refine g_iload E dX6_whyNot_27 5 rfl ?_
      refine g_iload_n E dX6_whyNot_29 rfl 3 rfl ?_
      refine k_invV (n := 2) (rest := []) E (m_X6_isBroken_N (xl C) E.tr (xD C) (xy C) e0 (s := s) (a := a)) gX6_whyNot_X6_isBroken rfl rfl rfl (by decide +kernel) ⟨Nat.le_of_ble_eq_true rfl, Nat.le_of_ble_eq_true rfl⟩ rfl rfl (Nat.le_of_ble_eq_true rfl) dX6_whyNot_30 ⟨Nat.le_of_ble_eq_true rfl, Nat.le_of_ble_eq_true rfl⟩ (fun v9 s9_30 h9 => ?_)
      obtain ⟨hv9, hS9⟩ := h9
      rw [hv9, hS9]
      show G C (mW (xy C) ma s) 0 0 33 [(0, .ref (ma 0)), (1, .int (nI wh)), (2, .int (ln)), (3, .int (a)), (4, .int (b)), (5, .int ((-1))), (6, .int (ur))] [.int (0)]
      refine g_if_eq (tgt := 38) E dX6_whyNot_33 (by decide) (fun c_33 => ?_) (fun c_33 => ?_)
      · refine g_iload E dX6_whyNot_38 6 rfl ?_
        refine g_if_eq (tgt := 47) E dX6_whyNot_40 (by decide) (fun c_40 => ?_) (fun c_40 => ?_)
        · refine g_aload_n E dX6_whyNot_47 rfl 0 rfl ?_
          refine g_iload_n E dX6_whyNot_48 rfl 2 rfl ?_
          refine g_iload_n E dX6_whyNot_49 rfl 3 rfl ?_
          refine g_iload E dX6_whyNot_50 4 rfl ?_
          refine k_invV (n := 3) (rest := []) E (m_X6_joined (xl C) E.tr (xD C) (xy C) e0 (s := s) (ln := ln) (a := a) (b := b) hp0 hp1 hop) gX6_whyNot_X6_joined rfl rfl rfl (by decide +kernel) ⟨Nat.le_of_ble_eq_true rfl, Nat.le_of_ble_eq_true rfl⟩ rfl rfl (Nat.le_of_ble_eq_true rfl) dX6_whyNot_52 ⟨Nat.le_of_ble_eq_true rfl, Nat.le_of_ble_eq_true rfl⟩ (fun v9 s9_52 h9 => ?_)
          obtain ⟨h9, hS9⟩ := h9
          rw [hS9]
          rcases h9 with ⟨q, hq, hqF, hqm, hv9⟩ | ⟨hqn, hv9⟩
          · rw [hv9]
            have h_o := hop q hq hqF.1.1
            have hne : ¬ mr s 19 q = -1 := fun e => absurd (e.symm.trans h_o.1) (nI_nm1 (Nat.lt_trans h_o.2 (by decide)))
            show G C (mW (xy C) ma s) 0 0 55 [(0, .ref (ma 0)), (1, .int (nI wh)), (2, .int (ln)), (3, .int (a)), (4, .int (b)), (5, .int ((-1))), (6, .int (ur))] [.int ((mr s 19 q))]
            refine g_istore (L' := [(7, .int ((mr s 19 q))), (0, .ref (ma 0)), (1, .int (nI wh)), (2, .int (ln)), (3, .int (a)), (4, .int (b)), (5, .int ((-1))), (6, .int (ur))]) E dX6_whyNot_55 (by decide) rfl ?_
            refine g_iload E dX6_whyNot_57 0 rfl ?_
            refine g_iconst (v := (-1)) E dX6_whyNot_59 (by decide) ?_
            refine g_icmp_ne (tgt := 67) E dX6_whyNot_60 (by decide) (fun c_60 => ?_) (fun c_60 => ?_)
            · refine g_iload_n E dX6_whyNot_67 rfl 4 rfl ?_
              refine g_aload_n E dX6_whyNot_68 rfl 1 rfl ?_
              refine k_get_first (s := s) E (fun _ h => (List.mem_cons_of_mem _ (List.mem_append_right _ h))) (List.mem_cons_of_mem _ (List.mem_append_left _ (List.mem_append_left _ (List.mem_of_getElem? (i := 2) rfl)))) dX6_whyNot_69 ?_
              refine g_iload E dX6_whyNot_72 0 rfl ?_
              refine k_ald_first (s := s) E ((tn (mr s 19 q))) h_o.1 h_o.2 dX6_whyNot_74 ?_
              refine k_invS (n := 2) (rest := []) E (m_X6_lesser (xl C) E.tr (xD C) (xy C) e0 (s := s) (x := a) (y := mr s 22 ((tn (mr s 19 q))))) gX6_whyNot_X6_lesser rfl rfl rfl (by decide +kernel) ⟨Nat.le_of_ble_eq_true rfl, Nat.le_of_ble_eq_true rfl⟩ rfl rfl (Nat.le_of_ble_eq_true rfl) dX6_whyNot_75 ⟨Nat.le_of_ble_eq_true rfl, Nat.le_of_ble_eq_true rfl⟩ (fun v9 s9_75 h9 => ?_)
              obtain ⟨hv9, hS9⟩ := h9
              rw [hv9, hS9]
              show G C (mW (xy C) ma s) 0 0 78 [(7, .int ((mr s 19 q))), (0, .ref (ma 0)), (1, .int (nI wh)), (2, .int (ln)), (3, .int (a)), (4, .int (b)), (5, .int ((-1))), (6, .int (ur))] [.int ((if a < mr s 22 ((tn (mr s 19 q))) then a else mr s 22 ((tn (mr s 19 q)))))]
              rw [show (if a < mr s 22 (tn (mr s 19 q)) then a else mr s 22 (tn (mr s 19 q))) = STA s a (mr s 19 q) from (if_neg hne).symm]
              show G C (mW (xy C) ma s) 0 0 78 [(7, .int ((mr s 19 q))), (0, .ref (ma 0)), (1, .int (nI wh)), (2, .int (ln)), (3, .int (a)), (4, .int (b)), (5, .int ((-1))), (6, .int (ur))] [.int ((STA s a (mr s 19 q)))]
              refine g_istore (L' := [(8, .int ((STA s a (mr s 19 q)))), (7, .int ((mr s 19 q))), (0, .ref (ma 0)), (1, .int (nI wh)), (2, .int (ln)), (3, .int (a)), (4, .int (b)), (5, .int ((-1))), (6, .int (ur))]) E dX6_whyNot_78 (by decide) rfl ?_
              refine g_iload E dX6_whyNot_80 1 rfl ?_
              refine g_iconst (v := (-1)) E dX6_whyNot_82 (by decide) ?_
              refine g_icmp_ne (tgt := 91) E dX6_whyNot_83 (by decide) (fun c_83 => ?_) (fun c_83 => ?_)
              · refine g_iload E dX6_whyNot_91 6 rfl ?_
                refine g_aload_n E dX6_whyNot_93 rfl 2 rfl ?_
                refine k_get_behind (s := s) E (fun _ h => (List.mem_cons_of_mem _ (List.mem_append_right _ h))) (List.mem_cons_of_mem _ (List.mem_append_left _ (List.mem_append_left _ (List.mem_of_getElem? (i := 3) rfl)))) dX6_whyNot_94 ?_
                refine g_iload E dX6_whyNot_97 1 rfl ?_
                refine k_ald_behind (s := s) E ((tn (mr s 19 q))) h_o.1 h_o.2 dX6_whyNot_99 ?_
                refine k_invS (n := 2) (rest := []) E (m_X6_greater (xl C) E.tr (xD C) (xy C) e0 (s := s) (x := b) (y := mr s 23 ((tn (mr s 19 q))))) gX6_whyNot_X6_greater rfl rfl rfl (by decide +kernel) ⟨Nat.le_of_ble_eq_true rfl, Nat.le_of_ble_eq_true rfl⟩ rfl rfl (Nat.le_of_ble_eq_true rfl) dX6_whyNot_100 ⟨Nat.le_of_ble_eq_true rfl, Nat.le_of_ble_eq_true rfl⟩ (fun v9 s9_100 h9 => ?_)
                obtain ⟨hv9, hS9⟩ := h9
                rw [hv9, hS9]
                show G C (mW (xy C) ma s) 0 0 103 [(8, .int ((STA s a (mr s 19 q)))), (7, .int ((mr s 19 q))), (0, .ref (ma 0)), (1, .int (nI wh)), (2, .int (ln)), (3, .int (a)), (4, .int (b)), (5, .int ((-1))), (6, .int (ur))] [.int ((if mr s 23 ((tn (mr s 19 q))) < b then b else mr s 23 ((tn (mr s 19 q)))))]
                rw [show (if mr s 23 (tn (mr s 19 q)) < b then b else mr s 23 (tn (mr s 19 q))) = STP0 s b (mr s 19 q) from (if_neg hne).symm]
                show G C (mW (xy C) ma s) 0 0 103 [(8, .int ((STA s a (mr s 19 q)))), (7, .int ((mr s 19 q))), (0, .ref (ma 0)), (1, .int (nI wh)), (2, .int (ln)), (3, .int (a)), (4, .int (b)), (5, .int ((-1))), (6, .int (ur))] [.int ((STP0 s b (mr s 19 q)))]
                refine g_istore (L' := [(9, .int ((STP0 s b (mr s 19 q)))), (8, .int ((STA s a (mr s 19 q)))), (7, .int ((mr s 19 q))), (0, .ref (ma 0)), (1, .int (nI wh)), (2, .int (ln)), (3, .int (a)), (4, .int (b)), (5, .int ((-1))), (6, .int (ur))]) E dX6_whyNot_103 (by decide) rfl ?_
                refine g_iload E dX6_whyNot_105 2 rfl ?_
                refine g_iconst (v := (-1)) E dX6_whyNot_107 (by decide) ?_
                refine g_icmp_eq (tgt := 125) E dX6_whyNot_108 (by decide) (fun c_108 => ?_) (fun c_108 => ?_)
                · exact absurd c_108 hne
                · refine g_iload E dX6_whyNot_111 0 rfl ?_
                  refine g_iload E dX6_whyNot_113 1 rfl ?_
                  refine g_isub E dX6_whyNot_115 ?_
                  refine g_bipush (v := 40) E dX6_whyNot_116 (by decide) ?_
                  refine g_icmp_le (tgt := 125) E dX6_whyNot_118 (by decide) (fun c_118 => ?_) (fun c_118 => ?_)
                  · refine g_iload E dX6_whyNot_125 9 rfl ?_
                    refine g_if_ne (tgt := 146) E dX6_whyNot_127 (by decide) (fun c_127 => ?_) (fun c_127 => ?_)
                    · exact absurd c_2 c_127
                    · refine g_aload_n E dX6_whyNot_130 rfl 3 rfl ?_
                      refine g_iload_n E dX6_whyNot_131 rfl 5 rfl ?_
                      refine g_iload E dX6_whyNot_132 2 rfl ?_
                      refine g_iload E dX6_whyNot_134 1 rfl ?_
                      refine k_invV (n := 3) (rest := []) E (m_X6_isTwice (xl C) E.tr (xD C) (xy C) e0 (s := s) (ln := ln) (own := (mr s 19 q)) (hour := (STA s a (mr s 19 q))) hp0 hp1 hop) gX6_whyNot_X6_isTwice rfl rfl rfl (by decide +kernel) ⟨Nat.le_of_ble_eq_true rfl, Nat.le_of_ble_eq_true rfl⟩ rfl rfl (Nat.le_of_ble_eq_true rfl) dX6_whyNot_136 ⟨Nat.le_of_ble_eq_true rfl, Nat.le_of_ble_eq_true rfl⟩ (fun v9 s9_136 h9 => ?_)
                      obtain ⟨h9, hS9⟩ := h9
                      rw [hS9]
                      rcases h9 with ⟨hv9, hx⟩ | ⟨hv9, hx⟩
                      · rw [hv9]
                        show G C (mW (xy C) ma s) 0 0 139 [(9, .int ((STP0 s b (mr s 19 q)))), (8, .int ((STA s a (mr s 19 q)))), (7, .int ((mr s 19 q))), (0, .ref (ma 0)), (1, .int (nI wh)), (2, .int (ln)), (3, .int (a)), (4, .int (b)), (5, .int ((-1))), (6, .int (ur))] [.int (0)]
                        refine g_if_eq (tgt := 146) E dX6_whyNot_139 (by decide) (fun c_139 => ?_) (fun c_139 => ?_)
                        · refine g_iconst (v := (-1)) E dX6_whyNot_146 (by decide) ?_
                          exact g_iret E hE hr dX6_whyNot_147 (Nat.le_of_ble_eq_true rfl) (Nat.le_of_ble_eq_true rfl) ⟨s, rfl, (-1), rfl, Or.inr (Or.inr ⟨(fun q => Int32.not_lt.mpr c_21 q.2), id, (mr s 19 q), Or.inr ⟨c_2, Or.inl ⟨q, hq, hqF, hqm, rfl⟩⟩, Or.inr (Or.inr ⟨(fun z => Int32.not_lt.mpr c_118 z.2), (fun z => z.2.elim fun q g => hx q g.1 g.2), rfl⟩)⟩), rfl⟩
                        · exact absurd c_139 (by decide)
                      · rw [hv9]
                        show G C (mW (xy C) ma s) 0 0 139 [(9, .int ((STP0 s b (mr s 19 q)))), (8, .int ((STA s a (mr s 19 q)))), (7, .int ((mr s 19 q))), (0, .ref (ma 0)), (1, .int (nI wh)), (2, .int (ln)), (3, .int (a)), (4, .int (b)), (5, .int ((-1))), (6, .int (ur))] [.int (1)]
                        refine g_if_eq (tgt := 146) E dX6_whyNot_139 (by decide) (fun c_139 => ?_) (fun c_139 => ?_)
                        · exact absurd c_139 (by decide)
                        · refine g_iconst (v := 3) E dX6_whyNot_142 (by decide) ?_
                          refine g_goto (tgt := 147) E dX6_whyNot_143 (by decide) ?_
                          exact g_iret E hE hr dX6_whyNot_147 (Nat.le_of_ble_eq_true rfl) (Nat.le_of_ble_eq_true rfl) ⟨s, rfl, 3, rfl, Or.inr (Or.inr ⟨(fun q => Int32.not_lt.mpr c_21 q.2), id, (mr s 19 q), Or.inr ⟨c_2, Or.inl ⟨q, hq, hqF, hqm, rfl⟩⟩, Or.inr (Or.inl ⟨(fun z => Int32.not_lt.mpr c_118 z.2), ⟨c_2, hx⟩, rfl⟩)⟩), rfl⟩
                  · refine g_iconst (v := 2) E dX6_whyNot_121 (by decide) ?_
                    refine g_goto (tgt := 147) E dX6_whyNot_122 (by decide) ?_
                    exact g_iret E hE hr dX6_whyNot_147 (Nat.le_of_ble_eq_true rfl) (Nat.le_of_ble_eq_true rfl) ⟨s, rfl, 2, rfl, Or.inr (Or.inr ⟨(fun q => Int32.not_lt.mpr c_21 q.2), id, (mr s 19 q), Or.inr ⟨c_2, Or.inl ⟨q, hq, hqF, hqm, rfl⟩⟩, Or.inl ⟨⟨hne, Int32.not_le.mp c_118⟩, rfl⟩⟩), rfl⟩
              · exact absurd c_83 hne
            · exact absurd c_60 hne
          · rw [hv9]
            show G C (mW (xy C) ma s) 0 0 55 [(0, .ref (ma 0)), (1, .int (nI wh)), (2, .int (ln)), (3, .int (a)), (4, .int (b)), (5, .int ((-1))), (6, .int (ur))] [.int ((-1))]
            refine g_istore (L' := [(7, .int ((-1))), (0, .ref (ma 0)), (1, .int (nI wh)), (2, .int (ln)), (3, .int (a)), (4, .int (b)), (5, .int ((-1))), (6, .int (ur))]) E dX6_whyNot_55 (by decide) rfl ?_
            refine g_iload E dX6_whyNot_57 0 rfl ?_
            refine g_iconst (v := (-1)) E dX6_whyNot_59 (by decide) ?_
            refine g_icmp_ne (tgt := 67) E dX6_whyNot_60 (by decide) (fun c_60 => ?_) (fun c_60 => ?_)
            · exact absurd c_60 (by decide)
            · refine g_iload_n E dX6_whyNot_63 rfl 4 rfl ?_
              refine g_goto (tgt := 78) E dX6_whyNot_64 (by decide) ?_
              refine g_istore (L' := [(8, .int (a)), (7, .int ((-1))), (0, .ref (ma 0)), (1, .int (nI wh)), (2, .int (ln)), (3, .int (a)), (4, .int (b)), (5, .int ((-1))), (6, .int (ur))]) E dX6_whyNot_78 (by decide) rfl ?_
              refine g_iload E dX6_whyNot_80 1 rfl ?_
              refine g_iconst (v := (-1)) E dX6_whyNot_82 (by decide) ?_
              refine g_icmp_ne (tgt := 91) E dX6_whyNot_83 (by decide) (fun c_83 => ?_) (fun c_83 => ?_)
              · exact absurd c_83 (by decide)
              · refine g_iload E dX6_whyNot_86 6 rfl ?_
                refine g_goto (tgt := 103) E dX6_whyNot_88 (by decide) ?_
                refine g_istore (L' := [(9, .int (b)), (8, .int (a)), (7, .int ((-1))), (0, .ref (ma 0)), (1, .int (nI wh)), (2, .int (ln)), (3, .int (a)), (4, .int (b)), (5, .int ((-1))), (6, .int (ur))]) E dX6_whyNot_103 (by decide) rfl ?_
                refine g_iload E dX6_whyNot_105 2 rfl ?_
                refine g_iconst (v := (-1)) E dX6_whyNot_107 (by decide) ?_
                refine g_icmp_eq (tgt := 125) E dX6_whyNot_108 (by decide) (fun c_108 => ?_) (fun c_108 => ?_)
                · refine g_iload E dX6_whyNot_125 9 rfl ?_
                  refine g_if_ne (tgt := 146) E dX6_whyNot_127 (by decide) (fun c_127 => ?_) (fun c_127 => ?_)
                  · exact absurd c_2 c_127
                  · refine g_aload_n E dX6_whyNot_130 rfl 3 rfl ?_
                    refine g_iload_n E dX6_whyNot_131 rfl 5 rfl ?_
                    refine g_iload E dX6_whyNot_132 2 rfl ?_
                    refine g_iload E dX6_whyNot_134 1 rfl ?_
                    refine k_invV (n := 3) (rest := []) E (m_X6_isTwice (xl C) E.tr (xD C) (xy C) e0 (s := s) (ln := ln) (own := (-1)) (hour := a) hp0 hp1 hop) gX6_whyNot_X6_isTwice rfl rfl rfl (by decide +kernel) ⟨Nat.le_of_ble_eq_true rfl, Nat.le_of_ble_eq_true rfl⟩ rfl rfl (Nat.le_of_ble_eq_true rfl) dX6_whyNot_136 ⟨Nat.le_of_ble_eq_true rfl, Nat.le_of_ble_eq_true rfl⟩ (fun v9 s9_136 h9 => ?_)
                    obtain ⟨h9, hS9⟩ := h9
                    rw [hS9]
                    rcases h9 with ⟨hv9, hx⟩ | ⟨hv9, hx⟩
                    · rw [hv9]
                      show G C (mW (xy C) ma s) 0 0 139 [(9, .int (b)), (8, .int (a)), (7, .int ((-1))), (0, .ref (ma 0)), (1, .int (nI wh)), (2, .int (ln)), (3, .int (a)), (4, .int (b)), (5, .int ((-1))), (6, .int (ur))] [.int (0)]
                      refine g_if_eq (tgt := 146) E dX6_whyNot_139 (by decide) (fun c_139 => ?_) (fun c_139 => ?_)
                      · refine g_iconst (v := (-1)) E dX6_whyNot_146 (by decide) ?_
                        exact g_iret E hE hr dX6_whyNot_147 (Nat.le_of_ble_eq_true rfl) (Nat.le_of_ble_eq_true rfl) ⟨s, rfl, (-1), rfl, Or.inr (Or.inr ⟨(fun q => Int32.not_lt.mpr c_21 q.2), id, (-1), Or.inr ⟨c_2, Or.inr ⟨hqn, rfl⟩⟩, Or.inr (Or.inr ⟨(fun z => z.1 rfl), (fun z => by have z2 := z.2; rw [STA_N] at z2; exact z2.elim fun q g => hx q g.1 g.2), rfl⟩)⟩), rfl⟩
                      · exact absurd c_139 (by decide)
                    · rw [hv9]
                      show G C (mW (xy C) ma s) 0 0 139 [(9, .int (b)), (8, .int (a)), (7, .int ((-1))), (0, .ref (ma 0)), (1, .int (nI wh)), (2, .int (ln)), (3, .int (a)), (4, .int (b)), (5, .int ((-1))), (6, .int (ur))] [.int (1)]
                      refine g_if_eq (tgt := 146) E dX6_whyNot_139 (by decide) (fun c_139 => ?_) (fun c_139 => ?_)
                      · exact absurd c_139 (by decide)
                      · refine g_iconst (v := 3) E dX6_whyNot_142 (by decide) ?_
                        refine g_goto (tgt := 147) E dX6_whyNot_143 (by decide) ?_
                        exact g_iret E hE hr dX6_whyNot_147 (Nat.le_of_ble_eq_true rfl) (Nat.le_of_ble_eq_true rfl) ⟨s, rfl, 3, rfl, Or.inr (Or.inr ⟨(fun q => Int32.not_lt.mpr c_21 q.2), id, (-1), Or.inr ⟨c_2, Or.inr ⟨hqn, rfl⟩⟩, Or.inr (Or.inl ⟨(fun z => z.1 rfl), ⟨c_2, by rw [STA_N]; exact hx⟩, rfl⟩)⟩), rfl⟩
                · exact absurd c_108 (by decide)
        · exact absurd c_2 c_40
      · exact absurd c_33 (by decide)
    · refine g_iconst (v := 0) E dX6_whyNot_24 (by decide) ?_
      exact g_iret E hE hr dX6_whyNot_25 (Nat.le_of_ble_eq_true rfl) (Nat.le_of_ble_eq_true rfl) ⟨s, rfl, 0, rfl, Or.inl ⟨⟨c_2, Int32.not_le.mp c_21⟩, rfl⟩, rfl⟩
set_option maxHeartbeats 4000000 in
set_option maxRecDepth 100000 in
theorem m_X6_whyNot (l : Launch) (hl : l.stackTraces = false) (D : va_G) (cy : Nat → ClassId) (e0 : Nat) {ma : Nat → Nat} {s : mS} {np : Nat} (hp0 : mi s 21 = nI np) (hp1 : np ≤ 40) (hop : HOP s np) {wh : Nat} (hwh : wh < 6) {z : Nat} (hz : z < np) {ln a b ur : Int32} : mMet l yX6_whyNot wsX6_whyNot rm_X6_whyNot D cy e0 [.ref (ma 0), .int (nI wh), .int (ln), .int (a), .int (b), .int (nI z), .int (ur)] ma s (fun v s' => ∃ w, v = some (.int w) ∧ WHY s np wh ln a b ur (BKz s z a) w ∧ s' = s) := by
  refine gMet.of (cc := cX6_whyNot) (maxL := 10) (ret := (some .int)) hl (by decide) rfl (Nat.le_of_ble_eq_true rfl) ?_
  intro C E h1 h2 h3 hr hnm hT hE
  subst h1; subst h2; subst h3
  have E : gOk C cX6_whyNot 10 wsX6_whyNot RX6 e0 rm_X6_whyNot := E
  show G C (mW (xy C) ma s) 0 0 0 [(0, .ref (ma 0)), (1, .int (nI wh)), (2, .int (ln)), (3, .int (a)), (4, .int (b)), (5, .int (nI z)), (6, .int (ur))] []
  refine g_iload E dX6_whyNot_0 6 rfl ?_
  refine g_if_ne (tgt := 26) E dX6_whyNot_2 (by decide) (fun c_2 => ?_) (fun c_2 => ?_)
  · refine g_aload_n E dX6_whyNot_26 rfl 0 rfl ?_
    refine g_iload E dX6_whyNot_27 5 rfl ?_
    refine g_iload_n E dX6_whyNot_29 rfl 3 rfl ?_
    refine k_invV (n := 2) (rest := []) E (m_X6_isBroken (xl C) E.tr (xD C) (xy C) e0 (s := s) (z := z) (a := a) hp1 hop hz) gX6_whyNot_X6_isBroken rfl rfl rfl (by decide +kernel) ⟨Nat.le_of_ble_eq_true rfl, Nat.le_of_ble_eq_true rfl⟩ rfl rfl (Nat.le_of_ble_eq_true rfl) dX6_whyNot_30 ⟨Nat.le_of_ble_eq_true rfl, Nat.le_of_ble_eq_true rfl⟩ (fun v9 s9_30 h9 => ?_)
    obtain ⟨hv9, hS9⟩ := h9
    rw [hv9, hS9]
    show G C (mW (xy C) ma s) 0 0 33 [(0, .ref (ma 0)), (1, .int (nI wh)), (2, .int (ln)), (3, .int (a)), (4, .int (b)), (5, .int (nI z)), (6, .int (ur))] [.int ((bI (BKz s z a)))]
    refine g_if_eq (tgt := 38) E dX6_whyNot_33 (by decide) (fun c_33 => ?_) (fun c_33 => ?_)
    · refine g_iload E dX6_whyNot_38 6 rfl ?_
      refine g_if_eq (tgt := 47) E dX6_whyNot_40 (by decide) (fun c_40 => ?_) (fun c_40 => ?_)
      · exact absurd c_40 c_2
      · refine g_iconst (v := (-1)) E dX6_whyNot_43 (by decide) ?_
        refine g_goto (tgt := 55) E dX6_whyNot_44 (by decide) ?_
        refine g_istore (L' := [(7, .int ((-1))), (0, .ref (ma 0)), (1, .int (nI wh)), (2, .int (ln)), (3, .int (a)), (4, .int (b)), (5, .int (nI z)), (6, .int (ur))]) E dX6_whyNot_55 (by decide) rfl ?_
        refine g_iload E dX6_whyNot_57 0 rfl ?_
        refine g_iconst (v := (-1)) E dX6_whyNot_59 (by decide) ?_
        refine g_icmp_ne (tgt := 67) E dX6_whyNot_60 (by decide) (fun c_60 => ?_) (fun c_60 => ?_)
        · exact absurd c_60 (by decide)
        · refine g_iload_n E dX6_whyNot_63 rfl 4 rfl ?_
          refine g_goto (tgt := 78) E dX6_whyNot_64 (by decide) ?_
          refine g_istore (L' := [(8, .int (a)), (7, .int ((-1))), (0, .ref (ma 0)), (1, .int (nI wh)), (2, .int (ln)), (3, .int (a)), (4, .int (b)), (5, .int (nI z)), (6, .int (ur))]) E dX6_whyNot_78 (by decide) rfl ?_
          refine g_iload E dX6_whyNot_80 1 rfl ?_
          refine g_iconst (v := (-1)) E dX6_whyNot_82 (by decide) ?_
          refine g_icmp_ne (tgt := 91) E dX6_whyNot_83 (by decide) (fun c_83 => ?_) (fun c_83 => ?_)
          · exact absurd c_83 (by decide)
          · refine g_iload E dX6_whyNot_86 6 rfl ?_
            refine g_goto (tgt := 103) E dX6_whyNot_88 (by decide) ?_
            refine g_istore (L' := [(9, .int (b)), (8, .int (a)), (7, .int ((-1))), (0, .ref (ma 0)), (1, .int (nI wh)), (2, .int (ln)), (3, .int (a)), (4, .int (b)), (5, .int (nI z)), (6, .int (ur))]) E dX6_whyNot_103 (by decide) rfl ?_
            refine g_iload E dX6_whyNot_105 2 rfl ?_
            refine g_iconst (v := (-1)) E dX6_whyNot_107 (by decide) ?_
            refine g_icmp_eq (tgt := 125) E dX6_whyNot_108 (by decide) (fun c_108 => ?_) (fun c_108 => ?_)
            · refine g_iload E dX6_whyNot_125 9 rfl ?_
              refine g_if_ne (tgt := 146) E dX6_whyNot_127 (by decide) (fun c_127 => ?_) (fun c_127 => ?_)
              · refine g_iconst (v := (-1)) E dX6_whyNot_146 (by decide) ?_
                exact g_iret E hE hr dX6_whyNot_147 (Nat.le_of_ble_eq_true rfl) (Nat.le_of_ble_eq_true rfl) ⟨s, rfl, (-1), rfl, Or.inr (Or.inr ⟨(fun q => c_2 q.1), (bI_eq0.mp c_33), (-1), Or.inl ⟨c_2, rfl⟩, Or.inr (Or.inr ⟨(fun z => z.1 rfl), (fun z => c_2 z.1), rfl⟩)⟩), rfl⟩
              · exact absurd c_127 c_2
            · exact absurd c_108 (by decide)
    · refine g_iconst (v := 1) E dX6_whyNot_36 (by decide) ?_
      exact g_iret E hE hr dX6_whyNot_37 (Nat.le_of_ble_eq_true rfl) (Nat.le_of_ble_eq_true rfl) ⟨s, rfl, 1, rfl, Or.inr (Or.inl ⟨(fun q => c_2 q.1), bI_ne0.mp c_33, rfl⟩), rfl⟩
  · refine g_iload_n E dX6_whyNot_5 rfl 3 rfl ?_
    refine g_aload_n E dX6_whyNot_6 rfl 0 rfl ?_
    refine k_get_now (s := s) E (fun _ h => (List.mem_cons_of_mem _ (List.mem_append_right _ h))) (List.mem_cons_of_mem _ (List.mem_append_left _ (List.mem_append_left _ (List.mem_of_getElem? (i := 0) rfl)))) dX6_whyNot_7 ?_
    refine g_iconst (v := 2) E dX6_whyNot_10 (by decide) ?_
    refine g_iadd E dX6_whyNot_11 ?_
    refine g_iconst (v := 3) E dX6_whyNot_12 (by decide) ?_
    refine g_aload_n E dX6_whyNot_13 rfl 0 rfl ?_
    refine k_get_points (s := s) E (fun _ h => (List.mem_cons_of_mem _ (List.mem_append_right _ h))) (List.mem_cons_of_mem _ (List.mem_append_left _ (List.mem_append_left _ (List.mem_of_getElem? (i := 1) rfl)))) dX6_whyNot_14 ?_
    refine g_iload_n E dX6_whyNot_17 rfl 1 rfl ?_
    refine k_ald_points (s := s) E wh rfl (by omega) dX6_whyNot_18 ?_
    refine g_imul E dX6_whyNot_19 ?_
    refine g_iadd E dX6_whyNot_20 ?_
    refine g_icmp_ge (tgt := 26) E dX6_whyNot_21 (by decide) (fun c_21 => ?_) (fun c_21 => ?_)
    · refine g_aload_n E dX6_whyNot_26 rfl 0 rfl ?_
      refine g_iload E dX6_whyNot_27 5 rfl ?_
      refine g_iload_n E dX6_whyNot_29 rfl 3 rfl ?_
      refine k_invV (n := 2) (rest := []) E (m_X6_isBroken (xl C) E.tr (xD C) (xy C) e0 (s := s) (z := z) (a := a) hp1 hop hz) gX6_whyNot_X6_isBroken rfl rfl rfl (by decide +kernel) ⟨Nat.le_of_ble_eq_true rfl, Nat.le_of_ble_eq_true rfl⟩ rfl rfl (Nat.le_of_ble_eq_true rfl) dX6_whyNot_30 ⟨Nat.le_of_ble_eq_true rfl, Nat.le_of_ble_eq_true rfl⟩ (fun v9 s9_30 h9 => ?_)
      obtain ⟨hv9, hS9⟩ := h9
      rw [hv9, hS9]
      show G C (mW (xy C) ma s) 0 0 33 [(0, .ref (ma 0)), (1, .int (nI wh)), (2, .int (ln)), (3, .int (a)), (4, .int (b)), (5, .int (nI z)), (6, .int (ur))] [.int ((bI (BKz s z a)))]
      refine g_if_eq (tgt := 38) E dX6_whyNot_33 (by decide) (fun c_33 => ?_) (fun c_33 => ?_)
      · refine g_iload E dX6_whyNot_38 6 rfl ?_
        refine g_if_eq (tgt := 47) E dX6_whyNot_40 (by decide) (fun c_40 => ?_) (fun c_40 => ?_)
        · refine g_aload_n E dX6_whyNot_47 rfl 0 rfl ?_
          refine g_iload_n E dX6_whyNot_48 rfl 2 rfl ?_
          refine g_iload_n E dX6_whyNot_49 rfl 3 rfl ?_
          refine g_iload E dX6_whyNot_50 4 rfl ?_
          refine k_invV (n := 3) (rest := []) E (m_X6_joined (xl C) E.tr (xD C) (xy C) e0 (s := s) (ln := ln) (a := a) (b := b) hp0 hp1 hop) gX6_whyNot_X6_joined rfl rfl rfl (by decide +kernel) ⟨Nat.le_of_ble_eq_true rfl, Nat.le_of_ble_eq_true rfl⟩ rfl rfl (Nat.le_of_ble_eq_true rfl) dX6_whyNot_52 ⟨Nat.le_of_ble_eq_true rfl, Nat.le_of_ble_eq_true rfl⟩ (fun v9 s9_52 h9 => ?_)
          obtain ⟨h9, hS9⟩ := h9
          rw [hS9]
          rcases h9 with ⟨q, hq, hqF, hqm, hv9⟩ | ⟨hqn, hv9⟩
          · rw [hv9]
            have h_o := hop q hq hqF.1.1
            have hne : ¬ mr s 19 q = -1 := fun e => absurd (e.symm.trans h_o.1) (nI_nm1 (Nat.lt_trans h_o.2 (by decide)))
            show G C (mW (xy C) ma s) 0 0 55 [(0, .ref (ma 0)), (1, .int (nI wh)), (2, .int (ln)), (3, .int (a)), (4, .int (b)), (5, .int (nI z)), (6, .int (ur))] [.int ((mr s 19 q))]
            refine g_istore (L' := [(7, .int ((mr s 19 q))), (0, .ref (ma 0)), (1, .int (nI wh)), (2, .int (ln)), (3, .int (a)), (4, .int (b)), (5, .int (nI z)), (6, .int (ur))]) E dX6_whyNot_55 (by decide) rfl ?_
            refine g_iload E dX6_whyNot_57 0 rfl ?_
            refine g_iconst (v := (-1)) E dX6_whyNot_59 (by decide) ?_
            refine g_icmp_ne (tgt := 67) E dX6_whyNot_60 (by decide) (fun c_60 => ?_) (fun c_60 => ?_)
            · refine g_iload_n E dX6_whyNot_67 rfl 4 rfl ?_
              refine g_aload_n E dX6_whyNot_68 rfl 1 rfl ?_
              refine k_get_first (s := s) E (fun _ h => (List.mem_cons_of_mem _ (List.mem_append_right _ h))) (List.mem_cons_of_mem _ (List.mem_append_left _ (List.mem_append_left _ (List.mem_of_getElem? (i := 2) rfl)))) dX6_whyNot_69 ?_
              refine g_iload E dX6_whyNot_72 0 rfl ?_
              refine k_ald_first (s := s) E ((tn (mr s 19 q))) h_o.1 h_o.2 dX6_whyNot_74 ?_
              refine k_invS (n := 2) (rest := []) E (m_X6_lesser (xl C) E.tr (xD C) (xy C) e0 (s := s) (x := a) (y := mr s 22 ((tn (mr s 19 q))))) gX6_whyNot_X6_lesser rfl rfl rfl (by decide +kernel) ⟨Nat.le_of_ble_eq_true rfl, Nat.le_of_ble_eq_true rfl⟩ rfl rfl (Nat.le_of_ble_eq_true rfl) dX6_whyNot_75 ⟨Nat.le_of_ble_eq_true rfl, Nat.le_of_ble_eq_true rfl⟩ (fun v9 s9_75 h9 => ?_)
              obtain ⟨hv9, hS9⟩ := h9
              rw [hv9, hS9]
              show G C (mW (xy C) ma s) 0 0 78 [(7, .int ((mr s 19 q))), (0, .ref (ma 0)), (1, .int (nI wh)), (2, .int (ln)), (3, .int (a)), (4, .int (b)), (5, .int (nI z)), (6, .int (ur))] [.int ((if a < mr s 22 ((tn (mr s 19 q))) then a else mr s 22 ((tn (mr s 19 q)))))]
              rw [show (if a < mr s 22 (tn (mr s 19 q)) then a else mr s 22 (tn (mr s 19 q))) = STA s a (mr s 19 q) from (if_neg hne).symm]
              show G C (mW (xy C) ma s) 0 0 78 [(7, .int ((mr s 19 q))), (0, .ref (ma 0)), (1, .int (nI wh)), (2, .int (ln)), (3, .int (a)), (4, .int (b)), (5, .int (nI z)), (6, .int (ur))] [.int ((STA s a (mr s 19 q)))]
              refine g_istore (L' := [(8, .int ((STA s a (mr s 19 q)))), (7, .int ((mr s 19 q))), (0, .ref (ma 0)), (1, .int (nI wh)), (2, .int (ln)), (3, .int (a)), (4, .int (b)), (5, .int (nI z)), (6, .int (ur))]) E dX6_whyNot_78 (by decide) rfl ?_
              refine g_iload E dX6_whyNot_80 1 rfl ?_
              refine g_iconst (v := (-1)) E dX6_whyNot_82 (by decide) ?_
              refine g_icmp_ne (tgt := 91) E dX6_whyNot_83 (by decide) (fun c_83 => ?_) (fun c_83 => ?_)
              · refine g_iload E dX6_whyNot_91 6 rfl ?_
                refine g_aload_n E dX6_whyNot_93 rfl 2 rfl ?_
                refine k_get_behind (s := s) E (fun _ h => (List.mem_cons_of_mem _ (List.mem_append_right _ h))) (List.mem_cons_of_mem _ (List.mem_append_left _ (List.mem_append_left _ (List.mem_of_getElem? (i := 3) rfl)))) dX6_whyNot_94 ?_
                refine g_iload E dX6_whyNot_97 1 rfl ?_
                refine k_ald_behind (s := s) E ((tn (mr s 19 q))) h_o.1 h_o.2 dX6_whyNot_99 ?_
                refine k_invS (n := 2) (rest := []) E (m_X6_greater (xl C) E.tr (xD C) (xy C) e0 (s := s) (x := b) (y := mr s 23 ((tn (mr s 19 q))))) gX6_whyNot_X6_greater rfl rfl rfl (by decide +kernel) ⟨Nat.le_of_ble_eq_true rfl, Nat.le_of_ble_eq_true rfl⟩ rfl rfl (Nat.le_of_ble_eq_true rfl) dX6_whyNot_100 ⟨Nat.le_of_ble_eq_true rfl, Nat.le_of_ble_eq_true rfl⟩ (fun v9 s9_100 h9 => ?_)
                obtain ⟨hv9, hS9⟩ := h9
                rw [hv9, hS9]
                show G C (mW (xy C) ma s) 0 0 103 [(8, .int ((STA s a (mr s 19 q)))), (7, .int ((mr s 19 q))), (0, .ref (ma 0)), (1, .int (nI wh)), (2, .int (ln)), (3, .int (a)), (4, .int (b)), (5, .int (nI z)), (6, .int (ur))] [.int ((if mr s 23 ((tn (mr s 19 q))) < b then b else mr s 23 ((tn (mr s 19 q)))))]
                rw [show (if mr s 23 (tn (mr s 19 q)) < b then b else mr s 23 (tn (mr s 19 q))) = STP0 s b (mr s 19 q) from (if_neg hne).symm]
                show G C (mW (xy C) ma s) 0 0 103 [(8, .int ((STA s a (mr s 19 q)))), (7, .int ((mr s 19 q))), (0, .ref (ma 0)), (1, .int (nI wh)), (2, .int (ln)), (3, .int (a)), (4, .int (b)), (5, .int (nI z)), (6, .int (ur))] [.int ((STP0 s b (mr s 19 q)))]
                refine g_istore (L' := [(9, .int ((STP0 s b (mr s 19 q)))), (8, .int ((STA s a (mr s 19 q)))), (7, .int ((mr s 19 q))), (0, .ref (ma 0)), (1, .int (nI wh)), (2, .int (ln)), (3, .int (a)), (4, .int (b)), (5, .int (nI z)), (6, .int (ur))]) E dX6_whyNot_103 (by decide) rfl ?_
                refine g_iload E dX6_whyNot_105 2 rfl ?_
                refine g_iconst (v := (-1)) E dX6_whyNot_107 (by decide) ?_
                refine g_icmp_eq (tgt := 125) E dX6_whyNot_108 (by decide) (fun c_108 => ?_) (fun c_108 => ?_)
                · exact absurd c_108 hne
                · refine g_iload E dX6_whyNot_111 0 rfl ?_
                  refine g_iload E dX6_whyNot_113 1 rfl ?_
                  refine g_isub E dX6_whyNot_115 ?_
                  refine g_bipush (v := 40) E dX6_whyNot_116 (by decide) ?_
                  refine g_icmp_le (tgt := 125) E dX6_whyNot_118 (by decide) (fun c_118 => ?_) (fun c_118 => ?_)
                  · refine g_iload E dX6_whyNot_125 9 rfl ?_
                    refine g_if_ne (tgt := 146) E dX6_whyNot_127 (by decide) (fun c_127 => ?_) (fun c_127 => ?_)
                    · exact absurd c_2 c_127
                    · refine g_aload_n E dX6_whyNot_130 rfl 3 rfl ?_
                      refine g_iload_n E dX6_whyNot_131 rfl 5 rfl ?_
                      refine g_iload E dX6_whyNot_132 2 rfl ?_
                      refine g_iload E dX6_whyNot_134 1 rfl ?_
                      refine k_invV (n := 3) (rest := []) E (m_X6_isTwice (xl C) E.tr (xD C) (xy C) e0 (s := s) (ln := ln) (own := (mr s 19 q)) (hour := (STA s a (mr s 19 q))) hp0 hp1 hop) gX6_whyNot_X6_isTwice rfl rfl rfl (by decide +kernel) ⟨Nat.le_of_ble_eq_true rfl, Nat.le_of_ble_eq_true rfl⟩ rfl rfl (Nat.le_of_ble_eq_true rfl) dX6_whyNot_136 ⟨Nat.le_of_ble_eq_true rfl, Nat.le_of_ble_eq_true rfl⟩ (fun v9 s9_136 h9 => ?_)
                      obtain ⟨h9, hS9⟩ := h9
                      rw [hS9]
                      rcases h9 with ⟨hv9, hx⟩ | ⟨hv9, hx⟩
                      · rw [hv9]
                        show G C (mW (xy C) ma s) 0 0 139 [(9, .int ((STP0 s b (mr s 19 q)))), (8, .int ((STA s a (mr s 19 q)))), (7, .int ((mr s 19 q))), (0, .ref (ma 0)), (1, .int (nI wh)), (2, .int (ln)), (3, .int (a)), (4, .int (b)), (5, .int (nI z)), (6, .int (ur))] [.int (0)]
                        refine g_if_eq (tgt := 146) E dX6_whyNot_139 (by decide) (fun c_139 => ?_) (fun c_139 => ?_)
                        · refine g_iconst (v := (-1)) E dX6_whyNot_146 (by decide) ?_
                          exact g_iret E hE hr dX6_whyNot_147 (Nat.le_of_ble_eq_true rfl) (Nat.le_of_ble_eq_true rfl) ⟨s, rfl, (-1), rfl, Or.inr (Or.inr ⟨(fun q => Int32.not_lt.mpr c_21 q.2), (bI_eq0.mp c_33), (mr s 19 q), Or.inr ⟨c_2, Or.inl ⟨q, hq, hqF, hqm, rfl⟩⟩, Or.inr (Or.inr ⟨(fun z => Int32.not_lt.mpr c_118 z.2), (fun z => z.2.elim fun q g => hx q g.1 g.2), rfl⟩)⟩), rfl⟩
                        · exact absurd c_139 (by decide)
                      · rw [hv9]
                        show G C (mW (xy C) ma s) 0 0 139 [(9, .int ((STP0 s b (mr s 19 q)))), (8, .int ((STA s a (mr s 19 q)))), (7, .int ((mr s 19 q))), (0, .ref (ma 0)), (1, .int (nI wh)), (2, .int (ln)), (3, .int (a)), (4, .int (b)), (5, .int (nI z)), (6, .int (ur))] [.int (1)]
                        refine g_if_eq (tgt := 146) E dX6_whyNot_139 (by decide) (fun c_139 => ?_) (fun c_139 => ?_)
                        · exact absurd c_139 (by decide)
                        · refine g_iconst (v := 3) E dX6_whyNot_142 (by decide) ?_
                          refine g_goto (tgt := 147) E dX6_whyNot_143 (by decide) ?_
                          exact g_iret E hE hr dX6_whyNot_147 (Nat.le_of_ble_eq_true rfl) (Nat.le_of_ble_eq_true rfl) ⟨s, rfl, 3, rfl, Or.inr (Or.inr ⟨(fun q => Int32.not_lt.mpr c_21 q.2), (bI_eq0.mp c_33), (mr s 19 q), Or.inr ⟨c_2, Or.inl ⟨q, hq, hqF, hqm, rfl⟩⟩, Or.inr (Or.inl ⟨(fun z => Int32.not_lt.mpr c_118 z.2), ⟨c_2, hx⟩, rfl⟩)⟩), rfl⟩
                  · refine g_iconst (v := 2) E dX6_whyNot_121 (by decide) ?_
                    refine g_goto (tgt := 147) E dX6_whyNot_122 (by decide) ?_
                    exact g_iret E hE hr dX6_whyNot_147 (Nat.le_of_ble_eq_true rfl) (Nat.le_of_ble_eq_true rfl) ⟨s, rfl, 2, rfl, Or.inr (Or.inr ⟨(fun q => Int32.not_lt.mpr c_21 q.2), (bI_eq0.mp c_33), (mr s 19 q), Or.inr ⟨c_2, Or.inl ⟨q, hq, hqF, hqm, rfl⟩⟩, Or.inl ⟨⟨hne, Int32.not_le.mp c_118⟩, rfl⟩⟩), rfl⟩
              · exact absurd c_83 hne
            · exact absurd c_60 hne
          · rw [hv9]
            show G C (mW (xy C) ma s) 0 0 55 [(0, .ref (ma 0)), (1, .int (nI wh)), (2, .int (ln)), (3, .int (a)), (4, .int (b)), (5, .int (nI z)), (6, .int (ur))] [.int ((-1))]
            refine g_istore (L' := [(7, .int ((-1))), (0, .ref (ma 0)), (1, .int (nI wh)), (2, .int (ln)), (3, .int (a)), (4, .int (b)), (5, .int (nI z)), (6, .int (ur))]) E dX6_whyNot_55 (by decide) rfl ?_
            refine g_iload E dX6_whyNot_57 0 rfl ?_
            refine g_iconst (v := (-1)) E dX6_whyNot_59 (by decide) ?_
            refine g_icmp_ne (tgt := 67) E dX6_whyNot_60 (by decide) (fun c_60 => ?_) (fun c_60 => ?_)
            · exact absurd c_60 (by decide)
            · refine g_iload_n E dX6_whyNot_63 rfl 4 rfl ?_
              refine g_goto (tgt := 78) E dX6_whyNot_64 (by decide) ?_
              refine g_istore (L' := [(8, .int (a)), (7, .int ((-1))), (0, .ref (ma 0)), (1, .int (nI wh)), (2, .int (ln)), (3, .int (a)), (4, .int (b)), (5, .int (nI z)), (6, .int (ur))]) E dX6_whyNot_78 (by decide) rfl ?_
              refine g_iload E dX6_whyNot_80 1 rfl ?_
              refine g_iconst (v := (-1)) E dX6_whyNot_82 (by decide) ?_
              refine g_icmp_ne (tgt := 91) E dX6_whyNot_83 (by decide) (fun c_83 => ?_) (fun c_83 => ?_)
              · exact absurd c_83 (by decide)
              · refine g_iload E dX6_whyNot_86 6 rfl ?_
                refine g_goto (tgt := 103) E dX6_whyNot_88 (by decide) ?_
                refine g_istore (L' := [(9, .int (b)), (8, .int (a)), (7, .int ((-1))), (0, .ref (ma 0)), (1, .int (nI wh)), (2, .int (ln)), (3, .int (a)), (4, .int (b)), (5, .int (nI z)), (6, .int (ur))]) E dX6_whyNot_103 (by decide) rfl ?_
                refine g_iload E dX6_whyNot_105 2 rfl ?_
                refine g_iconst (v := (-1)) E dX6_whyNot_107 (by decide) ?_
                refine g_icmp_eq (tgt := 125) E dX6_whyNot_108 (by decide) (fun c_108 => ?_) (fun c_108 => ?_)
                · refine g_iload E dX6_whyNot_125 9 rfl ?_
                  refine g_if_ne (tgt := 146) E dX6_whyNot_127 (by decide) (fun c_127 => ?_) (fun c_127 => ?_)
                  · exact absurd c_2 c_127
                  · refine g_aload_n E dX6_whyNot_130 rfl 3 rfl ?_
                    refine g_iload_n E dX6_whyNot_131 rfl 5 rfl ?_
                    refine g_iload E dX6_whyNot_132 2 rfl ?_
                    refine g_iload E dX6_whyNot_134 1 rfl ?_
                    refine k_invV (n := 3) (rest := []) E (m_X6_isTwice (xl C) E.tr (xD C) (xy C) e0 (s := s) (ln := ln) (own := (-1)) (hour := a) hp0 hp1 hop) gX6_whyNot_X6_isTwice rfl rfl rfl (by decide +kernel) ⟨Nat.le_of_ble_eq_true rfl, Nat.le_of_ble_eq_true rfl⟩ rfl rfl (Nat.le_of_ble_eq_true rfl) dX6_whyNot_136 ⟨Nat.le_of_ble_eq_true rfl, Nat.le_of_ble_eq_true rfl⟩ (fun v9 s9_136 h9 => ?_)
                    obtain ⟨h9, hS9⟩ := h9
                    rw [hS9]
                    rcases h9 with ⟨hv9, hx⟩ | ⟨hv9, hx⟩
                    · rw [hv9]
                      show G C (mW (xy C) ma s) 0 0 139 [(9, .int (b)), (8, .int (a)), (7, .int ((-1))), (0, .ref (ma 0)), (1, .int (nI wh)), (2, .int (ln)), (3, .int (a)), (4, .int (b)), (5, .int (nI z)), (6, .int (ur))] [.int (0)]
                      refine g_if_eq (tgt := 146) E dX6_whyNot_139 (by decide) (fun c_139 => ?_) (fun c_139 => ?_)
                      · refine g_iconst (v := (-1)) E dX6_whyNot_146 (by decide) ?_
                        exact g_iret E hE hr dX6_whyNot_147 (Nat.le_of_ble_eq_true rfl) (Nat.le_of_ble_eq_true rfl) ⟨s, rfl, (-1), rfl, Or.inr (Or.inr ⟨(fun q => Int32.not_lt.mpr c_21 q.2), (bI_eq0.mp c_33), (-1), Or.inr ⟨c_2, Or.inr ⟨hqn, rfl⟩⟩, Or.inr (Or.inr ⟨(fun z => z.1 rfl), (fun z => by have z2 := z.2; rw [STA_N] at z2; exact z2.elim fun q g => hx q g.1 g.2), rfl⟩)⟩), rfl⟩
                      · exact absurd c_139 (by decide)
                    · rw [hv9]
                      show G C (mW (xy C) ma s) 0 0 139 [(9, .int (b)), (8, .int (a)), (7, .int ((-1))), (0, .ref (ma 0)), (1, .int (nI wh)), (2, .int (ln)), (3, .int (a)), (4, .int (b)), (5, .int (nI z)), (6, .int (ur))] [.int (1)]
                      refine g_if_eq (tgt := 146) E dX6_whyNot_139 (by decide) (fun c_139 => ?_) (fun c_139 => ?_)
                      · exact absurd c_139 (by decide)
                      · refine g_iconst (v := 3) E dX6_whyNot_142 (by decide) ?_
                        refine g_goto (tgt := 147) E dX6_whyNot_143 (by decide) ?_
                        exact g_iret E hE hr dX6_whyNot_147 (Nat.le_of_ble_eq_true rfl) (Nat.le_of_ble_eq_true rfl) ⟨s, rfl, 3, rfl, Or.inr (Or.inr ⟨(fun q => Int32.not_lt.mpr c_21 q.2), (bI_eq0.mp c_33), (-1), Or.inr ⟨c_2, Or.inr ⟨hqn, rfl⟩⟩, Or.inr (Or.inl ⟨(fun z => z.1 rfl), ⟨c_2, by rw [STA_N]; exact hx⟩, rfl⟩)⟩), rfl⟩
                · exact absurd c_108 (by decide)
        · exact absurd c_2 c_40
      · refine g_iconst (v := 1) E dX6_whyNot_36 (by decide) ?_
        exact g_iret E hE hr dX6_whyNot_37 (Nat.le_of_ble_eq_true rfl) (Nat.le_of_ble_eq_true rfl) ⟨s, rfl, 1, rfl, Or.inr (Or.inl ⟨(fun q => Int32.not_lt.mpr c_21 q.2), bI_ne0.mp c_33, rfl⟩), rfl⟩
    · refine g_iconst (v := 0) E dX6_whyNot_24 (by decide) ?_
      exact g_iret E hE hr dX6_whyNot_25 (Nat.le_of_ble_eq_true rfl) (Nat.le_of_ble_eq_true rfl) ⟨s, rfl, 0, rfl, Or.inl ⟨⟨c_2, Int32.not_le.mp c_21⟩, rfl⟩, rfl⟩
