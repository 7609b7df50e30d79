theorem WHY_mu {s : mS} {v : Int32} {np wh : Nat} {ln a b ur : Int32} {BK : Prop} {w : Int32} : WHY (muI s 0 v) np wh ln a b ur BK w = WHY s np wh ln a b ur BK w := rfl
/-- a permit is written down -/
def mAp (s2 : mS) (np : Nat) (ap ln fr en nd ur st w o : Int32) : mS := muI (muR (muR (muR (muR (muR (muR (muR (muR (muR s2 11 np ap) 12 np ln) 13 np fr) 14 np en) 15 np nd) 16 np ur) 17 np st) 18 np w) 19 np o) 21 (nI np + 1)
def mNew (s : mS) (no : Nat) (fr en : Int32) : mS := muI (muR (muR (muI s 0 0) 22 no fr) 23 no en) 24 (nI no + 1)
def mOld (s : mS) (o : Nat) (fr en : Int32) : mS := muR (muR (muI s 0 0) 22 o (if fr < mr s 22 o then fr else mr s 22 o)) 23 o (if mr s 23 o < en then en else mr s 23 o)
def mARE (M np : Nat) (ap ln nd : Int32) : Prop := ¬ isIx ap 6 = 0 ∧ ¬ isIx ln M = 0 ∧ (nd = -1 ∨ ¬ isIx nd np = 0)
def mOKS (s : mS) (fr hs : Int32) : Prop := (0 ≤ fr ∧ fr ≤ 4900) ∧ (1 ≤ hs ∧ hs ≤ 40) ∧ mi s 1 ≤ fr
/-- what an application does when it is written down: w the cause, s2 the openings' state, st the permit's -/
def mAPP (s : mS) (np no : Nat) (ln fr en ur w st o : Int32) (s2 : mS) : Prop :=
  (¬ w = -1 ∧ st = 1 ∧ o = -1 ∧ s2 = muI s 0 0) ∨
  (w = -1 ∧ st = 0 ∧ OWN s np ln fr en ur (-1) ∧ o = nI no ∧ s2 = mNew s no fr en) ∨
  (w = -1 ∧ st = 0 ∧ ∃ q, q < np ∧ mr s 19 q = nI (tn (mr s 19 q)) ∧ ur = 0 ∧ mjF s ln fr en q ∧ (∀ z, z < q → ¬ mjF s ln fr en z) ∧ o = mr s 19 q ∧ s2 = mOld s (tn (mr s 19 q)) fr en)
/-- the numbers that an application names -/
def mNUM (M np : Nat) (ap ln nd : Int32) (a : Nat) (BK : Prop) (s : mS) (fr : Int32) : Prop := a < 6 ∧ ap = nI a ∧ (∃ l, l < M ∧ ln = nI l) ∧ ((nd = -1 ∧ BK = False) ∨ ∃ z, z < np ∧ nd = nI z ∧ BK = BKz s z fr)
abbrev rm_X6_apply : Room := { frames := 3, cells := 0, slots := 0, locals := 76 }
set_option maxHeartbeats 4000000 in
set_option maxRecDepth 100000 in
theorem m_X6_apply (l : Launch) (hl : l.stackTraces = false) (D : va_G) (cy : Nat → ClassId) (e0 : Nat) {ma : Nat → Nat} {s : mS} {np : Nat} (hp0 : mi s 21 = nI np) (hp1 : np ≤ 40) {M : Nat} (hM : mi s 5 = nI M) (hM1 : M ≤ 24) {no : Nat} (hno : mi s 24 = nI no) (hno1 : no < 40 ∨ np = 40) (hop : HOP s np) {ap ln fr hs nd ur : Int32} (hu : ur = 0 ∨ ur = 1) : mMet l yX6_apply wsX6_apply rm_X6_apply D cy e0 [.ref (ma 0), .int (ap), .int (ln), .int (fr), .int (hs), .int (nd), .int (ur)] ma s (fun v s' => (∃ a BK w st o s2, mNUM M np ap ln nd a BK s fr ∧ mOKS s fr hs ∧ np < 40 ∧ WHY s np a ln fr (fr + hs) ur BK w ∧ mAPP s np no ln fr (fr + hs) ur w st o s2 ∧ v = some (.int (nI np)) ∧ s' = mAp s2 np ap ln fr (fr + hs) nd ur st w o) ∨ (∃ c : Int32, v = some (.int 0) ∧ s' = muI s 0 c ∧ ((c = 1 ∧ ¬ mARE M np ap ln nd) ∨ (c = 2 ∧ mARE M np ap ln nd ∧ ¬ mOKS s fr hs) ∨ (c = 3 ∧ mARE M np ap ln nd ∧ mOKS s fr hs ∧ np = 40)))) := by
  refine gMet.of (cc := cX6_apply) (maxL := 13) (ret := (some .int)) hl (by decide) rfl (Nat.le_of_ble_eq_true rfl) ?_
  intro C E h1 h2 h3 hr hnm hT hE
  subst h1; subst h2; subst h3
  have E : gOk C cX6_apply 13 wsX6_apply RX6 e0 rm_X6_apply := E
  show G C (mW (xy C) ma s) 0 0 0 [(0, .ref (ma 0)), (1, .int (ap)), (2, .int (ln)), (3, .int (fr)), (4, .int (hs)), (5, .int (nd)), (6, .int (ur))] []
  refine g_iload_n E dX6_apply_0 rfl 1 rfl ?_
  refine k_invS (n := 1) (rest := []) E (m_X6_isApplicant (xl C) E.tr (xD C) (xy C) e0 ) gX6_apply_X6_isApplicant rfl rfl rfl (by decide +kernel) ⟨Nat.le_of_ble_eq_true rfl, Nat.le_of_ble_eq_true rfl⟩ rfl rfl (Nat.le_of_ble_eq_true rfl) dX6_apply_1 ⟨Nat.le_of_ble_eq_true rfl, Nat.le_of_ble_eq_true rfl⟩ (fun v9 s9_1 h9 => ?_)
  obtain ⟨hv9, hS9⟩ := h9
  rw [hv9, hS9]
  show G C (mW (xy C) ma s) 0 0 4 [(0, .ref (ma 0)), (1, .int (ap)), (2, .int (ln)), (3, .int (fr)), (4, .int (hs)), (5, .int (nd)), (6, .int (ur))] [.int ((isIx (ap) 6))]
  refine g_if_eq (tgt := 34) E dX6_apply_4 (by decide) (fun c_4 => ?_) (fun c_4 => ?_)
  · refine g_iconst (v := 0) E dX6_apply_34 (by decide) ?_
    refine g_istore (L' := [(7, .int (0)), (0, .ref (ma 0)), (1, .int (ap)), (2, .int (ln)), (3, .int (fr)), (4, .int (hs)), (5, .int (nd)), (6, .int (ur))]) E dX6_apply_35 (by decide) rfl ?_
    refine g_iload_n E dX6_apply_37 rfl 4 rfl ?_
    refine g_iconst (v := 0) E dX6_apply_38 (by decide) ?_
    refine g_sipush (v := 4900) E dX6_apply_39 (by decide) ?_
    refine k_invS (n := 3) (rest := []) E (m_X6_isIn (xl C) E.tr (xD C) (xy C) e0 (x := fr) (a := 0) (b := 4900)) gX6_apply_X6_isIn rfl rfl rfl (by decide +kernel) ⟨Nat.le_of_ble_eq_true rfl, Nat.le_of_ble_eq_true rfl⟩ rfl rfl (Nat.le_of_ble_eq_true rfl) dX6_apply_42 ⟨Nat.le_of_ble_eq_true rfl, Nat.le_of_ble_eq_true rfl⟩ (fun v9 s9_42 h9 => ?_)
    obtain ⟨hv9, hS9⟩ := h9
    rw [hv9, hS9]
    show G C (mW (xy C) ma s) 0 0 45 [(7, .int (0)), (0, .ref (ma 0)), (1, .int (ap)), (2, .int (ln)), (3, .int (fr)), (4, .int (hs)), (5, .int (nd)), (6, .int (ur))] [.int ((bI (0 ≤ fr ∧ fr ≤ 4900)))]
    refine g_if_eq (tgt := 71) E dX6_apply_45 (by decide) (fun c_45 => ?_) (fun c_45 => ?_)
    · refine g_iconst (v := 0) E dX6_apply_71 (by decide) ?_
      refine g_istore (L' := [(8, .int (0)), (7, .int (0)), (0, .ref (ma 0)), (1, .int (ap)), (2, .int (ln)), (3, .int (fr)), (4, .int (hs)), (5, .int (nd)), (6, .int (ur))]) E dX6_apply_72 (by decide) rfl ?_
      refine g_aload_n E dX6_apply_74 rfl 2 rfl ?_
      refine g_iload E dX6_apply_75 1 rfl ?_
      refine g_if_ne (tgt := 84) E dX6_apply_77 (by decide) (fun c_77 => ?_) (fun c_77 => ?_)
      · exact absurd c_77 (by decide)
      · refine g_iconst (v := 1) E dX6_apply_80 (by decide) ?_
        refine g_goto (tgt := 107) E dX6_apply_81 (by decide) ?_
        refine k_invV (n := 1) (rest := []) E (m_X6_isFine (xl C) E.tr (xD C) (xy C) e0 (s := s) (x := 1)) gX6_apply_X6_isFine rfl rfl rfl (by decide +kernel) ⟨Nat.le_of_ble_eq_true rfl, Nat.le_of_ble_eq_true rfl⟩ rfl rfl (Nat.le_of_ble_eq_true rfl) dX6_apply_107 ⟨Nat.le_of_ble_eq_true rfl, Nat.le_of_ble_eq_true rfl⟩ (fun v9 s9_107 h9 => ?_)
        obtain ⟨hv9, hS9⟩ := h9
        rw [hv9, hS9]
        rw [show bI ((1 : Int32) = 0) = 0 by decide]
        show G C (mW (xy C) ma (muI s 0 (1))) 0 0 110 [(8, .int (0)), (7, .int (0)), (0, .ref (ma 0)), (1, .int (ap)), (2, .int (ln)), (3, .int (fr)), (4, .int (hs)), (5, .int (nd)), (6, .int (ur))] [.int (0)]
        refine g_if_ne (tgt := 115) E dX6_apply_110 (by decide) (fun c_110 => ?_) (fun c_110 => ?_)
        · exact absurd c_110 (by decide)
        · refine g_iconst (v := 0) E dX6_apply_113 (by decide) ?_
          exact g_iret E hE hr dX6_apply_114 (Nat.le_of_ble_eq_true rfl) (Nat.le_of_ble_eq_true rfl) ⟨(muI s 0 (1)), rfl, Or.inr ⟨1, rfl, rfl, Or.inl ⟨rfl, (fun q => q.1 c_4)⟩⟩⟩
    · refine g_iload E dX6_apply_48 5 rfl ?_
      refine g_iconst (v := 1) E dX6_apply_50 (by decide) ?_
      refine g_bipush (v := 40) E dX6_apply_51 (by decide) ?_
      refine k_invS (n := 3) (rest := []) E (m_X6_isIn (xl C) E.tr (xD C) (xy C) e0 (x := hs) (a := 1) (b := 40)) gX6_apply_X6_isIn rfl rfl rfl (by decide +kernel) ⟨Nat.le_of_ble_eq_true rfl, Nat.le_of_ble_eq_true rfl⟩ rfl rfl (Nat.le_of_ble_eq_true rfl) dX6_apply_53 ⟨Nat.le_of_ble_eq_true rfl, Nat.le_of_ble_eq_true rfl⟩ (fun v9 s9_53 h9 => ?_)
      obtain ⟨hv9, hS9⟩ := h9
      rw [hv9, hS9]
      show G C (mW (xy C) ma s) 0 0 56 [(7, .int (0)), (0, .ref (ma 0)), (1, .int (ap)), (2, .int (ln)), (3, .int (fr)), (4, .int (hs)), (5, .int (nd)), (6, .int (ur))] [.int ((bI (1 ≤ hs ∧ hs ≤ 40)))]
      refine g_if_eq (tgt := 71) E dX6_apply_56 (by decide) (fun c_56 => ?_) (fun c_56 => ?_)
      · refine g_iconst (v := 0) E dX6_apply_71 (by decide) ?_
        refine g_istore (L' := [(8, .int (0)), (7, .int (0)), (0, .ref (ma 0)), (1, .int (ap)), (2, .int (ln)), (3, .int (fr)), (4, .int (hs)), (5, .int (nd)), (6, .int (ur))]) E dX6_apply_72 (by decide) rfl ?_
        refine g_aload_n E dX6_apply_74 rfl 2 rfl ?_
        refine g_iload E dX6_apply_75 1 rfl ?_
        refine g_if_ne (tgt := 84) E dX6_apply_77 (by decide) (fun c_77 => ?_) (fun c_77 => ?_)
        · exact absurd c_77 (by decide)
        · refine g_iconst (v := 1) E dX6_apply_80 (by decide) ?_
          refine g_goto (tgt := 107) E dX6_apply_81 (by decide) ?_
          refine k_invV (n := 1) (rest := []) E (m_X6_isFine (xl C) E.tr (xD C) (xy C) e0 (s := s) (x := 1)) gX6_apply_X6_isFine rfl rfl rfl (by decide +kernel) ⟨Nat.le_of_ble_eq_true rfl, Nat.le_of_ble_eq_true rfl⟩ rfl rfl (Nat.le_of_ble_eq_true rfl) dX6_apply_107 ⟨Nat.le_of_ble_eq_true rfl, Nat.le_of_ble_eq_true rfl⟩ (fun v9 s9_107 h9 => ?_)
          obtain ⟨hv9, hS9⟩ := h9
          rw [hv9, hS9]
          rw [show bI ((1 : Int32) = 0) = 0 by decide]
          show G C (mW (xy C) ma (muI s 0 (1))) 0 0 110 [(8, .int (0)), (7, .int (0)), (0, .ref (ma 0)), (1, .int (ap)), (2, .int (ln)), (3, .int (fr)), (4, .int (hs)), (5, .int (nd)), (6, .int (ur))] [.int (0)]
          refine g_if_ne (tgt := 115) E dX6_apply_110 (by decide) (fun c_110 => ?_) (fun c_110 => ?_)
          · exact absurd c_110 (by decide)
          · refine g_iconst (v := 0) E dX6_apply_113 (by decide) ?_
            exact g_iret E hE hr dX6_apply_114 (Nat.le_of_ble_eq_true rfl) (Nat.le_of_ble_eq_true rfl) ⟨(muI s 0 (1)), rfl, Or.inr ⟨1, rfl, rfl, Or.inl ⟨rfl, (fun q => q.1 c_4)⟩⟩⟩
      · refine g_iload_n E dX6_apply_59 rfl 4 rfl ?_
        refine g_aload_n E dX6_apply_60 rfl 1 rfl ?_
        refine k_get_now (s := s) E (fun _ h => (List.mem_cons_of_mem _ (List.mem_append_right _ h))) (List.mem_cons_of_mem _ (List.mem_append_left _ (List.mem_append_left _ (List.mem_of_getElem? (i := 0) rfl)))) dX6_apply_61 ?_
        refine g_icmp_lt (tgt := 71) E dX6_apply_64 (by decide) (fun c_64 => ?_) (fun c_64 => ?_)
        · refine g_iconst (v := 0) E dX6_apply_71 (by decide) ?_
          refine g_istore (L' := [(8, .int (0)), (7, .int (0)), (0, .ref (ma 0)), (1, .int (ap)), (2, .int (ln)), (3, .int (fr)), (4, .int (hs)), (5, .int (nd)), (6, .int (ur))]) E dX6_apply_72 (by decide) rfl ?_
          refine g_aload_n E dX6_apply_74 rfl 2 rfl ?_
          refine g_iload E dX6_apply_75 1 rfl ?_
          refine g_if_ne (tgt := 84) E dX6_apply_77 (by decide) (fun c_77 => ?_) (fun c_77 => ?_)
          · exact absurd c_77 (by decide)
          · refine g_iconst (v := 1) E dX6_apply_80 (by decide) ?_
            refine g_goto (tgt := 107) E dX6_apply_81 (by decide) ?_
            refine k_invV (n := 1) (rest := []) E (m_X6_isFine (xl C) E.tr (xD C) (xy C) e0 (s := s) (x := 1)) gX6_apply_X6_isFine rfl rfl rfl (by decide +kernel) ⟨Nat.le_of_ble_eq_true rfl, Nat.le_of_ble_eq_true rfl⟩ rfl rfl (Nat.le_of_ble_eq_true rfl) dX6_apply_107 ⟨Nat.le_of_ble_eq_true rfl, Nat.le_of_ble_eq_true rfl⟩ (fun v9 s9_107 h9 => ?_)
            obtain ⟨hv9, hS9⟩ := h9
            rw [hv9, hS9]
            rw [show bI ((1 : Int32) = 0) = 0 by decide]
            show G C (mW (xy C) ma (muI s 0 (1))) 0 0 110 [(8, .int (0)), (7, .int (0)), (0, .ref (ma 0)), (1, .int (ap)), (2, .int (ln)), (3, .int (fr)), (4, .int (hs)), (5, .int (nd)), (6, .int (ur))] [.int (0)]
            refine g_if_ne (tgt := 115) E dX6_apply_110 (by decide) (fun c_110 => ?_) (fun c_110 => ?_)
            · exact absurd c_110 (by decide)
            · refine g_iconst (v := 0) E dX6_apply_113 (by decide) ?_
              exact g_iret E hE hr dX6_apply_114 (Nat.le_of_ble_eq_true rfl) (Nat.le_of_ble_eq_true rfl) ⟨(muI s 0 (1)), rfl, Or.inr ⟨1, rfl, rfl, Or.inl ⟨rfl, (fun q => q.1 c_4)⟩⟩⟩
        · refine g_iconst (v := 1) E dX6_apply_67 (by decide) ?_
          refine g_goto (tgt := 72) E dX6_apply_68 (by decide) ?_
          refine g_istore (L' := [(8, .int (1)), (7, .int (0)), (0, .ref (ma 0)), (1, .int (ap)), (2, .int (ln)), (3, .int (fr)), (4, .int (hs)), (5, .int (nd)), (6, .int (ur))]) E dX6_apply_72 (by decide) rfl ?_
          refine g_aload_n E dX6_apply_74 rfl 2 rfl ?_
          refine g_iload E dX6_apply_75 1 rfl ?_
          refine g_if_ne (tgt := 84) E dX6_apply_77 (by decide) (fun c_77 => ?_) (fun c_77 => ?_)
          · exact absurd c_77 (by decide)
          · refine g_iconst (v := 1) E dX6_apply_80 (by decide) ?_
            refine g_goto (tgt := 107) E dX6_apply_81 (by decide) ?_
            refine k_invV (n := 1) (rest := []) E (m_X6_isFine (xl C) E.tr (xD C) (xy C) e0 (s := s) (x := 1)) gX6_apply_X6_isFine rfl rfl rfl (by decide +kernel) ⟨Nat.le_of_ble_eq_true rfl, Nat.le_of_ble_eq_true rfl⟩ rfl rfl (Nat.le_of_ble_eq_true rfl) dX6_apply_107 ⟨Nat.le_of_ble_eq_true rfl, Nat.le_of_ble_eq_true rfl⟩ (fun v9 s9_107 h9 => ?_)
            obtain ⟨hv9, hS9⟩ := h9
            rw [hv9, hS9]
            rw [show bI ((1 : Int32) = 0) = 0 by decide]
            show G C (mW (xy C) ma (muI s 0 (1))) 0 0 110 [(8, .int (1)), (7, .int (0)), (0, .ref (ma 0)), (1, .int (ap)), (2, .int (ln)), (3, .int (fr)), (4, .int (hs)), (5, .int (nd)), (6, .int (ur))] [.int (0)]
            refine g_if_ne (tgt := 115) E dX6_apply_110 (by decide) (fun c_110 => ?_) (fun c_110 => ?_)
            · exact absurd c_110 (by decide)
            · refine g_iconst (v := 0) E dX6_apply_113 (by decide) ?_
              exact g_iret E hE hr dX6_apply_114 (Nat.le_of_ble_eq_true rfl) (Nat.le_of_ble_eq_true rfl) ⟨(muI s 0 (1)), rfl, Or.inr ⟨1, rfl, rfl, Or.inl ⟨rfl, (fun q => q.1 c_4)⟩⟩⟩
  · refine g_aload_n E dX6_apply_7 rfl 0 rfl ?_
    refine g_iload_n E dX6_apply_8 rfl 2 rfl ?_
    refine k_invV (n := 1) (rest := []) E (m_X6_isLane (xl C) E.tr (xD C) (xy C) e0 hM) gX6_apply_X6_isLane rfl rfl rfl (by decide +kernel) ⟨Nat.le_of_ble_eq_true rfl, Nat.le_of_ble_eq_true rfl⟩ rfl rfl (Nat.le_of_ble_eq_true rfl) dX6_apply_9 ⟨Nat.le_of_ble_eq_true rfl, Nat.le_of_ble_eq_true rfl⟩ (fun v9 s9_9 h9 => ?_)
    obtain ⟨hv9, hS9⟩ := h9
    rw [hv9, hS9]
    show G C (mW (xy C) ma s) 0 0 12 [(0, .ref (ma 0)), (1, .int (ap)), (2, .int (ln)), (3, .int (fr)), (4, .int (hs)), (5, .int (nd)), (6, .int (ur))] [.int ((isIx (ln) M))]
    refine g_if_eq (tgt := 34) E dX6_apply_12 (by decide) (fun c_12 => ?_) (fun c_12 => ?_)
    · refine g_iconst (v := 0) E dX6_apply_34 (by decide) ?_
      refine g_istore (L' := [(7, .int (0)), (0, .ref (ma 0)), (1, .int (ap)), (2, .int (ln)), (3, .int (fr)), (4, .int (hs)), (5, .int (nd)), (6, .int (ur))]) E dX6_apply_35 (by decide) rfl ?_
      refine g_iload_n E dX6_apply_37 rfl 4 rfl ?_
      refine g_iconst (v := 0) E dX6_apply_38 (by decide) ?_
      refine g_sipush (v := 4900) E dX6_apply_39 (by decide) ?_
      refine k_invS (n := 3) (rest := []) E (m_X6_isIn (xl C) E.tr (xD C) (xy C) e0 (x := fr) (a := 0) (b := 4900)) gX6_apply_X6_isIn rfl rfl rfl (by decide +kernel) ⟨Nat.le_of_ble_eq_true rfl, Nat.le_of_ble_eq_true rfl⟩ rfl rfl (Nat.le_of_ble_eq_true rfl) dX6_apply_42 ⟨Nat.le_of_ble_eq_true rfl, Nat.le_of_ble_eq_true rfl⟩ (fun v9 s9_42 h9 => ?_)
      obtain ⟨hv9, hS9⟩ := h9
      rw [hv9, hS9]
      show G C (mW (xy C) ma s) 0 0 45 [(7, .int (0)), (0, .ref (ma 0)), (1, .int (ap)), (2, .int (ln)), (3, .int (fr)), (4, .int (hs)), (5, .int (nd)), (6, .int (ur))] [.int ((bI (0 ≤ fr ∧ fr ≤ 4900)))]
      refine g_if_eq (tgt := 71) E dX6_apply_45 (by decide) (fun c_45 => ?_) (fun c_45 => ?_)
      · refine g_iconst (v := 0) E dX6_apply_71 (by decide) ?_
        refine g_istore (L' := [(8, .int (0)), (7, .int (0)), (0, .ref (ma 0)), (1, .int (ap)), (2, .int (ln)), (3, .int (fr)), (4, .int (hs)), (5, .int (nd)), (6, .int (ur))]) E dX6_apply_72 (by decide) rfl ?_
        refine g_aload_n E dX6_apply_74 rfl 2 rfl ?_
        refine g_iload E dX6_apply_75 1 rfl ?_
        refine g_if_ne (tgt := 84) E dX6_apply_77 (by decide) (fun c_77 => ?_) (fun c_77 => ?_)
        · exact absurd c_77 (by decide)
        · refine g_iconst (v := 1) E dX6_apply_80 (by decide) ?_
          refine g_goto (tgt := 107) E dX6_apply_81 (by decide) ?_
          refine k_invV (n := 1) (rest := []) E (m_X6_isFine (xl C) E.tr (xD C) (xy C) e0 (s := s) (x := 1)) gX6_apply_X6_isFine rfl rfl rfl (by decide +kernel) ⟨Nat.le_of_ble_eq_true rfl, Nat.le_of_ble_eq_true rfl⟩ rfl rfl (Nat.le_of_ble_eq_true rfl) dX6_apply_107 ⟨Nat.le_of_ble_eq_true rfl, Nat.le_of_ble_eq_true rfl⟩ (fun v9 s9_107 h9 => ?_)
          obtain ⟨hv9, hS9⟩ := h9
          rw [hv9, hS9]
          rw [show bI ((1 : Int32) = 0) = 0 by decide]
          show G C (mW (xy C) ma (muI s 0 (1))) 0 0 110 [(8, .int (0)), (7, .int (0)), (0, .ref (ma 0)), (1, .int (ap)), (2, .int (ln)), (3, .int (fr)), (4, .int (hs)), (5, .int (nd)), (6, .int (ur))] [.int (0)]
          refine g_if_ne (tgt := 115) E dX6_apply_110 (by decide) (fun c_110 => ?_) (fun c_110 => ?_)
          · exact absurd c_110 (by decide)
          · refine g_iconst (v := 0) E dX6_apply_113 (by decide) ?_
            exact g_iret E hE hr dX6_apply_114 (Nat.le_of_ble_eq_true rfl) (Nat.le_of_ble_eq_true rfl) ⟨(muI s 0 (1)), rfl, Or.inr ⟨1, rfl, rfl, Or.inl ⟨rfl, (fun q => q.2.1 c_12)⟩⟩⟩
      · refine g_iload E dX6_apply_48 5 rfl ?_
        refine g_iconst (v := 1) E dX6_apply_50 (by decide) ?_
        refine g_bipush (v := 40) E dX6_apply_51 (by decide) ?_
        refine k_invS (n := 3) (rest := []) E (m_X6_isIn (xl C) E.tr (xD C) (xy C) e0 (x := hs) (a := 1) (b := 40)) gX6_apply_X6_isIn rfl rfl rfl (by decide +kernel) ⟨Nat.le_of_ble_eq_true rfl, Nat.le_of_ble_eq_true rfl⟩ rfl rfl (Nat.le_of_ble_eq_true rfl) dX6_apply_53 ⟨Nat.le_of_ble_eq_true rfl, Nat.le_of_ble_eq_true rfl⟩ (fun v9 s9_53 h9 => ?_)
        obtain ⟨hv9, hS9⟩ := h9
        rw [hv9, hS9]
        show G C (mW (xy C) ma s) 0 0 56 [(7, .int (0)), (0, .ref (ma 0)), (1, .int (ap)), (2, .int (ln)), (3, .int (fr)), (4, .int (hs)), (5, .int (nd)), (6, .int (ur))] [.int ((bI (1 ≤ hs ∧ hs ≤ 40)))]
        refine g_if_eq (tgt := 71) E dX6_apply_56 (by decide) (fun c_56 => ?_) (fun c_56 => ?_)
        · refine g_iconst (v := 0) E dX6_apply_71 (by decide) ?_
          refine g_istore (L' := [(8, .int (0)), (7, .int (0)), (0, .ref (ma 0)), (1, .int (ap)), (2, .int (ln)), (3, .int (fr)), (4, .int (hs)), (5, .int (nd)), (6, .int (ur))]) E dX6_apply_72 (by decide) rfl ?_
          refine g_aload_n E dX6_apply_74 rfl 2 rfl ?_
          refine g_iload E dX6_apply_75 1 rfl ?_
          refine g_if_ne (tgt := 84) E dX6_apply_77 (by decide) (fun c_77 => ?_) (fun c_77 => ?_)
          · exact absurd c_77 (by decide)
          · refine g_iconst (v := 1) E dX6_apply_80 (by decide) ?_
            refine g_goto (tgt := 107) E dX6_apply_81 (by decide) ?_
            refine k_invV (n := 1) (rest := []) E (m_X6_isFine (xl C) E.tr (xD C) (xy C) e0 (s := s) (x := 1)) gX6_apply_X6_isFine rfl rfl rfl (by decide +kernel) ⟨Nat.le_of_ble_eq_true rfl, Nat.le_of_ble_eq_true rfl⟩ rfl rfl (Nat.le_of_ble_eq_true rfl) dX6_apply_107 ⟨Nat.le_of_ble_eq_true rfl, Nat.le_of_ble_eq_true rfl⟩ (fun v9 s9_107 h9 => ?_)
            obtain ⟨hv9, hS9⟩ := h9
            rw [hv9, hS9]
            rw [show bI ((1 : Int32) = 0) = 0 by decide]
            show G C (mW (xy C) ma (muI s 0 (1))) 0 0 110 [(8, .int (0)), (7, .int (0)), (0, .ref (ma 0)), (1, .int (ap)), (2, .int (ln)), (3, .int (fr)), (4, .int (hs)), (5, .int (nd)), (6, .int (ur))] [.int (0)]
            refine g_if_ne (tgt := 115) E dX6_apply_110 (by decide) (fun c_110 => ?_) (fun c_110 => ?_)
            · exact absurd c_110 (by decide)
            · refine g_iconst (v := 0) E dX6_apply_113 (by decide) ?_
              exact g_iret E hE hr dX6_apply_114 (Nat.le_of_ble_eq_true rfl) (Nat.le_of_ble_eq_true rfl) ⟨(muI s 0 (1)), rfl, Or.inr ⟨1, rfl, rfl, Or.inl ⟨rfl, (fun q => q.2.1 c_12)⟩⟩⟩
        · refine g_iload_n E dX6_apply_59 rfl 4 rfl ?_
          refine g_aload_n E dX6_apply_60 rfl 1 rfl ?_
          refine k_get_now (s := s) E (fun _ h => (List.mem_cons_of_mem _ (List.mem_append_right _ h))) (List.mem_cons_of_mem _ (List.mem_append_left _ (List.mem_append_left _ (List.mem_of_getElem? (i := 0) rfl)))) dX6_apply_61 ?_
          refine g_icmp_lt (tgt := 71) E dX6_apply_64 (by decide) (fun c_64 => ?_) (fun c_64 => ?_)
          · refine g_iconst (v := 0) E dX6_apply_71 (by decide) ?_
            refine g_istore (L' := [(8, .int (0)), (7, .int (0)), (0, .ref (ma 0)), (1, .int (ap)), (2, .int (ln)), (3, .int (fr)), (4, .int (hs)), (5, .int (nd)), (6, .int (ur))]) E dX6_apply_72 (by decide) rfl ?_
            refine g_aload_n E dX6_apply_74 rfl 2 rfl ?_
            refine g_iload E dX6_apply_75 1 rfl ?_
            refine g_if_ne (tgt := 84) E dX6_apply_77 (by decide) (fun c_77 => ?_) (fun c_77 => ?_)
            · exact absurd c_77 (by decide)
            · refine g_iconst (v := 1) E dX6_apply_80 (by decide) ?_
              refine g_goto (tgt := 107) E dX6_apply_81 (by decide) ?_
              refine k_invV (n := 1) (rest := []) E (m_X6_isFine (xl C) E.tr (xD C) (xy C) e0 (s := s) (x := 1)) gX6_apply_X6_isFine rfl rfl rfl (by decide +kernel) ⟨Nat.le_of_ble_eq_true rfl, Nat.le_of_ble_eq_true rfl⟩ rfl rfl (Nat.le_of_ble_eq_true rfl) dX6_apply_107 ⟨Nat.le_of_ble_eq_true rfl, Nat.le_of_ble_eq_true rfl⟩ (fun v9 s9_107 h9 => ?_)
              obtain ⟨hv9, hS9⟩ := h9
              rw [hv9, hS9]
              rw [show bI ((1 : Int32) = 0) = 0 by decide]
              show G C (mW (xy C) ma (muI s 0 (1))) 0 0 110 [(8, .int (0)), (7, .int (0)), (0, .ref (ma 0)), (1, .int (ap)), (2, .int (ln)), (3, .int (fr)), (4, .int (hs)), (5, .int (nd)), (6, .int (ur))] [.int (0)]
              refine g_if_ne (tgt := 115) E dX6_apply_110 (by decide) (fun c_110 => ?_) (fun c_110 => ?_)
              · exact absurd c_110 (by decide)
              · refine g_iconst (v := 0) E dX6_apply_113 (by decide) ?_
                exact g_iret E hE hr dX6_apply_114 (Nat.le_of_ble_eq_true rfl) (Nat.le_of_ble_eq_true rfl) ⟨(muI s 0 (1)), rfl, Or.inr ⟨1, rfl, rfl, Or.inl ⟨rfl, (fun q => q.2.1 c_12)⟩⟩⟩
          · refine g_iconst (v := 1) E dX6_apply_67 (by decide) ?_
            refine g_goto (tgt := 72) E dX6_apply_68 (by decide) ?_
            refine g_istore (L' := [(8, .int (1)), (7, .int (0)), (0, .ref (ma 0)), (1, .int (ap)), (2, .int (ln)), (3, .int (fr)), (4, .int (hs)), (5, .int (nd)), (6, .int (ur))]) E dX6_apply_72 (by decide) rfl ?_
            refine g_aload_n E dX6_apply_74 rfl 2 rfl ?_
            refine g_iload E dX6_apply_75 1 rfl ?_
            refine g_if_ne (tgt := 84) E dX6_apply_77 (by decide) (fun c_77 => ?_) (fun c_77 => ?_)
            · exact absurd c_77 (by decide)
            · refine g_iconst (v := 1) E dX6_apply_80 (by decide) ?_
              refine g_goto (tgt := 107) E dX6_apply_81 (by decide) ?_
              refine k_invV (n := 1) (rest := []) E (m_X6_isFine (xl C) E.tr (xD C) (xy C) e0 (s := s) (x := 1)) gX6_apply_X6_isFine rfl rfl rfl (by decide +kernel) ⟨Nat.le_of_ble_eq_true rfl, Nat.le_of_ble_eq_true rfl⟩ rfl rfl (Nat.le_of_ble_eq_true rfl) dX6_apply_107 ⟨Nat.le_of_ble_eq_true rfl, Nat.le_of_ble_eq_true rfl⟩ (fun v9 s9_107 h9 => ?_)
              obtain ⟨hv9, hS9⟩ := h9
              rw [hv9, hS9]
              rw [show bI ((1 : Int32) = 0) = 0 by decide]
              show G C (mW (xy C) ma (muI s 0 (1))) 0 0 110 [(8, .int (1)), (7, .int (0)), (0, .ref (ma 0)), (1, .int (ap)), (2, .int (ln)), (3, .int (fr)), (4, .int (hs)), (5, .int (nd)), (6, .int (ur))] [.int (0)]
              refine g_if_ne (tgt := 115) E dX6_apply_110 (by decide) (fun c_110 => ?_) (fun c_110 => ?_)
              · exact absurd c_110 (by decide)
              · refine g_iconst (v := 0) E dX6_apply_113 (by decide) ?_
                exact g_iret E hE hr dX6_apply_114 (Nat.le_of_ble_eq_true rfl) (Nat.le_of_ble_eq_true rfl) ⟨(muI s 0 (1)), rfl, Or.inr ⟨1, rfl, rfl, Or.inl ⟨rfl, (fun q => q.2.1 c_12)⟩⟩⟩
    · refine g_iload E dX6_apply_15 5 rfl ?_
      refine g_iconst (v := (-1)) E dX6_apply_17 (by decide) ?_
      refine g_icmp_eq (tgt := 30) E dX6_apply_18 (by decide) (fun c_18 => ?_) (fun c_18 => ?_)
      · refine g_iconst (v := 1) E dX6_apply_30 (by decide) ?_
        refine g_goto (tgt := 35) E dX6_apply_31 (by decide) ?_
        refine g_istore (L' := [(7, .int (1)), (0, .ref (ma 0)), (1, .int (ap)), (2, .int (ln)), (3, .int (fr)), (4, .int (hs)), (5, .int (nd)), (6, .int (ur))]) E dX6_apply_35 (by decide) rfl ?_
        refine g_iload_n E dX6_apply_37 rfl 4 rfl ?_
        refine g_iconst (v := 0) E dX6_apply_38 (by decide) ?_
        refine g_sipush (v := 4900) E dX6_apply_39 (by decide) ?_
        refine k_invS (n := 3) (rest := []) E (m_X6_isIn (xl C) E.tr (xD C) (xy C) e0 (x := fr) (a := 0) (b := 4900)) gX6_apply_X6_isIn rfl rfl rfl (by decide +kernel) ⟨Nat.le_of_ble_eq_true rfl, Nat.le_of_ble_eq_true rfl⟩ rfl rfl (Nat.le_of_ble_eq_true rfl) dX6_apply_42 ⟨Nat.le_of_ble_eq_true rfl, Nat.le_of_ble_eq_true rfl⟩ (fun v9 s9_42 h9 => ?_)
        obtain ⟨hv9, hS9⟩ := h9
        rw [hv9, hS9]
        show G C (mW (xy C) ma s) 0 0 45 [(7, .int (1)), (0, .ref (ma 0)), (1, .int (ap)), (2, .int (ln)), (3, .int (fr)), (4, .int (hs)), (5, .int (nd)), (6, .int (ur))] [.int ((bI (0 ≤ fr ∧ fr ≤ 4900)))]
        refine g_if_eq (tgt := 71) E dX6_apply_45 (by decide) (fun c_45 => ?_) (fun c_45 => ?_)
        · refine g_iconst (v := 0) E dX6_apply_71 (by decide) ?_
          refine g_istore (L' := [(8, .int (0)), (7, .int (1)), (0, .ref (ma 0)), (1, .int (ap)), (2, .int (ln)), (3, .int (fr)), (4, .int (hs)), (5, .int (nd)), (6, .int (ur))]) E dX6_apply_72 (by decide) rfl ?_
          refine g_aload_n E dX6_apply_74 rfl 2 rfl ?_
          refine g_iload E dX6_apply_75 1 rfl ?_
          refine g_if_ne (tgt := 84) E dX6_apply_77 (by decide) (fun c_77 => ?_) (fun c_77 => ?_)
          · refine g_iload E dX6_apply_84 0 rfl ?_
            refine g_if_ne (tgt := 93) E dX6_apply_86 (by decide) (fun c_86 => ?_) (fun c_86 => ?_)
            · exact absurd c_86 (by decide)
            · refine g_iconst (v := 2) E dX6_apply_89 (by decide) ?_
              refine g_goto (tgt := 107) E dX6_apply_90 (by decide) ?_
              refine k_invV (n := 1) (rest := []) E (m_X6_isFine (xl C) E.tr (xD C) (xy C) e0 (s := s) (x := 2)) gX6_apply_X6_isFine rfl rfl rfl (by decide +kernel) ⟨Nat.le_of_ble_eq_true rfl, Nat.le_of_ble_eq_true rfl⟩ rfl rfl (Nat.le_of_ble_eq_true rfl) dX6_apply_107 ⟨Nat.le_of_ble_eq_true rfl, Nat.le_of_ble_eq_true rfl⟩ (fun v9 s9_107 h9 => ?_)
              obtain ⟨hv9, hS9⟩ := h9
              rw [hv9, hS9]
              rw [show bI ((2 : Int32) = 0) = 0 by decide]
              show G C (mW (xy C) ma (muI s 0 (2))) 0 0 110 [(8, .int (0)), (7, .int (1)), (0, .ref (ma 0)), (1, .int (ap)), (2, .int (ln)), (3, .int (fr)), (4, .int (hs)), (5, .int (nd)), (6, .int (ur))] [.int (0)]
              refine g_if_ne (tgt := 115) E dX6_apply_110 (by decide) (fun c_110 => ?_) (fun c_110 => ?_)
              · exact absurd c_110 (by decide)
              · refine g_iconst (v := 0) E dX6_apply_113 (by decide) ?_
                exact g_iret E hE hr dX6_apply_114 (Nat.le_of_ble_eq_true rfl) (Nat.le_of_ble_eq_true rfl) ⟨(muI s 0 (2)), rfl, Or.inr ⟨2, rfl, rfl, Or.inr (Or.inl ⟨rfl, ⟨c_4, c_12, Or.inl c_18⟩, (fun q => bI_eq0.mp c_45 q.1)⟩)⟩⟩
          · exact absurd c_77 (by decide)
        · refine g_iload E dX6_apply_48 5 rfl ?_
          refine g_iconst (v := 1) E dX6_apply_50 (by decide) ?_
          refine g_bipush (v := 40) E dX6_apply_51 (by decide) ?_
          refine k_invS (n := 3) (rest := []) E (m_X6_isIn (xl C) E.tr (xD C) (xy C) e0 (x := hs) (a := 1) (b := 40)) gX6_apply_X6_isIn rfl rfl rfl (by decide +kernel) ⟨Nat.le_of_ble_eq_true rfl, Nat.le_of_ble_eq_true rfl⟩ rfl rfl (Nat.le_of_ble_eq_true rfl) dX6_apply_53 ⟨Nat.le_of_ble_eq_true rfl, Nat.le_of_ble_eq_true rfl⟩ (fun v9 s9_53 h9 => ?_)
          obtain ⟨hv9, hS9⟩ := h9
          rw [hv9, hS9]
          show G C (mW (xy C) ma s) 0 0 56 [(7, .int (1)), (0, .ref (ma 0)), (1, .int (ap)), (2, .int (ln)), (3, .int (fr)), (4, .int (hs)), (5, .int (nd)), (6, .int (ur))] [.int ((bI (1 ≤ hs ∧ hs ≤ 40)))]
          refine g_if_eq (tgt := 71) E dX6_apply_56 (by decide) (fun c_56 => ?_) (fun c_56 => ?_)
          · refine g_iconst (v := 0) E dX6_apply_71 (by decide) ?_
            refine g_istore (L' := [(8, .int (0)), (7, .int (1)), (0, .ref (ma 0)), (1, .int (ap)), (2, .int (ln)), (3, .int (fr)), (4, .int (hs)), (5, .int (nd)), (6, .int (ur))]) E dX6_apply_72 (by decide) rfl ?_
            refine g_aload_n E dX6_apply_74 rfl 2 rfl ?_
            refine g_iload E dX6_apply_75 1 rfl ?_
            refine g_if_ne (tgt := 84) E dX6_apply_77 (by decide) (fun c_77 => ?_) (fun c_77 => ?_)
            · refine g_iload E dX6_apply_84 0 rfl ?_
              refine g_if_ne (tgt := 93) E dX6_apply_86 (by decide) (fun c_86 => ?_) (fun c_86 => ?_)
              · exact absurd c_86 (by decide)
              · refine g_iconst (v := 2) E dX6_apply_89 (by decide) ?_
                refine g_goto (tgt := 107) E dX6_apply_90 (by decide) ?_
                refine k_invV (n := 1) (rest := []) E (m_X6_isFine (xl C) E.tr (xD C) (xy C) e0 (s := s) (x := 2)) gX6_apply_X6_isFine rfl rfl rfl (by decide +kernel) ⟨Nat.le_of_ble_eq_true rfl, Nat.le_of_ble_eq_true rfl⟩ rfl rfl (Nat.le_of_ble_eq_true rfl) dX6_apply_107 ⟨Nat.le_of_ble_eq_true rfl, Nat.le_of_ble_eq_true rfl⟩ (fun v9 s9_107 h9 => ?_)
                obtain ⟨hv9, hS9⟩ := h9
                rw [hv9, hS9]
                rw [show bI ((2 : Int32) = 0) = 0 by decide]
                show G C (mW (xy C) ma (muI s 0 (2))) 0 0 110 [(8, .int (0)), (7, .int (1)), (0, .ref (ma 0)), (1, .int (ap)), (2, .int (ln)), (3, .int (fr)), (4, .int (hs)), (5, .int (nd)), (6, .int (ur))] [.int (0)]
                refine g_if_ne (tgt := 115) E dX6_apply_110 (by decide) (fun c_110 => ?_) (fun c_110 => ?_)
                · exact absurd c_110 (by decide)
                · refine g_iconst (v := 0) E dX6_apply_113 (by decide) ?_
                  exact g_iret E hE hr dX6_apply_114 (Nat.le_of_ble_eq_true rfl) (Nat.le_of_ble_eq_true rfl) ⟨(muI s 0 (2)), rfl, Or.inr ⟨2, rfl, rfl, Or.inr (Or.inl ⟨rfl, ⟨c_4, c_12, Or.inl c_18⟩, (fun q => bI_eq0.mp c_56 q.2.1)⟩)⟩⟩
            · exact absurd c_77 (by decide)
          · refine g_iload_n E dX6_apply_59 rfl 4 rfl ?_
            refine g_aload_n E dX6_apply_60 rfl 1 rfl ?_
            refine k_get_now (s := s) E (fun _ h => (List.mem_cons_of_mem _ (List.mem_append_right _ h))) (List.mem_cons_of_mem _ (List.mem_append_left _ (List.mem_append_left _ (List.mem_of_getElem? (i := 0) rfl)))) dX6_apply_61 ?_
            refine g_icmp_lt (tgt := 71) E dX6_apply_64 (by decide) (fun c_64 => ?_) (fun c_64 => ?_)
            · refine g_iconst (v := 0) E dX6_apply_71 (by decide) ?_
              refine g_istore (L' := [(8, .int (0)), (7, .int (1)), (0, .ref (ma 0)), (1, .int (ap)), (2, .int (ln)), (3, .int (fr)), (4, .int (hs)), (5, .int (nd)), (6, .int (ur))]) E dX6_apply_72 (by decide) rfl ?_
              refine g_aload_n E dX6_apply_74 rfl 2 rfl ?_
              refine g_iload E dX6_apply_75 1 rfl ?_
              refine g_if_ne (tgt := 84) E dX6_apply_77 (by decide) (fun c_77 => ?_) (fun c_77 => ?_)
              · refine g_iload E dX6_apply_84 0 rfl ?_
                refine g_if_ne (tgt := 93) E dX6_apply_86 (by decide) (fun c_86 => ?_) (fun c_86 => ?_)
                · exact absurd c_86 (by decide)
                · refine g_iconst (v := 2) E dX6_apply_89 (by decide) ?_
                  refine g_goto (tgt := 107) E dX6_apply_90 (by decide) ?_
                  refine k_invV (n := 1) (rest := []) E (m_X6_isFine (xl C) E.tr (xD C) (xy C) e0 (s := s) (x := 2)) gX6_apply_X6_isFine rfl rfl rfl (by decide +kernel) ⟨Nat.le_of_ble_eq_true rfl, Nat.le_of_ble_eq_true rfl⟩ rfl rfl (Nat.le_of_ble_eq_true rfl) dX6_apply_107 ⟨Nat.le_of_ble_eq_true rfl, Nat.le_of_ble_eq_true rfl⟩ (fun v9 s9_107 h9 => ?_)
                  obtain ⟨hv9, hS9⟩ := h9
                  rw [hv9, hS9]
                  rw [show bI ((2 : Int32) = 0) = 0 by decide]
                  show G C (mW (xy C) ma (muI s 0 (2))) 0 0 110 [(8, .int (0)), (7, .int (1)), (0, .ref (ma 0)), (1, .int (ap)), (2, .int (ln)), (3, .int (fr)), (4, .int (hs)), (5, .int (nd)), (6, .int (ur))] [.int (0)]
                  refine g_if_ne (tgt := 115) E dX6_apply_110 (by decide) (fun c_110 => ?_) (fun c_110 => ?_)
                  · exact absurd c_110 (by decide)
                  · refine g_iconst (v := 0) E dX6_apply_113 (by decide) ?_
                    exact g_iret E hE hr dX6_apply_114 (Nat.le_of_ble_eq_true rfl) (Nat.le_of_ble_eq_true rfl) ⟨(muI s 0 (2)), rfl, Or.inr ⟨2, rfl, rfl, Or.inr (Or.inl ⟨rfl, ⟨c_4, c_12, Or.inl c_18⟩, (fun q => Int32.not_lt.mpr q.2.2 c_64)⟩)⟩⟩
              · exact absurd c_77 (by decide)
            · refine g_iconst (v := 1) E dX6_apply_67 (by decide) ?_
              refine g_goto (tgt := 72) E dX6_apply_68 (by decide) ?_
              refine g_istore (L' := [(8, .int (1)), (7, .int (1)), (0, .ref (ma 0)), (1, .int (ap)), (2, .int (ln)), (3, .int (fr)), (4, .int (hs)), (5, .int (nd)), (6, .int (ur))]) E dX6_apply_72 (by decide) rfl ?_
              refine g_aload_n E dX6_apply_74 rfl 2 rfl ?_
              refine g_iload E dX6_apply_75 1 rfl ?_
              refine g_if_ne (tgt := 84) E dX6_apply_77 (by decide) (fun c_77 => ?_) (fun c_77 => ?_)
              · refine g_iload E dX6_apply_84 0 rfl ?_
                refine g_if_ne (tgt := 93) E dX6_apply_86 (by decide) (fun c_86 => ?_) (fun c_86 => ?_)
                · refine g_aload_n E dX6_apply_93 rfl 2 rfl ?_
                  refine k_get_permits (s := s) E (fun _ h => (List.mem_cons_of_mem _ (List.mem_append_right _ h))) (List.mem_cons_of_mem _ (List.mem_append_left _ (List.mem_append_left _ (List.mem_of_getElem? (i := 1) rfl)))) dX6_apply_94 ?_
                  rw [show mi s 21 = nI np from hp0]
                  show G C (mW (xy C) ma s) 0 0 97 [(8, .int (1)), (7, .int (1)), (0, .ref (ma 0)), (1, .int (ap)), (2, .int (ln)), (3, .int (fr)), (4, .int (hs)), (5, .int (nd)), (6, .int (ur))] [.int (nI np), .ref (ma 0)]
                  refine g_bipush (v := 40) E dX6_apply_97 (by decide) ?_
                  refine g_icmp_ne (tgt := 106) E dX6_apply_99 (by decide) (fun c_99 => ?_) (fun c_99 => ?_)
                  · refine g_iconst (v := 0) E dX6_apply_106 (by decide) ?_
                    refine k_invV (n := 1) (rest := []) E (m_X6_isFine (xl C) E.tr (xD C) (xy C) e0 (s := s) (x := 0)) gX6_apply_X6_isFine rfl rfl rfl (by decide +kernel) ⟨Nat.le_of_ble_eq_true rfl, Nat.le_of_ble_eq_true rfl⟩ rfl rfl (Nat.le_of_ble_eq_true rfl) dX6_apply_107 ⟨Nat.le_of_ble_eq_true rfl, Nat.le_of_ble_eq_true rfl⟩ (fun v9 s9_107 h9 => ?_)
                    obtain ⟨hv9, hS9⟩ := h9
                    rw [hv9, hS9]
                    rw [show bI ((0 : Int32) = 0) = 1 by decide]
                    show G C (mW (xy C) ma (muI s 0 (0))) 0 0 110 [(8, .int (1)), (7, .int (1)), (0, .ref (ma 0)), (1, .int (ap)), (2, .int (ln)), (3, .int (fr)), (4, .int (hs)), (5, .int (nd)), (6, .int (ur))] [.int (1)]
                    refine g_if_ne (tgt := 115) E dX6_apply_110 (by decide) (fun c_110 => ?_) (fun c_110 => ?_)
                    · have hnp : np < 40 := by have : np ≠ 40 := fun e => c_99 (congrArg nI e); omega
                      obtain ⟨a, ha6, hxa⟩ := isIx_t (by omega) c_4
                      subst hxa
                      obtain ⟨ll, hll, hxl⟩ := isIx_t (by omega) c_12
                      subst hxl
                      subst c_18
                      show G C (mW (xy C) ma (muI s 0 (0))) 0 0 115 [(8, .int (1)), (7, .int (1)), (0, .ref (ma 0)), (1, .int (nI a)), (2, .int (nI ll)), (3, .int (fr)), (4, .int (hs)), (5, .int ((-1))), (6, .int (ur))] []
                      refine g_aload_n E dX6_apply_115 rfl 2 rfl ?_
                      refine k_get_permits (s := (muI s 0 (0))) E (fun _ h => (List.mem_cons_of_mem _ (List.mem_append_right _ h))) (List.mem_cons_of_mem _ (List.mem_append_left _ (List.mem_append_left _ (List.mem_of_getElem? (i := 1) rfl)))) dX6_apply_116 ?_
                      rw [show mi (muI s 0 (0)) 21 = nI np from hp0]
                      show G C (mW (xy C) ma (muI s 0 (0))) 0 0 119 [(8, .int (1)), (7, .int (1)), (0, .ref (ma 0)), (1, .int (nI a)), (2, .int (nI ll)), (3, .int (fr)), (4, .int (hs)), (5, .int ((-1))), (6, .int (ur))] [.int (nI np)]
                      refine g_istore (L' := [(9, .int (nI np)), (8, .int (1)), (7, .int (1)), (0, .ref (ma 0)), (1, .int (nI a)), (2, .int (nI ll)), (3, .int (fr)), (4, .int (hs)), (5, .int ((-1))), (6, .int (ur))]) E dX6_apply_119 (by decide) rfl ?_
                      refine g_iload_n E dX6_apply_121 rfl 6 rfl ?_
                      refine g_iload E dX6_apply_122 7 rfl ?_
                      refine g_iadd E dX6_apply_124 ?_
                      refine g_istore (L' := [(10, .int ((fr + hs))), (9, .int (nI np)), (8, .int (1)), (7, .int (1)), (0, .ref (ma 0)), (1, .int (nI a)), (2, .int (nI ll)), (3, .int (fr)), (4, .int (hs)), (5, .int ((-1))), (6, .int (ur))]) E dX6_apply_125 (by decide) rfl ?_
                      refine g_aload_n E dX6_apply_127 rfl 4 rfl ?_
                      refine g_iload_n E dX6_apply_128 rfl 5 rfl ?_
                      refine g_iload_n E dX6_apply_129 rfl 6 rfl ?_
                      refine g_iload_n E dX6_apply_130 rfl 7 rfl ?_
                      refine g_iload E dX6_apply_131 0 rfl ?_
                      refine g_iload E dX6_apply_133 9 rfl ?_
                      refine g_iload E dX6_apply_135 10 rfl ?_
                      refine k_invV (n := 6) (rest := []) E (m_X6_whyNot_N (xl C) E.tr (xD C) (xy C) e0 (s := (muI s 0 (0))) (wh := a) (ln := nI ll) (a := fr) (b := (fr + hs)) (ur := ur) hp0 hp1 hop ha6) gX6_apply_X6_whyNot rfl rfl rfl (by decide +kernel) ⟨Nat.le_of_ble_eq_true rfl, Nat.le_of_ble_eq_true rfl⟩ rfl rfl (Nat.le_of_ble_eq_true rfl) dX6_apply_137 ⟨Nat.le_of_ble_eq_true rfl, Nat.le_of_ble_eq_true rfl⟩ (fun v9 s9_137 h9 => ?_)
                      obtain ⟨w, hv9, hW, hS9⟩ := h9
                      rw [hv9, hS9]
                      show G C (mW (xy C) ma (muI s 0 (0))) 0 0 140 [(10, .int ((fr + hs))), (9, .int (nI np)), (8, .int (1)), (7, .int (1)), (0, .ref (ma 0)), (1, .int (nI a)), (2, .int (nI ll)), (3, .int (fr)), (4, .int (hs)), (5, .int ((-1))), (6, .int (ur))] [.int (w)]
                      refine g_istore (L' := [(11, .int (w)), (10, .int ((fr + hs))), (9, .int (nI np)), (8, .int (1)), (7, .int (1)), (0, .ref (ma 0)), (1, .int (nI a)), (2, .int (nI ll)), (3, .int (fr)), (4, .int (hs)), (5, .int ((-1))), (6, .int (ur))]) E dX6_apply_140 (by decide) rfl ?_
                      refine g_iload E dX6_apply_142 0 rfl ?_
                      refine g_iconst (v := (-1)) E dX6_apply_144 (by decide) ?_
                      refine g_icmp_ne (tgt := 153) E dX6_apply_145 (by decide) (fun c_145 => ?_) (fun c_145 => ?_)
                      · refine g_iconst (v := (-1)) E dX6_apply_153 (by decide) ?_
                        refine g_goto (tgt := 165) E dX6_apply_154 (by decide) ?_
                        refine g_istore (L' := [(12, .int ((-1))), (11, .int (w)), (10, .int ((fr + hs))), (9, .int (nI np)), (8, .int (1)), (7, .int (1)), (0, .ref (ma 0)), (1, .int (nI a)), (2, .int (nI ll)), (3, .int (fr)), (4, .int (hs)), (5, .int ((-1))), (6, .int (ur))]) E dX6_apply_165 (by decide) rfl ?_
                        refine g_iload E dX6_apply_167 1 rfl ?_
                        refine g_iconst (v := (-1)) E dX6_apply_169 (by decide) ?_
                        refine g_icmp_ne (tgt := 215) E dX6_apply_170 (by decide) (fun c_170 => ?_) (fun c_170 => ?_)
                        · refine g_iload E dX6_apply_215 1 rfl ?_
                          refine g_iconst (v := (-1)) E dX6_apply_217 (by decide) ?_
                          refine g_icmp_ne (tgt := 258) E dX6_apply_218 (by decide) (fun c_218 => ?_) (fun c_218 => ?_)
                          · refine g_aload_n E dX6_apply_258 rfl 6 rfl ?_
                            refine k_get_applicant (s := (muI s 0 (0))) E (fun _ h => (List.mem_cons_of_mem _ (List.mem_append_right _ h))) (List.mem_cons_of_mem _ (List.mem_append_left _ (List.mem_append_left _ (List.mem_of_getElem? (i := 5) rfl)))) dX6_apply_259 ?_
                            refine g_iload E dX6_apply_262 3 rfl ?_
                            refine g_iload_n E dX6_apply_264 rfl 7 rfl ?_
                            refine k_ast_applicant (s := (muI s 0 (0))) E np rfl (by omega) dX6_apply_265 ?_
                            refine g_aload_n E dX6_apply_266 rfl 6 rfl ?_
                            refine k_get_lane (s := (muR (muI s 0 (0)) 11 np (nI a))) E (fun _ h => (List.mem_cons_of_mem _ (List.mem_append_right _ h))) (List.mem_cons_of_mem _ (List.mem_append_left _ (List.mem_append_left _ (List.mem_of_getElem? (i := 6) rfl)))) dX6_apply_267 ?_
                            refine g_iload E dX6_apply_270 3 rfl ?_
                            refine g_iload_n E dX6_apply_272 rfl 8 rfl ?_
                            refine k_ast_lane (s := (muR (muI s 0 (0)) 11 np (nI a))) E np rfl (by omega) dX6_apply_273 ?_
                            refine g_aload_n E dX6_apply_274 rfl 6 rfl ?_
                            refine k_get_from (s := (muR (muR (muI s 0 (0)) 11 np (nI a)) 12 np (nI ll))) E (fun _ h => (List.mem_cons_of_mem _ (List.mem_append_right _ h))) (List.mem_cons_of_mem _ (List.mem_append_left _ (List.mem_append_left _ (List.mem_of_getElem? (i := 7) rfl)))) dX6_apply_275 ?_
                            refine g_iload E dX6_apply_278 3 rfl ?_
                            refine g_iload_n E dX6_apply_280 rfl 9 rfl ?_
                            refine k_ast_from (s := (muR (muR (muI s 0 (0)) 11 np (nI a)) 12 np (nI ll))) E np rfl (by omega) dX6_apply_281 ?_
                            refine g_aload_n E dX6_apply_282 rfl 6 rfl ?_
                            refine k_get_end (s := (muR (muR (muR (muI s 0 (0)) 11 np (nI a)) 12 np (nI ll)) 13 np (fr))) E (fun _ h => (List.mem_cons_of_mem _ (List.mem_append_right _ h))) (List.mem_cons_of_mem _ (List.mem_append_left _ (List.mem_append_left _ (List.mem_of_getElem? (i := 8) rfl)))) dX6_apply_283 ?_
                            refine g_iload E dX6_apply_286 3 rfl ?_
                            refine g_iload E dX6_apply_288 2 rfl ?_
                            refine k_ast_end (s := (muR (muR (muR (muI s 0 (0)) 11 np (nI a)) 12 np (nI ll)) 13 np (fr))) E np rfl (by omega) dX6_apply_290 ?_
                            refine g_aload_n E dX6_apply_291 rfl 6 rfl ?_
                            refine k_get_needs (s := (muR (muR (muR (muR (muI s 0 (0)) 11 np (nI a)) 12 np (nI ll)) 13 np (fr)) 14 np ((fr + hs)))) E (fun _ h => (List.mem_cons_of_mem _ (List.mem_append_right _ h))) (List.mem_cons_of_mem _ (List.mem_append_left _ (List.mem_append_left _ (List.mem_of_getElem? (i := 9) rfl)))) dX6_apply_292 ?_
                            refine g_iload E dX6_apply_295 3 rfl ?_
                            refine g_iload E dX6_apply_297 11 rfl ?_
                            refine k_ast_needs (s := (muR (muR (muR (muR (muI s 0 (0)) 11 np (nI a)) 12 np (nI ll)) 13 np (fr)) 14 np ((fr + hs)))) E np rfl (by omega) dX6_apply_299 ?_
                            refine g_aload_n E dX6_apply_300 rfl 6 rfl ?_
                            refine k_get_isUrgent (s := (muR (muR (muR (muR (muR (muI s 0 (0)) 11 np (nI a)) 12 np (nI ll)) 13 np (fr)) 14 np ((fr + hs))) 15 np ((-1)))) E (fun _ h => (List.mem_cons_of_mem _ (List.mem_append_right _ h))) (List.mem_cons_of_mem _ (List.mem_append_left _ (List.mem_append_left _ (List.mem_of_getElem? (i := 10) rfl)))) dX6_apply_301 ?_
                            refine g_iload E dX6_apply_304 3 rfl ?_
                            refine g_iload E dX6_apply_306 12 rfl ?_
                            refine k_ast_isUrgent (s := (muR (muR (muR (muR (muR (muI s 0 (0)) 11 np (nI a)) 12 np (nI ll)) 13 np (fr)) 14 np ((fr + hs))) 15 np ((-1)))) E (hu) np rfl (by omega) dX6_apply_308 ?_
                            refine g_aload_n E dX6_apply_309 rfl 6 rfl ?_
                            refine k_get_state (s := (muR (muR (muR (muR (muR (muR (muI s 0 (0)) 11 np (nI a)) 12 np (nI ll)) 13 np (fr)) 14 np ((fr + hs))) 15 np ((-1))) 16 np (ur))) E (fun _ h => (List.mem_cons_of_mem _ (List.mem_append_right _ h))) (List.mem_cons_of_mem _ (List.mem_append_left _ (List.mem_append_left _ (List.mem_of_getElem? (i := 11) rfl)))) dX6_apply_310 ?_
                            refine g_iload E dX6_apply_313 3 rfl ?_
                            refine g_iload E dX6_apply_315 1 rfl ?_
                            refine g_iconst (v := (-1)) E dX6_apply_317 (by decide) ?_
                            refine g_icmp_ne (tgt := 325) E dX6_apply_318 (by decide) (fun c_318 => ?_) (fun c_318 => ?_)
                            · refine g_iconst (v := 1) E dX6_apply_325 (by decide) ?_
                              refine k_ast_state (s := (muR (muR (muR (muR (muR (muR (muI s 0 (0)) 11 np (nI a)) 12 np (nI ll)) 13 np (fr)) 14 np ((fr + hs))) 15 np ((-1))) 16 np (ur))) E np rfl (by omega) dX6_apply_326 ?_
                              refine g_aload_n E dX6_apply_327 rfl 6 rfl ?_
                              refine k_get_cause (s := (muR (muR (muR (muR (muR (muR (muR (muI s 0 (0)) 11 np (nI a)) 12 np (nI ll)) 13 np (fr)) 14 np ((fr + hs))) 15 np ((-1))) 16 np (ur)) 17 np (1))) E (fun _ h => (List.mem_cons_of_mem _ (List.mem_append_right _ h))) (List.mem_cons_of_mem _ (List.mem_append_left _ (List.mem_append_left _ (List.mem_of_getElem? (i := 12) rfl)))) dX6_apply_328 ?_
                              refine g_iload E dX6_apply_331 3 rfl ?_
                              refine g_iload E dX6_apply_333 1 rfl ?_
                              refine k_ast_cause (s := (muR (muR (muR (muR (muR (muR (muR (muI s 0 (0)) 11 np (nI a)) 12 np (nI ll)) 13 np (fr)) 14 np ((fr + hs))) 15 np ((-1))) 16 np (ur)) 17 np (1))) E np rfl (by omega) dX6_apply_335 ?_
                              refine g_aload_n E dX6_apply_336 rfl 6 rfl ?_
                              refine k_get_opening (s := (muR (muR (muR (muR (muR (muR (muR (muR (muI s 0 (0)) 11 np (nI a)) 12 np (nI ll)) 13 np (fr)) 14 np ((fr + hs))) 15 np ((-1))) 16 np (ur)) 17 np (1)) 18 np (w))) E (fun _ h => (List.mem_cons_of_mem _ (List.mem_append_right _ h))) (List.mem_cons_of_mem _ (List.mem_append_left _ (List.mem_append_left _ (List.mem_of_getElem? (i := 13) rfl)))) dX6_apply_337 ?_
                              refine g_iload E dX6_apply_340 3 rfl ?_
                              refine g_iload E dX6_apply_342 0 rfl ?_
                              refine k_ast_opening (s := (muR (muR (muR (muR (muR (muR (muR (muR (muI s 0 (0)) 11 np (nI a)) 12 np (nI ll)) 13 np (fr)) 14 np ((fr + hs))) 15 np ((-1))) 16 np (ur)) 17 np (1)) 18 np (w))) E np rfl (by omega) dX6_apply_344 ?_
                              refine g_aload_n E dX6_apply_345 rfl 6 rfl ?_
                              refine g_dup E dX6_apply_346 rfl ?_
                              refine k_get_permits (s := (muR (muR (muR (muR (muR (muR (muR (muR (muR (muI s 0 (0)) 11 np (nI a)) 12 np (nI ll)) 13 np (fr)) 14 np ((fr + hs))) 15 np ((-1))) 16 np (ur)) 17 np (1)) 18 np (w)) 19 np ((-1)))) E (fun _ h => (List.mem_cons_of_mem _ (List.mem_append_right _ h))) (List.mem_cons_of_mem _ (List.mem_append_left _ (List.mem_append_left _ (List.mem_of_getElem? (i := 1) rfl)))) dX6_apply_347 ?_
                              rw [show mi (muR (muR (muR (muR (muR (muR (muR (muR (muR (muI s 0 (0)) 11 np (nI a)) 12 np (nI ll)) 13 np (fr)) 14 np ((fr + hs))) 15 np ((-1))) 16 np (ur)) 17 np (1)) 18 np (w)) 19 np ((-1))) 21 = nI np from hp0]
                              show G C (mW (xy C) ma (muR (muR (muR (muR (muR (muR (muR (muR (muR (muI s 0 (0)) 11 np (nI a)) 12 np (nI ll)) 13 np (fr)) 14 np ((fr + hs))) 15 np ((-1))) 16 np (ur)) 17 np (1)) 18 np (w)) 19 np ((-1)))) 0 0 350 [(12, .int ((-1))), (11, .int (w)), (10, .int ((fr + hs))), (9, .int (nI np)), (8, .int (1)), (7, .int (1)), (0, .ref (ma 0)), (1, .int (nI a)), (2, .int (nI ll)), (3, .int (fr)), (4, .int (hs)), (5, .int ((-1))), (6, .int (ur))] [.int (nI np), .ref (ma 0)]
                              refine g_iconst (v := 1) E dX6_apply_350 (by decide) ?_
                              refine g_iadd E dX6_apply_351 ?_
                              refine k_put_permits (s := (muR (muR (muR (muR (muR (muR (muR (muR (muR (muI s 0 (0)) 11 np (nI a)) 12 np (nI ll)) 13 np (fr)) 14 np ((fr + hs))) 15 np ((-1))) 16 np (ur)) 17 np (1)) 18 np (w)) 19 np ((-1)))) E (fun _ h => (List.mem_cons_of_mem _ (List.mem_append_right _ h))) (List.mem_cons_of_mem _ (List.mem_append_left _ (List.mem_append_left _ (List.mem_of_getElem? (i := 1) rfl)))) dX6_apply_352 ?_
                              refine g_iload E dX6_apply_355 3 rfl ?_
                              exact g_iret E hE hr dX6_apply_357 (Nat.le_of_ble_eq_true rfl) (Nat.le_of_ble_eq_true rfl) ⟨(muI (muR (muR (muR (muR (muR (muR (muR (muR (muR (muI s 0 (0)) 11 np (nI a)) 12 np (nI ll)) 13 np (fr)) 14 np ((fr + hs))) 15 np ((-1))) 16 np (ur)) 17 np (1)) 18 np (w)) 19 np ((-1))) 21 ((nI np + 1))), rfl, Or.inl ⟨a, False, w, 1, (-1), (muI s 0 0), ⟨ha6, rfl, ⟨ll, hll, rfl⟩, Or.inl ⟨rfl, rfl⟩⟩, ⟨bI_ne0.mp c_45, bI_ne0.mp c_56, Int32.not_lt.mp c_64⟩, hnp, hW, Or.inl ⟨c_145, rfl, rfl, rfl⟩, rfl, rfl⟩⟩
                            · exact absurd c_318 c_145
                          · exact absurd c_218 c_145
                        · exact absurd c_170 c_145
                      · refine g_iload E dX6_apply_148 11 rfl ?_
                        refine g_if_eq (tgt := 157) E dX6_apply_150 (by decide) (fun c_150 => ?_) (fun c_150 => ?_)
                        · refine g_aload_n E dX6_apply_157 rfl 5 rfl ?_
                          refine g_iload_n E dX6_apply_158 rfl 7 rfl ?_
                          refine g_iload_n E dX6_apply_159 rfl 8 rfl ?_
                          refine g_iload E dX6_apply_160 1 rfl ?_
                          refine k_invV (n := 3) (rest := []) E (m_X6_joined (xl C) E.tr (xD C) (xy C) e0 (s := (muI s 0 (0))) (ln := nI ll) (a := fr) (b := (fr + hs)) hp0 hp1 hop) gX6_apply_X6_joined rfl rfl rfl (by decide +kernel) ⟨Nat.le_of_ble_eq_true rfl, Nat.le_of_ble_eq_true rfl⟩ rfl rfl (Nat.le_of_ble_eq_true rfl) dX6_apply_162 ⟨Nat.le_of_ble_eq_true rfl, Nat.le_of_ble_eq_true rfl⟩ (fun v9 s9_162 h9 => ?_)
                          obtain ⟨h9, hS9⟩ := h9
                          rw [hS9]
                          rcases h9 with ⟨q, hq, hqF, hqm, hv9⟩ | ⟨hqn, hv9⟩
                          · rw [hv9]
                            have h_o := hop q hq hqF.1.1
                            have hne : ¬ mr s 19 q = -1 := fun e => absurd (e.symm.trans h_o.1) (nI_nm1 (Nat.lt_trans h_o.2 (by decide)))
                            show G C (mW (xy C) ma (muI s 0 (0))) 0 0 165 [(11, .int (w)), (10, .int ((fr + hs))), (9, .int (nI np)), (8, .int (1)), (7, .int (1)), (0, .ref (ma 0)), (1, .int (nI a)), (2, .int (nI ll)), (3, .int (fr)), (4, .int (hs)), (5, .int ((-1))), (6, .int (ur))] [.int ((mr (muI s 0 (0)) 19 q))]
                            refine g_istore (L' := [(12, .int ((mr (muI s 0 (0)) 19 q))), (11, .int (w)), (10, .int ((fr + hs))), (9, .int (nI np)), (8, .int (1)), (7, .int (1)), (0, .ref (ma 0)), (1, .int (nI a)), (2, .int (nI ll)), (3, .int (fr)), (4, .int (hs)), (5, .int ((-1))), (6, .int (ur))]) E dX6_apply_165 (by decide) rfl ?_
                            refine g_iload E dX6_apply_167 1 rfl ?_
                            refine g_iconst (v := (-1)) E dX6_apply_169 (by decide) ?_
                            refine g_icmp_ne (tgt := 215) E dX6_apply_170 (by decide) (fun c_170 => ?_) (fun c_170 => ?_)
                            · exact absurd c_145 c_170
                            · refine g_iload E dX6_apply_173 0 rfl ?_
                              refine g_iconst (v := (-1)) E dX6_apply_175 (by decide) ?_
                              refine g_icmp_ne (tgt := 215) E dX6_apply_176 (by decide) (fun c_176 => ?_) (fun c_176 => ?_)
                              · refine g_iload E dX6_apply_215 1 rfl ?_
                                refine g_iconst (v := (-1)) E dX6_apply_217 (by decide) ?_
                                refine g_icmp_ne (tgt := 258) E dX6_apply_218 (by decide) (fun c_218 => ?_) (fun c_218 => ?_)
                                · exact absurd c_145 c_218
                                · refine g_aload_n E dX6_apply_221 rfl 6 rfl ?_
                                  refine k_get_first (s := (muI s 0 (0))) E (fun _ h => (List.mem_cons_of_mem _ (List.mem_append_right _ h))) (List.mem_cons_of_mem _ (List.mem_append_left _ (List.mem_append_left _ (List.mem_of_getElem? (i := 3) rfl)))) dX6_apply_222 ?_
                                  refine g_iload E dX6_apply_225 0 rfl ?_
                                  refine g_iload_n E dX6_apply_227 rfl 9 rfl ?_
                                  refine g_aload_n E dX6_apply_228 rfl 6 rfl ?_
                                  refine k_get_first (s := (muI s 0 (0))) E (fun _ h => (List.mem_cons_of_mem _ (List.mem_append_right _ h))) (List.mem_cons_of_mem _ (List.mem_append_left _ (List.mem_append_left _ (List.mem_of_getElem? (i := 3) rfl)))) dX6_apply_229 ?_
                                  refine g_iload E dX6_apply_232 0 rfl ?_
                                  refine k_ald_first (s := (muI s 0 (0))) E ((tn (mr s 19 q))) h_o.1 h_o.2 dX6_apply_234 ?_
                                  refine k_invS (n := 2) (rest := [.int ((mr (muI s 0 (0)) 19 q)), .ref (ma 22)]) E (m_X6_lesser (xl C) E.tr (xD C) (xy C) e0 (s := (muI s 0 (0))) (x := fr) (y := mr (muI s 0 (0)) 22 ((tn (mr s 19 q))))) gX6_apply_X6_lesser rfl rfl rfl (by decide +kernel) ⟨Nat.le_of_ble_eq_true rfl, Nat.le_of_ble_eq_true rfl⟩ rfl rfl (Nat.le_of_ble_eq_true rfl) dX6_apply_235 ⟨Nat.le_of_ble_eq_true rfl, Nat.le_of_ble_eq_true rfl⟩ (fun v9 s9_235 h9 => ?_)
                                  obtain ⟨hv9, hS9⟩ := h9
                                  rw [hv9, hS9]
                                  show G C (mW (xy C) ma (muI s 0 (0))) 0 0 238 [(12, .int ((mr (muI s 0 (0)) 19 q))), (11, .int (w)), (10, .int ((fr + hs))), (9, .int (nI np)), (8, .int (1)), (7, .int (1)), (0, .ref (ma 0)), (1, .int (nI a)), (2, .int (nI ll)), (3, .int (fr)), (4, .int (hs)), (5, .int ((-1))), (6, .int (ur))] [.int ((if fr < mr (muI s 0 (0)) 22 ((tn (mr s 19 q))) then fr else mr (muI s 0 (0)) 22 ((tn (mr s 19 q))))), .int ((mr (muI s 0 (0)) 19 q)), .ref (ma 22)]
                                  refine k_ast_first (s := (muI s 0 (0))) E ((tn (mr s 19 q))) h_o.1 h_o.2 dX6_apply_238 ?_
                                  refine g_aload_n E dX6_apply_239 rfl 6 rfl ?_
                                  refine k_get_behind (s := (muR (muI s 0 (0)) 22 ((tn (mr s 19 q))) ((if fr < mr (muI s 0 (0)) 22 ((tn (mr s 19 q))) then fr else mr (muI s 0 (0)) 22 ((tn (mr s 19 q))))))) E (fun _ h => (List.mem_cons_of_mem _ (List.mem_append_right _ h))) (List.mem_cons_of_mem _ (List.mem_append_left _ (List.mem_append_left _ (List.mem_of_getElem? (i := 4) rfl)))) dX6_apply_240 ?_
                                  refine g_iload E dX6_apply_243 0 rfl ?_
                                  refine g_iload E dX6_apply_245 2 rfl ?_
                                  refine g_aload_n E dX6_apply_247 rfl 6 rfl ?_
                                  refine k_get_behind (s := (muR (muI s 0 (0)) 22 ((tn (mr s 19 q))) ((if fr < mr (muI s 0 (0)) 22 ((tn (mr s 19 q))) then fr else mr (muI s 0 (0)) 22 ((tn (mr s 19 q))))))) E (fun _ h => (List.mem_cons_of_mem _ (List.mem_append_right _ h))) (List.mem_cons_of_mem _ (List.mem_append_left _ (List.mem_append_left _ (List.mem_of_getElem? (i := 4) rfl)))) dX6_apply_248 ?_
                                  refine g_iload E dX6_apply_251 0 rfl ?_
                                  refine k_ald_behind (s := (muR (muI s 0 (0)) 22 ((tn (mr s 19 q))) ((if fr < mr (muI s 0 (0)) 22 ((tn (mr s 19 q))) then fr else mr (muI s 0 (0)) 22 ((tn (mr s 19 q))))))) E ((tn (mr s 19 q))) h_o.1 h_o.2 dX6_apply_253 ?_
                                  refine k_invS (n := 2) (rest := [.int ((mr (muI s 0 (0)) 19 q)), .ref (ma 23)]) E (m_X6_greater (xl C) E.tr (xD C) (xy C) e0 (s := (muR (muI s 0 (0)) 22 ((tn (mr s 19 q))) ((if fr < mr (muI s 0 (0)) 22 ((tn (mr s 19 q))) then fr else mr (muI s 0 (0)) 22 ((tn (mr s 19 q))))))) (x := (fr + hs)) (y := mr (muR (muI s 0 (0)) 22 ((tn (mr s 19 q))) ((if fr < mr (muI s 0 (0)) 22 ((tn (mr s 19 q))) then fr else mr (muI s 0 (0)) 22 ((tn (mr s 19 q)))))) 23 ((tn (mr s 19 q))))) gX6_apply_X6_greater rfl rfl rfl (by decide +kernel) ⟨Nat.le_of_ble_eq_true rfl, Nat.le_of_ble_eq_true rfl⟩ rfl rfl (Nat.le_of_ble_eq_true rfl) dX6_apply_254 ⟨Nat.le_of_ble_eq_true rfl, Nat.le_of_ble_eq_true rfl⟩ (fun v9 s9_254 h9 => ?_)
                                  obtain ⟨hv9, hS9⟩ := h9
                                  rw [hv9, hS9]
                                  show G C (mW (xy C) ma (muR (muI s 0 (0)) 22 ((tn (mr s 19 q))) ((if fr < mr (muI s 0 (0)) 22 ((tn (mr s 19 q))) then fr else mr (muI s 0 (0)) 22 ((tn (mr s 19 q))))))) 0 0 257 [(12, .int ((mr (muI s 0 (0)) 19 q))), (11, .int (w)), (10, .int ((fr + hs))), (9, .int (nI np)), (8, .int (1)), (7, .int (1)), (0, .ref (ma 0)), (1, .int (nI a)), (2, .int (nI ll)), (3, .int (fr)), (4, .int (hs)), (5, .int ((-1))), (6, .int (ur))] [.int ((if mr (muR (muI s 0 (0)) 22 ((tn (mr s 19 q))) ((if fr < mr (muI s 0 (0)) 22 ((tn (mr s 19 q))) then fr else mr (muI s 0 (0)) 22 ((tn (mr s 19 q)))))) 23 ((tn (mr s 19 q))) < (fr + hs) then (fr + hs) else mr (muR (muI s 0 (0)) 22 ((tn (mr s 19 q))) ((if fr < mr (muI s 0 (0)) 22 ((tn (mr s 19 q))) then fr else mr (muI s 0 (0)) 22 ((tn (mr s 19 q)))))) 23 ((tn (mr s 19 q))))), .int ((mr (muI s 0 (0)) 19 q)), .ref (ma 23)]
                                  refine k_ast_behind (s := (muR (muI s 0 (0)) 22 ((tn (mr s 19 q))) ((if fr < mr (muI s 0 (0)) 22 ((tn (mr s 19 q))) then fr else mr (muI s 0 (0)) 22 ((tn (mr s 19 q))))))) E ((tn (mr s 19 q))) h_o.1 h_o.2 dX6_apply_257 ?_
                                  refine g_aload_n E dX6_apply_258 rfl 6 rfl ?_
                                  refine k_get_applicant (s := (muR (muR (muI s 0 (0)) 22 ((tn (mr s 19 q))) ((if fr < mr (muI s 0 (0)) 22 ((tn (mr s 19 q))) then fr else mr (muI s 0 (0)) 22 ((tn (mr s 19 q)))))) 23 ((tn (mr s 19 q))) ((if mr (muR (muI s 0 (0)) 22 ((tn (mr s 19 q))) ((if fr < mr (muI s 0 (0)) 22 ((tn (mr s 19 q))) then fr else mr (muI s 0 (0)) 22 ((tn (mr s 19 q)))))) 23 ((tn (mr s 19 q))) < (fr + hs) then (fr + hs) else mr (muR (muI s 0 (0)) 22 ((tn (mr s 19 q))) ((if fr < mr (muI s 0 (0)) 22 ((tn (mr s 19 q))) then fr else mr (muI s 0 (0)) 22 ((tn (mr s 19 q)))))) 23 ((tn (mr s 19 q))))))) E (fun _ h => (List.mem_cons_of_mem _ (List.mem_append_right _ h))) (List.mem_cons_of_mem _ (List.mem_append_left _ (List.mem_append_left _ (List.mem_of_getElem? (i := 5) rfl)))) dX6_apply_259 ?_
                                  refine g_iload E dX6_apply_262 3 rfl ?_
                                  refine g_iload_n E dX6_apply_264 rfl 7 rfl ?_
                                  refine k_ast_applicant (s := (muR (muR (muI s 0 (0)) 22 ((tn (mr s 19 q))) ((if fr < mr (muI s 0 (0)) 22 ((tn (mr s 19 q))) then fr else mr (muI s 0 (0)) 22 ((tn (mr s 19 q)))))) 23 ((tn (mr s 19 q))) ((if mr (muR (muI s 0 (0)) 22 ((tn (mr s 19 q))) ((if fr < mr (muI s 0 (0)) 22 ((tn (mr s 19 q))) then fr else mr (muI s 0 (0)) 22 ((tn (mr s 19 q)))))) 23 ((tn (mr s 19 q))) < (fr + hs) then (fr + hs) else mr (muR (muI s 0 (0)) 22 ((tn (mr s 19 q))) ((if fr < mr (muI s 0 (0)) 22 ((tn (mr s 19 q))) then fr else mr (muI s 0 (0)) 22 ((tn (mr s 19 q)))))) 23 ((tn (mr s 19 q))))))) E np rfl (by omega) dX6_apply_265 ?_
                                  refine g_aload_n E dX6_apply_266 rfl 6 rfl ?_
                                  refine k_get_lane (s := (muR (muR (muR (muI s 0 (0)) 22 ((tn (mr s 19 q))) ((if fr < mr (muI s 0 (0)) 22 ((tn (mr s 19 q))) then fr else mr (muI s 0 (0)) 22 ((tn (mr s 19 q)))))) 23 ((tn (mr s 19 q))) ((if mr (muR (muI s 0 (0)) 22 ((tn (mr s 19 q))) ((if fr < mr (muI s 0 (0)) 22 ((tn (mr s 19 q))) then fr else mr (muI s 0 (0)) 22 ((tn (mr s 19 q)))))) 23 ((tn (mr s 19 q))) < (fr + hs) then (fr + hs) else mr (muR (muI s 0 (0)) 22 ((tn (mr s 19 q))) ((if fr < mr (muI s 0 (0)) 22 ((tn (mr s 19 q))) then fr else mr (muI s 0 (0)) 22 ((tn (mr s 19 q)))))) 23 ((tn (mr s 19 q)))))) 11 np (nI a))) E (fun _ h => (List.mem_cons_of_mem _ (List.mem_append_right _ h))) (List.mem_cons_of_mem _ (List.mem_append_left _ (List.mem_append_left _ (List.mem_of_getElem? (i := 6) rfl)))) dX6_apply_267 ?_
                                  refine g_iload E dX6_apply_270 3 rfl ?_
                                  refine g_iload_n E dX6_apply_272 rfl 8 rfl ?_
                                  refine k_ast_lane (s := (muR (muR (muR (muI s 0 (0)) 22 ((tn (mr s 19 q))) ((if fr < mr (muI s 0 (0)) 22 ((tn (mr s 19 q))) then fr else mr (muI s 0 (0)) 22 ((tn (mr s 19 q)))))) 23 ((tn (mr s 19 q))) ((if mr (muR (muI s 0 (0)) 22 ((tn (mr s 19 q))) ((if fr < mr (muI s 0 (0)) 22 ((tn (mr s 19 q))) then fr else mr (muI s 0 (0)) 22 ((tn (mr s 19 q)))))) 23 ((tn (mr s 19 q))) < (fr + hs) then (fr + hs) else mr (muR (muI s 0 (0)) 22 ((tn (mr s 19 q))) ((if fr < mr (muI s 0 (0)) 22 ((tn (mr s 19 q))) then fr else mr (muI s 0 (0)) 22 ((tn (mr s 19 q)))))) 23 ((tn (mr s 19 q)))))) 11 np (nI a))) E np rfl (by omega) dX6_apply_273 ?_
                                  refine g_aload_n E dX6_apply_274 rfl 6 rfl ?_
                                  refine k_get_from (s := (muR (muR (muR (muR (muI s 0 (0)) 22 ((tn (mr s 19 q))) ((if fr < mr (muI s 0 (0)) 22 ((tn (mr s 19 q))) then fr else mr (muI s 0 (0)) 22 ((tn (mr s 19 q)))))) 23 ((tn (mr s 19 q))) ((if mr (muR (muI s 0 (0)) 22 ((tn (mr s 19 q))) ((if fr < mr (muI s 0 (0)) 22 ((tn (mr s 19 q))) then fr else mr (muI s 0 (0)) 22 ((tn (mr s 19 q)))))) 23 ((tn (mr s 19 q))) < (fr + hs) then (fr + hs) else mr (muR (muI s 0 (0)) 22 ((tn (mr s 19 q))) ((if fr < mr (muI s 0 (0)) 22 ((tn (mr s 19 q))) then fr else mr (muI s 0 (0)) 22 ((tn (mr s 19 q)))))) 23 ((tn (mr s 19 q)))))) 11 np (nI a)) 12 np (nI ll))) E (fun _ h => (List.mem_cons_of_mem _ (List.mem_append_right _ h))) (List.mem_cons_of_mem _ (List.mem_append_left _ (List.mem_append_left _ (List.mem_of_getElem? (i := 7) rfl)))) dX6_apply_275 ?_
                                  refine g_iload E dX6_apply_278 3 rfl ?_
                                  refine g_iload_n E dX6_apply_280 rfl 9 rfl ?_
                                  refine k_ast_from (s := (muR (muR (muR (muR (muI s 0 (0)) 22 ((tn (mr s 19 q))) ((if fr < mr (muI s 0 (0)) 22 ((tn (mr s 19 q))) then fr else mr (muI s 0 (0)) 22 ((tn (mr s 19 q)))))) 23 ((tn (mr s 19 q))) ((if mr (muR (muI s 0 (0)) 22 ((tn (mr s 19 q))) ((if fr < mr (muI s 0 (0)) 22 ((tn (mr s 19 q))) then fr else mr (muI s 0 (0)) 22 ((tn (mr s 19 q)))))) 23 ((tn (mr s 19 q))) < (fr + hs) then (fr + hs) else mr (muR (muI s 0 (0)) 22 ((tn (mr s 19 q))) ((if fr < mr (muI s 0 (0)) 22 ((tn (mr s 19 q))) then fr else mr (muI s 0 (0)) 22 ((tn (mr s 19 q)))))) 23 ((tn (mr s 19 q)))))) 11 np (nI a)) 12 np (nI ll))) E np rfl (by omega) dX6_apply_281 ?_
                                  refine g_aload_n E dX6_apply_282 rfl 6 rfl ?_
                                  refine k_get_end (s := (muR (muR (muR (muR (muR (muI s 0 (0)) 22 ((tn (mr s 19 q))) ((if fr < mr (muI s 0 (0)) 22 ((tn (mr s 19 q))) then fr else mr (muI s 0 (0)) 22 ((tn (mr s 19 q)))))) 23 ((tn (mr s 19 q))) ((if mr (muR (muI s 0 (0)) 22 ((tn (mr s 19 q))) ((if fr < mr (muI s 0 (0)) 22 ((tn (mr s 19 q))) then fr else mr (muI s 0 (0)) 22 ((tn (mr s 19 q)))))) 23 ((tn (mr s 19 q))) < (fr + hs) then (fr + hs) else mr (muR (muI s 0 (0)) 22 ((tn (mr s 19 q))) ((if fr < mr (muI s 0 (0)) 22 ((tn (mr s 19 q))) then fr else mr (muI s 0 (0)) 22 ((tn (mr s 19 q)))))) 23 ((tn (mr s 19 q)))))) 11 np (nI a)) 12 np (nI ll)) 13 np (fr))) E (fun _ h => (List.mem_cons_of_mem _ (List.mem_append_right _ h))) (List.mem_cons_of_mem _ (List.mem_append_left _ (List.mem_append_left _ (List.mem_of_getElem? (i := 8) rfl)))) dX6_apply_283 ?_
                                  refine g_iload E dX6_apply_286 3 rfl ?_
                                  refine g_iload E dX6_apply_288 2 rfl ?_
                                  refine k_ast_end (s := (muR (muR (muR (muR (muR (muI s 0 (0)) 22 ((tn (mr s 19 q))) ((if fr < mr (muI s 0 (0)) 22 ((tn (mr s 19 q))) then fr else mr (muI s 0 (0)) 22 ((tn (mr s 19 q)))))) 23 ((tn (mr s 19 q))) ((if mr (muR (muI s 0 (0)) 22 ((tn (mr s 19 q))) ((if fr < mr (muI s 0 (0)) 22 ((tn (mr s 19 q))) then fr else mr (muI s 0 (0)) 22 ((tn (mr s 19 q)))))) 23 ((tn (mr s 19 q))) < (fr + hs) then (fr + hs) else mr (muR (muI s 0 (0)) 22 ((tn (mr s 19 q))) ((if fr < mr (muI s 0 (0)) 22 ((tn (mr s 19 q))) then fr else mr (muI s 0 (0)) 22 ((tn (mr s 19 q)))))) 23 ((tn (mr s 19 q)))))) 11 np (nI a)) 12 np (nI ll)) 13 np (fr))) E np rfl (by omega) dX6_apply_290 ?_
                                  refine g_aload_n E dX6_apply_291 rfl 6 rfl ?_
                                  refine k_get_needs (s := (muR (muR (muR (muR (muR (muR (muI s 0 (0)) 22 ((tn (mr s 19 q))) ((if fr < mr (muI s 0 (0)) 22 ((tn (mr s 19 q))) then fr else mr (muI s 0 (0)) 22 ((tn (mr s 19 q)))))) 23 ((tn (mr s 19 q))) ((if mr (muR (muI s 0 (0)) 22 ((tn (mr s 19 q))) ((if fr < mr (muI s 0 (0)) 22 ((tn (mr s 19 q))) then fr else mr (muI s 0 (0)) 22 ((tn (mr s 19 q)))))) 23 ((tn (mr s 19 q))) < (fr + hs) then (fr + hs) else mr (muR (muI s 0 (0)) 22 ((tn (mr s 19 q))) ((if fr < mr (muI s 0 (0)) 22 ((tn (mr s 19 q))) then fr else mr (muI s 0 (0)) 22 ((tn (mr s 19 q)))))) 23 ((tn (mr s 19 q)))))) 11 np (nI a)) 12 np (nI ll)) 13 np (fr)) 14 np ((fr + hs)))) E (fun _ h => (List.mem_cons_of_mem _ (List.mem_append_right _ h))) (List.mem_cons_of_mem _ (List.mem_append_left _ (List.mem_append_left _ (List.mem_of_getElem? (i := 9) rfl)))) dX6_apply_292 ?_
                                  refine g_iload E dX6_apply_295 3 rfl ?_
                                  refine g_iload E dX6_apply_297 11 rfl ?_
                                  refine k_ast_needs (s := (muR (muR (muR (muR (muR (muR (muI s 0 (0)) 22 ((tn (mr s 19 q))) ((if fr < mr (muI s 0 (0)) 22 ((tn (mr s 19 q))) then fr else mr (muI s 0 (0)) 22 ((tn (mr s 19 q)))))) 23 ((tn (mr s 19 q))) ((if mr (muR (muI s 0 (0)) 22 ((tn (mr s 19 q))) ((if fr < mr (muI s 0 (0)) 22 ((tn (mr s 19 q))) then fr else mr (muI s 0 (0)) 22 ((tn (mr s 19 q)))))) 23 ((tn (mr s 19 q))) < (fr + hs) then (fr + hs) else mr (muR (muI s 0 (0)) 22 ((tn (mr s 19 q))) ((if fr < mr (muI s 0 (0)) 22 ((tn (mr s 19 q))) then fr else mr (muI s 0 (0)) 22 ((tn (mr s 19 q)))))) 23 ((tn (mr s 19 q)))))) 11 np (nI a)) 12 np (nI ll)) 13 np (fr)) 14 np ((fr + hs)))) E np rfl (by omega) dX6_apply_299 ?_
                                  refine g_aload_n E dX6_apply_300 rfl 6 rfl ?_
                                  refine k_get_isUrgent (s := (muR (muR (muR (muR (muR (muR (muR (muI s 0 (0)) 22 ((tn (mr s 19 q))) ((if fr < mr (muI s 0 (0)) 22 ((tn (mr s 19 q))) then fr else mr (muI s 0 (0)) 22 ((tn (mr s 19 q)))))) 23 ((tn (mr s 19 q))) ((if mr (muR (muI s 0 (0)) 22 ((tn (mr s 19 q))) ((if fr < mr (muI s 0 (0)) 22 ((tn (mr s 19 q))) then fr else mr (muI s 0 (0)) 22 ((tn (mr s 19 q)))))) 23 ((tn (mr s 19 q))) < (fr + hs) then (fr + hs) else mr (muR (muI s 0 (0)) 22 ((tn (mr s 19 q))) ((if fr < mr (muI s 0 (0)) 22 ((tn (mr s 19 q))) then fr else mr (muI s 0 (0)) 22 ((tn (mr s 19 q)))))) 23 ((tn (mr s 19 q)))))) 11 np (nI a)) 12 np (nI ll)) 13 np (fr)) 14 np ((fr + hs))) 15 np ((-1)))) E (fun _ h => (List.mem_cons_of_mem _ (List.mem_append_right _ h))) (List.mem_cons_of_mem _ (List.mem_append_left _ (List.mem_append_left _ (List.mem_of_getElem? (i := 10) rfl)))) dX6_apply_301 ?_
                                  refine g_iload E dX6_apply_304 3 rfl ?_
                                  refine g_iload E dX6_apply_306 12 rfl ?_
                                  refine k_ast_isUrgent (s := (muR (muR (muR (muR (muR (muR (muR (muI s 0 (0)) 22 ((tn (mr s 19 q))) ((if fr < mr (muI s 0 (0)) 22 ((tn (mr s 19 q))) then fr else mr (muI s 0 (0)) 22 ((tn (mr s 19 q)))))) 23 ((tn (mr s 19 q))) ((if mr (muR (muI s 0 (0)) 22 ((tn (mr s 19 q))) ((if fr < mr (muI s 0 (0)) 22 ((tn (mr s 19 q))) then fr else mr (muI s 0 (0)) 22 ((tn (mr s 19 q)))))) 23 ((tn (mr s 19 q))) < (fr + hs) then (fr + hs) else mr (muR (muI s 0 (0)) 22 ((tn (mr s 19 q))) ((if fr < mr (muI s 0 (0)) 22 ((tn (mr s 19 q))) then fr else mr (muI s 0 (0)) 22 ((tn (mr s 19 q)))))) 23 ((tn (mr s 19 q)))))) 11 np (nI a)) 12 np (nI ll)) 13 np (fr)) 14 np ((fr + hs))) 15 np ((-1)))) E (hu) np rfl (by omega) dX6_apply_308 ?_
                                  refine g_aload_n E dX6_apply_309 rfl 6 rfl ?_
                                  refine k_get_state (s := (muR (muR (muR (muR (muR (muR (muR (muR (muI s 0 (0)) 22 ((tn (mr s 19 q))) ((if fr < mr (muI s 0 (0)) 22 ((tn (mr s 19 q))) then fr else mr (muI s 0 (0)) 22 ((tn (mr s 19 q)))))) 23 ((tn (mr s 19 q))) ((if mr (muR (muI s 0 (0)) 22 ((tn (mr s 19 q))) ((if fr < mr (muI s 0 (0)) 22 ((tn (mr s 19 q))) then fr else mr (muI s 0 (0)) 22 ((tn (mr s 19 q)))))) 23 ((tn (mr s 19 q))) < (fr + hs) then (fr + hs) else mr (muR (muI s 0 (0)) 22 ((tn (mr s 19 q))) ((if fr < mr (muI s 0 (0)) 22 ((tn (mr s 19 q))) then fr else mr (muI s 0 (0)) 22 ((tn (mr s 19 q)))))) 23 ((tn (mr s 19 q)))))) 11 np (nI a)) 12 np (nI ll)) 13 np (fr)) 14 np ((fr + hs))) 15 np ((-1))) 16 np (ur))) E (fun _ h => (List.mem_cons_of_mem _ (List.mem_append_right _ h))) (List.mem_cons_of_mem _ (List.mem_append_left _ (List.mem_append_left _ (List.mem_of_getElem? (i := 11) rfl)))) dX6_apply_310 ?_
                                  refine g_iload E dX6_apply_313 3 rfl ?_
                                  refine g_iload E dX6_apply_315 1 rfl ?_
                                  refine g_iconst (v := (-1)) E dX6_apply_317 (by decide) ?_
                                  refine g_icmp_ne (tgt := 325) E dX6_apply_318 (by decide) (fun c_318 => ?_) (fun c_318 => ?_)
                                  · exact absurd c_145 c_318
                                  · refine g_iconst (v := 0) E dX6_apply_321 (by decide) ?_
                                    refine g_goto (tgt := 326) E dX6_apply_322 (by decide) ?_
                                    refine k_ast_state (s := (muR (muR (muR (muR (muR (muR (muR (muR (muI s 0 (0)) 22 ((tn (mr s 19 q))) ((if fr < mr (muI s 0 (0)) 22 ((tn (mr s 19 q))) then fr else mr (muI s 0 (0)) 22 ((tn (mr s 19 q)))))) 23 ((tn (mr s 19 q))) ((if mr (muR (muI s 0 (0)) 22 ((tn (mr s 19 q))) ((if fr < mr (muI s 0 (0)) 22 ((tn (mr s 19 q))) then fr else mr (muI s 0 (0)) 22 ((tn (mr s 19 q)))))) 23 ((tn (mr s 19 q))) < (fr + hs) then (fr + hs) else mr (muR (muI s 0 (0)) 22 ((tn (mr s 19 q))) ((if fr < mr (muI s 0 (0)) 22 ((tn (mr s 19 q))) then fr else mr (muI s 0 (0)) 22 ((tn (mr s 19 q)))))) 23 ((tn (mr s 19 q)))))) 11 np (nI a)) 12 np (nI ll)) 13 np (fr)) 14 np ((fr + hs))) 15 np ((-1))) 16 np (ur))) E np rfl (by omega) dX6_apply_326 ?_
                                    refine g_aload_n E dX6_apply_327 rfl 6 rfl ?_
                                    refine k_get_cause (s := (muR (muR (muR (muR (muR (muR (muR (muR (muR (muI s 0 (0)) 22 ((tn (mr s 19 q))) ((if fr < mr (muI s 0 (0)) 22 ((tn (mr s 19 q))) then fr else mr (muI s 0 (0)) 22 ((tn (mr s 19 q)))))) 23 ((tn (mr s 19 q))) ((if mr (muR (muI s 0 (0)) 22 ((tn (mr s 19 q))) ((if fr < mr (muI s 0 (0)) 22 ((tn (mr s 19 q))) then fr else mr (muI s 0 (0)) 22 ((tn (mr s 19 q)))))) 23 ((tn (mr s 19 q))) < (fr + hs) then (fr + hs) else mr (muR (muI s 0 (0)) 22 ((tn (mr s 19 q))) ((if fr < mr (muI s 0 (0)) 22 ((tn (mr s 19 q))) then fr else mr (muI s 0 (0)) 22 ((tn (mr s 19 q)))))) 23 ((tn (mr s 19 q)))))) 11 np (nI a)) 12 np (nI ll)) 13 np (fr)) 14 np ((fr + hs))) 15 np ((-1))) 16 np (ur)) 17 np (0))) E (fun _ h => (List.mem_cons_of_mem _ (List.mem_append_right _ h))) (List.mem_cons_of_mem _ (List.mem_append_left _ (List.mem_append_left _ (List.mem_of_getElem? (i := 12) rfl)))) dX6_apply_328 ?_
                                    refine g_iload E dX6_apply_331 3 rfl ?_
                                    refine g_iload E dX6_apply_333 1 rfl ?_
                                    refine k_ast_cause (s := (muR (muR (muR (muR (muR (muR (muR (muR (muR (muI s 0 (0)) 22 ((tn (mr s 19 q))) ((if fr < mr (muI s 0 (0)) 22 ((tn (mr s 19 q))) then fr else mr (muI s 0 (0)) 22 ((tn (mr s 19 q)))))) 23 ((tn (mr s 19 q))) ((if mr (muR (muI s 0 (0)) 22 ((tn (mr s 19 q))) ((if fr < mr (muI s 0 (0)) 22 ((tn (mr s 19 q))) then fr else mr (muI s 0 (0)) 22 ((tn (mr s 19 q)))))) 23 ((tn (mr s 19 q))) < (fr + hs) then (fr + hs) else mr (muR (muI s 0 (0)) 22 ((tn (mr s 19 q))) ((if fr < mr (muI s 0 (0)) 22 ((tn (mr s 19 q))) then fr else mr (muI s 0 (0)) 22 ((tn (mr s 19 q)))))) 23 ((tn (mr s 19 q)))))) 11 np (nI a)) 12 np (nI ll)) 13 np (fr)) 14 np ((fr + hs))) 15 np ((-1))) 16 np (ur)) 17 np (0))) E np rfl (by omega) dX6_apply_335 ?_
                                    refine g_aload_n E dX6_apply_336 rfl 6 rfl ?_
                                    refine k_get_opening (s := (muR (muR (muR (muR (muR (muR (muR (muR (muR (muR (muI s 0 (0)) 22 ((tn (mr s 19 q))) ((if fr < mr (muI s 0 (0)) 22 ((tn (mr s 19 q))) then fr else mr (muI s 0 (0)) 22 ((tn (mr s 19 q)))))) 23 ((tn (mr s 19 q))) ((if mr (muR (muI s 0 (0)) 22 ((tn (mr s 19 q))) ((if fr < mr (muI s 0 (0)) 22 ((tn (mr s 19 q))) then fr else mr (muI s 0 (0)) 22 ((tn (mr s 19 q)))))) 23 ((tn (mr s 19 q))) < (fr + hs) then (fr + hs) else mr (muR (muI s 0 (0)) 22 ((tn (mr s 19 q))) ((if fr < mr (muI s 0 (0)) 22 ((tn (mr s 19 q))) then fr else mr (muI s 0 (0)) 22 ((tn (mr s 19 q)))))) 23 ((tn (mr s 19 q)))))) 11 np (nI a)) 12 np (nI ll)) 13 np (fr)) 14 np ((fr + hs))) 15 np ((-1))) 16 np (ur)) 17 np (0)) 18 np (w))) E (fun _ h => (List.mem_cons_of_mem _ (List.mem_append_right _ h))) (List.mem_cons_of_mem _ (List.mem_append_left _ (List.mem_append_left _ (List.mem_of_getElem? (i := 13) rfl)))) dX6_apply_337 ?_
                                    refine g_iload E dX6_apply_340 3 rfl ?_
                                    refine g_iload E dX6_apply_342 0 rfl ?_
                                    refine k_ast_opening (s := (muR (muR (muR (muR (muR (muR (muR (muR (muR (muR (muI s 0 (0)) 22 ((tn (mr s 19 q))) ((if fr < mr (muI s 0 (0)) 22 ((tn (mr s 19 q))) then fr else mr (muI s 0 (0)) 22 ((tn (mr s 19 q)))))) 23 ((tn (mr s 19 q))) ((if mr (muR (muI s 0 (0)) 22 ((tn (mr s 19 q))) ((if fr < mr (muI s 0 (0)) 22 ((tn (mr s 19 q))) then fr else mr (muI s 0 (0)) 22 ((tn (mr s 19 q)))))) 23 ((tn (mr s 19 q))) < (fr + hs) then (fr + hs) else mr (muR (muI s 0 (0)) 22 ((tn (mr s 19 q))) ((if fr < mr (muI s 0 (0)) 22 ((tn (mr s 19 q))) then fr else mr (muI s 0 (0)) 22 ((tn (mr s 19 q)))))) 23 ((tn (mr s 19 q)))))) 11 np (nI a)) 12 np (nI ll)) 13 np (fr)) 14 np ((fr + hs))) 15 np ((-1))) 16 np (ur)) 17 np (0)) 18 np (w))) E np rfl (by omega) dX6_apply_344 ?_
                                    refine g_aload_n E dX6_apply_345 rfl 6 rfl ?_
                                    refine g_dup E dX6_apply_346 rfl ?_
                                    refine k_get_permits (s := (muR (muR (muR (muR (muR (muR (muR (muR (muR (muR (muR (muI s 0 (0)) 22 ((tn (mr s 19 q))) ((if fr < mr (muI s 0 (0)) 22 ((tn (mr s 19 q))) then fr else mr (muI s 0 (0)) 22 ((tn (mr s 19 q)))))) 23 ((tn (mr s 19 q))) ((if mr (muR (muI s 0 (0)) 22 ((tn (mr s 19 q))) ((if fr < mr (muI s 0 (0)) 22 ((tn (mr s 19 q))) then fr else mr (muI s 0 (0)) 22 ((tn (mr s 19 q)))))) 23 ((tn (mr s 19 q))) < (fr + hs) then (fr + hs) else mr (muR (muI s 0 (0)) 22 ((tn (mr s 19 q))) ((if fr < mr (muI s 0 (0)) 22 ((tn (mr s 19 q))) then fr else mr (muI s 0 (0)) 22 ((tn (mr s 19 q)))))) 23 ((tn (mr s 19 q)))))) 11 np (nI a)) 12 np (nI ll)) 13 np (fr)) 14 np ((fr + hs))) 15 np ((-1))) 16 np (ur)) 17 np (0)) 18 np (w)) 19 np ((mr (muI s 0 (0)) 19 q)))) E (fun _ h => (List.mem_cons_of_mem _ (List.mem_append_right _ h))) (List.mem_cons_of_mem _ (List.mem_append_left _ (List.mem_append_left _ (List.mem_of_getElem? (i := 1) rfl)))) dX6_apply_347 ?_
                                    rw [show mi (muR (muR (muR (muR (muR (muR (muR (muR (muR (muR (muR (muI s 0 (0)) 22 ((tn (mr s 19 q))) ((if fr < mr (muI s 0 (0)) 22 ((tn (mr s 19 q))) then fr else mr (muI s 0 (0)) 22 ((tn (mr s 19 q)))))) 23 ((tn (mr s 19 q))) ((if mr (muR (muI s 0 (0)) 22 ((tn (mr s 19 q))) ((if fr < mr (muI s 0 (0)) 22 ((tn (mr s 19 q))) then fr else mr (muI s 0 (0)) 22 ((tn (mr s 19 q)))))) 23 ((tn (mr s 19 q))) < (fr + hs) then (fr + hs) else mr (muR (muI s 0 (0)) 22 ((tn (mr s 19 q))) ((if fr < mr (muI s 0 (0)) 22 ((tn (mr s 19 q))) then fr else mr (muI s 0 (0)) 22 ((tn (mr s 19 q)))))) 23 ((tn (mr s 19 q)))))) 11 np (nI a)) 12 np (nI ll)) 13 np (fr)) 14 np ((fr + hs))) 15 np ((-1))) 16 np (ur)) 17 np (0)) 18 np (w)) 19 np ((mr (muI s 0 (0)) 19 q))) 21 = nI np from hp0]
                                    show G C (mW (xy C) ma (muR (muR (muR (muR (muR (muR (muR (muR (muR (muR (muR (muI s 0 (0)) 22 ((tn (mr s 19 q))) ((if fr < mr (muI s 0 (0)) 22 ((tn (mr s 19 q))) then fr else mr (muI s 0 (0)) 22 ((tn (mr s 19 q)))))) 23 ((tn (mr s 19 q))) ((if mr (muR (muI s 0 (0)) 22 ((tn (mr s 19 q))) ((if fr < mr (muI s 0 (0)) 22 ((tn (mr s 19 q))) then fr else mr (muI s 0 (0)) 22 ((tn (mr s 19 q)))))) 23 ((tn (mr s 19 q))) < (fr + hs) then (fr + hs) else mr (muR (muI s 0 (0)) 22 ((tn (mr s 19 q))) ((if fr < mr (muI s 0 (0)) 22 ((tn (mr s 19 q))) then fr else mr (muI s 0 (0)) 22 ((tn (mr s 19 q)))))) 23 ((tn (mr s 19 q)))))) 11 np (nI a)) 12 np (nI ll)) 13 np (fr)) 14 np ((fr + hs))) 15 np ((-1))) 16 np (ur)) 17 np (0)) 18 np (w)) 19 np ((mr (muI s 0 (0)) 19 q)))) 0 0 350 [(12, .int ((mr (muI s 0 (0)) 19 q))), (11, .int (w)), (10, .int ((fr + hs))), (9, .int (nI np)), (8, .int (1)), (7, .int (1)), (0, .ref (ma 0)), (1, .int (nI a)), (2, .int (nI ll)), (3, .int (fr)), (4, .int (hs)), (5, .int ((-1))), (6, .int (ur))] [.int (nI np), .ref (ma 0)]
                                    refine g_iconst (v := 1) E dX6_apply_350 (by decide) ?_
                                    refine g_iadd E dX6_apply_351 ?_
                                    refine k_put_permits (s := (muR (muR (muR (muR (muR (muR (muR (muR (muR (muR (muR (muI s 0 (0)) 22 ((tn (mr s 19 q))) ((if fr < mr (muI s 0 (0)) 22 ((tn (mr s 19 q))) then fr else mr (muI s 0 (0)) 22 ((tn (mr s 19 q)))))) 23 ((tn (mr s 19 q))) ((if mr (muR (muI s 0 (0)) 22 ((tn (mr s 19 q))) ((if fr < mr (muI s 0 (0)) 22 ((tn (mr s 19 q))) then fr else mr (muI s 0 (0)) 22 ((tn (mr s 19 q)))))) 23 ((tn (mr s 19 q))) < (fr + hs) then (fr + hs) else mr (muR (muI s 0 (0)) 22 ((tn (mr s 19 q))) ((if fr < mr (muI s 0 (0)) 22 ((tn (mr s 19 q))) then fr else mr (muI s 0 (0)) 22 ((tn (mr s 19 q)))))) 23 ((tn (mr s 19 q)))))) 11 np (nI a)) 12 np (nI ll)) 13 np (fr)) 14 np ((fr + hs))) 15 np ((-1))) 16 np (ur)) 17 np (0)) 18 np (w)) 19 np ((mr (muI s 0 (0)) 19 q)))) E (fun _ h => (List.mem_cons_of_mem _ (List.mem_append_right _ h))) (List.mem_cons_of_mem _ (List.mem_append_left _ (List.mem_append_left _ (List.mem_of_getElem? (i := 1) rfl)))) dX6_apply_352 ?_
                                    refine g_iload E dX6_apply_355 3 rfl ?_
                                    exact g_iret E hE hr dX6_apply_357 (Nat.le_of_ble_eq_true rfl) (Nat.le_of_ble_eq_true rfl) ⟨(muI (muR (muR (muR (muR (muR (muR (muR (muR (muR (muR (muR (muI s 0 (0)) 22 ((tn (mr s 19 q))) ((if fr < mr (muI s 0 (0)) 22 ((tn (mr s 19 q))) then fr else mr (muI s 0 (0)) 22 ((tn (mr s 19 q)))))) 23 ((tn (mr s 19 q))) ((if mr (muR (muI s 0 (0)) 22 ((tn (mr s 19 q))) ((if fr < mr (muI s 0 (0)) 22 ((tn (mr s 19 q))) then fr else mr (muI s 0 (0)) 22 ((tn (mr s 19 q)))))) 23 ((tn (mr s 19 q))) < (fr + hs) then (fr + hs) else mr (muR (muI s 0 (0)) 22 ((tn (mr s 19 q))) ((if fr < mr (muI s 0 (0)) 22 ((tn (mr s 19 q))) then fr else mr (muI s 0 (0)) 22 ((tn (mr s 19 q)))))) 23 ((tn (mr s 19 q)))))) 11 np (nI a)) 12 np (nI ll)) 13 np (fr)) 14 np ((fr + hs))) 15 np ((-1))) 16 np (ur)) 17 np (0)) 18 np (w)) 19 np ((mr (muI s 0 (0)) 19 q))) 21 ((nI np + 1))), rfl, Or.inl ⟨a, False, w, 0, (mr s 19 q), (mOld s (tn (mr s 19 q)) fr (fr + hs)), ⟨ha6, rfl, ⟨ll, hll, rfl⟩, Or.inl ⟨rfl, rfl⟩⟩, ⟨bI_ne0.mp c_45, bI_ne0.mp c_56, Int32.not_lt.mp c_64⟩, hnp, hW, Or.inr (Or.inr ⟨c_145, rfl, q, hq, h_o.1, c_150, hqF, hqm, rfl, rfl⟩), rfl, rfl⟩⟩
                              · exact absurd c_176 hne
                          · rw [hv9]
                            show G C (mW (xy C) ma (muI s 0 (0))) 0 0 165 [(11, .int (w)), (10, .int ((fr + hs))), (9, .int (nI np)), (8, .int (1)), (7, .int (1)), (0, .ref (ma 0)), (1, .int (nI a)), (2, .int (nI ll)), (3, .int (fr)), (4, .int (hs)), (5, .int ((-1))), (6, .int (ur))] [.int ((-1))]
                            refine g_istore (L' := [(12, .int ((-1))), (11, .int (w)), (10, .int ((fr + hs))), (9, .int (nI np)), (8, .int (1)), (7, .int (1)), (0, .ref (ma 0)), (1, .int (nI a)), (2, .int (nI ll)), (3, .int (fr)), (4, .int (hs)), (5, .int ((-1))), (6, .int (ur))]) E dX6_apply_165 (by decide) rfl ?_
                            refine g_iload E dX6_apply_167 1 rfl ?_
                            refine g_iconst (v := (-1)) E dX6_apply_169 (by decide) ?_
                            refine g_icmp_ne (tgt := 215) E dX6_apply_170 (by decide) (fun c_170 => ?_) (fun c_170 => ?_)
                            · exact absurd c_145 c_170
                            · refine g_iload E dX6_apply_173 0 rfl ?_
                              refine g_iconst (v := (-1)) E dX6_apply_175 (by decide) ?_
                              refine g_icmp_ne (tgt := 215) E dX6_apply_176 (by decide) (fun c_176 => ?_) (fun c_176 => ?_)
                              · exact absurd c_176 (by decide)
                              · refine g_aload_n E dX6_apply_179 rfl 6 rfl ?_
                                refine k_get_openings (s := (muI s 0 (0))) E (fun _ h => (List.mem_cons_of_mem _ (List.mem_append_right _ h))) (List.mem_cons_of_mem _ (List.mem_append_left _ (List.mem_append_left _ (List.mem_of_getElem? (i := 2) rfl)))) dX6_apply_180 ?_
                                rw [show mi (muI s 0 (0)) 24 = nI no from hno]
                                show G C (mW (xy C) ma (muI s 0 (0))) 0 0 183 [(12, .int ((-1))), (11, .int (w)), (10, .int ((fr + hs))), (9, .int (nI np)), (8, .int (1)), (7, .int (1)), (0, .ref (ma 0)), (1, .int (nI a)), (2, .int (nI ll)), (3, .int (fr)), (4, .int (hs)), (5, .int ((-1))), (6, .int (ur))] [.int (nI no)]
                                refine g_istore (L' := [(12, .int (nI no)), (11, .int (w)), (10, .int ((fr + hs))), (9, .int (nI np)), (8, .int (1)), (7, .int (1)), (0, .ref (ma 0)), (1, .int (nI a)), (2, .int (nI ll)), (3, .int (fr)), (4, .int (hs)), (5, .int ((-1))), (6, .int (ur))]) E dX6_apply_183 (by decide) rfl ?_
                                refine g_aload_n E dX6_apply_185 rfl 6 rfl ?_
                                refine k_get_first (s := (muI s 0 (0))) E (fun _ h => (List.mem_cons_of_mem _ (List.mem_append_right _ h))) (List.mem_cons_of_mem _ (List.mem_append_left _ (List.mem_append_left _ (List.mem_of_getElem? (i := 3) rfl)))) dX6_apply_186 ?_
                                refine g_iload E dX6_apply_189 0 rfl ?_
                                refine g_iload_n E dX6_apply_191 rfl 9 rfl ?_
                                refine k_ast_first (s := (muI s 0 (0))) E no rfl (by omega) dX6_apply_192 ?_
                                refine g_aload_n E dX6_apply_193 rfl 6 rfl ?_
                                refine k_get_behind (s := (muR (muI s 0 (0)) 22 no (fr))) E (fun _ h => (List.mem_cons_of_mem _ (List.mem_append_right _ h))) (List.mem_cons_of_mem _ (List.mem_append_left _ (List.mem_append_left _ (List.mem_of_getElem? (i := 4) rfl)))) dX6_apply_194 ?_
                                refine g_iload E dX6_apply_197 0 rfl ?_
                                refine g_iload E dX6_apply_199 2 rfl ?_
                                refine k_ast_behind (s := (muR (muI s 0 (0)) 22 no (fr))) E no rfl (by omega) dX6_apply_201 ?_
                                refine g_aload_n E dX6_apply_202 rfl 6 rfl ?_
                                refine g_dup E dX6_apply_203 rfl ?_
                                refine k_get_openings (s := (muR (muR (muI s 0 (0)) 22 no (fr)) 23 no ((fr + hs)))) E (fun _ h => (List.mem_cons_of_mem _ (List.mem_append_right _ h))) (List.mem_cons_of_mem _ (List.mem_append_left _ (List.mem_append_left _ (List.mem_of_getElem? (i := 2) rfl)))) dX6_apply_204 ?_
                                rw [show mi (muR (muR (muI s 0 (0)) 22 no (fr)) 23 no ((fr + hs))) 24 = nI no from hno]
                                show G C (mW (xy C) ma (muR (muR (muI s 0 (0)) 22 no (fr)) 23 no ((fr + hs)))) 0 0 207 [(12, .int (nI no)), (11, .int (w)), (10, .int ((fr + hs))), (9, .int (nI np)), (8, .int (1)), (7, .int (1)), (0, .ref (ma 0)), (1, .int (nI a)), (2, .int (nI ll)), (3, .int (fr)), (4, .int (hs)), (5, .int ((-1))), (6, .int (ur))] [.int (nI no), .ref (ma 0)]
                                refine g_iconst (v := 1) E dX6_apply_207 (by decide) ?_
                                refine g_iadd E dX6_apply_208 ?_
                                refine k_put_openings (s := (muR (muR (muI s 0 (0)) 22 no (fr)) 23 no ((fr + hs)))) E (fun _ h => (List.mem_cons_of_mem _ (List.mem_append_right _ h))) (List.mem_cons_of_mem _ (List.mem_append_left _ (List.mem_append_left _ (List.mem_of_getElem? (i := 2) rfl)))) dX6_apply_209 ?_
                                refine g_goto (tgt := 258) E dX6_apply_212 (by decide) ?_
                                refine g_aload_n E dX6_apply_258 rfl 6 rfl ?_
                                refine k_get_applicant (s := (muI (muR (muR (muI s 0 (0)) 22 no (fr)) 23 no ((fr + hs))) 24 ((nI no + 1)))) E (fun _ h => (List.mem_cons_of_mem _ (List.mem_append_right _ h))) (List.mem_cons_of_mem _ (List.mem_append_left _ (List.mem_append_left _ (List.mem_of_getElem? (i := 5) rfl)))) dX6_apply_259 ?_
                                refine g_iload E dX6_apply_262 3 rfl ?_
                                refine g_iload_n E dX6_apply_264 rfl 7 rfl ?_
                                refine k_ast_applicant (s := (muI (muR (muR (muI s 0 (0)) 22 no (fr)) 23 no ((fr + hs))) 24 ((nI no + 1)))) E np rfl (by omega) dX6_apply_265 ?_
                                refine g_aload_n E dX6_apply_266 rfl 6 rfl ?_
                                refine k_get_lane (s := (muR (muI (muR (muR (muI s 0 (0)) 22 no (fr)) 23 no ((fr + hs))) 24 ((nI no + 1))) 11 np (nI a))) E (fun _ h => (List.mem_cons_of_mem _ (List.mem_append_right _ h))) (List.mem_cons_of_mem _ (List.mem_append_left _ (List.mem_append_left _ (List.mem_of_getElem? (i := 6) rfl)))) dX6_apply_267 ?_
                                refine g_iload E dX6_apply_270 3 rfl ?_
                                refine g_iload_n E dX6_apply_272 rfl 8 rfl ?_
                                refine k_ast_lane (s := (muR (muI (muR (muR (muI s 0 (0)) 22 no (fr)) 23 no ((fr + hs))) 24 ((nI no + 1))) 11 np (nI a))) E np rfl (by omega) dX6_apply_273 ?_
                                refine g_aload_n E dX6_apply_274 rfl 6 rfl ?_
                                refine k_get_from (s := (muR (muR (muI (muR (muR (muI s 0 (0)) 22 no (fr)) 23 no ((fr + hs))) 24 ((nI no + 1))) 11 np (nI a)) 12 np (nI ll))) E (fun _ h => (List.mem_cons_of_mem _ (List.mem_append_right _ h))) (List.mem_cons_of_mem _ (List.mem_append_left _ (List.mem_append_left _ (List.mem_of_getElem? (i := 7) rfl)))) dX6_apply_275 ?_
                                refine g_iload E dX6_apply_278 3 rfl ?_
                                refine g_iload_n E dX6_apply_280 rfl 9 rfl ?_
                                refine k_ast_from (s := (muR (muR (muI (muR (muR (muI s 0 (0)) 22 no (fr)) 23 no ((fr + hs))) 24 ((nI no + 1))) 11 np (nI a)) 12 np (nI ll))) E np rfl (by omega) dX6_apply_281 ?_
                                refine g_aload_n E dX6_apply_282 rfl 6 rfl ?_
                                refine k_get_end (s := (muR (muR (muR (muI (muR (muR (muI s 0 (0)) 22 no (fr)) 23 no ((fr + hs))) 24 ((nI no + 1))) 11 np (nI a)) 12 np (nI ll)) 13 np (fr))) E (fun _ h => (List.mem_cons_of_mem _ (List.mem_append_right _ h))) (List.mem_cons_of_mem _ (List.mem_append_left _ (List.mem_append_left _ (List.mem_of_getElem? (i := 8) rfl)))) dX6_apply_283 ?_
                                refine g_iload E dX6_apply_286 3 rfl ?_
                                refine g_iload E dX6_apply_288 2 rfl ?_
                                refine k_ast_end (s := (muR (muR (muR (muI (muR (muR (muI s 0 (0)) 22 no (fr)) 23 no ((fr + hs))) 24 ((nI no + 1))) 11 np (nI a)) 12 np (nI ll)) 13 np (fr))) E np rfl (by omega) dX6_apply_290 ?_
                                refine g_aload_n E dX6_apply_291 rfl 6 rfl ?_
                                refine k_get_needs (s := (muR (muR (muR (muR (muI (muR (muR (muI s 0 (0)) 22 no (fr)) 23 no ((fr + hs))) 24 ((nI no + 1))) 11 np (nI a)) 12 np (nI ll)) 13 np (fr)) 14 np ((fr + hs)))) E (fun _ h => (List.mem_cons_of_mem _ (List.mem_append_right _ h))) (List.mem_cons_of_mem _ (List.mem_append_left _ (List.mem_append_left _ (List.mem_of_getElem? (i := 9) rfl)))) dX6_apply_292 ?_
                                refine g_iload E dX6_apply_295 3 rfl ?_
                                refine g_iload E dX6_apply_297 11 rfl ?_
                                refine k_ast_needs (s := (muR (muR (muR (muR (muI (muR (muR (muI s 0 (0)) 22 no (fr)) 23 no ((fr + hs))) 24 ((nI no + 1))) 11 np (nI a)) 12 np (nI ll)) 13 np (fr)) 14 np ((fr + hs)))) E np rfl (by omega) dX6_apply_299 ?_
                                refine g_aload_n E dX6_apply_300 rfl 6 rfl ?_
                                refine k_get_isUrgent (s := (muR (muR (muR (muR (muR (muI (muR (muR (muI s 0 (0)) 22 no (fr)) 23 no ((fr + hs))) 24 ((nI no + 1))) 11 np (nI a)) 12 np (nI ll)) 13 np (fr)) 14 np ((fr + hs))) 15 np ((-1)))) E (fun _ h => (List.mem_cons_of_mem _ (List.mem_append_right _ h))) (List.mem_cons_of_mem _ (List.mem_append_left _ (List.mem_append_left _ (List.mem_of_getElem? (i := 10) rfl)))) dX6_apply_301 ?_
                                refine g_iload E dX6_apply_304 3 rfl ?_
                                refine g_iload E dX6_apply_306 12 rfl ?_
                                refine k_ast_isUrgent (s := (muR (muR (muR (muR (muR (muI (muR (muR (muI s 0 (0)) 22 no (fr)) 23 no ((fr + hs))) 24 ((nI no + 1))) 11 np (nI a)) 12 np (nI ll)) 13 np (fr)) 14 np ((fr + hs))) 15 np ((-1)))) E (hu) np rfl (by omega) dX6_apply_308 ?_
                                refine g_aload_n E dX6_apply_309 rfl 6 rfl ?_
                                refine k_get_state (s := (muR (muR (muR (muR (muR (muR (muI (muR (muR (muI s 0 (0)) 22 no (fr)) 23 no ((fr + hs))) 24 ((nI no + 1))) 11 np (nI a)) 12 np (nI ll)) 13 np (fr)) 14 np ((fr + hs))) 15 np ((-1))) 16 np (ur))) E (fun _ h => (List.mem_cons_of_mem _ (List.mem_append_right _ h))) (List.mem_cons_of_mem _ (List.mem_append_left _ (List.mem_append_left _ (List.mem_of_getElem? (i := 11) rfl)))) dX6_apply_310 ?_
                                refine g_iload E dX6_apply_313 3 rfl ?_
                                refine g_iload E dX6_apply_315 1 rfl ?_
                                refine g_iconst (v := (-1)) E dX6_apply_317 (by decide) ?_
                                refine g_icmp_ne (tgt := 325) E dX6_apply_318 (by decide) (fun c_318 => ?_) (fun c_318 => ?_)
                                · exact absurd c_145 c_318
                                · refine g_iconst (v := 0) E dX6_apply_321 (by decide) ?_
                                  refine g_goto (tgt := 326) E dX6_apply_322 (by decide) ?_
                                  refine k_ast_state (s := (muR (muR (muR (muR (muR (muR (muI (muR (muR (muI s 0 (0)) 22 no (fr)) 23 no ((fr + hs))) 24 ((nI no + 1))) 11 np (nI a)) 12 np (nI ll)) 13 np (fr)) 14 np ((fr + hs))) 15 np ((-1))) 16 np (ur))) E np rfl (by omega) dX6_apply_326 ?_
                                  refine g_aload_n E dX6_apply_327 rfl 6 rfl ?_
                                  refine k_get_cause (s := (muR (muR (muR (muR (muR (muR (muR (muI (muR (muR (muI s 0 (0)) 22 no (fr)) 23 no ((fr + hs))) 24 ((nI no + 1))) 11 np (nI a)) 12 np (nI ll)) 13 np (fr)) 14 np ((fr + hs))) 15 np ((-1))) 16 np (ur)) 17 np (0))) E (fun _ h => (List.mem_cons_of_mem _ (List.mem_append_right _ h))) (List.mem_cons_of_mem _ (List.mem_append_left _ (List.mem_append_left _ (List.mem_of_getElem? (i := 12) rfl)))) dX6_apply_328 ?_
                                  refine g_iload E dX6_apply_331 3 rfl ?_
                                  refine g_iload E dX6_apply_333 1 rfl ?_
                                  refine k_ast_cause (s := (muR (muR (muR (muR (muR (muR (muR (muI (muR (muR (muI s 0 (0)) 22 no (fr)) 23 no ((fr + hs))) 24 ((nI no + 1))) 11 np (nI a)) 12 np (nI ll)) 13 np (fr)) 14 np ((fr + hs))) 15 np ((-1))) 16 np (ur)) 17 np (0))) E np rfl (by omega) dX6_apply_335 ?_
                                  refine g_aload_n E dX6_apply_336 rfl 6 rfl ?_
                                  refine k_get_opening (s := (muR (muR (muR (muR (muR (muR (muR (muR (muI (muR (muR (muI s 0 (0)) 22 no (fr)) 23 no ((fr + hs))) 24 ((nI no + 1))) 11 np (nI a)) 12 np (nI ll)) 13 np (fr)) 14 np ((fr + hs))) 15 np ((-1))) 16 np (ur)) 17 np (0)) 18 np (w))) E (fun _ h => (List.mem_cons_of_mem _ (List.mem_append_right _ h))) (List.mem_cons_of_mem _ (List.mem_append_left _ (List.mem_append_left _ (List.mem_of_getElem? (i := 13) rfl)))) dX6_apply_337 ?_
                                  refine g_iload E dX6_apply_340 3 rfl ?_
                                  refine g_iload E dX6_apply_342 0 rfl ?_
                                  refine k_ast_opening (s := (muR (muR (muR (muR (muR (muR (muR (muR (muI (muR (muR (muI s 0 (0)) 22 no (fr)) 23 no ((fr + hs))) 24 ((nI no + 1))) 11 np (nI a)) 12 np (nI ll)) 13 np (fr)) 14 np ((fr + hs))) 15 np ((-1))) 16 np (ur)) 17 np (0)) 18 np (w))) E np rfl (by omega) dX6_apply_344 ?_
                                  refine g_aload_n E dX6_apply_345 rfl 6 rfl ?_
                                  refine g_dup E dX6_apply_346 rfl ?_
                                  refine k_get_permits (s := (muR (muR (muR (muR (muR (muR (muR (muR (muR (muI (muR (muR (muI s 0 (0)) 22 no (fr)) 23 no ((fr + hs))) 24 ((nI no + 1))) 11 np (nI a)) 12 np (nI ll)) 13 np (fr)) 14 np ((fr + hs))) 15 np ((-1))) 16 np (ur)) 17 np (0)) 18 np (w)) 19 np (nI no))) E (fun _ h => (List.mem_cons_of_mem _ (List.mem_append_right _ h))) (List.mem_cons_of_mem _ (List.mem_append_left _ (List.mem_append_left _ (List.mem_of_getElem? (i := 1) rfl)))) dX6_apply_347 ?_
                                  rw [show mi (muR (muR (muR (muR (muR (muR (muR (muR (muR (muI (muR (muR (muI s 0 (0)) 22 no (fr)) 23 no ((fr + hs))) 24 ((nI no + 1))) 11 np (nI a)) 12 np (nI ll)) 13 np (fr)) 14 np ((fr + hs))) 15 np ((-1))) 16 np (ur)) 17 np (0)) 18 np (w)) 19 np (nI no)) 21 = nI np from hp0]
                                  show G C (mW (xy C) ma (muR (muR (muR (muR (muR (muR (muR (muR (muR (muI (muR (muR (muI s 0 (0)) 22 no (fr)) 23 no ((fr + hs))) 24 ((nI no + 1))) 11 np (nI a)) 12 np (nI ll)) 13 np (fr)) 14 np ((fr + hs))) 15 np ((-1))) 16 np (ur)) 17 np (0)) 18 np (w)) 19 np (nI no))) 0 0 350 [(12, .int (nI no)), (11, .int (w)), (10, .int ((fr + hs))), (9, .int (nI np)), (8, .int (1)), (7, .int (1)), (0, .ref (ma 0)), (1, .int (nI a)), (2, .int (nI ll)), (3, .int (fr)), (4, .int (hs)), (5, .int ((-1))), (6, .int (ur))] [.int (nI np), .ref (ma 0)]
                                  refine g_iconst (v := 1) E dX6_apply_350 (by decide) ?_
                                  refine g_iadd E dX6_apply_351 ?_
                                  refine k_put_permits (s := (muR (muR (muR (muR (muR (muR (muR (muR (muR (muI (muR (muR (muI s 0 (0)) 22 no (fr)) 23 no ((fr + hs))) 24 ((nI no + 1))) 11 np (nI a)) 12 np (nI ll)) 13 np (fr)) 14 np ((fr + hs))) 15 np ((-1))) 16 np (ur)) 17 np (0)) 18 np (w)) 19 np (nI no))) E (fun _ h => (List.mem_cons_of_mem _ (List.mem_append_right _ h))) (List.mem_cons_of_mem _ (List.mem_append_left _ (List.mem_append_left _ (List.mem_of_getElem? (i := 1) rfl)))) dX6_apply_352 ?_
                                  refine g_iload E dX6_apply_355 3 rfl ?_
                                  exact g_iret E hE hr dX6_apply_357 (Nat.le_of_ble_eq_true rfl) (Nat.le_of_ble_eq_true rfl) ⟨(muI (muR (muR (muR (muR (muR (muR (muR (muR (muR (muI (muR (muR (muI s 0 (0)) 22 no (fr)) 23 no ((fr + hs))) 24 ((nI no + 1))) 11 np (nI a)) 12 np (nI ll)) 13 np (fr)) 14 np ((fr + hs))) 15 np ((-1))) 16 np (ur)) 17 np (0)) 18 np (w)) 19 np (nI no)) 21 ((nI np + 1))), rfl, Or.inl ⟨a, False, w, 0, (nI no), (mNew s no fr (fr + hs)), ⟨ha6, rfl, ⟨ll, hll, rfl⟩, Or.inl ⟨rfl, rfl⟩⟩, ⟨bI_ne0.mp c_45, bI_ne0.mp c_56, Int32.not_lt.mp c_64⟩, hnp, hW, Or.inr (Or.inl ⟨c_145, rfl, Or.inr ⟨c_150, Or.inr ⟨hqn, rfl⟩⟩, rfl, rfl⟩), rfl, rfl⟩⟩
                        · refine g_iconst (v := (-1)) E dX6_apply_153 (by decide) ?_
                          refine g_goto (tgt := 165) E dX6_apply_154 (by decide) ?_
                          refine g_istore (L' := [(12, .int ((-1))), (11, .int (w)), (10, .int ((fr + hs))), (9, .int (nI np)), (8, .int (1)), (7, .int (1)), (0, .ref (ma 0)), (1, .int (nI a)), (2, .int (nI ll)), (3, .int (fr)), (4, .int (hs)), (5, .int ((-1))), (6, .int (ur))]) E dX6_apply_165 (by decide) rfl ?_
                          refine g_iload E dX6_apply_167 1 rfl ?_
                          refine g_iconst (v := (-1)) E dX6_apply_169 (by decide) ?_
                          refine g_icmp_ne (tgt := 215) E dX6_apply_170 (by decide) (fun c_170 => ?_) (fun c_170 => ?_)
                          · exact absurd c_145 c_170
                          · refine g_iload E dX6_apply_173 0 rfl ?_
                            refine g_iconst (v := (-1)) E dX6_apply_175 (by decide) ?_
                            refine g_icmp_ne (tgt := 215) E dX6_apply_176 (by decide) (fun c_176 => ?_) (fun c_176 => ?_)
                            · exact absurd c_176 (by decide)
                            · refine g_aload_n E dX6_apply_179 rfl 6 rfl ?_
                              refine k_get_openings (s := (muI s 0 (0))) E (fun _ h => (List.mem_cons_of_mem _ (List.mem_append_right _ h))) (List.mem_cons_of_mem _ (List.mem_append_left _ (List.mem_append_left _ (List.mem_of_getElem? (i := 2) rfl)))) dX6_apply_180 ?_
                              rw [show mi (muI s 0 (0)) 24 = nI no from hno]
                              show G C (mW (xy C) ma (muI s 0 (0))) 0 0 183 [(12, .int ((-1))), (11, .int (w)), (10, .int ((fr + hs))), (9, .int (nI np)), (8, .int (1)), (7, .int (1)), (0, .ref (ma 0)), (1, .int (nI a)), (2, .int (nI ll)), (3, .int (fr)), (4, .int (hs)), (5, .int ((-1))), (6, .int (ur))] [.int (nI no)]
                              refine g_istore (L' := [(12, .int (nI no)), (11, .int (w)), (10, .int ((fr + hs))), (9, .int (nI np)), (8, .int (1)), (7, .int (1)), (0, .ref (ma 0)), (1, .int (nI a)), (2, .int (nI ll)), (3, .int (fr)), (4, .int (hs)), (5, .int ((-1))), (6, .int (ur))]) E dX6_apply_183 (by decide) rfl ?_
                              refine g_aload_n E dX6_apply_185 rfl 6 rfl ?_
                              refine k_get_first (s := (muI s 0 (0))) E (fun _ h => (List.mem_cons_of_mem _ (List.mem_append_right _ h))) (List.mem_cons_of_mem _ (List.mem_append_left _ (List.mem_append_left _ (List.mem_of_getElem? (i := 3) rfl)))) dX6_apply_186 ?_
                              refine g_iload E dX6_apply_189 0 rfl ?_
                              refine g_iload_n E dX6_apply_191 rfl 9 rfl ?_
                              refine k_ast_first (s := (muI s 0 (0))) E no rfl (by omega) dX6_apply_192 ?_
                              refine g_aload_n E dX6_apply_193 rfl 6 rfl ?_
                              refine k_get_behind (s := (muR (muI s 0 (0)) 22 no (fr))) E (fun _ h => (List.mem_cons_of_mem _ (List.mem_append_right _ h))) (List.mem_cons_of_mem _ (List.mem_append_left _ (List.mem_append_left _ (List.mem_of_getElem? (i := 4) rfl)))) dX6_apply_194 ?_
                              refine g_iload E dX6_apply_197 0 rfl ?_
                              refine g_iload E dX6_apply_199 2 rfl ?_
                              refine k_ast_behind (s := (muR (muI s 0 (0)) 22 no (fr))) E no rfl (by omega) dX6_apply_201 ?_
                              refine g_aload_n E dX6_apply_202 rfl 6 rfl ?_
                              refine g_dup E dX6_apply_203 rfl ?_
                              refine k_get_openings (s := (muR (muR (muI s 0 (0)) 22 no (fr)) 23 no ((fr + hs)))) E (fun _ h => (List.mem_cons_of_mem _ (List.mem_append_right _ h))) (List.mem_cons_of_mem _ (List.mem_append_left _ (List.mem_append_left _ (List.mem_of_getElem? (i := 2) rfl)))) dX6_apply_204 ?_
                              rw [show mi (muR (muR (muI s 0 (0)) 22 no (fr)) 23 no ((fr + hs))) 24 = nI no from hno]
                              show G C (mW (xy C) ma (muR (muR (muI s 0 (0)) 22 no (fr)) 23 no ((fr + hs)))) 0 0 207 [(12, .int (nI no)), (11, .int (w)), (10, .int ((fr + hs))), (9, .int (nI np)), (8, .int (1)), (7, .int (1)), (0, .ref (ma 0)), (1, .int (nI a)), (2, .int (nI ll)), (3, .int (fr)), (4, .int (hs)), (5, .int ((-1))), (6, .int (ur))] [.int (nI no), .ref (ma 0)]
                              refine g_iconst (v := 1) E dX6_apply_207 (by decide) ?_
                              refine g_iadd E dX6_apply_208 ?_
                              refine k_put_openings (s := (muR (muR (muI s 0 (0)) 22 no (fr)) 23 no ((fr + hs)))) E (fun _ h => (List.mem_cons_of_mem _ (List.mem_append_right _ h))) (List.mem_cons_of_mem _ (List.mem_append_left _ (List.mem_append_left _ (List.mem_of_getElem? (i := 2) rfl)))) dX6_apply_209 ?_
                              refine g_goto (tgt := 258) E dX6_apply_212 (by decide) ?_
                              refine g_aload_n E dX6_apply_258 rfl 6 rfl ?_
                              refine k_get_applicant (s := (muI (muR (muR (muI s 0 (0)) 22 no (fr)) 23 no ((fr + hs))) 24 ((nI no + 1)))) E (fun _ h => (List.mem_cons_of_mem _ (List.mem_append_right _ h))) (List.mem_cons_of_mem _ (List.mem_append_left _ (List.mem_append_left _ (List.mem_of_getElem? (i := 5) rfl)))) dX6_apply_259 ?_
                              refine g_iload E dX6_apply_262 3 rfl ?_
                              refine g_iload_n E dX6_apply_264 rfl 7 rfl ?_
                              refine k_ast_applicant (s := (muI (muR (muR (muI s 0 (0)) 22 no (fr)) 23 no ((fr + hs))) 24 ((nI no + 1)))) E np rfl (by omega) dX6_apply_265 ?_
                              refine g_aload_n E dX6_apply_266 rfl 6 rfl ?_
                              refine k_get_lane (s := (muR (muI (muR (muR (muI s 0 (0)) 22 no (fr)) 23 no ((fr + hs))) 24 ((nI no + 1))) 11 np (nI a))) E (fun _ h => (List.mem_cons_of_mem _ (List.mem_append_right _ h))) (List.mem_cons_of_mem _ (List.mem_append_left _ (List.mem_append_left _ (List.mem_of_getElem? (i := 6) rfl)))) dX6_apply_267 ?_
                              refine g_iload E dX6_apply_270 3 rfl ?_
                              refine g_iload_n E dX6_apply_272 rfl 8 rfl ?_
                              refine k_ast_lane (s := (muR (muI (muR (muR (muI s 0 (0)) 22 no (fr)) 23 no ((fr + hs))) 24 ((nI no + 1))) 11 np (nI a))) E np rfl (by omega) dX6_apply_273 ?_
                              refine g_aload_n E dX6_apply_274 rfl 6 rfl ?_
                              refine k_get_from (s := (muR (muR (muI (muR (muR (muI s 0 (0)) 22 no (fr)) 23 no ((fr + hs))) 24 ((nI no + 1))) 11 np (nI a)) 12 np (nI ll))) E (fun _ h => (List.mem_cons_of_mem _ (List.mem_append_right _ h))) (List.mem_cons_of_mem _ (List.mem_append_left _ (List.mem_append_left _ (List.mem_of_getElem? (i := 7) rfl)))) dX6_apply_275 ?_
                              refine g_iload E dX6_apply_278 3 rfl ?_
                              refine g_iload_n E dX6_apply_280 rfl 9 rfl ?_
                              refine k_ast_from (s := (muR (muR (muI (muR (muR (muI s 0 (0)) 22 no (fr)) 23 no ((fr + hs))) 24 ((nI no + 1))) 11 np (nI a)) 12 np (nI ll))) E np rfl (by omega) dX6_apply_281 ?_
                              refine g_aload_n E dX6_apply_282 rfl 6 rfl ?_
                              refine k_get_end (s := (muR (muR (muR (muI (muR (muR (muI s 0 (0)) 22 no (fr)) 23 no ((fr + hs))) 24 ((nI no + 1))) 11 np (nI a)) 12 np (nI ll)) 13 np (fr))) E (fun _ h => (List.mem_cons_of_mem _ (List.mem_append_right _ h))) (List.mem_cons_of_mem _ (List.mem_append_left _ (List.mem_append_left _ (List.mem_of_getElem? (i := 8) rfl)))) dX6_apply_283 ?_
                              refine g_iload E dX6_apply_286 3 rfl ?_
                              refine g_iload E dX6_apply_288 2 rfl ?_
                              refine k_ast_end (s := (muR (muR (muR (muI (muR (muR (muI s 0 (0)) 22 no (fr)) 23 no ((fr + hs))) 24 ((nI no + 1))) 11 np (nI a)) 12 np (nI ll)) 13 np (fr))) E np rfl (by omega) dX6_apply_290 ?_
                              refine g_aload_n E dX6_apply_291 rfl 6 rfl ?_
                              refine k_get_needs (s := (muR (muR (muR (muR (muI (muR (muR (muI s 0 (0)) 22 no (fr)) 23 no ((fr + hs))) 24 ((nI no + 1))) 11 np (nI a)) 12 np (nI ll)) 13 np (fr)) 14 np ((fr + hs)))) E (fun _ h => (List.mem_cons_of_mem _ (List.mem_append_right _ h))) (List.mem_cons_of_mem _ (List.mem_append_left _ (List.mem_append_left _ (List.mem_of_getElem? (i := 9) rfl)))) dX6_apply_292 ?_
                              refine g_iload E dX6_apply_295 3 rfl ?_
                              refine g_iload E dX6_apply_297 11 rfl ?_
                              refine k_ast_needs (s := (muR (muR (muR (muR (muI (muR (muR (muI s 0 (0)) 22 no (fr)) 23 no ((fr + hs))) 24 ((nI no + 1))) 11 np (nI a)) 12 np (nI ll)) 13 np (fr)) 14 np ((fr + hs)))) E np rfl (by omega) dX6_apply_299 ?_
                              refine g_aload_n E dX6_apply_300 rfl 6 rfl ?_
                              refine k_get_isUrgent (s := (muR (muR (muR (muR (muR (muI (muR (muR (muI s 0 (0)) 22 no (fr)) 23 no ((fr + hs))) 24 ((nI no + 1))) 11 np (nI a)) 12 np (nI ll)) 13 np (fr)) 14 np ((fr + hs))) 15 np ((-1)))) E (fun _ h => (List.mem_cons_of_mem _ (List.mem_append_right _ h))) (List.mem_cons_of_mem _ (List.mem_append_left _ (List.mem_append_left _ (List.mem_of_getElem? (i := 10) rfl)))) dX6_apply_301 ?_
                              refine g_iload E dX6_apply_304 3 rfl ?_
                              refine g_iload E dX6_apply_306 12 rfl ?_
                              refine k_ast_isUrgent (s := (muR (muR (muR (muR (muR (muI (muR (muR (muI s 0 (0)) 22 no (fr)) 23 no ((fr + hs))) 24 ((nI no + 1))) 11 np (nI a)) 12 np (nI ll)) 13 np (fr)) 14 np ((fr + hs))) 15 np ((-1)))) E (hu) np rfl (by omega) dX6_apply_308 ?_
                              refine g_aload_n E dX6_apply_309 rfl 6 rfl ?_
                              refine k_get_state (s := (muR (muR (muR (muR (muR (muR (muI (muR (muR (muI s 0 (0)) 22 no (fr)) 23 no ((fr + hs))) 24 ((nI no + 1))) 11 np (nI a)) 12 np (nI ll)) 13 np (fr)) 14 np ((fr + hs))) 15 np ((-1))) 16 np (ur))) E (fun _ h => (List.mem_cons_of_mem _ (List.mem_append_right _ h))) (List.mem_cons_of_mem _ (List.mem_append_left _ (List.mem_append_left _ (List.mem_of_getElem? (i := 11) rfl)))) dX6_apply_310 ?_
                              refine g_iload E dX6_apply_313 3 rfl ?_
                              refine g_iload E dX6_apply_315 1 rfl ?_
                              refine g_iconst (v := (-1)) E dX6_apply_317 (by decide) ?_
                              refine g_icmp_ne (tgt := 325) E dX6_apply_318 (by decide) (fun c_318 => ?_) (fun c_318 => ?_)
                              · exact absurd c_145 c_318
                              · refine g_iconst (v := 0) E dX6_apply_321 (by decide) ?_
                                refine g_goto (tgt := 326) E dX6_apply_322 (by decide) ?_
                                refine k_ast_state (s := (muR (muR (muR (muR (muR (muR (muI (muR (muR (muI s 0 (0)) 22 no (fr)) 23 no ((fr + hs))) 24 ((nI no + 1))) 11 np (nI a)) 12 np (nI ll)) 13 np (fr)) 14 np ((fr + hs))) 15 np ((-1))) 16 np (ur))) E np rfl (by omega) dX6_apply_326 ?_
                                refine g_aload_n E dX6_apply_327 rfl 6 rfl ?_
                                refine k_get_cause (s := (muR (muR (muR (muR (muR (muR (muR (muI (muR (muR (muI s 0 (0)) 22 no (fr)) 23 no ((fr + hs))) 24 ((nI no + 1))) 11 np (nI a)) 12 np (nI ll)) 13 np (fr)) 14 np ((fr + hs))) 15 np ((-1))) 16 np (ur)) 17 np (0))) E (fun _ h => (List.mem_cons_of_mem _ (List.mem_append_right _ h))) (List.mem_cons_of_mem _ (List.mem_append_left _ (List.mem_append_left _ (List.mem_of_getElem? (i := 12) rfl)))) dX6_apply_328 ?_
                                refine g_iload E dX6_apply_331 3 rfl ?_
                                refine g_iload E dX6_apply_333 1 rfl ?_
                                refine k_ast_cause (s := (muR (muR (muR (muR (muR (muR (muR (muI (muR (muR (muI s 0 (0)) 22 no (fr)) 23 no ((fr + hs))) 24 ((nI no + 1))) 11 np (nI a)) 12 np (nI ll)) 13 np (fr)) 14 np ((fr + hs))) 15 np ((-1))) 16 np (ur)) 17 np (0))) E np rfl (by omega) dX6_apply_335 ?_
                                refine g_aload_n E dX6_apply_336 rfl 6 rfl ?_
                                refine k_get_opening (s := (muR (muR (muR (muR (muR (muR (muR (muR (muI (muR (muR (muI s 0 (0)) 22 no (fr)) 23 no ((fr + hs))) 24 ((nI no + 1))) 11 np (nI a)) 12 np (nI ll)) 13 np (fr)) 14 np ((fr + hs))) 15 np ((-1))) 16 np (ur)) 17 np (0)) 18 np (w))) E (fun _ h => (List.mem_cons_of_mem _ (List.mem_append_right _ h))) (List.mem_cons_of_mem _ (List.mem_append_left _ (List.mem_append_left _ (List.mem_of_getElem? (i := 13) rfl)))) dX6_apply_337 ?_
                                refine g_iload E dX6_apply_340 3 rfl ?_
                                refine g_iload E dX6_apply_342 0 rfl ?_
                                refine k_ast_opening (s := (muR (muR (muR (muR (muR (muR (muR (muR (muI (muR (muR (muI s 0 (0)) 22 no (fr)) 23 no ((fr + hs))) 24 ((nI no + 1))) 11 np (nI a)) 12 np (nI ll)) 13 np (fr)) 14 np ((fr + hs))) 15 np ((-1))) 16 np (ur)) 17 np (0)) 18 np (w))) E np rfl (by omega) dX6_apply_344 ?_
                                refine g_aload_n E dX6_apply_345 rfl 6 rfl ?_
                                refine g_dup E dX6_apply_346 rfl ?_
                                refine k_get_permits (s := (muR (muR (muR (muR (muR (muR (muR (muR (muR (muI (muR (muR (muI s 0 (0)) 22 no (fr)) 23 no ((fr + hs))) 24 ((nI no + 1))) 11 np (nI a)) 12 np (nI ll)) 13 np (fr)) 14 np ((fr + hs))) 15 np ((-1))) 16 np (ur)) 17 np (0)) 18 np (w)) 19 np (nI no))) E (fun _ h => (List.mem_cons_of_mem _ (List.mem_append_right _ h))) (List.mem_cons_of_mem _ (List.mem_append_left _ (List.mem_append_left _ (List.mem_of_getElem? (i := 1) rfl)))) dX6_apply_347 ?_
                                rw [show mi (muR (muR (muR (muR (muR (muR (muR (muR (muR (muI (muR (muR (muI s 0 (0)) 22 no (fr)) 23 no ((fr + hs))) 24 ((nI no + 1))) 11 np (nI a)) 12 np (nI ll)) 13 np (fr)) 14 np ((fr + hs))) 15 np ((-1))) 16 np (ur)) 17 np (0)) 18 np (w)) 19 np (nI no)) 21 = nI np from hp0]
                                show G C (mW (xy C) ma (muR (muR (muR (muR (muR (muR (muR (muR (muR (muI (muR (muR (muI s 0 (0)) 22 no (fr)) 23 no ((fr + hs))) 24 ((nI no + 1))) 11 np (nI a)) 12 np (nI ll)) 13 np (fr)) 14 np ((fr + hs))) 15 np ((-1))) 16 np (ur)) 17 np (0)) 18 np (w)) 19 np (nI no))) 0 0 350 [(12, .int (nI no)), (11, .int (w)), (10, .int ((fr + hs))), (9, .int (nI np)), (8, .int (1)), (7, .int (1)), (0, .ref (ma 0)), (1, .int (nI a)), (2, .int (nI ll)), (3, .int (fr)), (4, .int (hs)), (5, .int ((-1))), (6, .int (ur))] [.int (nI np), .ref (ma 0)]
                                refine g_iconst (v := 1) E dX6_apply_350 (by decide) ?_
                                refine g_iadd E dX6_apply_351 ?_
                                refine k_put_permits (s := (muR (muR (muR (muR (muR (muR (muR (muR (muR (muI (muR (muR (muI s 0 (0)) 22 no (fr)) 23 no ((fr + hs))) 24 ((nI no + 1))) 11 np (nI a)) 12 np (nI ll)) 13 np (fr)) 14 np ((fr + hs))) 15 np ((-1))) 16 np (ur)) 17 np (0)) 18 np (w)) 19 np (nI no))) E (fun _ h => (List.mem_cons_of_mem _ (List.mem_append_right _ h))) (List.mem_cons_of_mem _ (List.mem_append_left _ (List.mem_append_left _ (List.mem_of_getElem? (i := 1) rfl)))) dX6_apply_352 ?_
                                refine g_iload E dX6_apply_355 3 rfl ?_
                                exact g_iret E hE hr dX6_apply_357 (Nat.le_of_ble_eq_true rfl) (Nat.le_of_ble_eq_true rfl) ⟨(muI (muR (muR (muR (muR (muR (muR (muR (muR (muR (muI (muR (muR (muI s 0 (0)) 22 no (fr)) 23 no ((fr + hs))) 24 ((nI no + 1))) 11 np (nI a)) 12 np (nI ll)) 13 np (fr)) 14 np ((fr + hs))) 15 np ((-1))) 16 np (ur)) 17 np (0)) 18 np (w)) 19 np (nI no)) 21 ((nI np + 1))), rfl, Or.inl ⟨a, False, w, 0, (nI no), (mNew s no fr (fr + hs)), ⟨ha6, rfl, ⟨ll, hll, rfl⟩, Or.inl ⟨rfl, rfl⟩⟩, ⟨bI_ne0.mp c_45, bI_ne0.mp c_56, Int32.not_lt.mp c_64⟩, hnp, hW, Or.inr (Or.inl ⟨c_145, rfl, Or.inl ⟨c_150, rfl⟩, rfl, rfl⟩), rfl, rfl⟩⟩
                    · exact absurd c_110 (by decide)
                  · refine g_iconst (v := 3) E dX6_apply_102 (by decide) ?_
                    refine g_goto (tgt := 107) E dX6_apply_103 (by decide) ?_
                    refine k_invV (n := 1) (rest := []) E (m_X6_isFine (xl C) E.tr (xD C) (xy C) e0 (s := s) (x := 3)) gX6_apply_X6_isFine rfl rfl rfl (by decide +kernel) ⟨Nat.le_of_ble_eq_true rfl, Nat.le_of_ble_eq_true rfl⟩ rfl rfl (Nat.le_of_ble_eq_true rfl) dX6_apply_107 ⟨Nat.le_of_ble_eq_true rfl, Nat.le_of_ble_eq_true rfl⟩ (fun v9 s9_107 h9 => ?_)
                    obtain ⟨hv9, hS9⟩ := h9
                    rw [hv9, hS9]
                    rw [show bI ((3 : Int32) = 0) = 0 by decide]
                    show G C (mW (xy C) ma (muI s 0 (3))) 0 0 110 [(8, .int (1)), (7, .int (1)), (0, .ref (ma 0)), (1, .int (ap)), (2, .int (ln)), (3, .int (fr)), (4, .int (hs)), (5, .int (nd)), (6, .int (ur))] [.int (0)]
                    refine g_if_ne (tgt := 115) E dX6_apply_110 (by decide) (fun c_110 => ?_) (fun c_110 => ?_)
                    · exact absurd c_110 (by decide)
                    · refine g_iconst (v := 0) E dX6_apply_113 (by decide) ?_
                      exact g_iret E hE hr dX6_apply_114 (Nat.le_of_ble_eq_true rfl) (Nat.le_of_ble_eq_true rfl) ⟨(muI s 0 (3)), rfl, Or.inr ⟨3, rfl, rfl, Or.inr (Or.inr ⟨rfl, ⟨c_4, c_12, Or.inl c_18⟩, ⟨bI_ne0.mp c_45, bI_ne0.mp c_56, Int32.not_lt.mp c_64⟩, nI_inj (b := 40) (by omega) (by decide) c_99⟩)⟩⟩
                · exact absurd c_86 (by decide)
              · exact absurd c_77 (by decide)
      · refine g_aload_n E dX6_apply_21 rfl 0 rfl ?_
        refine g_iload E dX6_apply_22 5 rfl ?_
        refine k_invV (n := 1) (rest := []) E (m_X6_isPermit (xl C) E.tr (xD C) (xy C) e0 hp0) gX6_apply_X6_isPermit rfl rfl rfl (by decide +kernel) ⟨Nat.le_of_ble_eq_true rfl, Nat.le_of_ble_eq_true rfl⟩ rfl rfl (Nat.le_of_ble_eq_true rfl) dX6_apply_24 ⟨Nat.le_of_ble_eq_true rfl, Nat.le_of_ble_eq_true rfl⟩ (fun v9 s9_24 h9 => ?_)
        obtain ⟨hv9, hS9⟩ := h9
        rw [hv9, hS9]
        show G C (mW (xy C) ma s) 0 0 27 [(0, .ref (ma 0)), (1, .int (ap)), (2, .int (ln)), (3, .int (fr)), (4, .int (hs)), (5, .int (nd)), (6, .int (ur))] [.int ((isIx (nd) np))]
        refine g_if_eq (tgt := 34) E dX6_apply_27 (by decide) (fun c_27 => ?_) (fun c_27 => ?_)
        · refine g_iconst (v := 0) E dX6_apply_34 (by decide) ?_
          refine g_istore (L' := [(7, .int (0)), (0, .ref (ma 0)), (1, .int (ap)), (2, .int (ln)), (3, .int (fr)), (4, .int (hs)), (5, .int (nd)), (6, .int (ur))]) E dX6_apply_35 (by decide) rfl ?_
          refine g_iload_n E dX6_apply_37 rfl 4 rfl ?_
          refine g_iconst (v := 0) E dX6_apply_38 (by decide) ?_
          refine g_sipush (v := 4900) E dX6_apply_39 (by decide) ?_
          refine k_invS (n := 3) (rest := []) E (m_X6_isIn (xl C) E.tr (xD C) (xy C) e0 (x := fr) (a := 0) (b := 4900)) gX6_apply_X6_isIn rfl rfl rfl (by decide +kernel) ⟨Nat.le_of_ble_eq_true rfl, Nat.le_of_ble_eq_true rfl⟩ rfl rfl (Nat.le_of_ble_eq_true rfl) dX6_apply_42 ⟨Nat.le_of_ble_eq_true rfl, Nat.le_of_ble_eq_true rfl⟩ (fun v9 s9_42 h9 => ?_)
          obtain ⟨hv9, hS9⟩ := h9
          rw [hv9, hS9]
          show G C (mW (xy C) ma s) 0 0 45 [(7, .int (0)), (0, .ref (ma 0)), (1, .int (ap)), (2, .int (ln)), (3, .int (fr)), (4, .int (hs)), (5, .int (nd)), (6, .int (ur))] [.int ((bI (0 ≤ fr ∧ fr ≤ 4900)))]
          refine g_if_eq (tgt := 71) E dX6_apply_45 (by decide) (fun c_45 => ?_) (fun c_45 => ?_)
          · refine g_iconst (v := 0) E dX6_apply_71 (by decide) ?_
            refine g_istore (L' := [(8, .int (0)), (7, .int (0)), (0, .ref (ma 0)), (1, .int (ap)), (2, .int (ln)), (3, .int (fr)), (4, .int (hs)), (5, .int (nd)), (6, .int (ur))]) E dX6_apply_72 (by decide) rfl ?_
            refine g_aload_n E dX6_apply_74 rfl 2 rfl ?_
            refine g_iload E dX6_apply_75 1 rfl ?_
            refine g_if_ne (tgt := 84) E dX6_apply_77 (by decide) (fun c_77 => ?_) (fun c_77 => ?_)
            · exact absurd c_77 (by decide)
            · refine g_iconst (v := 1) E dX6_apply_80 (by decide) ?_
              refine g_goto (tgt := 107) E dX6_apply_81 (by decide) ?_
              refine k_invV (n := 1) (rest := []) E (m_X6_isFine (xl C) E.tr (xD C) (xy C) e0 (s := s) (x := 1)) gX6_apply_X6_isFine rfl rfl rfl (by decide +kernel) ⟨Nat.le_of_ble_eq_true rfl, Nat.le_of_ble_eq_true rfl⟩ rfl rfl (Nat.le_of_ble_eq_true rfl) dX6_apply_107 ⟨Nat.le_of_ble_eq_true rfl, Nat.le_of_ble_eq_true rfl⟩ (fun v9 s9_107 h9 => ?_)
              obtain ⟨hv9, hS9⟩ := h9
              rw [hv9, hS9]
              rw [show bI ((1 : Int32) = 0) = 0 by decide]
              show G C (mW (xy C) ma (muI s 0 (1))) 0 0 110 [(8, .int (0)), (7, .int (0)), (0, .ref (ma 0)), (1, .int (ap)), (2, .int (ln)), (3, .int (fr)), (4, .int (hs)), (5, .int (nd)), (6, .int (ur))] [.int (0)]
              refine g_if_ne (tgt := 115) E dX6_apply_110 (by decide) (fun c_110 => ?_) (fun c_110 => ?_)
              · exact absurd c_110 (by decide)
              · refine g_iconst (v := 0) E dX6_apply_113 (by decide) ?_
                exact g_iret E hE hr dX6_apply_114 (Nat.le_of_ble_eq_true rfl) (Nat.le_of_ble_eq_true rfl) ⟨(muI s 0 (1)), rfl, Or.inr ⟨1, rfl, rfl, Or.inl ⟨rfl, (fun q => q.2.2.elim c_18 (fun z => z c_27))⟩⟩⟩
          · refine g_iload E dX6_apply_48 5 rfl ?_
            refine g_iconst (v := 1) E dX6_apply_50 (by decide) ?_
            refine g_bipush (v := 40) E dX6_apply_51 (by decide) ?_
            refine k_invS (n := 3) (rest := []) E (m_X6_isIn (xl C) E.tr (xD C) (xy C) e0 (x := hs) (a := 1) (b := 40)) gX6_apply_X6_isIn rfl rfl rfl (by decide +kernel) ⟨Nat.le_of_ble_eq_true rfl, Nat.le_of_ble_eq_true rfl⟩ rfl rfl (Nat.le_of_ble_eq_true rfl) dX6_apply_53 ⟨Nat.le_of_ble_eq_true rfl, Nat.le_of_ble_eq_true rfl⟩ (fun v9 s9_53 h9 => ?_)
            obtain ⟨hv9, hS9⟩ := h9
            rw [hv9, hS9]
            show G C (mW (xy C) ma s) 0 0 56 [(7, .int (0)), (0, .ref (ma 0)), (1, .int (ap)), (2, .int (ln)), (3, .int (fr)), (4, .int (hs)), (5, .int (nd)), (6, .int (ur))] [.int ((bI (1 ≤ hs ∧ hs ≤ 40)))]
            refine g_if_eq (tgt := 71) E dX6_apply_56 (by decide) (fun c_56 => ?_) (fun c_56 => ?_)
            · refine g_iconst (v := 0) E dX6_apply_71 (by decide) ?_
              refine g_istore (L' := [(8, .int (0)), (7, .int (0)), (0, .ref (ma 0)), (1, .int (ap)), (2, .int (ln)), (3, .int (fr)), (4, .int (hs)), (5, .int (nd)), (6, .int (ur))]) E dX6_apply_72 (by decide) rfl ?_
              refine g_aload_n E dX6_apply_74 rfl 2 rfl ?_
              refine g_iload E dX6_apply_75 1 rfl ?_
              refine g_if_ne (tgt := 84) E dX6_apply_77 (by decide) (fun c_77 => ?_) (fun c_77 => ?_)
              · exact absurd c_77 (by decide)
              · refine g_iconst (v := 1) E dX6_apply_80 (by decide) ?_
                refine g_goto (tgt := 107) E dX6_apply_81 (by decide) ?_
                refine k_invV (n := 1) (rest := []) E (m_X6_isFine (xl C) E.tr (xD C) (xy C) e0 (s := s) (x := 1)) gX6_apply_X6_isFine rfl rfl rfl (by decide +kernel) ⟨Nat.le_of_ble_eq_true rfl, Nat.le_of_ble_eq_true rfl⟩ rfl rfl (Nat.le_of_ble_eq_true rfl) dX6_apply_107 ⟨Nat.le_of_ble_eq_true rfl, Nat.le_of_ble_eq_true rfl⟩ (fun v9 s9_107 h9 => ?_)
                obtain ⟨hv9, hS9⟩ := h9
                rw [hv9, hS9]
                rw [show bI ((1 : Int32) = 0) = 0 by decide]
                show G C (mW (xy C) ma (muI s 0 (1))) 0 0 110 [(8, .int (0)), (7, .int (0)), (0, .ref (ma 0)), (1, .int (ap)), (2, .int (ln)), (3, .int (fr)), (4, .int (hs)), (5, .int (nd)), (6, .int (ur))] [.int (0)]
                refine g_if_ne (tgt := 115) E dX6_apply_110 (by decide) (fun c_110 => ?_) (fun c_110 => ?_)
                · exact absurd c_110 (by decide)
                · refine g_iconst (v := 0) E dX6_apply_113 (by decide) ?_
                  exact g_iret E hE hr dX6_apply_114 (Nat.le_of_ble_eq_true rfl) (Nat.le_of_ble_eq_true rfl) ⟨(muI s 0 (1)), rfl, Or.inr ⟨1, rfl, rfl, Or.inl ⟨rfl, (fun q => q.2.2.elim c_18 (fun z => z c_27))⟩⟩⟩
            · refine g_iload_n E dX6_apply_59 rfl 4 rfl ?_
              refine g_aload_n E dX6_apply_60 rfl 1 rfl ?_
              refine k_get_now (s := s) E (fun _ h => (List.mem_cons_of_mem _ (List.mem_append_right _ h))) (List.mem_cons_of_mem _ (List.mem_append_left _ (List.mem_append_left _ (List.mem_of_getElem? (i := 0) rfl)))) dX6_apply_61 ?_
              refine g_icmp_lt (tgt := 71) E dX6_apply_64 (by decide) (fun c_64 => ?_) (fun c_64 => ?_)
              · refine g_iconst (v := 0) E dX6_apply_71 (by decide) ?_
                refine g_istore (L' := [(8, .int (0)), (7, .int (0)), (0, .ref (ma 0)), (1, .int (ap)), (2, .int (ln)), (3, .int (fr)), (4, .int (hs)), (5, .int (nd)), (6, .int (ur))]) E dX6_apply_72 (by decide) rfl ?_
                refine g_aload_n E dX6_apply_74 rfl 2 rfl ?_
                refine g_iload E dX6_apply_75 1 rfl ?_
                refine g_if_ne (tgt := 84) E dX6_apply_77 (by decide) (fun c_77 => ?_) (fun c_77 => ?_)
                · exact absurd c_77 (by decide)
                · refine g_iconst (v := 1) E dX6_apply_80 (by decide) ?_
                  refine g_goto (tgt := 107) E dX6_apply_81 (by decide) ?_
                  refine k_invV (n := 1) (rest := []) E (m_X6_isFine (xl C) E.tr (xD C) (xy C) e0 (s := s) (x := 1)) gX6_apply_X6_isFine rfl rfl rfl (by decide +kernel) ⟨Nat.le_of_ble_eq_true rfl, Nat.le_of_ble_eq_true rfl⟩ rfl rfl (Nat.le_of_ble_eq_true rfl) dX6_apply_107 ⟨Nat.le_of_ble_eq_true rfl, Nat.le_of_ble_eq_true rfl⟩ (fun v9 s9_107 h9 => ?_)
                  obtain ⟨hv9, hS9⟩ := h9
                  rw [hv9, hS9]
                  rw [show bI ((1 : Int32) = 0) = 0 by decide]
                  show G C (mW (xy C) ma (muI s 0 (1))) 0 0 110 [(8, .int (0)), (7, .int (0)), (0, .ref (ma 0)), (1, .int (ap)), (2, .int (ln)), (3, .int (fr)), (4, .int (hs)), (5, .int (nd)), (6, .int (ur))] [.int (0)]
                  refine g_if_ne (tgt := 115) E dX6_apply_110 (by decide) (fun c_110 => ?_) (fun c_110 => ?_)
                  · exact absurd c_110 (by decide)
                  · refine g_iconst (v := 0) E dX6_apply_113 (by decide) ?_
                    exact g_iret E hE hr dX6_apply_114 (Nat.le_of_ble_eq_true rfl) (Nat.le_of_ble_eq_true rfl) ⟨(muI s 0 (1)), rfl, Or.inr ⟨1, rfl, rfl, Or.inl ⟨rfl, (fun q => q.2.2.elim c_18 (fun z => z c_27))⟩⟩⟩
              · refine g_iconst (v := 1) E dX6_apply_67 (by decide) ?_
                refine g_goto (tgt := 72) E dX6_apply_68 (by decide) ?_
                refine g_istore (L' := [(8, .int (1)), (7, .int (0)), (0, .ref (ma 0)), (1, .int (ap)), (2, .int (ln)), (3, .int (fr)), (4, .int (hs)), (5, .int (nd)), (6, .int (ur))]) E dX6_apply_72 (by decide) rfl ?_
                refine g_aload_n E dX6_apply_74 rfl 2 rfl ?_
                refine g_iload E dX6_apply_75 1 rfl ?_
                refine g_if_ne (tgt := 84) E dX6_apply_77 (by decide) (fun c_77 => ?_) (fun c_77 => ?_)
                · exact absurd c_77 (by decide)
                · refine g_iconst (v := 1) E dX6_apply_80 (by decide) ?_
                  refine g_goto (tgt := 107) E dX6_apply_81 (by decide) ?_
                  refine k_invV (n := 1) (rest := []) E (m_X6_isFine (xl C) E.tr (xD C) (xy C) e0 (s := s) (x := 1)) gX6_apply_X6_isFine rfl rfl rfl (by decide +kernel) ⟨Nat.le_of_ble_eq_true rfl, Nat.le_of_ble_eq_true rfl⟩ rfl rfl (Nat.le_of_ble_eq_true rfl) dX6_apply_107 ⟨Nat.le_of_ble_eq_true rfl, Nat.le_of_ble_eq_true rfl⟩ (fun v9 s9_107 h9 => ?_)
                  obtain ⟨hv9, hS9⟩ := h9
                  rw [hv9, hS9]
                  rw [show bI ((1 : Int32) = 0) = 0 by decide]
                  show G C (mW (xy C) ma (muI s 0 (1))) 0 0 110 [(8, .int (1)), (7, .int (0)), (0, .ref (ma 0)), (1, .int (ap)), (2, .int (ln)), (3, .int (fr)), (4, .int (hs)), (5, .int (nd)), (6, .int (ur))] [.int (0)]
                  refine g_if_ne (tgt := 115) E dX6_apply_110 (by decide) (fun c_110 => ?_) (fun c_110 => ?_)
                  · exact absurd c_110 (by decide)
                  · refine g_iconst (v := 0) E dX6_apply_113 (by decide) ?_
                    exact g_iret E hE hr dX6_apply_114 (Nat.le_of_ble_eq_true rfl) (Nat.le_of_ble_eq_true rfl) ⟨(muI s 0 (1)), rfl, Or.inr ⟨1, rfl, rfl, Or.inl ⟨rfl, (fun q => q.2.2.elim c_18 (fun z => z c_27))⟩⟩⟩
        · refine g_iconst (v := 1) E dX6_apply_30 (by decide) ?_
          refine g_goto (tgt := 35) E dX6_apply_31 (by decide) ?_
          refine g_istore (L' := [(7, .int (1)), (0, .ref (ma 0)), (1, .int (ap)), (2, .int (ln)), (3, .int (fr)), (4, .int (hs)), (5, .int (nd)), (6, .int (ur))]) E dX6_apply_35 (by decide) rfl ?_
          refine g_iload_n E dX6_apply_37 rfl 4 rfl ?_
          refine g_iconst (v := 0) E dX6_apply_38 (by decide) ?_
          refine g_sipush (v := 4900) E dX6_apply_39 (by decide) ?_
          refine k_invS (n := 3) (rest := []) E (m_X6_isIn (xl C) E.tr (xD C) (xy C) e0 (x := fr) (a := 0) (b := 4900)) gX6_apply_X6_isIn rfl rfl rfl (by decide +kernel) ⟨Nat.le_of_ble_eq_true rfl, Nat.le_of_ble_eq_true rfl⟩ rfl rfl (Nat.le_of_ble_eq_true rfl) dX6_apply_42 ⟨Nat.le_of_ble_eq_true rfl, Nat.le_of_ble_eq_true rfl⟩ (fun v9 s9_42 h9 => ?_)
          obtain ⟨hv9, hS9⟩ := h9
          rw [hv9, hS9]
          show G C (mW (xy C) ma s) 0 0 45 [(7, .int (1)), (0, .ref (ma 0)), (1, .int (ap)), (2, .int (ln)), (3, .int (fr)), (4, .int (hs)), (5, .int (nd)), (6, .int (ur))] [.int ((bI (0 ≤ fr ∧ fr ≤ 4900)))]
          refine g_if_eq (tgt := 71) E dX6_apply_45 (by decide) (fun c_45 => ?_) (fun c_45 => ?_)
          · refine g_iconst (v := 0) E dX6_apply_71 (by decide) ?_
            refine g_istore (L' := [(8, .int (0)), (7, .int (1)), (0, .ref (ma 0)), (1, .int (ap)), (2, .int (ln)), (3, .int (fr)), (4, .int (hs)), (5, .int (nd)), (6, .int (ur))]) E dX6_apply_72 (by decide) rfl ?_
            refine g_aload_n E dX6_apply_74 rfl 2 rfl ?_
            refine g_iload E dX6_apply_75 1 rfl ?_
            refine g_if_ne (tgt := 84) E dX6_apply_77 (by decide) (fun c_77 => ?_) (fun c_77 => ?_)
            · refine g_iload E dX6_apply_84 0 rfl ?_
              refine g_if_ne (tgt := 93) E dX6_apply_86 (by decide) (fun c_86 => ?_) (fun c_86 => ?_)
              · exact absurd c_86 (by decide)
              · refine g_iconst (v := 2) E dX6_apply_89 (by decide) ?_
                refine g_goto (tgt := 107) E dX6_apply_90 (by decide) ?_
                refine k_invV (n := 1) (rest := []) E (m_X6_isFine (xl C) E.tr (xD C) (xy C) e0 (s := s) (x := 2)) gX6_apply_X6_isFine rfl rfl rfl (by decide +kernel) ⟨Nat.le_of_ble_eq_true rfl, Nat.le_of_ble_eq_true rfl⟩ rfl rfl (Nat.le_of_ble_eq_true rfl) dX6_apply_107 ⟨Nat.le_of_ble_eq_true rfl, Nat.le_of_ble_eq_true rfl⟩ (fun v9 s9_107 h9 => ?_)
                obtain ⟨hv9, hS9⟩ := h9
                rw [hv9, hS9]
                rw [show bI ((2 : Int32) = 0) = 0 by decide]
                show G C (mW (xy C) ma (muI s 0 (2))) 0 0 110 [(8, .int (0)), (7, .int (1)), (0, .ref (ma 0)), (1, .int (ap)), (2, .int (ln)), (3, .int (fr)), (4, .int (hs)), (5, .int (nd)), (6, .int (ur))] [.int (0)]
                refine g_if_ne (tgt := 115) E dX6_apply_110 (by decide) (fun c_110 => ?_) (fun c_110 => ?_)
                · exact absurd c_110 (by decide)
                · refine g_iconst (v := 0) E dX6_apply_113 (by decide) ?_
                  exact g_iret E hE hr dX6_apply_114 (Nat.le_of_ble_eq_true rfl) (Nat.le_of_ble_eq_true rfl) ⟨(muI s 0 (2)), rfl, Or.inr ⟨2, rfl, rfl, Or.inr (Or.inl ⟨rfl, ⟨c_4, c_12, Or.inr c_27⟩, (fun q => bI_eq0.mp c_45 q.1)⟩)⟩⟩
            · exact absurd c_77 (by decide)
          · refine g_iload E dX6_apply_48 5 rfl ?_
            refine g_iconst (v := 1) E dX6_apply_50 (by decide) ?_
            refine g_bipush (v := 40) E dX6_apply_51 (by decide) ?_
            refine k_invS (n := 3) (rest := []) E (m_X6_isIn (xl C) E.tr (xD C) (xy C) e0 (x := hs) (a := 1) (b := 40)) gX6_apply_X6_isIn rfl rfl rfl (by decide +kernel) ⟨Nat.le_of_ble_eq_true rfl, Nat.le_of_ble_eq_true rfl⟩ rfl rfl (Nat.le_of_ble_eq_true rfl) dX6_apply_53 ⟨Nat.le_of_ble_eq_true rfl, Nat.le_of_ble_eq_true rfl⟩ (fun v9 s9_53 h9 => ?_)
            obtain ⟨hv9, hS9⟩ := h9
            rw [hv9, hS9]
            show G C (mW (xy C) ma s) 0 0 56 [(7, .int (1)), (0, .ref (ma 0)), (1, .int (ap)), (2, .int (ln)), (3, .int (fr)), (4, .int (hs)), (5, .int (nd)), (6, .int (ur))] [.int ((bI (1 ≤ hs ∧ hs ≤ 40)))]
            refine g_if_eq (tgt := 71) E dX6_apply_56 (by decide) (fun c_56 => ?_) (fun c_56 => ?_)
            · refine g_iconst (v := 0) E dX6_apply_71 (by decide) ?_
              refine g_istore (L' := [(8, .int (0)), (7, .int (1)), (0, .ref (ma 0)), (1, .int (ap)), (2, .int (ln)), (3, .int (fr)), (4, .int (hs)), (5, .int (nd)), (6, .int (ur))]) E dX6_apply_72 (by decide) rfl ?_
              refine g_aload_n E dX6_apply_74 rfl 2 rfl ?_
              refine g_iload E dX6_apply_75 1 rfl ?_
              refine g_if_ne (tgt := 84) E dX6_apply_77 (by decide) (fun c_77 => ?_) (fun c_77 => ?_)
              · refine g_iload E dX6_apply_84 0 rfl ?_
                refine g_if_ne (tgt := 93) E dX6_apply_86 (by decide) (fun c_86 => ?_) (fun c_86 => ?_)
                · exact absurd c_86 (by decide)
                · refine g_iconst (v := 2) E dX6_apply_89 (by decide) ?_
                  refine g_goto (tgt := 107) E dX6_apply_90 (by decide) ?_
                  refine k_invV (n := 1) (rest := []) E (m_X6_isFine (xl C) E.tr (xD C) (xy C) e0 (s := s) (x := 2)) gX6_apply_X6_isFine rfl rfl rfl (by decide +kernel) ⟨Nat.le_of_ble_eq_true rfl, Nat.le_of_ble_eq_true rfl⟩ rfl rfl (Nat.le_of_ble_eq_true rfl) dX6_apply_107 ⟨Nat.le_of_ble_eq_true rfl, Nat.le_of_ble_eq_true rfl⟩ (fun v9 s9_107 h9 => ?_)
                  obtain ⟨hv9, hS9⟩ := h9
                  rw [hv9, hS9]
                  rw [show bI ((2 : Int32) = 0) = 0 by decide]
                  show G C (mW (xy C) ma (muI s 0 (2))) 0 0 110 [(8, .int (0)), (7, .int (1)), (0, .ref (ma 0)), (1, .int (ap)), (2, .int (ln)), (3, .int (fr)), (4, .int (hs)), (5, .int (nd)), (6, .int (ur))] [.int (0)]
                  refine g_if_ne (tgt := 115) E dX6_apply_110 (by decide) (fun c_110 => ?_) (fun c_110 => ?_)
                  · exact absurd c_110 (by decide)
                  · refine g_iconst (v := 0) E dX6_apply_113 (by decide) ?_
                    exact g_iret E hE hr dX6_apply_114 (Nat.le_of_ble_eq_true rfl) (Nat.le_of_ble_eq_true rfl) ⟨(muI s 0 (2)), rfl, Or.inr ⟨2, rfl, rfl, Or.inr (Or.inl ⟨rfl, ⟨c_4, c_12, Or.inr c_27⟩, (fun q => bI_eq0.mp c_56 q.2.1)⟩)⟩⟩
              · exact absurd c_77 (by decide)
            · refine g_iload_n E dX6_apply_59 rfl 4 rfl ?_
              refine g_aload_n E dX6_apply_60 rfl 1 rfl ?_
              refine k_get_now (s := s) E (fun _ h => (List.mem_cons_of_mem _ (List.mem_append_right _ h))) (List.mem_cons_of_mem _ (List.mem_append_left _ (List.mem_append_left _ (List.mem_of_getElem? (i := 0) rfl)))) dX6_apply_61 ?_
              refine g_icmp_lt (tgt := 71) E dX6_apply_64 (by decide) (fun c_64 => ?_) (fun c_64 => ?_)
              · refine g_iconst (v := 0) E dX6_apply_71 (by decide) ?_
                refine g_istore (L' := [(8, .int (0)), (7, .int (1)), (0, .ref (ma 0)), (1, .int (ap)), (2, .int (ln)), (3, .int (fr)), (4, .int (hs)), (5, .int (nd)), (6, .int (ur))]) E dX6_apply_72 (by decide) rfl ?_
                refine g_aload_n E dX6_apply_74 rfl 2 rfl ?_
                refine g_iload E dX6_apply_75 1 rfl ?_
                refine g_if_ne (tgt := 84) E dX6_apply_77 (by decide) (fun c_77 => ?_) (fun c_77 => ?_)
                · refine g_iload E dX6_apply_84 0 rfl ?_
                  refine g_if_ne (tgt := 93) E dX6_apply_86 (by decide) (fun c_86 => ?_) (fun c_86 => ?_)
                  · exact absurd c_86 (by decide)
                  · refine g_iconst (v := 2) E dX6_apply_89 (by decide) ?_
                    refine g_goto (tgt := 107) E dX6_apply_90 (by decide) ?_
                    refine k_invV (n := 1) (rest := []) E (m_X6_isFine (xl C) E.tr (xD C) (xy C) e0 (s := s) (x := 2)) gX6_apply_X6_isFine rfl rfl rfl (by decide +kernel) ⟨Nat.le_of_ble_eq_true rfl, Nat.le_of_ble_eq_true rfl⟩ rfl rfl (Nat.le_of_ble_eq_true rfl) dX6_apply_107 ⟨Nat.le_of_ble_eq_true rfl, Nat.le_of_ble_eq_true rfl⟩ (fun v9 s9_107 h9 => ?_)
                    obtain ⟨hv9, hS9⟩ := h9
                    rw [hv9, hS9]
                    rw [show bI ((2 : Int32) = 0) = 0 by decide]
                    show G C (mW (xy C) ma (muI s 0 (2))) 0 0 110 [(8, .int (0)), (7, .int (1)), (0, .ref (ma 0)), (1, .int (ap)), (2, .int (ln)), (3, .int (fr)), (4, .int (hs)), (5, .int (nd)), (6, .int (ur))] [.int (0)]
                    refine g_if_ne (tgt := 115) E dX6_apply_110 (by decide) (fun c_110 => ?_) (fun c_110 => ?_)
                    · exact absurd c_110 (by decide)
                    · refine g_iconst (v := 0) E dX6_apply_113 (by decide) ?_
                      exact g_iret E hE hr dX6_apply_114 (Nat.le_of_ble_eq_true rfl) (Nat.le_of_ble_eq_true rfl) ⟨(muI s 0 (2)), rfl, Or.inr ⟨2, rfl, rfl, Or.inr (Or.inl ⟨rfl, ⟨c_4, c_12, Or.inr c_27⟩, (fun q => Int32.not_lt.mpr q.2.2 c_64)⟩)⟩⟩
                · exact absurd c_77 (by decide)
              · refine g_iconst (v := 1) E dX6_apply_67 (by decide) ?_
                refine g_goto (tgt := 72) E dX6_apply_68 (by decide) ?_
                refine g_istore (L' := [(8, .int (1)), (7, .int (1)), (0, .ref (ma 0)), (1, .int (ap)), (2, .int (ln)), (3, .int (fr)), (4, .int (hs)), (5, .int (nd)), (6, .int (ur))]) E dX6_apply_72 (by decide) rfl ?_
                refine g_aload_n E dX6_apply_74 rfl 2 rfl ?_
                refine g_iload E dX6_apply_75 1 rfl ?_
                refine g_if_ne (tgt := 84) E dX6_apply_77 (by decide) (fun c_77 => ?_) (fun c_77 => ?_)
                · refine g_iload E dX6_apply_84 0 rfl ?_
                  refine g_if_ne (tgt := 93) E dX6_apply_86 (by decide) (fun c_86 => ?_) (fun c_86 => ?_)
                  · refine g_aload_n E dX6_apply_93 rfl 2 rfl ?_
                    refine k_get_permits (s := s) E (fun _ h => (List.mem_cons_of_mem _ (List.mem_append_right _ h))) (List.mem_cons_of_mem _ (List.mem_append_left _ (List.mem_append_left _ (List.mem_of_getElem? (i := 1) rfl)))) dX6_apply_94 ?_
                    rw [show mi s 21 = nI np from hp0]
                    show G C (mW (xy C) ma s) 0 0 97 [(8, .int (1)), (7, .int (1)), (0, .ref (ma 0)), (1, .int (ap)), (2, .int (ln)), (3, .int (fr)), (4, .int (hs)), (5, .int (nd)), (6, .int (ur))] [.int (nI np), .ref (ma 0)]
                    refine g_bipush (v := 40) E dX6_apply_97 (by decide) ?_
                    refine g_icmp_ne (tgt := 106) E dX6_apply_99 (by decide) (fun c_99 => ?_) (fun c_99 => ?_)
                    · refine g_iconst (v := 0) E dX6_apply_106 (by decide) ?_
                      refine k_invV (n := 1) (rest := []) E (m_X6_isFine (xl C) E.tr (xD C) (xy C) e0 (s := s) (x := 0)) gX6_apply_X6_isFine rfl rfl rfl (by decide +kernel) ⟨Nat.le_of_ble_eq_true rfl, Nat.le_of_ble_eq_true rfl⟩ rfl rfl (Nat.le_of_ble_eq_true rfl) dX6_apply_107 ⟨Nat.le_of_ble_eq_true rfl, Nat.le_of_ble_eq_true rfl⟩ (fun v9 s9_107 h9 => ?_)
                      obtain ⟨hv9, hS9⟩ := h9
                      rw [hv9, hS9]
                      rw [show bI ((0 : Int32) = 0) = 1 by decide]
                      show G C (mW (xy C) ma (muI s 0 (0))) 0 0 110 [(8, .int (1)), (7, .int (1)), (0, .ref (ma 0)), (1, .int (ap)), (2, .int (ln)), (3, .int (fr)), (4, .int (hs)), (5, .int (nd)), (6, .int (ur))] [.int (1)]
                      refine g_if_ne (tgt := 115) E dX6_apply_110 (by decide) (fun c_110 => ?_) (fun c_110 => ?_)
                      · have hnp : np < 40 := by have : np ≠ 40 := fun e => c_99 (congrArg nI e); omega
                        obtain ⟨a, ha6, hxa⟩ := isIx_t (by omega) c_4
                        subst hxa
                        obtain ⟨ll, hll, hxl⟩ := isIx_t (by omega) c_12
                        subst hxl
                        obtain ⟨z, hz, hxz⟩ := isIx_t (by omega) c_27
                        subst hxz
                        show G C (mW (xy C) ma (muI s 0 (0))) 0 0 115 [(8, .int (1)), (7, .int (1)), (0, .ref (ma 0)), (1, .int (nI a)), (2, .int (nI ll)), (3, .int (fr)), (4, .int (hs)), (5, .int (nI z)), (6, .int (ur))] []
                        refine g_aload_n E dX6_apply_115 rfl 2 rfl ?_
                        refine k_get_permits (s := (muI s 0 (0))) E (fun _ h => (List.mem_cons_of_mem _ (List.mem_append_right _ h))) (List.mem_cons_of_mem _ (List.mem_append_left _ (List.mem_append_left _ (List.mem_of_getElem? (i := 1) rfl)))) dX6_apply_116 ?_
                        rw [show mi (muI s 0 (0)) 21 = nI np from hp0]
                        show G C (mW (xy C) ma (muI s 0 (0))) 0 0 119 [(8, .int (1)), (7, .int (1)), (0, .ref (ma 0)), (1, .int (nI a)), (2, .int (nI ll)), (3, .int (fr)), (4, .int (hs)), (5, .int (nI z)), (6, .int (ur))] [.int (nI np)]
                        refine g_istore (L' := [(9, .int (nI np)), (8, .int (1)), (7, .int (1)), (0, .ref (ma 0)), (1, .int (nI a)), (2, .int (nI ll)), (3, .int (fr)), (4, .int (hs)), (5, .int (nI z)), (6, .int (ur))]) E dX6_apply_119 (by decide) rfl ?_
                        refine g_iload_n E dX6_apply_121 rfl 6 rfl ?_
                        refine g_iload E dX6_apply_122 7 rfl ?_
                        refine g_iadd E dX6_apply_124 ?_
                        refine g_istore (L' := [(10, .int ((fr + hs))), (9, .int (nI np)), (8, .int (1)), (7, .int (1)), (0, .ref (ma 0)), (1, .int (nI a)), (2, .int (nI ll)), (3, .int (fr)), (4, .int (hs)), (5, .int (nI z)), (6, .int (ur))]) E dX6_apply_125 (by decide) rfl ?_
                        refine g_aload_n E dX6_apply_127 rfl 4 rfl ?_
                        refine g_iload_n E dX6_apply_128 rfl 5 rfl ?_
                        refine g_iload_n E dX6_apply_129 rfl 6 rfl ?_
                        refine g_iload_n E dX6_apply_130 rfl 7 rfl ?_
                        refine g_iload E dX6_apply_131 0 rfl ?_
                        refine g_iload E dX6_apply_133 9 rfl ?_
                        refine g_iload E dX6_apply_135 10 rfl ?_
                        refine k_invV (n := 6) (rest := []) E (m_X6_whyNot (xl C) E.tr (xD C) (xy C) e0 (s := (muI s 0 (0))) (wh := a) (z := z) (ln := nI ll) (a := fr) (b := (fr + hs)) (ur := ur) hp0 hp1 hop ha6 hz) gX6_apply_X6_whyNot rfl rfl rfl (by decide +kernel) ⟨Nat.le_of_ble_eq_true rfl, Nat.le_of_ble_eq_true rfl⟩ rfl rfl (Nat.le_of_ble_eq_true rfl) dX6_apply_137 ⟨Nat.le_of_ble_eq_true rfl, Nat.le_of_ble_eq_true rfl⟩ (fun v9 s9_137 h9 => ?_)
                        obtain ⟨w, hv9, hW, hS9⟩ := h9
                        rw [hv9, hS9]
                        show G C (mW (xy C) ma (muI s 0 (0))) 0 0 140 [(10, .int ((fr + hs))), (9, .int (nI np)), (8, .int (1)), (7, .int (1)), (0, .ref (ma 0)), (1, .int (nI a)), (2, .int (nI ll)), (3, .int (fr)), (4, .int (hs)), (5, .int (nI z)), (6, .int (ur))] [.int (w)]
                        refine g_istore (L' := [(11, .int (w)), (10, .int ((fr + hs))), (9, .int (nI np)), (8, .int (1)), (7, .int (1)), (0, .ref (ma 0)), (1, .int (nI a)), (2, .int (nI ll)), (3, .int (fr)), (4, .int (hs)), (5, .int (nI z)), (6, .int (ur))]) E dX6_apply_140 (by decide) rfl ?_
                        refine g_iload E dX6_apply_142 0 rfl ?_
                        refine g_iconst (v := (-1)) E dX6_apply_144 (by decide) ?_
                        refine g_icmp_ne (tgt := 153) E dX6_apply_145 (by decide) (fun c_145 => ?_) (fun c_145 => ?_)
                        · refine g_iconst (v := (-1)) E dX6_apply_153 (by decide) ?_
                          refine g_goto (tgt := 165) E dX6_apply_154 (by decide) ?_
                          refine g_istore (L' := [(12, .int ((-1))), (11, .int (w)), (10, .int ((fr + hs))), (9, .int (nI np)), (8, .int (1)), (7, .int (1)), (0, .ref (ma 0)), (1, .int (nI a)), (2, .int (nI ll)), (3, .int (fr)), (4, .int (hs)), (5, .int (nI z)), (6, .int (ur))]) E dX6_apply_165 (by decide) rfl ?_
                          refine g_iload E dX6_apply_167 1 rfl ?_
                          refine g_iconst (v := (-1)) E dX6_apply_169 (by decide) ?_
                          refine g_icmp_ne (tgt := 215) E dX6_apply_170 (by decide) (fun c_170 => ?_) (fun c_170 => ?_)
                          · refine g_iload E dX6_apply_215 1 rfl ?_
                            refine g_iconst (v := (-1)) E dX6_apply_217 (by decide) ?_
                            refine g_icmp_ne (tgt := 258) E dX6_apply_218 (by decide) (fun c_218 => ?_) (fun c_218 => ?_)
                            · refine g_aload_n E dX6_apply_258 rfl 6 rfl ?_
                              refine k_get_applicant (s := (muI s 0 (0))) E (fun _ h => (List.mem_cons_of_mem _ (List.mem_append_right _ h))) (List.mem_cons_of_mem _ (List.mem_append_left _ (List.mem_append_left _ (List.mem_of_getElem? (i := 5) rfl)))) dX6_apply_259 ?_
                              refine g_iload E dX6_apply_262 3 rfl ?_
                              refine g_iload_n E dX6_apply_264 rfl 7 rfl ?_
                              refine k_ast_applicant (s := (muI s 0 (0))) E np rfl (by omega) dX6_apply_265 ?_
                              refine g_aload_n E dX6_apply_266 rfl 6 rfl ?_
                              refine k_get_lane (s := (muR (muI s 0 (0)) 11 np (nI a))) E (fun _ h => (List.mem_cons_of_mem _ (List.mem_append_right _ h))) (List.mem_cons_of_mem _ (List.mem_append_left _ (List.mem_append_left _ (List.mem_of_getElem? (i := 6) rfl)))) dX6_apply_267 ?_
                              refine g_iload E dX6_apply_270 3 rfl ?_
                              refine g_iload_n E dX6_apply_272 rfl 8 rfl ?_
                              refine k_ast_lane (s := (muR (muI s 0 (0)) 11 np (nI a))) E np rfl (by omega) dX6_apply_273 ?_
                              refine g_aload_n E dX6_apply_274 rfl 6 rfl ?_
                              refine k_get_from (s := (muR (muR (muI s 0 (0)) 11 np (nI a)) 12 np (nI ll))) E (fun _ h => (List.mem_cons_of_mem _ (List.mem_append_right _ h))) (List.mem_cons_of_mem _ (List.mem_append_left _ (List.mem_append_left _ (List.mem_of_getElem? (i := 7) rfl)))) dX6_apply_275 ?_
                              refine g_iload E dX6_apply_278 3 rfl ?_
                              refine g_iload_n E dX6_apply_280 rfl 9 rfl ?_
                              refine k_ast_from (s := (muR (muR (muI s 0 (0)) 11 np (nI a)) 12 np (nI ll))) E np rfl (by omega) dX6_apply_281 ?_
                              refine g_aload_n E dX6_apply_282 rfl 6 rfl ?_
                              refine k_get_end (s := (muR (muR (muR (muI s 0 (0)) 11 np (nI a)) 12 np (nI ll)) 13 np (fr))) E (fun _ h => (List.mem_cons_of_mem _ (List.mem_append_right _ h))) (List.mem_cons_of_mem _ (List.mem_append_left _ (List.mem_append_left _ (List.mem_of_getElem? (i := 8) rfl)))) dX6_apply_283 ?_
                              refine g_iload E dX6_apply_286 3 rfl ?_
                              refine g_iload E dX6_apply_288 2 rfl ?_
                              refine k_ast_end (s := (muR (muR (muR (muI s 0 (0)) 11 np (nI a)) 12 np (nI ll)) 13 np (fr))) E np rfl (by omega) dX6_apply_290 ?_
                              refine g_aload_n E dX6_apply_291 rfl 6 rfl ?_
                              refine k_get_needs (s := (muR (muR (muR (muR (muI s 0 (0)) 11 np (nI a)) 12 np (nI ll)) 13 np (fr)) 14 np ((fr + hs)))) E (fun _ h => (List.mem_cons_of_mem _ (List.mem_append_right _ h))) (List.mem_cons_of_mem _ (List.mem_append_left _ (List.mem_append_left _ (List.mem_of_getElem? (i := 9) rfl)))) dX6_apply_292 ?_
                              refine g_iload E dX6_apply_295 3 rfl ?_
                              refine g_iload E dX6_apply_297 11 rfl ?_
                              refine k_ast_needs (s := (muR (muR (muR (muR (muI s 0 (0)) 11 np (nI a)) 12 np (nI ll)) 13 np (fr)) 14 np ((fr + hs)))) E np rfl (by omega) dX6_apply_299 ?_
                              refine g_aload_n E dX6_apply_300 rfl 6 rfl ?_
                              refine k_get_isUrgent (s := (muR (muR (muR (muR (muR (muI s 0 (0)) 11 np (nI a)) 12 np (nI ll)) 13 np (fr)) 14 np ((fr + hs))) 15 np (nI z))) E (fun _ h => (List.mem_cons_of_mem _ (List.mem_append_right _ h))) (List.mem_cons_of_mem _ (List.mem_append_left _ (List.mem_append_left _ (List.mem_of_getElem? (i := 10) rfl)))) dX6_apply_301 ?_
                              refine g_iload E dX6_apply_304 3 rfl ?_
                              refine g_iload E dX6_apply_306 12 rfl ?_
                              refine k_ast_isUrgent (s := (muR (muR (muR (muR (muR (muI s 0 (0)) 11 np (nI a)) 12 np (nI ll)) 13 np (fr)) 14 np ((fr + hs))) 15 np (nI z))) E (hu) np rfl (by omega) dX6_apply_308 ?_
                              refine g_aload_n E dX6_apply_309 rfl 6 rfl ?_
                              refine k_get_state (s := (muR (muR (muR (muR (muR (muR (muI s 0 (0)) 11 np (nI a)) 12 np (nI ll)) 13 np (fr)) 14 np ((fr + hs))) 15 np (nI z)) 16 np (ur))) E (fun _ h => (List.mem_cons_of_mem _ (List.mem_append_right _ h))) (List.mem_cons_of_mem _ (List.mem_append_left _ (List.mem_append_left _ (List.mem_of_getElem? (i := 11) rfl)))) dX6_apply_310 ?_
                              refine g_iload E dX6_apply_313 3 rfl ?_
                              refine g_iload E dX6_apply_315 1 rfl ?_
                              refine g_iconst (v := (-1)) E dX6_apply_317 (by decide) ?_
                              refine g_icmp_ne (tgt := 325) E dX6_apply_318 (by decide) (fun c_318 => ?_) (fun c_318 => ?_)
                              · refine g_iconst (v := 1) E dX6_apply_325 (by decide) ?_
                                refine k_ast_state (s := (muR (muR (muR (muR (muR (muR (muI s 0 (0)) 11 np (nI a)) 12 np (nI ll)) 13 np (fr)) 14 np ((fr + hs))) 15 np (nI z)) 16 np (ur))) E np rfl (by omega) dX6_apply_326 ?_
                                refine g_aload_n E dX6_apply_327 rfl 6 rfl ?_
                                refine k_get_cause (s := (muR (muR (muR (muR (muR (muR (muR (muI s 0 (0)) 11 np (nI a)) 12 np (nI ll)) 13 np (fr)) 14 np ((fr + hs))) 15 np (nI z)) 16 np (ur)) 17 np (1))) E (fun _ h => (List.mem_cons_of_mem _ (List.mem_append_right _ h))) (List.mem_cons_of_mem _ (List.mem_append_left _ (List.mem_append_left _ (List.mem_of_getElem? (i := 12) rfl)))) dX6_apply_328 ?_
                                refine g_iload E dX6_apply_331 3 rfl ?_
                                refine g_iload E dX6_apply_333 1 rfl ?_
                                refine k_ast_cause (s := (muR (muR (muR (muR (muR (muR (muR (muI s 0 (0)) 11 np (nI a)) 12 np (nI ll)) 13 np (fr)) 14 np ((fr + hs))) 15 np (nI z)) 16 np (ur)) 17 np (1))) E np rfl (by omega) dX6_apply_335 ?_
                                refine g_aload_n E dX6_apply_336 rfl 6 rfl ?_
                                refine k_get_opening (s := (muR (muR (muR (muR (muR (muR (muR (muR (muI s 0 (0)) 11 np (nI a)) 12 np (nI ll)) 13 np (fr)) 14 np ((fr + hs))) 15 np (nI z)) 16 np (ur)) 17 np (1)) 18 np (w))) E (fun _ h => (List.mem_cons_of_mem _ (List.mem_append_right _ h))) (List.mem_cons_of_mem _ (List.mem_append_left _ (List.mem_append_left _ (List.mem_of_getElem? (i := 13) rfl)))) dX6_apply_337 ?_
                                refine g_iload E dX6_apply_340 3 rfl ?_
                                refine g_iload E dX6_apply_342 0 rfl ?_
                                refine k_ast_opening (s := (muR (muR (muR (muR (muR (muR (muR (muR (muI s 0 (0)) 11 np (nI a)) 12 np (nI ll)) 13 np (fr)) 14 np ((fr + hs))) 15 np (nI z)) 16 np (ur)) 17 np (1)) 18 np (w))) E np rfl (by omega) dX6_apply_344 ?_
                                refine g_aload_n E dX6_apply_345 rfl 6 rfl ?_
                                refine g_dup E dX6_apply_346 rfl ?_
                                refine k_get_permits (s := (muR (muR (muR (muR (muR (muR (muR (muR (muR (muI s 0 (0)) 11 np (nI a)) 12 np (nI ll)) 13 np (fr)) 14 np ((fr + hs))) 15 np (nI z)) 16 np (ur)) 17 np (1)) 18 np (w)) 19 np ((-1)))) E (fun _ h => (List.mem_cons_of_mem _ (List.mem_append_right _ h))) (List.mem_cons_of_mem _ (List.mem_append_left _ (List.mem_append_left _ (List.mem_of_getElem? (i := 1) rfl)))) dX6_apply_347 ?_
                                rw [show mi (muR (muR (muR (muR (muR (muR (muR (muR (muR (muI s 0 (0)) 11 np (nI a)) 12 np (nI ll)) 13 np (fr)) 14 np ((fr + hs))) 15 np (nI z)) 16 np (ur)) 17 np (1)) 18 np (w)) 19 np ((-1))) 21 = nI np from hp0]
                                show G C (mW (xy C) ma (muR (muR (muR (muR (muR (muR (muR (muR (muR (muI s 0 (0)) 11 np (nI a)) 12 np (nI ll)) 13 np (fr)) 14 np ((fr + hs))) 15 np (nI z)) 16 np (ur)) 17 np (1)) 18 np (w)) 19 np ((-1)))) 0 0 350 [(12, .int ((-1))), (11, .int (w)), (10, .int ((fr + hs))), (9, .int (nI np)), (8, .int (1)), (7, .int (1)), (0, .ref (ma 0)), (1, .int (nI a)), (2, .int (nI ll)), (3, .int (fr)), (4, .int (hs)), (5, .int (nI z)), (6, .int (ur))] [.int (nI np), .ref (ma 0)]
                                refine g_iconst (v := 1) E dX6_apply_350 (by decide) ?_
                                refine g_iadd E dX6_apply_351 ?_
                                refine k_put_permits (s := (muR (muR (muR (muR (muR (muR (muR (muR (muR (muI s 0 (0)) 11 np (nI a)) 12 np (nI ll)) 13 np (fr)) 14 np ((fr + hs))) 15 np (nI z)) 16 np (ur)) 17 np (1)) 18 np (w)) 19 np ((-1)))) E (fun _ h => (List.mem_cons_of_mem _ (List.mem_append_right _ h))) (List.mem_cons_of_mem _ (List.mem_append_left _ (List.mem_append_left _ (List.mem_of_getElem? (i := 1) rfl)))) dX6_apply_352 ?_
                                refine g_iload E dX6_apply_355 3 rfl ?_
                                exact g_iret E hE hr dX6_apply_357 (Nat.le_of_ble_eq_true rfl) (Nat.le_of_ble_eq_true rfl) ⟨(muI (muR (muR (muR (muR (muR (muR (muR (muR (muR (muI s 0 (0)) 11 np (nI a)) 12 np (nI ll)) 13 np (fr)) 14 np ((fr + hs))) 15 np (nI z)) 16 np (ur)) 17 np (1)) 18 np (w)) 19 np ((-1))) 21 ((nI np + 1))), rfl, Or.inl ⟨a, (BKz s z fr), w, 1, (-1), (muI s 0 0), ⟨ha6, rfl, ⟨ll, hll, rfl⟩, Or.inr ⟨z, hz, rfl, rfl⟩⟩, ⟨bI_ne0.mp c_45, bI_ne0.mp c_56, Int32.not_lt.mp c_64⟩, hnp, hW, Or.inl ⟨c_145, rfl, rfl, rfl⟩, rfl, rfl⟩⟩
                              · exact absurd c_318 c_145
                            · exact absurd c_218 c_145
                          · exact absurd c_170 c_145
                        · refine g_iload E dX6_apply_148 11 rfl ?_
                          refine g_if_eq (tgt := 157) E dX6_apply_150 (by decide) (fun c_150 => ?_) (fun c_150 => ?_)
                          · refine g_aload_n E dX6_apply_157 rfl 5 rfl ?_
                            refine g_iload_n E dX6_apply_158 rfl 7 rfl ?_
                            refine g_iload_n E dX6_apply_159 rfl 8 rfl ?_
                            refine g_iload E dX6_apply_160 1 rfl ?_
                            refine k_invV (n := 3) (rest := []) E (m_X6_joined (xl C) E.tr (xD C) (xy C) e0 (s := (muI s 0 (0))) (ln := nI ll) (a := fr) (b := (fr + hs)) hp0 hp1 hop) gX6_apply_X6_joined rfl rfl rfl (by decide +kernel) ⟨Nat.le_of_ble_eq_true rfl, Nat.le_of_ble_eq_true rfl⟩ rfl rfl (Nat.le_of_ble_eq_true rfl) dX6_apply_162 ⟨Nat.le_of_ble_eq_true rfl, Nat.le_of_ble_eq_true rfl⟩ (fun v9 s9_162 h9 => ?_)
                            obtain ⟨h9, hS9⟩ := h9
                            rw [hS9]
                            rcases h9 with ⟨q, hq, hqF, hqm, hv9⟩ | ⟨hqn, hv9⟩
                            · rw [hv9]
                              have h_o := hop q hq hqF.1.1
                              have hne : ¬ mr s 19 q = -1 := fun e => absurd (e.symm.trans h_o.1) (nI_nm1 (Nat.lt_trans h_o.2 (by decide)))
                              show G C (mW (xy C) ma (muI s 0 (0))) 0 0 165 [(11, .int (w)), (10, .int ((fr + hs))), (9, .int (nI np)), (8, .int (1)), (7, .int (1)), (0, .ref (ma 0)), (1, .int (nI a)), (2, .int (nI ll)), (3, .int (fr)), (4, .int (hs)), (5, .int (nI z)), (6, .int (ur))] [.int ((mr (muI s 0 (0)) 19 q))]
                              refine g_istore (L' := [(12, .int ((mr (muI s 0 (0)) 19 q))), (11, .int (w)), (10, .int ((fr + hs))), (9, .int (nI np)), (8, .int (1)), (7, .int (1)), (0, .ref (ma 0)), (1, .int (nI a)), (2, .int (nI ll)), (3, .int (fr)), (4, .int (hs)), (5, .int (nI z)), (6, .int (ur))]) E dX6_apply_165 (by decide) rfl ?_
                              refine g_iload E dX6_apply_167 1 rfl ?_
                              refine g_iconst (v := (-1)) E dX6_apply_169 (by decide) ?_
                              refine g_icmp_ne (tgt := 215) E dX6_apply_170 (by decide) (fun c_170 => ?_) (fun c_170 => ?_)
                              · exact absurd c_145 c_170
                              · refine g_iload E dX6_apply_173 0 rfl ?_
                                refine g_iconst (v := (-1)) E dX6_apply_175 (by decide) ?_
                                refine g_icmp_ne (tgt := 215) E dX6_apply_176 (by decide) (fun c_176 => ?_) (fun c_176 => ?_)
                                · refine g_iload E dX6_apply_215 1 rfl ?_
                                  refine g_iconst (v := (-1)) E dX6_apply_217 (by decide) ?_
                                  refine g_icmp_ne (tgt := 258) E dX6_apply_218 (by decide) (fun c_218 => ?_) (fun c_218 => ?_)
                                  · exact absurd c_145 c_218
                                  · refine g_aload_n E dX6_apply_221 rfl 6 rfl ?_
                                    refine k_get_first (s := (muI s 0 (0))) E (fun _ h => (List.mem_cons_of_mem _ (List.mem_append_right _ h))) (List.mem_cons_of_mem _ (List.mem_append_left _ (List.mem_append_left _ (List.mem_of_getElem? (i := 3) rfl)))) dX6_apply_222 ?_
                                    refine g_iload E dX6_apply_225 0 rfl ?_
                                    refine g_iload_n E dX6_apply_227 rfl 9 rfl ?_
                                    refine g_aload_n E dX6_apply_228 rfl 6 rfl ?_
                                    refine k_get_first (s := (muI s 0 (0))) E (fun _ h => (List.mem_cons_of_mem _ (List.mem_append_right _ h))) (List.mem_cons_of_mem _ (List.mem_append_left _ (List.mem_append_left _ (List.mem_of_getElem? (i := 3) rfl)))) dX6_apply_229 ?_
                                    refine g_iload E dX6_apply_232 0 rfl ?_
                                    refine k_ald_first (s := (muI s 0 (0))) E ((tn (mr s 19 q))) h_o.1 h_o.2 dX6_apply_234 ?_
                                    refine k_invS (n := 2) (rest := [.int ((mr (muI s 0 (0)) 19 q)), .ref (ma 22)]) E (m_X6_lesser (xl C) E.tr (xD C) (xy C) e0 (s := (muI s 0 (0))) (x := fr) (y := mr (muI s 0 (0)) 22 ((tn (mr s 19 q))))) gX6_apply_X6_lesser rfl rfl rfl (by decide +kernel) ⟨Nat.le_of_ble_eq_true rfl, Nat.le_of_ble_eq_true rfl⟩ rfl rfl (Nat.le_of_ble_eq_true rfl) dX6_apply_235 ⟨Nat.le_of_ble_eq_true rfl, Nat.le_of_ble_eq_true rfl⟩ (fun v9 s9_235 h9 => ?_)
                                    obtain ⟨hv9, hS9⟩ := h9
                                    rw [hv9, hS9]
                                    show G C (mW (xy C) ma (muI s 0 (0))) 0 0 238 [(12, .int ((mr (muI s 0 (0)) 19 q))), (11, .int (w)), (10, .int ((fr + hs))), (9, .int (nI np)), (8, .int (1)), (7, .int (1)), (0, .ref (ma 0)), (1, .int (nI a)), (2, .int (nI ll)), (3, .int (fr)), (4, .int (hs)), (5, .int (nI z)), (6, .int (ur))] [.int ((if fr < mr (muI s 0 (0)) 22 ((tn (mr s 19 q))) then fr else mr (muI s 0 (0)) 22 ((tn (mr s 19 q))))), .int ((mr (muI s 0 (0)) 19 q)), .ref (ma 22)]
                                    refine k_ast_first (s := (muI s 0 (0))) E ((tn (mr s 19 q))) h_o.1 h_o.2 dX6_apply_238 ?_
                                    refine g_aload_n E dX6_apply_239 rfl 6 rfl ?_
                                    refine k_get_behind (s := (muR (muI s 0 (0)) 22 ((tn (mr s 19 q))) ((if fr < mr (muI s 0 (0)) 22 ((tn (mr s 19 q))) then fr else mr (muI s 0 (0)) 22 ((tn (mr s 19 q))))))) E (fun _ h => (List.mem_cons_of_mem _ (List.mem_append_right _ h))) (List.mem_cons_of_mem _ (List.mem_append_left _ (List.mem_append_left _ (List.mem_of_getElem? (i := 4) rfl)))) dX6_apply_240 ?_
                                    refine g_iload E dX6_apply_243 0 rfl ?_
                                    refine g_iload E dX6_apply_245 2 rfl ?_
                                    refine g_aload_n E dX6_apply_247 rfl 6 rfl ?_
                                    refine k_get_behind (s := (muR (muI s 0 (0)) 22 ((tn (mr s 19 q))) ((if fr < mr (muI s 0 (0)) 22 ((tn (mr s 19 q))) then fr else mr (muI s 0 (0)) 22 ((tn (mr s 19 q))))))) E (fun _ h => (List.mem_cons_of_mem _ (List.mem_append_right _ h))) (List.mem_cons_of_mem _ (List.mem_append_left _ (List.mem_append_left _ (List.mem_of_getElem? (i := 4) rfl)))) dX6_apply_248 ?_
                                    refine g_iload E dX6_apply_251 0 rfl ?_
                                    refine k_ald_behind (s := (muR (muI s 0 (0)) 22 ((tn (mr s 19 q))) ((if fr < mr (muI s 0 (0)) 22 ((tn (mr s 19 q))) then fr else mr (muI s 0 (0)) 22 ((tn (mr s 19 q))))))) E ((tn (mr s 19 q))) h_o.1 h_o.2 dX6_apply_253 ?_
                                    refine k_invS (n := 2) (rest := [.int ((mr (muI s 0 (0)) 19 q)), .ref (ma 23)]) E (m_X6_greater (xl C) E.tr (xD C) (xy C) e0 (s := (muR (muI s 0 (0)) 22 ((tn (mr s 19 q))) ((if fr < mr (muI s 0 (0)) 22 ((tn (mr s 19 q))) then fr else mr (muI s 0 (0)) 22 ((tn (mr s 19 q))))))) (x := (fr + hs)) (y := mr (muR (muI s 0 (0)) 22 ((tn (mr s 19 q))) ((if fr < mr (muI s 0 (0)) 22 ((tn (mr s 19 q))) then fr else mr (muI s 0 (0)) 22 ((tn (mr s 19 q)))))) 23 ((tn (mr s 19 q))))) gX6_apply_X6_greater rfl rfl rfl (by decide +kernel) ⟨Nat.le_of_ble_eq_true rfl, Nat.le_of_ble_eq_true rfl⟩ rfl rfl (Nat.le_of_ble_eq_true rfl) dX6_apply_254 ⟨Nat.le_of_ble_eq_true rfl, Nat.le_of_ble_eq_true rfl⟩ (fun v9 s9_254 h9 => ?_)
                                    obtain ⟨hv9, hS9⟩ := h9
                                    rw [hv9, hS9]
                                    show G C (mW (xy C) ma (muR (muI s 0 (0)) 22 ((tn (mr s 19 q))) ((if fr < mr (muI s 0 (0)) 22 ((tn (mr s 19 q))) then fr else mr (muI s 0 (0)) 22 ((tn (mr s 19 q))))))) 0 0 257 [(12, .int ((mr (muI s 0 (0)) 19 q))), (11, .int (w)), (10, .int ((fr + hs))), (9, .int (nI np)), (8, .int (1)), (7, .int (1)), (0, .ref (ma 0)), (1, .int (nI a)), (2, .int (nI ll)), (3, .int (fr)), (4, .int (hs)), (5, .int (nI z)), (6, .int (ur))] [.int ((if mr (muR (muI s 0 (0)) 22 ((tn (mr s 19 q))) ((if fr < mr (muI s 0 (0)) 22 ((tn (mr s 19 q))) then fr else mr (muI s 0 (0)) 22 ((tn (mr s 19 q)))))) 23 ((tn (mr s 19 q))) < (fr + hs) then (fr + hs) else mr (muR (muI s 0 (0)) 22 ((tn (mr s 19 q))) ((if fr < mr (muI s 0 (0)) 22 ((tn (mr s 19 q))) then fr else mr (muI s 0 (0)) 22 ((tn (mr s 19 q)))))) 23 ((tn (mr s 19 q))))), .int ((mr (muI s 0 (0)) 19 q)), .ref (ma 23)]
                                    refine k_ast_behind (s := (muR (muI s 0 (0)) 22 ((tn (mr s 19 q))) ((if fr < mr (muI s 0 (0)) 22 ((tn (mr s 19 q))) then fr else mr (muI s 0 (0)) 22 ((tn (mr s 19 q))))))) E ((tn (mr s 19 q))) h_o.1 h_o.2 dX6_apply_257 ?_
                                    refine g_aload_n E dX6_apply_258 rfl 6 rfl ?_
                                    refine k_get_applicant (s := (muR (muR (muI s 0 (0)) 22 ((tn (mr s 19 q))) ((if fr < mr (muI s 0 (0)) 22 ((tn (mr s 19 q))) then fr else mr (muI s 0 (0)) 22 ((tn (mr s 19 q)))))) 23 ((tn (mr s 19 q))) ((if mr (muR (muI s 0 (0)) 22 ((tn (mr s 19 q))) ((if fr < mr (muI s 0 (0)) 22 ((tn (mr s 19 q))) then fr else mr (muI s 0 (0)) 22 ((tn (mr s 19 q)))))) 23 ((tn (mr s 19 q))) < (fr + hs) then (fr + hs) else mr (muR (muI s 0 (0)) 22 ((tn (mr s 19 q))) ((if fr < mr (muI s 0 (0)) 22 ((tn (mr s 19 q))) then fr else mr (muI s 0 (0)) 22 ((tn (mr s 19 q)))))) 23 ((tn (mr s 19 q))))))) E (fun _ h => (List.mem_cons_of_mem _ (List.mem_append_right _ h))) (List.mem_cons_of_mem _ (List.mem_append_left _ (List.mem_append_left _ (List.mem_of_getElem? (i := 5) rfl)))) dX6_apply_259 ?_
                                    refine g_iload E dX6_apply_262 3 rfl ?_
                                    refine g_iload_n E dX6_apply_264 rfl 7 rfl ?_
                                    refine k_ast_applicant (s := (muR (muR (muI s 0 (0)) 22 ((tn (mr s 19 q))) ((if fr < mr (muI s 0 (0)) 22 ((tn (mr s 19 q))) then fr else mr (muI s 0 (0)) 22 ((tn (mr s 19 q)))))) 23 ((tn (mr s 19 q))) ((if mr (muR (muI s 0 (0)) 22 ((tn (mr s 19 q))) ((if fr < mr (muI s 0 (0)) 22 ((tn (mr s 19 q))) then fr else mr (muI s 0 (0)) 22 ((tn (mr s 19 q)))))) 23 ((tn (mr s 19 q))) < (fr + hs) then (fr + hs) else mr (muR (muI s 0 (0)) 22 ((tn (mr s 19 q))) ((if fr < mr (muI s 0 (0)) 22 ((tn (mr s 19 q))) then fr else mr (muI s 0 (0)) 22 ((tn (mr s 19 q)))))) 23 ((tn (mr s 19 q))))))) E np rfl (by omega) dX6_apply_265 ?_
                                    refine g_aload_n E dX6_apply_266 rfl 6 rfl ?_
                                    refine k_get_lane (s := (muR (muR (muR (muI s 0 (0)) 22 ((tn (mr s 19 q))) ((if fr < mr (muI s 0 (0)) 22 ((tn (mr s 19 q))) then fr else mr (muI s 0 (0)) 22 ((tn (mr s 19 q)))))) 23 ((tn (mr s 19 q))) ((if mr (muR (muI s 0 (0)) 22 ((tn (mr s 19 q))) ((if fr < mr (muI s 0 (0)) 22 ((tn (mr s 19 q))) then fr else mr (muI s 0 (0)) 22 ((tn (mr s 19 q)))))) 23 ((tn (mr s 19 q))) < (fr + hs) then (fr + hs) else mr (muR (muI s 0 (0)) 22 ((tn (mr s 19 q))) ((if fr < mr (muI s 0 (0)) 22 ((tn (mr s 19 q))) then fr else mr (muI s 0 (0)) 22 ((tn (mr s 19 q)))))) 23 ((tn (mr s 19 q)))))) 11 np (nI a))) E (fun _ h => (List.mem_cons_of_mem _ (List.mem_append_right _ h))) (List.mem_cons_of_mem _ (List.mem_append_left _ (List.mem_append_left _ (List.mem_of_getElem? (i := 6) rfl)))) dX6_apply_267 ?_
                                    refine g_iload E dX6_apply_270 3 rfl ?_
                                    refine g_iload_n E dX6_apply_272 rfl 8 rfl ?_
                                    refine k_ast_lane (s := (muR (muR (muR (muI s 0 (0)) 22 ((tn (mr s 19 q))) ((if fr < mr (muI s 0 (0)) 22 ((tn (mr s 19 q))) then fr else mr (muI s 0 (0)) 22 ((tn (mr s 19 q)))))) 23 ((tn (mr s 19 q))) ((if mr (muR (muI s 0 (0)) 22 ((tn (mr s 19 q))) ((if fr < mr (muI s 0 (0)) 22 ((tn (mr s 19 q))) then fr else mr (muI s 0 (0)) 22 ((tn (mr s 19 q)))))) 23 ((tn (mr s 19 q))) < (fr + hs) then (fr + hs) else mr (muR (muI s 0 (0)) 22 ((tn (mr s 19 q))) ((if fr < mr (muI s 0 (0)) 22 ((tn (mr s 19 q))) then fr else mr (muI s 0 (0)) 22 ((tn (mr s 19 q)))))) 23 ((tn (mr s 19 q)))))) 11 np (nI a))) E np rfl (by omega) dX6_apply_273 ?_
                                    refine g_aload_n E dX6_apply_274 rfl 6 rfl ?_
                                    refine k_get_from (s := (muR (muR (muR (muR (muI s 0 (0)) 22 ((tn (mr s 19 q))) ((if fr < mr (muI s 0 (0)) 22 ((tn (mr s 19 q))) then fr else mr (muI s 0 (0)) 22 ((tn (mr s 19 q)))))) 23 ((tn (mr s 19 q))) ((if mr (muR (muI s 0 (0)) 22 ((tn (mr s 19 q))) ((if fr < mr (muI s 0 (0)) 22 ((tn (mr s 19 q))) then fr else mr (muI s 0 (0)) 22 ((tn (mr s 19 q)))))) 23 ((tn (mr s 19 q))) < (fr + hs) then (fr + hs) else mr (muR (muI s 0 (0)) 22 ((tn (mr s 19 q))) ((if fr < mr (muI s 0 (0)) 22 ((tn (mr s 19 q))) then fr else mr (muI s 0 (0)) 22 ((tn (mr s 19 q)))))) 23 ((tn (mr s 19 q)))))) 11 np (nI a)) 12 np (nI ll))) E (fun _ h => (List.mem_cons_of_mem _ (List.mem_append_right _ h))) (List.mem_cons_of_mem _ (List.mem_append_left _ (List.mem_append_left _ (List.mem_of_getElem? (i := 7) rfl)))) dX6_apply_275 ?_
                                    refine g_iload E dX6_apply_278 3 rfl ?_
                                    refine g_iload_n E dX6_apply_280 rfl 9 rfl ?_
                                    refine k_ast_from (s := (muR (muR (muR (muR (muI s 0 (0)) 22 ((tn (mr s 19 q))) ((if fr < mr (muI s 0 (0)) 22 ((tn (mr s 19 q))) then fr else mr (muI s 0 (0)) 22 ((tn (mr s 19 q)))))) 23 ((tn (mr s 19 q))) ((if mr (muR (muI s 0 (0)) 22 ((tn (mr s 19 q))) ((if fr < mr (muI s 0 (0)) 22 ((tn (mr s 19 q))) then fr else mr (muI s 0 (0)) 22 ((tn (mr s 19 q)))))) 23 ((tn (mr s 19 q))) < (fr + hs) then (fr + hs) else mr (muR (muI s 0 (0)) 22 ((tn (mr s 19 q))) ((if fr < mr (muI s 0 (0)) 22 ((tn (mr s 19 q))) then fr else mr (muI s 0 (0)) 22 ((tn (mr s 19 q)))))) 23 ((tn (mr s 19 q)))))) 11 np (nI a)) 12 np (nI ll))) E np rfl (by omega) dX6_apply_281 ?_
                                    refine g_aload_n E dX6_apply_282 rfl 6 rfl ?_
                                    refine k_get_end (s := (muR (muR (muR (muR (muR (muI s 0 (0)) 22 ((tn (mr s 19 q))) ((if fr < mr (muI s 0 (0)) 22 ((tn (mr s 19 q))) then fr else mr (muI s 0 (0)) 22 ((tn (mr s 19 q)))))) 23 ((tn (mr s 19 q))) ((if mr (muR (muI s 0 (0)) 22 ((tn (mr s 19 q))) ((if fr < mr (muI s 0 (0)) 22 ((tn (mr s 19 q))) then fr else mr (muI s 0 (0)) 22 ((tn (mr s 19 q)))))) 23 ((tn (mr s 19 q))) < (fr + hs) then (fr + hs) else mr (muR (muI s 0 (0)) 22 ((tn (mr s 19 q))) ((if fr < mr (muI s 0 (0)) 22 ((tn (mr s 19 q))) then fr else mr (muI s 0 (0)) 22 ((tn (mr s 19 q)))))) 23 ((tn (mr s 19 q)))))) 11 np (nI a)) 12 np (nI ll)) 13 np (fr))) E (fun _ h => (List.mem_cons_of_mem _ (List.mem_append_right _ h))) (List.mem_cons_of_mem _ (List.mem_append_left _ (List.mem_append_left _ (List.mem_of_getElem? (i := 8) rfl)))) dX6_apply_283 ?_
                                    refine g_iload E dX6_apply_286 3 rfl ?_
                                    refine g_iload E dX6_apply_288 2 rfl ?_
                                    refine k_ast_end (s := (muR (muR (muR (muR (muR (muI s 0 (0)) 22 ((tn (mr s 19 q))) ((if fr < mr (muI s 0 (0)) 22 ((tn (mr s 19 q))) then fr else mr (muI s 0 (0)) 22 ((tn (mr s 19 q)))))) 23 ((tn (mr s 19 q))) ((if mr (muR (muI s 0 (0)) 22 ((tn (mr s 19 q))) ((if fr < mr (muI s 0 (0)) 22 ((tn (mr s 19 q))) then fr else mr (muI s 0 (0)) 22 ((tn (mr s 19 q)))))) 23 ((tn (mr s 19 q))) < (fr + hs) then (fr + hs) else mr (muR (muI s 0 (0)) 22 ((tn (mr s 19 q))) ((if fr < mr (muI s 0 (0)) 22 ((tn (mr s 19 q))) then fr else mr (muI s 0 (0)) 22 ((tn (mr s 19 q)))))) 23 ((tn (mr s 19 q)))))) 11 np (nI a)) 12 np (nI ll)) 13 np (fr))) E np rfl (by omega) dX6_apply_290 ?_
                                    refine g_aload_n E dX6_apply_291 rfl 6 rfl ?_
                                    refine k_get_needs (s := (muR (muR (muR (muR (muR (muR (muI s 0 (0)) 22 ((tn (mr s 19 q))) ((if fr < mr (muI s 0 (0)) 22 ((tn (mr s 19 q))) then fr else mr (muI s 0 (0)) 22 ((tn (mr s 19 q)))))) 23 ((tn (mr s 19 q))) ((if mr (muR (muI s 0 (0)) 22 ((tn (mr s 19 q))) ((if fr < mr (muI s 0 (0)) 22 ((tn (mr s 19 q))) then fr else mr (muI s 0 (0)) 22 ((tn (mr s 19 q)))))) 23 ((tn (mr s 19 q))) < (fr + hs) then (fr + hs) else mr (muR (muI s 0 (0)) 22 ((tn (mr s 19 q))) ((if fr < mr (muI s 0 (0)) 22 ((tn (mr s 19 q))) then fr else mr (muI s 0 (0)) 22 ((tn (mr s 19 q)))))) 23 ((tn (mr s 19 q)))))) 11 np (nI a)) 12 np (nI ll)) 13 np (fr)) 14 np ((fr + hs)))) E (fun _ h => (List.mem_cons_of_mem _ (List.mem_append_right _ h))) (List.mem_cons_of_mem _ (List.mem_append_left _ (List.mem_append_left _ (List.mem_of_getElem? (i := 9) rfl)))) dX6_apply_292 ?_
                                    refine g_iload E dX6_apply_295 3 rfl ?_
                                    refine g_iload E dX6_apply_297 11 rfl ?_
                                    refine k_ast_needs (s := (muR (muR (muR (muR (muR (muR (muI s 0 (0)) 22 ((tn (mr s 19 q))) ((if fr < mr (muI s 0 (0)) 22 ((tn (mr s 19 q))) then fr else mr (muI s 0 (0)) 22 ((tn (mr s 19 q)))))) 23 ((tn (mr s 19 q))) ((if mr (muR (muI s 0 (0)) 22 ((tn (mr s 19 q))) ((if fr < mr (muI s 0 (0)) 22 ((tn (mr s 19 q))) then fr else mr (muI s 0 (0)) 22 ((tn (mr s 19 q)))))) 23 ((tn (mr s 19 q))) < (fr + hs) then (fr + hs) else mr (muR (muI s 0 (0)) 22 ((tn (mr s 19 q))) ((if fr < mr (muI s 0 (0)) 22 ((tn (mr s 19 q))) then fr else mr (muI s 0 (0)) 22 ((tn (mr s 19 q)))))) 23 ((tn (mr s 19 q)))))) 11 np (nI a)) 12 np (nI ll)) 13 np (fr)) 14 np ((fr + hs)))) E np rfl (by omega) dX6_apply_299 ?_
                                    refine g_aload_n E dX6_apply_300 rfl 6 rfl ?_
                                    refine k_get_isUrgent (s := (muR (muR (muR (muR (muR (muR (muR (muI s 0 (0)) 22 ((tn (mr s 19 q))) ((if fr < mr (muI s 0 (0)) 22 ((tn (mr s 19 q))) then fr else mr (muI s 0 (0)) 22 ((tn (mr s 19 q)))))) 23 ((tn (mr s 19 q))) ((if mr (muR (muI s 0 (0)) 22 ((tn (mr s 19 q))) ((if fr < mr (muI s 0 (0)) 22 ((tn (mr s 19 q))) then fr else mr (muI s 0 (0)) 22 ((tn (mr s 19 q)))))) 23 ((tn (mr s 19 q))) < (fr + hs) then (fr + hs) else mr (muR (muI s 0 (0)) 22 ((tn (mr s 19 q))) ((if fr < mr (muI s 0 (0)) 22 ((tn (mr s 19 q))) then fr else mr (muI s 0 (0)) 22 ((tn (mr s 19 q)))))) 23 ((tn (mr s 19 q)))))) 11 np (nI a)) 12 np (nI ll)) 13 np (fr)) 14 np ((fr + hs))) 15 np (nI z))) E (fun _ h => (List.mem_cons_of_mem _ (List.mem_append_right _ h))) (List.mem_cons_of_mem _ (List.mem_append_left _ (List.mem_append_left _ (List.mem_of_getElem? (i := 10) rfl)))) dX6_apply_301 ?_
                                    refine g_iload E dX6_apply_304 3 rfl ?_
                                    refine g_iload E dX6_apply_306 12 rfl ?_
                                    refine k_ast_isUrgent (s := (muR (muR (muR (muR (muR (muR (muR (muI s 0 (0)) 22 ((tn (mr s 19 q))) ((if fr < mr (muI s 0 (0)) 22 ((tn (mr s 19 q))) then fr else mr (muI s 0 (0)) 22 ((tn (mr s 19 q)))))) 23 ((tn (mr s 19 q))) ((if mr (muR (muI s 0 (0)) 22 ((tn (mr s 19 q))) ((if fr < mr (muI s 0 (0)) 22 ((tn (mr s 19 q))) then fr else mr (muI s 0 (0)) 22 ((tn (mr s 19 q)))))) 23 ((tn (mr s 19 q))) < (fr + hs) then (fr + hs) else mr (muR (muI s 0 (0)) 22 ((tn (mr s 19 q))) ((if fr < mr (muI s 0 (0)) 22 ((tn (mr s 19 q))) then fr else mr (muI s 0 (0)) 22 ((tn (mr s 19 q)))))) 23 ((tn (mr s 19 q)))))) 11 np (nI a)) 12 np (nI ll)) 13 np (fr)) 14 np ((fr + hs))) 15 np (nI z))) E (hu) np rfl (by omega) dX6_apply_308 ?_
                                    refine g_aload_n E dX6_apply_309 rfl 6 rfl ?_
                                    refine k_get_state (s := (muR (muR (muR (muR (muR (muR (muR (muR (muI s 0 (0)) 22 ((tn (mr s 19 q))) ((if fr < mr (muI s 0 (0)) 22 ((tn (mr s 19 q))) then fr else mr (muI s 0 (0)) 22 ((tn (mr s 19 q)))))) 23 ((tn (mr s 19 q))) ((if mr (muR (muI s 0 (0)) 22 ((tn (mr s 19 q))) ((if fr < mr (muI s 0 (0)) 22 ((tn (mr s 19 q))) then fr else mr (muI s 0 (0)) 22 ((tn (mr s 19 q)))))) 23 ((tn (mr s 19 q))) < (fr + hs) then (fr + hs) else mr (muR (muI s 0 (0)) 22 ((tn (mr s 19 q))) ((if fr < mr (muI s 0 (0)) 22 ((tn (mr s 19 q))) then fr else mr (muI s 0 (0)) 22 ((tn (mr s 19 q)))))) 23 ((tn (mr s 19 q)))))) 11 np (nI a)) 12 np (nI ll)) 13 np (fr)) 14 np ((fr + hs))) 15 np (nI z)) 16 np (ur))) E (fun _ h => (List.mem_cons_of_mem _ (List.mem_append_right _ h))) (List.mem_cons_of_mem _ (List.mem_append_left _ (List.mem_append_left _ (List.mem_of_getElem? (i := 11) rfl)))) dX6_apply_310 ?_
                                    refine g_iload E dX6_apply_313 3 rfl ?_
                                    refine g_iload E dX6_apply_315 1 rfl ?_
                                    refine g_iconst (v := (-1)) E dX6_apply_317 (by decide) ?_
                                    refine g_icmp_ne (tgt := 325) E dX6_apply_318 (by decide) (fun c_318 => ?_) (fun c_318 => ?_)
                                    · exact absurd c_145 c_318
                                    · refine g_iconst (v := 0) E dX6_apply_321 (by decide) ?_
                                      refine g_goto (tgt := 326) E dX6_apply_322 (by decide) ?_
                                      refine k_ast_state (s := (muR (muR (muR (muR (muR (muR (muR (muR (muI s 0 (0)) 22 ((tn (mr s 19 q))) ((if fr < mr (muI s 0 (0)) 22 ((tn (mr s 19 q))) then fr else mr (muI s 0 (0)) 22 ((tn (mr s 19 q)))))) 23 ((tn (mr s 19 q))) ((if mr (muR (muI s 0 (0)) 22 ((tn (mr s 19 q))) ((if fr < mr (muI s 0 (0)) 22 ((tn (mr s 19 q))) then fr else mr (muI s 0 (0)) 22 ((tn (mr s 19 q)))))) 23 ((tn (mr s 19 q))) < (fr + hs) then (fr + hs) else mr (muR (muI s 0 (0)) 22 ((tn (mr s 19 q))) ((if fr < mr (muI s 0 (0)) 22 ((tn (mr s 19 q))) then fr else mr (muI s 0 (0)) 22 ((tn (mr s 19 q)))))) 23 ((tn (mr s 19 q)))))) 11 np (nI a)) 12 np (nI ll)) 13 np (fr)) 14 np ((fr + hs))) 15 np (nI z)) 16 np (ur))) E np rfl (by omega) dX6_apply_326 ?_
                                      refine g_aload_n E dX6_apply_327 rfl 6 rfl ?_
                                      refine k_get_cause (s := (muR (muR (muR (muR (muR (muR (muR (muR (muR (muI s 0 (0)) 22 ((tn (mr s 19 q))) ((if fr < mr (muI s 0 (0)) 22 ((tn (mr s 19 q))) then fr else mr (muI s 0 (0)) 22 ((tn (mr s 19 q)))))) 23 ((tn (mr s 19 q))) ((if mr (muR (muI s 0 (0)) 22 ((tn (mr s 19 q))) ((if fr < mr (muI s 0 (0)) 22 ((tn (mr s 19 q))) then fr else mr (muI s 0 (0)) 22 ((tn (mr s 19 q)))))) 23 ((tn (mr s 19 q))) < (fr + hs) then (fr + hs) else mr (muR (muI s 0 (0)) 22 ((tn (mr s 19 q))) ((if fr < mr (muI s 0 (0)) 22 ((tn (mr s 19 q))) then fr else mr (muI s 0 (0)) 22 ((tn (mr s 19 q)))))) 23 ((tn (mr s 19 q)))))) 11 np (nI a)) 12 np (nI ll)) 13 np (fr)) 14 np ((fr + hs))) 15 np (nI z)) 16 np (ur)) 17 np (0))) E (fun _ h => (List.mem_cons_of_mem _ (List.mem_append_right _ h))) (List.mem_cons_of_mem _ (List.mem_append_left _ (List.mem_append_left _ (List.mem_of_getElem? (i := 12) rfl)))) dX6_apply_328 ?_
                                      refine g_iload E dX6_apply_331 3 rfl ?_
                                      refine g_iload E dX6_apply_333 1 rfl ?_
                                      refine k_ast_cause (s := (muR (muR (muR (muR (muR (muR (muR (muR (muR (muI s 0 (0)) 22 ((tn (mr s 19 q))) ((if fr < mr (muI s 0 (0)) 22 ((tn (mr s 19 q))) then fr else mr (muI s 0 (0)) 22 ((tn (mr s 19 q)))))) 23 ((tn (mr s 19 q))) ((if mr (muR (muI s 0 (0)) 22 ((tn (mr s 19 q))) ((if fr < mr (muI s 0 (0)) 22 ((tn (mr s 19 q))) then fr else mr (muI s 0 (0)) 22 ((tn (mr s 19 q)))))) 23 ((tn (mr s 19 q))) < (fr + hs) then (fr + hs) else mr (muR (muI s 0 (0)) 22 ((tn (mr s 19 q))) ((if fr < mr (muI s 0 (0)) 22 ((tn (mr s 19 q))) then fr else mr (muI s 0 (0)) 22 ((tn (mr s 19 q)))))) 23 ((tn (mr s 19 q)))))) 11 np (nI a)) 12 np (nI ll)) 13 np (fr)) 14 np ((fr + hs))) 15 np (nI z)) 16 np (ur)) 17 np (0))) E np rfl (by omega) dX6_apply_335 ?_
                                      refine g_aload_n E dX6_apply_336 rfl 6 rfl ?_
                                      refine k_get_opening (s := (muR (muR (muR (muR (muR (muR (muR (muR (muR (muR (muI s 0 (0)) 22 ((tn (mr s 19 q))) ((if fr < mr (muI s 0 (0)) 22 ((tn (mr s 19 q))) then fr else mr (muI s 0 (0)) 22 ((tn (mr s 19 q)))))) 23 ((tn (mr s 19 q))) ((if mr (muR (muI s 0 (0)) 22 ((tn (mr s 19 q))) ((if fr < mr (muI s 0 (0)) 22 ((tn (mr s 19 q))) then fr else mr (muI s 0 (0)) 22 ((tn (mr s 19 q)))))) 23 ((tn (mr s 19 q))) < (fr + hs) then (fr + hs) else mr (muR (muI s 0 (0)) 22 ((tn (mr s 19 q))) ((if fr < mr (muI s 0 (0)) 22 ((tn (mr s 19 q))) then fr else mr (muI s 0 (0)) 22 ((tn (mr s 19 q)))))) 23 ((tn (mr s 19 q)))))) 11 np (nI a)) 12 np (nI ll)) 13 np (fr)) 14 np ((fr + hs))) 15 np (nI z)) 16 np (ur)) 17 np (0)) 18 np (w))) E (fun _ h => (List.mem_cons_of_mem _ (List.mem_append_right _ h))) (List.mem_cons_of_mem _ (List.mem_append_left _ (List.mem_append_left _ (List.mem_of_getElem? (i := 13) rfl)))) dX6_apply_337 ?_
                                      refine g_iload E dX6_apply_340 3 rfl ?_
                                      refine g_iload E dX6_apply_342 0 rfl ?_
                                      refine k_ast_opening (s := (muR (muR (muR (muR (muR (muR (muR (muR (muR (muR (muI s 0 (0)) 22 ((tn (mr s 19 q))) ((if fr < mr (muI s 0 (0)) 22 ((tn (mr s 19 q))) then fr else mr (muI s 0 (0)) 22 ((tn (mr s 19 q)))))) 23 ((tn (mr s 19 q))) ((if mr (muR (muI s 0 (0)) 22 ((tn (mr s 19 q))) ((if fr < mr (muI s 0 (0)) 22 ((tn (mr s 19 q))) then fr else mr (muI s 0 (0)) 22 ((tn (mr s 19 q)))))) 23 ((tn (mr s 19 q))) < (fr + hs) then (fr + hs) else mr (muR (muI s 0 (0)) 22 ((tn (mr s 19 q))) ((if fr < mr (muI s 0 (0)) 22 ((tn (mr s 19 q))) then fr else mr (muI s 0 (0)) 22 ((tn (mr s 19 q)))))) 23 ((tn (mr s 19 q)))))) 11 np (nI a)) 12 np (nI ll)) 13 np (fr)) 14 np ((fr + hs))) 15 np (nI z)) 16 np (ur)) 17 np (0)) 18 np (w))) E np rfl (by omega) dX6_apply_344 ?_
                                      refine g_aload_n E dX6_apply_345 rfl 6 rfl ?_
                                      refine g_dup E dX6_apply_346 rfl ?_
                                      refine k_get_permits (s := (muR (muR (muR (muR (muR (muR (muR (muR (muR (muR (muR (muI s 0 (0)) 22 ((tn (mr s 19 q))) ((if fr < mr (muI s 0 (0)) 22 ((tn (mr s 19 q))) then fr else mr (muI s 0 (0)) 22 ((tn (mr s 19 q)))))) 23 ((tn (mr s 19 q))) ((if mr (muR (muI s 0 (0)) 22 ((tn (mr s 19 q))) ((if fr < mr (muI s 0 (0)) 22 ((tn (mr s 19 q))) then fr else mr (muI s 0 (0)) 22 ((tn (mr s 19 q)))))) 23 ((tn (mr s 19 q))) < (fr + hs) then (fr + hs) else mr (muR (muI s 0 (0)) 22 ((tn (mr s 19 q))) ((if fr < mr (muI s 0 (0)) 22 ((tn (mr s 19 q))) then fr else mr (muI s 0 (0)) 22 ((tn (mr s 19 q)))))) 23 ((tn (mr s 19 q)))))) 11 np (nI a)) 12 np (nI ll)) 13 np (fr)) 14 np ((fr + hs))) 15 np (nI z)) 16 np (ur)) 17 np (0)) 18 np (w)) 19 np ((mr (muI s 0 (0)) 19 q)))) E (fun _ h => (List.mem_cons_of_mem _ (List.mem_append_right _ h))) (List.mem_cons_of_mem _ (List.mem_append_left _ (List.mem_append_left _ (List.mem_of_getElem? (i := 1) rfl)))) dX6_apply_347 ?_
                                      rw [show mi (muR (muR (muR (muR (muR (muR (muR (muR (muR (muR (muR (muI s 0 (0)) 22 ((tn (mr s 19 q))) ((if fr < mr (muI s 0 (0)) 22 ((tn (mr s 19 q))) then fr else mr (muI s 0 (0)) 22 ((tn (mr s 19 q)))))) 23 ((tn (mr s 19 q))) ((if mr (muR (muI s 0 (0)) 22 ((tn (mr s 19 q))) ((if fr < mr (muI s 0 (0)) 22 ((tn (mr s 19 q))) then fr else mr (muI s 0 (0)) 22 ((tn (mr s 19 q)))))) 23 ((tn (mr s 19 q))) < (fr + hs) then (fr + hs) else mr (muR (muI s 0 (0)) 22 ((tn (mr s 19 q))) ((if fr < mr (muI s 0 (0)) 22 ((tn (mr s 19 q))) then fr else mr (muI s 0 (0)) 22 ((tn (mr s 19 q)))))) 23 ((tn (mr s 19 q)))))) 11 np (nI a)) 12 np (nI ll)) 13 np (fr)) 14 np ((fr + hs))) 15 np (nI z)) 16 np (ur)) 17 np (0)) 18 np (w)) 19 np ((mr (muI s 0 (0)) 19 q))) 21 = nI np from hp0]
                                      show G C (mW (xy C) ma (muR (muR (muR (muR (muR (muR (muR (muR (muR (muR (muR (muI s 0 (0)) 22 ((tn (mr s 19 q))) ((if fr < mr (muI s 0 (0)) 22 ((tn (mr s 19 q))) then fr else mr (muI s 0 (0)) 22 ((tn (mr s 19 q)))))) 23 ((tn (mr s 19 q))) ((if mr (muR (muI s 0 (0)) 22 ((tn (mr s 19 q))) ((if fr < mr (muI s 0 (0)) 22 ((tn (mr s 19 q))) then fr else mr (muI s 0 (0)) 22 ((tn (mr s 19 q)))))) 23 ((tn (mr s 19 q))) < (fr + hs) then (fr + hs) else mr (muR (muI s 0 (0)) 22 ((tn (mr s 19 q))) ((if fr < mr (muI s 0 (0)) 22 ((tn (mr s 19 q))) then fr else mr (muI s 0 (0)) 22 ((tn (mr s 19 q)))))) 23 ((tn (mr s 19 q)))))) 11 np (nI a)) 12 np (nI ll)) 13 np (fr)) 14 np ((fr + hs))) 15 np (nI z)) 16 np (ur)) 17 np (0)) 18 np (w)) 19 np ((mr (muI s 0 (0)) 19 q)))) 0 0 350 [(12, .int ((mr (muI s 0 (0)) 19 q))), (11, .int (w)), (10, .int ((fr + hs))), (9, .int (nI np)), (8, .int (1)), (7, .int (1)), (0, .ref (ma 0)), (1, .int (nI a)), (2, .int (nI ll)), (3, .int (fr)), (4, .int (hs)), (5, .int (nI z)), (6, .int (ur))] [.int (nI np), .ref (ma 0)]
                                      refine g_iconst (v := 1) E dX6_apply_350 (by decide) ?_
                                      refine g_iadd E dX6_apply_351 ?_
                                      refine k_put_permits (s := (muR (muR (muR (muR (muR (muR (muR (muR (muR (muR (muR (muI s 0 (0)) 22 ((tn (mr s 19 q))) ((if fr < mr (muI s 0 (0)) 22 ((tn (mr s 19 q))) then fr else mr (muI s 0 (0)) 22 ((tn (mr s 19 q)))))) 23 ((tn (mr s 19 q))) ((if mr (muR (muI s 0 (0)) 22 ((tn (mr s 19 q))) ((if fr < mr (muI s 0 (0)) 22 ((tn (mr s 19 q))) then fr else mr (muI s 0 (0)) 22 ((tn (mr s 19 q)))))) 23 ((tn (mr s 19 q))) < (fr + hs) then (fr + hs) else mr (muR (muI s 0 (0)) 22 ((tn (mr s 19 q))) ((if fr < mr (muI s 0 (0)) 22 ((tn (mr s 19 q))) then fr else mr (muI s 0 (0)) 22 ((tn (mr s 19 q)))))) 23 ((tn (mr s 19 q)))))) 11 np (nI a)) 12 np (nI ll)) 13 np (fr)) 14 np ((fr + hs))) 15 np (nI z)) 16 np (ur)) 17 np (0)) 18 np (w)) 19 np ((mr (muI s 0 (0)) 19 q)))) E (fun _ h => (List.mem_cons_of_mem _ (List.mem_append_right _ h))) (List.mem_cons_of_mem _ (List.mem_append_left _ (List.mem_append_left _ (List.mem_of_getElem? (i := 1) rfl)))) dX6_apply_352 ?_
                                      refine g_iload E dX6_apply_355 3 rfl ?_
                                      exact g_iret E hE hr dX6_apply_357 (Nat.le_of_ble_eq_true rfl) (Nat.le_of_ble_eq_true rfl) ⟨(muI (muR (muR (muR (muR (muR (muR (muR (muR (muR (muR (muR (muI s 0 (0)) 22 ((tn (mr s 19 q))) ((if fr < mr (muI s 0 (0)) 22 ((tn (mr s 19 q))) then fr else mr (muI s 0 (0)) 22 ((tn (mr s 19 q)))))) 23 ((tn (mr s 19 q))) ((if mr (muR (muI s 0 (0)) 22 ((tn (mr s 19 q))) ((if fr < mr (muI s 0 (0)) 22 ((tn (mr s 19 q))) then fr else mr (muI s 0 (0)) 22 ((tn (mr s 19 q)))))) 23 ((tn (mr s 19 q))) < (fr + hs) then (fr + hs) else mr (muR (muI s 0 (0)) 22 ((tn (mr s 19 q))) ((if fr < mr (muI s 0 (0)) 22 ((tn (mr s 19 q))) then fr else mr (muI s 0 (0)) 22 ((tn (mr s 19 q)))))) 23 ((tn (mr s 19 q)))))) 11 np (nI a)) 12 np (nI ll)) 13 np (fr)) 14 np ((fr + hs))) 15 np (nI z)) 16 np (ur)) 17 np (0)) 18 np (w)) 19 np ((mr (muI s 0 (0)) 19 q))) 21 ((nI np + 1))), rfl, Or.inl ⟨a, (BKz s z fr), w, 0, (mr s 19 q), (mOld s (tn (mr s 19 q)) fr (fr + hs)), ⟨ha6, rfl, ⟨ll, hll, rfl⟩, Or.inr ⟨z, hz, rfl, rfl⟩⟩, ⟨bI_ne0.mp c_45, bI_ne0.mp c_56, Int32.not_lt.mp c_64⟩, hnp, hW, Or.inr (Or.inr ⟨c_145, rfl, q, hq, h_o.1, c_150, hqF, hqm, rfl, rfl⟩), rfl, rfl⟩⟩
                                · exact absurd c_176 hne
                            · rw [hv9]
                              show G C (mW (xy C) ma (muI s 0 (0))) 0 0 165 [(11, .int (w)), (10, .int ((fr + hs))), (9, .int (nI np)), (8, .int (1)), (7, .int (1)), (0, .ref (ma 0)), (1, .int (nI a)), (2, .int (nI ll)), (3, .int (fr)), (4, .int (hs)), (5, .int (nI z)), (6, .int (ur))] [.int ((-1))]
                              refine g_istore (L' := [(12, .int ((-1))), (11, .int (w)), (10, .int ((fr + hs))), (9, .int (nI np)), (8, .int (1)), (7, .int (1)), (0, .ref (ma 0)), (1, .int (nI a)), (2, .int (nI ll)), (3, .int (fr)), (4, .int (hs)), (5, .int (nI z)), (6, .int (ur))]) E dX6_apply_165 (by decide) rfl ?_
                              refine g_iload E dX6_apply_167 1 rfl ?_
                              refine g_iconst (v := (-1)) E dX6_apply_169 (by decide) ?_
                              refine g_icmp_ne (tgt := 215) E dX6_apply_170 (by decide) (fun c_170 => ?_) (fun c_170 => ?_)
                              · exact absurd c_145 c_170
                              · refine g_iload E dX6_apply_173 0 rfl ?_
                                refine g_iconst (v := (-1)) E dX6_apply_175 (by decide) ?_
                                refine g_icmp_ne (tgt := 215) E dX6_apply_176 (by decide) (fun c_176 => ?_) (fun c_176 => ?_)
                                · exact absurd c_176 (by decide)
                                · refine g_aload_n E dX6_apply_179 rfl 6 rfl ?_
                                  refine k_get_openings (s := (muI s 0 (0))) E (fun _ h => (List.mem_cons_of_mem _ (List.mem_append_right _ h))) (List.mem_cons_of_mem _ (List.mem_append_left _ (List.mem_append_left _ (List.mem_of_getElem? (i := 2) rfl)))) dX6_apply_180 ?_
                                  rw [show mi (muI s 0 (0)) 24 = nI no from hno]
                                  show G C (mW (xy C) ma (muI s 0 (0))) 0 0 183 [(12, .int ((-1))), (11, .int (w)), (10, .int ((fr + hs))), (9, .int (nI np)), (8, .int (1)), (7, .int (1)), (0, .ref (ma 0)), (1, .int (nI a)), (2, .int (nI ll)), (3, .int (fr)), (4, .int (hs)), (5, .int (nI z)), (6, .int (ur))] [.int (nI no)]
                                  refine g_istore (L' := [(12, .int (nI no)), (11, .int (w)), (10, .int ((fr + hs))), (9, .int (nI np)), (8, .int (1)), (7, .int (1)), (0, .ref (ma 0)), (1, .int (nI a)), (2, .int (nI ll)), (3, .int (fr)), (4, .int (hs)), (5, .int (nI z)), (6, .int (ur))]) E dX6_apply_183 (by decide) rfl ?_
                                  refine g_aload_n E dX6_apply_185 rfl 6 rfl ?_
                                  refine k_get_first (s := (muI s 0 (0))) E (fun _ h => (List.mem_cons_of_mem _ (List.mem_append_right _ h))) (List.mem_cons_of_mem _ (List.mem_append_left _ (List.mem_append_left _ (List.mem_of_getElem? (i := 3) rfl)))) dX6_apply_186 ?_
                                  refine g_iload E dX6_apply_189 0 rfl ?_
                                  refine g_iload_n E dX6_apply_191 rfl 9 rfl ?_
                                  refine k_ast_first (s := (muI s 0 (0))) E no rfl (by omega) dX6_apply_192 ?_
                                  refine g_aload_n E dX6_apply_193 rfl 6 rfl ?_
                                  refine k_get_behind (s := (muR (muI s 0 (0)) 22 no (fr))) E (fun _ h => (List.mem_cons_of_mem _ (List.mem_append_right _ h))) (List.mem_cons_of_mem _ (List.mem_append_left _ (List.mem_append_left _ (List.mem_of_getElem? (i := 4) rfl)))) dX6_apply_194 ?_
                                  refine g_iload E dX6_apply_197 0 rfl ?_
                                  refine g_iload E dX6_apply_199 2 rfl ?_
                                  refine k_ast_behind (s := (muR (muI s 0 (0)) 22 no (fr))) E no rfl (by omega) dX6_apply_201 ?_
                                  refine g_aload_n E dX6_apply_202 rfl 6 rfl ?_
                                  refine g_dup E dX6_apply_203 rfl ?_
                                  refine k_get_openings (s := (muR (muR (muI s 0 (0)) 22 no (fr)) 23 no ((fr + hs)))) E (fun _ h => (List.mem_cons_of_mem _ (List.mem_append_right _ h))) (List.mem_cons_of_mem _ (List.mem_append_left _ (List.mem_append_left _ (List.mem_of_getElem? (i := 2) rfl)))) dX6_apply_204 ?_
                                  rw [show mi (muR (muR (muI s 0 (0)) 22 no (fr)) 23 no ((fr + hs))) 24 = nI no from hno]
                                  show G C (mW (xy C) ma (muR (muR (muI s 0 (0)) 22 no (fr)) 23 no ((fr + hs)))) 0 0 207 [(12, .int (nI no)), (11, .int (w)), (10, .int ((fr + hs))), (9, .int (nI np)), (8, .int (1)), (7, .int (1)), (0, .ref (ma 0)), (1, .int (nI a)), (2, .int (nI ll)), (3, .int (fr)), (4, .int (hs)), (5, .int (nI z)), (6, .int (ur))] [.int (nI no), .ref (ma 0)]
                                  refine g_iconst (v := 1) E dX6_apply_207 (by decide) ?_
                                  refine g_iadd E dX6_apply_208 ?_
                                  refine k_put_openings (s := (muR (muR (muI s 0 (0)) 22 no (fr)) 23 no ((fr + hs)))) E (fun _ h => (List.mem_cons_of_mem _ (List.mem_append_right _ h))) (List.mem_cons_of_mem _ (List.mem_append_left _ (List.mem_append_left _ (List.mem_of_getElem? (i := 2) rfl)))) dX6_apply_209 ?_
                                  refine g_goto (tgt := 258) E dX6_apply_212 (by decide) ?_
                                  refine g_aload_n E dX6_apply_258 rfl 6 rfl ?_
                                  refine k_get_applicant (s := (muI (muR (muR (muI s 0 (0)) 22 no (fr)) 23 no ((fr + hs))) 24 ((nI no + 1)))) E (fun _ h => (List.mem_cons_of_mem _ (List.mem_append_right _ h))) (List.mem_cons_of_mem _ (List.mem_append_left _ (List.mem_append_left _ (List.mem_of_getElem? (i := 5) rfl)))) dX6_apply_259 ?_
                                  refine g_iload E dX6_apply_262 3 rfl ?_
                                  refine g_iload_n E dX6_apply_264 rfl 7 rfl ?_
                                  refine k_ast_applicant (s := (muI (muR (muR (muI s 0 (0)) 22 no (fr)) 23 no ((fr + hs))) 24 ((nI no + 1)))) E np rfl (by omega) dX6_apply_265 ?_
                                  refine g_aload_n E dX6_apply_266 rfl 6 rfl ?_
                                  refine k_get_lane (s := (muR (muI (muR (muR (muI s 0 (0)) 22 no (fr)) 23 no ((fr + hs))) 24 ((nI no + 1))) 11 np (nI a))) E (fun _ h => (List.mem_cons_of_mem _ (List.mem_append_right _ h))) (List.mem_cons_of_mem _ (List.mem_append_left _ (List.mem_append_left _ (List.mem_of_getElem? (i := 6) rfl)))) dX6_apply_267 ?_
                                  refine g_iload E dX6_apply_270 3 rfl ?_
                                  refine g_iload_n E dX6_apply_272 rfl 8 rfl ?_
                                  refine k_ast_lane (s := (muR (muI (muR (muR (muI s 0 (0)) 22 no (fr)) 23 no ((fr + hs))) 24 ((nI no + 1))) 11 np (nI a))) E np rfl (by omega) dX6_apply_273 ?_
                                  refine g_aload_n E dX6_apply_274 rfl 6 rfl ?_
                                  refine k_get_from (s := (muR (muR (muI (muR (muR (muI s 0 (0)) 22 no (fr)) 23 no ((fr + hs))) 24 ((nI no + 1))) 11 np (nI a)) 12 np (nI ll))) E (fun _ h => (List.mem_cons_of_mem _ (List.mem_append_right _ h))) (List.mem_cons_of_mem _ (List.mem_append_left _ (List.mem_append_left _ (List.mem_of_getElem? (i := 7) rfl)))) dX6_apply_275 ?_
                                  refine g_iload E dX6_apply_278 3 rfl ?_
                                  refine g_iload_n E dX6_apply_280 rfl 9 rfl ?_
                                  refine k_ast_from (s := (muR (muR (muI (muR (muR (muI s 0 (0)) 22 no (fr)) 23 no ((fr + hs))) 24 ((nI no + 1))) 11 np (nI a)) 12 np (nI ll))) E np rfl (by omega) dX6_apply_281 ?_
                                  refine g_aload_n E dX6_apply_282 rfl 6 rfl ?_
                                  refine k_get_end (s := (muR (muR (muR (muI (muR (muR (muI s 0 (0)) 22 no (fr)) 23 no ((fr + hs))) 24 ((nI no + 1))) 11 np (nI a)) 12 np (nI ll)) 13 np (fr))) E (fun _ h => (List.mem_cons_of_mem _ (List.mem_append_right _ h))) (List.mem_cons_of_mem _ (List.mem_append_left _ (List.mem_append_left _ (List.mem_of_getElem? (i := 8) rfl)))) dX6_apply_283 ?_
                                  refine g_iload E dX6_apply_286 3 rfl ?_
                                  refine g_iload E dX6_apply_288 2 rfl ?_
                                  refine k_ast_end (s := (muR (muR (muR (muI (muR (muR (muI s 0 (0)) 22 no (fr)) 23 no ((fr + hs))) 24 ((nI no + 1))) 11 np (nI a)) 12 np (nI ll)) 13 np (fr))) E np rfl (by omega) dX6_apply_290 ?_
                                  refine g_aload_n E dX6_apply_291 rfl 6 rfl ?_
                                  refine k_get_needs (s := (muR (muR (muR (muR (muI (muR (muR (muI s 0 (0)) 22 no (fr)) 23 no ((fr + hs))) 24 ((nI no + 1))) 11 np (nI a)) 12 np (nI ll)) 13 np (fr)) 14 np ((fr + hs)))) E (fun _ h => (List.mem_cons_of_mem _ (List.mem_append_right _ h))) (List.mem_cons_of_mem _ (List.mem_append_left _ (List.mem_append_left _ (List.mem_of_getElem? (i := 9) rfl)))) dX6_apply_292 ?_
                                  refine g_iload E dX6_apply_295 3 rfl ?_
                                  refine g_iload E dX6_apply_297 11 rfl ?_
                                  refine k_ast_needs (s := (muR (muR (muR (muR (muI (muR (muR (muI s 0 (0)) 22 no (fr)) 23 no ((fr + hs))) 24 ((nI no + 1))) 11 np (nI a)) 12 np (nI ll)) 13 np (fr)) 14 np ((fr + hs)))) E np rfl (by omega) dX6_apply_299 ?_
                                  refine g_aload_n E dX6_apply_300 rfl 6 rfl ?_
                                  refine k_get_isUrgent (s := (muR (muR (muR (muR (muR (muI (muR (muR (muI s 0 (0)) 22 no (fr)) 23 no ((fr + hs))) 24 ((nI no + 1))) 11 np (nI a)) 12 np (nI ll)) 13 np (fr)) 14 np ((fr + hs))) 15 np (nI z))) E (fun _ h => (List.mem_cons_of_mem _ (List.mem_append_right _ h))) (List.mem_cons_of_mem _ (List.mem_append_left _ (List.mem_append_left _ (List.mem_of_getElem? (i := 10) rfl)))) dX6_apply_301 ?_
                                  refine g_iload E dX6_apply_304 3 rfl ?_
                                  refine g_iload E dX6_apply_306 12 rfl ?_
                                  refine k_ast_isUrgent (s := (muR (muR (muR (muR (muR (muI (muR (muR (muI s 0 (0)) 22 no (fr)) 23 no ((fr + hs))) 24 ((nI no + 1))) 11 np (nI a)) 12 np (nI ll)) 13 np (fr)) 14 np ((fr + hs))) 15 np (nI z))) E (hu) np rfl (by omega) dX6_apply_308 ?_
                                  refine g_aload_n E dX6_apply_309 rfl 6 rfl ?_
                                  refine k_get_state (s := (muR (muR (muR (muR (muR (muR (muI (muR (muR (muI s 0 (0)) 22 no (fr)) 23 no ((fr + hs))) 24 ((nI no + 1))) 11 np (nI a)) 12 np (nI ll)) 13 np (fr)) 14 np ((fr + hs))) 15 np (nI z)) 16 np (ur))) E (fun _ h => (List.mem_cons_of_mem _ (List.mem_append_right _ h))) (List.mem_cons_of_mem _ (List.mem_append_left _ (List.mem_append_left _ (List.mem_of_getElem? (i := 11) rfl)))) dX6_apply_310 ?_
                                  refine g_iload E dX6_apply_313 3 rfl ?_
                                  refine g_iload E dX6_apply_315 1 rfl ?_
                                  refine g_iconst (v := (-1)) E dX6_apply_317 (by decide) ?_
                                  refine g_icmp_ne (tgt := 325) E dX6_apply_318 (by decide) (fun c_318 => ?_) (fun c_318 => ?_)
                                  · exact absurd c_145 c_318
                                  · refine g_iconst (v := 0) E dX6_apply_321 (by decide) ?_
                                    refine g_goto (tgt := 326) E dX6_apply_322 (by decide) ?_
                                    refine k_ast_state (s := (muR (muR (muR (muR (muR (muR (muI (muR (muR (muI s 0 (0)) 22 no (fr)) 23 no ((fr + hs))) 24 ((nI no + 1))) 11 np (nI a)) 12 np (nI ll)) 13 np (fr)) 14 np ((fr + hs))) 15 np (nI z)) 16 np (ur))) E np rfl (by omega) dX6_apply_326 ?_
                                    refine g_aload_n E dX6_apply_327 rfl 6 rfl ?_
                                    refine k_get_cause (s := (muR (muR (muR (muR (muR (muR (muR (muI (muR (muR (muI s 0 (0)) 22 no (fr)) 23 no ((fr + hs))) 24 ((nI no + 1))) 11 np (nI a)) 12 np (nI ll)) 13 np (fr)) 14 np ((fr + hs))) 15 np (nI z)) 16 np (ur)) 17 np (0))) E (fun _ h => (List.mem_cons_of_mem _ (List.mem_append_right _ h))) (List.mem_cons_of_mem _ (List.mem_append_left _ (List.mem_append_left _ (List.mem_of_getElem? (i := 12) rfl)))) dX6_apply_328 ?_
                                    refine g_iload E dX6_apply_331 3 rfl ?_
                                    refine g_iload E dX6_apply_333 1 rfl ?_
                                    refine k_ast_cause (s := (muR (muR (muR (muR (muR (muR (muR (muI (muR (muR (muI s 0 (0)) 22 no (fr)) 23 no ((fr + hs))) 24 ((nI no + 1))) 11 np (nI a)) 12 np (nI ll)) 13 np (fr)) 14 np ((fr + hs))) 15 np (nI z)) 16 np (ur)) 17 np (0))) E np rfl (by omega) dX6_apply_335 ?_
                                    refine g_aload_n E dX6_apply_336 rfl 6 rfl ?_
                                    refine k_get_opening (s := (muR (muR (muR (muR (muR (muR (muR (muR (muI (muR (muR (muI s 0 (0)) 22 no (fr)) 23 no ((fr + hs))) 24 ((nI no + 1))) 11 np (nI a)) 12 np (nI ll)) 13 np (fr)) 14 np ((fr + hs))) 15 np (nI z)) 16 np (ur)) 17 np (0)) 18 np (w))) E (fun _ h => (List.mem_cons_of_mem _ (List.mem_append_right _ h))) (List.mem_cons_of_mem _ (List.mem_append_left _ (List.mem_append_left _ (List.mem_of_getElem? (i := 13) rfl)))) dX6_apply_337 ?_
                                    refine g_iload E dX6_apply_340 3 rfl ?_
                                    refine g_iload E dX6_apply_342 0 rfl ?_
                                    refine k_ast_opening (s := (muR (muR (muR (muR (muR (muR (muR (muR (muI (muR (muR (muI s 0 (0)) 22 no (fr)) 23 no ((fr + hs))) 24 ((nI no + 1))) 11 np (nI a)) 12 np (nI ll)) 13 np (fr)) 14 np ((fr + hs))) 15 np (nI z)) 16 np (ur)) 17 np (0)) 18 np (w))) E np rfl (by omega) dX6_apply_344 ?_
                                    refine g_aload_n E dX6_apply_345 rfl 6 rfl ?_
                                    refine g_dup E dX6_apply_346 rfl ?_
                                    refine k_get_permits (s := (muR (muR (muR (muR (muR (muR (muR (muR (muR (muI (muR (muR (muI s 0 (0)) 22 no (fr)) 23 no ((fr + hs))) 24 ((nI no + 1))) 11 np (nI a)) 12 np (nI ll)) 13 np (fr)) 14 np ((fr + hs))) 15 np (nI z)) 16 np (ur)) 17 np (0)) 18 np (w)) 19 np (nI no))) E (fun _ h => (List.mem_cons_of_mem _ (List.mem_append_right _ h))) (List.mem_cons_of_mem _ (List.mem_append_left _ (List.mem_append_left _ (List.mem_of_getElem? (i := 1) rfl)))) dX6_apply_347 ?_
                                    rw [show mi (muR (muR (muR (muR (muR (muR (muR (muR (muR (muI (muR (muR (muI s 0 (0)) 22 no (fr)) 23 no ((fr + hs))) 24 ((nI no + 1))) 11 np (nI a)) 12 np (nI ll)) 13 np (fr)) 14 np ((fr + hs))) 15 np (nI z)) 16 np (ur)) 17 np (0)) 18 np (w)) 19 np (nI no)) 21 = nI np from hp0]
                                    show G C (mW (xy C) ma (muR (muR (muR (muR (muR (muR (muR (muR (muR (muI (muR (muR (muI s 0 (0)) 22 no (fr)) 23 no ((fr + hs))) 24 ((nI no + 1))) 11 np (nI a)) 12 np (nI ll)) 13 np (fr)) 14 np ((fr + hs))) 15 np (nI z)) 16 np (ur)) 17 np (0)) 18 np (w)) 19 np (nI no))) 0 0 350 [(12, .int (nI no)), (11, .int (w)), (10, .int ((fr + hs))), (9, .int (nI np)), (8, .int (1)), (7, .int (1)), (0, .ref (ma 0)), (1, .int (nI a)), (2, .int (nI ll)), (3, .int (fr)), (4, .int (hs)), (5, .int (nI z)), (6, .int (ur))] [.int (nI np), .ref (ma 0)]
                                    refine g_iconst (v := 1) E dX6_apply_350 (by decide) ?_
                                    refine g_iadd E dX6_apply_351 ?_
                                    refine k_put_permits (s := (muR (muR (muR (muR (muR (muR (muR (muR (muR (muI (muR (muR (muI s 0 (0)) 22 no (fr)) 23 no ((fr + hs))) 24 ((nI no + 1))) 11 np (nI a)) 12 np (nI ll)) 13 np (fr)) 14 np ((fr + hs))) 15 np (nI z)) 16 np (ur)) 17 np (0)) 18 np (w)) 19 np (nI no))) E (fun _ h => (List.mem_cons_of_mem _ (List.mem_append_right _ h))) (List.mem_cons_of_mem _ (List.mem_append_left _ (List.mem_append_left _ (List.mem_of_getElem? (i := 1) rfl)))) dX6_apply_352 ?_
                                    refine g_iload E dX6_apply_355 3 rfl ?_
                                    exact g_iret E hE hr dX6_apply_357 (Nat.le_of_ble_eq_true rfl) (Nat.le_of_ble_eq_true rfl) ⟨(muI (muR (muR (muR (muR (muR (muR (muR (muR (muR (muI (muR (muR (muI s 0 (0)) 22 no (fr)) 23 no ((fr + hs))) 24 ((nI no + 1))) 11 np (nI a)) 12 np (nI ll)) 13 np (fr)) 14 np ((fr + hs))) 15 np (nI z)) 16 np (ur)) 17 np (0)) 18 np (w)) 19 np (nI no)) 21 ((nI np + 1))), rfl, Or.inl ⟨a, (BKz s z fr), w, 0, (nI no), (mNew s no fr (fr + hs)), ⟨ha6, rfl, ⟨ll, hll, rfl⟩, Or.inr ⟨z, hz, rfl, rfl⟩⟩, ⟨bI_ne0.mp c_45, bI_ne0.mp c_56, Int32.not_lt.mp c_64⟩, hnp, hW, Or.inr (Or.inl ⟨c_145, rfl, Or.inr ⟨c_150, Or.inr ⟨hqn, rfl⟩⟩, rfl, rfl⟩), rfl, rfl⟩⟩
                          · refine g_iconst (v := (-1)) E dX6_apply_153 (by decide) ?_
                            refine g_goto (tgt := 165) E dX6_apply_154 (by decide) ?_
                            refine g_istore (L' := [(12, .int ((-1))), (11, .int (w)), (10, .int ((fr + hs))), (9, .int (nI np)), (8, .int (1)), (7, .int (1)), (0, .ref (ma 0)), (1, .int (nI a)), (2, .int (nI ll)), (3, .int (fr)), (4, .int (hs)), (5, .int (nI z)), (6, .int (ur))]) E dX6_apply_165 (by decide) rfl ?_
                            refine g_iload E dX6_apply_167 1 rfl ?_
                            refine g_iconst (v := (-1)) E dX6_apply_169 (by decide) ?_
                            refine g_icmp_ne (tgt := 215) E dX6_apply_170 (by decide) (fun c_170 => ?_) (fun c_170 => ?_)
                            · exact absurd c_145 c_170
                            · refine g_iload E dX6_apply_173 0 rfl ?_
                              refine g_iconst (v := (-1)) E dX6_apply_175 (by decide) ?_
                              refine g_icmp_ne (tgt := 215) E dX6_apply_176 (by decide) (fun c_176 => ?_) (fun c_176 => ?_)
                              · exact absurd c_176 (by decide)
                              · refine g_aload_n E dX6_apply_179 rfl 6 rfl ?_
                                refine k_get_openings (s := (muI s 0 (0))) E (fun _ h => (List.mem_cons_of_mem _ (List.mem_append_right _ h))) (List.mem_cons_of_mem _ (List.mem_append_left _ (List.mem_append_left _ (List.mem_of_getElem? (i := 2) rfl)))) dX6_apply_180 ?_
                                rw [show mi (muI s 0 (0)) 24 = nI no from hno]
                                show G C (mW (xy C) ma (muI s 0 (0))) 0 0 183 [(12, .int ((-1))), (11, .int (w)), (10, .int ((fr + hs))), (9, .int (nI np)), (8, .int (1)), (7, .int (1)), (0, .ref (ma 0)), (1, .int (nI a)), (2, .int (nI ll)), (3, .int (fr)), (4, .int (hs)), (5, .int (nI z)), (6, .int (ur))] [.int (nI no)]
                                refine g_istore (L' := [(12, .int (nI no)), (11, .int (w)), (10, .int ((fr + hs))), (9, .int (nI np)), (8, .int (1)), (7, .int (1)), (0, .ref (ma 0)), (1, .int (nI a)), (2, .int (nI ll)), (3, .int (fr)), (4, .int (hs)), (5, .int (nI z)), (6, .int (ur))]) E dX6_apply_183 (by decide) rfl ?_
                                refine g_aload_n E dX6_apply_185 rfl 6 rfl ?_
                                refine k_get_first (s := (muI s 0 (0))) E (fun _ h => (List.mem_cons_of_mem _ (List.mem_append_right _ h))) (List.mem_cons_of_mem _ (List.mem_append_left _ (List.mem_append_left _ (List.mem_of_getElem? (i := 3) rfl)))) dX6_apply_186 ?_
                                refine g_iload E dX6_apply_189 0 rfl ?_
                                refine g_iload_n E dX6_apply_191 rfl 9 rfl ?_
                                refine k_ast_first (s := (muI s 0 (0))) E no rfl (by omega) dX6_apply_192 ?_
                                refine g_aload_n E dX6_apply_193 rfl 6 rfl ?_
                                refine k_get_behind (s := (muR (muI s 0 (0)) 22 no (fr))) E (fun _ h => (List.mem_cons_of_mem _ (List.mem_append_right _ h))) (List.mem_cons_of_mem _ (List.mem_append_left _ (List.mem_append_left _ (List.mem_of_getElem? (i := 4) rfl)))) dX6_apply_194 ?_
                                refine g_iload E dX6_apply_197 0 rfl ?_
                                refine g_iload E dX6_apply_199 2 rfl ?_
                                refine k_ast_behind (s := (muR (muI s 0 (0)) 22 no (fr))) E no rfl (by omega) dX6_apply_201 ?_
                                refine g_aload_n E dX6_apply_202 rfl 6 rfl ?_
                                refine g_dup E dX6_apply_203 rfl ?_
                                refine k_get_openings (s := (muR (muR (muI s 0 (0)) 22 no (fr)) 23 no ((fr + hs)))) E (fun _ h => (List.mem_cons_of_mem _ (List.mem_append_right _ h))) (List.mem_cons_of_mem _ (List.mem_append_left _ (List.mem_append_left _ (List.mem_of_getElem? (i := 2) rfl)))) dX6_apply_204 ?_
                                rw [show mi (muR (muR (muI s 0 (0)) 22 no (fr)) 23 no ((fr + hs))) 24 = nI no from hno]
                                show G C (mW (xy C) ma (muR (muR (muI s 0 (0)) 22 no (fr)) 23 no ((fr + hs)))) 0 0 207 [(12, .int (nI no)), (11, .int (w)), (10, .int ((fr + hs))), (9, .int (nI np)), (8, .int (1)), (7, .int (1)), (0, .ref (ma 0)), (1, .int (nI a)), (2, .int (nI ll)), (3, .int (fr)), (4, .int (hs)), (5, .int (nI z)), (6, .int (ur))] [.int (nI no), .ref (ma 0)]
                                refine g_iconst (v := 1) E dX6_apply_207 (by decide) ?_
                                refine g_iadd E dX6_apply_208 ?_
                                refine k_put_openings (s := (muR (muR (muI s 0 (0)) 22 no (fr)) 23 no ((fr + hs)))) E (fun _ h => (List.mem_cons_of_mem _ (List.mem_append_right _ h))) (List.mem_cons_of_mem _ (List.mem_append_left _ (List.mem_append_left _ (List.mem_of_getElem? (i := 2) rfl)))) dX6_apply_209 ?_
                                refine g_goto (tgt := 258) E dX6_apply_212 (by decide) ?_
                                refine g_aload_n E dX6_apply_258 rfl 6 rfl ?_
                                refine k_get_applicant (s := (muI (muR (muR (muI s 0 (0)) 22 no (fr)) 23 no ((fr + hs))) 24 ((nI no + 1)))) E (fun _ h => (List.mem_cons_of_mem _ (List.mem_append_right _ h))) (List.mem_cons_of_mem _ (List.mem_append_left _ (List.mem_append_left _ (List.mem_of_getElem? (i := 5) rfl)))) dX6_apply_259 ?_
                                refine g_iload E dX6_apply_262 3 rfl ?_
                                refine g_iload_n E dX6_apply_264 rfl 7 rfl ?_
                                refine k_ast_applicant (s := (muI (muR (muR (muI s 0 (0)) 22 no (fr)) 23 no ((fr + hs))) 24 ((nI no + 1)))) E np rfl (by omega) dX6_apply_265 ?_
                                refine g_aload_n E dX6_apply_266 rfl 6 rfl ?_
                                refine k_get_lane (s := (muR (muI (muR (muR (muI s 0 (0)) 22 no (fr)) 23 no ((fr + hs))) 24 ((nI no + 1))) 11 np (nI a))) E (fun _ h => (List.mem_cons_of_mem _ (List.mem_append_right _ h))) (List.mem_cons_of_mem _ (List.mem_append_left _ (List.mem_append_left _ (List.mem_of_getElem? (i := 6) rfl)))) dX6_apply_267 ?_
                                refine g_iload E dX6_apply_270 3 rfl ?_
                                refine g_iload_n E dX6_apply_272 rfl 8 rfl ?_
                                refine k_ast_lane (s := (muR (muI (muR (muR (muI s 0 (0)) 22 no (fr)) 23 no ((fr + hs))) 24 ((nI no + 1))) 11 np (nI a))) E np rfl (by omega) dX6_apply_273 ?_
                                refine g_aload_n E dX6_apply_274 rfl 6 rfl ?_
                                refine k_get_from (s := (muR (muR (muI (muR (muR (muI s 0 (0)) 22 no (fr)) 23 no ((fr + hs))) 24 ((nI no + 1))) 11 np (nI a)) 12 np (nI ll))) E (fun _ h => (List.mem_cons_of_mem _ (List.mem_append_right _ h))) (List.mem_cons_of_mem _ (List.mem_append_left _ (List.mem_append_left _ (List.mem_of_getElem? (i := 7) rfl)))) dX6_apply_275 ?_
                                refine g_iload E dX6_apply_278 3 rfl ?_
                                refine g_iload_n E dX6_apply_280 rfl 9 rfl ?_
                                refine k_ast_from (s := (muR (muR (muI (muR (muR (muI s 0 (0)) 22 no (fr)) 23 no ((fr + hs))) 24 ((nI no + 1))) 11 np (nI a)) 12 np (nI ll))) E np rfl (by omega) dX6_apply_281 ?_
                                refine g_aload_n E dX6_apply_282 rfl 6 rfl ?_
                                refine k_get_end (s := (muR (muR (muR (muI (muR (muR (muI s 0 (0)) 22 no (fr)) 23 no ((fr + hs))) 24 ((nI no + 1))) 11 np (nI a)) 12 np (nI ll)) 13 np (fr))) E (fun _ h => (List.mem_cons_of_mem _ (List.mem_append_right _ h))) (List.mem_cons_of_mem _ (List.mem_append_left _ (List.mem_append_left _ (List.mem_of_getElem? (i := 8) rfl)))) dX6_apply_283 ?_
                                refine g_iload E dX6_apply_286 3 rfl ?_
                                refine g_iload E dX6_apply_288 2 rfl ?_
                                refine k_ast_end (s := (muR (muR (muR (muI (muR (muR (muI s 0 (0)) 22 no (fr)) 23 no ((fr + hs))) 24 ((nI no + 1))) 11 np (nI a)) 12 np (nI ll)) 13 np (fr))) E np rfl (by omega) dX6_apply_290 ?_
                                refine g_aload_n E dX6_apply_291 rfl 6 rfl ?_
                                refine k_get_needs (s := (muR (muR (muR (muR (muI (muR (muR (muI s 0 (0)) 22 no (fr)) 23 no ((fr + hs))) 24 ((nI no + 1))) 11 np (nI a)) 12 np (nI ll)) 13 np (fr)) 14 np ((fr + hs)))) E (fun _ h => (List.mem_cons_of_mem _ (List.mem_append_right _ h))) (List.mem_cons_of_mem _ (List.mem_append_left _ (List.mem_append_left _ (List.mem_of_getElem? (i := 9) rfl)))) dX6_apply_292 ?_
                                refine g_iload E dX6_apply_295 3 rfl ?_
                                refine g_iload E dX6_apply_297 11 rfl ?_
                                refine k_ast_needs (s := (muR (muR (muR (muR (muI (muR (muR (muI s 0 (0)) 22 no (fr)) 23 no ((fr + hs))) 24 ((nI no + 1))) 11 np (nI a)) 12 np (nI ll)) 13 np (fr)) 14 np ((fr + hs)))) E np rfl (by omega) dX6_apply_299 ?_
                                refine g_aload_n E dX6_apply_300 rfl 6 rfl ?_
                                refine k_get_isUrgent (s := (muR (muR (muR (muR (muR (muI (muR (muR (muI s 0 (0)) 22 no (fr)) 23 no ((fr + hs))) 24 ((nI no + 1))) 11 np (nI a)) 12 np (nI ll)) 13 np (fr)) 14 np ((fr + hs))) 15 np (nI z))) E (fun _ h => (List.mem_cons_of_mem _ (List.mem_append_right _ h))) (List.mem_cons_of_mem _ (List.mem_append_left _ (List.mem_append_left _ (List.mem_of_getElem? (i := 10) rfl)))) dX6_apply_301 ?_
                                refine g_iload E dX6_apply_304 3 rfl ?_
                                refine g_iload E dX6_apply_306 12 rfl ?_
                                refine k_ast_isUrgent (s := (muR (muR (muR (muR (muR (muI (muR (muR (muI s 0 (0)) 22 no (fr)) 23 no ((fr + hs))) 24 ((nI no + 1))) 11 np (nI a)) 12 np (nI ll)) 13 np (fr)) 14 np ((fr + hs))) 15 np (nI z))) E (hu) np rfl (by omega) dX6_apply_308 ?_
                                refine g_aload_n E dX6_apply_309 rfl 6 rfl ?_
                                refine k_get_state (s := (muR (muR (muR (muR (muR (muR (muI (muR (muR (muI s 0 (0)) 22 no (fr)) 23 no ((fr + hs))) 24 ((nI no + 1))) 11 np (nI a)) 12 np (nI ll)) 13 np (fr)) 14 np ((fr + hs))) 15 np (nI z)) 16 np (ur))) E (fun _ h => (List.mem_cons_of_mem _ (List.mem_append_right _ h))) (List.mem_cons_of_mem _ (List.mem_append_left _ (List.mem_append_left _ (List.mem_of_getElem? (i := 11) rfl)))) dX6_apply_310 ?_
                                refine g_iload E dX6_apply_313 3 rfl ?_
                                refine g_iload E dX6_apply_315 1 rfl ?_
                                refine g_iconst (v := (-1)) E dX6_apply_317 (by decide) ?_
                                refine g_icmp_ne (tgt := 325) E dX6_apply_318 (by decide) (fun c_318 => ?_) (fun c_318 => ?_)
                                · exact absurd c_145 c_318
                                · refine g_iconst (v := 0) E dX6_apply_321 (by decide) ?_
                                  refine g_goto (tgt := 326) E dX6_apply_322 (by decide) ?_
                                  refine k_ast_state (s := (muR (muR (muR (muR (muR (muR (muI (muR (muR (muI s 0 (0)) 22 no (fr)) 23 no ((fr + hs))) 24 ((nI no + 1))) 11 np (nI a)) 12 np (nI ll)) 13 np (fr)) 14 np ((fr + hs))) 15 np (nI z)) 16 np (ur))) E np rfl (by omega) dX6_apply_326 ?_
                                  refine g_aload_n E dX6_apply_327 rfl 6 rfl ?_
                                  refine k_get_cause (s := (muR (muR (muR (muR (muR (muR (muR (muI (muR (muR (muI s 0 (0)) 22 no (fr)) 23 no ((fr + hs))) 24 ((nI no + 1))) 11 np (nI a)) 12 np (nI ll)) 13 np (fr)) 14 np ((fr + hs))) 15 np (nI z)) 16 np (ur)) 17 np (0))) E (fun _ h => (List.mem_cons_of_mem _ (List.mem_append_right _ h))) (List.mem_cons_of_mem _ (List.mem_append_left _ (List.mem_append_left _ (List.mem_of_getElem? (i := 12) rfl)))) dX6_apply_328 ?_
                                  refine g_iload E dX6_apply_331 3 rfl ?_
                                  refine g_iload E dX6_apply_333 1 rfl ?_
                                  refine k_ast_cause (s := (muR (muR (muR (muR (muR (muR (muR (muI (muR (muR (muI s 0 (0)) 22 no (fr)) 23 no ((fr + hs))) 24 ((nI no + 1))) 11 np (nI a)) 12 np (nI ll)) 13 np (fr)) 14 np ((fr + hs))) 15 np (nI z)) 16 np (ur)) 17 np (0))) E np rfl (by omega) dX6_apply_335 ?_
                                  refine g_aload_n E dX6_apply_336 rfl 6 rfl ?_
                                  refine k_get_opening (s := (muR (muR (muR (muR (muR (muR (muR (muR (muI (muR (muR (muI s 0 (0)) 22 no (fr)) 23 no ((fr + hs))) 24 ((nI no + 1))) 11 np (nI a)) 12 np (nI ll)) 13 np (fr)) 14 np ((fr + hs))) 15 np (nI z)) 16 np (ur)) 17 np (0)) 18 np (w))) E (fun _ h => (List.mem_cons_of_mem _ (List.mem_append_right _ h))) (List.mem_cons_of_mem _ (List.mem_append_left _ (List.mem_append_left _ (List.mem_of_getElem? (i := 13) rfl)))) dX6_apply_337 ?_
                                  refine g_iload E dX6_apply_340 3 rfl ?_
                                  refine g_iload E dX6_apply_342 0 rfl ?_
                                  refine k_ast_opening (s := (muR (muR (muR (muR (muR (muR (muR (muR (muI (muR (muR (muI s 0 (0)) 22 no (fr)) 23 no ((fr + hs))) 24 ((nI no + 1))) 11 np (nI a)) 12 np (nI ll)) 13 np (fr)) 14 np ((fr + hs))) 15 np (nI z)) 16 np (ur)) 17 np (0)) 18 np (w))) E np rfl (by omega) dX6_apply_344 ?_
                                  refine g_aload_n E dX6_apply_345 rfl 6 rfl ?_
                                  refine g_dup E dX6_apply_346 rfl ?_
                                  refine k_get_permits (s := (muR (muR (muR (muR (muR (muR (muR (muR (muR (muI (muR (muR (muI s 0 (0)) 22 no (fr)) 23 no ((fr + hs))) 24 ((nI no + 1))) 11 np (nI a)) 12 np (nI ll)) 13 np (fr)) 14 np ((fr + hs))) 15 np (nI z)) 16 np (ur)) 17 np (0)) 18 np (w)) 19 np (nI no))) E (fun _ h => (List.mem_cons_of_mem _ (List.mem_append_right _ h))) (List.mem_cons_of_mem _ (List.mem_append_left _ (List.mem_append_left _ (List.mem_of_getElem? (i := 1) rfl)))) dX6_apply_347 ?_
                                  rw [show mi (muR (muR (muR (muR (muR (muR (muR (muR (muR (muI (muR (muR (muI s 0 (0)) 22 no (fr)) 23 no ((fr + hs))) 24 ((nI no + 1))) 11 np (nI a)) 12 np (nI ll)) 13 np (fr)) 14 np ((fr + hs))) 15 np (nI z)) 16 np (ur)) 17 np (0)) 18 np (w)) 19 np (nI no)) 21 = nI np from hp0]
                                  show G C (mW (xy C) ma (muR (muR (muR (muR (muR (muR (muR (muR (muR (muI (muR (muR (muI s 0 (0)) 22 no (fr)) 23 no ((fr + hs))) 24 ((nI no + 1))) 11 np (nI a)) 12 np (nI ll)) 13 np (fr)) 14 np ((fr + hs))) 15 np (nI z)) 16 np (ur)) 17 np (0)) 18 np (w)) 19 np (nI no))) 0 0 350 [(12, .int (nI no)), (11, .int (w)), (10, .int ((fr + hs))), (9, .int (nI np)), (8, .int (1)), (7, .int (1)), (0, .ref (ma 0)), (1, .int (nI a)), (2, .int (nI ll)), (3, .int (fr)), (4, .int (hs)), (5, .int (nI z)), (6, .int (ur))] [.int (nI np), .ref (ma 0)]
                                  refine g_iconst (v := 1) E dX6_apply_350 (by decide) ?_
                                  refine g_iadd E dX6_apply_351 ?_
                                  refine k_put_permits (s := (muR (muR (muR (muR (muR (muR (muR (muR (muR (muI (muR (muR (muI s 0 (0)) 22 no (fr)) 23 no ((fr + hs))) 24 ((nI no + 1))) 11 np (nI a)) 12 np (nI ll)) 13 np (fr)) 14 np ((fr + hs))) 15 np (nI z)) 16 np (ur)) 17 np (0)) 18 np (w)) 19 np (nI no))) E (fun _ h => (List.mem_cons_of_mem _ (List.mem_append_right _ h))) (List.mem_cons_of_mem _ (List.mem_append_left _ (List.mem_append_left _ (List.mem_of_getElem? (i := 1) rfl)))) dX6_apply_352 ?_
                                  refine g_iload E dX6_apply_355 3 rfl ?_
                                  exact g_iret E hE hr dX6_apply_357 (Nat.le_of_ble_eq_true rfl) (Nat.le_of_ble_eq_true rfl) ⟨(muI (muR (muR (muR (muR (muR (muR (muR (muR (muR (muI (muR (muR (muI s 0 (0)) 22 no (fr)) 23 no ((fr + hs))) 24 ((nI no + 1))) 11 np (nI a)) 12 np (nI ll)) 13 np (fr)) 14 np ((fr + hs))) 15 np (nI z)) 16 np (ur)) 17 np (0)) 18 np (w)) 19 np (nI no)) 21 ((nI np + 1))), rfl, Or.inl ⟨a, (BKz s z fr), w, 0, (nI no), (mNew s no fr (fr + hs)), ⟨ha6, rfl, ⟨ll, hll, rfl⟩, Or.inr ⟨z, hz, rfl, rfl⟩⟩, ⟨bI_ne0.mp c_45, bI_ne0.mp c_56, Int32.not_lt.mp c_64⟩, hnp, hW, Or.inr (Or.inl ⟨c_145, rfl, Or.inl ⟨c_150, rfl⟩, rfl, rfl⟩), rfl, rfl⟩⟩
                      · exact absurd c_110 (by decide)
                    · refine g_iconst (v := 3) E dX6_apply_102 (by decide) ?_
                      refine g_goto (tgt := 107) E dX6_apply_103 (by decide) ?_
                      refine k_invV (n := 1) (rest := []) E (m_X6_isFine (xl C) E.tr (xD C) (xy C) e0 (s := s) (x := 3)) gX6_apply_X6_isFine rfl rfl rfl (by decide +kernel) ⟨Nat.le_of_ble_eq_true rfl, Nat.le_of_ble_eq_true rfl⟩ rfl rfl (Nat.le_of_ble_eq_true rfl) dX6_apply_107 ⟨Nat.le_of_ble_eq_true rfl, Nat.le_of_ble_eq_true rfl⟩ (fun v9 s9_107 h9 => ?_)
                      obtain ⟨hv9, hS9⟩ := h9
                      rw [hv9, hS9]
                      rw [show bI ((3 : Int32) = 0) = 0 by decide]
                      show G C (mW (xy C) ma (muI s 0 (3))) 0 0 110 [(8, .int (1)), (7, .int (1)), (0, .ref (ma 0)), (1, .int (ap)), (2, .int (ln)), (3, .int (fr)), (4, .int (hs)), (5, .int (nd)), (6, .int (ur))] [.int (0)]
                      refine g_if_ne (tgt := 115) E dX6_apply_110 (by decide) (fun c_110 => ?_) (fun c_110 => ?_)
                      · exact absurd c_110 (by decide)
                      · refine g_iconst (v := 0) E dX6_apply_113 (by decide) ?_
                        exact g_iret E hE hr dX6_apply_114 (Nat.le_of_ble_eq_true rfl) (Nat.le_of_ble_eq_true rfl) ⟨(muI s 0 (3)), rfl, Or.inr ⟨3, rfl, rfl, Or.inr (Or.inr ⟨rfl, ⟨c_4, c_12, Or.inr c_27⟩, ⟨bI_ne0.mp c_45, bI_ne0.mp c_56, Int32.not_lt.mp c_64⟩, nI_inj (b := 40) (by omega) (by decide) c_99⟩)⟩⟩
                  · exact absurd c_86 (by decide)
                · exact absurd c_77 (by decide)
