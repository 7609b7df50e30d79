theorem mrA_26 {s : mS} {f : Nat} {X g : Nat → Int32} : mrA s 26 g = mFar s g := rfl
/-- what a permit costs line l -/
noncomputable def mcL (s : mS) (np : Nat) (cl : Int32) (M l p : Nat) : Int32 := if mr s 17 p = 2 ∧ opC s np (mr s 12 p) = 1 then mdL s cl M l - mdL s (cl &&& (((1 : Int32) <<< (mr s 12 p &&& 31)) ^^^ (-1))) M l else 0
theorem mcL_of {s : mS} {np : Nat} {cl : Int32} {M l p n : Nat} (h : mr s 8 l = nI (n + 1)) (hn : n < 6) : mcost s np cl M l n p = mcL s np cl M l p := by
  unfold mcost mcL
  rw [mdL_of h hn, mdL_of h hn]
noncomputable def mD1 (s : mS) (cl : Int32) (M n : Nat) : mS := mrA s 28 (blw (mdL s cl M) (mr s 28) n)
theorem mD1_0 {s : mS} {cl : Int32} {M : Nat} : mFar (mD1 s cl M 0) (mr s 26) = s := by
  unfold mD1
  rw [blw_0, mrA_id, mFar_id]
theorem mD1_s {s : mS} {cl : Int32} {M n : Nat} {g : Nat → Int32} : mFar (mD1 s cl M (n + 1)) g = muR (mFar (mD1 s cl M n) g) 28 n (mdL s cl M n) := by
  unfold mD1
  rw [mFar_putR (by decide), blw_sR rfl]
/-- the costs of permit p over m lines -/
noncomputable def mCs (s : mS) (np : Nat) (cl : Int32) (M p : Nat) : Nat → Int64
  | 0 => 0
  | l + 1 => mCs s np cl M p l + (mcL s np cl M l p).toInt64 * (mr s 6 l).toInt64
noncomputable def mCp (s : mS) (np : Nat) (cl : Int32) (M nl p : Nat) : Int64 := if mr s 17 p = 2 then mCs s np cl M p nl else 0
noncomputable def mC2 (s : mS) (np : Nat) (cl : Int32) (M nl n : Nat) : mS := mlA s 27 (blw (mCp s np cl M nl) (ml s 27) n)
noncomputable def mC3 (s : mS) (np : Nat) (cl : Int32) (M nl n m : Nat) : mS := mlA s 27 (vp_updL (blw (mCp s np cl M nl) (ml s 27) n) n (mCs s np cl M n m))
theorem updL_updL {g : Nat → Int64} {b : Nat} {x y : Int64} : vp_updL (vp_updL g b x) b y = vp_updL g b y := by
  funext k
  by_cases q : k = b
  · subst q; rw [updL_at, updL_at]
  · rw [updL_ne q, updL_ne q, updL_ne q]
theorem mC2_0 {s : mS} {np : Nat} {cl : Int32} {M nl : Nat} {g : Nat → Int32} : mFar (mC2 s np cl M nl 0) g = mFar s g := by
  unfold mC2
  rw [blw_0, mlA_id]
theorem mC3_0 {s : mS} {np : Nat} {cl : Int32} {M nl n : Nat} {g : Nat → Int32} : mFar (mC3 s np cl M nl n 0) g = muL (mFar (mC2 s np cl M nl n) g) 27 n 0 := by
  unfold mC2 mC3
  rw [mFar_putL]
  rfl
theorem mC3_s {s : mS} {np : Nat} {cl : Int32} {M nl n m : Nat} {g : Nat → Int32} {v : Int64} (h : v = mCs s np cl M n m + (mcL s np cl M m n).toInt64 * (mr s 6 m).toInt64) : mFar (mC3 s np cl M nl n (m + 1)) g = muL (mFar (mC3 s np cl M nl n m) g) 27 n v := by
  unfold mC3
  rw [mFar_putL, updL_updL, h]
  rfl
theorem mC3_at {s : mS} {np : Nat} {cl : Int32} {M nl n m : Nat} {g : Nat → Int32} : ml (mFar (mC3 s np cl M nl n m) g) 27 n = mCs s np cl M n m := by
  unfold mC3
  show ml (mlA s 27 (vp_updL (blw (mCp s np cl M nl) (ml s 27) n) n (mCs s np cl M n m))) 27 n = _
  rw [show ml (mlA s 27 (vp_updL (blw (mCp s np cl M nl) (ml s 27) n) n (mCs s np cl M n m))) 27 = _ from mlA_self, updL_at]
theorem mC2_s {s : mS} {np : Nat} {cl : Int32} {M nl n m : Nat} {g : Nat → Int32} (h : mCs s np cl M n m = mCp s np cl M nl n) : mFar (mC2 s np cl M nl (n + 1)) g = mFar (mC3 s np cl M nl n m) g := by
  unfold mC2 mC3
  rw [blw_sL h]
noncomputable def mHn (s : mS) (nl np : Nat) : Nat → mS
  | 0 => s
  | n + 1 => mHr (mHn s nl np n) nl np
theorem mHn_mi {s : mS} {nl np n f : Nat} (h : f ≠ 1) : mi (mHn s nl np n) f = mi s f := by
  induction n with
  | zero => rfl
  | succ n ih =>
    rw [← ih]
    show va_up (mHn s nl np n).1 1 _ f = _
    exact va_up_ne _ _ h
theorem mHn_now {s : mS} {nl np n : Nat} : mi (mHn s nl np n) 1 = mi s 1 + nI n := by
  induction n with
  | zero => exact (Int32.add_zero _).symm
  | succ n ih =>
    show va_up (mHn s nl np n).1 1 (mi (mHn s nl np n) 1 + 1) 1 = _
    rw [va_up_self, ih, Int32.add_assoc, nI_1]
theorem mHn_mr {s : mS} {nl np n f : Nat} (h : f ≠ 25) : mr (mHn s nl np n) f = mr s f := by
  induction n with
  | zero => rfl
  | succ n ih =>
    rw [← ih]
    show va_up (va_up (mHn s nl np n).2.1 25 _) 25 _ f = _
    rw [va_up_ne _ _ h, va_up_ne _ _ h]
theorem mHn_HOP {s : mS} {nl np n m : Nat} (h : HOP s m) : HOP (mHn s nl np n) m := by
  unfold HOP
  rw [mHn_mr (by decide), mHn_mr (by decide)]
  exact h
/-! who gets a point -/
noncomputable def mGt (s : mS) (np : Nat) (cl : Int32) (M l n a : Nat) : Int32 := if a < 6 then cIf (∃ p, p < n ∧ tn (mr s 11 p) = a ∧ 0 < mcL s np cl M l p) 1 0 else mr s 29 a
def mG0 (s : mS) (n : Nat) : mS := mrA s 29 (blw (fun _ => 0) (mr s 29) n)
theorem mG0_0 {s : mS} : mG0 s 0 = s := by unfold mG0; rw [blw_0, mrA_id]
theorem mG0_s {s : mS} {n : Nat} : mG0 s (n + 1) = muR (mG0 s n) 29 n 0 := by unfold mG0; rw [mrA_put, blw_sR rfl]
noncomputable def mG1 (s : mS) (np : Nat) (cl : Int32) (M l n : Nat) : mS := mrA s 29 (mGt s np cl M l n)
theorem mG1_0 {s : mS} {np : Nat} {cl : Int32} {M l : Nat} : mFar (mG1 s np cl M l 0) (mr s 26) = mG0 s 6 := by
  have e : mGt s np cl M l 0 = blw (fun _ => 0) (mr s 29) 6 := by
    funext a
    unfold mGt blw
    by_cases h : a < 6
    · rw [if_pos h, if_pos h, cIf_f (fun q => q.elim fun p g => Nat.not_lt_zero p g.1)]
    · rw [if_neg h, if_neg h]
  unfold mG1 mG0
  rw [e]
  exact mFar_id (mrA s 29 _)
theorem mG1_at {s : mS} {np : Nat} {cl : Int32} {M l n : Nat} {g : Nat → Int32} : mr (mFar (mG1 s np cl M l n) g) 29 = mGt s np cl M l n := by
  unfold mG1
  show va_up (va_up s.2.1 29 (mGt s np cl M l n)) 26 g 29 = _
  rw [va_up_ne _ _ (by decide), va_up_self]
theorem mGt_st {s : mS} {np : Nat} {cl : Int32} {M l n a : Nat} {v : Int32} (ha : tn (mr s 11 n) = a) (ha6 : a < 6) (hv : v = cIf (mGt s np cl M l n a = 1 ∨ 0 < mcL s np cl M l n) 1 0) : upd (mGt s np cl M l n) a v = mGt s np cl M l (n + 1) := by
  funext b
  by_cases q : b = a
  · subst q
    rw [upd_at', hv]
    unfold mGt
    rw [if_pos ha6]
    by_cases z : ∃ p, p < n ∧ tn (mr s 11 p) = b ∧ 0 < mcL s np cl M l p
    · rw [cIf_t z, if_pos ha6, cIf_t (Or.inl rfl), cIf_t (z.elim fun p g => ⟨p, Nat.lt_succ_of_lt g.1, g.2⟩)]
    · rw [cIf_f z, if_pos ha6]
      by_cases y : 0 < mcL s np cl M l n
      · rw [cIf_t (Or.inr y), cIf_t ⟨n, Nat.lt_succ_self n, ha, y⟩]
      · rw [cIf_f (fun w => w.elim (fun w => absurd w (by decide)) y), cIf_f (fun w => w.elim fun p g => (Nat.lt_succ_iff_lt_or_eq.mp g.1).elim (fun h => z ⟨p, h, g.2⟩) (fun h => y (h ▸ g.2.2)))]
  · rw [upd_ne' q]
    unfold mGt
    by_cases h6 : b < 6
    · rw [if_pos h6, if_pos h6]
      by_cases z : ∃ p, p < n ∧ tn (mr s 11 p) = b ∧ 0 < mcL s np cl M l p
      · rw [cIf_t z, cIf_t (z.elim fun p g => ⟨p, Nat.lt_succ_of_lt g.1, g.2⟩)]
      · rw [cIf_f z, cIf_f (fun w => w.elim fun p g => (Nat.lt_succ_iff_lt_or_eq.mp g.1).elim (fun h => z ⟨p, h, g.2⟩) (fun h => q (g.2.1.symm.trans (by rw [h]; exact ha))))]
    · rw [if_neg h6, if_neg h6]
theorem mGt_01 {s : mS} {np : Nat} {cl : Int32} {M l n a : Nat} (ha : a < 6) : mGt s np cl M l n a = 0 ∨ mGt s np cl M l n a = 1 := by
  unfold mGt
  rw [if_pos ha]
  unfold cIf
  split
  · exact Or.inr rfl
  · exact Or.inl rfl
theorem mG1_s {s : mS} {np : Nat} {cl : Int32} {M l n a : Nat} {g : Nat → Int32} {v : Int32} (ha : tn (mr s 11 n) = a) (ha6 : a < 6) (hv : v = cIf (mGt s np cl M l n a = 1 ∨ 0 < mcL s np cl M l n) 1 0) : mFar (mG1 s np cl M l (n + 1)) g = muR (mFar (mG1 s np cl M l n) g) 29 a v := by
  unfold mG1
  rw [mFar_putR (by decide), mGt_st ha ha6 hv]
def g01 (x : Int32) : Int32 := if x = 0 then 0 else 1
def mGc (s : mS) : Nat → Int32
  | 0 => 0
  | n + 1 => mGc s n + g01 (mr s 29 n)
def mG2 (s : mS) (n : Nat) : mS := mrA s 25 (blw (fun a => mr s 25 a + g01 (mr s 29 a)) (mr s 25) n)
theorem mG2_0 {s : mS} : mG2 s 0 = s := by unfold mG2; rw [blw_0, mrA_id]
theorem mG2_s {s : mS} {n : Nat} {x : Int32} (h : g01 (mr s 29 n) = x) : mG2 s (n + 1) = muR (mG2 s n) 25 n (mr (mG2 s n) 25 n + x) := by
  unfold mG2
  rw [mrA_self, mrA_put, blw_at, blw_sR (by rw [h])]
abbrev rm_X6_pass : Room := { frames := 3, cells := 0, slots := 0, locals := 77 }
set_option maxHeartbeats 4000000 in
set_option maxRecDepth 100000 in
theorem m_X6_pass (l : Launch) (hl : l.stackTraces = false) (D : va_G) (cy : Nat → ClassId) (e0 : Nat) {ma : Nat → Nat} {s : mS} {np : Nat} (hp0 : mi s 21 = nI np) (hp1 : np ≤ 40) {M : Nat} (hM : mi s 5 = nI M) (hM1 : M ≤ 24) (hln : MLN s M) {nl : Nat} (hl0 : mi s 10 = nI nl) (hl1 : nl ≤ 6) (hLI : MLI s nl) (hop : HOP s np) (hap : ∀ p, p < np → mr s 11 p = nI (tn (mr s 11 p)) ∧ tn (mr s 11 p) < 6) {x : Int32} : mMet l yX6_pass wsX6_pass rm_X6_pass D cy e0 [.ref (ma 0), .int (x)] ma s (fun v s' => (∃ H, 1 ≤ H ∧ H ≤ 200 ∧ x = nI H ∧ ¬ (5000 : Int32) < mi s 1 + nI H ∧ v = some (.int (mi s 1 + nI H)) ∧ ∃ g, s' = mHn (mFar (mC2 (mD1 (muI s 0 0) (mcl s np M) M nl) np (mcl s np M) M nl np) g) nl np H) ∨ (¬ (1 ≤ x ∧ x ≤ 200) ∧ v = some (.int 0) ∧ s' = muI s 0 1) ∨ (∃ H, 1 ≤ H ∧ H ≤ 200 ∧ x = nI H ∧ (5000 : Int32) < mi s 1 + nI H ∧ v = some (.int 0) ∧ s' = muI s 0 2)) := by
  refine gMet.of (cc := cX6_pass) (maxL := 5) (ret := (some .int)) hl (by decide) rfl (Nat.le_of_ble_eq_true rfl) ?_
  intro C E h1 h2 h3 hr hnm hT hE
  subst h1; subst h2; subst h3
  have E : gOk C cX6_pass 5 wsX6_pass RX6 e0 rm_X6_pass := E
  show G C (mW (xy C) ma s) 0 0 0 [(0, .ref (ma 0)), (1, .int (x))] []
  refine g_aload_n E dX6_pass_0 rfl 0 rfl ?_
  refine g_iload_n E dX6_pass_1 rfl 1 rfl ?_
  refine g_iconst (v := 1) E dX6_pass_2 (by decide) ?_
  refine g_sipush (v := 200) E dX6_pass_3 (by decide) ?_
  refine k_invS (n := 3) (rest := [.ref (ma 0)]) E (m_X6_isIn (xl C) E.tr (xD C) (xy C) e0 (x := x) (a := 1) (b := 200)) gX6_pass_X6_isIn rfl rfl rfl (by decide +kernel) ⟨Nat.le_of_ble_eq_true rfl, Nat.le_of_ble_eq_true rfl⟩ rfl rfl (Nat.le_of_ble_eq_true rfl) dX6_pass_6 ⟨Nat.le_of_ble_eq_true rfl, Nat.le_of_ble_eq_true rfl⟩ (fun v9 s9_6 h9 => ?_)
  obtain ⟨hv9, hS9⟩ := h9
  rw [hv9, hS9]
  show G C (mW (xy C) ma s) 0 0 9 [(0, .ref (ma 0)), (1, .int (x))] [.int ((bI (1 ≤ x ∧ x ≤ 200))), .ref (ma 0)]
  refine g_if_ne (tgt := 16) E dX6_pass_9 (by decide) (fun c_9 => ?_) (fun c_9 => ?_)
  · have h_in := bI_ne0.mp c_9
    obtain ⟨H, hH0, hH, hxH⟩ : ∃ H, 1 ≤ H ∧ H ≤ 200 ∧ x = nI H := by
      obtain ⟨H, hH, hx⟩ := nI_in2 (n := 201) (by decide) (Int32.not_lt.mpr (Int32.le_trans (by decide) h_in.1)) (Int32.lt_of_le_of_lt h_in.2 (by decide))
      refine ⟨H, ?_, by omega, hx⟩
      rw [hx] at h_in
      exact nI_ge_nat (b := 1) (by decide) (by omega) h_in.1
    subst hxH
    show G C (mW (xy C) ma s) 0 0 16 [(0, .ref (ma 0)), (1, .int (nI H))] [.ref (ma 0)]
    refine g_aload_n E dX6_pass_16 rfl 0 rfl ?_
    refine k_get_now (s := s) E (fun _ h => (List.mem_cons_of_mem _ (List.mem_append_right _ h))) (List.mem_cons_of_mem _ (List.mem_append_left _ (List.mem_append_left _ (List.mem_of_getElem? (i := 0) rfl)))) dX6_pass_17 ?_
    refine g_iload_n E dX6_pass_20 rfl 1 rfl ?_
    refine g_iadd E dX6_pass_21 ?_
    refine g_sipush (v := 5000) E dX6_pass_22 (by decide) ?_
    refine g_icmp_le (tgt := 32) E dX6_pass_25 (by decide) (fun c_25 => ?_) (fun c_25 => ?_)
    · refine g_iconst (v := 0) E dX6_pass_32 (by decide) ?_
      refine k_invV (n := 1) (rest := []) E (m_X6_isFine (xl C) E.tr (xD C) (xy C) e0 (s := s) (x := 0)) gX6_pass_X6_isFine rfl rfl rfl (by decide +kernel) ⟨Nat.le_of_ble_eq_true rfl, Nat.le_of_ble_eq_true rfl⟩ rfl rfl (Nat.le_of_ble_eq_true rfl) dX6_pass_33 ⟨Nat.le_of_ble_eq_true rfl, Nat.le_of_ble_eq_true rfl⟩ (fun v9 s9_33 h9 => ?_)
      obtain ⟨hv9, hS9⟩ := h9
      rw [hv9, hS9]
      rw [show bI ((0 : Int32) = 0) = 1 by decide]
      show G C (mW (xy C) ma (muI s 0 (0))) 0 0 36 [(0, .ref (ma 0)), (1, .int (nI H))] [.int (1)]
      refine g_if_ne (tgt := 41) E dX6_pass_36 (by decide) (fun c_36 => ?_) (fun c_36 => ?_)
      · refine g_aload_n E dX6_pass_41 rfl 0 rfl ?_
        refine k_invV (n := 0) (rest := []) E (m_X6_closed (xl C) E.tr (xD C) (xy C) e0 (s := (muI s 0 (0))) hp0 hp1 hM hM1) gX6_pass_X6_closed rfl rfl rfl (by decide +kernel) ⟨Nat.le_of_ble_eq_true rfl, Nat.le_of_ble_eq_true rfl⟩ rfl rfl (Nat.le_of_ble_eq_true rfl) dX6_pass_42 ⟨Nat.le_of_ble_eq_true rfl, Nat.le_of_ble_eq_true rfl⟩ (fun v9 s9_42 h9 => ?_)
        obtain ⟨hv9, hS9⟩ := h9
        rw [hv9, hS9, mcl_muI]
        show G C (mW (xy C) ma (muI s 0 (0))) 0 0 45 [(0, .ref (ma 0)), (1, .int (nI H))] [.int ((mcl s np M))]
        refine g_istore_n (L' := [(2, .int ((mcl s np M))), (0, .ref (ma 0)), (1, .int (nI H))]) E dX6_pass_45 rfl (by decide) rfl ?_
        refine g_iconst (v := 0) E dX6_pass_46 (by decide) ?_
        refine g_istore_n (L' := [(3, .int (0)), (2, .int ((mcl s np M))), (0, .ref (ma 0)), (1, .int (nI H))]) E dX6_pass_47 rfl (by decide) rfl ?_
        refine g_locals [(0, .ref (ma 0)), (1, .int (nI H)), (2, .int ((mcl s np M))), (3, .int (0))] [2, 3, 1, 0] rfl ?_
        refine g_world (congrArg (mW (xy C) ma) (mD1_0 : (mFar (mD1 (muI s 0 0) (mcl s np M) M 0) (mr (muI s 0 0) 26)) = (muI s 0 (0))).symm) ?_
        have loop_48 : ∀ (n_48 l : Nat) (g : Nat → Int32), l ≤ nl → nl < n_48 + l → G C (mW (xy C) ma (mFar (mD1 (muI s 0 0) (mcl s np M) M l) g)) 0 0 48 [(0, .ref (ma 0)), (1, .int (nI H)), (2, .int ((mcl s np M))), (3, .int (nI l))] [] := by
          intro n_48
          induction n_48 with
          | zero => intro l g g1 g2; exact absurd g2 (by omega)
          | succ n_48 ih_48 =>
            intro l g h1_48 h2_48
            refine g_iload_n E dX6_pass_48 rfl 3 rfl ?_
            refine g_aload_n E dX6_pass_49 rfl 0 rfl ?_
            refine k_get_lines (s := (mFar (mD1 (muI s 0 0) (mcl s np M) M l) g)) E (fun _ h => (List.mem_cons_of_mem _ (List.mem_append_right _ h))) (List.mem_cons_of_mem _ (List.mem_append_left _ (List.mem_append_left _ (List.mem_of_getElem? (i := 1) rfl)))) dX6_pass_50 ?_
            rw [show mi (mFar (mD1 (muI s 0 0) (mcl s np M) M l) g) 10 = nI nl from hl0]
            show G C (mW (xy C) ma (mFar (mD1 (muI s 0 0) (mcl s np M) M l) g)) 0 0 53 [(0, .ref (ma 0)), (1, .int (nI H)), (2, .int ((mcl s np M))), (3, .int (nI l))] [.int (nI nl), .int (nI l)]
            refine g_icmp_ge (tgt := 74) E dX6_pass_53 (by decide) (fun c_53 => ?_) (fun c_53 => ?_)
            · have e_l : l = nl := Nat.le_antisymm h1_48 (nI_ge_nat (by omega) (by omega) c_53)
              rw [e_l]
              show G C (mW (xy C) ma (mFar (mD1 (muI s 0 0) (mcl s np M) M nl) g)) 0 0 74 [(0, .ref (ma 0)), (1, .int (nI H)), (2, .int ((mcl s np M))), (3, .int (nI nl))] []
              refine g_iconst (v := 0) E dX6_pass_74 (by decide) ?_
              refine g_istore_n (L' := [(3, .int (0)), (0, .ref (ma 0)), (1, .int (nI H)), (2, .int ((mcl s np M)))]) E dX6_pass_75 rfl (by decide) rfl ?_
              refine g_locals [(0, .ref (ma 0)), (1, .int (nI H)), (2, .int ((mcl s np M))), (3, .int (0))] [1, 2, 3, 0] rfl ?_
              refine g_world (congrArg (mW (xy C) ma) (mC2_0 : (mFar (mC2 (mD1 (muI s 0 0) (mcl s np M) M nl) np (mcl s np M) M nl 0) g) = (mFar (mD1 (muI s 0 0) (mcl s np M) M nl) g)).symm) ?_
              have loop_76 : ∀ (n_76 k : Nat) (g : Nat → Int32), k ≤ np → np < n_76 + k → G C (mW (xy C) ma (mFar (mC2 (mD1 (muI s 0 0) (mcl s np M) M nl) np (mcl s np M) M nl k) g)) 0 0 76 [(0, .ref (ma 0)), (1, .int (nI H)), (2, .int ((mcl s np M))), (3, .int (nI k))] [] := by
                intro n_76
                induction n_76 with
                | zero => intro k g g1 g2; exact absurd g2 (by omega)
                | succ n_76 ih_76 =>
                  intro k g h1_76 h2_76
                  refine g_iload_n E dX6_pass_76 rfl 3 rfl ?_
                  refine g_aload_n E dX6_pass_77 rfl 0 rfl ?_
                  refine k_get_permits (s := (mFar (mC2 (mD1 (muI s 0 0) (mcl s np M) M nl) np (mcl s np M) M nl k) g)) E (fun _ h => (List.mem_cons_of_mem _ (List.mem_append_right _ h))) (List.mem_cons_of_mem _ (List.mem_append_left _ (List.mem_append_left _ (List.mem_of_getElem? (i := 3) rfl)))) dX6_pass_78 ?_
                  rw [show mi (mFar (mC2 (mD1 (muI s 0 0) (mcl s np M) M nl) np (mcl s np M) M nl k) g) 21 = nI np from hp0]
                  show G C (mW (xy C) ma (mFar (mC2 (mD1 (muI s 0 0) (mcl s np M) M nl) np (mcl s np M) M nl k) g)) 0 0 81 [(0, .ref (ma 0)), (1, .int (nI H)), (2, .int ((mcl s np M))), (3, .int (nI k))] [.int (nI np), .int (nI k)]
                  refine g_icmp_ge (tgt := 152) E dX6_pass_81 (by decide) (fun c_81 => ?_) (fun c_81 => ?_)
                  · have e_k : k = np := Nat.le_antisymm h1_76 (nI_ge_nat (by omega) (by omega) c_81)
                    rw [e_k]
                    show G C (mW (xy C) ma (mFar (mC2 (mD1 (muI s 0 0) (mcl s np M) M nl) np (mcl s np M) M nl np) g)) 0 0 152 [(0, .ref (ma 0)), (1, .int (nI H)), (2, .int ((mcl s np M))), (3, .int (nI np))] []
                    refine g_iconst (v := 0) E dX6_pass_152 (by decide) ?_
                    refine g_istore_n (L' := [(3, .int (0)), (0, .ref (ma 0)), (1, .int (nI H)), (2, .int ((mcl s np M)))]) E dX6_pass_153 rfl (by decide) rfl ?_
                    refine g_locals [(0, .ref (ma 0)), (1, .int (nI H)), (3, .int (0))] [1, 2, 0] rfl ?_
                    refine g_world (congrArg (mW (xy C) ma) (rfl : (mHn (mFar (mC2 (mD1 (muI s 0 0) (mcl s np M) M nl) np (mcl s np M) M nl np) g) nl np 0) = (mFar (mC2 (mD1 (muI s 0 0) (mcl s np M) M nl) np (mcl s np M) M nl np) g)).symm) ?_
                    have loop_154 : ∀ (n_154 h : Nat) , h ≤ H → H < n_154 + h → G C (mW (xy C) ma (mHn (mFar (mC2 (mD1 (muI s 0 0) (mcl s np M) M nl) np (mcl s np M) M nl np) g) nl np h)) 0 0 154 [(0, .ref (ma 0)), (1, .int (nI H)), (3, .int (nI h))] [] := by
                      intro n_154
                      induction n_154 with
                      | zero => intro h  g1 g2; exact absurd g2 (by omega)
                      | succ n_154 ih_154 =>
                        intro h  h1_154 h2_154
                        refine g_iload_n E dX6_pass_154 rfl 2 rfl ?_
                        refine g_iload_n E dX6_pass_155 rfl 1 rfl ?_
                        refine g_icmp_ge (tgt := 169) E dX6_pass_156 (by decide) (fun c_156 => ?_) (fun c_156 => ?_)
                        · have e_h : h = H := Nat.le_antisymm h1_154 (nI_ge_nat (by omega) (by omega) c_156)
                          rw [e_h]
                          show G C (mW (xy C) ma (mHn (mFar (mC2 (mD1 (muI s 0 0) (mcl s np M) M nl) np (mcl s np M) M nl np) g) nl np H)) 0 0 169 [(0, .ref (ma 0)), (1, .int (nI H)), (3, .int (nI H))] []
                          refine g_aload_n E dX6_pass_169 rfl 0 rfl ?_
                          refine k_get_now (s := (mHn (mFar (mC2 (mD1 (muI s 0 0) (mcl s np M) M nl) np (mcl s np M) M nl np) g) nl np H)) E (fun _ h => (List.mem_cons_of_mem _ (List.mem_append_right _ h))) (List.mem_cons_of_mem _ (List.mem_append_left _ (List.mem_append_left _ (List.mem_of_getElem? (i := 0) rfl)))) dX6_pass_170 ?_
                          exact g_iret E hE hr dX6_pass_173 (Nat.le_of_ble_eq_true rfl) (Nat.le_of_ble_eq_true rfl) ⟨(mHn (mFar (mC2 (mD1 (muI s 0 0) (mcl s np M) M nl) np (mcl s np M) M nl np) g) nl np H), rfl, Or.inl ⟨H, hH0, hH, rfl, Int32.not_lt.mpr c_25, by rw [mHn_now]; rfl, g, rfl⟩⟩
                        · have hh_h : h < H := nI_nge_nat (by omega) (by omega) c_156
                          refine g_aload_n E dX6_pass_159 rfl 0 rfl ?_
                          refine k_invV (n := 0) (rest := []) E (m_X6_passes (xl C) E.tr (xD C) (xy C) e0 (s := (mHn (mFar (mC2 (mD1 (muI s 0 0) (mcl s np M) M nl) np (mcl s np M) M nl np) g) nl np h)) ((mHn_mi (by decide)).trans hp0) hp1 ((mHn_mi (by decide)).trans hl0) hl1 (mHn_HOP (show HOP (mFar (mC2 (mD1 (muI s 0 0) (mcl s np M) M nl) np (mcl s np M) M nl np) g) np from hop)) (by rw [mHn_mr (by decide)]; exact hap)) gX6_pass_X6_passes rfl rfl rfl (by decide +kernel) ⟨Nat.le_of_ble_eq_true rfl, Nat.le_of_ble_eq_true rfl⟩ rfl rfl (Nat.le_of_ble_eq_true rfl) dX6_pass_160 ⟨Nat.le_of_ble_eq_true rfl, Nat.le_of_ble_eq_true rfl⟩ (fun v9 s9_160 h9 => ?_)
                          obtain ⟨hv9, hS9⟩ := h9
                          rw [hv9, hS9]
                          show G C (mW (xy C) ma (mHr (mHn (mFar (mC2 (mD1 (muI s 0 0) (mcl s np M) M nl) np (mcl s np M) M nl np) g) nl np h) nl np)) 0 0 163 [(0, .ref (ma 0)), (1, .int (nI H)), (3, .int (nI h))] []
                          refine g_iinc (v := nI (h + 1)) (L' := [(3, .int (nI (h + 1))), (0, .ref (ma 0)), (1, .int (nI H))]) E dX6_pass_163 2 rfl (nI_1 h) (by decide) rfl ?_
                          refine g_goto (tgt := 154) E dX6_pass_166 (by decide) ?_
                          refine g_locals [(0, .ref (ma 0)), (1, .int (nI H)), (3, .int (nI (h + 1)))] [1, 2, 0] rfl ?_
                          refine g_world (congrArg (mW (xy C) ma) (rfl : (mHn (mFar (mC2 (mD1 (muI s 0 0) (mcl s np M) M nl) np (mcl s np M) M nl np) g) nl np (h + 1)) = (mHr (mHn (mFar (mC2 (mD1 (muI s 0 0) (mcl s np M) M nl) np (mcl s np M) M nl np) g) nl np h) nl np)).symm) ?_
                          refine g_L (L' := [(0, .ref (ma 0)), (1, .int (nI H)), (3, .int (nI (h + 1)))]) (by rfl) (ih_154 (h + 1)   (by omega) (by omega))
                    exact loop_154 (H + 1) 0   (by omega) (by omega)
                  · have hk_k : k < np := nI_nge_nat (by omega) (by omega) c_81
                    refine g_aload_n E dX6_pass_84 rfl 0 rfl ?_
                    refine k_get_costs (s := (mFar (mC2 (mD1 (muI s 0 0) (mcl s np M) M nl) np (mcl s np M) M nl k) g)) E (fun _ h => (List.mem_cons_of_mem _ (List.mem_append_right _ h))) (List.mem_cons_of_mem _ (List.mem_append_left _ (List.mem_append_left _ (List.mem_of_getElem? (i := 4) rfl)))) dX6_pass_85 ?_
                    refine g_iload_n E dX6_pass_88 rfl 3 rfl ?_
                    refine g_lconst (v := 0) E dX6_pass_89 (by decide) ?_
                    refine k_ast_costs (s := (mFar (mC2 (mD1 (muI s 0 0) (mcl s np M) M nl) np (mcl s np M) M nl k) g)) E k rfl (by omega) dX6_pass_90 ?_
                    refine g_iconst (v := 0) E dX6_pass_91 (by decide) ?_
                    refine g_istore (L' := [(4, .int (0)), (0, .ref (ma 0)), (1, .int (nI H)), (2, .int ((mcl s np M))), (3, .int (nI k))]) E dX6_pass_92 (by decide) rfl ?_
                    refine g_locals [(0, .ref (ma 0)), (1, .int (nI H)), (2, .int ((mcl s np M))), (3, .int (nI k)), (4, .int (0))] [1, 2, 3, 4, 0] rfl ?_
                    refine g_world (congrArg (mW (xy C) ma) (mC3_0 : (mFar (mC3 (mD1 (muI s 0 0) (mcl s np M) M nl) np (mcl s np M) M nl k 0) g) = (muL (mFar (mC2 (mD1 (muI s 0 0) (mcl s np M) M nl) np (mcl s np M) M nl k) g) 27 k (0))).symm) ?_
                    have loop_94 : ∀ (n_94 m : Nat) (g : Nat → Int32), (m = 0 ∨ mr s 17 k = 2) → m ≤ nl → nl < n_94 + m → G C (mW (xy C) ma (mFar (mC3 (mD1 (muI s 0 0) (mcl s np M) M nl) np (mcl s np M) M nl k m) g)) 0 0 94 [(0, .ref (ma 0)), (1, .int (nI H)), (2, .int ((mcl s np M))), (3, .int (nI k)), (4, .int (nI m))] [] := by
                      intro n_94
                      induction n_94 with
                      | zero => intro m g hz g1 g2; exact absurd g2 (by omega)
                      | succ n_94 ih_94 =>
                        intro m g hz h1_94 h2_94
                        refine g_iload E dX6_pass_94 4 rfl ?_
                        refine g_aload_n E dX6_pass_96 rfl 0 rfl ?_
                        refine k_get_lines (s := (mFar (mC3 (mD1 (muI s 0 0) (mcl s np M) M nl) np (mcl s np M) M nl k m) g)) E (fun _ h => (List.mem_cons_of_mem _ (List.mem_append_right _ h))) (List.mem_cons_of_mem _ (List.mem_append_left _ (List.mem_append_left _ (List.mem_of_getElem? (i := 1) rfl)))) dX6_pass_97 ?_
                        rw [show mi (mFar (mC3 (mD1 (muI s 0 0) (mcl s np M) M nl) np (mcl s np M) M nl k m) g) 10 = nI nl from hl0]
                        show G C (mW (xy C) ma (mFar (mC3 (mD1 (muI s 0 0) (mcl s np M) M nl) np (mcl s np M) M nl k m) g)) 0 0 100 [(0, .ref (ma 0)), (1, .int (nI H)), (2, .int ((mcl s np M))), (3, .int (nI k)), (4, .int (nI m))] [.int (nI nl), .int (nI m)]
                        refine g_icmp_ge (tgt := 146) E dX6_pass_100 (by decide) (fun c_100 => ?_) (fun c_100 => ?_)
                        · refine g_iinc (v := nI (k + 1)) (L' := [(3, .int (nI (k + 1))), (0, .ref (ma 0)), (1, .int (nI H)), (2, .int ((mcl s np M))), (4, .int (nI m))]) E dX6_pass_146 3 rfl (nI_1 k) (by decide) rfl ?_
                          refine g_goto (tgt := 76) E dX6_pass_149 (by decide) ?_
                          refine g_locals [(0, .ref (ma 0)), (1, .int (nI H)), (2, .int ((mcl s np M))), (3, .int (nI (k + 1)))] [1, 2, 3, 0] rfl ?_
                          have h_c : mCs (mD1 (muI s 0 0) (mcl s np M) M nl) np (mcl s np M) M k m = mCp (mD1 (muI s 0 0) (mcl s np M) M nl) np (mcl s np M) M nl k := by
                            have e_m : m = nl := by have := nI_ge_nat (by omega) (by omega) c_100; omega
                            unfold mCp
                            rcases hz with z | z
                            · rw [← e_m, z]; split <;> rfl
                            · rw [if_pos (show mr (mD1 (muI s 0 0) (mcl s np M) M nl) 17 k = 2 from z), e_m]
                          refine g_world (congrArg (mW (xy C) ma) (mC2_s h_c : (mFar (mC2 (mD1 (muI s 0 0) (mcl s np M) M nl) np (mcl s np M) M nl (k + 1)) g) = (mFar (mC3 (mD1 (muI s 0 0) (mcl s np M) M nl) np (mcl s np M) M nl k m) g)).symm) ?_
                          refine g_L (L' := [(0, .ref (ma 0)), (1, .int (nI H)), (2, .int ((mcl s np M))), (3, .int (nI (k + 1)))]) (by rfl) (ih_76 (k + 1) (g)  (by omega) (by omega))
                        · have hm_m : m < nl := nI_nge_nat (by omega) (by omega) c_100
                          refine g_aload_n E dX6_pass_103 rfl 0 rfl ?_
                          refine k_get_state (s := (mFar (mC3 (mD1 (muI s 0 0) (mcl s np M) M nl) np (mcl s np M) M nl k m) g)) E (fun _ h => (List.mem_cons_of_mem _ (List.mem_append_right _ h))) (List.mem_cons_of_mem _ (List.mem_append_left _ (List.mem_append_left _ (List.mem_of_getElem? (i := 5) rfl)))) dX6_pass_104 ?_
                          refine g_iload_n E dX6_pass_107 rfl 3 rfl ?_
                          refine k_ald_state (s := (mFar (mC3 (mD1 (muI s 0 0) (mcl s np M) M nl) np (mcl s np M) M nl k m) g)) E k rfl (by omega) dX6_pass_108 ?_
                          refine g_iconst (v := 2) E dX6_pass_109 (by decide) ?_
                          refine g_icmp_ne (tgt := 146) E dX6_pass_110 (by decide) (fun c_110 => ?_) (fun c_110 => ?_)
                          · refine g_iinc (v := nI (k + 1)) (L' := [(3, .int (nI (k + 1))), (0, .ref (ma 0)), (1, .int (nI H)), (2, .int ((mcl s np M))), (4, .int (nI m))]) E dX6_pass_146 3 rfl (nI_1 k) (by decide) rfl ?_
                            refine g_goto (tgt := 76) E dX6_pass_149 (by decide) ?_
                            refine g_locals [(0, .ref (ma 0)), (1, .int (nI H)), (2, .int ((mcl s np M))), (3, .int (nI (k + 1)))] [1, 2, 3, 0] rfl ?_
                            have h_c : mCs (mD1 (muI s 0 0) (mcl s np M) M nl) np (mcl s np M) M k m = mCp (mD1 (muI s 0 0) (mcl s np M) M nl) np (mcl s np M) M nl k := by
                              have z : m = 0 := hz.elim id (fun z => absurd z c_110)
                              unfold mCp
                              rw [if_neg (show ¬ mr (mD1 (muI s 0 0) (mcl s np M) M nl) 17 k = 2 from c_110), z]; rfl
                            refine g_world (congrArg (mW (xy C) ma) (mC2_s h_c : (mFar (mC2 (mD1 (muI s 0 0) (mcl s np M) M nl) np (mcl s np M) M nl (k + 1)) g) = (mFar (mC3 (mD1 (muI s 0 0) (mcl s np M) M nl) np (mcl s np M) M nl k m) g)).symm) ?_
                            refine g_L (L' := [(0, .ref (ma 0)), (1, .int (nI H)), (2, .int ((mcl s np M))), (3, .int (nI (k + 1)))]) (by rfl) (ih_76 (k + 1) (g)  (by omega) (by omega))
                          · refine g_aload_n E dX6_pass_113 rfl 0 rfl ?_
                            refine k_get_costs (s := (mFar (mC3 (mD1 (muI s 0 0) (mcl s np M) M nl) np (mcl s np M) M nl k m) g)) E (fun _ h => (List.mem_cons_of_mem _ (List.mem_append_right _ h))) (List.mem_cons_of_mem _ (List.mem_append_left _ (List.mem_append_left _ (List.mem_of_getElem? (i := 4) rfl)))) dX6_pass_114 ?_
                            refine g_iload_n E dX6_pass_117 rfl 3 rfl ?_
                            refine g_dup2_11 E dX6_pass_118 rfl rfl ?_
                            refine k_ald_costs (s := (mFar (mC3 (mD1 (muI s 0 0) (mcl s np M) M nl) np (mcl s np M) M nl k m) g)) E k rfl (by omega) dX6_pass_119 ?_
                            rw [show ml (mFar (mC3 (mD1 (muI s 0 0) (mcl s np M) M nl) np (mcl s np M) M nl k m) g) 27 k = mCs (mD1 (muI s 0 0) (mcl s np M) M nl) np (mcl s np M) M k m from mC3_at]
                            show G C (mW (xy C) ma (mFar (mC3 (mD1 (muI s 0 0) (mcl s np M) M nl) np (mcl s np M) M nl k m) g)) 0 0 120 [(0, .ref (ma 0)), (1, .int (nI H)), (2, .int ((mcl s np M))), (3, .int (nI k)), (4, .int (nI m))] [.long ((mCs (mD1 (muI s 0 0) (mcl s np M) M nl) np (mcl s np M) M k m)), .int (nI k), .ref (ma 27)]
                            refine g_aload_n E dX6_pass_120 rfl 0 rfl ?_
                            refine g_iload_n E dX6_pass_121 rfl 3 rfl ?_
                            refine g_iload E dX6_pass_122 4 rfl ?_
                            refine g_iload_n E dX6_pass_124 rfl 2 rfl ?_
                            obtain ⟨n, hn6, hst, hsp⟩ := hLI m hm_m
                            refine k_invV (n := 3) (rest := [.long ((mCs (mD1 (muI s 0 0) (mcl s np M) M nl) np (mcl s np M) M k m)), .int (nI k), .ref (ma 27)]) E (m_X6_cost (xl C) E.tr (xD C) (xy C) e0 (s := (mFar (mC3 (mD1 (muI s 0 0) (mcl s np M) M nl) np (mcl s np M) M nl k m) g)) (cl := (mcl s np M)) hp0 hp1 hM hM1 (show MLN (mFar (mC3 (mD1 (muI s 0 0) (mcl s np M) M nl) np (mcl s np M) M nl k m) g) M from hln) (by omega) (show mr (mFar (mC3 (mD1 (muI s 0 0) (mcl s np M) M nl) np (mcl s np M) M nl k m) g) 8 m = nI (n + 1) from hst) hn6 (show MSP (mFar (mC3 (mD1 (muI s 0 0) (mcl s np M) M nl) np (mcl s np M) M nl k m) g) m (n + 1) from hsp) (k := k) (by omega)) gX6_pass_X6_cost rfl rfl rfl (by decide +kernel) ⟨Nat.le_of_ble_eq_true rfl, Nat.le_of_ble_eq_true rfl⟩ rfl rfl (Nat.le_of_ble_eq_true rfl) dX6_pass_125 ⟨Nat.le_of_ble_eq_true rfl, Nat.le_of_ble_eq_true rfl⟩ (fun v9 s9_125 h9 => ?_)
                            obtain ⟨hv9, g2, hS9⟩ := h9
                            rw [hv9, hS9, mFar_mFar, show mcost (mFar (mC3 (mD1 (muI s 0 0) (mcl s np M) M nl) np (mcl s np M) M nl k m) g) np (mcl s np M) M m n k = mcL (mD1 (muI s 0 0) (mcl s np M) M nl) np (mcl s np M) M m k from mcL_of hst hn6]
                            show G C (mW (xy C) ma (mFar (mC3 (mD1 (muI s 0 0) (mcl s np M) M nl) np (mcl s np M) M nl k m) g2)) 0 0 128 [(0, .ref (ma 0)), (1, .int (nI H)), (2, .int ((mcl s np M))), (3, .int (nI k)), (4, .int (nI m))] [.int ((mcL (mD1 (muI s 0 0) (mcl s np M) M nl) np (mcl s np M) M m k)), .long ((mCs (mD1 (muI s 0 0) (mcl s np M) M nl) np (mcl s np M) M k m)), .int (nI k), .ref (ma 27)]
                            refine g_i2l E dX6_pass_128 ?_
                            refine g_aload_n E dX6_pass_129 rfl 0 rfl ?_
                            refine k_get_passengers (s := (mFar (mC3 (mD1 (muI s 0 0) (mcl s np M) M nl) np (mcl s np M) M nl k m) g2)) E (fun _ h => (List.mem_cons_of_mem _ (List.mem_append_right _ h))) (List.mem_cons_of_mem _ (List.mem_append_left _ (List.mem_append_left _ (List.mem_of_getElem? (i := 6) rfl)))) dX6_pass_130 ?_
                            refine g_iload E dX6_pass_133 4 rfl ?_
                            refine k_ald_passengers (s := (mFar (mC3 (mD1 (muI s 0 0) (mcl s np M) M nl) np (mcl s np M) M nl k m) g2)) E m rfl (by omega) dX6_pass_135 ?_
                            refine g_i2l E dX6_pass_136 ?_
                            refine g_lmul E dX6_pass_137 ?_
                            refine g_ladd E dX6_pass_138 ?_
                            refine k_ast_costs (s := (mFar (mC3 (mD1 (muI s 0 0) (mcl s np M) M nl) np (mcl s np M) M nl k m) g2)) E k rfl (by omega) dX6_pass_139 ?_
                            refine g_iinc (v := nI (m + 1)) (L' := [(4, .int (nI (m + 1))), (0, .ref (ma 0)), (1, .int (nI H)), (2, .int ((mcl s np M))), (3, .int (nI k))]) E dX6_pass_140 4 rfl (nI_1 m) (by decide) rfl ?_
                            refine g_goto (tgt := 94) E dX6_pass_143 (by decide) ?_
                            refine g_locals [(0, .ref (ma 0)), (1, .int (nI H)), (2, .int ((mcl s np M))), (3, .int (nI k)), (4, .int (nI (m + 1)))] [1, 2, 3, 4, 0] rfl ?_
                            refine g_world (congrArg (mW (xy C) ma) (mC3_s rfl : (mFar (mC3 (mD1 (muI s 0 0) (mcl s np M) M nl) np (mcl s np M) M nl k (m + 1)) g2) = (muL (mFar (mC3 (mD1 (muI s 0 0) (mcl s np M) M nl) np (mcl s np M) M nl k m) g2) 27 k (((mCs (mD1 (muI s 0 0) (mcl s np M) M nl) np (mcl s np M) M k m) + (((mcL (mD1 (muI s 0 0) (mcl s np M) M nl) np (mcl s np M) M m k) : Int32).toInt64 * (mr (mFar (mC3 (mD1 (muI s 0 0) (mcl s np M) M nl) np (mcl s np M) M nl k m) g2) 6 m : Int32).toInt64))))).symm) ?_
                            refine g_L (L' := [(0, .ref (ma 0)), (1, .int (nI H)), (2, .int ((mcl s np M))), (3, .int (nI k)), (4, .int (nI (m + 1)))]) (by rfl) (ih_94 (m + 1) (g2) (Or.inr c_110) (by omega) (by omega))
                    exact loop_94 (nl + 1) 0 (g) (Or.inl rfl) (by omega) (by omega)
              exact loop_76 (np + 1) 0 (g)  (by omega) (by omega)
            · have hl_l : l < nl := nI_nge_nat (by omega) (by omega) c_53
              refine g_aload_n E dX6_pass_56 rfl 0 rfl ?_
              refine k_get_detours (s := (mFar (mD1 (muI s 0 0) (mcl s np M) M l) g)) E (fun _ h => (List.mem_cons_of_mem _ (List.mem_append_right _ h))) (List.mem_cons_of_mem _ (List.mem_append_left _ (List.mem_append_left _ (List.mem_of_getElem? (i := 2) rfl)))) dX6_pass_57 ?_
              refine g_iload_n E dX6_pass_60 rfl 3 rfl ?_
              refine g_aload_n E dX6_pass_61 rfl 0 rfl ?_
              refine g_iload_n E dX6_pass_62 rfl 3 rfl ?_
              refine g_iload_n E dX6_pass_63 rfl 2 rfl ?_
              obtain ⟨n, hn6, hst, hsp⟩ := hLI l hl_l
              refine k_invV (n := 2) (rest := [.int (nI l), .ref (ma 28)]) E (m_X6_detourBy (xl C) E.tr (xD C) (xy C) e0 (s := (mFar (mD1 (muI s 0 0) (mcl s np M) M l) g)) (cl := (mcl s np M)) hM hM1 (show MLN (mFar (mD1 (muI s 0 0) (mcl s np M) M l) g) M from hln) (by omega) (show mr (mFar (mD1 (muI s 0 0) (mcl s np M) M l) g) 8 l = nI (n + 1) from hst) hn6 (show MSP (mFar (mD1 (muI s 0 0) (mcl s np M) M l) g) l (n + 1) from hsp)) gX6_pass_X6_detourBy rfl rfl rfl (by decide +kernel) ⟨Nat.le_of_ble_eq_true rfl, Nat.le_of_ble_eq_true rfl⟩ rfl rfl (Nat.le_of_ble_eq_true rfl) dX6_pass_64 ⟨Nat.le_of_ble_eq_true rfl, Nat.le_of_ble_eq_true rfl⟩ (fun v9 s9_64 h9 => ?_)
              obtain ⟨hv9, g2, hS9⟩ := h9
              rw [hv9, hS9, mFar_mFar, show mdt (mFar (mD1 (muI s 0 0) (mcl s np M) M l) g) (mcl s np M) M l n = mdL (muI s 0 0) (mcl s np M) M l from mdL_of hst hn6]
              show G C (mW (xy C) ma (mFar (mD1 (muI s 0 0) (mcl s np M) M l) g2)) 0 0 67 [(0, .ref (ma 0)), (1, .int (nI H)), (2, .int ((mcl s np M))), (3, .int (nI l))] [.int ((mdL (muI s 0 0) (mcl s np M) M l)), .int (nI l), .ref (ma 28)]
              refine k_ast_detours (s := (mFar (mD1 (muI s 0 0) (mcl s np M) M l) g2)) E l rfl (by omega) dX6_pass_67 ?_
              refine g_iinc (v := nI (l + 1)) (L' := [(3, .int (nI (l + 1))), (0, .ref (ma 0)), (1, .int (nI H)), (2, .int ((mcl s np M)))]) E dX6_pass_68 3 rfl (nI_1 l) (by decide) rfl ?_
              refine g_goto (tgt := 48) E dX6_pass_71 (by decide) ?_
              refine g_locals [(0, .ref (ma 0)), (1, .int (nI H)), (2, .int ((mcl s np M))), (3, .int (nI (l + 1)))] [1, 2, 3, 0] rfl ?_
              refine g_world (congrArg (mW (xy C) ma) (mD1_s : (mFar (mD1 (muI s 0 0) (mcl s np M) M (l + 1)) g2) = (muR (mFar (mD1 (muI s 0 0) (mcl s np M) M l) g2) 28 l ((mdL (muI s 0 0) (mcl s np M) M l)))).symm) ?_
              refine g_L (L' := [(0, .ref (ma 0)), (1, .int (nI H)), (2, .int ((mcl s np M))), (3, .int (nI (l + 1)))]) (by rfl) (ih_48 (l + 1) (g2)  (by omega) (by omega))
        exact loop_48 (nl + 1) 0 ((mr (muI s 0 0) 26))  (by omega) (by omega)
      · exact absurd c_36 (by decide)
    · refine g_iconst (v := 2) E dX6_pass_28 (by decide) ?_
      refine g_goto (tgt := 33) E dX6_pass_29 (by decide) ?_
      refine k_invV (n := 1) (rest := []) E (m_X6_isFine (xl C) E.tr (xD C) (xy C) e0 (s := s) (x := 2)) gX6_pass_X6_isFine rfl rfl rfl (by decide +kernel) ⟨Nat.le_of_ble_eq_true rfl, Nat.le_of_ble_eq_true rfl⟩ rfl rfl (Nat.le_of_ble_eq_true rfl) dX6_pass_33 ⟨Nat.le_of_ble_eq_true rfl, Nat.le_of_ble_eq_true rfl⟩ (fun v9 s9_33 h9 => ?_)
      obtain ⟨hv9, hS9⟩ := h9
      rw [hv9, hS9]
      rw [show bI ((2 : Int32) = 0) = 0 by decide]
      show G C (mW (xy C) ma (muI s 0 (2))) 0 0 36 [(0, .ref (ma 0)), (1, .int (nI H))] [.int (0)]
      refine g_if_ne (tgt := 41) E dX6_pass_36 (by decide) (fun c_36 => ?_) (fun c_36 => ?_)
      · exact absurd c_36 (by decide)
      · refine g_iconst (v := 0) E dX6_pass_39 (by decide) ?_
        exact g_iret E hE hr dX6_pass_40 (Nat.le_of_ble_eq_true rfl) (Nat.le_of_ble_eq_true rfl) ⟨(muI s 0 (2)), rfl, Or.inr (Or.inr ⟨H, hH0, hH, rfl, Int32.not_le.mp c_25, rfl, rfl⟩)⟩
  · refine g_iconst (v := 1) E dX6_pass_12 (by decide) ?_
    refine g_goto (tgt := 33) E dX6_pass_13 (by decide) ?_
    refine k_invV (n := 1) (rest := []) E (m_X6_isFine (xl C) E.tr (xD C) (xy C) e0 (s := s) (x := 1)) gX6_pass_X6_isFine rfl rfl rfl (by decide +kernel) ⟨Nat.le_of_ble_eq_true rfl, Nat.le_of_ble_eq_true rfl⟩ rfl rfl (Nat.le_of_ble_eq_true rfl) dX6_pass_33 ⟨Nat.le_of_ble_eq_true rfl, Nat.le_of_ble_eq_true rfl⟩ (fun v9 s9_33 h9 => ?_)
    obtain ⟨hv9, hS9⟩ := h9
    rw [hv9, hS9]
    rw [show bI ((1 : Int32) = 0) = 0 by decide]
    show G C (mW (xy C) ma (muI s 0 (1))) 0 0 36 [(0, .ref (ma 0)), (1, .int (x))] [.int (0)]
    refine g_if_ne (tgt := 41) E dX6_pass_36 (by decide) (fun c_36 => ?_) (fun c_36 => ?_)
    · exact absurd c_36 (by decide)
    · refine g_iconst (v := 0) E dX6_pass_39 (by decide) ?_
      exact g_iret E hE hr dX6_pass_40 (Nat.le_of_ble_eq_true rfl) (Nat.le_of_ble_eq_true rfl) ⟨(muI s 0 (1)), rfl, Or.inr (Or.inl ⟨bI_eq0.mp c_9, rfl, rfl⟩)⟩
theorem mcl_mrA {s : mS} {f np n : Nat} {X : Nat → Int32} (h1 : f ≠ 17) (h2 : f ≠ 12) : mcl (mrA s f X) np n = mcl s np n := by
  have e1 : mr (mrA s f X) 17 = mr s 17 := va_up_ne _ _ h1.symm
  have e2 : mr (mrA s f X) 12 = mr s 12 := va_up_ne _ _ h2.symm
  have eo : ∀ x, opC (mrA s f X) np x = opC s np x := fun x => by unfold opC; simp only [e1, e2]
  induction n with
  | zero => rfl
  | succ n ih =>
    show mcl (mrA s f X) np n ||| (if 0 < opC (mrA s f X) np (nI n) then (1 : Int32) <<< (nI n &&& 31) else 0) = mcl s np n ||| (if 0 < opC s np (nI n) then (1 : Int32) <<< (nI n &&& 31) else 0)
    rw [ih, eo]
abbrev rm_X6_complain : Room := { frames := 3, cells := 0, slots := 0, locals := 77 }
set_option maxHeartbeats 4000000 in
set_option maxRecDepth 100000 in
theorem m_X6_complain (l : Launch) (hl : l.stackTraces = false) (D : va_G) (cy : Nat → ClassId) (e0 : Nat) {ma : Nat → Nat} {s : mS} {np : Nat} (hp0 : mi s 21 = nI np) (hp1 : np ≤ 40) {M : Nat} (hM : mi s 5 = nI M) (hM1 : M ≤ 24) (hln : MLN s M) {nl : Nat} (hl0 : mi s 10 = nI nl) (hl1 : nl ≤ 6) (hLI : MLI s nl) (hap : ∀ p, p < np → mr s 11 p = nI (tn (mr s 11 p)) ∧ tn (mr s 11 p) < 6) {x : Int32} : mMet l yX6_complain wsX6_complain rm_X6_complain D cy e0 [.ref (ma 0), .int (x)] ma s (fun v s' => (∃ k, k < nl ∧ x = nI k ∧ ∃ g, v = some (.int (mGc (mFar (mG1 (muI s 0 0) np (mcl s np M) M k np) g) 6)) ∧ s' = mG2 (mFar (mG1 (muI s 0 0) np (mcl s np M) M k np) g) 6) ∨ ((∀ k, k < nl → x ≠ nI k) ∧ v = some (.int 0) ∧ s' = muI s 0 1)) := by
  refine gMet.of (cc := cX6_complain) (maxL := 5) (ret := (some .int)) hl (by decide) rfl (Nat.le_of_ble_eq_true rfl) ?_
  intro C E h1 h2 h3 hr hnm hT hE
  subst h1; subst h2; subst h3
  have E : gOk C cX6_complain 5 wsX6_complain RX6 e0 rm_X6_complain := E
  show G C (mW (xy C) ma s) 0 0 0 [(0, .ref (ma 0)), (1, .int (x))] []
  refine g_aload_n E dX6_complain_0 rfl 0 rfl ?_
  refine g_aload_n E dX6_complain_1 rfl 0 rfl ?_
  refine g_iload_n E dX6_complain_2 rfl 1 rfl ?_
  refine k_invV (n := 1) (rest := [.ref (ma 0)]) E (m_X6_isLine (xl C) E.tr (xD C) (xy C) e0 hl0) gX6_complain_X6_isLine rfl rfl rfl (by decide +kernel) ⟨Nat.le_of_ble_eq_true rfl, Nat.le_of_ble_eq_true rfl⟩ rfl rfl (Nat.le_of_ble_eq_true rfl) dX6_complain_3 ⟨Nat.le_of_ble_eq_true rfl, Nat.le_of_ble_eq_true rfl⟩ (fun v9 s9_3 h9 => ?_)
  obtain ⟨hv9, hS9⟩ := h9
  rw [hv9, hS9]
  show G C (mW (xy C) ma s) 0 0 6 [(0, .ref (ma 0)), (1, .int (x))] [.int ((isIx (x) nl)), .ref (ma 0)]
  refine g_if_eq (tgt := 13) E dX6_complain_6 (by decide) (fun c_6 => ?_) (fun c_6 => ?_)
  · have hbad := isIx_f (by omega) c_6
    refine g_iconst (v := 1) E dX6_complain_13 (by decide) ?_
    refine k_invV (n := 1) (rest := []) E (m_X6_isFine (xl C) E.tr (xD C) (xy C) e0 (s := s) (x := 1)) gX6_complain_X6_isFine rfl rfl rfl (by decide +kernel) ⟨Nat.le_of_ble_eq_true rfl, Nat.le_of_ble_eq_true rfl⟩ rfl rfl (Nat.le_of_ble_eq_true rfl) dX6_complain_14 ⟨Nat.le_of_ble_eq_true rfl, Nat.le_of_ble_eq_true rfl⟩ (fun v9 s9_14 h9 => ?_)
    obtain ⟨hv9, hS9⟩ := h9
    rw [hv9, hS9]
    rw [show bI ((1 : Int32) = 0) = 0 by decide]
    show G C (mW (xy C) ma (muI s 0 (1))) 0 0 17 [(0, .ref (ma 0)), (1, .int (x))] [.int (0)]
    refine g_if_ne (tgt := 22) E dX6_complain_17 (by decide) (fun c_17 => ?_) (fun c_17 => ?_)
    · exact absurd c_17 (by decide)
    · refine g_iconst (v := 0) E dX6_complain_20 (by decide) ?_
      exact g_iret E hE hr dX6_complain_21 (Nat.le_of_ble_eq_true rfl) (Nat.le_of_ble_eq_true rfl) ⟨(muI s 0 (1)), rfl, Or.inr ⟨hbad, rfl, rfl⟩⟩
  · obtain ⟨ll, hll, hxl⟩ := isIx_t (by omega) c_6
    subst hxl
    show G C (mW (xy C) ma s) 0 0 9 [(0, .ref (ma 0)), (1, .int (nI ll))] [.ref (ma 0)]
    refine g_iconst (v := 0) E dX6_complain_9 (by decide) ?_
    refine g_goto (tgt := 14) E dX6_complain_10 (by decide) ?_
    refine k_invV (n := 1) (rest := []) E (m_X6_isFine (xl C) E.tr (xD C) (xy C) e0 (s := s) (x := 0)) gX6_complain_X6_isFine rfl rfl rfl (by decide +kernel) ⟨Nat.le_of_ble_eq_true rfl, Nat.le_of_ble_eq_true rfl⟩ rfl rfl (Nat.le_of_ble_eq_true rfl) dX6_complain_14 ⟨Nat.le_of_ble_eq_true rfl, Nat.le_of_ble_eq_true rfl⟩ (fun v9 s9_14 h9 => ?_)
    obtain ⟨hv9, hS9⟩ := h9
    rw [hv9, hS9]
    rw [show bI ((0 : Int32) = 0) = 1 by decide]
    show G C (mW (xy C) ma (muI s 0 (0))) 0 0 17 [(0, .ref (ma 0)), (1, .int (nI ll))] [.int (1)]
    refine g_if_ne (tgt := 22) E dX6_complain_17 (by decide) (fun c_17 => ?_) (fun c_17 => ?_)
    · refine g_iconst (v := 0) E dX6_complain_22 (by decide) ?_
      refine g_istore_n (L' := [(2, .int (0)), (0, .ref (ma 0)), (1, .int (nI ll))]) E dX6_complain_23 rfl (by decide) rfl ?_
      refine g_locals [(0, .ref (ma 0)), (1, .int (nI ll)), (2, .int (0))] [1, 2, 0] rfl ?_
      refine g_world (congrArg (mW (xy C) ma) (mG0_0 : (mG0 (muI s 0 0) 0) = (muI s 0 (0))).symm) ?_
      have loop_24 : ∀ (n_24 a : Nat) , a ≤ 6 → 6 < n_24 + a → G C (mW (xy C) ma (mG0 (muI s 0 0) a)) 0 0 24 [(0, .ref (ma 0)), (1, .int (nI ll)), (2, .int (nI a))] [] := by
        intro n_24
        induction n_24 with
        | zero => intro a  g1 g2; exact absurd g2 (by omega)
        | succ n_24 ih_24 =>
          intro a  h1_24 h2_24
          refine g_iload_n E dX6_complain_24 rfl 2 rfl ?_
          refine g_bipush (v := 6) E dX6_complain_25 (by decide) ?_
          refine g_icmp_ge (tgt := 43) E dX6_complain_27 (by decide) (fun c_27 => ?_) (fun c_27 => ?_)
          · have e_a : a = 6 := Nat.le_antisymm h1_24 (nI_ge_nat (b := 6) (by omega) (by omega) c_27)
            rw [e_a]
            show G C (mW (xy C) ma (mG0 (muI s 0 0) 6)) 0 0 43 [(0, .ref (ma 0)), (1, .int (nI ll)), (2, .int (nI 6))] []
            refine g_aload_n E dX6_complain_43 rfl 0 rfl ?_
            refine k_invV (n := 0) (rest := []) E (m_X6_closed (xl C) E.tr (xD C) (xy C) e0 (s := (mG0 (muI s 0 0) 6)) hp0 hp1 hM hM1) gX6_complain_X6_closed rfl rfl rfl (by decide +kernel) ⟨Nat.le_of_ble_eq_true rfl, Nat.le_of_ble_eq_true rfl⟩ rfl rfl (Nat.le_of_ble_eq_true rfl) dX6_complain_44 ⟨Nat.le_of_ble_eq_true rfl, Nat.le_of_ble_eq_true rfl⟩ (fun v9 s9_44 h9 => ?_)
            obtain ⟨hv9, hS9⟩ := h9
            rw [hv9, hS9, show mcl (mG0 (muI s 0 0) 6) np M = mcl s np M from (mcl_mrA (by decide) (by decide)).trans mcl_muI]
            show G C (mW (xy C) ma (mG0 (muI s 0 0) 6)) 0 0 47 [(0, .ref (ma 0)), (1, .int (nI ll)), (2, .int (nI 6))] [.int ((mcl s np M))]
            refine g_istore_n (L' := [(2, .int ((mcl s np M))), (0, .ref (ma 0)), (1, .int (nI ll))]) E dX6_complain_47 rfl (by decide) rfl ?_
            refine g_iconst (v := 0) E dX6_complain_48 (by decide) ?_
            refine g_istore_n (L' := [(3, .int (0)), (2, .int ((mcl s np M))), (0, .ref (ma 0)), (1, .int (nI ll))]) E dX6_complain_49 rfl (by decide) rfl ?_
            refine g_locals [(0, .ref (ma 0)), (1, .int (nI ll)), (2, .int ((mcl s np M))), (3, .int (0))] [2, 3, 1, 0] rfl ?_
            refine g_world (congrArg (mW (xy C) ma) (mG1_0 : (mFar (mG1 (muI s 0 0) np (mcl s np M) M ll 0) (mr (muI s 0 0) 26)) = (mG0 (muI s 0 0) 6)).symm) ?_
            have loop_50 : ∀ (n_50 k : Nat) (g : Nat → Int32), k ≤ np → np < n_50 + k → G C (mW (xy C) ma (mFar (mG1 (muI s 0 0) np (mcl s np M) M ll k) g)) 0 0 50 [(0, .ref (ma 0)), (1, .int (nI ll)), (2, .int ((mcl s np M))), (3, .int (nI k))] [] := by
              intro n_50
              induction n_50 with
              | zero => intro k g g1 g2; exact absurd g2 (by omega)
              | succ n_50 ih_50 =>
                intro k g h1_50 h2_50
                refine g_iload_n E dX6_complain_50 rfl 3 rfl ?_
                refine g_aload_n E dX6_complain_51 rfl 0 rfl ?_
                refine k_get_permits (s := (mFar (mG1 (muI s 0 0) np (mcl s np M) M ll k) g)) E (fun _ h => (List.mem_cons_of_mem _ (List.mem_append_right _ h))) (List.mem_cons_of_mem _ (List.mem_append_left _ (List.mem_append_left _ (List.mem_of_getElem? (i := 1) rfl)))) dX6_complain_52 ?_
                rw [show mi (mFar (mG1 (muI s 0 0) np (mcl s np M) M ll k) g) 21 = nI np from hp0]
                show G C (mW (xy C) ma (mFar (mG1 (muI s 0 0) np (mcl s np M) M ll k) g)) 0 0 55 [(0, .ref (ma 0)), (1, .int (nI ll)), (2, .int ((mcl s np M))), (3, .int (nI k))] [.int (nI np), .int (nI k)]
                refine g_icmp_ge (tgt := 104) E dX6_complain_55 (by decide) (fun c_55 => ?_) (fun c_55 => ?_)
                · have e_k : k = np := Nat.le_antisymm h1_50 (nI_ge_nat (by omega) (by omega) c_55)
                  rw [e_k]
                  show G C (mW (xy C) ma (mFar (mG1 (muI s 0 0) np (mcl s np M) M ll np) g)) 0 0 104 [(0, .ref (ma 0)), (1, .int (nI ll)), (2, .int ((mcl s np M))), (3, .int (nI np))] []
                  refine g_iconst (v := 0) E dX6_complain_104 (by decide) ?_
                  refine g_istore_n (L' := [(3, .int (0)), (0, .ref (ma 0)), (1, .int (nI ll)), (2, .int ((mcl s np M)))]) E dX6_complain_105 rfl (by decide) rfl ?_
                  refine g_iconst (v := 0) E dX6_complain_106 (by decide) ?_
                  refine g_istore (L' := [(4, .int (0)), (3, .int (0)), (0, .ref (ma 0)), (1, .int (nI ll)), (2, .int ((mcl s np M)))]) E dX6_complain_107 (by decide) rfl ?_
                  refine g_locals [(0, .ref (ma 0)), (3, .int (0)), (4, .int (0))] [2, 1, 0] rfl ?_
                  refine g_world (congrArg (mW (xy C) ma) (mG2_0 : (mG2 (mFar (mG1 (muI s 0 0) np (mcl s np M) M ll np) g) 0) = (mFar (mG1 (muI s 0 0) np (mcl s np M) M ll np) g)).symm) ?_
                  have loop_109 : ∀ (n_109 a : Nat) , a ≤ 6 → 6 < n_109 + a → G C (mW (xy C) ma (mG2 (mFar (mG1 (muI s 0 0) np (mcl s np M) M ll np) g) a)) 0 0 109 [(0, .ref (ma 0)), (3, .int ((mGc (mFar (mG1 (muI s 0 0) np (mcl s np M) M ll np) g) a))), (4, .int (nI a))] [] := by
                    intro n_109
                    induction n_109 with
                    | zero => intro a  g1 g2; exact absurd g2 (by omega)
                    | succ n_109 ih_109 =>
                      intro a  h1_109 h2_109
                      refine g_iload E dX6_complain_109 2 rfl ?_
                      refine g_bipush (v := 6) E dX6_complain_111 (by decide) ?_
                      refine g_icmp_ge (tgt := 165) E dX6_complain_113 (by decide) (fun c_113 => ?_) (fun c_113 => ?_)
                      · have e_a : a = 6 := Nat.le_antisymm h1_109 (nI_ge_nat (b := 6) (by omega) (by omega) c_113)
                        rw [e_a]
                        show G C (mW (xy C) ma (mG2 (mFar (mG1 (muI s 0 0) np (mcl s np M) M ll np) g) 6)) 0 0 165 [(0, .ref (ma 0)), (3, .int ((mGc (mFar (mG1 (muI s 0 0) np (mcl s np M) M ll np) g) 6))), (4, .int (nI 6))] []
                        refine g_iload_n E dX6_complain_165 rfl 1 rfl ?_
                        exact g_iret E hE hr dX6_complain_166 (Nat.le_of_ble_eq_true rfl) (Nat.le_of_ble_eq_true rfl) ⟨(mG2 (mFar (mG1 (muI s 0 0) np (mcl s np M) M ll np) g) 6), rfl, Or.inl ⟨ll, hll, rfl, g, rfl, rfl⟩⟩
                      · have ha_a : a < 6 := nI_nge_nat (b := 6) (by omega) (by omega) c_113
                        refine g_iload_n E dX6_complain_116 rfl 1 rfl ?_
                        refine g_aload_n E dX6_complain_117 rfl 0 rfl ?_
                        refine k_get_gets (s := (mG2 (mFar (mG1 (muI s 0 0) np (mcl s np M) M ll np) g) a)) E (fun _ h => (List.mem_cons_of_mem _ (List.mem_append_right _ h))) (List.mem_cons_of_mem _ (List.mem_append_left _ (List.mem_append_left _ (List.mem_of_getElem? (i := 0) rfl)))) dX6_complain_118 ?_
                        refine g_iload E dX6_complain_121 2 rfl ?_
                        refine k_ald_gets (s := (mG2 (mFar (mG1 (muI s 0 0) np (mcl s np M) M ll np) g) a)) E a rfl (by omega) dX6_complain_123 ?_
                        refine g_if_eq (tgt := 131) E dX6_complain_124 (by decide) (fun c_124 => ?_) (fun c_124 => ?_)
                        · refine g_iconst (v := 0) E dX6_complain_131 (by decide) ?_
                          refine g_iadd E dX6_complain_132 ?_
                          refine g_istore_n (L' := [(3, .int (((mGc (mFar (mG1 (muI s 0 0) np (mcl s np M) M ll np) g) a) + 0))), (0, .ref (ma 0)), (4, .int (nI a))]) E dX6_complain_133 rfl (by decide) rfl ?_
                          refine g_aload_n E dX6_complain_134 rfl 1 rfl ?_
                          refine k_get_points (s := (mG2 (mFar (mG1 (muI s 0 0) np (mcl s np M) M ll np) g) a)) E (fun _ h => (List.mem_cons_of_mem _ (List.mem_append_right _ h))) (List.mem_cons_of_mem _ (List.mem_append_left _ (List.mem_append_left _ (List.mem_of_getElem? (i := 3) rfl)))) dX6_complain_135 ?_
                          refine g_iload E dX6_complain_138 2 rfl ?_
                          refine g_dup2_11 E dX6_complain_140 rfl rfl ?_
                          refine k_ald_points (s := (mG2 (mFar (mG1 (muI s 0 0) np (mcl s np M) M ll np) g) a)) E a rfl (by omega) dX6_complain_141 ?_
                          refine g_aload_n E dX6_complain_142 rfl 1 rfl ?_
                          refine k_get_gets (s := (mG2 (mFar (mG1 (muI s 0 0) np (mcl s np M) M ll np) g) a)) E (fun _ h => (List.mem_cons_of_mem _ (List.mem_append_right _ h))) (List.mem_cons_of_mem _ (List.mem_append_left _ (List.mem_append_left _ (List.mem_of_getElem? (i := 0) rfl)))) dX6_complain_143 ?_
                          refine g_iload E dX6_complain_146 2 rfl ?_
                          refine k_ald_gets (s := (mG2 (mFar (mG1 (muI s 0 0) np (mcl s np M) M ll np) g) a)) E a rfl (by omega) dX6_complain_148 ?_
                          refine g_if_eq (tgt := 156) E dX6_complain_149 (by decide) (fun c_149 => ?_) (fun c_149 => ?_)
                          · refine g_iconst (v := 0) E dX6_complain_156 (by decide) ?_
                            refine g_iadd E dX6_complain_157 ?_
                            refine k_ast_points (s := (mG2 (mFar (mG1 (muI s 0 0) np (mcl s np M) M ll np) g) a)) E a rfl (by omega) dX6_complain_158 ?_
                            refine g_iinc (v := nI (a + 1)) (L' := [(4, .int (nI (a + 1))), (3, .int (((mGc (mFar (mG1 (muI s 0 0) np (mcl s np M) M ll np) g) a) + 0))), (0, .ref (ma 0))]) E dX6_complain_159 2 rfl (nI_1 a) (by decide) rfl ?_
                            refine g_goto (tgt := 109) E dX6_complain_162 (by decide) ?_
                            refine g_locals [(0, .ref (ma 0)), (3, .int (((mGc (mFar (mG1 (muI s 0 0) np (mcl s np M) M ll np) g) a) + 0))), (4, .int (nI (a + 1)))] [2, 1, 0] rfl ?_
                            refine g_world (congrArg (mW (xy C) ma) (mG2_s (if_pos c_124) : (mG2 (mFar (mG1 (muI s 0 0) np (mcl s np M) M ll np) g) (a + 1)) = (muR (mG2 (mFar (mG1 (muI s 0 0) np (mcl s np M) M ll np) g) a) 25 a ((mr (mG2 (mFar (mG1 (muI s 0 0) np (mcl s np M) M ll np) g) a) 25 a + 0)))).symm) ?_
                            refine g_L (L' := [(0, .ref (ma 0)), (3, .int ((mGc (mFar (mG1 (muI s 0 0) np (mcl s np M) M ll np) g) (a + 1)))), (4, .int (nI (a + 1)))]) (by rw [show mGc (mFar (mG1 (muI s 0 0) np (mcl s np M) M ll np) g) (a + 1) = mGc (mFar (mG1 (muI s 0 0) np (mcl s np M) M ll np) g) a + 0 from congrArg (fun z => mGc (mFar (mG1 (muI s 0 0) np (mcl s np M) M ll np) g) a + z) (if_pos c_124)]) (ih_109 (a + 1)   (by omega) (by omega))
                          · exact absurd c_124 c_149
                        · refine g_iconst (v := 1) E dX6_complain_127 (by decide) ?_
                          refine g_goto (tgt := 132) E dX6_complain_128 (by decide) ?_
                          refine g_iadd E dX6_complain_132 ?_
                          refine g_istore_n (L' := [(3, .int (((mGc (mFar (mG1 (muI s 0 0) np (mcl s np M) M ll np) g) a) + 1))), (0, .ref (ma 0)), (4, .int (nI a))]) E dX6_complain_133 rfl (by decide) rfl ?_
                          refine g_aload_n E dX6_complain_134 rfl 1 rfl ?_
                          refine k_get_points (s := (mG2 (mFar (mG1 (muI s 0 0) np (mcl s np M) M ll np) g) a)) E (fun _ h => (List.mem_cons_of_mem _ (List.mem_append_right _ h))) (List.mem_cons_of_mem _ (List.mem_append_left _ (List.mem_append_left _ (List.mem_of_getElem? (i := 3) rfl)))) dX6_complain_135 ?_
                          refine g_iload E dX6_complain_138 2 rfl ?_
                          refine g_dup2_11 E dX6_complain_140 rfl rfl ?_
                          refine k_ald_points (s := (mG2 (mFar (mG1 (muI s 0 0) np (mcl s np M) M ll np) g) a)) E a rfl (by omega) dX6_complain_141 ?_
                          refine g_aload_n E dX6_complain_142 rfl 1 rfl ?_
                          refine k_get_gets (s := (mG2 (mFar (mG1 (muI s 0 0) np (mcl s np M) M ll np) g) a)) E (fun _ h => (List.mem_cons_of_mem _ (List.mem_append_right _ h))) (List.mem_cons_of_mem _ (List.mem_append_left _ (List.mem_append_left _ (List.mem_of_getElem? (i := 0) rfl)))) dX6_complain_143 ?_
                          refine g_iload E dX6_complain_146 2 rfl ?_
                          refine k_ald_gets (s := (mG2 (mFar (mG1 (muI s 0 0) np (mcl s np M) M ll np) g) a)) E a rfl (by omega) dX6_complain_148 ?_
                          refine g_if_eq (tgt := 156) E dX6_complain_149 (by decide) (fun c_149 => ?_) (fun c_149 => ?_)
                          · exact absurd c_149 c_124
                          · refine g_iconst (v := 1) E dX6_complain_152 (by decide) ?_
                            refine g_goto (tgt := 157) E dX6_complain_153 (by decide) ?_
                            refine g_iadd E dX6_complain_157 ?_
                            refine k_ast_points (s := (mG2 (mFar (mG1 (muI s 0 0) np (mcl s np M) M ll np) g) a)) E a rfl (by omega) dX6_complain_158 ?_
                            refine g_iinc (v := nI (a + 1)) (L' := [(4, .int (nI (a + 1))), (3, .int (((mGc (mFar (mG1 (muI s 0 0) np (mcl s np M) M ll np) g) a) + 1))), (0, .ref (ma 0))]) E dX6_complain_159 2 rfl (nI_1 a) (by decide) rfl ?_
                            refine g_goto (tgt := 109) E dX6_complain_162 (by decide) ?_
                            refine g_locals [(0, .ref (ma 0)), (3, .int (((mGc (mFar (mG1 (muI s 0 0) np (mcl s np M) M ll np) g) a) + 1))), (4, .int (nI (a + 1)))] [2, 1, 0] rfl ?_
                            refine g_world (congrArg (mW (xy C) ma) (mG2_s (if_neg c_124) : (mG2 (mFar (mG1 (muI s 0 0) np (mcl s np M) M ll np) g) (a + 1)) = (muR (mG2 (mFar (mG1 (muI s 0 0) np (mcl s np M) M ll np) g) a) 25 a ((mr (mG2 (mFar (mG1 (muI s 0 0) np (mcl s np M) M ll np) g) a) 25 a + 1)))).symm) ?_
                            refine g_L (L' := [(0, .ref (ma 0)), (3, .int ((mGc (mFar (mG1 (muI s 0 0) np (mcl s np M) M ll np) g) (a + 1)))), (4, .int (nI (a + 1)))]) (by rw [show mGc (mFar (mG1 (muI s 0 0) np (mcl s np M) M ll np) g) (a + 1) = mGc (mFar (mG1 (muI s 0 0) np (mcl s np M) M ll np) g) a + 1 from congrArg (fun z => mGc (mFar (mG1 (muI s 0 0) np (mcl s np M) M ll np) g) a + z) (if_neg c_124)]) (ih_109 (a + 1)   (by omega) (by omega))
                  exact loop_109 (6 + 1) 0   (by omega) (by omega)
                · have hk_k : k < np := nI_nge_nat (by omega) (by omega) c_55
                  have h_a := hap k hk_k
                  refine g_aload_n E dX6_complain_58 rfl 0 rfl ?_
                  refine k_get_gets (s := (mFar (mG1 (muI s 0 0) np (mcl s np M) M ll k) g)) E (fun _ h => (List.mem_cons_of_mem _ (List.mem_append_right _ h))) (List.mem_cons_of_mem _ (List.mem_append_left _ (List.mem_append_left _ (List.mem_of_getElem? (i := 0) rfl)))) dX6_complain_59 ?_
                  refine g_aload_n E dX6_complain_62 rfl 0 rfl ?_
                  refine k_get_applicant (s := (mFar (mG1 (muI s 0 0) np (mcl s np M) M ll k) g)) E (fun _ h => (List.mem_cons_of_mem _ (List.mem_append_right _ h))) (List.mem_cons_of_mem _ (List.mem_append_left _ (List.mem_append_left _ (List.mem_of_getElem? (i := 2) rfl)))) dX6_complain_63 ?_
                  refine g_iload_n E dX6_complain_66 rfl 3 rfl ?_
                  refine k_ald_applicant (s := (mFar (mG1 (muI s 0 0) np (mcl s np M) M ll k) g)) E k rfl (by omega) dX6_complain_67 ?_
                  refine g_aload_n E dX6_complain_68 rfl 0 rfl ?_
                  refine k_get_gets (s := (mFar (mG1 (muI s 0 0) np (mcl s np M) M ll k) g)) E (fun _ h => (List.mem_cons_of_mem _ (List.mem_append_right _ h))) (List.mem_cons_of_mem _ (List.mem_append_left _ (List.mem_append_left _ (List.mem_of_getElem? (i := 0) rfl)))) dX6_complain_69 ?_
                  refine g_aload_n E dX6_complain_72 rfl 0 rfl ?_
                  refine k_get_applicant (s := (mFar (mG1 (muI s 0 0) np (mcl s np M) M ll k) g)) E (fun _ h => (List.mem_cons_of_mem _ (List.mem_append_right _ h))) (List.mem_cons_of_mem _ (List.mem_append_left _ (List.mem_append_left _ (List.mem_of_getElem? (i := 2) rfl)))) dX6_complain_73 ?_
                  refine g_iload_n E dX6_complain_76 rfl 3 rfl ?_
                  refine k_ald_applicant (s := (mFar (mG1 (muI s 0 0) np (mcl s np M) M ll k) g)) E k rfl (by omega) dX6_complain_77 ?_
                  refine k_ald_gets (s := (mFar (mG1 (muI s 0 0) np (mcl s np M) M ll k) g)) E ((tn (mr s 11 k))) h_a.1 h_a.2 dX6_complain_78 ?_
                  rw [show mr (mFar (mG1 (muI s 0 0) np (mcl s np M) M ll k) g) 29 (tn (mr s 11 k)) = (mGt (muI s 0 0) np (mcl s np M) M ll k (tn (mr s 11 k))) from congrFun mG1_at _]
                  show G C (mW (xy C) ma (mFar (mG1 (muI s 0 0) np (mcl s np M) M ll k) g)) 0 0 79 [(0, .ref (ma 0)), (1, .int (nI ll)), (2, .int ((mcl s np M))), (3, .int (nI k))] [.int ((mGt (muI s 0 0) np (mcl s np M) M ll k (tn (mr s 11 k)))), .int (mr (mFar (mG1 (muI s 0 0) np (mcl s np M) M ll k) g) 11 k), .ref (ma 29)]
                  refine g_if_ne (tgt := 92) E dX6_complain_79 (by decide) (fun c_79 => ?_) (fun c_79 => ?_)
                  · refine g_iconst (v := 1) E dX6_complain_92 (by decide) ?_
                    refine g_goto (tgt := 97) E dX6_complain_93 (by decide) ?_
                    refine k_ast_gets (s := (mFar (mG1 (muI s 0 0) np (mcl s np M) M ll k) g)) E (by decide) ((tn (mr s 11 k))) h_a.1 h_a.2 dX6_complain_97 ?_
                    refine g_iinc (v := nI (k + 1)) (L' := [(3, .int (nI (k + 1))), (0, .ref (ma 0)), (1, .int (nI ll)), (2, .int ((mcl s np M)))]) E dX6_complain_98 3 rfl (nI_1 k) (by decide) rfl ?_
                    refine g_goto (tgt := 50) E dX6_complain_101 (by decide) ?_
                    refine g_locals [(0, .ref (ma 0)), (1, .int (nI ll)), (2, .int ((mcl s np M))), (3, .int (nI (k + 1)))] [1, 2, 3, 0] rfl ?_
                    refine g_world (congrArg (mW (xy C) ma) (mG1_s rfl h_a.2 (cIf_t (Or.inl ((mGt_01 h_a.2).elim (fun q => absurd q c_79) id))).symm : (mFar (mG1 (muI s 0 0) np (mcl s np M) M ll (k + 1)) g) = (muR (mFar (mG1 (muI s 0 0) np (mcl s np M) M ll k) g) 29 ((tn (mr s 11 k))) (1))).symm) ?_
                    refine g_L (L' := [(0, .ref (ma 0)), (1, .int (nI ll)), (2, .int ((mcl s np M))), (3, .int (nI (k + 1)))]) (by rfl) (ih_50 (k + 1) (g)  (by omega) (by omega))
                  · refine g_aload_n E dX6_complain_82 rfl 0 rfl ?_
                    refine g_iload_n E dX6_complain_83 rfl 3 rfl ?_
                    refine g_iload_n E dX6_complain_84 rfl 1 rfl ?_
                    refine g_iload_n E dX6_complain_85 rfl 2 rfl ?_
                    obtain ⟨n, hn6, hst, hsp⟩ := hLI ll hll
                    refine k_invV (n := 3) (rest := [.int (mr (mFar (mG1 (muI s 0 0) np (mcl s np M) M ll k) g) 11 k), .ref (ma 29)]) E (m_X6_cost (xl C) E.tr (xD C) (xy C) e0 (s := (mFar (mG1 (muI s 0 0) np (mcl s np M) M ll k) g)) (cl := (mcl s np M)) hp0 hp1 hM hM1 (show MLN (mFar (mG1 (muI s 0 0) np (mcl s np M) M ll k) g) M from hln) (by omega) (show mr (mFar (mG1 (muI s 0 0) np (mcl s np M) M ll k) g) 8 ll = nI (n + 1) from hst) hn6 (show MSP (mFar (mG1 (muI s 0 0) np (mcl s np M) M ll k) g) ll (n + 1) from hsp) (k := k) (by omega)) gX6_complain_X6_cost rfl rfl rfl (by decide +kernel) ⟨Nat.le_of_ble_eq_true rfl, Nat.le_of_ble_eq_true rfl⟩ rfl rfl (Nat.le_of_ble_eq_true rfl) dX6_complain_86 ⟨Nat.le_of_ble_eq_true rfl, Nat.le_of_ble_eq_true rfl⟩ (fun v9 s9_86 h9 => ?_)
                    obtain ⟨hv9, g2, hS9⟩ := h9
                    rw [hv9, hS9, mFar_mFar, show mcost (mFar (mG1 (muI s 0 0) np (mcl s np M) M ll k) g) np (mcl s np M) M ll n k = mcL (muI s 0 0) np (mcl s np M) M ll k from mcL_of hst hn6]
                    show G C (mW (xy C) ma (mFar (mG1 (muI s 0 0) np (mcl s np M) M ll k) g2)) 0 0 89 [(0, .ref (ma 0)), (1, .int (nI ll)), (2, .int ((mcl s np M))), (3, .int (nI k))] [.int ((mcL (muI s 0 0) np (mcl s np M) M ll k)), .int (mr (mFar (mG1 (muI s 0 0) np (mcl s np M) M ll k) g) 11 k), .ref (ma 29)]
                    refine g_if_le (tgt := 96) E dX6_complain_89 (by decide) (fun c_89 => ?_) (fun c_89 => ?_)
                    · refine g_iconst (v := 0) E dX6_complain_96 (by decide) ?_
                      refine k_ast_gets (s := (mFar (mG1 (muI s 0 0) np (mcl s np M) M ll k) g2)) E (by decide) ((tn (mr s 11 k))) h_a.1 h_a.2 dX6_complain_97 ?_
                      refine g_iinc (v := nI (k + 1)) (L' := [(3, .int (nI (k + 1))), (0, .ref (ma 0)), (1, .int (nI ll)), (2, .int ((mcl s np M)))]) E dX6_complain_98 3 rfl (nI_1 k) (by decide) rfl ?_
                      refine g_goto (tgt := 50) E dX6_complain_101 (by decide) ?_
                      refine g_locals [(0, .ref (ma 0)), (1, .int (nI ll)), (2, .int ((mcl s np M))), (3, .int (nI (k + 1)))] [1, 2, 3, 0] rfl ?_
                      refine g_world (congrArg (mW (xy C) ma) (mG1_s rfl h_a.2 (cIf_f (fun q => q.elim (fun q => absurd (c_79.symm.trans q) (by decide)) (fun q => Int32.not_lt.mpr c_89 q))).symm : (mFar (mG1 (muI s 0 0) np (mcl s np M) M ll (k + 1)) g2) = (muR (mFar (mG1 (muI s 0 0) np (mcl s np M) M ll k) g2) 29 ((tn (mr s 11 k))) (0))).symm) ?_
                      refine g_L (L' := [(0, .ref (ma 0)), (1, .int (nI ll)), (2, .int ((mcl s np M))), (3, .int (nI (k + 1)))]) (by rfl) (ih_50 (k + 1) (g2)  (by omega) (by omega))
                    · refine g_iconst (v := 1) E dX6_complain_92 (by decide) ?_
                      refine g_goto (tgt := 97) E dX6_complain_93 (by decide) ?_
                      refine k_ast_gets (s := (mFar (mG1 (muI s 0 0) np (mcl s np M) M ll k) g2)) E (by decide) ((tn (mr s 11 k))) h_a.1 h_a.2 dX6_complain_97 ?_
                      refine g_iinc (v := nI (k + 1)) (L' := [(3, .int (nI (k + 1))), (0, .ref (ma 0)), (1, .int (nI ll)), (2, .int ((mcl s np M)))]) E dX6_complain_98 3 rfl (nI_1 k) (by decide) rfl ?_
                      refine g_goto (tgt := 50) E dX6_complain_101 (by decide) ?_
                      refine g_locals [(0, .ref (ma 0)), (1, .int (nI ll)), (2, .int ((mcl s np M))), (3, .int (nI (k + 1)))] [1, 2, 3, 0] rfl ?_
                      refine g_world (congrArg (mW (xy C) ma) (mG1_s rfl h_a.2 (cIf_t (Or.inr (Int32.not_le.mp c_89))).symm : (mFar (mG1 (muI s 0 0) np (mcl s np M) M ll (k + 1)) g2) = (muR (mFar (mG1 (muI s 0 0) np (mcl s np M) M ll k) g2) 29 ((tn (mr s 11 k))) (1))).symm) ?_
                      refine g_L (L' := [(0, .ref (ma 0)), (1, .int (nI ll)), (2, .int ((mcl s np M))), (3, .int (nI (k + 1)))]) (by rfl) (ih_50 (k + 1) (g2)  (by omega) (by omega))
            exact loop_50 (np + 1) 0 ((mr (muI s 0 0) 26))  (by omega) (by omega)
          · have ha_a : a < 6 := nI_nge_nat (b := 6) (by omega) (by omega) c_27
            refine g_aload_n E dX6_complain_30 rfl 0 rfl ?_
            refine k_get_gets (s := (mG0 (muI s 0 0) a)) E (fun _ h => (List.mem_cons_of_mem _ (List.mem_append_right _ h))) (List.mem_cons_of_mem _ (List.mem_append_left _ (List.mem_append_left _ (List.mem_of_getElem? (i := 0) rfl)))) dX6_complain_31 ?_
            refine g_iload_n E dX6_complain_34 rfl 2 rfl ?_
            refine g_iconst (v := 0) E dX6_complain_35 (by decide) ?_
            refine k_ast_gets (s := (mG0 (muI s 0 0) a)) E (Or.inl rfl) a rfl (by omega) dX6_complain_36 ?_
            refine g_iinc (v := nI (a + 1)) (L' := [(2, .int (nI (a + 1))), (0, .ref (ma 0)), (1, .int (nI ll))]) E dX6_complain_37 2 rfl (nI_1 a) (by decide) rfl ?_
            refine g_goto (tgt := 24) E dX6_complain_40 (by decide) ?_
            refine g_locals [(0, .ref (ma 0)), (1, .int (nI ll)), (2, .int (nI (a + 1)))] [1, 2, 0] rfl ?_
            refine g_world (congrArg (mW (xy C) ma) (mG0_s : (mG0 (muI s 0 0) (a + 1)) = (muR (mG0 (muI s 0 0) a) 29 a (0))).symm) ?_
            refine g_L (L' := [(0, .ref (ma 0)), (1, .int (nI ll)), (2, .int (nI (a + 1)))]) (by rfl) (ih_24 (a + 1)   (by omega) (by omega))
      exact loop_24 (6 + 1) 0   (by omega) (by omega)
    · exact absurd c_17 (by decide)
