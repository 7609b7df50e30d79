/-! a new thing beside the old ones -/
theorem nw_mem {S : wS} {q k n a : Nat} (h : a ∈ sL S) : a ∈ sL (nw S q k n) := List.mem_append_left _ h
theorem nw_own {S : wS} {q k n : Nat} : q ∈ sL (nw S q k n) := List.mem_append_right _ (List.mem_singleton.mpr rfl)
theorem nw_K {S : wS} {q k n a : Nat} (h : a ≠ q) : sK (nw S q k n) a = sK S a := va_up_ne _ _ h
theorem nw_N {S : wS} {q k n a : Nat} (h : a ≠ q) : sN (nw S q k n) a = sN S a := va_up_ne _ _ h
theorem nw_Q {S : wS} {q k n a : Nat} (h : a ≠ q) : sQ (nw S q k n) a = sQ S a := va_up_ne _ _ h
theorem nw_R {S : wS} {q k n a : Nat} (h : a ≠ q) : sR (nw S q k n) a = sR S a := va_up_ne _ _ h
theorem nw_I {S : wS} {q k n a f : Nat} (h : a ≠ q) : sI (nw S q k n) f a = sI S f a := if_neg h
theorem nw_J {S : wS} {q k n a f : Nat} (h : a ≠ q) : sJ (nw S q k n) f a = sJ S f a := if_neg h
theorem nw_P {S : wS} {q k n a f : Nat} (h : a ≠ q) : sP (nw S q k n) f a = sP S f a := if_neg h
theorem nw_Ko {S : wS} {q k n : Nat} : sK (nw S q k n) q = k := va_up_self _ _ _
theorem nw_No {S : wS} {q k n : Nat} : sN (nw S q k n) q = n := va_up_self _ _ _
theorem nw_Qo {S : wS} {q k n : Nat} : sQ (nw S q k n) q = fun _ => none := va_up_self _ _ _
theorem nw_Ro {S : wS} {q k n : Nat} : sR (nw S q k n) q = fun _ => 0 := va_up_self _ _ _
theorem nw_Io {S : wS} {q k n f : Nat} : sI (nw S q k n) f q = 0 := if_pos rfl
theorem nw_Jo {S : wS} {q k n f : Nat} : sJ (nw S q k n) f q = 0 := if_pos rfl
theorem nw_Po {S : wS} {q k n f : Nat} : sP (nw S q k n) f q = none := if_pos rfl
theorem ne_of_new {S : wS} {q a : Nat} (h : a ∈ sL S) (hq : q ∉ sL S) : a ≠ q := fun e => hq (e ▸ h)
theorem mnI_nn {a b : Nat} (h : a ≤ b) (hb : b < 2 ^ 31) : mnI (nI a) (nI b) = nI a := if_neg (fun q => absurd ((nI_ltI hb (by omega)).mp q) (by omega))
theorem mxI_nn {a b : Nat} (h : b ≤ a) (ha : a < 2 ^ 31) : mxI (nI a) (nI b) = nI a := if_neg (fun q => absurd ((nI_ltI ha (by omega)).mp q) (by omega))
theorem mxI_nn2 {a b : Nat} (h : a ≤ b) (hb : b < 2 ^ 31) : mxI (nI a) (nI b) = nI b := by
  rcases Nat.lt_or_ge a b with q | q
  · exact if_pos ((nI_ltI (by omega) hb).mpr q)
  · rw [show a = b by omega]; exact mxI_nn (Nat.le_refl b) hb
/-- the array at a with N places, copied -/
def grw (S : wS) (a q N : Nat) : wS := uQr (nw S q 8 N) q (va_cpy (sQ S a) (fun _ => none) 0 0 (sN S a))
abbrev rm_J7_copyOf_6403c : Room := { frames := 2, cells := 1, slots := 1000, locals := 200 }
set_option maxHeartbeats 4000000 in
set_option maxRecDepth 100000 in
theorem m_J7_copyOf_6403c (l : Launch) (hl : l.stackTraces = false) (D : va_G) (cy : Nat → ClassId) (e0 : Nat) {S : wS}  {a N : Nat} (ha : a ∈ sL S) (hK : sK S a = 8) (hNn : sN S a ≤ N) (hN : N ≤ 1000) {ci : Nat} {qc : vw_C} (hqc : vwCl[ci]? = some qc) (hca : Cond.castable qc.1 "java/lang/Object" ∈ lw_tbl) (hel : ∀ k, k < sN S a → ∀ y, sQ S a k = some y → y ∈ sL S ∧ ∃ fs, wF cy S y = .inr (ci, fs)) : cMet l yJ7_copyOf_6403c wsJ7_copyOf_6403c rm_J7_copyOf_6403c D cy e0 [.ref (a), .int (nI N), .ref (cy 9)] S (fun v S' => ∃ q, q ∉ sL S ∧ v = some (.ref q) ∧ S' = grw S a q N) (fun _ _ => False) 1 1000 := by
  refine gMet.of (cc := cJ7_copyOf_6403c) (maxL := 4) (ret := (some (.array (.object "java/lang/Object")))) hl (by decide) rfl (Nat.le_of_ble_eq_true rfl) ?_
  intro C E h1 h2 h3 hr hnm hT hE
  subst h1; subst h2; subst h3
  have E : gOk C cJ7_copyOf_6403c 4 wsJ7_copyOf_6403c RJ7 e0 rm_J7_copyOf_6403c := E
  show G C (cW (xy C) S) 0 0 0 [(0, .ref (a)), (1, .int (nI N)), (2, .ref ((xy C) 9))] []
  refine g_aload_n E dJ7_copyOf_6403c_0 rfl 2 rfl ?_
  refine g_ldcM E (List.mem_cons_of_mem _ (List.mem_of_getElem? (i := 0) rfl)) dJ7_copyOf_6403c_1 ?_
  refine g_acmp_ne (rx := (some ((xy C) 9))) (ry := (some (xy C 9))) (hvx := rfl) (hvy := rfl) (tgt := 13) E dJ7_copyOf_6403c_3 (by decide) (fun c_3 => ?_) (fun c_3 => ?_)
  · exact absurd rfl c_3
  · refine g_iload_n E dJ7_copyOf_6403c_6 rfl 1 rfl ?_
    refine p_anewO (S := S) E (List.mem_cons_of_mem _ (List.mem_of_getElem? (i := 1) rfl)) N rfl hN (Nat.le_of_ble_eq_true rfl) (by show _ ≤ _; simp only [Nat.zero_add]; omega) dJ7_copyOf_6403c_7 (fun q hq => ?_)
    have haq := ne_of_new ha hq
    refine g_goto (tgt := 24) E dJ7_copyOf_6403c_10 (by decide) ?_
    refine g_astore_n (L' := [(3, .ref (q)), (0, .ref (a)), (1, .int (nI N)), (2, .ref ((xy C) 9))]) E dJ7_copyOf_6403c_24 rfl (by decide) rfl ?_
    refine g_aload_n E dJ7_copyOf_6403c_25 rfl 1 rfl ?_
    refine g_iconst (v := 0) E dJ7_copyOf_6403c_26 (by decide) ?_
    refine g_aload_n E dJ7_copyOf_6403c_27 rfl 0 rfl ?_
    refine g_iconst (v := 0) E dJ7_copyOf_6403c_28 (by decide) ?_
    refine g_aload_n E dJ7_copyOf_6403c_29 rfl 1 rfl ?_
    refine p_alen (S := (nw S q 8 N)) E (nw_mem ha) (Or.inr ((nw_K haq).trans hK)) rfl dJ7_copyOf_6403c_30 ?_
    rw [nw_N haq]
    show G C (cW (xy C) (nw S q 8 N)) 1 (0 + N) 31 [(3, .ref (q)), (0, .ref (a)), (1, .int (nI N)), (2, .ref ((xy C) 9))] [.int (nI (sN S a)), .int (0), .ref (q), .int (0), .ref (a)]
    refine g_iload_n E dJ7_copyOf_6403c_31 rfl 2 rfl ?_
    refine g_mmin (rest := [.int (0), .ref (q), .int (0), .ref (a)]) E (List.mem_cons_of_mem _ (List.mem_of_getElem? (i := 2) rfl)) (List.mem_cons_of_mem _ (List.mem_of_getElem? (i := 3) rfl)) (List.mem_cons_of_mem _ (List.mem_of_getElem? (i := 4) rfl)) (List.mem_cons_of_mem _ (List.mem_of_getElem? (i := 5) rfl)) dJ7_copyOf_6403c_32 (Nat.le_of_ble_eq_true rfl) (Nat.le_of_ble_eq_true rfl) (Nat.le_of_ble_eq_true rfl) (by show (0 + N) ≤ 1000; omega) ?_
    rw [mnI_nn (by exact hNn) (by omega)]
    refine p_copy (S := nw S q 8 N) (a := a) (b := q) E (nw_mem ha) ((nw_K haq).trans hK) nw_own nw_Ko (List.mem_cons_of_mem _ (List.mem_of_getElem? (i := 6) rfl)) (List.mem_cons_of_mem _ (List.mem_of_getElem? (i := 7) rfl)) (List.mem_cons_of_mem _ (List.mem_of_getElem? (i := 8) rfl)) (List.mem_cons_of_mem _ (List.mem_of_getElem? (i := 9) rfl)) hqc hca (sN S a) rfl (by omega) (by rw [nw_N haq]; exact Nat.le_refl _) (by rw [nw_No]; exact hNn) (fun k hk y hy => ?_) (Nat.le_of_ble_eq_true rfl) (by decide) dJ7_copyOf_6403c_35 ?_
    · rw [nw_Q haq] at hy
      obtain ⟨e1, fs, e2⟩ := hel k hk y hy
      exact ⟨nw_mem e1, fs, (wF_nw y (ne_of_new e1 hq)).trans e2⟩
    rw [nw_Q haq, nw_Qo]
    show G C (cW (xy C) (grw S a q N)) 1 (0 + N) 38 [(3, .ref (q)), (0, .ref (a)), (1, .int (nI N)), (2, .ref ((xy C) 9))] []
    refine g_aload_n E dJ7_copyOf_6403c_38 rfl 0 rfl ?_
    exact g_aret E hE hr (Or.inr ⟨_, rfl⟩) (Or.inr ⟨_, rfl⟩) dJ7_copyOf_6403c_39 (Nat.le_of_ble_eq_true rfl) (by show 0 + N ≤ 1000; omega) ⟨_, rfl, q, hq, rfl, rfl⟩
abbrev rm_J7_copyOf_1904c : Room := { frames := 3, cells := 1, slots := 1000, locals := 223 }
set_option maxHeartbeats 4000000 in
set_option maxRecDepth 100000 in
theorem m_J7_copyOf_1904c (l : Launch) (hl : l.stackTraces = false) (D : va_G) (cy : Nat → ClassId) (e0 : Nat) {S : wS}  {a N : Nat} (ha : a ∈ sL S) (hK : sK S a = 8) (hNn : sN S a ≤ N) (hN : N ≤ 1000) {ci : Nat} {qc : vw_C} (hqc : vwCl[ci]? = some qc) (hca : Cond.castable qc.1 "java/lang/Object" ∈ lw_tbl) (hel : ∀ k, k < sN S a → ∀ y, sQ S a k = some y → y ∈ sL S ∧ ∃ fs, wF cy S y = .inr (ci, fs)) : cMet l yJ7_copyOf_1904c wsJ7_copyOf_1904c rm_J7_copyOf_1904c D cy e0 [.ref (a), .int (nI N)] S (fun v S' => ∃ q, q ∉ sL S ∧ v = some (.ref q) ∧ S' = grw S a q N) (fun _ _ => False) 1 1000 := by
  refine gMet.of (cc := cJ7_copyOf_1904c) (maxL := 2) (ret := (some (.array (.object "java/lang/Object")))) hl (by decide) rfl (Nat.le_of_ble_eq_true rfl) ?_
  intro C E h1 h2 h3 hr hnm hT hE
  subst h1; subst h2; subst h3
  have E : gOk C cJ7_copyOf_1904c 2 wsJ7_copyOf_1904c RJ7 e0 rm_J7_copyOf_1904c := E
  show G C (cW (xy C) S) 0 0 0 [(0, .ref (a)), (1, .int (nI N))] []
  refine g_aload_n E dJ7_copyOf_1904c_0 rfl 0 rfl ?_
  refine g_iload_n E dJ7_copyOf_1904c_1 rfl 1 rfl ?_
  refine g_aload_n E dJ7_copyOf_1904c_2 rfl 0 rfl ?_
  refine p_getC (S := S) E ha hK (List.mem_cons_of_mem _ (List.mem_of_getElem? (i := 0) rfl)) (List.mem_cons_of_mem _ (List.mem_of_getElem? (i := 1) rfl)) (List.mem_cons_of_mem _ (List.mem_of_getElem? (i := 2) rfl)) (List.mem_cons_of_mem _ (List.mem_of_getElem? (i := 3) rfl)) (Nat.le_of_ble_eq_true rfl) (Nat.le_of_ble_eq_true rfl) dJ7_copyOf_1904c_3 ?_
  refine c_invS (n := 3) (rest := []) E (m_J7_copyOf_6403c (xl C) E.tr (xD C) (xy C) e0 ha hK hNn hN hqc hca hel) gJ7_copyOf_1904c_J7_copyOf_6403c rfl rfl rfl (by decide +kernel) ⟨Nat.le_of_ble_eq_true rfl, Nat.le_of_ble_eq_true rfl⟩ rfl rfl (Nat.le_of_ble_eq_true rfl) dJ7_copyOf_1904c_6 ⟨Nat.le_of_ble_eq_true rfl, Nat.le_of_ble_eq_true rfl⟩ (fun _ _ h9 => h9.elim) (fun v9 S9_6 h9 => ?_)
  obtain ⟨q, hq, hv9, hS9⟩ := h9
  rw [hv9, hS9]
  show G C (cW (xy C) (grw S a q N)) 1 1000 9 [(0, .ref (a)), (1, .int (nI N))] [.ref (q)]
  exact g_aret E hE hr (by first | exact Or.inl ⟨_, rfl⟩ | exact Or.inr ⟨_, rfl⟩) (by first | exact Or.inl rfl | exact Or.inr ⟨_, rfl⟩) dJ7_copyOf_1904c_9 (Nat.le_of_ble_eq_true rfl) (Nat.le_of_ble_eq_true rfl) ⟨(grw S a q N), rfl, q, hq, rfl, rfl⟩
abbrev rm_J8_newLength_cabcc : Room := { frames := 1, cells := 0, slots := 0, locals := 24 }
set_option maxHeartbeats 4000000 in
set_option maxRecDepth 100000 in
theorem m_J8_newLength_cabcc (l : Launch) (hl : l.stackTraces = false) (D : va_G) (cy : Nat → ClassId) (e0 : Nat) {S : wS}  {n : Nat} (h0 : 10 ≤ n) (h1 : n ≤ 100) : cMet l yJ8_newLength_cabcc wsJ8_newLength_cabcc rm_J8_newLength_cabcc D cy e0 [.int (nI n), .int (1), .int (nI (n / 2))] S (fun v S' => v = some (.int (nI (n + n / 2))) ∧ S' = S) (fun _ _ => False) 0 0 := by
  refine gMet.of (cc := cJ8_newLength_cabcc) (maxL := 4) (ret := (some .int)) hl (by decide) rfl (Nat.le_of_ble_eq_true rfl) ?_
  intro C E h1 h2 h3 hr hnm hT hE
  subst h1; subst h2; subst h3
  have E : gOk C cJ8_newLength_cabcc 4 wsJ8_newLength_cabcc RJ8 e0 rm_J8_newLength_cabcc := E
  show G C (cW (xy C) S) 0 0 0 [(0, .int (nI n)), (1, .int (1)), (2, .int (nI (n / 2)))] []
  refine g_iload_n E dJ8_newLength_cabcc_0 rfl 0 rfl ?_
  refine g_iload_n E dJ8_newLength_cabcc_1 rfl 1 rfl ?_
  refine g_iload_n E dJ8_newLength_cabcc_2 rfl 2 rfl ?_
  refine g_mmax (rest := [.int (nI n)]) E (List.mem_cons_of_mem _ (List.mem_of_getElem? (i := 0) rfl)) (List.mem_cons_of_mem _ (List.mem_of_getElem? (i := 1) rfl)) (List.mem_cons_of_mem _ (List.mem_of_getElem? (i := 2) rfl)) (List.mem_cons_of_mem _ (List.mem_of_getElem? (i := 3) rfl)) dJ8_newLength_cabcc_3 (Nat.le_of_ble_eq_true rfl) (Nat.le_of_ble_eq_true rfl) (Nat.le_of_ble_eq_true rfl) (Nat.le_of_ble_eq_true rfl) ?_
  rw [show mxI (1 : Int32) (nI (n / 2)) = nI (n / 2) from mxI_nn2 (a := 1) (by omega) (by omega)]
  show G C (cW (xy C) S) 0 0 6 [(0, .int (nI n)), (1, .int (1)), (2, .int (nI (n / 2)))] [.int (nI (n / 2)), .int (nI n)]
  refine g_iadd E dJ8_newLength_cabcc_6 ?_
  rw [nI_add]
  show G C (cW (xy C) S) 0 0 7 [(0, .int (nI n)), (1, .int (1)), (2, .int (nI (n / 2)))] [.int (nI (n + n / 2))]
  refine g_istore_n (L' := [(3, .int (nI (n + n / 2))), (0, .int (nI n)), (1, .int (1)), (2, .int (nI (n / 2)))]) E dJ8_newLength_cabcc_7 rfl (by decide) rfl ?_
  refine g_iconst (v := 0) E dJ8_newLength_cabcc_8 (by decide) ?_
  refine g_iload_n E dJ8_newLength_cabcc_9 rfl 0 rfl ?_
  refine g_icmp_ge (tgt := 21) E dJ8_newLength_cabcc_10 (by decide) (fun c_10 => ?_) (fun c_10 => ?_)
  · exact absurd c_10 (nI_nle (by omega) (by omega))
  · refine g_iload_n E dJ8_newLength_cabcc_13 rfl 0 rfl ?_
    refine g_ldc E (List.mem_cons_of_mem _ (List.mem_of_getElem? (i := 4) rfl)) dJ8_newLength_cabcc_14 ?_
    refine g_icmp_gt (tgt := 21) E dJ8_newLength_cabcc_16 (by decide) (fun c_16 => ?_) (fun c_16 => ?_)
    · exact absurd c_16 (nI_nlt (a := 2147483639) (by omega) (by decide))
    · refine g_iload_n E dJ8_newLength_cabcc_19 rfl 0 rfl ?_
      exact g_iret E hE hr dJ8_newLength_cabcc_20 (Nat.le_of_ble_eq_true rfl) (Nat.le_of_ble_eq_true rfl) ⟨S, rfl, rfl, rfl⟩
