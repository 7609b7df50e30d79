/-! folds -/
def cntI (P : Nat → Prop) [DecidablePred P] : Nat → Int32
  | 0 => 0
  | n + 1 => if P n then cntI P n + 1 else cntI P n
theorem cntI_t {P : Nat → Prop} [DecidablePred P] {n : Nat} (h : P n) : cntI P (n + 1) = cntI P n + 1 := if_pos h
theorem cntI_f {P : Nat → Prop} [DecidablePred P] {n : Nat} (h : ¬ P n) : cntI P (n + 1) = cntI P n := if_neg h
def orM (P : Nat → Prop) [DecidablePred P] (ln : Nat → Int32) : Nat → Int32
  | 0 => 0
  | n + 1 => if P n then orM P ln n ||| ((1 : Int32) <<< (ln n &&& 31)) else orM P ln n
theorem orM_t {P : Nat → Prop} [DecidablePred P] {ln : Nat → Int32} {n : Nat} (h : P n) : orM P ln (n + 1) = orM P ln n ||| ((1 : Int32) <<< (ln n &&& 31)) := if_pos h
theorem orM_f {P : Nat → Prop} [DecidablePred P] {ln : Nat → Int32} {n : Nat} (h : ¬ P n) : orM P ln (n + 1) = orM P ln n := if_neg h
def nxA (x v h : Int32) : Int32 := if h < v then mnI x v else x
theorem nxA_t {x v h : Int32} (q : h < v) : nxA x v h = mnI x v := if_pos q
theorem nxA_f {x v h : Int32} (q : ¬ h < v) : nxA x v h = x := if_neg q
def nxC (bg fi : Nat → Int32) (h now : Int32) : Nat → Int32
  | 0 => now
  | n + 1 => nxA (nxA (nxC bg fi h now n) (bg n) h) (fi n) h
theorem nxC_s {bg fi : Nat → Int32} {h now : Int32} (n : Nat) : nxC bg fi h now (n + 1) = nxA (nxA (nxC bg fi h now n) (bg n) h) (fi n) h := rfl
def fstM (f : Nat → Option Nat) : Nat → Option Nat
  | 0 => none
  | n + 1 => match fstM f n with
    | some y => some y
    | none => f n
theorem fstM_n {f : Nat → Option Nat} {n : Nat} (h : fstM f n = none) : fstM f (n + 1) = f n := by show (match fstM f n with | some y => some y | none => f n) = f n; rw [h]
theorem fstM_s {f : Nat → Option Nat} {n y : Nat} (h : fstM f n = some y) : fstM f (n + 1) = some y := by show (match fstM f n with | some y => some y | none => f n) = some y; rw [h]
theorem fstM_up {f : Nat → Option Nat} {n y : Nat} (h : fstM f n = some y) {m : Nat} (hm : n ≤ m) : fstM f m = some y := by
  obtain ⟨d, rfl⟩ := Nat.le.dest hm
  induction d with
  | zero => exact h
  | succ d ih => exact fstM_s (ih (by omega))
abbrev rm_X5_checkJunction : Room := { frames := 6, cells := 1, slots := 6, locals := 100 }
set_option maxHeartbeats 4000000 in
set_option maxRecDepth 100000 in
theorem m_X5_checkJunction (l : Launch) (hl : l.stackTraces = false) (D : va_G) (cy : Nat → ClassId) (e0 : Nat) {S : wS}  {x : Int32} : cMet l yX5_checkJunction wsX5_checkJunction rm_X5_checkJunction D cy e0 [.int (x)] S (fun v S' => v = none ∧ S' = S ∧ ∃ k, k < 10 ∧ x = nI k) (fun X S' => X = "java/lang/IndexOutOfBoundsException" ∧ (∀ k, k < 10 → x ≠ nI k) ∧ S' = S) 1 6 := by
  refine gMet.of (cc := cX5_checkJunction) (maxL := 1) (ret := none) hl (by decide) rfl (Nat.le_of_ble_eq_true rfl) ?_
  intro C E h1 h2 h3 hr hnm hT hE
  subst h1; subst h2; subst h3
  have E : gOk C cX5_checkJunction 1 wsX5_checkJunction RX5 e0 rm_X5_checkJunction := E
  show G C (cW (xy C) S) 0 0 0 [(0, .int (x))] []
  refine g_iload_n E dX5_checkJunction_0 rfl 0 rfl ?_
  refine g_if_lt (tgt := 10) E dX5_checkJunction_1 (by decide) (fun c_1 => ?_) (fun c_1 => ?_)
  · exact g_throwS E hE hT "java/lang/IndexOutOfBoundsException" "there is no such junction" ["java/lang/RuntimeException", "java/lang/Exception"] 228 230 232 (by decide) (by decide) (List.mem_cons_of_mem _ (List.mem_append_left _ (List.mem_of_getElem? (i := 0) rfl))) (List.mem_cons_of_mem _ (List.mem_append_left _ (List.mem_of_getElem? (i := 1) rfl))) tbS_RX5_230 (fun _ h => (List.mem_cons_of_mem _ (List.mem_append_right _ h))) tbX_IOOBE tbG_IOOBE dX5_checkJunction_10 dX5_checkJunction_13 dX5_checkJunction_14 dX5_checkJunction_16 dX5_checkJunction_19 (Nat.le_of_ble_eq_true rfl) (Nat.le_of_ble_eq_true rfl) (Nat.le_of_ble_eq_true rfl) (Nat.le_of_ble_eq_true rfl) (Nat.le_of_ble_eq_true rfl) (Nat.le_of_ble_eq_true rfl) ⟨S, rfl, ⟨rfl, nI_not (by decide) (Or.inl c_1), rfl⟩⟩
  · refine g_iload_n E dX5_checkJunction_4 rfl 0 rfl ?_
    refine g_bipush (v := 10) E dX5_checkJunction_5 (by decide) ?_
    refine g_icmp_lt (tgt := 20) E dX5_checkJunction_7 (by decide) (fun c_7 => ?_) (fun c_7 => ?_)
    · exact g_vret E hE hr dX5_checkJunction_20 (Nat.le_of_ble_eq_true rfl) (Nat.le_of_ble_eq_true rfl) ⟨S, rfl, rfl, rfl, nI_in2 (by decide) c_1 c_7⟩
    · exact g_throwS E hE hT "java/lang/IndexOutOfBoundsException" "there is no such junction" ["java/lang/RuntimeException", "java/lang/Exception"] 228 230 232 (by decide) (by decide) (List.mem_cons_of_mem _ (List.mem_append_left _ (List.mem_of_getElem? (i := 0) rfl))) (List.mem_cons_of_mem _ (List.mem_append_left _ (List.mem_of_getElem? (i := 1) rfl))) tbS_RX5_230 (fun _ h => (List.mem_cons_of_mem _ (List.mem_append_right _ h))) tbX_IOOBE tbG_IOOBE dX5_checkJunction_10 dX5_checkJunction_13 dX5_checkJunction_14 dX5_checkJunction_16 dX5_checkJunction_19 (Nat.le_of_ble_eq_true rfl) (Nat.le_of_ble_eq_true rfl) (Nat.le_of_ble_eq_true rfl) (Nat.le_of_ble_eq_true rfl) (Nat.le_of_ble_eq_true rfl) (Nat.le_of_ble_eq_true rfl) ⟨S, rfl, ⟨rfl, nI_not (by decide) (Or.inr c_7), rfl⟩⟩
abbrev rm_X5_checkApplicant : Room := { frames := 6, cells := 1, slots := 6, locals := 100 }
set_option maxHeartbeats 4000000 in
set_option maxRecDepth 100000 in
theorem m_X5_checkApplicant (l : Launch) (hl : l.stackTraces = false) (D : va_G) (cy : Nat → ClassId) (e0 : Nat) {S : wS}  {x : Int32} : cMet l yX5_checkApplicant wsX5_checkApplicant rm_X5_checkApplicant D cy e0 [.int (x)] S (fun v S' => v = none ∧ S' = S ∧ ∃ k, k < 6 ∧ x = nI k) (fun X S' => X = "java/lang/IndexOutOfBoundsException" ∧ (∀ k, k < 6 → x ≠ nI k) ∧ S' = S) 1 6 := by
  refine gMet.of (cc := cX5_checkApplicant) (maxL := 1) (ret := none) hl (by decide) rfl (Nat.le_of_ble_eq_true rfl) ?_
  intro C E h1 h2 h3 hr hnm hT hE
  subst h1; subst h2; subst h3
  have E : gOk C cX5_checkApplicant 1 wsX5_checkApplicant RX5 e0 rm_X5_checkApplicant := E
  show G C (cW (xy C) S) 0 0 0 [(0, .int (x))] []
  refine g_iload_n E dX5_checkApplicant_0 rfl 0 rfl ?_
  refine g_if_lt (tgt := 10) E dX5_checkApplicant_1 (by decide) (fun c_1 => ?_) (fun c_1 => ?_)
  · exact g_throwS E hE hT "java/lang/IndexOutOfBoundsException" "there is no such applicant" ["java/lang/RuntimeException", "java/lang/Exception"] 228 233 232 (by decide) (by decide) (List.mem_cons_of_mem _ (List.mem_append_left _ (List.mem_of_getElem? (i := 0) rfl))) (List.mem_cons_of_mem _ (List.mem_append_left _ (List.mem_of_getElem? (i := 1) rfl))) tbS_RX5_233 (fun _ h => (List.mem_cons_of_mem _ (List.mem_append_right _ h))) tbX_IOOBE tbG_IOOBE dX5_checkApplicant_10 dX5_checkApplicant_13 dX5_checkApplicant_14 dX5_checkApplicant_16 dX5_checkApplicant_19 (Nat.le_of_ble_eq_true rfl) (Nat.le_of_ble_eq_true rfl) (Nat.le_of_ble_eq_true rfl) (Nat.le_of_ble_eq_true rfl) (Nat.le_of_ble_eq_true rfl) (Nat.le_of_ble_eq_true rfl) ⟨S, rfl, ⟨rfl, nI_not (by decide) (Or.inl c_1), rfl⟩⟩
  · refine g_iload_n E dX5_checkApplicant_4 rfl 0 rfl ?_
    refine g_bipush (v := 6) E dX5_checkApplicant_5 (by decide) ?_
    refine g_icmp_lt (tgt := 20) E dX5_checkApplicant_7 (by decide) (fun c_7 => ?_) (fun c_7 => ?_)
    · exact g_vret E hE hr dX5_checkApplicant_20 (Nat.le_of_ble_eq_true rfl) (Nat.le_of_ble_eq_true rfl) ⟨S, rfl, rfl, rfl, nI_in2 (by decide) c_1 c_7⟩
    · exact g_throwS E hE hT "java/lang/IndexOutOfBoundsException" "there is no such applicant" ["java/lang/RuntimeException", "java/lang/Exception"] 228 233 232 (by decide) (by decide) (List.mem_cons_of_mem _ (List.mem_append_left _ (List.mem_of_getElem? (i := 0) rfl))) (List.mem_cons_of_mem _ (List.mem_append_left _ (List.mem_of_getElem? (i := 1) rfl))) tbS_RX5_233 (fun _ h => (List.mem_cons_of_mem _ (List.mem_append_right _ h))) tbX_IOOBE tbG_IOOBE dX5_checkApplicant_10 dX5_checkApplicant_13 dX5_checkApplicant_14 dX5_checkApplicant_16 dX5_checkApplicant_19 (Nat.le_of_ble_eq_true rfl) (Nat.le_of_ble_eq_true rfl) (Nat.le_of_ble_eq_true rfl) (Nat.le_of_ble_eq_true rfl) (Nat.le_of_ble_eq_true rfl) (Nat.le_of_ble_eq_true rfl) ⟨S, rfl, ⟨rfl, nI_not (by decide) (Or.inr c_7), rfl⟩⟩
abbrev rm_X5_checkLane : Room := { frames := 6, cells := 1, slots := 6, locals := 100 }
set_option maxHeartbeats 4000000 in
set_option maxRecDepth 100000 in
theorem m_X5_checkLane (l : Launch) (hl : l.stackTraces = false) (D : va_G) (cy : Nat → ClassId) (e0 : Nat) {S : wS} {c : Nat → Nat} {ad : Nat → Nat → Nat} {i : Nat → Nat → Int32} {j : Nat → Nat → Int64} {p : Nat → Nat → Option Nat} {r : Nat → Nat → Int32} (hI : CI e0 S c ad i j p r) {x : Int32} {m : Nat} (hm : i 15 0 = nI m) (hm2 : m ≤ 24) : cMet l yX5_checkLane wsX5_checkLane rm_X5_checkLane D cy e0 [.ref (ad 5 0), .int (x)] S (fun v S' => v = none ∧ S' = S ∧ ∃ k, k < m ∧ x = nI k) (fun X S' => X = "java/lang/IndexOutOfBoundsException" ∧ (∀ k, k < m → x ≠ nI k) ∧ S' = S) 1 6 := by
  refine gMet.of (cc := cX5_checkLane) (maxL := 2) (ret := none) hl (by decide) rfl (Nat.le_of_ble_eq_true rfl) ?_
  intro C E h1 h2 h3 hr hnm hT hE
  subst h1; subst h2; subst h3
  have E : gOk C cX5_checkLane 2 wsX5_checkLane RX5 e0 rm_X5_checkLane := E
  show G C (cW (xy C) S) 0 0 0 [(0, .ref (ad 5 0)), (1, .int (x))] []
  refine g_iload_n E dX5_checkLane_0 rfl 1 rfl ?_
  refine g_if_lt (tgt := 15) E dX5_checkLane_1 (by decide) (fun c_1 => ?_) (fun c_1 => ?_)
  · exact g_throwS E hE hT "java/lang/IndexOutOfBoundsException" "there is no such lane" ["java/lang/RuntimeException", "java/lang/Exception"] 228 235 232 (by decide) (by decide) (List.mem_cons_of_mem _ (List.mem_append_left _ (List.mem_append_left _ (List.mem_append_left _ (List.mem_of_getElem? (i := 0) rfl))))) (List.mem_cons_of_mem _ (List.mem_append_left _ (List.mem_append_left _ (List.mem_append_left _ (List.mem_of_getElem? (i := 1) rfl))))) tbS_RX5_235 (fun _ h => (List.mem_cons_of_mem _ (List.mem_append_right _ h))) tbX_IOOBE tbG_IOOBE dX5_checkLane_15 dX5_checkLane_18 dX5_checkLane_19 dX5_checkLane_21 dX5_checkLane_24 (Nat.le_of_ble_eq_true rfl) (Nat.le_of_ble_eq_true rfl) (Nat.le_of_ble_eq_true rfl) (Nat.le_of_ble_eq_true rfl) (Nat.le_of_ble_eq_true rfl) (Nat.le_of_ble_eq_true rfl) ⟨S, rfl, ⟨rfl, nI_not (n := m) (by omega) (Or.inl c_1), rfl⟩⟩
  · refine g_iload_n E dX5_checkLane_4 rfl 1 rfl ?_
    refine g_aload_n E dX5_checkLane_5 rfl 0 rfl ?_
    refine q_get_PW_roads E hI (fun _ h => (List.mem_cons_of_mem _ (List.mem_append_left _ (List.mem_append_left _ (List.mem_append_right _ h))))) (List.mem_cons_of_mem _ (List.mem_append_left _ (List.mem_append_left _ (List.mem_append_left _ (List.mem_of_getElem? (i := 2) rfl))))) dX5_checkLane_6 ?_
    refine q_getN_Roads_count E hI hI.c3 (fun _ h => (List.mem_cons_of_mem _ (List.mem_append_left _ (List.mem_append_right _ h)))) tbF_RX5_44 dX5_checkLane_9 ?_
    refine g_icmp_lt (tgt := 25) E dX5_checkLane_12 (by decide) (fun c_12 => ?_) (fun c_12 => ?_)
    · exact g_vret E hE hr dX5_checkLane_25 (Nat.le_of_ble_eq_true rfl) (Nat.le_of_ble_eq_true rfl) ⟨S, rfl, rfl, rfl, nI_in2 (by omega) c_1 (by rw [← hm]; exact c_12)⟩
    · exact g_throwS E hE hT "java/lang/IndexOutOfBoundsException" "there is no such lane" ["java/lang/RuntimeException", "java/lang/Exception"] 228 235 232 (by decide) (by decide) (List.mem_cons_of_mem _ (List.mem_append_left _ (List.mem_append_left _ (List.mem_append_left _ (List.mem_of_getElem? (i := 0) rfl))))) (List.mem_cons_of_mem _ (List.mem_append_left _ (List.mem_append_left _ (List.mem_append_left _ (List.mem_of_getElem? (i := 1) rfl))))) tbS_RX5_235 (fun _ h => (List.mem_cons_of_mem _ (List.mem_append_right _ h))) tbX_IOOBE tbG_IOOBE dX5_checkLane_15 dX5_checkLane_18 dX5_checkLane_19 dX5_checkLane_21 dX5_checkLane_24 (Nat.le_of_ble_eq_true rfl) (Nat.le_of_ble_eq_true rfl) (Nat.le_of_ble_eq_true rfl) (Nat.le_of_ble_eq_true rfl) (Nat.le_of_ble_eq_true rfl) (Nat.le_of_ble_eq_true rfl) ⟨S, rfl, ⟨rfl, nI_not (n := m) (by omega) (Or.inr (fun q => c_12 (by rw [hm]; exact q))), rfl⟩⟩
abbrev rm_X5_lineOf : Room := { frames := 6, cells := 1, slots := 6, locals := 100 }
set_option maxHeartbeats 4000000 in
set_option maxRecDepth 100000 in
theorem m_X5_lineOf (l : Launch) (hl : l.stackTraces = false) (D : va_G) (cy : Nat → ClassId) (e0 : Nat) {S : wS} {c : Nat → Nat} {ad : Nat → Nat → Nat} {i : Nat → Nat → Int32} {j : Nat → Nat → Int64} {p : Nat → Nat → Option Nat} {r : Nat → Nat → Int32} (hI : CI e0 S c ad i j p r) {x : Int32} : cMet l yX5_lineOf wsX5_lineOf rm_X5_lineOf D cy e0 [.ref (ad 5 0), .int (x)] S (fun v S' => S' = S ∧ ∃ k, k < c 0 ∧ x = nI k ∧ v = some (.ref (ad 0 k))) (fun X S' => X = "java/lang/IndexOutOfBoundsException" ∧ (∀ k, k < c 0 → x ≠ nI k) ∧ S' = S) 1 6 := by
  refine gMet.of (cc := cX5_lineOf) (maxL := 2) (ret := (some (.object "PermitWeave$Line"))) hl (by decide) rfl (Nat.le_of_ble_eq_true rfl) ?_
  intro C E h1 h2 h3 hr hnm hT hE
  subst h1; subst h2; subst h3
  have E : gOk C cX5_lineOf 2 wsX5_lineOf RX5 e0 rm_X5_lineOf := E
  show G C (cW (xy C) S) 0 0 0 [(0, .ref (ad 5 0)), (1, .int (x))] []
  have hc := hI.cnt
  refine g_iload_n E dX5_lineOf_0 rfl 1 rfl ?_
  refine g_if_lt (tgt := 15) E dX5_lineOf_1 (by decide) (fun c_1 => ?_) (fun c_1 => ?_)
  · exact g_throwS E hE hT "java/lang/IndexOutOfBoundsException" "there is no such line" ["java/lang/RuntimeException", "java/lang/Exception"] 228 237 232 (by decide) (by decide) (List.mem_cons_of_mem _ (List.mem_append_left _ (List.mem_append_left _ (List.mem_append_left _ (List.mem_append_left _ (List.mem_of_getElem? (i := 0) rfl)))))) (List.mem_cons_of_mem _ (List.mem_append_left _ (List.mem_append_left _ (List.mem_append_left _ (List.mem_append_left _ (List.mem_of_getElem? (i := 1) rfl)))))) tbS_RX5_237 (fun _ h => (List.mem_cons_of_mem _ (List.mem_append_right _ h))) tbX_IOOBE tbG_IOOBE dX5_lineOf_15 dX5_lineOf_18 dX5_lineOf_19 dX5_lineOf_21 dX5_lineOf_24 (Nat.le_of_ble_eq_true rfl) (Nat.le_of_ble_eq_true rfl) (Nat.le_of_ble_eq_true rfl) (Nat.le_of_ble_eq_true rfl) (Nat.le_of_ble_eq_true rfl) (Nat.le_of_ble_eq_true rfl) ⟨S, rfl, ⟨rfl, nI_not (by omega) (Or.inl c_1), rfl⟩⟩
  · refine g_iload_n E dX5_lineOf_4 rfl 1 rfl ?_
    refine g_aload_n E dX5_lineOf_5 rfl 0 rfl ?_
    refine q_get_PW_lines E hI (fun _ h => (List.mem_cons_of_mem _ (List.mem_append_left _ (List.mem_append_left _ (List.mem_append_right _ h))))) (List.mem_cons_of_mem _ (List.mem_append_left _ (List.mem_append_left _ (List.mem_append_left _ (List.mem_append_left _ (List.mem_of_getElem? (i := 2) rfl)))))) dX5_lineOf_6 ?_
    refine c_invV (n := 0) (rest := [.int (x)]) E (m_Jx4a65c_size_8abf5 (xl C) E.tr (xD C) (xy C) e0 hI.lists.1) (hI.obj (kd := 6) (k := 0) (by omega) (by have := hI.cnt; omega)).1 gX5_lineOf_Jx4a65c_size_8abf5 rfl rfl rfl (by decide +kernel) ⟨Nat.le_of_ble_eq_true rfl, Nat.le_of_ble_eq_true rfl⟩ (wF_AL (hI.obj (kd := 6) (k := 0) (by omega) (by have := hI.cnt; omega)).2) rfl rfl rfl rfl (Nat.le_of_ble_eq_true rfl) dX5_lineOf_9 ⟨Nat.le_of_ble_eq_true rfl, Nat.le_of_ble_eq_true rfl⟩ (fun _ _ h9 => h9.elim) (fun v9 S9 h9 => ?_)
    obtain ⟨hv9, hS9⟩ := h9
    rw [hv9, hS9]
    show G C (cW (xy C) S) 0 0 12 [(0, .ref (ad 5 0)), (1, .int (x))] [.int (nI (c 0)), .int (x)]
    refine g_icmp_lt (tgt := 25) E dX5_lineOf_12 (by decide) (fun c_12 => ?_) (fun c_12 => ?_)
    · obtain ⟨k, hk, hx⟩ := nI_in2 (by omega) c_1 c_12
      subst hx
      show G C (cW (xy C) S) 0 0 25 [(0, .ref (ad 5 0)), (1, .int (nI k))] []
      refine g_aload_n E dX5_lineOf_25 rfl 0 rfl ?_
      refine q_get_PW_lines E hI (fun _ h => (List.mem_cons_of_mem _ (List.mem_append_left _ (List.mem_append_left _ (List.mem_append_right _ h))))) (List.mem_cons_of_mem _ (List.mem_append_left _ (List.mem_append_left _ (List.mem_append_left _ (List.mem_append_left _ (List.mem_of_getElem? (i := 2) rfl)))))) dX5_lineOf_26 ?_
      refine g_iload_n E dX5_lineOf_29 rfl 1 rfl ?_
      refine c_invV (n := 1) (rest := []) E (m_Jx4a65c_get_915e3 (xl C) E.tr (xD C) (xy C) e0 hI.lists.1 (k := k) hk) (hI.obj (kd := 6) (k := 0) (by omega) (by have := hI.cnt; omega)).1 gX5_lineOf_Jx4a65c_get_915e3 rfl rfl rfl (by decide +kernel) ⟨Nat.le_of_ble_eq_true rfl, Nat.le_of_ble_eq_true rfl⟩ (wF_AL (hI.obj (kd := 6) (k := 0) (by omega) (by have := hI.cnt; omega)).2) rfl rfl rfl rfl (Nat.le_of_ble_eq_true rfl) dX5_lineOf_30 ⟨Nat.le_of_ble_eq_true rfl, Nat.le_of_ble_eq_true rfl⟩ (fun _ _ h9 => h9.elim) (fun v9 S9 h9 => ?_)
      obtain ⟨hv9, hS9⟩ := h9
      rw [hv9, hS9]
      show G C (cW (xy C) S) 0 0 33 [(0, .ref (ad 5 0)), (1, .int (nI k))] [.ref (ad 0 k)]
      refine p_cast E (List.mem_cons_of_mem _ (List.mem_append_left _ (List.mem_append_left _ (List.mem_append_left _ (List.mem_append_left _ (List.mem_of_getElem? (i := 3) rfl)))))) (hI.obj (kd := 0) (k := k) (by omega) hk).1 (wF_Line (hI.obj (kd := 0) (k := k) (by omega) hk).2) rfl rfl dX5_lineOf_33 ?_
      exact g_aret E hE hr (by first | exact Or.inl ⟨_, rfl⟩ | exact Or.inr ⟨_, rfl⟩) (by first | exact Or.inl rfl | exact Or.inr ⟨_, rfl⟩) dX5_lineOf_36 (Nat.le_of_ble_eq_true rfl) (Nat.le_of_ble_eq_true rfl) ⟨S, rfl, rfl, k, hk, rfl, rfl⟩
    · exact g_throwS E hE hT "java/lang/IndexOutOfBoundsException" "there is no such line" ["java/lang/RuntimeException", "java/lang/Exception"] 228 237 232 (by decide) (by decide) (List.mem_cons_of_mem _ (List.mem_append_left _ (List.mem_append_left _ (List.mem_append_left _ (List.mem_append_left _ (List.mem_of_getElem? (i := 0) rfl)))))) (List.mem_cons_of_mem _ (List.mem_append_left _ (List.mem_append_left _ (List.mem_append_left _ (List.mem_append_left _ (List.mem_of_getElem? (i := 1) rfl)))))) tbS_RX5_237 (fun _ h => (List.mem_cons_of_mem _ (List.mem_append_right _ h))) tbX_IOOBE tbG_IOOBE dX5_lineOf_15 dX5_lineOf_18 dX5_lineOf_19 dX5_lineOf_21 dX5_lineOf_24 (Nat.le_of_ble_eq_true rfl) (Nat.le_of_ble_eq_true rfl) (Nat.le_of_ble_eq_true rfl) (Nat.le_of_ble_eq_true rfl) (Nat.le_of_ble_eq_true rfl) (Nat.le_of_ble_eq_true rfl) ⟨S, rfl, ⟨rfl, nI_not (by omega) (Or.inr c_12), rfl⟩⟩
abbrev rm_X5_permitOf : Room := { frames := 6, cells := 1, slots := 6, locals := 100 }
set_option maxHeartbeats 4000000 in
set_option maxRecDepth 100000 in
theorem m_X5_permitOf (l : Launch) (hl : l.stackTraces = false) (D : va_G) (cy : Nat → ClassId) (e0 : Nat) {S : wS} {c : Nat → Nat} {ad : Nat → Nat → Nat} {i : Nat → Nat → Int32} {j : Nat → Nat → Int64} {p : Nat → Nat → Option Nat} {r : Nat → Nat → Int32} (hI : CI e0 S c ad i j p r) {x : Int32} : cMet l yX5_permitOf wsX5_permitOf rm_X5_permitOf D cy e0 [.ref (ad 5 0), .int (x)] S (fun v S' => S' = S ∧ ∃ k, k < c 2 ∧ x = nI k ∧ v = some (.ref (ad 2 k))) (fun X S' => X = "java/lang/IndexOutOfBoundsException" ∧ (∀ k, k < c 2 → x ≠ nI k) ∧ S' = S) 1 6 := by
  refine gMet.of (cc := cX5_permitOf) (maxL := 2) (ret := (some (.object "PermitWeave$Permit"))) hl (by decide) rfl (Nat.le_of_ble_eq_true rfl) ?_
  intro C E h1 h2 h3 hr hnm hT hE
  subst h1; subst h2; subst h3
  have E : gOk C cX5_permitOf 2 wsX5_permitOf RX5 e0 rm_X5_permitOf := E
  show G C (cW (xy C) S) 0 0 0 [(0, .ref (ad 5 0)), (1, .int (x))] []
  have hc := hI.cnt
  refine g_iload_n E dX5_permitOf_0 rfl 1 rfl ?_
  refine g_if_lt (tgt := 15) E dX5_permitOf_1 (by decide) (fun c_1 => ?_) (fun c_1 => ?_)
  · exact g_throwS E hE hT "java/lang/IndexOutOfBoundsException" "there is no such permit" ["java/lang/RuntimeException", "java/lang/Exception"] 228 239 232 (by decide) (by decide) (List.mem_cons_of_mem _ (List.mem_append_left _ (List.mem_append_left _ (List.mem_append_left _ (List.mem_append_left _ (List.mem_of_getElem? (i := 0) rfl)))))) (List.mem_cons_of_mem _ (List.mem_append_left _ (List.mem_append_left _ (List.mem_append_left _ (List.mem_append_left _ (List.mem_of_getElem? (i := 1) rfl)))))) tbS_RX5_239 (fun _ h => (List.mem_cons_of_mem _ (List.mem_append_right _ h))) tbX_IOOBE tbG_IOOBE dX5_permitOf_15 dX5_permitOf_18 dX5_permitOf_19 dX5_permitOf_21 dX5_permitOf_24 (Nat.le_of_ble_eq_true rfl) (Nat.le_of_ble_eq_true rfl) (Nat.le_of_ble_eq_true rfl) (Nat.le_of_ble_eq_true rfl) (Nat.le_of_ble_eq_true rfl) (Nat.le_of_ble_eq_true rfl) ⟨S, rfl, ⟨rfl, nI_not (by omega) (Or.inl c_1), rfl⟩⟩
  · refine g_iload_n E dX5_permitOf_4 rfl 1 rfl ?_
    refine g_aload_n E dX5_permitOf_5 rfl 0 rfl ?_
    refine q_get_PW_permits E hI (fun _ h => (List.mem_cons_of_mem _ (List.mem_append_left _ (List.mem_append_left _ (List.mem_append_right _ h))))) (List.mem_cons_of_mem _ (List.mem_append_left _ (List.mem_append_left _ (List.mem_append_left _ (List.mem_append_left _ (List.mem_of_getElem? (i := 2) rfl)))))) dX5_permitOf_6 ?_
    refine c_invV (n := 0) (rest := [.int (x)]) E (m_Jx4a65c_size_8abf5 (xl C) E.tr (xD C) (xy C) e0 hI.lists.2.1) (hI.obj (kd := 6) (k := 1) (by omega) (by have := hI.cnt; omega)).1 gX5_permitOf_Jx4a65c_size_8abf5 rfl rfl rfl (by decide +kernel) ⟨Nat.le_of_ble_eq_true rfl, Nat.le_of_ble_eq_true rfl⟩ (wF_AL (hI.obj (kd := 6) (k := 1) (by omega) (by have := hI.cnt; omega)).2) rfl rfl rfl rfl (Nat.le_of_ble_eq_true rfl) dX5_permitOf_9 ⟨Nat.le_of_ble_eq_true rfl, Nat.le_of_ble_eq_true rfl⟩ (fun _ _ h9 => h9.elim) (fun v9 S9 h9 => ?_)
    obtain ⟨hv9, hS9⟩ := h9
    rw [hv9, hS9]
    show G C (cW (xy C) S) 0 0 12 [(0, .ref (ad 5 0)), (1, .int (x))] [.int (nI (c 2)), .int (x)]
    refine g_icmp_lt (tgt := 25) E dX5_permitOf_12 (by decide) (fun c_12 => ?_) (fun c_12 => ?_)
    · obtain ⟨k, hk, hx⟩ := nI_in2 (by omega) c_1 c_12
      subst hx
      show G C (cW (xy C) S) 0 0 25 [(0, .ref (ad 5 0)), (1, .int (nI k))] []
      refine g_aload_n E dX5_permitOf_25 rfl 0 rfl ?_
      refine q_get_PW_permits E hI (fun _ h => (List.mem_cons_of_mem _ (List.mem_append_left _ (List.mem_append_left _ (List.mem_append_right _ h))))) (List.mem_cons_of_mem _ (List.mem_append_left _ (List.mem_append_left _ (List.mem_append_left _ (List.mem_append_left _ (List.mem_of_getElem? (i := 2) rfl)))))) dX5_permitOf_26 ?_
      refine g_iload_n E dX5_permitOf_29 rfl 1 rfl ?_
      refine c_invV (n := 1) (rest := []) E (m_Jx4a65c_get_915e3 (xl C) E.tr (xD C) (xy C) e0 hI.lists.2.1 (k := k) hk) (hI.obj (kd := 6) (k := 1) (by omega) (by have := hI.cnt; omega)).1 gX5_permitOf_Jx4a65c_get_915e3 rfl rfl rfl (by decide +kernel) ⟨Nat.le_of_ble_eq_true rfl, Nat.le_of_ble_eq_true rfl⟩ (wF_AL (hI.obj (kd := 6) (k := 1) (by omega) (by have := hI.cnt; omega)).2) rfl rfl rfl rfl (Nat.le_of_ble_eq_true rfl) dX5_permitOf_30 ⟨Nat.le_of_ble_eq_true rfl, Nat.le_of_ble_eq_true rfl⟩ (fun _ _ h9 => h9.elim) (fun v9 S9 h9 => ?_)
      obtain ⟨hv9, hS9⟩ := h9
      rw [hv9, hS9]
      show G C (cW (xy C) S) 0 0 33 [(0, .ref (ad 5 0)), (1, .int (nI k))] [.ref (ad 2 k)]
      refine p_cast E (List.mem_cons_of_mem _ (List.mem_append_left _ (List.mem_append_left _ (List.mem_append_left _ (List.mem_append_left _ (List.mem_of_getElem? (i := 3) rfl)))))) (hI.obj (kd := 2) (k := k) (by omega) hk).1 (wF_Permit (hI.obj (kd := 2) (k := k) (by omega) hk).2) rfl rfl dX5_permitOf_33 ?_
      exact g_aret E hE hr (by first | exact Or.inl ⟨_, rfl⟩ | exact Or.inr ⟨_, rfl⟩) (by first | exact Or.inl rfl | exact Or.inr ⟨_, rfl⟩) dX5_permitOf_36 (Nat.le_of_ble_eq_true rfl) (Nat.le_of_ble_eq_true rfl) ⟨S, rfl, rfl, k, hk, rfl, rfl⟩
    · exact g_throwS E hE hT "java/lang/IndexOutOfBoundsException" "there is no such permit" ["java/lang/RuntimeException", "java/lang/Exception"] 228 239 232 (by decide) (by decide) (List.mem_cons_of_mem _ (List.mem_append_left _ (List.mem_append_left _ (List.mem_append_left _ (List.mem_append_left _ (List.mem_of_getElem? (i := 0) rfl)))))) (List.mem_cons_of_mem _ (List.mem_append_left _ (List.mem_append_left _ (List.mem_append_left _ (List.mem_append_left _ (List.mem_of_getElem? (i := 1) rfl)))))) tbS_RX5_239 (fun _ h => (List.mem_cons_of_mem _ (List.mem_append_right _ h))) tbX_IOOBE tbG_IOOBE dX5_permitOf_15 dX5_permitOf_18 dX5_permitOf_19 dX5_permitOf_21 dX5_permitOf_24 (Nat.le_of_ble_eq_true rfl) (Nat.le_of_ble_eq_true rfl) (Nat.le_of_ble_eq_true rfl) (Nat.le_of_ble_eq_true rfl) (Nat.le_of_ble_eq_true rfl) (Nat.le_of_ble_eq_true rfl) ⟨S, rfl, ⟨rfl, nI_not (by omega) (Or.inr c_12), rfl⟩⟩
abbrev rm_X5_closedNow : Room := { frames := 4, cells := 0, slots := 0, locals := 88 }
set_option maxHeartbeats 4000000 in
set_option maxRecDepth 100000 in
theorem m_X5_closedNow (l : Launch) (hl : l.stackTraces = false) (D : va_G) (cy : Nat → ClassId) (e0 : Nat) {S : wS} {c : Nat → Nat} {ad : Nat → Nat → Nat} {i : Nat → Nat → Int32} {j : Nat → Nat → Int64} {p : Nat → Nat → Option Nat} {r : Nat → Nat → Int32} (hI : CI e0 S c ad i j p r)  : cMet l yX5_closedNow wsX5_closedNow rm_X5_closedNow D cy e0 [.ref (ad 5 0)] S (fun v S' => v = some (.int (clM (fun k => i 11 k) (fun k => i 7 k) none (c 2))) ∧ S' = S) (fun _ _ => False) 0 0 := by
  refine gMet.of (cc := cX5_closedNow) (maxL := 1) (ret := (some .int)) hl (by decide) rfl (Nat.le_of_ble_eq_true rfl) ?_
  intro C E h1 h2 h3 hr hnm hT hE
  subst h1; subst h2; subst h3
  have E : gOk C cX5_closedNow 1 wsX5_closedNow RX5 e0 rm_X5_closedNow := E
  show G C (cW (xy C) S) 0 0 0 [(0, .ref (ad 5 0))] []
  refine g_aload_n E dX5_closedNow_0 rfl 0 rfl ?_
  refine g_null E dX5_closedNow_1 ?_
  refine c_invV (n := 1) (rest := []) E (m_X5_closedBut_N (xl C) E.tr (xD C) (xy C) e0 hI) (hI.obj (kd := 5) (k := 0) (by omega) hI.c5).1 gX5_closedNow_X5_closedBut rfl rfl rfl (by decide +kernel) ⟨Nat.le_of_ble_eq_true rfl, Nat.le_of_ble_eq_true rfl⟩ (wF_PW (hI.obj (kd := 5) (k := 0) (by omega) hI.c5).2) rfl rfl rfl rfl (Nat.le_of_ble_eq_true rfl) dX5_closedNow_2 ⟨Nat.le_of_ble_eq_true rfl, Nat.le_of_ble_eq_true rfl⟩ (fun _ _ h9 => h9.elim) (fun v9 S9 h9 => ?_)
  obtain ⟨hv9, hS9⟩ := h9
  rw [hv9, hS9]
  show G C (cW (xy C) S) 0 0 5 [(0, .ref (ad 5 0))] [.int ((clM (fun k => i 11 k) (fun k => i 7 k) none (c 2)))]
  exact g_iret E hE hr dX5_closedNow_5 (Nat.le_of_ble_eq_true rfl) (Nat.le_of_ble_eq_true rfl) ⟨S, rfl, rfl, rfl⟩
abbrev rm_X5_closedDuring : Room := { frames := 3, cells := 0, slots := 0, locals := 64 }
set_option maxHeartbeats 4000000 in
set_option maxRecDepth 100000 in
theorem m_X5_closedDuring (l : Launch) (hl : l.stackTraces = false) (D : va_G) (cy : Nat → ClassId) (e0 : Nat) {S : wS} {c : Nat → Nat} {ad : Nat → Nat → Nat} {i : Nat → Nat → Int32} {j : Nat → Nat → Int64} {p : Nat → Nat → Option Nat} {r : Nat → Nat → Int32} (hI : CI e0 S c ad i j p r) {x : Int32} : cMet l yX5_closedDuring wsX5_closedDuring rm_X5_closedDuring D cy e0 [.ref (ad 5 0), .int (x)] S (fun v S' => v = some (.int (orM (fun k => i 13 k ≠ -1 ∧ i 13 k ≤ x ∧ (i 14 k = -1 ∨ x < i 14 k)) (i 7) (c 2))) ∧ S' = S) (fun _ _ => False) 0 0 := by
  refine gMet.of (cc := cX5_closedDuring) (maxL := 5) (ret := (some .int)) hl (by decide) rfl (Nat.le_of_ble_eq_true rfl) ?_
  intro C E h1 h2 h3 hr hnm hT hE
  subst h1; subst h2; subst h3
  have E : gOk C cX5_closedDuring 5 wsX5_closedDuring RX5 e0 rm_X5_closedDuring := E
  show G C (cW (xy C) S) 0 0 0 [(0, .ref (ad 5 0)), (1, .int (x))] []
  have hc := hI.cnt
  refine g_iconst (v := 0) E dX5_closedDuring_0 (by decide) ?_
  refine g_istore_n (L' := [(2, .int (0)), (0, .ref (ad 5 0)), (1, .int (x))]) E dX5_closedDuring_1 rfl (by decide) rfl ?_
  refine g_iconst (v := 0) E dX5_closedDuring_2 (by decide) ?_
  refine g_istore_n (L' := [(3, .int (0)), (2, .int (0)), (0, .ref (ad 5 0)), (1, .int (x))]) E dX5_closedDuring_3 rfl (by decide) rfl ?_
  refine g_locals [(0, .ref (ad 5 0)), (1, .int (x)), (2, .int (0)), (3, .int (0))] [2, 3, 1, 0] rfl ?_
  have loop_4 : ∀ (n_4 k : Nat), k ≤ c 2 → c 2 < n_4 + k → G C (cW (xy C) S) 0 0 4 [(0, .ref (ad 5 0)), (1, .int (x)), (2, .int ((orM (fun k => i 13 k ≠ -1 ∧ i 13 k ≤ x ∧ (i 14 k = -1 ∨ x < i 14 k)) (i 7) k))), (3, .int (nI k))] [] := by
    intro n_4
    induction n_4 with
    | zero => intro k h1 h2; exact absurd h2 (by omega)
    | succ n_4 ih_4 =>
      intro k h1_4 h2_4
      refine g_iload_n E dX5_closedDuring_4 rfl 3 rfl ?_
      refine g_aload_n E dX5_closedDuring_5 rfl 0 rfl ?_
      refine q_get_PW_permits E hI (fun _ h => (List.mem_cons_of_mem _ (List.mem_append_left _ (List.mem_append_left _ (List.mem_append_right _ h))))) (List.mem_cons_of_mem _ (List.mem_append_left _ (List.mem_append_left _ (List.mem_append_left _ (List.mem_append_left _ (List.mem_of_getElem? (i := 0) rfl)))))) dX5_closedDuring_6 ?_
      refine c_invV (n := 0) (rest := [.int (nI k)]) E (m_Jx4a65c_size_8abf5 (xl C) E.tr (xD C) (xy C) e0 hI.lists.2.1) (hI.obj (kd := 6) (k := 1) (by omega) (by have := hI.cnt; omega)).1 gX5_closedDuring_Jx4a65c_size_8abf5 rfl rfl rfl (by decide +kernel) ⟨Nat.le_of_ble_eq_true rfl, Nat.le_of_ble_eq_true rfl⟩ (wF_AL (hI.obj (kd := 6) (k := 1) (by omega) (by have := hI.cnt; omega)).2) rfl rfl rfl rfl (Nat.le_of_ble_eq_true rfl) dX5_closedDuring_9 ⟨Nat.le_of_ble_eq_true rfl, Nat.le_of_ble_eq_true rfl⟩ (fun _ _ h9 => h9.elim) (fun v9 S9 h9 => ?_)
      obtain ⟨hv9, hS9⟩ := h9
      rw [hv9, hS9]
      show G C (cW (xy C) S) 0 0 12 [(0, .ref (ad 5 0)), (1, .int (x)), (2, .int ((orM (fun k => i 13 k ≠ -1 ∧ i 13 k ≤ x ∧ (i 14 k = -1 ∨ x < i 14 k)) (i 7) k))), (3, .int (nI k))] [.int (nI (c 2)), .int (nI k)]
      refine g_icmp_ge (tgt := 53) E dX5_closedDuring_12 (by decide) (fun c_12 => ?_) (fun c_12 => ?_)
      · have e_k : k = c 2 := Nat.le_antisymm h1_4 (nI_ge_nat (by omega) (by omega) c_12)
        refine g_iload_n E dX5_closedDuring_53 rfl 2 rfl ?_
        exact g_iret E hE hr dX5_closedDuring_54 (Nat.le_of_ble_eq_true rfl) (Nat.le_of_ble_eq_true rfl) ⟨S, rfl, by rw [e_k], rfl⟩
      · have hk_k : k < c 2 := nI_nge_nat (by omega) (by omega) c_12
        refine g_aload_n E dX5_closedDuring_15 rfl 0 rfl ?_
        refine q_get_PW_permits E hI (fun _ h => (List.mem_cons_of_mem _ (List.mem_append_left _ (List.mem_append_left _ (List.mem_append_right _ h))))) (List.mem_cons_of_mem _ (List.mem_append_left _ (List.mem_append_left _ (List.mem_append_left _ (List.mem_append_left _ (List.mem_of_getElem? (i := 0) rfl)))))) dX5_closedDuring_16 ?_
        refine g_iload_n E dX5_closedDuring_19 rfl 3 rfl ?_
        refine c_invV (n := 1) (rest := []) E (m_Jx4a65c_get_915e3 (xl C) E.tr (xD C) (xy C) e0 hI.lists.2.1 (k := k) hk_k) (hI.obj (kd := 6) (k := 1) (by omega) (by have := hI.cnt; omega)).1 gX5_closedDuring_Jx4a65c_get_915e3 rfl rfl rfl (by decide +kernel) ⟨Nat.le_of_ble_eq_true rfl, Nat.le_of_ble_eq_true rfl⟩ (wF_AL (hI.obj (kd := 6) (k := 1) (by omega) (by have := hI.cnt; omega)).2) rfl rfl rfl rfl (Nat.le_of_ble_eq_true rfl) dX5_closedDuring_20 ⟨Nat.le_of_ble_eq_true rfl, Nat.le_of_ble_eq_true rfl⟩ (fun _ _ h9 => h9.elim) (fun v9 S9 h9 => ?_)
        obtain ⟨hv9, hS9⟩ := h9
        rw [hv9, hS9]
        show G C (cW (xy C) S) 0 0 23 [(0, .ref (ad 5 0)), (1, .int (x)), (2, .int ((orM (fun k => i 13 k ≠ -1 ∧ i 13 k ≤ x ∧ (i 14 k = -1 ∨ x < i 14 k)) (i 7) k))), (3, .int (nI k))] [.ref (ad 2 k)]
        refine p_cast E (List.mem_cons_of_mem _ (List.mem_append_left _ (List.mem_append_left _ (List.mem_append_left _ (List.mem_append_left _ (List.mem_of_getElem? (i := 1) rfl)))))) (hI.obj (kd := 2) (k := k) (by omega) hk_k).1 (wF_Permit (hI.obj (kd := 2) (k := k) (by omega) hk_k).2) rfl rfl dX5_closedDuring_23 ?_
        refine g_astore (L' := [(4, .ref (ad 2 k)), (0, .ref (ad 5 0)), (1, .int (x)), (2, .int ((orM (fun k => i 13 k ≠ -1 ∧ i 13 k ≤ x ∧ (i 14 k = -1 ∨ x < i 14 k)) (i 7) k))), (3, .int (nI k))]) E dX5_closedDuring_26 (by decide) rfl ?_
        refine g_aload E dX5_closedDuring_28 0 rfl ?_
        refine g_iload_n E dX5_closedDuring_30 rfl 2 rfl ?_
        refine c_invV (n := 1) (rest := []) E (m_X2_wasOpenDuring (xl C) E.tr (xD C) (xy C) e0 hI hk_k) (hI.obj (kd := 2) (k := k) (by omega) hk_k).1 gX5_closedDuring_X2_wasOpenDuring rfl rfl rfl (by decide +kernel) ⟨Nat.le_of_ble_eq_true rfl, Nat.le_of_ble_eq_true rfl⟩ (wF_Permit (hI.obj (kd := 2) (k := k) (by omega) hk_k).2) rfl rfl rfl rfl (Nat.le_of_ble_eq_true rfl) dX5_closedDuring_31 ⟨Nat.le_of_ble_eq_true rfl, Nat.le_of_ble_eq_true rfl⟩ (fun _ _ h9 => h9.elim) (fun v9 S9 h9 => ?_)
        obtain ⟨hv9, hS9⟩ := h9
        rw [hv9, hS9]
        show G C (cW (xy C) S) 0 0 34 [(4, .ref (ad 2 k)), (0, .ref (ad 5 0)), (1, .int (x)), (2, .int ((orM (fun k => i 13 k ≠ -1 ∧ i 13 k ≤ x ∧ (i 14 k = -1 ∨ x < i 14 k)) (i 7) k))), (3, .int (nI k))] [.int ((bI (i 13 k ≠ -1 ∧ i 13 k ≤ x ∧ (i 14 k = -1 ∨ x < i 14 k))))]
        refine g_if_eq (tgt := 47) E dX5_closedDuring_34 (by decide) (fun c_34 => ?_) (fun c_34 => ?_)
        · refine g_iinc (v := nI (k + 1)) (L' := [(3, .int (nI (k + 1))), (4, .ref (ad 2 k)), (0, .ref (ad 5 0)), (1, .int (x)), (2, .int ((orM (fun k => i 13 k ≠ -1 ∧ i 13 k ≤ x ∧ (i 14 k = -1 ∨ x < i 14 k)) (i 7) k)))]) E dX5_closedDuring_47 4 rfl (nI_1 k) (by decide) rfl ?_
          refine g_goto (tgt := 4) E dX5_closedDuring_50 (by decide) ?_
          refine g_locals [(0, .ref (ad 5 0)), (1, .int (x)), (2, .int ((orM (fun k => i 13 k ≠ -1 ∧ i 13 k ≤ x ∧ (i 14 k = -1 ∨ x < i 14 k)) (i 7) k))), (3, .int (nI (k + 1)))] [2, 3, 4, 0] rfl ?_
          refine g_L (L' := [(0, .ref (ad 5 0)), (1, .int (x)), (2, .int ((orM (fun k => i 13 k ≠ -1 ∧ i 13 k ≤ x ∧ (i 14 k = -1 ∨ x < i 14 k)) (i 7) (k + 1)))), (3, .int (nI (k + 1)))]) (by rw [orM_f (P := (fun k => i 13 k ≠ -1 ∧ i 13 k ≤ x ∧ (i 14 k = -1 ∨ x < i 14 k))) (bI_eq0.mp c_34)]) (ih_4 (k + 1) (by omega) (by omega))
        · refine g_iload_n E dX5_closedDuring_37 rfl 3 rfl ?_
          refine g_iconst (v := 1) E dX5_closedDuring_38 (by decide) ?_
          refine g_aload E dX5_closedDuring_39 0 rfl ?_
          refine q_getN_Permit_lane E hI hk_k (fun _ h => (List.mem_cons_of_mem _ (List.mem_append_left _ (List.mem_append_right _ h)))) tbF_RX5_241 dX5_closedDuring_41 ?_
          refine g_ishl E dX5_closedDuring_44 ?_
          refine g_ior E dX5_closedDuring_45 ?_
          refine g_istore_n (L' := [(2, .int (((orM (fun k => i 13 k ≠ -1 ∧ i 13 k ≤ x ∧ (i 14 k = -1 ∨ x < i 14 k)) (i 7) k) ||| (1 <<< (i 7 k &&& 31))))), (4, .ref (ad 2 k)), (0, .ref (ad 5 0)), (1, .int (x)), (3, .int (nI k))]) E dX5_closedDuring_46 rfl (by decide) rfl ?_
          refine g_iinc (v := nI (k + 1)) (L' := [(3, .int (nI (k + 1))), (2, .int (((orM (fun k => i 13 k ≠ -1 ∧ i 13 k ≤ x ∧ (i 14 k = -1 ∨ x < i 14 k)) (i 7) k) ||| (1 <<< (i 7 k &&& 31))))), (4, .ref (ad 2 k)), (0, .ref (ad 5 0)), (1, .int (x))]) E dX5_closedDuring_47 4 rfl (nI_1 k) (by decide) rfl ?_
          refine g_goto (tgt := 4) E dX5_closedDuring_50 (by decide) ?_
          refine g_locals [(0, .ref (ad 5 0)), (1, .int (x)), (2, .int (((orM (fun k => i 13 k ≠ -1 ∧ i 13 k ≤ x ∧ (i 14 k = -1 ∨ x < i 14 k)) (i 7) k) ||| (1 <<< (i 7 k &&& 31))))), (3, .int (nI (k + 1)))] [3, 4, 1, 0] rfl ?_
          refine g_L (L' := [(0, .ref (ad 5 0)), (1, .int (x)), (2, .int ((orM (fun k => i 13 k ≠ -1 ∧ i 13 k ≤ x ∧ (i 14 k = -1 ∨ x < i 14 k)) (i 7) (k + 1)))), (3, .int (nI (k + 1)))]) (by rw [orM_t (P := (fun k => i 13 k ≠ -1 ∧ i 13 k ≤ x ∧ (i 14 k = -1 ∨ x < i 14 k))) (bI_ne0.mp c_34)]) (ih_4 (k + 1) (by omega) (by omega))
  exact loop_4 (c 2 + 1) 0 (by omega) (by omega)
abbrev rm_X5_nextChange : Room := { frames := 3, cells := 0, slots := 0, locals := 64 }
set_option maxHeartbeats 4000000 in
set_option maxRecDepth 100000 in
theorem m_X5_nextChange (l : Launch) (hl : l.stackTraces = false) (D : va_G) (cy : Nat → ClassId) (e0 : Nat) {S : wS} {c : Nat → Nat} {ad : Nat → Nat → Nat} {i : Nat → Nat → Int32} {j : Nat → Nat → Int64} {p : Nat → Nat → Option Nat} {r : Nat → Nat → Int32} (hI : CI e0 S c ad i j p r) {x : Int32} : cMet l yX5_nextChange wsX5_nextChange rm_X5_nextChange D cy e0 [.ref (ad 5 0), .int (x)] S (fun v S' => v = some (.int (nxC (i 13) (i 14) x (i 18 0) (c 2))) ∧ S' = S) (fun _ _ => False) 0 0 := by
  refine gMet.of (cc := cX5_nextChange) (maxL := 5) (ret := (some .int)) hl (by decide) rfl (Nat.le_of_ble_eq_true rfl) ?_
  intro C E h1 h2 h3 hr hnm hT hE
  subst h1; subst h2; subst h3
  have E : gOk C cX5_nextChange 5 wsX5_nextChange RX5 e0 rm_X5_nextChange := E
  show G C (cW (xy C) S) 0 0 0 [(0, .ref (ad 5 0)), (1, .int (x))] []
  have hc := hI.cnt
  refine g_aload_n E dX5_nextChange_0 rfl 0 rfl ?_
  refine q_get_PW_now E hI hI.c5 (fun _ h => (List.mem_cons_of_mem _ (List.mem_append_left _ (List.mem_append_left _ (List.mem_append_right _ h))))) (List.mem_cons_of_mem _ (List.mem_append_left _ (List.mem_append_left _ (List.mem_append_left _ (List.mem_append_left _ (List.mem_of_getElem? (i := 0) rfl)))))) dX5_nextChange_1 ?_
  refine g_istore_n (L' := [(2, .int (i 18 0)), (0, .ref (ad 5 0)), (1, .int (x))]) E dX5_nextChange_4 rfl (by decide) rfl ?_
  refine g_iconst (v := 0) E dX5_nextChange_5 (by decide) ?_
  refine g_istore_n (L' := [(3, .int (0)), (2, .int (i 18 0)), (0, .ref (ad 5 0)), (1, .int (x))]) E dX5_nextChange_6 rfl (by decide) rfl ?_
  refine g_locals [(0, .ref (ad 5 0)), (1, .int (x)), (2, .int (i 18 0)), (3, .int (0))] [2, 3, 1, 0] rfl ?_
  have loop_7 : ∀ (n_7 k : Nat), k ≤ c 2 → c 2 < n_7 + k → G C (cW (xy C) S) 0 0 7 [(0, .ref (ad 5 0)), (1, .int (x)), (2, .int ((nxC (i 13) (i 14) x (i 18 0) k))), (3, .int (nI k))] [] := by
    intro n_7
    induction n_7 with
    | zero => intro k h1 h2; exact absurd h2 (by omega)
    | succ n_7 ih_7 =>
      intro k h1_7 h2_7
      refine g_iload_n E dX5_nextChange_7 rfl 3 rfl ?_
      refine g_aload_n E dX5_nextChange_8 rfl 0 rfl ?_
      refine q_get_PW_permits E hI (fun _ h => (List.mem_cons_of_mem _ (List.mem_append_left _ (List.mem_append_left _ (List.mem_append_right _ h))))) (List.mem_cons_of_mem _ (List.mem_append_left _ (List.mem_append_left _ (List.mem_append_left _ (List.mem_append_left _ (List.mem_of_getElem? (i := 1) rfl)))))) dX5_nextChange_9 ?_
      refine c_invV (n := 0) (rest := [.int (nI k)]) E (m_Jx4a65c_size_8abf5 (xl C) E.tr (xD C) (xy C) e0 hI.lists.2.1) (hI.obj (kd := 6) (k := 1) (by omega) (by have := hI.cnt; omega)).1 gX5_nextChange_Jx4a65c_size_8abf5 rfl rfl rfl (by decide +kernel) ⟨Nat.le_of_ble_eq_true rfl, Nat.le_of_ble_eq_true rfl⟩ (wF_AL (hI.obj (kd := 6) (k := 1) (by omega) (by have := hI.cnt; omega)).2) rfl rfl rfl rfl (Nat.le_of_ble_eq_true rfl) dX5_nextChange_12 ⟨Nat.le_of_ble_eq_true rfl, Nat.le_of_ble_eq_true rfl⟩ (fun _ _ h9 => h9.elim) (fun v9 S9 h9 => ?_)
      obtain ⟨hv9, hS9⟩ := h9
      rw [hv9, hS9]
      show G C (cW (xy C) S) 0 0 15 [(0, .ref (ad 5 0)), (1, .int (x)), (2, .int ((nxC (i 13) (i 14) x (i 18 0) k))), (3, .int (nI k))] [.int (nI (c 2)), .int (nI k)]
      refine g_icmp_ge (tgt := 75) E dX5_nextChange_15 (by decide) (fun c_15 => ?_) (fun c_15 => ?_)
      · have e_k : k = c 2 := Nat.le_antisymm h1_7 (nI_ge_nat (by omega) (by omega) c_15)
        refine g_iload_n E dX5_nextChange_75 rfl 2 rfl ?_
        exact g_iret E hE hr dX5_nextChange_76 (Nat.le_of_ble_eq_true rfl) (Nat.le_of_ble_eq_true rfl) ⟨S, rfl, by rw [e_k], rfl⟩
      · have hk_k : k < c 2 := nI_nge_nat (by omega) (by omega) c_15
        refine g_aload_n E dX5_nextChange_18 rfl 0 rfl ?_
        refine q_get_PW_permits E hI (fun _ h => (List.mem_cons_of_mem _ (List.mem_append_left _ (List.mem_append_left _ (List.mem_append_right _ h))))) (List.mem_cons_of_mem _ (List.mem_append_left _ (List.mem_append_left _ (List.mem_append_left _ (List.mem_append_left _ (List.mem_of_getElem? (i := 1) rfl)))))) dX5_nextChange_19 ?_
        refine g_iload_n E dX5_nextChange_22 rfl 3 rfl ?_
        refine c_invV (n := 1) (rest := []) E (m_Jx4a65c_get_915e3 (xl C) E.tr (xD C) (xy C) e0 hI.lists.2.1 (k := k) hk_k) (hI.obj (kd := 6) (k := 1) (by omega) (by have := hI.cnt; omega)).1 gX5_nextChange_Jx4a65c_get_915e3 rfl rfl rfl (by decide +kernel) ⟨Nat.le_of_ble_eq_true rfl, Nat.le_of_ble_eq_true rfl⟩ (wF_AL (hI.obj (kd := 6) (k := 1) (by omega) (by have := hI.cnt; omega)).2) rfl rfl rfl rfl (Nat.le_of_ble_eq_true rfl) dX5_nextChange_23 ⟨Nat.le_of_ble_eq_true rfl, Nat.le_of_ble_eq_true rfl⟩ (fun _ _ h9 => h9.elim) (fun v9 S9 h9 => ?_)
        obtain ⟨hv9, hS9⟩ := h9
        rw [hv9, hS9]
        show G C (cW (xy C) S) 0 0 26 [(0, .ref (ad 5 0)), (1, .int (x)), (2, .int ((nxC (i 13) (i 14) x (i 18 0) k))), (3, .int (nI k))] [.ref (ad 2 k)]
        refine p_cast E (List.mem_cons_of_mem _ (List.mem_append_left _ (List.mem_append_left _ (List.mem_append_left _ (List.mem_append_left _ (List.mem_of_getElem? (i := 2) rfl)))))) (hI.obj (kd := 2) (k := k) (by omega) hk_k).1 (wF_Permit (hI.obj (kd := 2) (k := k) (by omega) hk_k).2) rfl rfl dX5_nextChange_26 ?_
        refine g_astore (L' := [(4, .ref (ad 2 k)), (0, .ref (ad 5 0)), (1, .int (x)), (2, .int ((nxC (i 13) (i 14) x (i 18 0) k))), (3, .int (nI k))]) E dX5_nextChange_29 (by decide) rfl ?_
        refine g_aload E dX5_nextChange_31 0 rfl ?_
        refine q_getN_Permit_begunAt E hI hk_k (fun _ h => (List.mem_cons_of_mem _ (List.mem_append_left _ (List.mem_append_right _ h)))) tbF_RX5_164 dX5_nextChange_33 ?_
        refine g_iload_n E dX5_nextChange_36 rfl 2 rfl ?_
        refine g_icmp_le (tgt := 50) E dX5_nextChange_37 (by decide) (fun c_37 => ?_) (fun c_37 => ?_)
        · refine g_aload E dX5_nextChange_50 0 rfl ?_
          refine q_getN_Permit_finishedAt E hI hk_k (fun _ h => (List.mem_cons_of_mem _ (List.mem_append_left _ (List.mem_append_right _ h)))) tbF_RX5_172 dX5_nextChange_52 ?_
          refine g_iload_n E dX5_nextChange_55 rfl 2 rfl ?_
          refine g_icmp_le (tgt := 69) E dX5_nextChange_56 (by decide) (fun c_56 => ?_) (fun c_56 => ?_)
          · refine g_iinc (v := nI (k + 1)) (L' := [(3, .int (nI (k + 1))), (4, .ref (ad 2 k)), (0, .ref (ad 5 0)), (1, .int (x)), (2, .int ((nxC (i 13) (i 14) x (i 18 0) k)))]) E dX5_nextChange_69 4 rfl (nI_1 k) (by decide) rfl ?_
            refine g_goto (tgt := 7) E dX5_nextChange_72 (by decide) ?_
            refine g_locals [(0, .ref (ad 5 0)), (1, .int (x)), (2, .int ((nxC (i 13) (i 14) x (i 18 0) k))), (3, .int (nI (k + 1)))] [2, 3, 4, 0] rfl ?_
            refine g_L (L' := [(0, .ref (ad 5 0)), (1, .int (x)), (2, .int ((nxC (i 13) (i 14) x (i 18 0) (k + 1)))), (3, .int (nI (k + 1)))]) (by rw [nxC_s, nxA_f (Int32.not_lt.mpr c_37), nxA_f (Int32.not_lt.mpr c_56)]) (ih_7 (k + 1) (by omega) (by omega))
          · refine g_iload_n E dX5_nextChange_59 rfl 3 rfl ?_
            refine g_aload E dX5_nextChange_60 0 rfl ?_
            refine q_getN_Permit_finishedAt E hI hk_k (fun _ h => (List.mem_cons_of_mem _ (List.mem_append_left _ (List.mem_append_right _ h)))) tbF_RX5_172 dX5_nextChange_62 ?_
            refine g_mmin (rest := []) E (List.mem_cons_of_mem _ (List.mem_append_left _ (List.mem_append_left _ (List.mem_append_left _ (List.mem_append_left _ (List.mem_of_getElem? (i := 3) rfl)))))) (List.mem_cons_of_mem _ (List.mem_append_left _ (List.mem_append_left _ (List.mem_append_left _ (List.mem_append_left _ (List.mem_of_getElem? (i := 4) rfl)))))) (List.mem_cons_of_mem _ (List.mem_append_left _ (List.mem_append_left _ (List.mem_append_left _ (List.mem_append_left _ (List.mem_of_getElem? (i := 5) rfl)))))) (List.mem_cons_of_mem _ (List.mem_append_left _ (List.mem_append_left _ (List.mem_append_left _ (List.mem_append_left _ (List.mem_of_getElem? (i := 6) rfl)))))) dX5_nextChange_65 (Nat.le_of_ble_eq_true rfl) (Nat.le_of_ble_eq_true rfl) (Nat.le_of_ble_eq_true rfl) (Nat.le_of_ble_eq_true rfl) ?_
            refine g_istore_n (L' := [(2, .int ((mnI ((nxC (i 13) (i 14) x (i 18 0) k)) (i 14 k)))), (4, .ref (ad 2 k)), (0, .ref (ad 5 0)), (1, .int (x)), (3, .int (nI k))]) E dX5_nextChange_68 rfl (by decide) rfl ?_
            refine g_iinc (v := nI (k + 1)) (L' := [(3, .int (nI (k + 1))), (2, .int ((mnI ((nxC (i 13) (i 14) x (i 18 0) k)) (i 14 k)))), (4, .ref (ad 2 k)), (0, .ref (ad 5 0)), (1, .int (x))]) E dX5_nextChange_69 4 rfl (nI_1 k) (by decide) rfl ?_
            refine g_goto (tgt := 7) E dX5_nextChange_72 (by decide) ?_
            refine g_locals [(0, .ref (ad 5 0)), (1, .int (x)), (2, .int ((mnI ((nxC (i 13) (i 14) x (i 18 0) k)) (i 14 k)))), (3, .int (nI (k + 1)))] [3, 4, 1, 0] rfl ?_
            refine g_L (L' := [(0, .ref (ad 5 0)), (1, .int (x)), (2, .int ((nxC (i 13) (i 14) x (i 18 0) (k + 1)))), (3, .int (nI (k + 1)))]) (by rw [nxC_s, nxA_f (Int32.not_lt.mpr c_37), nxA_t (Int32.not_le.mp c_56)]) (ih_7 (k + 1) (by omega) (by omega))
        · refine g_iload_n E dX5_nextChange_40 rfl 3 rfl ?_
          refine g_aload E dX5_nextChange_41 0 rfl ?_
          refine q_getN_Permit_begunAt E hI hk_k (fun _ h => (List.mem_cons_of_mem _ (List.mem_append_left _ (List.mem_append_right _ h)))) tbF_RX5_164 dX5_nextChange_43 ?_
          refine g_mmin (rest := []) E (List.mem_cons_of_mem _ (List.mem_append_left _ (List.mem_append_left _ (List.mem_append_left _ (List.mem_append_left _ (List.mem_of_getElem? (i := 3) rfl)))))) (List.mem_cons_of_mem _ (List.mem_append_left _ (List.mem_append_left _ (List.mem_append_left _ (List.mem_append_left _ (List.mem_of_getElem? (i := 4) rfl)))))) (List.mem_cons_of_mem _ (List.mem_append_left _ (List.mem_append_left _ (List.mem_append_left _ (List.mem_append_left _ (List.mem_of_getElem? (i := 5) rfl)))))) (List.mem_cons_of_mem _ (List.mem_append_left _ (List.mem_append_left _ (List.mem_append_left _ (List.mem_append_left _ (List.mem_of_getElem? (i := 6) rfl)))))) dX5_nextChange_46 (Nat.le_of_ble_eq_true rfl) (Nat.le_of_ble_eq_true rfl) (Nat.le_of_ble_eq_true rfl) (Nat.le_of_ble_eq_true rfl) ?_
          refine g_istore_n (L' := [(2, .int ((mnI ((nxC (i 13) (i 14) x (i 18 0) k)) (i 13 k)))), (4, .ref (ad 2 k)), (0, .ref (ad 5 0)), (1, .int (x)), (3, .int (nI k))]) E dX5_nextChange_49 rfl (by decide) rfl ?_
          refine g_aload E dX5_nextChange_50 1 rfl ?_
          refine q_getN_Permit_finishedAt E hI hk_k (fun _ h => (List.mem_cons_of_mem _ (List.mem_append_left _ (List.mem_append_right _ h)))) tbF_RX5_172 dX5_nextChange_52 ?_
          refine g_iload_n E dX5_nextChange_55 rfl 3 rfl ?_
          refine g_icmp_le (tgt := 69) E dX5_nextChange_56 (by decide) (fun c_56 => ?_) (fun c_56 => ?_)
          · refine g_iinc (v := nI (k + 1)) (L' := [(3, .int (nI (k + 1))), (2, .int ((mnI ((nxC (i 13) (i 14) x (i 18 0) k)) (i 13 k)))), (4, .ref (ad 2 k)), (0, .ref (ad 5 0)), (1, .int (x))]) E dX5_nextChange_69 4 rfl (nI_1 k) (by decide) rfl ?_
            refine g_goto (tgt := 7) E dX5_nextChange_72 (by decide) ?_
            refine g_locals [(0, .ref (ad 5 0)), (1, .int (x)), (2, .int ((mnI ((nxC (i 13) (i 14) x (i 18 0) k)) (i 13 k)))), (3, .int (nI (k + 1)))] [3, 4, 1, 0] rfl ?_
            refine g_L (L' := [(0, .ref (ad 5 0)), (1, .int (x)), (2, .int ((nxC (i 13) (i 14) x (i 18 0) (k + 1)))), (3, .int (nI (k + 1)))]) (by rw [nxC_s, nxA_t (Int32.not_le.mp c_37), nxA_f (Int32.not_lt.mpr c_56)]) (ih_7 (k + 1) (by omega) (by omega))
          · refine g_iload_n E dX5_nextChange_59 rfl 0 rfl ?_
            refine g_aload E dX5_nextChange_60 1 rfl ?_
            refine q_getN_Permit_finishedAt E hI hk_k (fun _ h => (List.mem_cons_of_mem _ (List.mem_append_left _ (List.mem_append_right _ h)))) tbF_RX5_172 dX5_nextChange_62 ?_
            refine g_mmin (rest := []) E (List.mem_cons_of_mem _ (List.mem_append_left _ (List.mem_append_left _ (List.mem_append_left _ (List.mem_append_left _ (List.mem_of_getElem? (i := 3) rfl)))))) (List.mem_cons_of_mem _ (List.mem_append_left _ (List.mem_append_left _ (List.mem_append_left _ (List.mem_append_left _ (List.mem_of_getElem? (i := 4) rfl)))))) (List.mem_cons_of_mem _ (List.mem_append_left _ (List.mem_append_left _ (List.mem_append_left _ (List.mem_append_left _ (List.mem_of_getElem? (i := 5) rfl)))))) (List.mem_cons_of_mem _ (List.mem_append_left _ (List.mem_append_left _ (List.mem_append_left _ (List.mem_append_left _ (List.mem_of_getElem? (i := 6) rfl)))))) dX5_nextChange_65 (Nat.le_of_ble_eq_true rfl) (Nat.le_of_ble_eq_true rfl) (Nat.le_of_ble_eq_true rfl) (Nat.le_of_ble_eq_true rfl) ?_
            refine g_istore_n (L' := [(2, .int ((mnI ((mnI ((nxC (i 13) (i 14) x (i 18 0) k)) (i 13 k))) (i 14 k)))), (4, .ref (ad 2 k)), (0, .ref (ad 5 0)), (1, .int (x)), (3, .int (nI k))]) E dX5_nextChange_68 rfl (by decide) rfl ?_
            refine g_iinc (v := nI (k + 1)) (L' := [(3, .int (nI (k + 1))), (2, .int ((mnI ((mnI ((nxC (i 13) (i 14) x (i 18 0) k)) (i 13 k))) (i 14 k)))), (4, .ref (ad 2 k)), (0, .ref (ad 5 0)), (1, .int (x))]) E dX5_nextChange_69 4 rfl (nI_1 k) (by decide) rfl ?_
            refine g_goto (tgt := 7) E dX5_nextChange_72 (by decide) ?_
            refine g_locals [(0, .ref (ad 5 0)), (1, .int (x)), (2, .int ((mnI ((mnI ((nxC (i 13) (i 14) x (i 18 0) k)) (i 13 k))) (i 14 k)))), (3, .int (nI (k + 1)))] [3, 4, 1, 0] rfl ?_
            refine g_L (L' := [(0, .ref (ad 5 0)), (1, .int (x)), (2, .int ((nxC (i 13) (i 14) x (i 18 0) (k + 1)))), (3, .int (nI (k + 1)))]) (by rw [nxC_s, nxA_t (Int32.not_le.mp c_37), nxA_t (Int32.not_le.mp c_56)]) (ih_7 (k + 1) (by omega) (by omega))
  exact loop_7 (c 2 + 1) 0 (by omega) (by omega)
