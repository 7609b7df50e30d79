theorem cau_0 {a b c d : Int32} (h : ¬ a = 0) : cau a b c d = 0 := if_neg h
theorem cau_1 {a b c d : Int32} (h : a = 0) (h1 : ¬ b = 0) : cau a b c d = 1 := (if_pos h).trans (if_neg h1)
theorem cau_2 {a b c d : Int32} (h : a = 0) (h1 : b = 0) (h2 : ¬ c = 0) : cau a b c d = 2 := (if_pos h).trans ((if_pos h1).trans (if_neg h2))
theorem cau_3 {a b c d : Int32} (h : a = 0) (h1 : b = 0) (h2 : c = 0) (h3 : ¬ d = 0) : cau a b c d = 3 := (if_pos h).trans ((if_pos h1).trans ((if_pos h2).trans (if_neg h3)))
theorem cau_4 {a b c d : Int32} (h : a = 0) (h1 : b = 0) (h2 : c = 0) (h3 : d = 0) : cau a b c d = -1 := (if_pos h).trans ((if_pos h1).trans ((if_pos h2).trans (if_pos h3)))
abbrev rm_X5_causeAgainst : Room := { frames := 5, cells := 0, slots := 0, locals := 113 }
set_option maxHeartbeats 4000000 in
set_option maxRecDepth 100000 in
theorem m_X5_causeAgainst_NN (l : Launch) (hl : l.stackTraces = false) (D : va_G) (cy : Nat → ClassId) (e0 : Nat) {S : wS} {c : Nat → Nat} {ad : Nat → Nat → Nat} {i : Nat → Nat → Int32} {j : Nat → Nat → Int64} {p : Nat → Nat → Option Nat} {r : Nat → Nat → Int32} (hI : CI e0 S c ad i j p r) {q ap : Nat} (hqm : q ∈ sL S) (hqk : sK S q = 2) (hap : sI S 6 q = nI ap) (hap6 : ap < 6) (hpn : sP S 1 q = none) : cMet l yX5_causeAgainst wsX5_causeAgainst rm_X5_causeAgainst D cy e0 [.ref (ad 5 0), .ref (q), .null] S (fun v S' => v = some (.int (cau (bI (sI S 10 q = 0 ∧ sI S 8 q < i 18 0 + (2 + 3 * r 3 ap))) 0 0 (bI (sI S 10 q = 0 ∧ 0 < cntI (fun k => none ≠ some k ∧ i 2 k = (sI S 7 q) ∧ ¬ j 1 k = 0 ∧ i 3 k / 500 = ((sI S 8 q) / 500)) (c 1))))) ∧ S' = S) (fun _ _ => False) 0 0 := by
  refine gMet.of (cc := cX5_causeAgainst) (maxL := 3) (ret := (some .int)) hl (by decide) rfl (Nat.le_of_ble_eq_true rfl) ?_
  intro C E h1 h2 h3 hr hnm hT hE
  subst h1; subst h2; subst h3
  have E : gOk C cX5_causeAgainst 3 wsX5_causeAgainst RX5 e0 rm_X5_causeAgainst := E
  show G C (cW (xy C) S) 0 0 0 [(0, .ref (ad 5 0)), (1, .ref (q)), (2, .null)] []
  refine g_aload_n E dX5_causeAgainst_0 rfl 0 rfl ?_
  refine g_aload_n E dX5_causeAgainst_1 rfl 1 rfl ?_
  refine c_invV (n := 1) (rest := []) E (m_X5_isLate (xl C) E.tr (xD C) (xy C) e0 hI hqm hqk hap hap6) (hI.obj (kd := 5) (k := 0) (by omega) hI.c5).1 gX5_causeAgainst_X5_isLate rfl rfl rfl (by decide +kernel) ⟨Nat.le_of_ble_eq_true rfl, Nat.le_of_ble_eq_true rfl⟩ (wF_PW (hI.obj (kd := 5) (k := 0) (by omega) hI.c5).2) rfl rfl rfl rfl (Nat.le_of_ble_eq_true rfl) dX5_causeAgainst_2 ⟨Nat.le_of_ble_eq_true rfl, Nat.le_of_ble_eq_true rfl⟩ (fun _ _ h9 => h9.elim) (fun v9 S9_2 h9 => ?_)
  obtain ⟨hv9, hS9⟩ := h9
  rw [hv9, hS9]
  show G C (cW (xy C) S) 0 0 5 [(0, .ref (ad 5 0)), (1, .ref (q)), (2, .null)] [.int ((bI (sI S 10 (q) = 0 ∧ sI S 8 (q) < i 18 0 + (2 + 3 * r 3 ap))))]
  refine g_if_eq (tgt := 10) E dX5_causeAgainst_5 (by decide) (fun c_5 => ?_) (fun c_5 => ?_)
  · refine g_aload_n E dX5_causeAgainst_10 rfl 1 rfl ?_
    refine c_invS (n := 1) (rest := []) E (m_X5_breaksChain_N (xl C) E.tr (xD C) (xy C) e0 hI hqm hqk hpn) gX5_causeAgainst_X5_breaksChain rfl rfl rfl (by decide +kernel) ⟨Nat.le_of_ble_eq_true rfl, Nat.le_of_ble_eq_true rfl⟩ rfl rfl (Nat.le_of_ble_eq_true rfl) dX5_causeAgainst_11 ⟨Nat.le_of_ble_eq_true rfl, Nat.le_of_ble_eq_true rfl⟩ (fun _ _ h9 => h9.elim) (fun v9 S9_11 h9 => ?_)
    obtain ⟨hv9, hS9⟩ := h9
    rw [hv9, hS9]
    show G C (cW (xy C) S) 0 0 14 [(0, .ref (ad 5 0)), (1, .ref (q)), (2, .null)] [.int (0)]
    refine g_if_eq (tgt := 19) E dX5_causeAgainst_14 (by decide) (fun c_14 => ?_) (fun c_14 => ?_)
    · refine g_aload_nN E dX5_causeAgainst_19 rfl 2 rfl ?_
      refine g_ifnullN (tgt := 35) E dX5_causeAgainst_20 (by decide) ?_
      refine g_aload_n E dX5_causeAgainst_35 rfl 0 rfl ?_
      refine g_aload_n E dX5_causeAgainst_36 rfl 1 rfl ?_
      refine g_aload_nN E dX5_causeAgainst_37 rfl 2 rfl ?_
      refine c_invV (n := 2) (rest := []) E (m_X5_isTwice_N (xl C) E.tr (xD C) (xy C) e0 hI hqm hqk) (hI.obj (kd := 5) (k := 0) (by omega) hI.c5).1 gX5_causeAgainst_X5_isTwice rfl rfl rfl (by decide +kernel) ⟨Nat.le_of_ble_eq_true rfl, Nat.le_of_ble_eq_true rfl⟩ (wF_PW (hI.obj (kd := 5) (k := 0) (by omega) hI.c5).2) rfl rfl rfl rfl (Nat.le_of_ble_eq_true rfl) dX5_causeAgainst_38 ⟨Nat.le_of_ble_eq_true rfl, Nat.le_of_ble_eq_true rfl⟩ (fun _ _ h9 => h9.elim) (fun v9 S9_38 h9 => ?_)
      obtain ⟨hv9, hS9⟩ := h9
      rw [hv9, hS9]
      show G C (cW (xy C) S) 0 0 41 [(0, .ref (ad 5 0)), (1, .ref (q)), (2, .null)] [.int ((bI (sI S 10 q = 0 ∧ 0 < cntI (fun k => none ≠ some k ∧ i 2 k = (sI S 7 q) ∧ ¬ j 1 k = 0 ∧ i 3 k / 500 = ((sI S 8 q) / 500)) (c 1))))]
      refine g_if_eq (tgt := 48) E dX5_causeAgainst_41 (by decide) (fun c_41 => ?_) (fun c_41 => ?_)
      · refine g_iconst (v := (-1)) E dX5_causeAgainst_48 (by decide) ?_
        exact g_iret E hE hr dX5_causeAgainst_49 (Nat.le_of_ble_eq_true rfl) (Nat.le_of_ble_eq_true rfl) ⟨S, rfl, by rw [cau_4 c_5 rfl rfl c_41], rfl⟩
      · refine g_iconst (v := 3) E dX5_causeAgainst_44 (by decide) ?_
        refine g_goto (tgt := 49) E dX5_causeAgainst_45 (by decide) ?_
        exact g_iret E hE hr dX5_causeAgainst_49 (Nat.le_of_ble_eq_true rfl) (Nat.le_of_ble_eq_true rfl) ⟨S, rfl, by rw [cau_3 c_5 rfl rfl c_41], rfl⟩
    · exact absurd rfl c_14
  · refine g_iconst (v := 0) E dX5_causeAgainst_8 (by decide) ?_
    exact g_iret E hE hr dX5_causeAgainst_9 (Nat.le_of_ble_eq_true rfl) (Nat.le_of_ble_eq_true rfl) ⟨S, rfl, by rw [cau_0 c_5], rfl⟩
set_option maxHeartbeats 4000000 in
set_option maxRecDepth 100000 in
theorem m_X5_causeAgainst_NS (l : Launch) (hl : l.stackTraces = false) (D : va_G) (cy : Nat → ClassId) (e0 : Nat) {S : wS} {c : Nat → Nat} {ad : Nat → Nat → Nat} {i : Nat → Nat → Int32} {j : Nat → Nat → Int64} {p : Nat → Nat → Option Nat} {r : Nat → Nat → Int32} (hI : CI e0 S c ad i j p r) {q ap : Nat} (hqm : q ∈ sL S) (hqk : sK S q = 2) (hap : sI S 6 q = nI ap) (hap6 : ap < 6) {z : Nat} (hpn : sP S 1 q = some (ad 2 z)) (hz : z < c 2) : cMet l yX5_causeAgainst wsX5_causeAgainst rm_X5_causeAgainst D cy e0 [.ref (ad 5 0), .ref (q), .null] S (fun v S' => v = some (.int (cau (bI (sI S 10 q = 0 ∧ sI S 8 q < i 18 0 + (2 + 3 * r 3 ap))) (bI (i 11 z = 1 ∨ i 11 z = 4 ∨ sI S 8 q < ((p 2 z).elim (i 9 z) (i 4)))) 0 (bI (sI S 10 q = 0 ∧ 0 < cntI (fun k => none ≠ some k ∧ i 2 k = (sI S 7 q) ∧ ¬ j 1 k = 0 ∧ i 3 k / 500 = ((sI S 8 q) / 500)) (c 1))))) ∧ S' = S) (fun _ _ => False) 0 0 := by
  refine gMet.of (cc := cX5_causeAgainst) (maxL := 3) (ret := (some .int)) hl (by decide) rfl (Nat.le_of_ble_eq_true rfl) ?_
  intro C E h1 h2 h3 hr hnm hT hE
  subst h1; subst h2; subst h3
  have E : gOk C cX5_causeAgainst 3 wsX5_causeAgainst RX5 e0 rm_X5_causeAgainst := E
  show G C (cW (xy C) S) 0 0 0 [(0, .ref (ad 5 0)), (1, .ref (q)), (2, .null)] []
  refine g_aload_n E dX5_causeAgainst_0 rfl 0 rfl ?_
  refine g_aload_n E dX5_causeAgainst_1 rfl 1 rfl ?_
  refine c_invV (n := 1) (rest := []) E (m_X5_isLate (xl C) E.tr (xD C) (xy C) e0 hI hqm hqk hap hap6) (hI.obj (kd := 5) (k := 0) (by omega) hI.c5).1 gX5_causeAgainst_X5_isLate rfl rfl rfl (by decide +kernel) ⟨Nat.le_of_ble_eq_true rfl, Nat.le_of_ble_eq_true rfl⟩ (wF_PW (hI.obj (kd := 5) (k := 0) (by omega) hI.c5).2) rfl rfl rfl rfl (Nat.le_of_ble_eq_true rfl) dX5_causeAgainst_2 ⟨Nat.le_of_ble_eq_true rfl, Nat.le_of_ble_eq_true rfl⟩ (fun _ _ h9 => h9.elim) (fun v9 S9_2 h9 => ?_)
  obtain ⟨hv9, hS9⟩ := h9
  rw [hv9, hS9]
  show G C (cW (xy C) S) 0 0 5 [(0, .ref (ad 5 0)), (1, .ref (q)), (2, .null)] [.int ((bI (sI S 10 (q) = 0 ∧ sI S 8 (q) < i 18 0 + (2 + 3 * r 3 ap))))]
  refine g_if_eq (tgt := 10) E dX5_causeAgainst_5 (by decide) (fun c_5 => ?_) (fun c_5 => ?_)
  · refine g_aload_n E dX5_causeAgainst_10 rfl 1 rfl ?_
    refine c_invS (n := 1) (rest := []) E (m_X5_breaksChain (xl C) E.tr (xD C) (xy C) e0 hI hqm hqk hpn hz) gX5_causeAgainst_X5_breaksChain rfl rfl rfl (by decide +kernel) ⟨Nat.le_of_ble_eq_true rfl, Nat.le_of_ble_eq_true rfl⟩ rfl rfl (Nat.le_of_ble_eq_true rfl) dX5_causeAgainst_11 ⟨Nat.le_of_ble_eq_true rfl, Nat.le_of_ble_eq_true rfl⟩ (fun _ _ h9 => h9.elim) (fun v9 S9_11 h9 => ?_)
    obtain ⟨hv9, hS9⟩ := h9
    rw [hv9, hS9]
    show G C (cW (xy C) S) 0 0 14 [(0, .ref (ad 5 0)), (1, .ref (q)), (2, .null)] [.int ((bI (i 11 z = 1 ∨ i 11 z = 4 ∨ sI S 8 q < ((p 2 z).elim (i 9 z) (i 4)))))]
    refine g_if_eq (tgt := 19) E dX5_causeAgainst_14 (by decide) (fun c_14 => ?_) (fun c_14 => ?_)
    · refine g_aload_nN E dX5_causeAgainst_19 rfl 2 rfl ?_
      refine g_ifnullN (tgt := 35) E dX5_causeAgainst_20 (by decide) ?_
      refine g_aload_n E dX5_causeAgainst_35 rfl 0 rfl ?_
      refine g_aload_n E dX5_causeAgainst_36 rfl 1 rfl ?_
      refine g_aload_nN E dX5_causeAgainst_37 rfl 2 rfl ?_
      refine c_invV (n := 2) (rest := []) E (m_X5_isTwice_N (xl C) E.tr (xD C) (xy C) e0 hI hqm hqk) (hI.obj (kd := 5) (k := 0) (by omega) hI.c5).1 gX5_causeAgainst_X5_isTwice rfl rfl rfl (by decide +kernel) ⟨Nat.le_of_ble_eq_true rfl, Nat.le_of_ble_eq_true rfl⟩ (wF_PW (hI.obj (kd := 5) (k := 0) (by omega) hI.c5).2) rfl rfl rfl rfl (Nat.le_of_ble_eq_true rfl) dX5_causeAgainst_38 ⟨Nat.le_of_ble_eq_true rfl, Nat.le_of_ble_eq_true rfl⟩ (fun _ _ h9 => h9.elim) (fun v9 S9_38 h9 => ?_)
      obtain ⟨hv9, hS9⟩ := h9
      rw [hv9, hS9]
      show G C (cW (xy C) S) 0 0 41 [(0, .ref (ad 5 0)), (1, .ref (q)), (2, .null)] [.int ((bI (sI S 10 q = 0 ∧ 0 < cntI (fun k => none ≠ some k ∧ i 2 k = (sI S 7 q) ∧ ¬ j 1 k = 0 ∧ i 3 k / 500 = ((sI S 8 q) / 500)) (c 1))))]
      refine g_if_eq (tgt := 48) E dX5_causeAgainst_41 (by decide) (fun c_41 => ?_) (fun c_41 => ?_)
      · refine g_iconst (v := (-1)) E dX5_causeAgainst_48 (by decide) ?_
        exact g_iret E hE hr dX5_causeAgainst_49 (Nat.le_of_ble_eq_true rfl) (Nat.le_of_ble_eq_true rfl) ⟨S, rfl, by rw [cau_4 c_5 c_14 rfl c_41], rfl⟩
      · refine g_iconst (v := 3) E dX5_causeAgainst_44 (by decide) ?_
        refine g_goto (tgt := 49) E dX5_causeAgainst_45 (by decide) ?_
        exact g_iret E hE hr dX5_causeAgainst_49 (Nat.le_of_ble_eq_true rfl) (Nat.le_of_ble_eq_true rfl) ⟨S, rfl, by rw [cau_3 c_5 c_14 rfl c_41], rfl⟩
    · refine g_iconst (v := 1) E dX5_causeAgainst_17 (by decide) ?_
      exact g_iret E hE hr dX5_causeAgainst_18 (Nat.le_of_ble_eq_true rfl) (Nat.le_of_ble_eq_true rfl) ⟨S, rfl, by rw [cau_1 c_5 c_14], rfl⟩
  · refine g_iconst (v := 0) E dX5_causeAgainst_8 (by decide) ?_
    exact g_iret E hE hr dX5_causeAgainst_9 (Nat.le_of_ble_eq_true rfl) (Nat.le_of_ble_eq_true rfl) ⟨S, rfl, by rw [cau_0 c_5], rfl⟩
set_option maxHeartbeats 4000000 in
set_option maxRecDepth 100000 in
theorem m_X5_causeAgainst_SN (l : Launch) (hl : l.stackTraces = false) (D : va_G) (cy : Nat → ClassId) (e0 : Nat) {S : wS} {c : Nat → Nat} {ad : Nat → Nat → Nat} {i : Nat → Nat → Int32} {j : Nat → Nat → Int64} {p : Nat → Nat → Option Nat} {r : Nat → Nat → Int32} (hI : CI e0 S c ad i j p r) {q ap : Nat} (hqm : q ∈ sL S) (hqk : sK S q = 2) (hap : sI S 6 q = nI ap) (hap6 : ap < 6) (hpn : sP S 1 q = none) {y : Nat} (hy : y < c 1) : cMet l yX5_causeAgainst wsX5_causeAgainst rm_X5_causeAgainst D cy e0 [.ref (ad 5 0), .ref (q), .ref (ad 1 y)] S (fun v S' => v = some (.int (cau (bI (sI S 10 q = 0 ∧ sI S 8 q < i 18 0 + (2 + 3 * r 3 ap))) 0 (bI ((40 : Int32) < mxI (i 4 y) (sI S 9 q) - mnI (i 3 y) (sI S 8 q))) (bI (sI S 10 q = 0 ∧ 0 < cntI (fun k => (some y) ≠ some k ∧ i 2 k = (sI S 7 q) ∧ ¬ j 1 k = 0 ∧ i 3 k / 500 = ((mnI (i 3 y) (sI S 8 q)) / 500)) (c 1))))) ∧ S' = S) (fun _ _ => False) 0 0 := by
  refine gMet.of (cc := cX5_causeAgainst) (maxL := 3) (ret := (some .int)) hl (by decide) rfl (Nat.le_of_ble_eq_true rfl) ?_
  intro C E h1 h2 h3 hr hnm hT hE
  subst h1; subst h2; subst h3
  have E : gOk C cX5_causeAgainst 3 wsX5_causeAgainst RX5 e0 rm_X5_causeAgainst := E
  show G C (cW (xy C) S) 0 0 0 [(0, .ref (ad 5 0)), (1, .ref (q)), (2, .ref (ad 1 y))] []
  refine g_aload_n E dX5_causeAgainst_0 rfl 0 rfl ?_
  refine g_aload_n E dX5_causeAgainst_1 rfl 1 rfl ?_
  refine c_invV (n := 1) (rest := []) E (m_X5_isLate (xl C) E.tr (xD C) (xy C) e0 hI hqm hqk hap hap6) (hI.obj (kd := 5) (k := 0) (by omega) hI.c5).1 gX5_causeAgainst_X5_isLate rfl rfl rfl (by decide +kernel) ⟨Nat.le_of_ble_eq_true rfl, Nat.le_of_ble_eq_true rfl⟩ (wF_PW (hI.obj (kd := 5) (k := 0) (by omega) hI.c5).2) rfl rfl rfl rfl (Nat.le_of_ble_eq_true rfl) dX5_causeAgainst_2 ⟨Nat.le_of_ble_eq_true rfl, Nat.le_of_ble_eq_true rfl⟩ (fun _ _ h9 => h9.elim) (fun v9 S9_2 h9 => ?_)
  obtain ⟨hv9, hS9⟩ := h9
  rw [hv9, hS9]
  show G C (cW (xy C) S) 0 0 5 [(0, .ref (ad 5 0)), (1, .ref (q)), (2, .ref (ad 1 y))] [.int ((bI (sI S 10 (q) = 0 ∧ sI S 8 (q) < i 18 0 + (2 + 3 * r 3 ap))))]
  refine g_if_eq (tgt := 10) E dX5_causeAgainst_5 (by decide) (fun c_5 => ?_) (fun c_5 => ?_)
  · refine g_aload_n E dX5_causeAgainst_10 rfl 1 rfl ?_
    refine c_invS (n := 1) (rest := []) E (m_X5_breaksChain_N (xl C) E.tr (xD C) (xy C) e0 hI hqm hqk hpn) gX5_causeAgainst_X5_breaksChain rfl rfl rfl (by decide +kernel) ⟨Nat.le_of_ble_eq_true rfl, Nat.le_of_ble_eq_true rfl⟩ rfl rfl (Nat.le_of_ble_eq_true rfl) dX5_causeAgainst_11 ⟨Nat.le_of_ble_eq_true rfl, Nat.le_of_ble_eq_true rfl⟩ (fun _ _ h9 => h9.elim) (fun v9 S9_11 h9 => ?_)
    obtain ⟨hv9, hS9⟩ := h9
    rw [hv9, hS9]
    show G C (cW (xy C) S) 0 0 14 [(0, .ref (ad 5 0)), (1, .ref (q)), (2, .ref (ad 1 y))] [.int (0)]
    refine g_if_eq (tgt := 19) E dX5_causeAgainst_14 (by decide) (fun c_14 => ?_) (fun c_14 => ?_)
    · refine g_aload_n E dX5_causeAgainst_19 rfl 2 rfl ?_
      refine g_ifnull E dX5_causeAgainst_20 ?_
      refine g_aload_n E dX5_causeAgainst_23 rfl 2 rfl ?_
      refine g_aload_n E dX5_causeAgainst_24 rfl 1 rfl ?_
      refine c_invV (n := 1) (rest := []) E (m_X1_hoursWith (xl C) E.tr (xD C) (xy C) e0 (S := S) (hI.obj (kd := 1) (k := y) (by omega) hy).1 (hI.obj (kd := 1) (k := y) (by omega) hy).2 hqm hqk) (hI.obj (kd := 1) (k := y) (by omega) hy).1 gX5_causeAgainst_X1_hoursWith rfl rfl rfl (by decide +kernel) ⟨Nat.le_of_ble_eq_true rfl, Nat.le_of_ble_eq_true rfl⟩ (wF_Opening (hI.obj (kd := 1) (k := y) (by omega) hy).2) rfl rfl rfl rfl (Nat.le_of_ble_eq_true rfl) dX5_causeAgainst_25 ⟨Nat.le_of_ble_eq_true rfl, Nat.le_of_ble_eq_true rfl⟩ (fun _ _ h9 => h9.elim) (fun v9 S9_25 h9 => ?_)
      obtain ⟨hv9, hS9⟩ := h9
      have e1 : sI S 3 (ad 1 y) = i 3 y := hI.int (f := 3) hy
      have e2 : sI S 4 (ad 1 y) = i 4 y := hI.int (f := 4) hy
      rw [hv9, hS9, e1, e2]
      show G C (cW (xy C) S) 0 0 28 [(0, .ref (ad 5 0)), (1, .ref (q)), (2, .ref (ad 1 y))] [.int ((mxI (i 4 y) (sI S 9 q) - mnI (i 3 y) (sI S 8 q)))]
      refine g_bipush (v := 40) E dX5_causeAgainst_28 (by decide) ?_
      refine g_icmp_le (tgt := 35) E dX5_causeAgainst_30 (by decide) (fun c_30 => ?_) (fun c_30 => ?_)
      · refine g_aload_n E dX5_causeAgainst_35 rfl 0 rfl ?_
        refine g_aload_n E dX5_causeAgainst_36 rfl 1 rfl ?_
        refine g_aload_n E dX5_causeAgainst_37 rfl 2 rfl ?_
        refine c_invV (n := 2) (rest := []) E (m_X5_isTwice (xl C) E.tr (xD C) (xy C) e0 hI hqm hqk hy) (hI.obj (kd := 5) (k := 0) (by omega) hI.c5).1 gX5_causeAgainst_X5_isTwice rfl rfl rfl (by decide +kernel) ⟨Nat.le_of_ble_eq_true rfl, Nat.le_of_ble_eq_true rfl⟩ (wF_PW (hI.obj (kd := 5) (k := 0) (by omega) hI.c5).2) rfl rfl rfl rfl (Nat.le_of_ble_eq_true rfl) dX5_causeAgainst_38 ⟨Nat.le_of_ble_eq_true rfl, Nat.le_of_ble_eq_true rfl⟩ (fun _ _ h9 => h9.elim) (fun v9 S9_38 h9 => ?_)
        obtain ⟨hv9, hS9⟩ := h9
        rw [hv9, hS9]
        show G C (cW (xy C) S) 0 0 41 [(0, .ref (ad 5 0)), (1, .ref (q)), (2, .ref (ad 1 y))] [.int ((bI (sI S 10 q = 0 ∧ 0 < cntI (fun k => (some y) ≠ some k ∧ i 2 k = (sI S 7 q) ∧ ¬ j 1 k = 0 ∧ i 3 k / 500 = ((mnI (i 3 y) (sI S 8 q)) / 500)) (c 1))))]
        refine g_if_eq (tgt := 48) E dX5_causeAgainst_41 (by decide) (fun c_41 => ?_) (fun c_41 => ?_)
        · refine g_iconst (v := (-1)) E dX5_causeAgainst_48 (by decide) ?_
          exact g_iret E hE hr dX5_causeAgainst_49 (Nat.le_of_ble_eq_true rfl) (Nat.le_of_ble_eq_true rfl) ⟨S, rfl, by rw [cau_4 c_5 rfl (bI_f (P := (40 : Int32) < _) (fun q => Int32.not_lt.mpr c_30 q)) c_41], rfl⟩
        · refine g_iconst (v := 3) E dX5_causeAgainst_44 (by decide) ?_
          refine g_goto (tgt := 49) E dX5_causeAgainst_45 (by decide) ?_
          exact g_iret E hE hr dX5_causeAgainst_49 (Nat.le_of_ble_eq_true rfl) (Nat.le_of_ble_eq_true rfl) ⟨S, rfl, by rw [cau_3 c_5 rfl (bI_f (P := (40 : Int32) < _) (fun q => Int32.not_lt.mpr c_30 q)) c_41], rfl⟩
      · refine g_iconst (v := 2) E dX5_causeAgainst_33 (by decide) ?_
        exact g_iret E hE hr dX5_causeAgainst_34 (Nat.le_of_ble_eq_true rfl) (Nat.le_of_ble_eq_true rfl) ⟨S, rfl, by rw [cau_2 c_5 rfl (by rw [bI_t (P := (40 : Int32) < _) (Int32.not_le.mp c_30)]; decide)], rfl⟩
    · exact absurd rfl c_14
  · refine g_iconst (v := 0) E dX5_causeAgainst_8 (by decide) ?_
    exact g_iret E hE hr dX5_causeAgainst_9 (Nat.le_of_ble_eq_true rfl) (Nat.le_of_ble_eq_true rfl) ⟨S, rfl, by rw [cau_0 c_5], rfl⟩
set_option maxHeartbeats 4000000 in
set_option maxRecDepth 100000 in
theorem m_X5_causeAgainst_SS (l : Launch) (hl : l.stackTraces = false) (D : va_G) (cy : Nat → ClassId) (e0 : Nat) {S : wS} {c : Nat → Nat} {ad : Nat → Nat → Nat} {i : Nat → Nat → Int32} {j : Nat → Nat → Int64} {p : Nat → Nat → Option Nat} {r : Nat → Nat → Int32} (hI : CI e0 S c ad i j p r) {q ap : Nat} (hqm : q ∈ sL S) (hqk : sK S q = 2) (hap : sI S 6 q = nI ap) (hap6 : ap < 6) {z : Nat} (hpn : sP S 1 q = some (ad 2 z)) (hz : z < c 2) {y : Nat} (hy : y < c 1) : cMet l yX5_causeAgainst wsX5_causeAgainst rm_X5_causeAgainst D cy e0 [.ref (ad 5 0), .ref (q), .ref (ad 1 y)] S (fun v S' => v = some (.int (cau (bI (sI S 10 q = 0 ∧ sI S 8 q < i 18 0 + (2 + 3 * r 3 ap))) (bI (i 11 z = 1 ∨ i 11 z = 4 ∨ sI S 8 q < ((p 2 z).elim (i 9 z) (i 4)))) (bI ((40 : Int32) < mxI (i 4 y) (sI S 9 q) - mnI (i 3 y) (sI S 8 q))) (bI (sI S 10 q = 0 ∧ 0 < cntI (fun k => (some y) ≠ some k ∧ i 2 k = (sI S 7 q) ∧ ¬ j 1 k = 0 ∧ i 3 k / 500 = ((mnI (i 3 y) (sI S 8 q)) / 500)) (c 1))))) ∧ S' = S) (fun _ _ => False) 0 0 := by
  refine gMet.of (cc := cX5_causeAgainst) (maxL := 3) (ret := (some .int)) hl (by decide) rfl (Nat.le_of_ble_eq_true rfl) ?_
  intro C E h1 h2 h3 hr hnm hT hE
  subst h1; subst h2; subst h3
  have E : gOk C cX5_causeAgainst 3 wsX5_causeAgainst RX5 e0 rm_X5_causeAgainst := E
  show G C (cW (xy C) S) 0 0 0 [(0, .ref (ad 5 0)), (1, .ref (q)), (2, .ref (ad 1 y))] []
  refine g_aload_n E dX5_causeAgainst_0 rfl 0 rfl ?_
  refine g_aload_n E dX5_causeAgainst_1 rfl 1 rfl ?_
  refine c_invV (n := 1) (rest := []) E (m_X5_isLate (xl C) E.tr (xD C) (xy C) e0 hI hqm hqk hap hap6) (hI.obj (kd := 5) (k := 0) (by omega) hI.c5).1 gX5_causeAgainst_X5_isLate rfl rfl rfl (by decide +kernel) ⟨Nat.le_of_ble_eq_true rfl, Nat.le_of_ble_eq_true rfl⟩ (wF_PW (hI.obj (kd := 5) (k := 0) (by omega) hI.c5).2) rfl rfl rfl rfl (Nat.le_of_ble_eq_true rfl) dX5_causeAgainst_2 ⟨Nat.le_of_ble_eq_true rfl, Nat.le_of_ble_eq_true rfl⟩ (fun _ _ h9 => h9.elim) (fun v9 S9_2 h9 => ?_)
  obtain ⟨hv9, hS9⟩ := h9
  rw [hv9, hS9]
  show G C (cW (xy C) S) 0 0 5 [(0, .ref (ad 5 0)), (1, .ref (q)), (2, .ref (ad 1 y))] [.int ((bI (sI S 10 (q) = 0 ∧ sI S 8 (q) < i 18 0 + (2 + 3 * r 3 ap))))]
  refine g_if_eq (tgt := 10) E dX5_causeAgainst_5 (by decide) (fun c_5 => ?_) (fun c_5 => ?_)
  · refine g_aload_n E dX5_causeAgainst_10 rfl 1 rfl ?_
    refine c_invS (n := 1) (rest := []) E (m_X5_breaksChain (xl C) E.tr (xD C) (xy C) e0 hI hqm hqk hpn hz) gX5_causeAgainst_X5_breaksChain rfl rfl rfl (by decide +kernel) ⟨Nat.le_of_ble_eq_true rfl, Nat.le_of_ble_eq_true rfl⟩ rfl rfl (Nat.le_of_ble_eq_true rfl) dX5_causeAgainst_11 ⟨Nat.le_of_ble_eq_true rfl, Nat.le_of_ble_eq_true rfl⟩ (fun _ _ h9 => h9.elim) (fun v9 S9_11 h9 => ?_)
    obtain ⟨hv9, hS9⟩ := h9
    rw [hv9, hS9]
    show G C (cW (xy C) S) 0 0 14 [(0, .ref (ad 5 0)), (1, .ref (q)), (2, .ref (ad 1 y))] [.int ((bI (i 11 z = 1 ∨ i 11 z = 4 ∨ sI S 8 q < ((p 2 z).elim (i 9 z) (i 4)))))]
    refine g_if_eq (tgt := 19) E dX5_causeAgainst_14 (by decide) (fun c_14 => ?_) (fun c_14 => ?_)
    · refine g_aload_n E dX5_causeAgainst_19 rfl 2 rfl ?_
      refine g_ifnull E dX5_causeAgainst_20 ?_
      refine g_aload_n E dX5_causeAgainst_23 rfl 2 rfl ?_
      refine g_aload_n E dX5_causeAgainst_24 rfl 1 rfl ?_
      refine c_invV (n := 1) (rest := []) E (m_X1_hoursWith (xl C) E.tr (xD C) (xy C) e0 (S := S) (hI.obj (kd := 1) (k := y) (by omega) hy).1 (hI.obj (kd := 1) (k := y) (by omega) hy).2 hqm hqk) (hI.obj (kd := 1) (k := y) (by omega) hy).1 gX5_causeAgainst_X1_hoursWith rfl rfl rfl (by decide +kernel) ⟨Nat.le_of_ble_eq_true rfl, Nat.le_of_ble_eq_true rfl⟩ (wF_Opening (hI.obj (kd := 1) (k := y) (by omega) hy).2) rfl rfl rfl rfl (Nat.le_of_ble_eq_true rfl) dX5_causeAgainst_25 ⟨Nat.le_of_ble_eq_true rfl, Nat.le_of_ble_eq_true rfl⟩ (fun _ _ h9 => h9.elim) (fun v9 S9_25 h9 => ?_)
      obtain ⟨hv9, hS9⟩ := h9
      have e1 : sI S 3 (ad 1 y) = i 3 y := hI.int (f := 3) hy
      have e2 : sI S 4 (ad 1 y) = i 4 y := hI.int (f := 4) hy
      rw [hv9, hS9, e1, e2]
      show G C (cW (xy C) S) 0 0 28 [(0, .ref (ad 5 0)), (1, .ref (q)), (2, .ref (ad 1 y))] [.int ((mxI (i 4 y) (sI S 9 q) - mnI (i 3 y) (sI S 8 q)))]
      refine g_bipush (v := 40) E dX5_causeAgainst_28 (by decide) ?_
      refine g_icmp_le (tgt := 35) E dX5_causeAgainst_30 (by decide) (fun c_30 => ?_) (fun c_30 => ?_)
      · refine g_aload_n E dX5_causeAgainst_35 rfl 0 rfl ?_
        refine g_aload_n E dX5_causeAgainst_36 rfl 1 rfl ?_
        refine g_aload_n E dX5_causeAgainst_37 rfl 2 rfl ?_
        refine c_invV (n := 2) (rest := []) E (m_X5_isTwice (xl C) E.tr (xD C) (xy C) e0 hI hqm hqk hy) (hI.obj (kd := 5) (k := 0) (by omega) hI.c5).1 gX5_causeAgainst_X5_isTwice rfl rfl rfl (by decide +kernel) ⟨Nat.le_of_ble_eq_true rfl, Nat.le_of_ble_eq_true rfl⟩ (wF_PW (hI.obj (kd := 5) (k := 0) (by omega) hI.c5).2) rfl rfl rfl rfl (Nat.le_of_ble_eq_true rfl) dX5_causeAgainst_38 ⟨Nat.le_of_ble_eq_true rfl, Nat.le_of_ble_eq_true rfl⟩ (fun _ _ h9 => h9.elim) (fun v9 S9_38 h9 => ?_)
        obtain ⟨hv9, hS9⟩ := h9
        rw [hv9, hS9]
        show G C (cW (xy C) S) 0 0 41 [(0, .ref (ad 5 0)), (1, .ref (q)), (2, .ref (ad 1 y))] [.int ((bI (sI S 10 q = 0 ∧ 0 < cntI (fun k => (some y) ≠ some k ∧ i 2 k = (sI S 7 q) ∧ ¬ j 1 k = 0 ∧ i 3 k / 500 = ((mnI (i 3 y) (sI S 8 q)) / 500)) (c 1))))]
        refine g_if_eq (tgt := 48) E dX5_causeAgainst_41 (by decide) (fun c_41 => ?_) (fun c_41 => ?_)
        · refine g_iconst (v := (-1)) E dX5_causeAgainst_48 (by decide) ?_
          exact g_iret E hE hr dX5_causeAgainst_49 (Nat.le_of_ble_eq_true rfl) (Nat.le_of_ble_eq_true rfl) ⟨S, rfl, by rw [cau_4 c_5 c_14 (bI_f (P := (40 : Int32) < _) (fun q => Int32.not_lt.mpr c_30 q)) c_41], rfl⟩
        · refine g_iconst (v := 3) E dX5_causeAgainst_44 (by decide) ?_
          refine g_goto (tgt := 49) E dX5_causeAgainst_45 (by decide) ?_
          exact g_iret E hE hr dX5_causeAgainst_49 (Nat.le_of_ble_eq_true rfl) (Nat.le_of_ble_eq_true rfl) ⟨S, rfl, by rw [cau_3 c_5 c_14 (bI_f (P := (40 : Int32) < _) (fun q => Int32.not_lt.mpr c_30 q)) c_41], rfl⟩
      · refine g_iconst (v := 2) E dX5_causeAgainst_33 (by decide) ?_
        exact g_iret E hE hr dX5_causeAgainst_34 (Nat.le_of_ble_eq_true rfl) (Nat.le_of_ble_eq_true rfl) ⟨S, rfl, by rw [cau_2 c_5 c_14 (by rw [bI_t (P := (40 : Int32) < _) (Int32.not_le.mp c_30)]; decide)], rfl⟩
    · refine g_iconst (v := 1) E dX5_causeAgainst_17 (by decide) ?_
      exact g_iret E hE hr dX5_causeAgainst_18 (Nat.le_of_ble_eq_true rfl) (Nat.le_of_ble_eq_true rfl) ⟨S, rfl, by rw [cau_1 c_5 c_14], rfl⟩
  · refine g_iconst (v := 0) E dX5_causeAgainst_8 (by decide) ?_
    exact g_iret E hE hr dX5_causeAgainst_9 (Nat.le_of_ble_eq_true rfl) (Nat.le_of_ble_eq_true rfl) ⟨S, rfl, by rw [cau_0 c_5], rfl⟩
