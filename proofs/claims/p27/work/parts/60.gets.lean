/-! choices without a decision, withdrawing -/
noncomputable def cIf {α : Type} (P : Prop) (a b : α) : α := @ite α P (Classical.propDecidable P) a b
theorem cIf_t {α : Type} {P : Prop} {a b : α} (h : P) : cIf P a b = a := if_pos h
theorem cIf_f {α : Type} {P : Prop} {a b : α} (h : ¬ P) : cIf P a b = b := if_neg h
abbrev wdT : Type := (Nat → Nat → Int32) × (Nat → Nat → Int64) × Int32
def cnJ (i : Nat → Nat → Int32) (j : Nat → Nat → Int64) (p : Nat → Nat → Option Nat) (k : Nat) : Nat → Nat → Int64 := (p 2 k).elim j (fun y => up2 j 1 y (j 1 y &&& (((1 : Int64) <<< ((i 5 k : Int32).toInt64 &&& 63)) ^^^ (-1))))
def wdH (p : Nat → Nat → Option Nat) (s : wdT) (k : Nat) : Prop := s.1 11 k = 0 ∧ ∃ z, p 1 k = some z ∧ s.1 11 z = 4
def wdC (p : Nat → Nat → Option Nat) (s : wdT) (k : Nat) : wdT := (up2 s.1 11 k 4, cnJ s.1 s.2.1 p k, s.2.2 + 1)
noncomputable def wdn (p : Nat → Nat → Option Nat) (s : wdT) (a : Nat) : Nat → wdT
  | 0 => s
  | n + 1 => cIf (wdH p (wdn p s a n) (a + n)) (wdC p (wdn p s a n) (a + n)) (wdn p s a n)
theorem wdn_t {p : Nat → Nat → Option Nat} {s : wdT} {a n : Nat} (h : wdH p (wdn p s a n) (a + n)) : wdn p s a (n + 1) = wdC p (wdn p s a n) (a + n) := cIf_t h
theorem wdn_f {p : Nat → Nat → Option Nat} {s : wdT} {a n : Nat} (h : ¬ wdH p (wdn p s a n) (a + n)) : wdn p s a (n + 1) = wdn p s a n := cIf_f h
/-- the bits of a long, as the library counts them -/
def bcA (x : Int64) : Int64 := x - ((x.toUInt64 >>> ((1 : Int32).toInt64.toUInt64 &&& Int64.toUInt64 63)).toInt64 &&& 6148914691236517205)
def bcB (x : Int64) : Int64 := (x &&& 3689348814741910323) + ((x.toUInt64 >>> ((2 : Int32).toInt64.toUInt64 &&& Int64.toUInt64 63)).toInt64 &&& 3689348814741910323)
def bcC (x : Int64) : Int64 := (x + (x.toUInt64 >>> ((4 : Int32).toInt64.toUInt64 &&& Int64.toUInt64 63)).toInt64) &&& 1085102592571150095
def bcD (s : Int32) (x : Int64) : Int64 := x + (x.toUInt64 >>> (s.toInt64.toUInt64 &&& Int64.toUInt64 63)).toInt64
def bcJ (x : Int64) : Int32 := (bcD 32 (bcD 16 (bcD 8 (bcC (bcB (bcA x)))))).toInt32 &&& 127
def shI (m : Int64) (fi en n : Int32) : Int32 := if bcJ m = 0 then 0 else (1000 + 100 * (en - fi)) / bcJ m + (if m &&& (-m) = (1 : Int64) <<< (n.toInt64 &&& 63) then (1000 + 100 * (en - fi)) - (1000 + 100 * (en - fi)) / bcJ m * bcJ m else 0)
abbrev rm_X5_state : Room := { frames := 7, cells := 1, slots := 6, locals := 121 }
set_option maxHeartbeats 4000000 in
set_option maxRecDepth 100000 in
theorem m_X5_state (l : Launch) (hl : l.stackTraces = false) (D : va_G) (cy : Nat → ClassId) (e0 : Nat) {S : wS} {c : Nat → Nat} {ad : Nat → Nat → Nat} {i : Nat → Nat → Int32} {j : Nat → Nat → Int64} {p : Nat → Nat → Option Nat} {r : Nat → Nat → Int32} (hI : CI e0 S c ad i j p r) {x : Int32} : cMet l yX5_state wsX5_state rm_X5_state D cy e0 [.ref (ad 5 0), .int (x)] S (fun v S' => S' = S ∧ ∃ k, k < c 2 ∧ x = nI k ∧ v = some (.int (i 11 k))) (fun X S' => X = "java/lang/IndexOutOfBoundsException" ∧ (∀ k, k < c 2 → x ≠ nI k) ∧ S' = S) 1 6 := by
  refine gMet.of (cc := cX5_state) (maxL := 2) (ret := (some .int)) hl (by decide) rfl (Nat.le_of_ble_eq_true rfl) ?_
  intro C E h1 h2 h3 hr hnm hT hE
  subst h1; subst h2; subst h3
  have E : gOk C cX5_state 2 wsX5_state RX5 e0 rm_X5_state := E
  show G C (cW (xy C) S) 0 0 0 [(0, .ref (ad 5 0)), (1, .int (x))] []
  refine g_aload_n E dX5_state_0 rfl 0 rfl ?_
  refine g_iload_n E dX5_state_1 rfl 1 rfl ?_
  refine c_invV (n := 1) (rest := []) E (m_X5_permitOf (xl C) E.tr (xD C) (xy C) e0 hI) (hI.obj (kd := 5) (k := 0) (by omega) hI.c5).1 gX5_state_X5_permitOf rfl rfl rfl (by decide +kernel) ⟨Nat.le_of_ble_eq_true rfl, Nat.le_of_ble_eq_true rfl⟩ (wF_PW (hI.obj (kd := 5) (k := 0) (by omega) hI.c5).2) rfl rfl rfl rfl (Nat.le_of_ble_eq_true rfl) dX5_state_2 ⟨Nat.le_of_ble_eq_true rfl, Nat.le_of_ble_eq_true rfl⟩ (fun X9 S9 h9 => by obtain ⟨hX9, hx9, hS9⟩ := h9; rw [hX9, hS9]; exact gx_out E hE hT (Nat.le_of_ble_eq_true rfl) (Nat.le_of_ble_eq_true rfl) ⟨S, rfl, ⟨rfl, hx9, rfl⟩⟩) (fun v9 S9_2 h9 => ?_)
  obtain ⟨hS9, k_2, hk_2, hx_2, hv9⟩ := h9
  rw [hv9, hS9]
  subst hx_2
  show G C (cW (xy C) S) 1 6 5 [(0, .ref (ad 5 0)), (1, .int (nI k_2))] [.ref (ad 2 k_2)]
  refine q_getN_Permit_state E hI hk_2 (fun _ h => (List.mem_cons_of_mem _ (List.mem_append_left _ (List.mem_append_left _ (List.mem_append_left _ (List.mem_append_right _ h)))))) tbF_RX5_146 dX5_state_5 ?_
  exact g_iret E hE hr dX5_state_8 (Nat.le_of_ble_eq_true rfl) (Nat.le_of_ble_eq_true rfl) ⟨S, rfl, rfl, k_2, hk_2, rfl, rfl⟩
abbrev rm_X5_cause : Room := { frames := 7, cells := 1, slots := 6, locals := 121 }
set_option maxHeartbeats 4000000 in
set_option maxRecDepth 100000 in
theorem m_X5_cause (l : Launch) (hl : l.stackTraces = false) (D : va_G) (cy : Nat → ClassId) (e0 : Nat) {S : wS} {c : Nat → Nat} {ad : Nat → Nat → Nat} {i : Nat → Nat → Int32} {j : Nat → Nat → Int64} {p : Nat → Nat → Option Nat} {r : Nat → Nat → Int32} (hI : CI e0 S c ad i j p r) {x : Int32} : cMet l yX5_cause wsX5_cause rm_X5_cause D cy e0 [.ref (ad 5 0), .int (x)] S (fun v S' => S' = S ∧ ∃ k, k < c 2 ∧ x = nI k ∧ v = some (.int (i 12 k))) (fun X S' => X = "java/lang/IndexOutOfBoundsException" ∧ (∀ k, k < c 2 → x ≠ nI k) ∧ S' = S) 1 6 := by
  refine gMet.of (cc := cX5_cause) (maxL := 2) (ret := (some .int)) hl (by decide) rfl (Nat.le_of_ble_eq_true rfl) ?_
  intro C E h1 h2 h3 hr hnm hT hE
  subst h1; subst h2; subst h3
  have E : gOk C cX5_cause 2 wsX5_cause RX5 e0 rm_X5_cause := E
  show G C (cW (xy C) S) 0 0 0 [(0, .ref (ad 5 0)), (1, .int (x))] []
  refine g_aload_n E dX5_cause_0 rfl 0 rfl ?_
  refine g_iload_n E dX5_cause_1 rfl 1 rfl ?_
  refine c_invV (n := 1) (rest := []) E (m_X5_permitOf (xl C) E.tr (xD C) (xy C) e0 hI) (hI.obj (kd := 5) (k := 0) (by omega) hI.c5).1 gX5_cause_X5_permitOf rfl rfl rfl (by decide +kernel) ⟨Nat.le_of_ble_eq_true rfl, Nat.le_of_ble_eq_true rfl⟩ (wF_PW (hI.obj (kd := 5) (k := 0) (by omega) hI.c5).2) rfl rfl rfl rfl (Nat.le_of_ble_eq_true rfl) dX5_cause_2 ⟨Nat.le_of_ble_eq_true rfl, Nat.le_of_ble_eq_true rfl⟩ (fun X9 S9 h9 => by obtain ⟨hX9, hx9, hS9⟩ := h9; rw [hX9, hS9]; exact gx_out E hE hT (Nat.le_of_ble_eq_true rfl) (Nat.le_of_ble_eq_true rfl) ⟨S, rfl, ⟨rfl, hx9, rfl⟩⟩) (fun v9 S9_2 h9 => ?_)
  obtain ⟨hS9, k_2, hk_2, hx_2, hv9⟩ := h9
  rw [hv9, hS9]
  subst hx_2
  show G C (cW (xy C) S) 1 6 5 [(0, .ref (ad 5 0)), (1, .int (nI k_2))] [.ref (ad 2 k_2)]
  refine q_getN_Permit_cause E hI hk_2 (fun _ h => (List.mem_cons_of_mem _ (List.mem_append_left _ (List.mem_append_left _ (List.mem_append_left _ (List.mem_append_right _ h)))))) tbF_RX5_179 dX5_cause_5 ?_
  exact g_iret E hE hr dX5_cause_8 (Nat.le_of_ble_eq_true rfl) (Nat.le_of_ble_eq_true rfl) ⟨S, rfl, rfl, k_2, hk_2, rfl, rfl⟩
abbrev rm_X5_from : Room := { frames := 7, cells := 1, slots := 6, locals := 121 }
set_option maxHeartbeats 4000000 in
set_option maxRecDepth 100000 in
theorem m_X5_from (l : Launch) (hl : l.stackTraces = false) (D : va_G) (cy : Nat → ClassId) (e0 : Nat) {S : wS} {c : Nat → Nat} {ad : Nat → Nat → Nat} {i : Nat → Nat → Int32} {j : Nat → Nat → Int64} {p : Nat → Nat → Option Nat} {r : Nat → Nat → Int32} (hI : CI e0 S c ad i j p r) {x : Int32} : cMet l yX5_from wsX5_from rm_X5_from D cy e0 [.ref (ad 5 0), .int (x)] S (fun v S' => S' = S ∧ ∃ k, k < c 2 ∧ x = nI k ∧ v = some (.int (((p 2 k).elim (i 8 k) (i 3))))) (fun X S' => X = "java/lang/IndexOutOfBoundsException" ∧ (∀ k, k < c 2 → x ≠ nI k) ∧ S' = S) 1 6 := by
  refine gMet.of (cc := cX5_from) (maxL := 2) (ret := (some .int)) hl (by decide) rfl (Nat.le_of_ble_eq_true rfl) ?_
  intro C E h1 h2 h3 hr hnm hT hE
  subst h1; subst h2; subst h3
  have E : gOk C cX5_from 2 wsX5_from RX5 e0 rm_X5_from := E
  show G C (cW (xy C) S) 0 0 0 [(0, .ref (ad 5 0)), (1, .int (x))] []
  refine g_aload_n E dX5_from_0 rfl 0 rfl ?_
  refine g_iload_n E dX5_from_1 rfl 1 rfl ?_
  refine c_invV (n := 1) (rest := []) E (m_X5_permitOf (xl C) E.tr (xD C) (xy C) e0 hI) (hI.obj (kd := 5) (k := 0) (by omega) hI.c5).1 gX5_from_X5_permitOf rfl rfl rfl (by decide +kernel) ⟨Nat.le_of_ble_eq_true rfl, Nat.le_of_ble_eq_true rfl⟩ (wF_PW (hI.obj (kd := 5) (k := 0) (by omega) hI.c5).2) rfl rfl rfl rfl (Nat.le_of_ble_eq_true rfl) dX5_from_2 ⟨Nat.le_of_ble_eq_true rfl, Nat.le_of_ble_eq_true rfl⟩ (fun X9 S9 h9 => by obtain ⟨hX9, hx9, hS9⟩ := h9; rw [hX9, hS9]; exact gx_out E hE hT (Nat.le_of_ble_eq_true rfl) (Nat.le_of_ble_eq_true rfl) ⟨S, rfl, ⟨rfl, hx9, rfl⟩⟩) (fun v9 S9_2 h9 => ?_)
  obtain ⟨hS9, k_2, hk_2, hx_2, hv9⟩ := h9
  rw [hv9, hS9]
  subst hx_2
  show G C (cW (xy C) S) 1 6 5 [(0, .ref (ad 5 0)), (1, .int (nI k_2))] [.ref (ad 2 k_2)]
  refine c_invV (n := 0) (rest := []) E (m_X2_firstHour (xl C) E.tr (xD C) (xy C) e0 hI hk_2) (hI.obj (kd := 2) (k := k_2) (by omega) hk_2).1 gX5_from_X2_firstHour rfl rfl rfl (by decide +kernel) ⟨Nat.le_of_ble_eq_true rfl, Nat.le_of_ble_eq_true rfl⟩ (wF_Permit (hI.obj (kd := 2) (k := k_2) (by omega) hk_2).2) rfl rfl rfl rfl (Nat.le_of_ble_eq_true rfl) dX5_from_5 ⟨Nat.le_of_ble_eq_true rfl, Nat.le_of_ble_eq_true rfl⟩ (fun _ _ h9 => h9.elim) (fun v9 S9_5 h9 => ?_)
  obtain ⟨hv9, hS9⟩ := h9
  rw [hv9, hS9]
  show G C (cW (xy C) S) 1 6 8 [(0, .ref (ad 5 0)), (1, .int (nI k_2))] [.int (((p 2 k_2).elim (i 8 k_2) (i 3)))]
  exact g_iret E hE hr dX5_from_8 (Nat.le_of_ble_eq_true rfl) (Nat.le_of_ble_eq_true rfl) ⟨S, rfl, rfl, k_2, hk_2, rfl, rfl⟩
abbrev rm_X5_end : Room := { frames := 7, cells := 1, slots := 6, locals := 121 }
set_option maxHeartbeats 4000000 in
set_option maxRecDepth 100000 in
theorem m_X5_end (l : Launch) (hl : l.stackTraces = false) (D : va_G) (cy : Nat → ClassId) (e0 : Nat) {S : wS} {c : Nat → Nat} {ad : Nat → Nat → Nat} {i : Nat → Nat → Int32} {j : Nat → Nat → Int64} {p : Nat → Nat → Option Nat} {r : Nat → Nat → Int32} (hI : CI e0 S c ad i j p r) {x : Int32} : cMet l yX5_end wsX5_end rm_X5_end D cy e0 [.ref (ad 5 0), .int (x)] S (fun v S' => S' = S ∧ ∃ k, k < c 2 ∧ x = nI k ∧ v = some (.int (((p 2 k).elim (i 9 k) (i 4))))) (fun X S' => X = "java/lang/IndexOutOfBoundsException" ∧ (∀ k, k < c 2 → x ≠ nI k) ∧ S' = S) 1 6 := by
  refine gMet.of (cc := cX5_end) (maxL := 2) (ret := (some .int)) hl (by decide) rfl (Nat.le_of_ble_eq_true rfl) ?_
  intro C E h1 h2 h3 hr hnm hT hE
  subst h1; subst h2; subst h3
  have E : gOk C cX5_end 2 wsX5_end RX5 e0 rm_X5_end := E
  show G C (cW (xy C) S) 0 0 0 [(0, .ref (ad 5 0)), (1, .int (x))] []
  refine g_aload_n E dX5_end_0 rfl 0 rfl ?_
  refine g_iload_n E dX5_end_1 rfl 1 rfl ?_
  refine c_invV (n := 1) (rest := []) E (m_X5_permitOf (xl C) E.tr (xD C) (xy C) e0 hI) (hI.obj (kd := 5) (k := 0) (by omega) hI.c5).1 gX5_end_X5_permitOf rfl rfl rfl (by decide +kernel) ⟨Nat.le_of_ble_eq_true rfl, Nat.le_of_ble_eq_true rfl⟩ (wF_PW (hI.obj (kd := 5) (k := 0) (by omega) hI.c5).2) rfl rfl rfl rfl (Nat.le_of_ble_eq_true rfl) dX5_end_2 ⟨Nat.le_of_ble_eq_true rfl, Nat.le_of_ble_eq_true rfl⟩ (fun X9 S9 h9 => by obtain ⟨hX9, hx9, hS9⟩ := h9; rw [hX9, hS9]; exact gx_out E hE hT (Nat.le_of_ble_eq_true rfl) (Nat.le_of_ble_eq_true rfl) ⟨S, rfl, ⟨rfl, hx9, rfl⟩⟩) (fun v9 S9_2 h9 => ?_)
  obtain ⟨hS9, k_2, hk_2, hx_2, hv9⟩ := h9
  rw [hv9, hS9]
  subst hx_2
  show G C (cW (xy C) S) 1 6 5 [(0, .ref (ad 5 0)), (1, .int (nI k_2))] [.ref (ad 2 k_2)]
  refine c_invV (n := 0) (rest := []) E (m_X2_endHour (xl C) E.tr (xD C) (xy C) e0 hI hk_2) (hI.obj (kd := 2) (k := k_2) (by omega) hk_2).1 gX5_end_X2_endHour rfl rfl rfl (by decide +kernel) ⟨Nat.le_of_ble_eq_true rfl, Nat.le_of_ble_eq_true rfl⟩ (wF_Permit (hI.obj (kd := 2) (k := k_2) (by omega) hk_2).2) rfl rfl rfl rfl (Nat.le_of_ble_eq_true rfl) dX5_end_5 ⟨Nat.le_of_ble_eq_true rfl, Nat.le_of_ble_eq_true rfl⟩ (fun _ _ h9 => h9.elim) (fun v9 S9_5 h9 => ?_)
  obtain ⟨hv9, hS9⟩ := h9
  rw [hv9, hS9]
  show G C (cW (xy C) S) 1 6 8 [(0, .ref (ad 5 0)), (1, .int (nI k_2))] [.int (((p 2 k_2).elim (i 9 k_2) (i 4)))]
  exact g_iret E hE hr dX5_end_8 (Nat.le_of_ble_eq_true rfl) (Nat.le_of_ble_eq_true rfl) ⟨S, rfl, rfl, k_2, hk_2, rfl, rfl⟩
abbrev rm_X5_fine : Room := { frames := 7, cells := 1, slots := 6, locals := 121 }
set_option maxHeartbeats 4000000 in
set_option maxRecDepth 100000 in
theorem m_X5_fine (l : Launch) (hl : l.stackTraces = false) (D : va_G) (cy : Nat → ClassId) (e0 : Nat) {S : wS} {c : Nat → Nat} {ad : Nat → Nat → Nat} {i : Nat → Nat → Int32} {j : Nat → Nat → Int64} {p : Nat → Nat → Option Nat} {r : Nat → Nat → Int32} (hI : CI e0 S c ad i j p r) {x : Int32} : cMet l yX5_fine wsX5_fine rm_X5_fine D cy e0 [.ref (ad 5 0), .int (x)] S (fun v S' => S' = S ∧ ∃ k, k < c 2 ∧ x = nI k ∧ v = some (.long (2 * j 2 k))) (fun X S' => X = "java/lang/IndexOutOfBoundsException" ∧ (∀ k, k < c 2 → x ≠ nI k) ∧ S' = S) 1 6 := by
  refine gMet.of (cc := cX5_fine) (maxL := 2) (ret := (some .long)) hl (by decide) rfl (Nat.le_of_ble_eq_true rfl) ?_
  intro C E h1 h2 h3 hr hnm hT hE
  subst h1; subst h2; subst h3
  have E : gOk C cX5_fine 2 wsX5_fine RX5 e0 rm_X5_fine := E
  show G C (cW (xy C) S) 0 0 0 [(0, .ref (ad 5 0)), (1, .int (x))] []
  refine g_aload_n E dX5_fine_0 rfl 0 rfl ?_
  refine g_iload_n E dX5_fine_1 rfl 1 rfl ?_
  refine c_invV (n := 1) (rest := []) E (m_X5_permitOf (xl C) E.tr (xD C) (xy C) e0 hI) (hI.obj (kd := 5) (k := 0) (by omega) hI.c5).1 gX5_fine_X5_permitOf rfl rfl rfl (by decide +kernel) ⟨Nat.le_of_ble_eq_true rfl, Nat.le_of_ble_eq_true rfl⟩ (wF_PW (hI.obj (kd := 5) (k := 0) (by omega) hI.c5).2) rfl rfl rfl rfl (Nat.le_of_ble_eq_true rfl) dX5_fine_2 ⟨Nat.le_of_ble_eq_true rfl, Nat.le_of_ble_eq_true rfl⟩ (fun X9 S9 h9 => by obtain ⟨hX9, hx9, hS9⟩ := h9; rw [hX9, hS9]; exact gx_out E hE hT (Nat.le_of_ble_eq_true rfl) (Nat.le_of_ble_eq_true rfl) ⟨S, rfl, ⟨rfl, hx9, rfl⟩⟩) (fun v9 S9_2 h9 => ?_)
  obtain ⟨hS9, k_2, hk_2, hx_2, hv9⟩ := h9
  rw [hv9, hS9]
  subst hx_2
  show G C (cW (xy C) S) 1 6 5 [(0, .ref (ad 5 0)), (1, .int (nI k_2))] [.ref (ad 2 k_2)]
  refine c_invV (n := 0) (rest := []) E (m_X2_fineSoFar (xl C) E.tr (xD C) (xy C) e0 hI hk_2) (hI.obj (kd := 2) (k := k_2) (by omega) hk_2).1 gX5_fine_X2_fineSoFar rfl rfl rfl (by decide +kernel) ⟨Nat.le_of_ble_eq_true rfl, Nat.le_of_ble_eq_true rfl⟩ (wF_Permit (hI.obj (kd := 2) (k := k_2) (by omega) hk_2).2) rfl rfl rfl rfl (Nat.le_of_ble_eq_true rfl) dX5_fine_5 ⟨Nat.le_of_ble_eq_true rfl, Nat.le_of_ble_eq_true rfl⟩ (fun _ _ h9 => h9.elim) (fun v9 S9_5 h9 => ?_)
  obtain ⟨hv9, hS9⟩ := h9
  rw [hv9, hS9]
  show G C (cW (xy C) S) 1 6 8 [(0, .ref (ad 5 0)), (1, .int (nI k_2))] [.long ((2 * j 2 k_2))]
  exact g_lret E hE hr dX5_fine_8 (Nat.le_of_ble_eq_true rfl) (Nat.le_of_ble_eq_true rfl) ⟨S, rfl, rfl, k_2, hk_2, rfl, rfl⟩
abbrev rm_X5_minutes : Room := { frames := 7, cells := 1, slots := 6, locals := 121 }
set_option maxHeartbeats 4000000 in
set_option maxRecDepth 100000 in
theorem m_X5_minutes (l : Launch) (hl : l.stackTraces = false) (D : va_G) (cy : Nat → ClassId) (e0 : Nat) {S : wS} {c : Nat → Nat} {ad : Nat → Nat → Nat} {i : Nat → Nat → Int32} {j : Nat → Nat → Int64} {p : Nat → Nat → Option Nat} {r : Nat → Nat → Int32} (hI : CI e0 S c ad i j p r) {x : Int32} : cMet l yX5_minutes wsX5_minutes rm_X5_minutes D cy e0 [.ref (ad 5 0), .int (x)] S (fun v S' => S' = S ∧ ∃ k, k < c 0 ∧ x = nI k ∧ v = some (.long (j 0 k))) (fun X S' => X = "java/lang/IndexOutOfBoundsException" ∧ (∀ k, k < c 0 → x ≠ nI k) ∧ S' = S) 1 6 := by
  refine gMet.of (cc := cX5_minutes) (maxL := 2) (ret := (some .long)) hl (by decide) rfl (Nat.le_of_ble_eq_true rfl) ?_
  intro C E h1 h2 h3 hr hnm hT hE
  subst h1; subst h2; subst h3
  have E : gOk C cX5_minutes 2 wsX5_minutes RX5 e0 rm_X5_minutes := E
  show G C (cW (xy C) S) 0 0 0 [(0, .ref (ad 5 0)), (1, .int (x))] []
  refine g_aload_n E dX5_minutes_0 rfl 0 rfl ?_
  refine g_iload_n E dX5_minutes_1 rfl 1 rfl ?_
  refine c_invV (n := 1) (rest := []) E (m_X5_lineOf (xl C) E.tr (xD C) (xy C) e0 hI) (hI.obj (kd := 5) (k := 0) (by omega) hI.c5).1 gX5_minutes_X5_lineOf rfl rfl rfl (by decide +kernel) ⟨Nat.le_of_ble_eq_true rfl, Nat.le_of_ble_eq_true rfl⟩ (wF_PW (hI.obj (kd := 5) (k := 0) (by omega) hI.c5).2) rfl rfl rfl rfl (Nat.le_of_ble_eq_true rfl) dX5_minutes_2 ⟨Nat.le_of_ble_eq_true rfl, Nat.le_of_ble_eq_true rfl⟩ (fun X9 S9 h9 => by obtain ⟨hX9, hx9, hS9⟩ := h9; rw [hX9, hS9]; exact gx_out E hE hT (Nat.le_of_ble_eq_true rfl) (Nat.le_of_ble_eq_true rfl) ⟨S, rfl, ⟨rfl, hx9, rfl⟩⟩) (fun v9 S9_2 h9 => ?_)
  obtain ⟨hS9, k_2, hk_2, hx_2, hv9⟩ := h9
  rw [hv9, hS9]
  subst hx_2
  show G C (cW (xy C) S) 1 6 5 [(0, .ref (ad 5 0)), (1, .int (nI k_2))] [.ref (ad 0 k_2)]
  refine q_getN_Line_counted E hI hk_2 (fun _ h => (List.mem_cons_of_mem _ (List.mem_append_left _ (List.mem_append_left _ (List.mem_append_left _ (List.mem_append_right _ h)))))) tbF_RX5_110 dX5_minutes_5 ?_
  exact g_lret E hE hr dX5_minutes_8 (Nat.le_of_ble_eq_true rfl) (Nat.le_of_ble_eq_true rfl) ⟨S, rfl, rfl, k_2, hk_2, rfl, rfl⟩
abbrev rm_X5_together : Room := { frames := 7, cells := 1, slots := 6, locals := 121 }
set_option maxHeartbeats 4000000 in
set_option maxRecDepth 100000 in
theorem m_X5_together (l : Launch) (hl : l.stackTraces = false) (D : va_G) (cy : Nat → ClassId) (e0 : Nat) {S : wS} {c : Nat → Nat} {ad : Nat → Nat → Nat} {i : Nat → Nat → Int32} {j : Nat → Nat → Int64} {p : Nat → Nat → Option Nat} {r : Nat → Nat → Int32} (hI : CI e0 S c ad i j p r) {x : Int32} : cMet l yX5_together wsX5_together rm_X5_together D cy e0 [.ref (ad 5 0), .int (x)] S (fun v S' => S' = S ∧ ∃ k, k < c 2 ∧ x = nI k ∧ v = some (.long ((p 2 k).elim 0 (j 1)))) (fun X S' => X = "java/lang/IndexOutOfBoundsException" ∧ (∀ k, k < c 2 → x ≠ nI k) ∧ S' = S) 1 6 := by
  refine gMet.of (cc := cX5_together) (maxL := 3) (ret := (some .long)) hl (by decide) rfl (Nat.le_of_ble_eq_true rfl) ?_
  intro C E h1 h2 h3 hr hnm hT hE
  subst h1; subst h2; subst h3
  have E : gOk C cX5_together 3 wsX5_together RX5 e0 rm_X5_together := E
  show G C (cW (xy C) S) 0 0 0 [(0, .ref (ad 5 0)), (1, .int (x))] []
  refine g_aload_n E dX5_together_0 rfl 0 rfl ?_
  refine g_iload_n E dX5_together_1 rfl 1 rfl ?_
  refine c_invV (n := 1) (rest := []) E (m_X5_permitOf (xl C) E.tr (xD C) (xy C) e0 hI) (hI.obj (kd := 5) (k := 0) (by omega) hI.c5).1 gX5_together_X5_permitOf rfl rfl rfl (by decide +kernel) ⟨Nat.le_of_ble_eq_true rfl, Nat.le_of_ble_eq_true rfl⟩ (wF_PW (hI.obj (kd := 5) (k := 0) (by omega) hI.c5).2) rfl rfl rfl rfl (Nat.le_of_ble_eq_true rfl) dX5_together_2 ⟨Nat.le_of_ble_eq_true rfl, Nat.le_of_ble_eq_true rfl⟩ (fun X9 S9 h9 => by obtain ⟨hX9, hx9, hS9⟩ := h9; rw [hX9, hS9]; exact gx_out E hE hT (Nat.le_of_ble_eq_true rfl) (Nat.le_of_ble_eq_true rfl) ⟨S, rfl, ⟨rfl, hx9, rfl⟩⟩) (fun v9 S9_2 h9 => ?_)
  obtain ⟨hS9, k_2, hk_2, hx_2, hv9⟩ := h9
  rw [hv9, hS9]
  subst hx_2
  show G C (cW (xy C) S) 1 6 5 [(0, .ref (ad 5 0)), (1, .int (nI k_2))] [.ref (ad 2 k_2)]
  refine q_getN_Permit_opening E hI hk_2 (fun _ h => (List.mem_cons_of_mem _ (List.mem_append_left _ (List.mem_append_left _ (List.mem_append_left _ (List.mem_append_left _ (List.mem_append_right _ h))))))) tbF_RX5_185 dX5_together_5 (fun n_5 => ?_) (fun y_5 n_5 b_5 => ?_)
  · refine g_astore_nN (L' := [(2, .null), (0, .ref (ad 5 0)), (1, .int (nI k_2))]) E dX5_together_8 rfl (by decide) rfl ?_
    refine g_aload_nN E dX5_together_9 rfl 0 rfl ?_
    refine g_ifnonnullN E dX5_together_10 ?_
    refine g_lconst (v := 0) E dX5_together_13 (by decide) ?_
    refine g_goto (tgt := 21) E dX5_together_14 (by decide) ?_
    exact g_lret E hE hr dX5_together_21 (Nat.le_of_ble_eq_true rfl) (Nat.le_of_ble_eq_true rfl) ⟨S, rfl, rfl, k_2, hk_2, rfl, by rw [n_5]; rfl⟩
  · refine g_astore_n (L' := [(2, .ref (ad 1 y_5)), (0, .ref (ad 5 0)), (1, .int (nI k_2))]) E dX5_together_8 rfl (by decide) rfl ?_
    refine g_aload_n E dX5_together_9 rfl 0 rfl ?_
    refine g_ifnonnull (tgt := 17) E dX5_together_10 (by decide) ?_
    refine g_aload_n E dX5_together_17 rfl 0 rfl ?_
    refine q_getN_Opening_members E hI b_5 (fun _ h => (List.mem_cons_of_mem _ (List.mem_append_left _ (List.mem_append_left _ (List.mem_append_left _ (List.mem_append_right _ h)))))) tbF_RX5_189 dX5_together_18 ?_
    exact g_lret E hE hr dX5_together_21 (Nat.le_of_ble_eq_true rfl) (Nat.le_of_ble_eq_true rfl) ⟨S, rfl, rfl, k_2, hk_2, rfl, by rw [n_5]; rfl⟩
abbrev rm_X5_points : Room := { frames := 7, cells := 1, slots := 6, locals := 120 }
set_option maxHeartbeats 4000000 in
set_option maxRecDepth 100000 in
theorem m_X5_points (l : Launch) (hl : l.stackTraces = false) (D : va_G) (cy : Nat → ClassId) (e0 : Nat) {S : wS} {c : Nat → Nat} {ad : Nat → Nat → Nat} {i : Nat → Nat → Int32} {j : Nat → Nat → Int64} {p : Nat → Nat → Option Nat} {r : Nat → Nat → Int32} (hI : CI e0 S c ad i j p r) {x : Int32} : cMet l yX5_points wsX5_points rm_X5_points D cy e0 [.ref (ad 5 0), .int (x)] S (fun v S' => S' = S ∧ ∃ k, k < 6 ∧ x = nI k ∧ v = some (.int (r 3 k))) (fun X S' => X = "java/lang/IndexOutOfBoundsException" ∧ (∀ k, k < 6 → x ≠ nI k) ∧ S' = S) 1 6 := by
  refine gMet.of (cc := cX5_points) (maxL := 2) (ret := (some .int)) hl (by decide) rfl (Nat.le_of_ble_eq_true rfl) ?_
  intro C E h1 h2 h3 hr hnm hT hE
  subst h1; subst h2; subst h3
  have E : gOk C cX5_points 2 wsX5_points RX5 e0 rm_X5_points := E
  show G C (cW (xy C) S) 0 0 0 [(0, .ref (ad 5 0)), (1, .int (x))] []
  refine g_iload_n E dX5_points_0 rfl 1 rfl ?_
  refine c_invS (n := 1) (rest := []) E (m_X5_checkApplicant (xl C) E.tr (xD C) (xy C) e0 (S := S) ) gX5_points_X5_checkApplicant rfl rfl rfl (by decide +kernel) ⟨Nat.le_of_ble_eq_true rfl, Nat.le_of_ble_eq_true rfl⟩ rfl rfl (Nat.le_of_ble_eq_true rfl) dX5_points_1 ⟨Nat.le_of_ble_eq_true rfl, Nat.le_of_ble_eq_true rfl⟩ (fun X9 S9 h9 => by obtain ⟨hX9, hx9, hS9⟩ := h9; rw [hX9, hS9]; exact gx_out E hE hT (Nat.le_of_ble_eq_true rfl) (Nat.le_of_ble_eq_true rfl) ⟨S, rfl, ⟨rfl, hx9, rfl⟩⟩) (fun v9 S9_1 h9 => ?_)
  obtain ⟨hv9, hS9, k_1, hk_1, hx_1⟩ := h9
  rw [hv9, hS9]
  subst hx_1
  show G C (cW (xy C) S) 1 6 4 [(0, .ref (ad 5 0)), (1, .int (nI k_1))] []
  refine g_aload_n E dX5_points_4 rfl 0 rfl ?_
  refine q_get_PW_points E hI (fun _ h => (List.mem_cons_of_mem _ (List.mem_append_left _ (List.mem_append_right _ h)))) (List.mem_cons_of_mem _ (List.mem_append_left _ (List.mem_append_left _ (List.mem_of_getElem? (i := 0) rfl)))) dX5_points_5 ?_
  refine g_iload_n E dX5_points_8 rfl 1 rfl ?_
  refine q_iald E hI (hI.c7 (by omega)) k_1 rfl (by first | omega | (rw [alen_w (by omega) (by omega)]; omega) | (rw [alen_s]; omega) | (show _ < 24; omega) | (show _ < 6; omega)) dX5_points_9 ?_
  exact g_iret E hE hr dX5_points_10 (Nat.le_of_ble_eq_true rfl) (Nat.le_of_ble_eq_true rfl) ⟨S, rfl, rfl, k_1, hk_1, rfl, rfl⟩
abbrev rm_J13_bitCount_95d88 : Room := { frames := 0, cells := 0, slots := 0, locals := 0 }
set_option maxHeartbeats 4000000 in
set_option maxRecDepth 100000 in
theorem m_J13_bitCount_95d88 (l : Launch) (hl : l.stackTraces = false) (D : va_G) (cy : Nat → ClassId) (e0 : Nat) {S : wS}  {x : Int64} : cMet l yJ13_bitCount_95d88 wsJ13_bitCount_95d88 rm_J13_bitCount_95d88 D cy e0 [.long (x)] S (fun v S' => v = some (.int (bcJ x)) ∧ S' = S) (fun _ _ => False) 0 0 := by
  refine gMet.of (cc := cJ13_bitCount_95d88) (maxL := 2) (ret := (some .int)) hl (by decide) rfl (Nat.le_of_ble_eq_true rfl) ?_
  intro C E h1 h2 h3 hr hnm hT hE
  subst h1; subst h2; subst h3
  have E : gOk C cJ13_bitCount_95d88 2 wsJ13_bitCount_95d88 RJ13 e0 rm_J13_bitCount_95d88 := E
  show G C (cW (xy C) S) 0 0 0 [(0, .long (x))] []
  refine g_lload_n E dJ13_bitCount_95d88_0 rfl 0 rfl ?_
  refine g_lload_n E dJ13_bitCount_95d88_1 rfl 0 rfl ?_
  refine g_iconst (v := 1) E dJ13_bitCount_95d88_2 (by decide) ?_
  refine g_lushr E dJ13_bitCount_95d88_3 rfl ?_
  refine g_ldc2 E (List.mem_cons_of_mem _ (List.mem_of_getElem? (i := 0) rfl)) dJ13_bitCount_95d88_4 ?_
  refine g_land E dJ13_bitCount_95d88_7 ?_
  refine g_lsub E dJ13_bitCount_95d88_8 ?_
  refine g_lstore_n (L' := [(0, .long ((x - (((x : Int64).toUInt64 >>> ((1 : Int32).toInt64.toUInt64 &&& Int64.toUInt64 63)).toInt64 &&& (6148914691236517205)))))]) E dJ13_bitCount_95d88_9 rfl (by decide) rfl ?_
  refine g_lload_n E dJ13_bitCount_95d88_10 rfl 0 rfl ?_
  refine g_ldc2 E (List.mem_cons_of_mem _ (List.mem_of_getElem? (i := 1) rfl)) dJ13_bitCount_95d88_11 ?_
  refine g_land E dJ13_bitCount_95d88_14 ?_
  refine g_lload_n E dJ13_bitCount_95d88_15 rfl 0 rfl ?_
  refine g_iconst (v := 2) E dJ13_bitCount_95d88_16 (by decide) ?_
  refine g_lushr E dJ13_bitCount_95d88_17 rfl ?_
  refine g_ldc2 E (List.mem_cons_of_mem _ (List.mem_of_getElem? (i := 1) rfl)) dJ13_bitCount_95d88_18 ?_
  refine g_land E dJ13_bitCount_95d88_21 ?_
  refine g_ladd E dJ13_bitCount_95d88_22 ?_
  refine g_lstore_n (L' := [(0, .long ((((x - (((x : Int64).toUInt64 >>> ((1 : Int32).toInt64.toUInt64 &&& Int64.toUInt64 63)).toInt64 &&& (6148914691236517205))) &&& (3689348814741910323)) + ((((x - (((x : Int64).toUInt64 >>> ((1 : Int32).toInt64.toUInt64 &&& Int64.toUInt64 63)).toInt64 &&& (6148914691236517205))) : Int64).toUInt64 >>> ((2 : Int32).toInt64.toUInt64 &&& Int64.toUInt64 63)).toInt64 &&& (3689348814741910323)))))]) E dJ13_bitCount_95d88_23 rfl (by decide) rfl ?_
  refine g_lload_n E dJ13_bitCount_95d88_24 rfl 0 rfl ?_
  refine g_lload_n E dJ13_bitCount_95d88_25 rfl 0 rfl ?_
  refine g_iconst (v := 4) E dJ13_bitCount_95d88_26 (by decide) ?_
  refine g_lushr E dJ13_bitCount_95d88_27 rfl ?_
  refine g_ladd E dJ13_bitCount_95d88_28 ?_
  refine g_ldc2 E (List.mem_cons_of_mem _ (List.mem_of_getElem? (i := 2) rfl)) dJ13_bitCount_95d88_29 ?_
  refine g_land E dJ13_bitCount_95d88_32 ?_
  refine g_lstore_n (L' := [(0, .long ((((((x - (((x : Int64).toUInt64 >>> ((1 : Int32).toInt64.toUInt64 &&& Int64.toUInt64 63)).toInt64 &&& (6148914691236517205))) &&& (3689348814741910323)) + ((((x - (((x : Int64).toUInt64 >>> ((1 : Int32).toInt64.toUInt64 &&& Int64.toUInt64 63)).toInt64 &&& (6148914691236517205))) : Int64).toUInt64 >>> ((2 : Int32).toInt64.toUInt64 &&& Int64.toUInt64 63)).toInt64 &&& (3689348814741910323))) + (((((x - (((x : Int64).toUInt64 >>> ((1 : Int32).toInt64.toUInt64 &&& Int64.toUInt64 63)).toInt64 &&& (6148914691236517205))) &&& (3689348814741910323)) + ((((x - (((x : Int64).toUInt64 >>> ((1 : Int32).toInt64.toUInt64 &&& Int64.toUInt64 63)).toInt64 &&& (6148914691236517205))) : Int64).toUInt64 >>> ((2 : Int32).toInt64.toUInt64 &&& Int64.toUInt64 63)).toInt64 &&& (3689348814741910323))) : Int64).toUInt64 >>> ((4 : Int32).toInt64.toUInt64 &&& Int64.toUInt64 63)).toInt64) &&& (1085102592571150095))))]) E dJ13_bitCount_95d88_33 rfl (by decide) rfl ?_
  refine g_lload_n E dJ13_bitCount_95d88_34 rfl 0 rfl ?_
  refine g_lload_n E dJ13_bitCount_95d88_35 rfl 0 rfl ?_
  refine g_bipush (v := 8) E dJ13_bitCount_95d88_36 (by decide) ?_
  refine g_lushr E dJ13_bitCount_95d88_38 rfl ?_
  refine g_ladd E dJ13_bitCount_95d88_39 ?_
  refine g_lstore_n (L' := [(0, .long (((((((x - (((x : Int64).toUInt64 >>> ((1 : Int32).toInt64.toUInt64 &&& Int64.toUInt64 63)).toInt64 &&& (6148914691236517205))) &&& (3689348814741910323)) + ((((x - (((x : Int64).toUInt64 >>> ((1 : Int32).toInt64.toUInt64 &&& Int64.toUInt64 63)).toInt64 &&& (6148914691236517205))) : Int64).toUInt64 >>> ((2 : Int32).toInt64.toUInt64 &&& Int64.toUInt64 63)).toInt64 &&& (3689348814741910323))) + (((((x - (((x : Int64).toUInt64 >>> ((1 : Int32).toInt64.toUInt64 &&& Int64.toUInt64 63)).toInt64 &&& (6148914691236517205))) &&& (3689348814741910323)) + ((((x - (((x : Int64).toUInt64 >>> ((1 : Int32).toInt64.toUInt64 &&& Int64.toUInt64 63)).toInt64 &&& (6148914691236517205))) : Int64).toUInt64 >>> ((2 : Int32).toInt64.toUInt64 &&& Int64.toUInt64 63)).toInt64 &&& (3689348814741910323))) : Int64).toUInt64 >>> ((4 : Int32).toInt64.toUInt64 &&& Int64.toUInt64 63)).toInt64) &&& (1085102592571150095)) + (((((((x - (((x : Int64).toUInt64 >>> ((1 : Int32).toInt64.toUInt64 &&& Int64.toUInt64 63)).toInt64 &&& (6148914691236517205))) &&& (3689348814741910323)) + ((((x - (((x : Int64).toUInt64 >>> ((1 : Int32).toInt64.toUInt64 &&& Int64.toUInt64 63)).toInt64 &&& (6148914691236517205))) : Int64).toUInt64 >>> ((2 : Int32).toInt64.toUInt64 &&& Int64.toUInt64 63)).toInt64 &&& (3689348814741910323))) + (((((x - (((x : Int64).toUInt64 >>> ((1 : Int32).toInt64.toUInt64 &&& Int64.toUInt64 63)).toInt64 &&& (6148914691236517205))) &&& (3689348814741910323)) + ((((x - (((x : Int64).toUInt64 >>> ((1 : Int32).toInt64.toUInt64 &&& Int64.toUInt64 63)).toInt64 &&& (6148914691236517205))) : Int64).toUInt64 >>> ((2 : Int32).toInt64.toUInt64 &&& Int64.toUInt64 63)).toInt64 &&& (3689348814741910323))) : Int64).toUInt64 >>> ((4 : Int32).toInt64.toUInt64 &&& Int64.toUInt64 63)).toInt64) &&& (1085102592571150095)) : Int64).toUInt64 >>> ((8 : Int32).toInt64.toUInt64 &&& Int64.toUInt64 63)).toInt64)))]) E dJ13_bitCount_95d88_40 rfl (by decide) rfl ?_
  refine g_lload_n E dJ13_bitCount_95d88_41 rfl 0 rfl ?_
  refine g_lload_n E dJ13_bitCount_95d88_42 rfl 0 rfl ?_
  refine g_bipush (v := 16) E dJ13_bitCount_95d88_43 (by decide) ?_
  refine g_lushr E dJ13_bitCount_95d88_45 rfl ?_
  refine g_ladd E dJ13_bitCount_95d88_46 ?_
  refine g_lstore_n (L' := [(0, .long ((((((((x - (((x : Int64).toUInt64 >>> ((1 : Int32).toInt64.toUInt64 &&& Int64.toUInt64 63)).toInt64 &&& (6148914691236517205))) &&& (3689348814741910323)) + ((((x - (((x : Int64).toUInt64 >>> ((1 : Int32).toInt64.toUInt64 &&& Int64.toUInt64 63)).toInt64 &&& (6148914691236517205))) : Int64).toUInt64 >>> ((2 : Int32).toInt64.toUInt64 &&& Int64.toUInt64 63)).toInt64 &&& (3689348814741910323))) + (((((x - (((x : Int64).toUInt64 >>> ((1 : Int32).toInt64.toUInt64 &&& Int64.toUInt64 63)).toInt64 &&& (6148914691236517205))) &&& (3689348814741910323)) + ((((x - (((x : Int64).toUInt64 >>> ((1 : Int32).toInt64.toUInt64 &&& Int64.toUInt64 63)).toInt64 &&& (6148914691236517205))) : Int64).toUInt64 >>> ((2 : Int32).toInt64.toUInt64 &&& Int64.toUInt64 63)).toInt64 &&& (3689348814741910323))) : Int64).toUInt64 >>> ((4 : Int32).toInt64.toUInt64 &&& Int64.toUInt64 63)).toInt64) &&& (1085102592571150095)) + (((((((x - (((x : Int64).toUInt64 >>> ((1 : Int32).toInt64.toUInt64 &&& Int64.toUInt64 63)).toInt64 &&& (6148914691236517205))) &&& (3689348814741910323)) + ((((x - (((x : Int64).toUInt64 >>> ((1 : Int32).toInt64.toUInt64 &&& Int64.toUInt64 63)).toInt64 &&& (6148914691236517205))) : Int64).toUInt64 >>> ((2 : Int32).toInt64.toUInt64 &&& Int64.toUInt64 63)).toInt64 &&& (3689348814741910323))) + (((((x - (((x : Int64).toUInt64 >>> ((1 : Int32).toInt64.toUInt64 &&& Int64.toUInt64 63)).toInt64 &&& (6148914691236517205))) &&& (3689348814741910323)) + ((((x - (((x : Int64).toUInt64 >>> ((1 : Int32).toInt64.toUInt64 &&& Int64.toUInt64 63)).toInt64 &&& (6148914691236517205))) : Int64).toUInt64 >>> ((2 : Int32).toInt64.toUInt64 &&& Int64.toUInt64 63)).toInt64 &&& (3689348814741910323))) : Int64).toUInt64 >>> ((4 : Int32).toInt64.toUInt64 &&& Int64.toUInt64 63)).toInt64) &&& (1085102592571150095)) : Int64).toUInt64 >>> ((8 : Int32).toInt64.toUInt64 &&& Int64.toUInt64 63)).toInt64) + ((((((((x - (((x : Int64).toUInt64 >>> ((1 : Int32).toInt64.toUInt64 &&& Int64.toUInt64 63)).toInt64 &&& (6148914691236517205))) &&& (3689348814741910323)) + ((((x - (((x : Int64).toUInt64 >>> ((1 : Int32).toInt64.toUInt64 &&& Int64.toUInt64 63)).toInt64 &&& (6148914691236517205))) : Int64).toUInt64 >>> ((2 : Int32).toInt64.toUInt64 &&& Int64.toUInt64 63)).toInt64 &&& (3689348814741910323))) + (((((x - (((x : Int64).toUInt64 >>> ((1 : Int32).toInt64.toUInt64 &&& Int64.toUInt64 63)).toInt64 &&& (6148914691236517205))) &&& (3689348814741910323)) + ((((x - (((x : Int64).toUInt64 >>> ((1 : Int32).toInt64.toUInt64 &&& Int64.toUInt64 63)).toInt64 &&& (6148914691236517205))) : Int64).toUInt64 >>> ((2 : Int32).toInt64.toUInt64 &&& Int64.toUInt64 63)).toInt64 &&& (3689348814741910323))) : Int64).toUInt64 >>> ((4 : Int32).toInt64.toUInt64 &&& Int64.toUInt64 63)).toInt64) &&& (1085102592571150095)) + (((((((x - (((x : Int64).toUInt64 >>> ((1 : Int32).toInt64.toUInt64 &&& Int64.toUInt64 63)).toInt64 &&& (6148914691236517205))) &&& (3689348814741910323)) + ((((x - (((x : Int64).toUInt64 >>> ((1 : Int32).toInt64.toUInt64 &&& Int64.toUInt64 63)).toInt64 &&& (6148914691236517205))) : Int64).toUInt64 >>> ((2 : Int32).toInt64.toUInt64 &&& Int64.toUInt64 63)).toInt64 &&& (3689348814741910323))) + (((((x - (((x : Int64).toUInt64 >>> ((1 : Int32).toInt64.toUInt64 &&& Int64.toUInt64 63)).toInt64 &&& (6148914691236517205))) &&& (3689348814741910323)) + ((((x - (((x : Int64).toUInt64 >>> ((1 : Int32).toInt64.toUInt64 &&& Int64.toUInt64 63)).toInt64 &&& (6148914691236517205))) : Int64).toUInt64 >>> ((2 : Int32).toInt64.toUInt64 &&& Int64.toUInt64 63)).toInt64 &&& (3689348814741910323))) : Int64).toUInt64 >>> ((4 : Int32).toInt64.toUInt64 &&& Int64.toUInt64 63)).toInt64) &&& (1085102592571150095)) : Int64).toUInt64 >>> ((8 : Int32).toInt64.toUInt64 &&& Int64.toUInt64 63)).toInt64) : Int64).toUInt64 >>> ((16 : Int32).toInt64.toUInt64 &&& Int64.toUInt64 63)).toInt64)))]) E dJ13_bitCount_95d88_47 rfl (by decide) rfl ?_
  refine g_lload_n E dJ13_bitCount_95d88_48 rfl 0 rfl ?_
  refine g_lload_n E dJ13_bitCount_95d88_49 rfl 0 rfl ?_
  refine g_bipush (v := 32) E dJ13_bitCount_95d88_50 (by decide) ?_
  refine g_lushr E dJ13_bitCount_95d88_52 rfl ?_
  refine g_ladd E dJ13_bitCount_95d88_53 ?_
  refine g_lstore_n (L' := [(0, .long (((((((((x - (((x : Int64).toUInt64 >>> ((1 : Int32).toInt64.toUInt64 &&& Int64.toUInt64 63)).toInt64 &&& (6148914691236517205))) &&& (3689348814741910323)) + ((((x - (((x : Int64).toUInt64 >>> ((1 : Int32).toInt64.toUInt64 &&& Int64.toUInt64 63)).toInt64 &&& (6148914691236517205))) : Int64).toUInt64 >>> ((2 : Int32).toInt64.toUInt64 &&& Int64.toUInt64 63)).toInt64 &&& (3689348814741910323))) + (((((x - (((x : Int64).toUInt64 >>> ((1 : Int32).toInt64.toUInt64 &&& Int64.toUInt64 63)).toInt64 &&& (6148914691236517205))) &&& (3689348814741910323)) + ((((x - (((x : Int64).toUInt64 >>> ((1 : Int32).toInt64.toUInt64 &&& Int64.toUInt64 63)).toInt64 &&& (6148914691236517205))) : Int64).toUInt64 >>> ((2 : Int32).toInt64.toUInt64 &&& Int64.toUInt64 63)).toInt64 &&& (3689348814741910323))) : Int64).toUInt64 >>> ((4 : Int32).toInt64.toUInt64 &&& Int64.toUInt64 63)).toInt64) &&& (1085102592571150095)) + (((((((x - (((x : Int64).toUInt64 >>> ((1 : Int32).toInt64.toUInt64 &&& Int64.toUInt64 63)).toInt64 &&& (6148914691236517205))) &&& (3689348814741910323)) + ((((x - (((x : Int64).toUInt64 >>> ((1 : Int32).toInt64.toUInt64 &&& Int64.toUInt64 63)).toInt64 &&& (6148914691236517205))) : Int64).toUInt64 >>> ((2 : Int32).toInt64.toUInt64 &&& Int64.toUInt64 63)).toInt64 &&& (3689348814741910323))) + (((((x - (((x : Int64).toUInt64 >>> ((1 : Int32).toInt64.toUInt64 &&& Int64.toUInt64 63)).toInt64 &&& (6148914691236517205))) &&& (3689348814741910323)) + ((((x - (((x : Int64).toUInt64 >>> ((1 : Int32).toInt64.toUInt64 &&& Int64.toUInt64 63)).toInt64 &&& (6148914691236517205))) : Int64).toUInt64 >>> ((2 : Int32).toInt64.toUInt64 &&& Int64.toUInt64 63)).toInt64 &&& (3689348814741910323))) : Int64).toUInt64 >>> ((4 : Int32).toInt64.toUInt64 &&& Int64.toUInt64 63)).toInt64) &&& (1085102592571150095)) : Int64).toUInt64 >>> ((8 : Int32).toInt64.toUInt64 &&& Int64.toUInt64 63)).toInt64) + ((((((((x - (((x : Int64).toUInt64 >>> ((1 : Int32).toInt64.toUInt64 &&& Int64.toUInt64 63)).toInt64 &&& (6148914691236517205))) &&& (3689348814741910323)) + ((((x - (((x : Int64).toUInt64 >>> ((1 : Int32).toInt64.toUInt64 &&& Int64.toUInt64 63)).toInt64 &&& (6148914691236517205))) : Int64).toUInt64 >>> ((2 : Int32).toInt64.toUInt64 &&& Int64.toUInt64 63)).toInt64 &&& (3689348814741910323))) + (((((x - (((x : Int64).toUInt64 >>> ((1 : Int32).toInt64.toUInt64 &&& Int64.toUInt64 63)).toInt64 &&& (6148914691236517205))) &&& (3689348814741910323)) + ((((x - (((x : Int64).toUInt64 >>> ((1 : Int32).toInt64.toUInt64 &&& Int64.toUInt64 63)).toInt64 &&& (6148914691236517205))) : Int64).toUInt64 >>> ((2 : Int32).toInt64.toUInt64 &&& Int64.toUInt64 63)).toInt64 &&& (3689348814741910323))) : Int64).toUInt64 >>> ((4 : Int32).toInt64.toUInt64 &&& Int64.toUInt64 63)).toInt64) &&& (1085102592571150095)) + (((((((x - (((x : Int64).toUInt64 >>> ((1 : Int32).toInt64.toUInt64 &&& Int64.toUInt64 63)).toInt64 &&& (6148914691236517205))) &&& (3689348814741910323)) + ((((x - (((x : Int64).toUInt64 >>> ((1 : Int32).toInt64.toUInt64 &&& Int64.toUInt64 63)).toInt64 &&& (6148914691236517205))) : Int64).toUInt64 >>> ((2 : Int32).toInt64.toUInt64 &&& Int64.toUInt64 63)).toInt64 &&& (3689348814741910323))) + (((((x - (((x : Int64).toUInt64 >>> ((1 : Int32).toInt64.toUInt64 &&& Int64.toUInt64 63)).toInt64 &&& (6148914691236517205))) &&& (3689348814741910323)) + ((((x - (((x : Int64).toUInt64 >>> ((1 : Int32).toInt64.toUInt64 &&& Int64.toUInt64 63)).toInt64 &&& (6148914691236517205))) : Int64).toUInt64 >>> ((2 : Int32).toInt64.toUInt64 &&& Int64.toUInt64 63)).toInt64 &&& (3689348814741910323))) : Int64).toUInt64 >>> ((4 : Int32).toInt64.toUInt64 &&& Int64.toUInt64 63)).toInt64) &&& (1085102592571150095)) : Int64).toUInt64 >>> ((8 : Int32).toInt64.toUInt64 &&& Int64.toUInt64 63)).toInt64) : Int64).toUInt64 >>> ((16 : Int32).toInt64.toUInt64 &&& Int64.toUInt64 63)).toInt64) + (((((((((x - (((x : Int64).toUInt64 >>> ((1 : Int32).toInt64.toUInt64 &&& Int64.toUInt64 63)).toInt64 &&& (6148914691236517205))) &&& (3689348814741910323)) + ((((x - (((x : Int64).toUInt64 >>> ((1 : Int32).toInt64.toUInt64 &&& Int64.toUInt64 63)).toInt64 &&& (6148914691236517205))) : Int64).toUInt64 >>> ((2 : Int32).toInt64.toUInt64 &&& Int64.toUInt64 63)).toInt64 &&& (3689348814741910323))) + (((((x - (((x : Int64).toUInt64 >>> ((1 : Int32).toInt64.toUInt64 &&& Int64.toUInt64 63)).toInt64 &&& (6148914691236517205))) &&& (3689348814741910323)) + ((((x - (((x : Int64).toUInt64 >>> ((1 : Int32).toInt64.toUInt64 &&& Int64.toUInt64 63)).toInt64 &&& (6148914691236517205))) : Int64).toUInt64 >>> ((2 : Int32).toInt64.toUInt64 &&& Int64.toUInt64 63)).toInt64 &&& (3689348814741910323))) : Int64).toUInt64 >>> ((4 : Int32).toInt64.toUInt64 &&& Int64.toUInt64 63)).toInt64) &&& (1085102592571150095)) + (((((((x - (((x : Int64).toUInt64 >>> ((1 : Int32).toInt64.toUInt64 &&& Int64.toUInt64 63)).toInt64 &&& (6148914691236517205))) &&& (3689348814741910323)) + ((((x - (((x : Int64).toUInt64 >>> ((1 : Int32).toInt64.toUInt64 &&& Int64.toUInt64 63)).toInt64 &&& (6148914691236517205))) : Int64).toUInt64 >>> ((2 : Int32).toInt64.toUInt64 &&& Int64.toUInt64 63)).toInt64 &&& (3689348814741910323))) + (((((x - (((x : Int64).toUInt64 >>> ((1 : Int32).toInt64.toUInt64 &&& Int64.toUInt64 63)).toInt64 &&& (6148914691236517205))) &&& (3689348814741910323)) + ((((x - (((x : Int64).toUInt64 >>> ((1 : Int32).toInt64.toUInt64 &&& Int64.toUInt64 63)).toInt64 &&& (6148914691236517205))) : Int64).toUInt64 >>> ((2 : Int32).toInt64.toUInt64 &&& Int64.toUInt64 63)).toInt64 &&& (3689348814741910323))) : Int64).toUInt64 >>> ((4 : Int32).toInt64.toUInt64 &&& Int64.toUInt64 63)).toInt64) &&& (1085102592571150095)) : Int64).toUInt64 >>> ((8 : Int32).toInt64.toUInt64 &&& Int64.toUInt64 63)).toInt64) + ((((((((x - (((x : Int64).toUInt64 >>> ((1 : Int32).toInt64.toUInt64 &&& Int64.toUInt64 63)).toInt64 &&& (6148914691236517205))) &&& (3689348814741910323)) + ((((x - (((x : Int64).toUInt64 >>> ((1 : Int32).toInt64.toUInt64 &&& Int64.toUInt64 63)).toInt64 &&& (6148914691236517205))) : Int64).toUInt64 >>> ((2 : Int32).toInt64.toUInt64 &&& Int64.toUInt64 63)).toInt64 &&& (3689348814741910323))) + (((((x - (((x : Int64).toUInt64 >>> ((1 : Int32).toInt64.toUInt64 &&& Int64.toUInt64 63)).toInt64 &&& (6148914691236517205))) &&& (3689348814741910323)) + ((((x - (((x : Int64).toUInt64 >>> ((1 : Int32).toInt64.toUInt64 &&& Int64.toUInt64 63)).toInt64 &&& (6148914691236517205))) : Int64).toUInt64 >>> ((2 : Int32).toInt64.toUInt64 &&& Int64.toUInt64 63)).toInt64 &&& (3689348814741910323))) : Int64).toUInt64 >>> ((4 : Int32).toInt64.toUInt64 &&& Int64.toUInt64 63)).toInt64) &&& (1085102592571150095)) + (((((((x - (((x : Int64).toUInt64 >>> ((1 : Int32).toInt64.toUInt64 &&& Int64.toUInt64 63)).toInt64 &&& (6148914691236517205))) &&& (3689348814741910323)) + ((((x - (((x : Int64).toUInt64 >>> ((1 : Int32).toInt64.toUInt64 &&& Int64.toUInt64 63)).toInt64 &&& (6148914691236517205))) : Int64).toUInt64 >>> ((2 : Int32).toInt64.toUInt64 &&& Int64.toUInt64 63)).toInt64 &&& (3689348814741910323))) + (((((x - (((x : Int64).toUInt64 >>> ((1 : Int32).toInt64.toUInt64 &&& Int64.toUInt64 63)).toInt64 &&& (6148914691236517205))) &&& (3689348814741910323)) + ((((x - (((x : Int64).toUInt64 >>> ((1 : Int32).toInt64.toUInt64 &&& Int64.toUInt64 63)).toInt64 &&& (6148914691236517205))) : Int64).toUInt64 >>> ((2 : Int32).toInt64.toUInt64 &&& Int64.toUInt64 63)).toInt64 &&& (3689348814741910323))) : Int64).toUInt64 >>> ((4 : Int32).toInt64.toUInt64 &&& Int64.toUInt64 63)).toInt64) &&& (1085102592571150095)) : Int64).toUInt64 >>> ((8 : Int32).toInt64.toUInt64 &&& Int64.toUInt64 63)).toInt64) : Int64).toUInt64 >>> ((16 : Int32).toInt64.toUInt64 &&& Int64.toUInt64 63)).toInt64) : Int64).toUInt64 >>> ((32 : Int32).toInt64.toUInt64 &&& Int64.toUInt64 63)).toInt64)))]) E dJ13_bitCount_95d88_54 rfl (by decide) rfl ?_
  refine g_lload_n E dJ13_bitCount_95d88_55 rfl 0 rfl ?_
  refine g_l2i E dJ13_bitCount_95d88_56 ?_
  refine g_bipush (v := 127) E dJ13_bitCount_95d88_57 (by decide) ?_
  refine g_iand E dJ13_bitCount_95d88_59 ?_
  exact g_iret E hE hr dJ13_bitCount_95d88_60 (Nat.le_of_ble_eq_true rfl) (Nat.le_of_ble_eq_true rfl) ⟨S, rfl, rfl, rfl⟩
abbrev rm_X1_shareOf : Room := { frames := 1, cells := 0, slots := 0, locals := 21 }
set_option maxHeartbeats 4000000 in
set_option maxRecDepth 100000 in
theorem m_X1_shareOf (l : Launch) (hl : l.stackTraces = false) (D : va_G) (cy : Nat → ClassId) (e0 : Nat) {S : wS} {c : Nat → Nat} {ad : Nat → Nat → Nat} {i : Nat → Nat → Int32} {j : Nat → Nat → Int64} {p : Nat → Nat → Option Nat} {r : Nat → Nat → Int32} (hI : CI e0 S c ad i j p r) {k : Nat} (hk : k < c 1) {n : Int32} : cMet l yX1_shareOf wsX1_shareOf rm_X1_shareOf D cy e0 [.ref (ad 1 k), .int (n)] S (fun v S' => v = some (.int (shI (j 1 k) (i 3 k) (i 4 k) n)) ∧ S' = S) (fun _ _ => False) 0 0 := by
  refine gMet.of (cc := cX1_shareOf) (maxL := 5) (ret := (some .int)) hl (by decide) rfl (Nat.le_of_ble_eq_true rfl) ?_
  intro C E h1 h2 h3 hr hnm hT hE
  subst h1; subst h2; subst h3
  have E : gOk C cX1_shareOf 5 wsX1_shareOf RX1 e0 rm_X1_shareOf := E
  show G C (cW (xy C) S) 0 0 0 [(0, .ref (ad 1 k)), (1, .int (n))] []
  refine g_aload_n E dX1_shareOf_0 rfl 0 rfl ?_
  refine q_get_Opening_members E hI hk (fun _ h => (List.mem_cons_of_mem _ (List.mem_append_right _ h))) (List.mem_cons_of_mem _ (List.mem_append_left _ (List.mem_of_getElem? (i := 0) rfl))) dX1_shareOf_1 ?_
  refine c_invS (n := 1) (rest := []) E (m_J13_bitCount_95d88 (xl C) E.tr (xD C) (xy C) e0 (S := S)) gX1_shareOf_J13_bitCount_95d88 rfl rfl rfl (by decide +kernel) ⟨Nat.le_of_ble_eq_true rfl, Nat.le_of_ble_eq_true rfl⟩ rfl rfl (Nat.le_of_ble_eq_true rfl) dX1_shareOf_4 ⟨Nat.le_of_ble_eq_true rfl, Nat.le_of_ble_eq_true rfl⟩ (fun _ _ h9 => h9.elim) (fun v9 S9_4 h9 => ?_)
  obtain ⟨hv9, hS9⟩ := h9
  rw [hv9, hS9]
  show G C (cW (xy C) S) 0 0 7 [(0, .ref (ad 1 k)), (1, .int (n))] [.int ((bcJ (j 1 k)))]
  refine g_istore_n (L' := [(2, .int ((bcJ (j 1 k)))), (0, .ref (ad 1 k)), (1, .int (n))]) E dX1_shareOf_7 rfl (by decide) rfl ?_
  refine g_iload_n E dX1_shareOf_8 rfl 0 rfl ?_
  refine g_if_ne (tgt := 14) E dX1_shareOf_9 (by decide) (fun c_9 => ?_) (fun c_9 => ?_)
  · refine g_sipush (v := 1000) E dX1_shareOf_14 (by decide) ?_
    refine g_bipush (v := 100) E dX1_shareOf_17 (by decide) ?_
    refine g_aload_n E dX1_shareOf_19 rfl 1 rfl ?_
    refine q_get_Opening_end E hI hk (fun _ h => (List.mem_cons_of_mem _ (List.mem_append_right _ h))) (List.mem_cons_of_mem _ (List.mem_append_left _ (List.mem_of_getElem? (i := 1) rfl))) dX1_shareOf_20 ?_
    refine g_aload_n E dX1_shareOf_23 rfl 1 rfl ?_
    refine q_get_Opening_first E hI hk (fun _ h => (List.mem_cons_of_mem _ (List.mem_append_right _ h))) (List.mem_cons_of_mem _ (List.mem_append_left _ (List.mem_of_getElem? (i := 2) rfl))) dX1_shareOf_24 ?_
    refine g_isub E dX1_shareOf_27 ?_
    refine g_imul E dX1_shareOf_28 ?_
    refine g_iadd E dX1_shareOf_29 ?_
    refine g_istore_n (L' := [(3, .int ((1000 + (100 * (i 4 k - i 3 k))))), (2, .int ((bcJ (j 1 k)))), (0, .ref (ad 1 k)), (1, .int (n))]) E dX1_shareOf_30 rfl (by decide) rfl ?_
    refine g_aload_n E dX1_shareOf_31 rfl 2 rfl ?_
    refine q_get_Opening_members E hI hk (fun _ h => (List.mem_cons_of_mem _ (List.mem_append_right _ h))) (List.mem_cons_of_mem _ (List.mem_append_left _ (List.mem_of_getElem? (i := 0) rfl))) dX1_shareOf_32 ?_
    refine g_aload_n E dX1_shareOf_35 rfl 2 rfl ?_
    refine q_get_Opening_members E hI hk (fun _ h => (List.mem_cons_of_mem _ (List.mem_append_right _ h))) (List.mem_cons_of_mem _ (List.mem_append_left _ (List.mem_of_getElem? (i := 0) rfl))) dX1_shareOf_36 ?_
    refine g_lneg E dX1_shareOf_39 ?_
    refine g_land E dX1_shareOf_40 ?_
    refine g_lconst (v := 1) E dX1_shareOf_41 (by decide) ?_
    refine g_iload_n E dX1_shareOf_42 rfl 3 rfl ?_
    refine g_lshl E dX1_shareOf_43 rfl ?_
    refine g_lcmp E dX1_shareOf_44 ?_
    refine g_if_ne (tgt := 52) E dX1_shareOf_45 (by decide) (fun c_45 => ?_) (fun c_45 => ?_)
    · refine g_iconst (v := 0) E dX1_shareOf_52 (by decide) ?_
      refine g_istore (L' := [(4, .int (0)), (3, .int ((1000 + (100 * (i 4 k - i 3 k))))), (2, .int ((bcJ (j 1 k)))), (0, .ref (ad 1 k)), (1, .int (n))]) E dX1_shareOf_53 (by decide) rfl ?_
      refine g_iload_n E dX1_shareOf_55 rfl 1 rfl ?_
      refine g_iload_n E dX1_shareOf_56 rfl 2 rfl ?_
      refine g_idiv E dX1_shareOf_57 c_9 ?_
      refine g_iload E dX1_shareOf_58 0 rfl ?_
      refine g_if_eq (tgt := 69) E dX1_shareOf_60 (by decide) (fun c_60 => ?_) (fun c_60 => ?_)
      · refine g_iconst (v := 0) E dX1_shareOf_69 (by decide) ?_
        refine g_iadd E dX1_shareOf_70 ?_
        exact g_iret E hE hr dX1_shareOf_71 (Nat.le_of_ble_eq_true rfl) (Nat.le_of_ble_eq_true rfl) ⟨S, rfl, by rw [show shI (j 1 k) (i 3 k) (i 4 k) n = _ from if_neg c_9, if_neg (fun q => c_45 ((lg_cmp_eq _ _).mpr q))], rfl⟩
      · exact absurd rfl c_60
    · refine g_iconst (v := 1) E dX1_shareOf_48 (by decide) ?_
      refine g_goto (tgt := 53) E dX1_shareOf_49 (by decide) ?_
      refine g_istore (L' := [(4, .int (1)), (3, .int ((1000 + (100 * (i 4 k - i 3 k))))), (2, .int ((bcJ (j 1 k)))), (0, .ref (ad 1 k)), (1, .int (n))]) E dX1_shareOf_53 (by decide) rfl ?_
      refine g_iload_n E dX1_shareOf_55 rfl 1 rfl ?_
      refine g_iload_n E dX1_shareOf_56 rfl 2 rfl ?_
      refine g_idiv E dX1_shareOf_57 c_9 ?_
      refine g_iload E dX1_shareOf_58 0 rfl ?_
      refine g_if_eq (tgt := 69) E dX1_shareOf_60 (by decide) (fun c_60 => ?_) (fun c_60 => ?_)
      · exact absurd c_60 (by decide)
      · refine g_iload_n E dX1_shareOf_63 rfl 1 rfl ?_
        refine g_iload_n E dX1_shareOf_64 rfl 2 rfl ?_
        refine g_irem E dX1_shareOf_65 c_9 ?_
        refine g_goto (tgt := 70) E dX1_shareOf_66 (by decide) ?_
        refine g_iadd E dX1_shareOf_70 ?_
        exact g_iret E hE hr dX1_shareOf_71 (Nat.le_of_ble_eq_true rfl) (Nat.le_of_ble_eq_true rfl) ⟨S, rfl, by rw [show shI (j 1 k) (i 3 k) (i 4 k) n = _ from if_neg c_9, if_pos ((lg_cmp_eq _ _).mp c_45)], rfl⟩
  · refine g_iconst (v := 0) E dX1_shareOf_12 (by decide) ?_
    exact g_iret E hE hr dX1_shareOf_13 (Nat.le_of_ble_eq_true rfl) (Nat.le_of_ble_eq_true rfl) ⟨S, rfl, by rw [show shI _ _ _ _ = 0 from if_pos c_9], rfl⟩
