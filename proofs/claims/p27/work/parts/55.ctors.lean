/-! what lies outside may change -/
theorem CI.out {e0 : Nat} {S S' : wS} {c : Nat → Nat} {ad : Nat → Nat → Nat} {i : Nat → Nat → Int32} {j : Nat → Nat → Int64} {p : Nat → Nat → Option Nat} {r : Nat → Nat → Int32} {X : Nat → Prop} (h : CI e0 S c ad i j p r) (hF : FR S S' X) (hX : ∀ kd k, kd ≤ 7 → k < c kd → ¬ X (ad kd k)) (hX9 : ∀ w, w < 2 → ¬ X (ad 9 w)) (hX8 : ∀ t, t < 3 → ad 8 t ∈ sL S → ¬ X (ad 8 t)) (he0 : e0 ∉ sL S') : CI e0 S' c ad i j p r := by
  have hcn := h.cnt
  have fr : ∀ {kd k : Nat}, kd ≤ 7 → k < c kd → _ := fun {kd k} hkd hk => hF.2 (ad kd k) (h.obj hkd hk).1 (hX kd k hkd hk)
  refine ⟨fun kd k hkd hk => ⟨hF.1 _ (h.obj hkd hk).1, (fr hkd hk).1.trans (h.obj hkd hk).2⟩, h.2.1, fun f k hf hk => ((fr (kf_le f) hk).2.1 f).trans (h.int hk hf), fun f k hk => ((fr (kj_le f) hk).2.2.1 f).trans (h.long hk), fun k hk => ?_, hcn, ?_, ?_, fun w hw => ?_, fun k hk => ((fr (kd := 0) (by omega) hk).2.2.2.1 0).trans (h.stops hk), fun k hk => ?_, ?_, ?_, he0⟩
  · obtain ⟨-, -, -, -, g5, g6, -⟩ := fr (Nat.le_refl 7) hk
    exact ⟨g5.trans (h.arr hk).1, fun b hb => by rw [g6]; exact (h.arr hk).2 b hb⟩
  · have g := (fr (kd := 5) (k := 0) (by omega) h.c5).2.2.2.1
    rw [g 9, g 10, g 11, g 12, g 13]
    exact h.pw
  · have g := (fr (kd := 3) (k := 0) (by omega) h.c3).2.2.2.1
    rw [g 3, g 4, g 5, g 6, g 7]
    exact h.roads
  · have g := (fr (kd := 4) (k := w) (by omega) (by omega)).2.2.2.1
    obtain ⟨w1, w2, w3, w4, w5⟩ := h.ways hw
    obtain ⟨g1, -, -, -, g5, -, g7⟩ := hF.2 (ad 9 w) w2 (hX9 w hw)
    rw [g 8, g1, g5, g7]
    exact ⟨w1, hF.1 _ w2, w3, w4, w5⟩
  · have g := (fr (kd := 2) (k := k) (by omega) hk).2.2.2.1
    rw [g 1, g 2]
    exact h.perm hk
  · have lst : ∀ t, t < 3 → okL e0 S' (ad 6 t) (ad 8 t) (c (kl t)) (ad (kl t)) := fun t ht => (h.list ht).fr hF (hX 6 t (by omega) (by omega)) (hX8 t ht)
    exact ⟨lst 0 (by omega), lst 1 (by omega), lst 2 (by omega)⟩
  · intro t t' ht ht' hm e
    rcases h.arr8 ht with g | g
    · exact absurd (g ▸ hm) he0
    · exact h.apart.1 t t' ht ht' g.1 e
/-- q is none of the class's things -/
def OUT (c : Nat → Nat) (ad : Nat → Nat → Nat) (q : Nat) : Prop := (∀ kd k, kd ≤ 7 → k < c kd → ad kd k ≠ q) ∧ (∀ w, w < 2 → ad 9 w ≠ q) ∧ ∀ t, t < 3 → ad 8 t ≠ q
theorem CI.outq {e0 : Nat} {S S' : wS} {c : Nat → Nat} {ad : Nat → Nat → Nat} {i : Nat → Nat → Int32} {j : Nat → Nat → Int64} {p : Nat → Nat → Option Nat} {r : Nat → Nat → Int32} {q : Nat} (h : CI e0 S c ad i j p r) (hF : FR S S' (fun x => x = q)) (hq : OUT c ad q) (he0 : e0 ∉ sL S') : CI e0 S' c ad i j p r :=
  h.out hF (fun kd k h1 h2 => hq.1 kd k h1 h2) (fun w hw => hq.2.1 w hw) (fun t ht _ => hq.2.2 t ht) he0
theorem OUT.new {e0 : Nat} {S : wS} {c : Nat → Nat} {ad : Nat → Nat → Nat} {i : Nat → Nat → Int32} {j : Nat → Nat → Int64} {p : Nat → Nat → Option Nat} {r : Nat → Nat → Int32} {q : Nat} (h : CI e0 S c ad i j p r) (hq : q ∉ sL S) (hq0 : q ≠ e0) : OUT c ad q := by
  refine ⟨fun kd k h1 h2 e => hq (e ▸ (h.obj h1 h2).1), fun w hw e => hq (e ▸ (h.ways hw).2.1), fun t ht e => ?_⟩
  rcases h.arr8 ht with g | g
  · exact hq0 (e.symm.trans g)
  · exact hq (e ▸ g.1)
/-- a new Line, Opening, Permit -/
def iLn (S : wS) (a q : Nat) (x ps : Int32) : wS := uI (uR (uI (uP (nw S q 7 6) 0 a (some q)) 0 a 1) q 0 x) 1 a ps
def iOp (S : wS) (a : Nat) (x y z : Int32) : wS := uI (uI (uI S 2 a x) 3 a y) 4 a z
def iPm (S : wS) (a : Nat) (n ap ln fr en : Int32) (pn : Option Nat) (ur : Int32) : wS := uI (uP (uI (uI (uI (uI (uI (uI (uI (uI (uI S 11 a 0) 12 a (-1)) 13 a (-1)) 14 a (-1)) 5 a n) 6 a ap) 7 a ln) 8 a fr) 9 a en) 1 a pn) 10 a ur
abbrev rm_X1_init : Room := { frames := 1, cells := 0, slots := 0, locals := 30 }
set_option maxHeartbeats 4000000 in
set_option maxRecDepth 100000 in
theorem m_X1_init (l : Launch) (hl : l.stackTraces = false) (D : va_G) (cy : Nat → ClassId) (e0 : Nat) {S : wS}  {a : Nat} (ham : a ∈ sL S) (hak : sK S a = 1) {x y z : Int32} : cMet l yX1_init wsX1_init rm_X1_init D cy e0 [.ref (a), .int (x), .int (y), .int (z)] S (fun v S' => v = none ∧ S' = iOp S a x y z) (fun _ _ => False) 0 0 := by
  refine gMet.of (cc := cX1_init) (maxL := 4) (ret := none) hl (by decide) rfl (Nat.le_of_ble_eq_true rfl) ?_
  intro C E h1 h2 h3 hr hnm hT hE
  subst h1; subst h2; subst h3
  have E : gOk C cX1_init 4 wsX1_init RX1 e0 rm_X1_init := E
  have hin : (xh C).name = "<init>" := hnm
  show G C (cW (xy C) S) 0 0 0 [(0, .ref (a)), (1, .int (x)), (2, .int (y)), (3, .int (z))] []
  refine g_aload_n E dX1_init_0 rfl 0 rfl ?_
  refine g_objInit (rest := []) E (List.mem_cons_of_mem _ (List.mem_append_left _ (List.mem_of_getElem? (i := 0) rfl))) (List.mem_cons_of_mem _ (List.mem_append_left _ (List.mem_of_getElem? (i := 1) rfl))) (List.mem_cons_of_mem _ (List.mem_append_left _ (List.mem_of_getElem? (i := 2) rfl))) dX1_init_1 (Nat.le_of_ble_eq_true rfl) (Nat.le_of_ble_eq_true rfl) ?_
  refine g_aload_n E dX1_init_4 rfl 0 rfl ?_
  refine g_iload_n E dX1_init_5 rfl 1 rfl ?_
  refine p_put_Opening_lane (S := S) (v := x) E ham hak (fun _ h => (List.mem_cons_of_mem _ (List.mem_append_right _ h))) hin rfl (List.mem_cons_of_mem _ (List.mem_append_left _ (List.mem_of_getElem? (i := 3) rfl))) rfl dX1_init_6 ?_
  refine g_aload_n E dX1_init_9 rfl 0 rfl ?_
  refine g_iload_n E dX1_init_10 rfl 2 rfl ?_
  refine p_put_Opening_first (S := (uI S 2 (a) (x))) (v := y) E ham hak (fun _ h => (List.mem_cons_of_mem _ (List.mem_append_right _ h))) (List.mem_cons_of_mem _ (List.mem_append_left _ (List.mem_of_getElem? (i := 4) rfl))) rfl dX1_init_11 ?_
  refine g_aload_n E dX1_init_14 rfl 0 rfl ?_
  refine g_iload_n E dX1_init_15 rfl 3 rfl ?_
  refine p_put_Opening_end (S := (uI (uI S 2 (a) (x)) 3 (a) (y))) (v := z) E ham hak (fun _ h => (List.mem_cons_of_mem _ (List.mem_append_right _ h))) (List.mem_cons_of_mem _ (List.mem_append_left _ (List.mem_of_getElem? (i := 5) rfl))) rfl dX1_init_16 ?_
  exact g_vret E hE hr dX1_init_19 (Nat.le_of_ble_eq_true rfl) (Nat.le_of_ble_eq_true rfl) ⟨(uI (uI (uI S 2 (a) (x)) 3 (a) (y)) 4 (a) (z)), rfl, rfl, rfl⟩
abbrev rm_X2_init : Room := { frames := 1, cells := 0, slots := 0, locals := 40 }
set_option maxHeartbeats 4000000 in
set_option maxRecDepth 100000 in
theorem m_X2_init_N (l : Launch) (hl : l.stackTraces = false) (D : va_G) (cy : Nat → ClassId) (e0 : Nat) {S : wS}  {a : Nat} (ham : a ∈ sL S) (hak : sK S a = 2) {n ap ln fr en ur : Int32} (hu : ur = 0 ∨ ur = 1) : cMet l yX2_init wsX2_init rm_X2_init D cy e0 [.ref (a), .int (n), .int (ap), .int (ln), .int (fr), .int (en), .null, .int (ur)] S (fun v S' => v = none ∧ S' = iPm S a n ap ln fr en none ur) (fun _ _ => False) 0 0 := by
  refine gMet.of (cc := cX2_init) (maxL := 8) (ret := none) hl (by decide) rfl (Nat.le_of_ble_eq_true rfl) ?_
  intro C E h1 h2 h3 hr hnm hT hE
  subst h1; subst h2; subst h3
  have E : gOk C cX2_init 8 wsX2_init RX2 e0 rm_X2_init := E
  have hin : (xh C).name = "<init>" := hnm
  show G C (cW (xy C) S) 0 0 0 [(0, .ref (a)), (1, .int (n)), (2, .int (ap)), (3, .int (ln)), (4, .int (fr)), (5, .int (en)), (6, .null), (7, .int (ur))] []
  refine g_aload_n E dX2_init_0 rfl 0 rfl ?_
  refine g_objInit (rest := []) E (List.mem_cons_of_mem _ (List.mem_append_left _ (List.mem_of_getElem? (i := 0) rfl))) (List.mem_cons_of_mem _ (List.mem_append_left _ (List.mem_of_getElem? (i := 1) rfl))) (List.mem_cons_of_mem _ (List.mem_append_left _ (List.mem_of_getElem? (i := 2) rfl))) dX2_init_1 (Nat.le_of_ble_eq_true rfl) (Nat.le_of_ble_eq_true rfl) ?_
  refine g_aload_n E dX2_init_4 rfl 0 rfl ?_
  refine g_iconst (v := 0) E dX2_init_5 (by decide) ?_
  refine p_put_Permit_state (S := S) (v := 0) E ham hak (fun _ h => (List.mem_cons_of_mem _ (List.mem_append_right _ h))) (List.mem_cons_of_mem _ (List.mem_append_left _ (List.mem_of_getElem? (i := 3) rfl))) rfl dX2_init_6 ?_
  refine g_aload_n E dX2_init_9 rfl 0 rfl ?_
  refine g_iconst (v := (-1)) E dX2_init_10 (by decide) ?_
  refine p_put_Permit_cause (S := (uI S 11 (a) (0))) (v := (-1)) E ham hak (fun _ h => (List.mem_cons_of_mem _ (List.mem_append_right _ h))) (List.mem_cons_of_mem _ (List.mem_append_left _ (List.mem_of_getElem? (i := 4) rfl))) rfl dX2_init_11 ?_
  refine g_aload_n E dX2_init_14 rfl 0 rfl ?_
  refine g_iconst (v := (-1)) E dX2_init_15 (by decide) ?_
  refine p_put_Permit_begunAt (S := (uI (uI S 11 (a) (0)) 12 (a) ((-1)))) (v := (-1)) E ham hak (fun _ h => (List.mem_cons_of_mem _ (List.mem_append_right _ h))) (List.mem_cons_of_mem _ (List.mem_append_left _ (List.mem_of_getElem? (i := 5) rfl))) rfl dX2_init_16 ?_
  refine g_aload_n E dX2_init_19 rfl 0 rfl ?_
  refine g_iconst (v := (-1)) E dX2_init_20 (by decide) ?_
  refine p_put_Permit_finishedAt (S := (uI (uI (uI S 11 (a) (0)) 12 (a) ((-1))) 13 (a) ((-1)))) (v := (-1)) E ham hak (fun _ h => (List.mem_cons_of_mem _ (List.mem_append_right _ h))) (List.mem_cons_of_mem _ (List.mem_append_left _ (List.mem_of_getElem? (i := 6) rfl))) rfl dX2_init_21 ?_
  refine g_aload_n E dX2_init_24 rfl 0 rfl ?_
  refine g_iload_n E dX2_init_25 rfl 1 rfl ?_
  refine p_put_Permit_number (S := (uI (uI (uI (uI S 11 (a) (0)) 12 (a) ((-1))) 13 (a) ((-1))) 14 (a) ((-1)))) (v := n) E ham hak (fun _ h => (List.mem_cons_of_mem _ (List.mem_append_right _ h))) hin rfl (List.mem_cons_of_mem _ (List.mem_append_left _ (List.mem_of_getElem? (i := 7) rfl))) rfl dX2_init_26 ?_
  refine g_aload_n E dX2_init_29 rfl 0 rfl ?_
  refine g_iload_n E dX2_init_30 rfl 2 rfl ?_
  refine p_put_Permit_applicant (S := (uI (uI (uI (uI (uI S 11 (a) (0)) 12 (a) ((-1))) 13 (a) ((-1))) 14 (a) ((-1))) 5 (a) (n))) (v := ap) E ham hak (fun _ h => (List.mem_cons_of_mem _ (List.mem_append_right _ h))) hin rfl (List.mem_cons_of_mem _ (List.mem_append_left _ (List.mem_of_getElem? (i := 8) rfl))) rfl dX2_init_31 ?_
  refine g_aload_n E dX2_init_34 rfl 0 rfl ?_
  refine g_iload_n E dX2_init_35 rfl 3 rfl ?_
  refine p_put_Permit_lane (S := (uI (uI (uI (uI (uI (uI S 11 (a) (0)) 12 (a) ((-1))) 13 (a) ((-1))) 14 (a) ((-1))) 5 (a) (n)) 6 (a) (ap))) (v := ln) E ham hak (fun _ h => (List.mem_cons_of_mem _ (List.mem_append_right _ h))) hin rfl (List.mem_cons_of_mem _ (List.mem_append_left _ (List.mem_of_getElem? (i := 9) rfl))) rfl dX2_init_36 ?_
  refine g_aload_n E dX2_init_39 rfl 0 rfl ?_
  refine g_iload E dX2_init_40 4 rfl ?_
  refine p_put_Permit_appliedFrom (S := (uI (uI (uI (uI (uI (uI (uI S 11 (a) (0)) 12 (a) ((-1))) 13 (a) ((-1))) 14 (a) ((-1))) 5 (a) (n)) 6 (a) (ap)) 7 (a) (ln))) (v := fr) E ham hak (fun _ h => (List.mem_cons_of_mem _ (List.mem_append_right _ h))) hin rfl (List.mem_cons_of_mem _ (List.mem_append_left _ (List.mem_of_getElem? (i := 10) rfl))) rfl dX2_init_42 ?_
  refine g_aload_n E dX2_init_45 rfl 0 rfl ?_
  refine g_iload E dX2_init_46 5 rfl ?_
  refine p_put_Permit_appliedEnd (S := (uI (uI (uI (uI (uI (uI (uI (uI S 11 (a) (0)) 12 (a) ((-1))) 13 (a) ((-1))) 14 (a) ((-1))) 5 (a) (n)) 6 (a) (ap)) 7 (a) (ln)) 8 (a) (fr))) (v := en) E ham hak (fun _ h => (List.mem_cons_of_mem _ (List.mem_append_right _ h))) hin rfl (List.mem_cons_of_mem _ (List.mem_append_left _ (List.mem_of_getElem? (i := 11) rfl))) rfl dX2_init_48 ?_
  refine g_aload_n E dX2_init_51 rfl 0 rfl ?_
  refine g_aloadN E dX2_init_52 6 rfl ?_
  refine p_put_Permit_needed (S := (uI (uI (uI (uI (uI (uI (uI (uI (uI S 11 (a) (0)) 12 (a) ((-1))) 13 (a) ((-1))) 14 (a) ((-1))) 5 (a) (n)) 6 (a) (ap)) 7 (a) (ln)) 8 (a) (fr)) 9 (a) (en))) (v := none) E ham hak (fun _ h => (List.mem_cons_of_mem _ (List.mem_append_right _ h))) hin rfl (List.mem_cons_of_mem _ (List.mem_append_left _ (List.mem_of_getElem? (i := 12) rfl))) rfl dX2_init_54 ?_
  refine g_aload_n E dX2_init_57 rfl 0 rfl ?_
  refine g_iload E dX2_init_58 7 rfl ?_
  refine p_put_Permit_isUrgent (S := (uP (uI (uI (uI (uI (uI (uI (uI (uI (uI S 11 (a) (0)) 12 (a) ((-1))) 13 (a) ((-1))) 14 (a) ((-1))) 5 (a) (n)) 6 (a) (ap)) 7 (a) (ln)) 8 (a) (fr)) 9 (a) (en)) 1 (a) (none))) (v := ur) E ham hak (fun _ h => (List.mem_cons_of_mem _ (List.mem_append_right _ h))) hin rfl (List.mem_cons_of_mem _ (List.mem_append_left _ (List.mem_of_getElem? (i := 13) rfl))) rfl hu dX2_init_60 ?_
  exact g_vret E hE hr dX2_init_63 (Nat.le_of_ble_eq_true rfl) (Nat.le_of_ble_eq_true rfl) ⟨(uI (uP (uI (uI (uI (uI (uI (uI (uI (uI (uI S 11 (a) (0)) 12 (a) ((-1))) 13 (a) ((-1))) 14 (a) ((-1))) 5 (a) (n)) 6 (a) (ap)) 7 (a) (ln)) 8 (a) (fr)) 9 (a) (en)) 1 (a) (none)) 10 (a) (ur)), rfl, rfl, rfl⟩
set_option maxHeartbeats 4000000 in
set_option maxRecDepth 100000 in
theorem m_X2_init (l : Launch) (hl : l.stackTraces = false) (D : va_G) (cy : Nat → ClassId) (e0 : Nat) {S : wS}  {a : Nat} (ham : a ∈ sL S) (hak : sK S a = 2) {n ap ln fr en ur : Int32} (hu : ur = 0 ∨ ur = 1) {y : Nat} : cMet l yX2_init wsX2_init rm_X2_init D cy e0 [.ref (a), .int (n), .int (ap), .int (ln), .int (fr), .int (en), .ref (y), .int (ur)] S (fun v S' => v = none ∧ S' = iPm S a n ap ln fr en (some y) ur) (fun _ _ => False) 0 0 := by
  refine gMet.of (cc := cX2_init) (maxL := 8) (ret := none) hl (by decide) rfl (Nat.le_of_ble_eq_true rfl) ?_
  intro C E h1 h2 h3 hr hnm hT hE
  subst h1; subst h2; subst h3
  have E : gOk C cX2_init 8 wsX2_init RX2 e0 rm_X2_init := E
  have hin : (xh C).name = "<init>" := hnm
  show G C (cW (xy C) S) 0 0 0 [(0, .ref (a)), (1, .int (n)), (2, .int (ap)), (3, .int (ln)), (4, .int (fr)), (5, .int (en)), (6, .ref (y)), (7, .int (ur))] []
  refine g_aload_n E dX2_init_0 rfl 0 rfl ?_
  refine g_objInit (rest := []) E (List.mem_cons_of_mem _ (List.mem_append_left _ (List.mem_of_getElem? (i := 0) rfl))) (List.mem_cons_of_mem _ (List.mem_append_left _ (List.mem_of_getElem? (i := 1) rfl))) (List.mem_cons_of_mem _ (List.mem_append_left _ (List.mem_of_getElem? (i := 2) rfl))) dX2_init_1 (Nat.le_of_ble_eq_true rfl) (Nat.le_of_ble_eq_true rfl) ?_
  refine g_aload_n E dX2_init_4 rfl 0 rfl ?_
  refine g_iconst (v := 0) E dX2_init_5 (by decide) ?_
  refine p_put_Permit_state (S := S) (v := 0) E ham hak (fun _ h => (List.mem_cons_of_mem _ (List.mem_append_right _ h))) (List.mem_cons_of_mem _ (List.mem_append_left _ (List.mem_of_getElem? (i := 3) rfl))) rfl dX2_init_6 ?_
  refine g_aload_n E dX2_init_9 rfl 0 rfl ?_
  refine g_iconst (v := (-1)) E dX2_init_10 (by decide) ?_
  refine p_put_Permit_cause (S := (uI S 11 (a) (0))) (v := (-1)) E ham hak (fun _ h => (List.mem_cons_of_mem _ (List.mem_append_right _ h))) (List.mem_cons_of_mem _ (List.mem_append_left _ (List.mem_of_getElem? (i := 4) rfl))) rfl dX2_init_11 ?_
  refine g_aload_n E dX2_init_14 rfl 0 rfl ?_
  refine g_iconst (v := (-1)) E dX2_init_15 (by decide) ?_
  refine p_put_Permit_begunAt (S := (uI (uI S 11 (a) (0)) 12 (a) ((-1)))) (v := (-1)) E ham hak (fun _ h => (List.mem_cons_of_mem _ (List.mem_append_right _ h))) (List.mem_cons_of_mem _ (List.mem_append_left _ (List.mem_of_getElem? (i := 5) rfl))) rfl dX2_init_16 ?_
  refine g_aload_n E dX2_init_19 rfl 0 rfl ?_
  refine g_iconst (v := (-1)) E dX2_init_20 (by decide) ?_
  refine p_put_Permit_finishedAt (S := (uI (uI (uI S 11 (a) (0)) 12 (a) ((-1))) 13 (a) ((-1)))) (v := (-1)) E ham hak (fun _ h => (List.mem_cons_of_mem _ (List.mem_append_right _ h))) (List.mem_cons_of_mem _ (List.mem_append_left _ (List.mem_of_getElem? (i := 6) rfl))) rfl dX2_init_21 ?_
  refine g_aload_n E dX2_init_24 rfl 0 rfl ?_
  refine g_iload_n E dX2_init_25 rfl 1 rfl ?_
  refine p_put_Permit_number (S := (uI (uI (uI (uI S 11 (a) (0)) 12 (a) ((-1))) 13 (a) ((-1))) 14 (a) ((-1)))) (v := n) E ham hak (fun _ h => (List.mem_cons_of_mem _ (List.mem_append_right _ h))) hin rfl (List.mem_cons_of_mem _ (List.mem_append_left _ (List.mem_of_getElem? (i := 7) rfl))) rfl dX2_init_26 ?_
  refine g_aload_n E dX2_init_29 rfl 0 rfl ?_
  refine g_iload_n E dX2_init_30 rfl 2 rfl ?_
  refine p_put_Permit_applicant (S := (uI (uI (uI (uI (uI S 11 (a) (0)) 12 (a) ((-1))) 13 (a) ((-1))) 14 (a) ((-1))) 5 (a) (n))) (v := ap) E ham hak (fun _ h => (List.mem_cons_of_mem _ (List.mem_append_right _ h))) hin rfl (List.mem_cons_of_mem _ (List.mem_append_left _ (List.mem_of_getElem? (i := 8) rfl))) rfl dX2_init_31 ?_
  refine g_aload_n E dX2_init_34 rfl 0 rfl ?_
  refine g_iload_n E dX2_init_35 rfl 3 rfl ?_
  refine p_put_Permit_lane (S := (uI (uI (uI (uI (uI (uI S 11 (a) (0)) 12 (a) ((-1))) 13 (a) ((-1))) 14 (a) ((-1))) 5 (a) (n)) 6 (a) (ap))) (v := ln) E ham hak (fun _ h => (List.mem_cons_of_mem _ (List.mem_append_right _ h))) hin rfl (List.mem_cons_of_mem _ (List.mem_append_left _ (List.mem_of_getElem? (i := 9) rfl))) rfl dX2_init_36 ?_
  refine g_aload_n E dX2_init_39 rfl 0 rfl ?_
  refine g_iload E dX2_init_40 4 rfl ?_
  refine p_put_Permit_appliedFrom (S := (uI (uI (uI (uI (uI (uI (uI S 11 (a) (0)) 12 (a) ((-1))) 13 (a) ((-1))) 14 (a) ((-1))) 5 (a) (n)) 6 (a) (ap)) 7 (a) (ln))) (v := fr) E ham hak (fun _ h => (List.mem_cons_of_mem _ (List.mem_append_right _ h))) hin rfl (List.mem_cons_of_mem _ (List.mem_append_left _ (List.mem_of_getElem? (i := 10) rfl))) rfl dX2_init_42 ?_
  refine g_aload_n E dX2_init_45 rfl 0 rfl ?_
  refine g_iload E dX2_init_46 5 rfl ?_
  refine p_put_Permit_appliedEnd (S := (uI (uI (uI (uI (uI (uI (uI (uI S 11 (a) (0)) 12 (a) ((-1))) 13 (a) ((-1))) 14 (a) ((-1))) 5 (a) (n)) 6 (a) (ap)) 7 (a) (ln)) 8 (a) (fr))) (v := en) E ham hak (fun _ h => (List.mem_cons_of_mem _ (List.mem_append_right _ h))) hin rfl (List.mem_cons_of_mem _ (List.mem_append_left _ (List.mem_of_getElem? (i := 11) rfl))) rfl dX2_init_48 ?_
  refine g_aload_n E dX2_init_51 rfl 0 rfl ?_
  refine g_aload E dX2_init_52 6 rfl ?_
  refine p_put_Permit_needed (S := (uI (uI (uI (uI (uI (uI (uI (uI (uI S 11 (a) (0)) 12 (a) ((-1))) 13 (a) ((-1))) 14 (a) ((-1))) 5 (a) (n)) 6 (a) (ap)) 7 (a) (ln)) 8 (a) (fr)) 9 (a) (en))) (v := (some (y))) E ham hak (fun _ h => (List.mem_cons_of_mem _ (List.mem_append_right _ h))) hin rfl (List.mem_cons_of_mem _ (List.mem_append_left _ (List.mem_of_getElem? (i := 12) rfl))) rfl dX2_init_54 ?_
  refine g_aload_n E dX2_init_57 rfl 0 rfl ?_
  refine g_iload E dX2_init_58 7 rfl ?_
  refine p_put_Permit_isUrgent (S := (uP (uI (uI (uI (uI (uI (uI (uI (uI (uI S 11 (a) (0)) 12 (a) ((-1))) 13 (a) ((-1))) 14 (a) ((-1))) 5 (a) (n)) 6 (a) (ap)) 7 (a) (ln)) 8 (a) (fr)) 9 (a) (en)) 1 (a) ((some (y))))) (v := ur) E ham hak (fun _ h => (List.mem_cons_of_mem _ (List.mem_append_right _ h))) hin rfl (List.mem_cons_of_mem _ (List.mem_append_left _ (List.mem_of_getElem? (i := 13) rfl))) rfl hu dX2_init_60 ?_
  exact g_vret E hE hr dX2_init_63 (Nat.le_of_ble_eq_true rfl) (Nat.le_of_ble_eq_true rfl) ⟨(uI (uP (uI (uI (uI (uI (uI (uI (uI (uI (uI S 11 (a) (0)) 12 (a) ((-1))) 13 (a) ((-1))) 14 (a) ((-1))) 5 (a) (n)) 6 (a) (ap)) 7 (a) (ln)) 8 (a) (fr)) 9 (a) (en)) 1 (a) ((some (y)))) 10 (a) (ur)), rfl, rfl, rfl⟩
abbrev rm_X0_init : Room := { frames := 1, cells := 1, slots := 6, locals := 30 }
set_option maxHeartbeats 4000000 in
set_option maxRecDepth 100000 in
theorem m_X0_init (l : Launch) (hl : l.stackTraces = false) (D : va_G) (cy : Nat → ClassId) (e0 : Nat) {S : wS}  {a : Nat} (ham : a ∈ sL S) (hak : sK S a = 0) {x ps : Int32} : cMet l yX0_init wsX0_init rm_X0_init D cy e0 [.ref (a), .int (x), .int (ps)] S (fun v S' => v = none ∧ ∃ q, q ∉ sL S ∧ S' = iLn S a q x ps) (fun _ _ => False) 1 6 := by
  refine gMet.of (cc := cX0_init) (maxL := 3) (ret := none) hl (by decide) rfl (Nat.le_of_ble_eq_true rfl) ?_
  intro C E h1 h2 h3 hr hnm hT hE
  subst h1; subst h2; subst h3
  have E : gOk C cX0_init 3 wsX0_init RX0 e0 rm_X0_init := E
  have hin : (xh C).name = "<init>" := hnm
  show G C (cW (xy C) S) 0 0 0 [(0, .ref (a)), (1, .int (x)), (2, .int (ps))] []
  refine g_aload_n E dX0_init_0 rfl 0 rfl ?_
  refine g_objInit (rest := []) E (List.mem_cons_of_mem _ (List.mem_append_left _ (List.mem_of_getElem? (i := 0) rfl))) (List.mem_cons_of_mem _ (List.mem_append_left _ (List.mem_of_getElem? (i := 1) rfl))) (List.mem_cons_of_mem _ (List.mem_append_left _ (List.mem_of_getElem? (i := 2) rfl))) dX0_init_1 (Nat.le_of_ble_eq_true rfl) (Nat.le_of_ble_eq_true rfl) ?_
  refine g_aload_n E dX0_init_4 rfl 0 rfl ?_
  refine g_bipush (v := 6) E dX0_init_5 (by decide) ?_
  refine p_newa (S := S) E (List.mem_cons_of_mem _ (List.mem_append_left _ (List.mem_of_getElem? (i := 3) rfl))) 6 rfl (by decide) (Nat.le_of_ble_eq_true rfl) (Nat.le_of_ble_eq_true rfl) dX0_init_7 (fun q hq => ?_)
  have haq := ne_of_new ham hq
  refine p_put_Line_stops (S := nw S q 7 6) (v := some q) E (nw_mem (k := 7) (n := 6) ham) ((nw_K (k := 7) (n := 6) haq).trans hak) (fun _ h => (List.mem_cons_of_mem _ (List.mem_append_right _ h))) hin rfl (List.mem_cons_of_mem _ (List.mem_append_left _ (List.mem_of_getElem? (i := 4) rfl))) rfl dX0_init_9 ?_
  refine g_aload_n E dX0_init_12 rfl 0 rfl ?_
  refine g_iconst (v := 1) E dX0_init_13 (by decide) ?_
  refine p_put_Line_count (S := (uP (nw S q 7 6) 0 a (some q))) (v := 1) E (show a ∈ sL (nw S q 7 6) from nw_mem ham) ((nw_K (k := 7) (n := 6) haq).trans hak) (fun _ h => (List.mem_cons_of_mem _ (List.mem_append_right _ h))) (List.mem_cons_of_mem _ (List.mem_append_left _ (List.mem_of_getElem? (i := 5) rfl))) rfl dX0_init_14 ?_
  refine g_aload_n E dX0_init_17 rfl 0 rfl ?_
  refine p_get_Line_stops (S := (uI (uP (nw S q 7 6) 0 a (some q)) 0 a 1)) E (show a ∈ sL (nw S q 7 6) from nw_mem ham) ((nw_K (k := 7) (n := 6) haq).trans hak) (fun _ h => (List.mem_cons_of_mem _ (List.mem_append_right _ h))) (List.mem_cons_of_mem _ (List.mem_append_left _ (List.mem_of_getElem? (i := 4) rfl))) dX0_init_18 ?_
  rw [show sP (uI (uP (nw S q 7 6) 0 a (some q)) 0 a 1) 0 a = some q from up2_self _ _ _ _]
  show G C (cW (xy C) (uI (uP (nw S q 7 6) 0 a (some q)) 0 a (1))) 1 6 21 [(0, .ref (a)), (1, .int (x)), (2, .int (ps))] [.ref (q)]
  refine g_iconst (v := 0) E dX0_init_21 (by decide) ?_
  refine g_iload_n E dX0_init_22 rfl 1 rfl ?_
  refine p_iast (S := (uI (uP (nw S q 7 6) 0 a (some q)) 0 a 1)) (a := q) E (show q ∈ sL (nw S q 7 6) from nw_own) (nw_Ko (k := 7) (n := 6)) (Nat.lt_of_le_of_lt (Nat.le_of_eq (nw_No (S := S) (q := q) (k := 7) (n := 6))) (by decide)) 0 rfl (Nat.lt_of_lt_of_le (by decide) (Nat.le_of_eq (nw_No (S := S) (q := q) (k := 7) (n := 6)).symm)) dX0_init_23 ?_
  show G C (cW (xy C) (uR (uI (uP (nw S q 7 6) 0 a (some q)) 0 a 1) q 0 x)) 1 6 24 [(0, .ref (a)), (1, .int (x)), (2, .int (ps))] []
  refine g_aload_n E dX0_init_24 rfl 0 rfl ?_
  refine g_iload_n E dX0_init_25 rfl 2 rfl ?_
  refine p_put_Line_passengers (S := (uR (uI (uP (nw S q 7 6) 0 a (some q)) 0 a 1) q 0 x)) (v := ps) E (show a ∈ sL (nw S q 7 6) from nw_mem ham) ((nw_K (k := 7) (n := 6) haq).trans hak) (fun _ h => (List.mem_cons_of_mem _ (List.mem_append_right _ h))) hin rfl (List.mem_cons_of_mem _ (List.mem_append_left _ (List.mem_of_getElem? (i := 6) rfl))) rfl dX0_init_26 ?_
  exact g_vret E hE hr dX0_init_29 (Nat.le_of_ble_eq_true rfl) (Nat.le_of_ble_eq_true rfl) ⟨(uI (uR (uI (uP (nw S q 7 6) 0 a (some q)) 0 a 1) q 0 x) 1 a (ps)), rfl, rfl, q, hq, rfl⟩
