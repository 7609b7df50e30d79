/-! minutes of legs -/
theorem WV_of {w : Nat} (hw : w < 2) {i r i' r' : Nat → Nat → Int32} {cl : Int32} {M : Nat} (h : WV i r M) (hM : SM w r r') (hf : ∀ f, f ≠ 16 → f ≠ 17 → i' f = i f) (h1 : ∀ w1, w1 ≠ w → i' 16 w1 = i 16 w1 ∧ i' 17 w1 = i 17 w1) (h16 : i' 16 w = nI M) (h17 : i' 17 w = cl) (hTw : TW w (dst (Ed (r 0) (r 1) (r 2) cl M)) r') : SC i r i' r' ∧ WV i' r' M := by
  have e0 : r' 0 = r 0 := hM 0 (by omega)
  have e1 : r' 1 = r 1 := hM 1 (by omega)
  have e2 : r' 2 = r 2 := hM 2 (by omega)
  refine ⟨⟨hf, fun k hk => hM k (by omega)⟩, ?_⟩
  have own : WC w i' r' M := Or.inr ⟨M, Nat.le_refl M, h16, by rw [e0, e1, e2, h17]; exact hTw⟩
  have oth : ∀ w1, w1 < 2 → w1 ≠ w → WC w1 i r M → WC w1 i' r' M := by
    intro w1 hw1 hne q
    rcases q with q | ⟨m, q1, q2, q3⟩
    · exact Or.inl ((h1 w1 hne).1.trans q)
    · refine Or.inr ⟨m, q1, (h1 w1 hne).1.trans q2, fun a b ha hb => ?_⟩
      rw [hM (4 + 10 * w1 + a) (by omega), e0, e1, e2, (h1 w1 hne).2]
      exact q3 a b ha hb
  rcases (show w = 0 ∨ w = 1 by omega) with rfl | rfl
  · exact ⟨own, oth 1 (by omega) (by omega) h.2⟩
  · exact ⟨oth 0 (by omega) (by omega) h.1, own⟩
theorem SC.lns {i r i' r' : Nat → Nat → Int32} {M : Nat} (h : SC i r i' r') (hl : LNS r M) : LNS r' M := by
  have e0 : r' 0 = r 0 := h.2 0 (by omega)
  have e1 : r' 1 = r 1 := h.2 1 (by omega)
  have e2 : r' 2 = r 2 := h.2 2 (by omega)
  intro e he
  rw [e0, e1, e2]
  exact hl e he
def tn (x : Int32) : Nat := x.toNatClampNeg
theorem tn_nI {n : Nat} (h : n < 2 ^ 31) : tn (nI n) = n := nI_clamp h
/-- the stops of line l are junctions, the first n of them -/
def STP (r : Nat → Nat → Int32) (l n : Nat) : Prop := ∀ k, k < n → r (24 + l) k = nI (tn (r (24 + l) k)) ∧ tn (r (24 + l) k) < 10
def sumI (f : Nat → Int32) : Nat → Int32
  | 0 => 0
  | n + 1 => sumI f n + f n
theorem sumI_s (f : Nat → Int32) (n : Nat) : sumI f (n + 1) = sumI f n + f n := rfl
noncomputable def legI (E0 Ec : Nat → Nat → Nat → Prop) (a b : Nat) : Int32 := if wy Ec a b = -1 then 60 else wy Ec a b - wy E0 a b
theorem legI_n {E0 Ec : Nat → Nat → Nat → Prop} {a b : Nat} (h : wy Ec a b = -1) : legI E0 Ec a b = 60 := if_pos h
theorem legI_y {E0 Ec : Nat → Nat → Nat → Prop} {a b : Nat} (h : ¬ wy Ec a b = -1) : legI E0 Ec a b = wy Ec a b - wy E0 a b := if_neg h
/-- what the n legs of line l take more -/
noncomputable def exF (r : Nat → Nat → Int32) (l : Nat) (cl : Int32) (M : Nat) (k : Nat) : Int32 := legI (Ed (r 0) (r 1) (r 2) 0 M) (Ed (r 0) (r 1) (r 2) cl M) (tn (r (24 + l) k)) (tn (r (24 + l) (k + 1)))
noncomputable def exM (r : Nat → Nat → Int32) (l : Nat) (cl : Int32) (M n : Nat) : Int32 := sumI (exF r l cl M) n
theorem exM_s (r : Nat → Nat → Int32) (l : Nat) (cl : Int32) (M n : Nat) : exM r l cl M (n + 1) = exM r l cl M n + exF r l cl M n := rfl
abbrev rm_X4_between : Room := { frames := 0, cells := 0, slots := 0, locals := 0 }
set_option maxHeartbeats 4000000 in
set_option maxRecDepth 100000 in
theorem m_X4_between (l : Launch) (hl : l.stackTraces = false) (D : va_G) (cy : Nat → ClassId) (e0 : Nat) {S : wS} {c : Nat → Nat} {ad : Nat → Nat → Nat} {i : Nat → Nat → Int32} {j : Nat → Nat → Int64} {p : Nat → Nat → Option Nat} {r : Nat → Nat → Int32} (hI : CI e0 S c ad i j p r) {w : Nat} (hw : w < 2) {Ew : Nat → Nat → Nat → Prop} {a b : Nat} (ha : a < 10) (hb : b < 10) (hTw : TW w (dst Ew) r) : cMet l yX4_between wsX4_between rm_X4_between D cy e0 [.ref (ad 4 w), .int (nI a), .int (nI b)] S (fun v S' => v = some (.int (wy Ew a b)) ∧ S' = S) (fun _ _ => False) 0 0 := by
  refine gMet.of (cc := cX4_between) (maxL := 3) (ret := (some .int)) hl (by decide) rfl (Nat.le_of_ble_eq_true rfl) ?_
  intro C E h1 h2 h3 hr hnm hT hE
  subst h1; subst h2; subst h3
  have E : gOk C cX4_between 3 wsX4_between RX4 e0 rm_X4_between := E
  show G C (cW (xy C) S) 0 0 0 [(0, .ref (ad 4 w)), (1, .int (nI a)), (2, .int (nI b))] []
  refine g_aload_n E dX4_between_0 rfl 0 rfl ?_
  refine q_get_Ways_shortest E hI (hI.c4 hw) (fun _ h => (List.mem_cons_of_mem _ (List.mem_append_right _ h))) (List.mem_cons_of_mem _ (List.mem_append_left _ (List.mem_of_getElem? (i := 0) rfl))) dX4_between_1 ?_
  refine g_iload_n E dX4_between_4 rfl 1 rfl ?_
  refine q_row E hI (k := w) (by omega) a rfl (by first | omega | (rw [alen_w (by omega) (by omega)]; omega) | (rw [alen_s]; omega) | (show _ < 24; omega) | (show _ < 6; omega)) dX4_between_5 ?_
  refine g_iload_n E dX4_between_6 rfl 2 rfl ?_
  refine q_iald E hI (hI.c7 (by omega)) b rfl (by first | omega | (rw [alen_w (by omega) (by omega)]; omega) | (rw [alen_s]; omega) | (show _ < 24; omega) | (show _ < 6; omega)) dX4_between_7 ?_
  rw [hTw a b ha hb]
  show G C (cW (xy C) S) 0 0 8 [(0, .ref (ad 4 w)), (1, .int (nI a)), (2, .int (nI b))] [.int (nI (dst Ew a b))]
  refine g_ldc E (List.mem_cons_of_mem _ (List.mem_append_left _ (List.mem_of_getElem? (i := 1) rfl))) dX4_between_8 ?_
  refine g_icmp_ge (tgt := 24) E dX4_between_10 (by decide) (fun c_10 => ?_) (fun c_10 => ?_)
  · refine g_iconst (v := (-1)) E dX4_between_24 (by decide) ?_
    exact g_iret E hE hr dX4_between_25 (Nat.le_of_ble_eq_true rfl) (Nat.le_of_ble_eq_true rfl) ⟨S, rfl, by rw [wy_ge c_10], rfl⟩
  · refine g_aload_n E dX4_between_13 rfl 0 rfl ?_
    refine q_get_Ways_shortest E hI (hI.c4 hw) (fun _ h => (List.mem_cons_of_mem _ (List.mem_append_right _ h))) (List.mem_cons_of_mem _ (List.mem_append_left _ (List.mem_of_getElem? (i := 0) rfl))) dX4_between_14 ?_
    refine g_iload_n E dX4_between_17 rfl 1 rfl ?_
    refine q_row E hI (k := w) (by omega) a rfl (by first | omega | (rw [alen_w (by omega) (by omega)]; omega) | (rw [alen_s]; omega) | (show _ < 24; omega) | (show _ < 6; omega)) dX4_between_18 ?_
    refine g_iload_n E dX4_between_19 rfl 2 rfl ?_
    refine q_iald E hI (hI.c7 (by omega)) b rfl (by first | omega | (rw [alen_w (by omega) (by omega)]; omega) | (rw [alen_s]; omega) | (show _ < 24; omega) | (show _ < 6; omega)) dX4_between_20 ?_
    rw [hTw a b ha hb]
    show G C (cW (xy C) S) 0 0 21 [(0, .ref (ad 4 w)), (1, .int (nI a)), (2, .int (nI b))] [.int (nI (dst Ew a b))]
    refine g_goto (tgt := 25) E dX4_between_21 (by decide) ?_
    exact g_iret E hE hr dX4_between_25 (Nat.le_of_ble_eq_true rfl) (Nat.le_of_ble_eq_true rfl) ⟨S, rfl, by rw [wy_lt c_10], rfl⟩
abbrev rm_X3_freeWay : Room := { frames := 2, cells := 0, slots := 0, locals := 48 }
set_option maxHeartbeats 4000000 in
set_option maxRecDepth 100000 in
theorem m_X3_freeWay (l : Launch) (hl : l.stackTraces = false) (D : va_G) (cy : Nat → ClassId) (e0 : Nat) {S : wS} {c : Nat → Nat} {ad : Nat → Nat → Nat} {i : Nat → Nat → Int32} {j : Nat → Nat → Int64} {p : Nat → Nat → Option Nat} {r : Nat → Nat → Int32} (hI : CI e0 S c ad i j p r)  {M : Nat} (hm : i 15 0 = nI M) (hm2 : M ≤ 24) (hln : LNS r M) (hV : WV i r M) {a b : Nat} (ha : a < 10) (hb : b < 10) : cMet l yX3_freeWay wsX3_freeWay rm_X3_freeWay D cy e0 [.ref (ad 3 0), .int (nI a), .int (nI b)] S (fun v S' => ∃ i' r', CI e0 S' c ad i' j p r' ∧ SC i r i' r' ∧ WV i' r' M ∧ v = some (.int (wy (Ed (r 0) (r 1) (r 2) 0 M) a b))) (fun _ _ => False) 0 0 := by
  refine gMet.of (cc := cX3_freeWay) (maxL := 3) (ret := (some .int)) hl (by decide) rfl (Nat.le_of_ble_eq_true rfl) ?_
  intro C E h1 h2 h3 hr hnm hT hE
  subst h1; subst h2; subst h3
  have E : gOk C cX3_freeWay 3 wsX3_freeWay RX3 e0 rm_X3_freeWay := E
  show G C (cW (xy C) S) 0 0 0 [(0, .ref (ad 3 0)), (1, .int (nI a)), (2, .int (nI b))] []
  refine g_aload_n E dX3_freeWay_0 rfl 0 rfl ?_
  refine q_get_Roads_free E hI (fun _ h => (List.mem_cons_of_mem _ (List.mem_append_left _ (List.mem_append_right _ h)))) (List.mem_cons_of_mem _ (List.mem_append_left _ (List.mem_append_left _ (List.mem_of_getElem? (i := 0) rfl)))) dX3_freeWay_1 ?_
  refine g_aload_n E dX3_freeWay_4 rfl 0 rfl ?_
  refine g_iconst (v := 0) E dX3_freeWay_5 (by decide) ?_
  refine c_invV (n := 2) (rest := []) E (m_X4_find (xl C) E.tr (xD C) (xy C) e0 (cl := 0) hI (w := 0) (by decide) hm hm2 hln hV.1) (hI.obj (kd := 4) (k := 0) (by omega) (hI.c4 (by omega))).1 gX3_freeWay_X4_find rfl rfl rfl (by decide +kernel) ⟨Nat.le_of_ble_eq_true rfl, Nat.le_of_ble_eq_true rfl⟩ (wF_Ways (hI.obj (kd := 4) (k := 0) (by omega) (hI.c4 (by omega))).2) rfl rfl rfl rfl (Nat.le_of_ble_eq_true rfl) dX3_freeWay_6 ⟨Nat.le_of_ble_eq_true rfl, Nat.le_of_ble_eq_true rfl⟩ (fun _ _ h9 => h9.elim) (fun v9 S9_6 h9 => ?_)
  obtain ⟨hv9, i', r', hI, hM, hf, hw1, h16, h17, hTw⟩ := h9
  obtain ⟨hS, hV⟩ := WV_of (by decide) hV hM hf hw1 h16 h17 hTw
  rw [hv9]
  show G C (cW (xy C) S9_6) 0 0 9 [(0, .ref (ad 3 0)), (1, .int (nI a)), (2, .int (nI b))] []
  refine g_aload_n E dX3_freeWay_9 rfl 0 rfl ?_
  refine q_get_Roads_free E hI (fun _ h => (List.mem_cons_of_mem _ (List.mem_append_left _ (List.mem_append_right _ h)))) (List.mem_cons_of_mem _ (List.mem_append_left _ (List.mem_append_left _ (List.mem_of_getElem? (i := 0) rfl)))) dX3_freeWay_10 ?_
  refine g_iload_n E dX3_freeWay_13 rfl 1 rfl ?_
  refine g_iload_n E dX3_freeWay_14 rfl 2 rfl ?_
  refine c_invV (n := 2) (rest := []) E (m_X4_between (xl C) E.tr (xD C) (xy C) e0 hI (w := 0) (by decide) ha hb hTw) (hI.obj (kd := 4) (k := 0) (by omega) (hI.c4 (by omega))).1 gX3_freeWay_X4_between rfl rfl rfl (by decide +kernel) ⟨Nat.le_of_ble_eq_true rfl, Nat.le_of_ble_eq_true rfl⟩ (wF_Ways (hI.obj (kd := 4) (k := 0) (by omega) (hI.c4 (by omega))).2) rfl rfl rfl rfl (Nat.le_of_ble_eq_true rfl) dX3_freeWay_15 ⟨Nat.le_of_ble_eq_true rfl, Nat.le_of_ble_eq_true rfl⟩ (fun _ _ h9 => h9.elim) (fun v9 S9_15 h9 => ?_)
  obtain ⟨hv9, hS9⟩ := h9
  rw [hv9, hS9]
  show G C (cW (xy C) S9_6) 0 0 18 [(0, .ref (ad 3 0)), (1, .int (nI a)), (2, .int (nI b))] [.int ((wy (Ed (r 0) (r 1) (r 2) 0 M) a b))]
  exact g_iret E hE hr dX3_freeWay_18 (Nat.le_of_ble_eq_true rfl) (Nat.le_of_ble_eq_true rfl) ⟨S9_6, rfl, i', r', hI, hS, hV, rfl⟩
abbrev rm_X3_wayRound : Room := { frames := 2, cells := 0, slots := 0, locals := 48 }
set_option maxHeartbeats 4000000 in
set_option maxRecDepth 100000 in
theorem m_X3_wayRound (l : Launch) (hl : l.stackTraces = false) (D : va_G) (cy : Nat → ClassId) (e0 : Nat) {S : wS} {c : Nat → Nat} {ad : Nat → Nat → Nat} {i : Nat → Nat → Int32} {j : Nat → Nat → Int64} {p : Nat → Nat → Option Nat} {r : Nat → Nat → Int32} (hI : CI e0 S c ad i j p r)  {cl : Int32} {M : Nat} (hm : i 15 0 = nI M) (hm2 : M ≤ 24) (hln : LNS r M) (hV : WV i r M) {a b : Nat} (ha : a < 10) (hb : b < 10) : cMet l yX3_wayRound wsX3_wayRound rm_X3_wayRound D cy e0 [.ref (ad 3 0), .int (nI a), .int (nI b), .int (cl)] S (fun v S' => ∃ i' r', CI e0 S' c ad i' j p r' ∧ SC i r i' r' ∧ WV i' r' M ∧ v = some (.int (wy (Ed (r 0) (r 1) (r 2) cl M) a b))) (fun _ _ => False) 0 0 := by
  refine gMet.of (cc := cX3_wayRound) (maxL := 4) (ret := (some .int)) hl (by decide) rfl (Nat.le_of_ble_eq_true rfl) ?_
  intro C E h1 h2 h3 hr hnm hT hE
  subst h1; subst h2; subst h3
  have E : gOk C cX3_wayRound 4 wsX3_wayRound RX3 e0 rm_X3_wayRound := E
  show G C (cW (xy C) S) 0 0 0 [(0, .ref (ad 3 0)), (1, .int (nI a)), (2, .int (nI b)), (3, .int (cl))] []
  refine g_aload_n E dX3_wayRound_0 rfl 0 rfl ?_
  refine q_get_Roads_round E hI (fun _ h => (List.mem_cons_of_mem _ (List.mem_append_left _ (List.mem_append_right _ h)))) (List.mem_cons_of_mem _ (List.mem_append_left _ (List.mem_append_left _ (List.mem_of_getElem? (i := 0) rfl)))) dX3_wayRound_1 ?_
  refine g_aload_n E dX3_wayRound_4 rfl 0 rfl ?_
  refine g_iload_n E dX3_wayRound_5 rfl 3 rfl ?_
  refine c_invV (n := 2) (rest := []) E (m_X4_find (xl C) E.tr (xD C) (xy C) e0 (cl := cl) hI (w := 1) (by decide) hm hm2 hln hV.2) (hI.obj (kd := 4) (k := 1) (by omega) (hI.c4 (by omega))).1 gX3_wayRound_X4_find rfl rfl rfl (by decide +kernel) ⟨Nat.le_of_ble_eq_true rfl, Nat.le_of_ble_eq_true rfl⟩ (wF_Ways (hI.obj (kd := 4) (k := 1) (by omega) (hI.c4 (by omega))).2) rfl rfl rfl rfl (Nat.le_of_ble_eq_true rfl) dX3_wayRound_6 ⟨Nat.le_of_ble_eq_true rfl, Nat.le_of_ble_eq_true rfl⟩ (fun _ _ h9 => h9.elim) (fun v9 S9_6 h9 => ?_)
  obtain ⟨hv9, i', r', hI, hM, hf, hw1, h16, h17, hTw⟩ := h9
  obtain ⟨hS, hV⟩ := WV_of (by decide) hV hM hf hw1 h16 h17 hTw
  rw [hv9]
  show G C (cW (xy C) S9_6) 0 0 9 [(0, .ref (ad 3 0)), (1, .int (nI a)), (2, .int (nI b)), (3, .int (cl))] []
  refine g_aload_n E dX3_wayRound_9 rfl 0 rfl ?_
  refine q_get_Roads_round E hI (fun _ h => (List.mem_cons_of_mem _ (List.mem_append_left _ (List.mem_append_right _ h)))) (List.mem_cons_of_mem _ (List.mem_append_left _ (List.mem_append_left _ (List.mem_of_getElem? (i := 0) rfl)))) dX3_wayRound_10 ?_
  refine g_iload_n E dX3_wayRound_13 rfl 1 rfl ?_
  refine g_iload_n E dX3_wayRound_14 rfl 2 rfl ?_
  refine c_invV (n := 2) (rest := []) E (m_X4_between (xl C) E.tr (xD C) (xy C) e0 hI (w := 1) (by decide) ha hb hTw) (hI.obj (kd := 4) (k := 1) (by omega) (hI.c4 (by omega))).1 gX3_wayRound_X4_between rfl rfl rfl (by decide +kernel) ⟨Nat.le_of_ble_eq_true rfl, Nat.le_of_ble_eq_true rfl⟩ (wF_Ways (hI.obj (kd := 4) (k := 1) (by omega) (hI.c4 (by omega))).2) rfl rfl rfl rfl (Nat.le_of_ble_eq_true rfl) dX3_wayRound_15 ⟨Nat.le_of_ble_eq_true rfl, Nat.le_of_ble_eq_true rfl⟩ (fun _ _ h9 => h9.elim) (fun v9 S9_15 h9 => ?_)
  obtain ⟨hv9, hS9⟩ := h9
  rw [hv9, hS9]
  show G C (cW (xy C) S9_6) 0 0 18 [(0, .ref (ad 3 0)), (1, .int (nI a)), (2, .int (nI b)), (3, .int (cl))] [.int ((wy (Ed (r 0) (r 1) (r 2) cl M) a b))]
  exact g_iret E hE hr dX3_wayRound_18 (Nat.le_of_ble_eq_true rfl) (Nat.le_of_ble_eq_true rfl) ⟨S9_6, rfl, i', r', hI, hS, hV, rfl⟩
abbrev rm_X3_join : Room := { frames := 0, cells := 0, slots := 0, locals := 0 }
set_option maxHeartbeats 4000000 in
set_option maxRecDepth 100000 in
theorem m_X3_join (l : Launch) (hl : l.stackTraces = false) (D : va_G) (cy : Nat → ClassId) (e0 : Nat) {S : wS} {c : Nat → Nat} {ad : Nat → Nat → Nat} {i : Nat → Nat → Int32} {j : Nat → Nat → Int64} {p : Nat → Nat → Option Nat} {r : Nat → Nat → Int32} (hI : CI e0 S c ad i j p r) {x y t : Int32} {M : Nat} (hm : i 15 0 = nI M) (hm2 : M < 24) : cMet l yX3_join wsX3_join rm_X3_join D cy e0 [.ref (ad 3 0), .int (x), .int (y), .int (t)] S (fun v S' => v = some (.int (nI M)) ∧ CI e0 S' c ad (up2 i 15 0 (nI M + 1)) j p (up2 (up2 (up2 r 0 M x) 1 M y) 2 M t)) (fun _ _ => False) 0 0 := by
  refine gMet.of (cc := cX3_join) (maxL := 4) (ret := (some .int)) hl (by decide) rfl (Nat.le_of_ble_eq_true rfl) ?_
  intro C E h1 h2 h3 hr hnm hT hE
  subst h1; subst h2; subst h3
  have E : gOk C cX3_join 4 wsX3_join RX3 e0 rm_X3_join := E
  show G C (cW (xy C) S) 0 0 0 [(0, .ref (ad 3 0)), (1, .int (x)), (2, .int (y)), (3, .int (t))] []
  refine g_aload_n E dX3_join_0 rfl 0 rfl ?_
  refine q_get_Roads_count E hI hI.c3 (fun _ h => (List.mem_cons_of_mem _ (List.mem_append_right _ h))) (List.mem_cons_of_mem _ (List.mem_append_left _ (List.mem_of_getElem? (i := 0) rfl))) dX3_join_1 ?_
  rw [hm]
  show G C (cW (xy C) S) 0 0 4 [(0, .ref (ad 3 0)), (1, .int (x)), (2, .int (y)), (3, .int (t))] [.int (nI M)]
  refine g_bipush (v := 24) E dX3_join_4 (by decide) ?_
  refine g_icmp_ge (tgt := 49) E dX3_join_6 (by decide) (fun c_6 => ?_) (fun c_6 => ?_)
  · exact absurd c_6 (nI_ge (b := 24) hm2 (by decide))
  · refine g_aload_n E dX3_join_9 rfl 0 rfl ?_
    refine q_get_Roads_ones E hI (fun _ h => (List.mem_cons_of_mem _ (List.mem_append_right _ h))) (List.mem_cons_of_mem _ (List.mem_append_left _ (List.mem_of_getElem? (i := 1) rfl))) dX3_join_10 ?_
    refine g_aload_n E dX3_join_13 rfl 0 rfl ?_
    refine q_get_Roads_count E hI hI.c3 (fun _ h => (List.mem_cons_of_mem _ (List.mem_append_right _ h))) (List.mem_cons_of_mem _ (List.mem_append_left _ (List.mem_of_getElem? (i := 0) rfl))) dX3_join_14 ?_
    rw [hm]
    show G C (cW (xy C) S) 0 0 17 [(0, .ref (ad 3 0)), (1, .int (x)), (2, .int (y)), (3, .int (t))] [.int (nI M), .ref (ad 7 0)]
    refine g_iload_n E dX3_join_17 rfl 1 rfl ?_
    refine q_iast E hI (hI.c7 (by omega)) M rfl (by first | omega | (rw [alen_w (by omega) (by omega)]; omega) | (rw [alen_s]; omega) | (show _ < 24; omega) | (show _ < 6; omega)) dX3_join_18 (fun S hI => ?_)
    refine g_aload_n E dX3_join_19 rfl 0 rfl ?_
    refine q_get_Roads_others E hI (fun _ h => (List.mem_cons_of_mem _ (List.mem_append_right _ h))) (List.mem_cons_of_mem _ (List.mem_append_left _ (List.mem_of_getElem? (i := 2) rfl))) dX3_join_20 ?_
    refine g_aload_n E dX3_join_23 rfl 0 rfl ?_
    refine q_get_Roads_count E hI hI.c3 (fun _ h => (List.mem_cons_of_mem _ (List.mem_append_right _ h))) (List.mem_cons_of_mem _ (List.mem_append_left _ (List.mem_of_getElem? (i := 0) rfl))) dX3_join_24 ?_
    rw [hm]
    show G C (cW (xy C) S) 0 0 27 [(0, .ref (ad 3 0)), (1, .int (x)), (2, .int (y)), (3, .int (t))] [.int (nI M), .ref (ad 7 1)]
    refine g_iload_n E dX3_join_27 rfl 2 rfl ?_
    refine q_iast E hI (hI.c7 (by omega)) M rfl (by first | omega | (rw [alen_w (by omega) (by omega)]; omega) | (rw [alen_s]; omega) | (show _ < 24; omega) | (show _ < 6; omega)) dX3_join_28 (fun S hI => ?_)
    refine g_aload_n E dX3_join_29 rfl 0 rfl ?_
    refine q_get_Roads_laneMinutes E hI (fun _ h => (List.mem_cons_of_mem _ (List.mem_append_right _ h))) (List.mem_cons_of_mem _ (List.mem_append_left _ (List.mem_of_getElem? (i := 3) rfl))) dX3_join_30 ?_
    refine g_aload_n E dX3_join_33 rfl 0 rfl ?_
    refine q_get_Roads_count E hI hI.c3 (fun _ h => (List.mem_cons_of_mem _ (List.mem_append_right _ h))) (List.mem_cons_of_mem _ (List.mem_append_left _ (List.mem_of_getElem? (i := 0) rfl))) dX3_join_34 ?_
    rw [hm]
    show G C (cW (xy C) S) 0 0 37 [(0, .ref (ad 3 0)), (1, .int (x)), (2, .int (y)), (3, .int (t))] [.int (nI M), .ref (ad 7 2)]
    refine g_iload_n E dX3_join_37 rfl 3 rfl ?_
    refine q_iast E hI (hI.c7 (by omega)) M rfl (by first | omega | (rw [alen_w (by omega) (by omega)]; omega) | (rw [alen_s]; omega) | (show _ < 24; omega) | (show _ < 6; omega)) dX3_join_38 (fun S hI => ?_)
    refine g_aload_n E dX3_join_39 rfl 0 rfl ?_
    refine g_dup E dX3_join_40 rfl ?_
    refine q_get_Roads_count E hI hI.c3 (fun _ h => (List.mem_cons_of_mem _ (List.mem_append_right _ h))) (List.mem_cons_of_mem _ (List.mem_append_left _ (List.mem_of_getElem? (i := 0) rfl))) dX3_join_41 ?_
    rw [hm]
    show G C (cW (xy C) S) 0 0 44 [(0, .ref (ad 3 0)), (1, .int (x)), (2, .int (y)), (3, .int (t))] [.int (nI M), .ref (ad 3 0)]
    refine g_iconst (v := 1) E dX3_join_44 (by decide) ?_
    refine g_iadd E dX3_join_45 ?_
    refine q_put_Roads_count E hI hI.c3 (fun _ h => (List.mem_cons_of_mem _ (List.mem_append_right _ h))) (List.mem_cons_of_mem _ (List.mem_append_left _ (List.mem_of_getElem? (i := 0) rfl))) dX3_join_46 (fun S hI => ?_)
    refine g_aload_n E dX3_join_49 rfl 0 rfl ?_
    refine q_get_Roads_count E hI hI.c3 (fun _ h => (List.mem_cons_of_mem _ (List.mem_append_right _ h))) (List.mem_cons_of_mem _ (List.mem_append_left _ (List.mem_of_getElem? (i := 0) rfl))) dX3_join_50 ?_
    have e_c : (up2 i 15 0 ((nI M + 1))) 15 0 = nI M + 1 := up2_self _ _ _ _
    rw [e_c]
    show G C (cW (xy C) S) 0 0 53 [(0, .ref (ad 3 0)), (1, .int (x)), (2, .int (y)), (3, .int (t))] [.int (nI M + 1)]
    refine g_iconst (v := 1) E dX3_join_53 (by decide) ?_
    refine g_isub E dX3_join_54 ?_
    exact g_iret E hE hr dX3_join_55 (Nat.le_of_ble_eq_true rfl) (Nat.le_of_ble_eq_true rfl) ⟨S, rfl, by rw [nI_1, nI_pred], hI⟩
abbrev rm_X0_lastStop : Room := { frames := 0, cells := 0, slots := 0, locals := 0 }
set_option maxHeartbeats 4000000 in
set_option maxRecDepth 100000 in
theorem m_X0_lastStop (l : Launch) (hl : l.stackTraces = false) (D : va_G) (cy : Nat → ClassId) (e0 : Nat) {S : wS} {c : Nat → Nat} {ad : Nat → Nat → Nat} {i : Nat → Nat → Int32} {j : Nat → Nat → Int64} {p : Nat → Nat → Option Nat} {r : Nat → Nat → Int32} (hI : CI e0 S c ad i j p r) {li : Nat} (hl0 : li < c 0) {n : Nat} (hn : i 0 li = nI (n + 1)) (hn2 : n < 6) : cMet l yX0_lastStop wsX0_lastStop rm_X0_lastStop D cy e0 [.ref (ad 0 li)] S (fun v S' => v = some (.int (r (24 + li) n)) ∧ S' = S) (fun _ _ => False) 0 0 := by
  refine gMet.of (cc := cX0_lastStop) (maxL := 1) (ret := (some .int)) hl (by decide) rfl (Nat.le_of_ble_eq_true rfl) ?_
  intro C E h1 h2 h3 hr hnm hT hE
  subst h1; subst h2; subst h3
  have E : gOk C cX0_lastStop 1 wsX0_lastStop RX0 e0 rm_X0_lastStop := E
  show G C (cW (xy C) S) 0 0 0 [(0, .ref (ad 0 li))] []
  refine g_aload_n E dX0_lastStop_0 rfl 0 rfl ?_
  refine q_get_Line_stops E hI hl0 (fun _ h => (List.mem_cons_of_mem _ (List.mem_append_right _ h))) (List.mem_cons_of_mem _ (List.mem_append_left _ (List.mem_of_getElem? (i := 0) rfl))) dX0_lastStop_1 ?_
  refine g_aload_n E dX0_lastStop_4 rfl 0 rfl ?_
  refine q_get_Line_count E hI hl0 (fun _ h => (List.mem_cons_of_mem _ (List.mem_append_right _ h))) (List.mem_cons_of_mem _ (List.mem_append_left _ (List.mem_of_getElem? (i := 1) rfl))) dX0_lastStop_5 ?_
  rw [hn]
  show G C (cW (xy C) S) 0 0 8 [(0, .ref (ad 0 li))] [.int (nI (n + 1)), .ref (ad 7 (24 + li))]
  refine g_iconst (v := 1) E dX0_lastStop_8 (by decide) ?_
  refine g_isub E dX0_lastStop_9 ?_
  refine q_iald E hI (hI.c7s hl0) n (nI_pred n) (by rw [alen_s]; omega) dX0_lastStop_10 ?_
  exact g_iret E hE hr dX0_lastStop_11 (Nat.le_of_ble_eq_true rfl) (Nat.le_of_ble_eq_true rfl) ⟨S, rfl, rfl, rfl⟩
abbrev rm_X0_extend : Room := { frames := 0, cells := 0, slots := 0, locals := 0 }
set_option maxHeartbeats 4000000 in
set_option maxRecDepth 100000 in
theorem m_X0_extend (l : Launch) (hl : l.stackTraces = false) (D : va_G) (cy : Nat → ClassId) (e0 : Nat) {S : wS} {c : Nat → Nat} {ad : Nat → Nat → Nat} {i : Nat → Nat → Int32} {j : Nat → Nat → Int64} {p : Nat → Nat → Option Nat} {r : Nat → Nat → Int32} (hI : CI e0 S c ad i j p r) {li : Nat} (hl0 : li < c 0) {n : Nat} (hn : i 0 li = nI (n + 1)) (hn2 : n + 1 < 6) {x : Int32} : cMet l yX0_extend wsX0_extend rm_X0_extend D cy e0 [.ref (ad 0 li), .int (x)] S (fun v S' => v = some (.int (nI (n + 2))) ∧ CI e0 S' c ad (up2 i 0 li (nI (n + 1) + 1)) j p (up2 r (24 + li) (n + 1) x)) (fun _ _ => False) 0 0 := by
  refine gMet.of (cc := cX0_extend) (maxL := 2) (ret := (some .int)) hl (by decide) rfl (Nat.le_of_ble_eq_true rfl) ?_
  intro C E h1 h2 h3 hr hnm hT hE
  subst h1; subst h2; subst h3
  have E : gOk C cX0_extend 2 wsX0_extend RX0 e0 rm_X0_extend := E
  show G C (cW (xy C) S) 0 0 0 [(0, .ref (ad 0 li)), (1, .int (x))] []
  refine g_aload_n E dX0_extend_0 rfl 0 rfl ?_
  refine q_get_Line_count E hI hl0 (fun _ h => (List.mem_cons_of_mem _ (List.mem_append_right _ h))) (List.mem_cons_of_mem _ (List.mem_append_left _ (List.mem_of_getElem? (i := 0) rfl))) dX0_extend_1 ?_
  rw [hn]
  show G C (cW (xy C) S) 0 0 4 [(0, .ref (ad 0 li)), (1, .int (x))] [.int (nI (n + 1))]
  refine g_bipush (v := 6) E dX0_extend_4 (by decide) ?_
  refine g_icmp_ge (tgt := 29) E dX0_extend_6 (by decide) (fun c_6 => ?_) (fun c_6 => ?_)
  · exact absurd c_6 (nI_ge (b := 6) hn2 (by decide))
  · refine g_aload_n E dX0_extend_9 rfl 0 rfl ?_
    refine q_get_Line_stops E hI hl0 (fun _ h => (List.mem_cons_of_mem _ (List.mem_append_right _ h))) (List.mem_cons_of_mem _ (List.mem_append_left _ (List.mem_of_getElem? (i := 1) rfl))) dX0_extend_10 ?_
    refine g_aload_n E dX0_extend_13 rfl 0 rfl ?_
    refine q_get_Line_count E hI hl0 (fun _ h => (List.mem_cons_of_mem _ (List.mem_append_right _ h))) (List.mem_cons_of_mem _ (List.mem_append_left _ (List.mem_of_getElem? (i := 0) rfl))) dX0_extend_14 ?_
    rw [hn]
    show G C (cW (xy C) S) 0 0 17 [(0, .ref (ad 0 li)), (1, .int (x))] [.int (nI (n + 1)), .ref (ad 7 (24 + li))]
    refine g_iload_n E dX0_extend_17 rfl 1 rfl ?_
    refine q_iast E hI (hI.c7s hl0) ((n + 1)) rfl (by first | omega | (rw [alen_w (by omega) (by omega)]; omega) | (rw [alen_s]; omega) | (show _ < 24; omega) | (show _ < 6; omega)) dX0_extend_18 (fun S hI => ?_)
    refine g_aload_n E dX0_extend_19 rfl 0 rfl ?_
    refine g_dup E dX0_extend_20 rfl ?_
    refine q_get_Line_count E hI hl0 (fun _ h => (List.mem_cons_of_mem _ (List.mem_append_right _ h))) (List.mem_cons_of_mem _ (List.mem_append_left _ (List.mem_of_getElem? (i := 0) rfl))) dX0_extend_21 ?_
    rw [hn]
    show G C (cW (xy C) S) 0 0 24 [(0, .ref (ad 0 li)), (1, .int (x))] [.int (nI (n + 1)), .ref (ad 0 li)]
    refine g_iconst (v := 1) E dX0_extend_24 (by decide) ?_
    refine g_iadd E dX0_extend_25 ?_
    refine q_put_Line_count E hI hl0 (fun _ h => (List.mem_cons_of_mem _ (List.mem_append_right _ h))) (List.mem_cons_of_mem _ (List.mem_append_left _ (List.mem_of_getElem? (i := 0) rfl))) dX0_extend_26 (fun S hI => ?_)
    refine g_aload_n E dX0_extend_29 rfl 0 rfl ?_
    refine q_get_Line_count E hI hl0 (fun _ h => (List.mem_cons_of_mem _ (List.mem_append_right _ h))) (List.mem_cons_of_mem _ (List.mem_append_left _ (List.mem_of_getElem? (i := 0) rfl))) dX0_extend_30 ?_
    have e_c : (up2 i 0 li ((nI (n + 1) + 1))) 0 li = nI (n + 1) + 1 := up2_self _ _ _ _
    rw [e_c]
    show G C (cW (xy C) S) 0 0 33 [(0, .ref (ad 0 li)), (1, .int (x))] [.int (nI (n + 1) + 1)]
    exact g_iret E hE hr dX0_extend_33 (Nat.le_of_ble_eq_true rfl) (Nat.le_of_ble_eq_true rfl) ⟨S, rfl, by rw [nI_1], hI⟩
abbrev rm_X0_extraMinutes : Room := { frames := 3, cells := 0, slots := 0, locals := 71 }
set_option maxHeartbeats 4000000 in
set_option maxRecDepth 100000 in
theorem m_X0_extraMinutes (l : Launch) (hl : l.stackTraces = false) (D : va_G) (cy : Nat → ClassId) (e0 : Nat) {S : wS} {c : Nat → Nat} {ad : Nat → Nat → Nat} {i : Nat → Nat → Int32} {j : Nat → Nat → Int64} {p : Nat → Nat → Option Nat} {r : Nat → Nat → Int32} (hI : CI e0 S c ad i j p r) {li : Nat} (hl0 : li < c 0) {n : Nat} (hn : i 0 li = nI (n + 1)) (hn2 : n < 6) (hst : STP r li (n + 1)) {cl : Int32} {M : Nat} (hm : i 15 0 = nI M) (hm2 : M ≤ 24) (hln : LNS r M) (hV : WV i r M) : cMet l yX0_extraMinutes wsX0_extraMinutes rm_X0_extraMinutes D cy e0 [.ref (ad 0 li), .ref (ad 3 0), .int (cl)] S (fun v S' => ∃ i' r', CI e0 S' c ad i' j p r' ∧ SC i r i' r' ∧ WV i' r' M ∧ v = some (.int (exM r li cl M n))) (fun _ _ => False) 0 0 := by
  refine gMet.of (cc := cX0_extraMinutes) (maxL := 6) (ret := (some .int)) hl (by decide) rfl (Nat.le_of_ble_eq_true rfl) ?_
  intro C E h1 h2 h3 hr hnm hT hE
  subst h1; subst h2; subst h3
  have E : gOk C cX0_extraMinutes 6 wsX0_extraMinutes RX0 e0 rm_X0_extraMinutes := E
  show G C (cW (xy C) S) 0 0 0 [(0, .ref (ad 0 li)), (1, .ref (ad 3 0)), (2, .int (cl))] []
  have hc := hI.cnt
  have hr0 : ∃ r0, r0 = r := ⟨r, rfl⟩
  obtain ⟨r0, hr0⟩ := hr0
  have hi0 : ∃ i0, i0 = i := ⟨i, rfl⟩
  obtain ⟨i0, hi0⟩ := hi0
  rw [← hr0, ← hi0] at hE
  rw [← hr0] at hst hln
  rw [← hi0] at hn hm
  refine g_iconst (v := 0) E dX0_extraMinutes_0 (by decide) ?_
  refine g_istore_n (L' := [(3, .int (0)), (0, .ref (ad 0 li)), (1, .ref (ad 3 0)), (2, .int (cl))]) E dX0_extraMinutes_1 rfl (by decide) rfl ?_
  refine g_iconst (v := 1) E dX0_extraMinutes_2 (by decide) ?_
  refine g_istore (L' := [(4, .int (1)), (3, .int (0)), (0, .ref (ad 0 li)), (1, .ref (ad 3 0)), (2, .int (cl))]) E dX0_extraMinutes_3 (by decide) rfl ?_
  refine g_locals [(0, .ref (ad 0 li)), (1, .ref (ad 3 0)), (2, .int (cl)), (3, .int (0)), (4, .int (1))] [2, 3, 4, 1, 0] rfl ?_
  have loop_5 : ∀ (n_5 k : Nat) (S : wS) (i : Nat → Nat → Int32) (r : Nat → Nat → Int32), (CI e0 S c ad i j p r) → (SC i0 r0 i r) → (WV i r M) → k ≤ n → n < n_5 + k → G C (cW (xy C) S) 0 0 5 [(0, .ref (ad 0 li)), (1, .ref (ad 3 0)), (2, .int (cl)), (3, .int ((exM r0 li cl M k))), (4, .int (nI (k + 1)))] [] := by
    intro n_5
    induction n_5 with
    | zero => intro k S i r hI hS hV g1 g2; exact absurd g2 (by omega)
    | succ n_5 ih_5 =>
      intro k S i r hI hS hV h1_5 h2_5
      have hc := hI.cnt
      refine g_iload E dX0_extraMinutes_5 4 rfl ?_
      refine g_aload_n E dX0_extraMinutes_7 rfl 0 rfl ?_
      refine q_get_Line_count E hI hl0 (fun _ h => (List.mem_cons_of_mem _ (List.mem_append_left _ (List.mem_append_left _ (List.mem_append_right _ h))))) (List.mem_cons_of_mem _ (List.mem_append_left _ (List.mem_append_left _ (List.mem_append_left _ (List.mem_append_left _ (List.mem_of_getElem? (i := 0) rfl)))))) dX0_extraMinutes_8 ?_
      rw [hS.1 0 (by decide) (by decide), hn]
      show G C (cW (xy C) S) 0 0 11 [(0, .ref (ad 0 li)), (1, .ref (ad 3 0)), (2, .int (cl)), (3, .int ((exM r0 li cl M k))), (4, .int (nI (k + 1)))] [.int (nI (n + 1)), .int (nI (k + 1))]
      refine g_icmp_ge (tgt := 80) E dX0_extraMinutes_11 (by decide) (fun c_11 => ?_) (fun c_11 => ?_)
      · have e_k : k = n := by have := nI_ge_nat (by omega) (by omega) c_11; omega
        refine g_iload_n E dX0_extraMinutes_80 rfl 3 rfl ?_
        exact g_iret E hE hr dX0_extraMinutes_81 (Nat.le_of_ble_eq_true rfl) (Nat.le_of_ble_eq_true rfl) ⟨S, rfl, _, _, hI, hS, hV, by rw [e_k]⟩
      · have hk_k : k < n := by have := nI_nge_nat (by omega) (by omega) c_11; omega
        refine g_aload_n E dX0_extraMinutes_14 rfl 1 rfl ?_
        refine g_aload_n E dX0_extraMinutes_15 rfl 0 rfl ?_
        refine q_get_Line_stops E hI hl0 (fun _ h => (List.mem_cons_of_mem _ (List.mem_append_left _ (List.mem_append_left _ (List.mem_append_right _ h))))) (List.mem_cons_of_mem _ (List.mem_append_left _ (List.mem_append_left _ (List.mem_append_left _ (List.mem_append_left _ (List.mem_of_getElem? (i := 1) rfl)))))) dX0_extraMinutes_16 ?_
        refine g_iload E dX0_extraMinutes_19 4 rfl ?_
        refine g_iconst (v := 1) E dX0_extraMinutes_21 (by decide) ?_
        refine g_isub E dX0_extraMinutes_22 ?_
        refine q_iald E hI (hI.c7s hl0) k (nI_pred k) (by rw [alen_s]; omega) dX0_extraMinutes_23 ?_
        have e_s : r (24 + li) k = nI (tn (r0 (24 + li) k)) := by rw [hS.2 (24 + li) (by omega)]; exact (hst k (by omega)).1
        rw [e_s]
        show G C (cW (xy C) S) 0 0 24 [(0, .ref (ad 0 li)), (1, .ref (ad 3 0)), (2, .int (cl)), (3, .int ((exM r0 li cl M k))), (4, .int (nI (k + 1)))] [.int (nI (tn (r0 (24 + li) k))), .ref (ad 3 0)]
        refine g_aload_n E dX0_extraMinutes_24 rfl 0 rfl ?_
        refine q_get_Line_stops E hI hl0 (fun _ h => (List.mem_cons_of_mem _ (List.mem_append_left _ (List.mem_append_left _ (List.mem_append_right _ h))))) (List.mem_cons_of_mem _ (List.mem_append_left _ (List.mem_append_left _ (List.mem_append_left _ (List.mem_append_left _ (List.mem_of_getElem? (i := 1) rfl)))))) dX0_extraMinutes_25 ?_
        refine g_iload E dX0_extraMinutes_28 4 rfl ?_
        refine q_iald E hI (hI.c7s hl0) ((k + 1)) rfl (by first | omega | (rw [alen_w (by omega) (by omega)]; omega) | (rw [alen_s]; omega) | (show _ < 24; omega) | (show _ < 6; omega)) dX0_extraMinutes_30 ?_
        have e_s : r (24 + li) ((k + 1)) = nI (tn (r0 (24 + li) (k + 1))) := by rw [hS.2 (24 + li) (by omega)]; exact (hst (k + 1) (by omega)).1
        rw [e_s]
        show G C (cW (xy C) S) 0 0 31 [(0, .ref (ad 0 li)), (1, .ref (ad 3 0)), (2, .int (cl)), (3, .int ((exM r0 li cl M k))), (4, .int (nI (k + 1)))] [.int (nI (tn (r0 (24 + li) (k + 1)))), .int (nI (tn (r0 (24 + li) k))), .ref (ad 3 0)]
        refine g_iload_n E dX0_extraMinutes_31 rfl 2 rfl ?_
        have E_r : ∀ cl, Ed (r 0) (r 1) (r 2) cl M = Ed (r0 0) (r0 1) (r0 2) cl M := fun cl => by rw [hS.2 0 (by omega), hS.2 1 (by omega), hS.2 2 (by omega)]
        refine c_invV (n := 3) (rest := []) E (m_X3_wayRound (xl C) E.tr (xD C) (xy C) e0 (cl := cl) hI (by rw [hS.1 15 (by decide) (by decide)]; exact hm) hm2 (hS.lns hln) hV (hst k (by omega)).2 (hst (k + 1) (by omega)).2) (hI.obj (kd := 3) (k := 0) (by omega) hI.c3).1 gX0_extraMinutes_X3_wayRound rfl rfl rfl (by decide +kernel) ⟨Nat.le_of_ble_eq_true rfl, Nat.le_of_ble_eq_true rfl⟩ (wF_Roads (hI.obj (kd := 3) (k := 0) (by omega) hI.c3).2) rfl rfl rfl rfl (Nat.le_of_ble_eq_true rfl) dX0_extraMinutes_32 ⟨Nat.le_of_ble_eq_true rfl, Nat.le_of_ble_eq_true rfl⟩ (fun _ _ h9 => h9.elim) (fun v9 S9_32 h9 => ?_)
        obtain ⟨i', r', hI, hS1, hV, hv9⟩ := h9
        have hS := hS.tr hS1
        rw [hv9, E_r]
        show G C (cW (xy C) S9_32) 0 0 35 [(0, .ref (ad 0 li)), (1, .ref (ad 3 0)), (2, .int (cl)), (3, .int ((exM r0 li cl M k))), (4, .int (nI (k + 1)))] [.int ((wy (Ed (r0 0) (r0 1) (r0 2) cl M) (tn (r0 (24 + li) k)) (tn (r0 (24 + li) (k + 1)))))]
        refine g_istore (L' := [(5, .int ((wy (Ed (r0 0) (r0 1) (r0 2) cl M) (tn (r0 (24 + li) k)) (tn (r0 (24 + li) (k + 1)))))), (0, .ref (ad 0 li)), (1, .ref (ad 3 0)), (2, .int (cl)), (3, .int ((exM r0 li cl M k))), (4, .int (nI (k + 1)))]) E dX0_extraMinutes_35 (by decide) rfl ?_
        refine g_iload_n E dX0_extraMinutes_37 rfl 4 rfl ?_
        refine g_iload E dX0_extraMinutes_38 0 rfl ?_
        refine g_iconst (v := (-1)) E dX0_extraMinutes_40 (by decide) ?_
        refine g_icmp_ne (tgt := 49) E dX0_extraMinutes_41 (by decide) (fun c_41 => ?_) (fun c_41 => ?_)
        · refine g_iload E dX0_extraMinutes_49 0 rfl ?_
          refine g_aload_n E dX0_extraMinutes_51 rfl 2 rfl ?_
          refine g_aload_n E dX0_extraMinutes_52 rfl 1 rfl ?_
          refine q_get_Line_stops E hI hl0 (fun _ h => (List.mem_cons_of_mem _ (List.mem_append_left _ (List.mem_append_left _ (List.mem_append_right _ h))))) (List.mem_cons_of_mem _ (List.mem_append_left _ (List.mem_append_left _ (List.mem_append_left _ (List.mem_append_left _ (List.mem_of_getElem? (i := 1) rfl)))))) dX0_extraMinutes_53 ?_
          refine g_iload E dX0_extraMinutes_56 5 rfl ?_
          refine g_iconst (v := 1) E dX0_extraMinutes_58 (by decide) ?_
          refine g_isub E dX0_extraMinutes_59 ?_
          refine q_iald E hI (hI.c7s hl0) k (nI_pred k) (by rw [alen_s]; omega) dX0_extraMinutes_60 ?_
          have e_s : r' (24 + li) k = nI (tn (r0 (24 + li) k)) := by rw [hS.2 (24 + li) (by omega)]; exact (hst k (by omega)).1
          rw [e_s]
          show G C (cW (xy C) S9_32) 0 0 61 [(5, .int ((wy (Ed (r0 0) (r0 1) (r0 2) cl M) (tn (r0 (24 + li) k)) (tn (r0 (24 + li) (k + 1)))))), (0, .ref (ad 0 li)), (1, .ref (ad 3 0)), (2, .int (cl)), (3, .int ((exM r0 li cl M k))), (4, .int (nI (k + 1)))] [.int (nI (tn (r0 (24 + li) k))), .ref (ad 3 0), .int ((wy (Ed (r0 0) (r0 1) (r0 2) cl M) (tn (r0 (24 + li) k)) (tn (r0 (24 + li) (k + 1))))), .int ((exM r0 li cl M k))]
          refine g_aload_n E dX0_extraMinutes_61 rfl 1 rfl ?_
          refine q_get_Line_stops E hI hl0 (fun _ h => (List.mem_cons_of_mem _ (List.mem_append_left _ (List.mem_append_left _ (List.mem_append_right _ h))))) (List.mem_cons_of_mem _ (List.mem_append_left _ (List.mem_append_left _ (List.mem_append_left _ (List.mem_append_left _ (List.mem_of_getElem? (i := 1) rfl)))))) dX0_extraMinutes_62 ?_
          refine g_iload E dX0_extraMinutes_65 5 rfl ?_
          refine q_iald E hI (hI.c7s hl0) ((k + 1)) rfl (by first | omega | (rw [alen_w (by omega) (by omega)]; omega) | (rw [alen_s]; omega) | (show _ < 24; omega) | (show _ < 6; omega)) dX0_extraMinutes_67 ?_
          have e_s : r' (24 + li) ((k + 1)) = nI (tn (r0 (24 + li) (k + 1))) := by rw [hS.2 (24 + li) (by omega)]; exact (hst (k + 1) (by omega)).1
          rw [e_s]
          show G C (cW (xy C) S9_32) 0 0 68 [(5, .int ((wy (Ed (r0 0) (r0 1) (r0 2) cl M) (tn (r0 (24 + li) k)) (tn (r0 (24 + li) (k + 1)))))), (0, .ref (ad 0 li)), (1, .ref (ad 3 0)), (2, .int (cl)), (3, .int ((exM r0 li cl M k))), (4, .int (nI (k + 1)))] [.int (nI (tn (r0 (24 + li) (k + 1)))), .int (nI (tn (r0 (24 + li) k))), .ref (ad 3 0), .int ((wy (Ed (r0 0) (r0 1) (r0 2) cl M) (tn (r0 (24 + li) k)) (tn (r0 (24 + li) (k + 1))))), .int ((exM r0 li cl M k))]
          have E_r : ∀ cl, Ed (r' 0) (r' 1) (r' 2) cl M = Ed (r0 0) (r0 1) (r0 2) cl M := fun cl => by rw [hS.2 0 (by omega), hS.2 1 (by omega), hS.2 2 (by omega)]
          refine c_invV (n := 2) (rest := [.int ((wy (Ed (r0 0) (r0 1) (r0 2) cl M) (tn (r0 (24 + li) k)) (tn (r0 (24 + li) (k + 1))))), .int ((exM r0 li cl M k))]) E (m_X3_freeWay (xl C) E.tr (xD C) (xy C) e0 hI (by rw [hS.1 15 (by decide) (by decide)]; exact hm) hm2 (hS.lns hln) hV (hst k (by omega)).2 (hst (k + 1) (by omega)).2) (hI.obj (kd := 3) (k := 0) (by omega) hI.c3).1 gX0_extraMinutes_X3_freeWay rfl rfl rfl (by decide +kernel) ⟨Nat.le_of_ble_eq_true rfl, Nat.le_of_ble_eq_true rfl⟩ (wF_Roads (hI.obj (kd := 3) (k := 0) (by omega) hI.c3).2) rfl rfl rfl rfl (Nat.le_of_ble_eq_true rfl) dX0_extraMinutes_68 ⟨Nat.le_of_ble_eq_true rfl, Nat.le_of_ble_eq_true rfl⟩ (fun _ _ h9 => h9.elim) (fun v9 S9_68 h9 => ?_)
          obtain ⟨i', r', hI, hS2, hV, hv9⟩ := h9
          have hS := hS.tr hS2
          rw [hv9, E_r]
          show G C (cW (xy C) S9_68) 0 0 71 [(5, .int ((wy (Ed (r0 0) (r0 1) (r0 2) cl M) (tn (r0 (24 + li) k)) (tn (r0 (24 + li) (k + 1)))))), (0, .ref (ad 0 li)), (1, .ref (ad 3 0)), (2, .int (cl)), (3, .int ((exM r0 li cl M k))), (4, .int (nI (k + 1)))] [.int ((wy (Ed (r0 0) (r0 1) (r0 2) 0 M) (tn (r0 (24 + li) k)) (tn (r0 (24 + li) (k + 1))))), .int ((wy (Ed (r0 0) (r0 1) (r0 2) cl M) (tn (r0 (24 + li) k)) (tn (r0 (24 + li) (k + 1))))), .int ((exM r0 li cl M k))]
          refine g_isub E dX0_extraMinutes_71 ?_
          refine g_iadd E dX0_extraMinutes_72 ?_
          refine g_istore_n (L' := [(3, .int (((exM r0 li cl M k) + ((wy (Ed (r0 0) (r0 1) (r0 2) cl M) (tn (r0 (24 + li) k)) (tn (r0 (24 + li) (k + 1)))) - (wy (Ed (r0 0) (r0 1) (r0 2) 0 M) (tn (r0 (24 + li) k)) (tn (r0 (24 + li) (k + 1)))))))), (5, .int ((wy (Ed (r0 0) (r0 1) (r0 2) cl M) (tn (r0 (24 + li) k)) (tn (r0 (24 + li) (k + 1)))))), (0, .ref (ad 0 li)), (1, .ref (ad 3 0)), (2, .int (cl)), (4, .int (nI (k + 1)))]) E dX0_extraMinutes_73 rfl (by decide) rfl ?_
          refine g_iinc (v := nI ((k + 1) + 1)) (L' := [(4, .int (nI ((k + 1) + 1))), (3, .int (((exM r0 li cl M k) + ((wy (Ed (r0 0) (r0 1) (r0 2) cl M) (tn (r0 (24 + li) k)) (tn (r0 (24 + li) (k + 1)))) - (wy (Ed (r0 0) (r0 1) (r0 2) 0 M) (tn (r0 (24 + li) k)) (tn (r0 (24 + li) (k + 1)))))))), (5, .int ((wy (Ed (r0 0) (r0 1) (r0 2) cl M) (tn (r0 (24 + li) k)) (tn (r0 (24 + li) (k + 1)))))), (0, .ref (ad 0 li)), (1, .ref (ad 3 0)), (2, .int (cl))]) E dX0_extraMinutes_74 5 rfl (nI_1 (k + 1)) (by decide) rfl ?_
          refine g_goto (tgt := 5) E dX0_extraMinutes_77 (by decide) ?_
          refine g_locals [(0, .ref (ad 0 li)), (1, .ref (ad 3 0)), (2, .int (cl)), (3, .int (((exM r0 li cl M k) + ((wy (Ed (r0 0) (r0 1) (r0 2) cl M) (tn (r0 (24 + li) k)) (tn (r0 (24 + li) (k + 1)))) - (wy (Ed (r0 0) (r0 1) (r0 2) 0 M) (tn (r0 (24 + li) k)) (tn (r0 (24 + li) (k + 1)))))))), (4, .int (nI ((k + 1) + 1)))] [3, 4, 5, 1, 0] rfl ?_
          refine g_L (L' := [(0, .ref (ad 0 li)), (1, .ref (ad 3 0)), (2, .int (cl)), (3, .int ((exM r0 li cl M (k + 1)))), (4, .int (nI ((k + 1) + 1)))]) (by rw [exM_s, show exF r0 li cl M k = _ from legI_y c_41]) (ih_5 (k + 1) (_) (_) (_) (hI) (hS) (hV) (by omega) (by omega))
        · refine g_bipush (v := 60) E dX0_extraMinutes_44 (by decide) ?_
          refine g_goto (tgt := 72) E dX0_extraMinutes_46 (by decide) ?_
          refine g_iadd E dX0_extraMinutes_72 ?_
          refine g_istore_n (L' := [(3, .int (((exM r0 li cl M k) + 60))), (5, .int ((wy (Ed (r0 0) (r0 1) (r0 2) cl M) (tn (r0 (24 + li) k)) (tn (r0 (24 + li) (k + 1)))))), (0, .ref (ad 0 li)), (1, .ref (ad 3 0)), (2, .int (cl)), (4, .int (nI (k + 1)))]) E dX0_extraMinutes_73 rfl (by decide) rfl ?_
          refine g_iinc (v := nI ((k + 1) + 1)) (L' := [(4, .int (nI ((k + 1) + 1))), (3, .int (((exM r0 li cl M k) + 60))), (5, .int ((wy (Ed (r0 0) (r0 1) (r0 2) cl M) (tn (r0 (24 + li) k)) (tn (r0 (24 + li) (k + 1)))))), (0, .ref (ad 0 li)), (1, .ref (ad 3 0)), (2, .int (cl))]) E dX0_extraMinutes_74 5 rfl (nI_1 (k + 1)) (by decide) rfl ?_
          refine g_goto (tgt := 5) E dX0_extraMinutes_77 (by decide) ?_
          refine g_locals [(0, .ref (ad 0 li)), (1, .ref (ad 3 0)), (2, .int (cl)), (3, .int (((exM r0 li cl M k) + 60))), (4, .int (nI ((k + 1) + 1)))] [3, 4, 5, 1, 0] rfl ?_
          refine g_L (L' := [(0, .ref (ad 0 li)), (1, .ref (ad 3 0)), (2, .int (cl)), (3, .int ((exM r0 li cl M (k + 1)))), (4, .int (nI ((k + 1) + 1)))]) (by rw [exM_s, show exF r0 li cl M k = _ from legI_n c_41]) (ih_5 (k + 1) (_) (_) (_) (hI) (hS) (hV) (by omega) (by omega))
  exact loop_5 (n + 1) 0 (_) (_) (_) (hI) (by rw [hr0, hi0]; exact SC.rf) (hV) (by omega) (by omega)
