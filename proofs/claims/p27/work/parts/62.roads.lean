/-! lines and roads, under caches that move -/
def LI (i r : Nat → Nat → Int32) (N : Nat) : Prop := ∀ l, l < N → ∃ n, n < 6 ∧ i 0 l = nI (n + 1) ∧ STP r l (n + 1)
noncomputable def exL (i r : Nat → Nat → Int32) (cl : Int32) (M k : Nat) : Int32 := exM r k cl M (tn (i 0 k) - 1)
theorem SC.stp {i r i' r' : Nat → Nat → Int32} {l n : Nat} (h : SC i r i' r') (hs : STP r l n) : STP r' l n := by
  have e : r' (24 + l) = r (24 + l) := h.2 _ (by omega)
  intro k hk
  rw [e]
  exact hs k hk
theorem SC.exM {i r i' r' : Nat → Nat → Int32} {l n M : Nat} {cl : Int32} (h : SC i r i' r') : exM r' l cl M n = exM r l cl M n := by
  have e : exF r' l cl M = exF r l cl M := by
    funext k
    unfold exF
    rw [h.2 0 (by omega), h.2 1 (by omega), h.2 2 (by omega), h.2 (24 + l) (by omega)]
  show sumI (exF r' l cl M) n = sumI (exF r l cl M) n
  rw [e]
theorem SC.exL {i r i' r' : Nat → Nat → Int32} {k n M : Nat} {cl : Int32} (h : SC i r i' r') (hn : i 0 k = nI (n + 1)) (hn2 : n < 6) : Jvm.Pilot.CPermitWeaveLaw_law_r6545_7ae9f4.exM r' k cl M n = exL i r cl M k := by
  unfold Jvm.Pilot.CPermitWeaveLaw_law_r6545_7ae9f4.exL
  rw [hn, tn_nI (by omega), h.exM]
  rfl
theorem SC.li {i r i' r' : Nat → Nat → Int32} {N : Nat} (h : SC i r i' r') (hl : LI i r N) : LI i' r' N := by
  intro l hlN
  obtain ⟨n, h1, h2, h3⟩ := hl l hlN
  exact ⟨n, h1, by rw [h.1 0 (by decide) (by decide)]; exact h2, h.stp h3⟩
theorem SC.clM {i r i' r' : Nat → Nat → Int32} {sp : Option Nat} {n : Nat} (h : SC i r i' r') : clM (fun k => i' 11 k) (fun k => i' 7 k) sp n = clM (fun k => i 11 k) (fun k => i 7 k) sp n := by
  rw [h.1 11 (by decide) (by decide), h.1 7 (by decide) (by decide)]
def JN (x : Int32) : Prop := ∃ a, a < 10 ∧ x = nI a
theorem JN.no {x : Int32} (h : ∀ k, k < 10 → x ≠ nI k) : ¬ JN x := fun ⟨a, h1, h2⟩ => h a h1 h2
def fnJ (i : Nat → Nat → Int32) (j : Nat → Nat → Int64) (x : Int32) : Nat → Int64
  | 0 => 0
  | n + 1 => if i 6 n = x then fnJ i j x n + 2 * j 2 n else fnJ i j x n
theorem fnJ_t {i : Nat → Nat → Int32} {j : Nat → Nat → Int64} {x : Int32} {n : Nat} (h : i 6 n = x) : fnJ i j x (n + 1) = fnJ i j x n + 2 * j 2 n := if_pos h
theorem fnJ_f {i : Nat → Nat → Int32} {j : Nat → Nat → Int64} {x : Int32} {n : Nat} (h : ¬ i 6 n = x) : fnJ i j x (n + 1) = fnJ i j x n := if_neg h
abbrev rm_X5_way : Room := { frames := 7, cells := 2, slots := 12, locals := 120 }
set_option maxHeartbeats 4000000 in
set_option maxRecDepth 100000 in
theorem m_X5_way (l : Launch) (hl : l.stackTraces = false) (D : va_G) (cy : Nat → ClassId) (e0 : Nat) {S : wS} {c : Nat → Nat} {ad : Nat → Nat → Nat} {i : Nat → Nat → Int32} {j : Nat → Nat → Int64} {p : Nat → Nat → Option Nat} {r : Nat → Nat → Int32} (hI : CI e0 S c ad i j p r) {x y : Int32} {M : Nat} (hm : i 15 0 = nI M) (hm2 : M ≤ 24) (hln : LNS r M) (hV : WV i r M) : cMet l yX5_way wsX5_way rm_X5_way D cy e0 [.ref (ad 5 0), .int (x), .int (y)] S (fun v S' => ∃ a b, a < 10 ∧ b < 10 ∧ x = nI a ∧ y = nI b ∧ ∃ i' r', CI e0 S' c ad i' j p r' ∧ SC i r i' r' ∧ WV i' r' M ∧ v = some (.int (wy (Ed (r 0) (r 1) (r 2) (clM (fun k => i 11 k) (fun k => i 7 k) none (c 2)) M) a b))) (fun X S' => X = "java/lang/IndexOutOfBoundsException" ∧ ¬ (JN x ∧ JN y) ∧ S' = S) 2 12 := by
  refine gMet.of (cc := cX5_way) (maxL := 3) (ret := (some .int)) hl (by decide) rfl (Nat.le_of_ble_eq_true rfl) ?_
  intro C E h1 h2 h3 hr hnm hT hE
  subst h1; subst h2; subst h3
  have E : gOk C cX5_way 3 wsX5_way RX5 e0 rm_X5_way := E
  show G C (cW (xy C) S) 0 0 0 [(0, .ref (ad 5 0)), (1, .int (x)), (2, .int (y))] []
  have hc := hI.cnt
  have hr0 : ∃ r0, r0 = r := ⟨r, rfl⟩
  obtain ⟨r0, hr0⟩ := hr0
  have hi0 : ∃ i0, i0 = i := ⟨i, rfl⟩
  obtain ⟨i0, hi0⟩ := hi0
  have hS : SC i0 r0 i r := by rw [hi0, hr0]; exact SC.rf
  rw [← hr0, ← hi0] at hE
  rw [← hi0] at hm
  rw [← hr0] at hln
  refine g_iload_n E dX5_way_0 rfl 1 rfl ?_
  refine c_invS (n := 1) (rest := []) E (m_X5_checkJunction (xl C) E.tr (xD C) (xy C) e0 (S := S) ) gX5_way_X5_checkJunction rfl rfl rfl (by decide +kernel) ⟨Nat.le_of_ble_eq_true rfl, Nat.le_of_ble_eq_true rfl⟩ rfl rfl (Nat.le_of_ble_eq_true rfl) dX5_way_1 ⟨Nat.le_of_ble_eq_true rfl, Nat.le_of_ble_eq_true rfl⟩ (fun X9 S9 h9 => by obtain ⟨hX9, hx9, hS9⟩ := h9; rw [hX9, hS9]; exact gx_out E hE hT (Nat.le_of_ble_eq_true rfl) (Nat.le_of_ble_eq_true rfl) ⟨S, rfl, ⟨rfl, fun q => JN.no hx9 q.1, rfl⟩⟩) (fun v9 S9_1 h9 => ?_)
  obtain ⟨hv9, hS9, k_1, hk_1, hx_1⟩ := h9
  rw [hv9, hS9]
  subst hx_1
  show G C (cW (xy C) S) 1 6 4 [(0, .ref (ad 5 0)), (1, .int (nI k_1)), (2, .int (y))] []
  refine g_iload_n E dX5_way_4 rfl 2 rfl ?_
  refine c_invS (n := 1) (rest := []) E (m_X5_checkJunction (xl C) E.tr (xD C) (xy C) e0 (S := S) ) gX5_way_X5_checkJunction rfl rfl rfl (by decide +kernel) ⟨Nat.le_of_ble_eq_true rfl, Nat.le_of_ble_eq_true rfl⟩ rfl rfl (Nat.le_of_ble_eq_true rfl) dX5_way_5 ⟨Nat.le_of_ble_eq_true rfl, Nat.le_of_ble_eq_true rfl⟩ (fun X9 S9 h9 => by obtain ⟨hX9, hx9, hS9⟩ := h9; rw [hX9, hS9]; exact gx_out E hE hT (Nat.le_of_ble_eq_true rfl) (Nat.le_of_ble_eq_true rfl) ⟨S, rfl, ⟨rfl, fun q => JN.no hx9 q.2, rfl⟩⟩) (fun v9 S9_5 h9 => ?_)
  obtain ⟨hv9, hS9, k_5, hk_5, hx_5⟩ := h9
  rw [hv9, hS9]
  subst hx_5
  show G C (cW (xy C) S) 2 12 8 [(0, .ref (ad 5 0)), (1, .int (nI k_1)), (2, .int (nI k_5))] []
  refine g_aload_n E dX5_way_8 rfl 0 rfl ?_
  refine q_get_PW_roads E hI (fun _ h => (List.mem_cons_of_mem _ (List.mem_append_left _ (List.mem_append_left _ (List.mem_append_left _ (List.mem_append_left _ (List.mem_append_left _ (List.mem_append_right _ h)))))))) (List.mem_cons_of_mem _ (List.mem_append_left _ (List.mem_append_left _ (List.mem_append_left _ (List.mem_append_left _ (List.mem_append_left _ (List.mem_append_left _ (List.mem_append_left _ (List.mem_of_getElem? (i := 0) rfl))))))))) dX5_way_9 ?_
  refine g_iload_n E dX5_way_12 rfl 1 rfl ?_
  refine g_iload_n E dX5_way_13 rfl 2 rfl ?_
  refine g_aload_n E dX5_way_14 rfl 0 rfl ?_
  refine c_invV (n := 0) (rest := [.int (nI k_5), .int (nI k_1), .ref (ad 3 0)]) E (m_X5_closedNow (xl C) E.tr (xD C) (xy C) e0 hI) (hI.obj (kd := 5) (k := 0) (by omega) hI.c5).1 gX5_way_X5_closedNow rfl rfl rfl (by decide +kernel) ⟨Nat.le_of_ble_eq_true rfl, Nat.le_of_ble_eq_true rfl⟩ (wF_PW (hI.obj (kd := 5) (k := 0) (by omega) hI.c5).2) rfl rfl rfl rfl (Nat.le_of_ble_eq_true rfl) dX5_way_15 ⟨Nat.le_of_ble_eq_true rfl, Nat.le_of_ble_eq_true rfl⟩ (fun _ _ h9 => h9.elim) (fun v9 S9_15 h9 => ?_)
  obtain ⟨hv9, hS9⟩ := h9
  rw [hv9, hS9, hS.clM]
  show G C (cW (xy C) S) 2 12 18 [(0, .ref (ad 5 0)), (1, .int (nI k_1)), (2, .int (nI k_5))] [.int ((clM (fun k => i0 11 k) (fun k => i0 7 k) none (c 2))), .int (nI k_5), .int (nI k_1), .ref (ad 3 0)]
  refine c_invV (n := 3) (rest := []) E (m_X3_wayRound (xl C) E.tr (xD C) (xy C) e0 (cl := (clM (fun k => i0 11 k) (fun k => i0 7 k) none (c 2))) hI ((congrFun (hS.1 15 (by decide) (by decide)) _).trans hm) hm2 (hS.lns hln) hV hk_1 hk_5) (hI.obj (kd := 3) (k := 0) (by omega) hI.c3).1 gX5_way_X3_wayRound rfl rfl rfl (by decide +kernel) ⟨Nat.le_of_ble_eq_true rfl, Nat.le_of_ble_eq_true rfl⟩ (wF_Roads (hI.obj (kd := 3) (k := 0) (by omega) hI.c3).2) rfl rfl rfl rfl (Nat.le_of_ble_eq_true rfl) dX5_way_18 ⟨Nat.le_of_ble_eq_true rfl, Nat.le_of_ble_eq_true rfl⟩ (fun _ _ h9 => h9.elim) (fun v9 S9_18 h9 => ?_)
  obtain ⟨i', r', hI, hS9, hV, hv9⟩ := h9
  rw [hv9, hS.2 0 (by omega), hS.2 1 (by omega), hS.2 2 (by omega)]
  have hS := hS.tr hS9
  show G C (cW (xy C) S9_18) 2 12 21 [(0, .ref (ad 5 0)), (1, .int (nI k_1)), (2, .int (nI k_5))] [.int ((wy (Ed (r0 0) (r0 1) (r0 2) (clM (fun k => i0 11 k) (fun k => i0 7 k) none (c 2)) M) k_1 k_5))]
  exact g_iret E hE hr dX5_way_21 (Nat.le_of_ble_eq_true rfl) (Nat.le_of_ble_eq_true rfl) ⟨S9_18, rfl, k_1, k_5, hk_1, hk_5, rfl, rfl, i', r', hI, hS, hV, rfl⟩
abbrev rm_X5_detour : Room := { frames := 7, cells := 1, slots := 6, locals := 121 }
set_option maxHeartbeats 4000000 in
set_option maxRecDepth 100000 in
theorem m_X5_detour (l : Launch) (hl : l.stackTraces = false) (D : va_G) (cy : Nat → ClassId) (e0 : Nat) {S : wS} {c : Nat → Nat} {ad : Nat → Nat → Nat} {i : Nat → Nat → Int32} {j : Nat → Nat → Int64} {p : Nat → Nat → Option Nat} {r : Nat → Nat → Int32} (hI : CI e0 S c ad i j p r) {x : Int32} {M : Nat} (hm : i 15 0 = nI M) (hm2 : M ≤ 24) (hln : LNS r M) (hV : WV i r M) (hLI : LI i r (c 0)) : cMet l yX5_detour wsX5_detour rm_X5_detour D cy e0 [.ref (ad 5 0), .int (x)] S (fun v S' => ∃ k, k < c 0 ∧ x = nI k ∧ ∃ i' r', CI e0 S' c ad i' j p r' ∧ SC i r i' r' ∧ WV i' r' M ∧ v = some (.int (exL i r (clM (fun k => i 11 k) (fun k => i 7 k) none (c 2)) M k))) (fun X S' => X = "java/lang/IndexOutOfBoundsException" ∧ (∀ k, k < c 0 → x ≠ nI k) ∧ S' = S) 1 6 := by
  refine gMet.of (cc := cX5_detour) (maxL := 2) (ret := (some .int)) hl (by decide) rfl (Nat.le_of_ble_eq_true rfl) ?_
  intro C E h1 h2 h3 hr hnm hT hE
  subst h1; subst h2; subst h3
  have E : gOk C cX5_detour 2 wsX5_detour RX5 e0 rm_X5_detour := E
  show G C (cW (xy C) S) 0 0 0 [(0, .ref (ad 5 0)), (1, .int (x))] []
  have hc := hI.cnt
  have hr0 : ∃ r0, r0 = r := ⟨r, rfl⟩
  obtain ⟨r0, hr0⟩ := hr0
  have hi0 : ∃ i0, i0 = i := ⟨i, rfl⟩
  obtain ⟨i0, hi0⟩ := hi0
  have hS : SC i0 r0 i r := by rw [hi0, hr0]; exact SC.rf
  rw [← hr0, ← hi0] at hE hLI
  rw [← hi0] at hm
  rw [← hr0] at hln
  refine g_aload_n E dX5_detour_0 rfl 0 rfl ?_
  refine g_iload_n E dX5_detour_1 rfl 1 rfl ?_
  refine c_invV (n := 1) (rest := []) E (m_X5_lineOf (xl C) E.tr (xD C) (xy C) e0 hI) (hI.obj (kd := 5) (k := 0) (by omega) hI.c5).1 gX5_detour_X5_lineOf rfl rfl rfl (by decide +kernel) ⟨Nat.le_of_ble_eq_true rfl, Nat.le_of_ble_eq_true rfl⟩ (wF_PW (hI.obj (kd := 5) (k := 0) (by omega) hI.c5).2) rfl rfl rfl rfl (Nat.le_of_ble_eq_true rfl) dX5_detour_2 ⟨Nat.le_of_ble_eq_true rfl, Nat.le_of_ble_eq_true rfl⟩ (fun X9 S9 h9 => by obtain ⟨hX9, hx9, hS9⟩ := h9; rw [hX9, hS9]; exact gx_out E hE hT (Nat.le_of_ble_eq_true rfl) (Nat.le_of_ble_eq_true rfl) ⟨S, rfl, ⟨rfl, hx9, rfl⟩⟩) (fun v9 S9_2 h9 => ?_)
  obtain ⟨hS9, k_2, hk_2, hx_2, hv9⟩ := h9
  rw [hv9, hS9]
  subst hx_2
  show G C (cW (xy C) S) 1 6 5 [(0, .ref (ad 5 0)), (1, .int (nI k_2))] [.ref (ad 0 k_2)]
  refine g_aload_n E dX5_detour_5 rfl 0 rfl ?_
  refine q_get_PW_roads E hI (fun _ h => (List.mem_cons_of_mem _ (List.mem_append_left _ (List.mem_append_left _ (List.mem_append_left _ (List.mem_append_left _ (List.mem_append_left _ (List.mem_append_left _ (List.mem_append_right _ h))))))))) (List.mem_cons_of_mem _ (List.mem_append_left _ (List.mem_append_left _ (List.mem_append_left _ (List.mem_append_left _ (List.mem_append_left _ (List.mem_append_left _ (List.mem_append_left _ (List.mem_append_left _ (List.mem_of_getElem? (i := 0) rfl)))))))))) dX5_detour_6 ?_
  refine g_aload_n E dX5_detour_9 rfl 0 rfl ?_
  refine c_invV (n := 0) (rest := [.ref (ad 3 0), .ref (ad 0 k_2)]) E (m_X5_closedNow (xl C) E.tr (xD C) (xy C) e0 hI) (hI.obj (kd := 5) (k := 0) (by omega) hI.c5).1 gX5_detour_X5_closedNow rfl rfl rfl (by decide +kernel) ⟨Nat.le_of_ble_eq_true rfl, Nat.le_of_ble_eq_true rfl⟩ (wF_PW (hI.obj (kd := 5) (k := 0) (by omega) hI.c5).2) rfl rfl rfl rfl (Nat.le_of_ble_eq_true rfl) dX5_detour_10 ⟨Nat.le_of_ble_eq_true rfl, Nat.le_of_ble_eq_true rfl⟩ (fun _ _ h9 => h9.elim) (fun v9 S9_10 h9 => ?_)
  obtain ⟨hv9, hS9⟩ := h9
  rw [hv9, hS9, hS.clM]
  show G C (cW (xy C) S) 1 6 13 [(0, .ref (ad 5 0)), (1, .int (nI k_2))] [.int ((clM (fun k => i0 11 k) (fun k => i0 7 k) none (c 2))), .ref (ad 3 0), .ref (ad 0 k_2)]
  obtain ⟨n_13, hn2_13, hn_13, hst_13⟩ := hLI k_2 hk_2
  refine c_invV (n := 2) (rest := []) E (m_X0_extraMinutes (xl C) E.tr (xD C) (xy C) e0 (cl := (clM (fun k => i0 11 k) (fun k => i0 7 k) none (c 2))) hI hk_2 ((congrFun (hS.1 0 (by decide) (by decide)) _).trans hn_13) hn2_13 (hS.stp hst_13) ((congrFun (hS.1 15 (by decide) (by decide)) _).trans hm) hm2 (hS.lns hln) hV) (hI.obj (kd := 0) (k := k_2) (by omega) hk_2).1 gX5_detour_X0_extraMinutes rfl rfl rfl (by decide +kernel) ⟨Nat.le_of_ble_eq_true rfl, Nat.le_of_ble_eq_true rfl⟩ (wF_Line (hI.obj (kd := 0) (k := k_2) (by omega) hk_2).2) rfl rfl rfl rfl (Nat.le_of_ble_eq_true rfl) dX5_detour_13 ⟨Nat.le_of_ble_eq_true rfl, Nat.le_of_ble_eq_true rfl⟩ (fun _ _ h9 => h9.elim) (fun v9 S9_13 h9 => ?_)
  obtain ⟨i', r', hI, hS9, hV, hv9⟩ := h9
  rw [hv9, hS.exL hn_13 hn2_13]
  have hS := hS.tr hS9
  show G C (cW (xy C) S9_13) 1 6 16 [(0, .ref (ad 5 0)), (1, .int (nI k_2))] [.int ((exL i0 r0 (clM (fun k => i0 11 k) (fun k => i0 7 k) none (c 2)) M k_2))]
  exact g_iret E hE hr dX5_detour_16 (Nat.le_of_ble_eq_true rfl) (Nat.le_of_ble_eq_true rfl) ⟨S9_13, rfl, k_2, hk_2, rfl, i', r', hI, hS, hV, rfl⟩
abbrev rm_X5_lane : Room := { frames := 7, cells := 4, slots := 24, locals := 120 }
set_option maxHeartbeats 4000000 in
set_option maxRecDepth 100000 in
theorem m_X5_lane (l : Launch) (hl : l.stackTraces = false) (D : va_G) (cy : Nat → ClassId) (e0 : Nat) {S : wS} {c : Nat → Nat} {ad : Nat → Nat → Nat} {i : Nat → Nat → Int32} {j : Nat → Nat → Int64} {p : Nat → Nat → Option Nat} {r : Nat → Nat → Int32} (hI : CI e0 S c ad i j p r) {x y t : Int32} {M : Nat} (hm : i 15 0 = nI M) (hm2 : M ≤ 24) : cMet l yX5_lane wsX5_lane rm_X5_lane D cy e0 [.ref (ad 5 0), .int (x), .int (y), .int (t)] S (fun v S' => ∃ a b, a < 10 ∧ b < 10 ∧ x = nI a ∧ y = nI b ∧ (¬ x = y ∧ ¬ t < 1 ∧ ¬ 30 < t) ∧ (M < 24 ∧ i 18 0 = 0) ∧ v = some (.int (nI M)) ∧ CI e0 S' c ad (up2 i 15 0 (nI M + 1)) j p (up2 (up2 (up2 r 0 M x) 1 M y) 2 M t)) (fun X S' => (X = "java/lang/IndexOutOfBoundsException" ∧ ¬ (JN x ∧ JN y) ∧ S' = S) ∨ (X = "java/lang/IllegalArgumentException" ∧ (JN x ∧ JN y ∧ ¬ (¬ x = y ∧ ¬ t < 1 ∧ ¬ 30 < t)) ∧ S' = S) ∨ (X = "java/lang/IllegalStateException" ∧ (JN x ∧ JN y ∧ (¬ x = y ∧ ¬ t < 1 ∧ ¬ 30 < t) ∧ ¬ (M < 24 ∧ i 18 0 = 0)) ∧ S' = S)) 4 24 := by
  refine gMet.of (cc := cX5_lane) (maxL := 4) (ret := (some .int)) hl (by decide) rfl (Nat.le_of_ble_eq_true rfl) ?_
  intro C E h1 h2 h3 hr hnm hT hE
  subst h1; subst h2; subst h3
  have E : gOk C cX5_lane 4 wsX5_lane RX5 e0 rm_X5_lane := E
  show G C (cW (xy C) S) 0 0 0 [(0, .ref (ad 5 0)), (1, .int (x)), (2, .int (y)), (3, .int (t))] []
  refine g_iload_n E dX5_lane_0 rfl 1 rfl ?_
  refine c_invS (n := 1) (rest := []) E (m_X5_checkJunction (xl C) E.tr (xD C) (xy C) e0 (S := S) ) gX5_lane_X5_checkJunction rfl rfl rfl (by decide +kernel) ⟨Nat.le_of_ble_eq_true rfl, Nat.le_of_ble_eq_true rfl⟩ rfl rfl (Nat.le_of_ble_eq_true rfl) dX5_lane_1 ⟨Nat.le_of_ble_eq_true rfl, Nat.le_of_ble_eq_true rfl⟩ (fun X9 S9 h9 => by obtain ⟨hX9, hx9, hS9⟩ := h9; rw [hX9, hS9]; exact gx_out E hE hT (Nat.le_of_ble_eq_true rfl) (Nat.le_of_ble_eq_true rfl) ⟨S, rfl, Or.inl ⟨rfl, fun q => JN.no hx9 q.1, rfl⟩⟩) (fun v9 S9_1 h9 => ?_)
  obtain ⟨hv9, hS9, k_1, hk_1, hx_1⟩ := h9
  rw [hv9, hS9]
  subst hx_1
  show G C (cW (xy C) S) 1 6 4 [(0, .ref (ad 5 0)), (1, .int (nI k_1)), (2, .int (y)), (3, .int (t))] []
  refine g_iload_n E dX5_lane_4 rfl 2 rfl ?_
  refine c_invS (n := 1) (rest := []) E (m_X5_checkJunction (xl C) E.tr (xD C) (xy C) e0 (S := S) ) gX5_lane_X5_checkJunction rfl rfl rfl (by decide +kernel) ⟨Nat.le_of_ble_eq_true rfl, Nat.le_of_ble_eq_true rfl⟩ rfl rfl (Nat.le_of_ble_eq_true rfl) dX5_lane_5 ⟨Nat.le_of_ble_eq_true rfl, Nat.le_of_ble_eq_true rfl⟩ (fun X9 S9 h9 => by obtain ⟨hX9, hx9, hS9⟩ := h9; rw [hX9, hS9]; exact gx_out E hE hT (Nat.le_of_ble_eq_true rfl) (Nat.le_of_ble_eq_true rfl) ⟨S, rfl, Or.inl ⟨rfl, fun q => JN.no hx9 q.2, rfl⟩⟩) (fun v9 S9_5 h9 => ?_)
  obtain ⟨hv9, hS9, k_5, hk_5, hx_5⟩ := h9
  rw [hv9, hS9]
  subst hx_5
  show G C (cW (xy C) S) 2 12 8 [(0, .ref (ad 5 0)), (1, .int (nI k_1)), (2, .int (nI k_5)), (3, .int (t))] []
  refine g_iload_n E dX5_lane_8 rfl 1 rfl ?_
  refine g_iload_n E dX5_lane_9 rfl 2 rfl ?_
  refine g_icmp_eq (tgt := 24) E dX5_lane_10 (by decide) (fun c_10 => ?_) (fun c_10 => ?_)
  · exact g_throwS E hE hT "java/lang/IllegalArgumentException" "a lane joins two junctions in 1 to 30 minutes" ["java/lang/RuntimeException", "java/lang/Exception"] 37 39 41 (by decide) (by decide) (List.mem_cons_of_mem _ (List.mem_append_left _ (List.mem_append_left _ (List.mem_append_left _ (List.mem_append_left _ (List.mem_append_left _ (List.mem_of_getElem? (i := 0) rfl))))))) (List.mem_cons_of_mem _ (List.mem_append_left _ (List.mem_append_left _ (List.mem_append_left _ (List.mem_append_left _ (List.mem_append_left _ (List.mem_of_getElem? (i := 1) rfl))))))) tbS_RX5_39 (fun _ h => (List.mem_cons_of_mem _ (List.mem_append_left _ (List.mem_append_left _ (List.mem_append_right _ h))))) tbX_IAE tbG_IAE dX5_lane_24 dX5_lane_27 dX5_lane_28 dX5_lane_30 dX5_lane_33 (Nat.le_of_ble_eq_true rfl) (Nat.le_of_ble_eq_true rfl) (Nat.le_of_ble_eq_true rfl) (Nat.le_of_ble_eq_true rfl) (Nat.le_of_ble_eq_true rfl) (Nat.le_of_ble_eq_true rfl) ⟨S, rfl, Or.inr (Or.inl ⟨rfl, ⟨⟨k_1, hk_1, rfl⟩, ⟨k_5, hk_5, rfl⟩, fun q => q.1 c_10⟩, rfl⟩)⟩
  · refine g_iload_n E dX5_lane_13 rfl 3 rfl ?_
    refine g_iconst (v := 1) E dX5_lane_14 (by decide) ?_
    refine g_icmp_lt (tgt := 24) E dX5_lane_15 (by decide) (fun c_15 => ?_) (fun c_15 => ?_)
    · exact g_throwS E hE hT "java/lang/IllegalArgumentException" "a lane joins two junctions in 1 to 30 minutes" ["java/lang/RuntimeException", "java/lang/Exception"] 37 39 41 (by decide) (by decide) (List.mem_cons_of_mem _ (List.mem_append_left _ (List.mem_append_left _ (List.mem_append_left _ (List.mem_append_left _ (List.mem_append_left _ (List.mem_of_getElem? (i := 0) rfl))))))) (List.mem_cons_of_mem _ (List.mem_append_left _ (List.mem_append_left _ (List.mem_append_left _ (List.mem_append_left _ (List.mem_append_left _ (List.mem_of_getElem? (i := 1) rfl))))))) tbS_RX5_39 (fun _ h => (List.mem_cons_of_mem _ (List.mem_append_left _ (List.mem_append_left _ (List.mem_append_right _ h))))) tbX_IAE tbG_IAE dX5_lane_24 dX5_lane_27 dX5_lane_28 dX5_lane_30 dX5_lane_33 (Nat.le_of_ble_eq_true rfl) (Nat.le_of_ble_eq_true rfl) (Nat.le_of_ble_eq_true rfl) (Nat.le_of_ble_eq_true rfl) (Nat.le_of_ble_eq_true rfl) (Nat.le_of_ble_eq_true rfl) ⟨S, rfl, Or.inr (Or.inl ⟨rfl, ⟨⟨k_1, hk_1, rfl⟩, ⟨k_5, hk_5, rfl⟩, fun q => q.2.1 c_15⟩, rfl⟩)⟩
    · refine g_iload_n E dX5_lane_18 rfl 3 rfl ?_
      refine g_bipush (v := 30) E dX5_lane_19 (by decide) ?_
      refine g_icmp_le (tgt := 34) E dX5_lane_21 (by decide) (fun c_21 => ?_) (fun c_21 => ?_)
      · refine g_aload_n E dX5_lane_34 rfl 0 rfl ?_
        refine q_get_PW_roads E hI (fun _ h => (List.mem_cons_of_mem _ (List.mem_append_left _ (List.mem_append_left _ (List.mem_append_left _ (List.mem_append_left _ (List.mem_append_right _ h))))))) (List.mem_cons_of_mem _ (List.mem_append_left _ (List.mem_append_left _ (List.mem_append_left _ (List.mem_append_left _ (List.mem_append_left _ (List.mem_of_getElem? (i := 4) rfl))))))) dX5_lane_35 ?_
        refine q_getN_Roads_count E hI hI.c3 (fun _ h => (List.mem_cons_of_mem _ (List.mem_append_left _ (List.mem_append_left _ (List.mem_append_left _ (List.mem_append_right _ h)))))) tbF_RX5_44 dX5_lane_38 ?_
        refine g_bipush (v := 24) E dX5_lane_41 (by decide) ?_
        refine g_icmp_eq (tgt := 53) E dX5_lane_43 (by decide) (fun c_43 => ?_) (fun c_43 => ?_)
        · exact g_throwS E hE hT "java/lang/IllegalStateException" "lanes are added at the hour 0, at most 24" ["java/lang/RuntimeException", "java/lang/Exception"] 51 53 55 (by decide) (by decide) (List.mem_cons_of_mem _ (List.mem_append_left _ (List.mem_append_left _ (List.mem_append_left _ (List.mem_append_left _ (List.mem_append_left _ (List.mem_of_getElem? (i := 2) rfl))))))) (List.mem_cons_of_mem _ (List.mem_append_left _ (List.mem_append_left _ (List.mem_append_left _ (List.mem_append_left _ (List.mem_append_left _ (List.mem_of_getElem? (i := 3) rfl))))))) tbS_RX5_53 (fun _ h => (List.mem_cons_of_mem _ (List.mem_append_left _ (List.mem_append_right _ h)))) tbX_ISE tbG_ISE dX5_lane_53 dX5_lane_56 dX5_lane_57 dX5_lane_59 dX5_lane_62 (Nat.le_of_ble_eq_true rfl) (Nat.le_of_ble_eq_true rfl) (Nat.le_of_ble_eq_true rfl) (Nat.le_of_ble_eq_true rfl) (Nat.le_of_ble_eq_true rfl) (Nat.le_of_ble_eq_true rfl) ⟨S, rfl, Or.inr (Or.inr (⟨rfl, ⟨⟨k_1, hk_1, rfl⟩, ⟨k_5, hk_5, rfl⟩, ⟨c_10, c_15, Int32.not_lt.mpr c_21⟩, fun q => absurd (c_43 : i 15 0 = 24) (fun e => absurd (nI_inj (by omega) (by decide) ((hm.symm.trans e : nI M = nI 24))) (by omega))⟩, rfl⟩))⟩
        · refine g_aload_n E dX5_lane_46 rfl 0 rfl ?_
          refine q_get_PW_now E hI hI.c5 (fun _ h => (List.mem_cons_of_mem _ (List.mem_append_left _ (List.mem_append_left _ (List.mem_append_left _ (List.mem_append_left _ (List.mem_append_right _ h))))))) (List.mem_cons_of_mem _ (List.mem_append_left _ (List.mem_append_left _ (List.mem_append_left _ (List.mem_append_left _ (List.mem_append_left _ (List.mem_of_getElem? (i := 5) rfl))))))) dX5_lane_47 ?_
          refine g_if_eq (tgt := 63) E dX5_lane_50 (by decide) (fun c_50 => ?_) (fun c_50 => ?_)
          · have hlt : M < 24 := Nat.lt_of_le_of_ne hm2 (fun e => c_43 (hm.trans (by rw [e]; rfl)))
            refine g_aload_n E dX5_lane_63 rfl 0 rfl ?_
            refine q_get_PW_roads E hI (fun _ h => (List.mem_cons_of_mem _ (List.mem_append_left _ (List.mem_append_left _ (List.mem_append_left _ (List.mem_append_left _ (List.mem_append_right _ h))))))) (List.mem_cons_of_mem _ (List.mem_append_left _ (List.mem_append_left _ (List.mem_append_left _ (List.mem_append_left _ (List.mem_append_left _ (List.mem_of_getElem? (i := 4) rfl))))))) dX5_lane_64 ?_
            refine g_iload_n E dX5_lane_67 rfl 1 rfl ?_
            refine g_iload_n E dX5_lane_68 rfl 2 rfl ?_
            refine g_iload_n E dX5_lane_69 rfl 3 rfl ?_
            refine c_invV (n := 3) (rest := []) E (m_X3_join (xl C) E.tr (xD C) (xy C) e0 (x := nI k_1) (y := nI k_5) (t := t) hI hm hlt) (hI.obj (kd := 3) (k := 0) (by omega) hI.c3).1 gX5_lane_X3_join rfl rfl rfl (by decide +kernel) ⟨Nat.le_of_ble_eq_true rfl, Nat.le_of_ble_eq_true rfl⟩ (wF_Roads (hI.obj (kd := 3) (k := 0) (by omega) hI.c3).2) rfl rfl rfl rfl (Nat.le_of_ble_eq_true rfl) dX5_lane_70 ⟨Nat.le_of_ble_eq_true rfl, Nat.le_of_ble_eq_true rfl⟩ (fun _ _ h9 => h9.elim) (fun v9 S9_70 h9 => ?_)
            obtain ⟨hv9, hI⟩ := h9
            rw [hv9]
            show G C (cW (xy C) S9_70) 2 12 73 [(0, .ref (ad 5 0)), (1, .int (nI k_1)), (2, .int (nI k_5)), (3, .int (t))] [.int (nI M)]
            exact g_iret E hE hr dX5_lane_73 (Nat.le_of_ble_eq_true rfl) (Nat.le_of_ble_eq_true rfl) ⟨S9_70, rfl, k_1, k_5, hk_1, hk_5, rfl, rfl, ⟨c_10, c_15, Int32.not_lt.mpr c_21⟩, ⟨hlt, c_50⟩, rfl, hI⟩
          · exact g_throwS E hE hT "java/lang/IllegalStateException" "lanes are added at the hour 0, at most 24" ["java/lang/RuntimeException", "java/lang/Exception"] 51 53 55 (by decide) (by decide) (List.mem_cons_of_mem _ (List.mem_append_left _ (List.mem_append_left _ (List.mem_append_left _ (List.mem_append_left _ (List.mem_append_left _ (List.mem_of_getElem? (i := 2) rfl))))))) (List.mem_cons_of_mem _ (List.mem_append_left _ (List.mem_append_left _ (List.mem_append_left _ (List.mem_append_left _ (List.mem_append_left _ (List.mem_of_getElem? (i := 3) rfl))))))) tbS_RX5_53 (fun _ h => (List.mem_cons_of_mem _ (List.mem_append_left _ (List.mem_append_right _ h)))) tbX_ISE tbG_ISE dX5_lane_53 dX5_lane_56 dX5_lane_57 dX5_lane_59 dX5_lane_62 (Nat.le_of_ble_eq_true rfl) (Nat.le_of_ble_eq_true rfl) (Nat.le_of_ble_eq_true rfl) (Nat.le_of_ble_eq_true rfl) (Nat.le_of_ble_eq_true rfl) (Nat.le_of_ble_eq_true rfl) ⟨S, rfl, Or.inr (Or.inr (⟨rfl, ⟨⟨k_1, hk_1, rfl⟩, ⟨k_5, hk_5, rfl⟩, ⟨c_10, c_15, Int32.not_lt.mpr c_21⟩, fun q => c_50 q.2⟩, rfl⟩))⟩
      · exact g_throwS E hE hT "java/lang/IllegalArgumentException" "a lane joins two junctions in 1 to 30 minutes" ["java/lang/RuntimeException", "java/lang/Exception"] 37 39 41 (by decide) (by decide) (List.mem_cons_of_mem _ (List.mem_append_left _ (List.mem_append_left _ (List.mem_append_left _ (List.mem_append_left _ (List.mem_append_left _ (List.mem_of_getElem? (i := 0) rfl))))))) (List.mem_cons_of_mem _ (List.mem_append_left _ (List.mem_append_left _ (List.mem_append_left _ (List.mem_append_left _ (List.mem_append_left _ (List.mem_of_getElem? (i := 1) rfl))))))) tbS_RX5_39 (fun _ h => (List.mem_cons_of_mem _ (List.mem_append_left _ (List.mem_append_left _ (List.mem_append_right _ h))))) tbX_IAE tbG_IAE dX5_lane_24 dX5_lane_27 dX5_lane_28 dX5_lane_30 dX5_lane_33 (Nat.le_of_ble_eq_true rfl) (Nat.le_of_ble_eq_true rfl) (Nat.le_of_ble_eq_true rfl) (Nat.le_of_ble_eq_true rfl) (Nat.le_of_ble_eq_true rfl) (Nat.le_of_ble_eq_true rfl) ⟨S, rfl, Or.inr (Or.inl ⟨rfl, ⟨⟨k_1, hk_1, rfl⟩, ⟨k_5, hk_5, rfl⟩, fun q => q.2.2 (Int32.not_le.mp c_21)⟩, rfl⟩)⟩
abbrev rm_X5_fines : Room := { frames := 7, cells := 1, slots := 6, locals := 120 }
set_option maxHeartbeats 4000000 in
set_option maxRecDepth 100000 in
theorem m_X5_fines (l : Launch) (hl : l.stackTraces = false) (D : va_G) (cy : Nat → ClassId) (e0 : Nat) {S : wS} {c : Nat → Nat} {ad : Nat → Nat → Nat} {i : Nat → Nat → Int32} {j : Nat → Nat → Int64} {p : Nat → Nat → Option Nat} {r : Nat → Nat → Int32} (hI : CI e0 S c ad i j p r) {x : Int32} : cMet l yX5_fines wsX5_fines rm_X5_fines D cy e0 [.ref (ad 5 0), .int (x)] S (fun v S' => S' = S ∧ ∃ a, a < 6 ∧ x = nI a ∧ v = some (.long (fnJ i j x (c 2)))) (fun X S' => X = "java/lang/IndexOutOfBoundsException" ∧ (∀ k, k < 6 → x ≠ nI k) ∧ S' = S) 1 6 := by
  refine gMet.of (cc := cX5_fines) (maxL := 6) (ret := (some .long)) hl (by decide) rfl (Nat.le_of_ble_eq_true rfl) ?_
  intro C E h1 h2 h3 hr hnm hT hE
  subst h1; subst h2; subst h3
  have E : gOk C cX5_fines 6 wsX5_fines RX5 e0 rm_X5_fines := E
  show G C (cW (xy C) S) 0 0 0 [(0, .ref (ad 5 0)), (1, .int (x))] []
  have hc := hI.cnt
  refine g_iload_n E dX5_fines_0 rfl 1 rfl ?_
  refine c_invS (n := 1) (rest := []) E (m_X5_checkApplicant (xl C) E.tr (xD C) (xy C) e0 (S := S) ) gX5_fines_X5_checkApplicant rfl rfl rfl (by decide +kernel) ⟨Nat.le_of_ble_eq_true rfl, Nat.le_of_ble_eq_true rfl⟩ rfl rfl (Nat.le_of_ble_eq_true rfl) dX5_fines_1 ⟨Nat.le_of_ble_eq_true rfl, Nat.le_of_ble_eq_true rfl⟩ (fun X9 S9 h9 => by obtain ⟨hX9, hx9, hS9⟩ := h9; rw [hX9, hS9]; exact gx_out E hE hT (Nat.le_of_ble_eq_true rfl) (Nat.le_of_ble_eq_true rfl) ⟨S, rfl, ⟨rfl, hx9, rfl⟩⟩) (fun v9 S9_1 h9 => ?_)
  obtain ⟨hv9, hS9, k_1, hk_1, hx_1⟩ := h9
  rw [hv9, hS9]
  subst hx_1
  show G C (cW (xy C) S) 1 6 4 [(0, .ref (ad 5 0)), (1, .int (nI k_1))] []
  refine g_lconst (v := 0) E dX5_fines_4 (by decide) ?_
  refine g_lstore_n (L' := [(2, .long (0)), (0, .ref (ad 5 0)), (1, .int (nI k_1))]) E dX5_fines_5 rfl (by decide) rfl ?_
  refine g_iconst (v := 0) E dX5_fines_6 (by decide) ?_
  refine g_istore (L' := [(4, .int (0)), (2, .long (0)), (0, .ref (ad 5 0)), (1, .int (nI k_1))]) E dX5_fines_7 (by decide) rfl ?_
  refine g_locals [(0, .ref (ad 5 0)), (1, .int (nI k_1)), (2, .long (0)), (4, .int (0))] [2, 3, 1, 0] rfl ?_
  have loop_9 : ∀ (n_9 k : Nat), k ≤ c 2 → c 2 < n_9 + k → G C (cW (xy C) S) 1 6 9 [(0, .ref (ad 5 0)), (1, .int (nI k_1)), (2, .long ((fnJ i j (nI k_1) k))), (4, .int (nI k))] [] := by
    intro n_9
    induction n_9 with
    | zero => intro k h1 h2; exact absurd h2 (by omega)
    | succ n_9 ih_9 =>
      intro k h1_9 h2_9
      refine g_iload E dX5_fines_9 3 rfl ?_
      refine g_aload_n E dX5_fines_11 rfl 0 rfl ?_
      refine q_get_PW_permits E hI (fun _ h => (List.mem_cons_of_mem _ (List.mem_append_left _ (List.mem_append_left _ (List.mem_append_left _ (List.mem_append_right _ h)))))) (List.mem_cons_of_mem _ (List.mem_append_left _ (List.mem_append_left _ (List.mem_append_left _ (List.mem_append_left _ (List.mem_append_left _ (List.mem_of_getElem? (i := 0) rfl))))))) dX5_fines_12 ?_
      refine c_invV (n := 0) (rest := [.int (nI k)]) E (m_Jx4a65c_size_8abf5 (xl C) E.tr (xD C) (xy C) e0 hI.lists.2.1) (hI.obj (kd := 6) (k := 1) (by omega) (by have := hI.cnt; omega)).1 gX5_fines_Jx4a65c_size_8abf5 rfl rfl rfl (by decide +kernel) ⟨Nat.le_of_ble_eq_true rfl, Nat.le_of_ble_eq_true rfl⟩ (wF_AL (hI.obj (kd := 6) (k := 1) (by omega) (by have := hI.cnt; omega)).2) rfl rfl rfl rfl (Nat.le_of_ble_eq_true rfl) dX5_fines_15 ⟨Nat.le_of_ble_eq_true rfl, Nat.le_of_ble_eq_true rfl⟩ (fun _ _ h9 => h9.elim) (fun v9 S9_15 h9 => ?_)
      obtain ⟨hv9, hS9⟩ := h9
      rw [hv9, hS9]
      show G C (cW (xy C) S) 1 6 18 [(0, .ref (ad 5 0)), (1, .int (nI k_1)), (2, .long ((fnJ i j (nI k_1) k))), (4, .int (nI k))] [.int (nI (c 2)), .int (nI k)]
      refine g_icmp_ge (tgt := 58) E dX5_fines_18 (by decide) (fun c_18 => ?_) (fun c_18 => ?_)
      · have e_k : k = c 2 := Nat.le_antisymm h1_9 (nI_ge_nat (by omega) (by omega) c_18)
        refine g_lload_n E dX5_fines_58 rfl 2 rfl ?_
        exact g_lret E hE hr dX5_fines_59 (Nat.le_of_ble_eq_true rfl) (Nat.le_of_ble_eq_true rfl) ⟨S, rfl, rfl, k_1, hk_1, rfl, by rw [e_k]⟩
      · have hk_k : k < c 2 := nI_nge_nat (by omega) (by omega) c_18
        refine g_aload_n E dX5_fines_21 rfl 0 rfl ?_
        refine q_get_PW_permits E hI (fun _ h => (List.mem_cons_of_mem _ (List.mem_append_left _ (List.mem_append_left _ (List.mem_append_left _ (List.mem_append_right _ h)))))) (List.mem_cons_of_mem _ (List.mem_append_left _ (List.mem_append_left _ (List.mem_append_left _ (List.mem_append_left _ (List.mem_append_left _ (List.mem_of_getElem? (i := 0) rfl))))))) dX5_fines_22 ?_
        refine g_iload E dX5_fines_25 3 rfl ?_
        refine c_invV (n := 1) (rest := []) E (m_Jx4a65c_get_915e3 (xl C) E.tr (xD C) (xy C) e0 hI.lists.2.1 (k := k) hk_k) (hI.obj (kd := 6) (k := 1) (by omega) (by have := hI.cnt; omega)).1 gX5_fines_Jx4a65c_get_915e3 rfl rfl rfl (by decide +kernel) ⟨Nat.le_of_ble_eq_true rfl, Nat.le_of_ble_eq_true rfl⟩ (wF_AL (hI.obj (kd := 6) (k := 1) (by omega) (by have := hI.cnt; omega)).2) rfl rfl rfl rfl (Nat.le_of_ble_eq_true rfl) dX5_fines_27 ⟨Nat.le_of_ble_eq_true rfl, Nat.le_of_ble_eq_true rfl⟩ (fun _ _ h9 => h9.elim) (fun v9 S9_27 h9 => ?_)
        obtain ⟨hv9, hS9⟩ := h9
        rw [hv9, hS9]
        show G C (cW (xy C) S) 1 6 30 [(0, .ref (ad 5 0)), (1, .int (nI k_1)), (2, .long ((fnJ i j (nI k_1) k))), (4, .int (nI k))] [.ref (ad 2 k)]
        refine p_cast E (List.mem_cons_of_mem _ (List.mem_append_left _ (List.mem_append_left _ (List.mem_append_left _ (List.mem_append_left _ (List.mem_append_left _ (List.mem_of_getElem? (i := 1) rfl))))))) (hI.obj (kd := 2) (k := k) (by omega) hk_k).1 (wF_Permit (hI.obj (kd := 2) (k := k) (by omega) hk_k).2) rfl rfl dX5_fines_30 ?_
        refine g_astore (L' := [(5, .ref (ad 2 k)), (0, .ref (ad 5 0)), (1, .int (nI k_1)), (2, .long ((fnJ i j (nI k_1) k))), (4, .int (nI k))]) E dX5_fines_33 (by decide) rfl ?_
        refine g_aload E dX5_fines_35 0 rfl ?_
        refine q_getN_Permit_applicant E hI hk_k (fun _ h => (List.mem_cons_of_mem _ (List.mem_append_left _ (List.mem_append_left _ (List.mem_append_right _ h))))) tbF_RX5_220 dX5_fines_37 ?_
        refine g_iload_n E dX5_fines_40 rfl 2 rfl ?_
        refine g_icmp_ne (tgt := 52) E dX5_fines_41 (by decide) (fun c_41 => ?_) (fun c_41 => ?_)
        · refine g_iinc (v := nI (k + 1)) (L' := [(4, .int (nI (k + 1))), (5, .ref (ad 2 k)), (0, .ref (ad 5 0)), (1, .int (nI k_1)), (2, .long ((fnJ i j (nI k_1) k)))]) E dX5_fines_52 4 rfl (nI_1 k) (by decide) rfl ?_
          refine g_goto (tgt := 9) E dX5_fines_55 (by decide) ?_
          refine g_locals [(0, .ref (ad 5 0)), (1, .int (nI k_1)), (2, .long ((fnJ i j (nI k_1) k))), (4, .int (nI (k + 1)))] [2, 3, 4, 0] rfl ?_
          refine g_L (L' := [(0, .ref (ad 5 0)), (1, .int (nI k_1)), (2, .long ((fnJ i j (nI k_1) (k + 1)))), (4, .int (nI (k + 1)))]) (by rw [fnJ_f c_41]) (ih_9 (k + 1) (by omega) (by omega))
        · refine g_lload_n E dX5_fines_44 rfl 3 rfl ?_
          refine g_aload E dX5_fines_45 0 rfl ?_
          refine c_invV (n := 0) (rest := [.long ((fnJ i j (nI k_1) k))]) E (m_X2_fineSoFar (xl C) E.tr (xD C) (xy C) e0 hI hk_k) (hI.obj (kd := 2) (k := k) (by omega) hk_k).1 gX5_fines_X2_fineSoFar rfl rfl rfl (by decide +kernel) ⟨Nat.le_of_ble_eq_true rfl, Nat.le_of_ble_eq_true rfl⟩ (wF_Permit (hI.obj (kd := 2) (k := k) (by omega) hk_k).2) rfl rfl rfl rfl (Nat.le_of_ble_eq_true rfl) dX5_fines_47 ⟨Nat.le_of_ble_eq_true rfl, Nat.le_of_ble_eq_true rfl⟩ (fun _ _ h9 => h9.elim) (fun v9 S9_47 h9 => ?_)
          obtain ⟨hv9, hS9⟩ := h9
          rw [hv9, hS9]
          show G C (cW (xy C) S) 1 6 50 [(5, .ref (ad 2 k)), (0, .ref (ad 5 0)), (1, .int (nI k_1)), (2, .long ((fnJ i j (nI k_1) k))), (4, .int (nI k))] [.long ((2 * j 2 k)), .long ((fnJ i j (nI k_1) k))]
          refine g_ladd E dX5_fines_50 ?_
          refine g_lstore_n (L' := [(2, .long (((fnJ i j (nI k_1) k) + (2 * j 2 k)))), (5, .ref (ad 2 k)), (0, .ref (ad 5 0)), (1, .int (nI k_1)), (4, .int (nI k))]) E dX5_fines_51 rfl (by decide) rfl ?_
          refine g_iinc (v := nI (k + 1)) (L' := [(4, .int (nI (k + 1))), (2, .long (((fnJ i j (nI k_1) k) + (2 * j 2 k)))), (5, .ref (ad 2 k)), (0, .ref (ad 5 0)), (1, .int (nI k_1))]) E dX5_fines_52 4 rfl (nI_1 k) (by decide) rfl ?_
          refine g_goto (tgt := 9) E dX5_fines_55 (by decide) ?_
          refine g_locals [(0, .ref (ad 5 0)), (1, .int (nI k_1)), (2, .long (((fnJ i j (nI k_1) k) + (2 * j 2 k)))), (4, .int (nI (k + 1)))] [3, 4, 1, 0] rfl ?_
          refine g_L (L' := [(0, .ref (ad 5 0)), (1, .int (nI k_1)), (2, .long ((fnJ i j (nI k_1) (k + 1)))), (4, .int (nI (k + 1)))]) (by rw [fnJ_t c_41]) (ih_9 (k + 1) (by omega) (by omega))
  exact loop_9 (c 2 + 1) 0 (by omega) (by omega)
