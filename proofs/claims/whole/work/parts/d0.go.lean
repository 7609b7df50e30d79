section GO
variable {C : gT} {cc : ByteArray} {nL : Nat} {Ts : List Cond} {own : String} {e0 : Nat} {rm : Room} {ws : va_W} {mc ms pc : Nat} {L : List (Nat × Value)} {st : List Value} {idx : Nat}
theorem g_swap {wl wr : va_W} {x : Nat × va_E} (kk : G C ((wl ++ [x]) ++ wr) mc ms pc L st) : G C ((wl ++ wr) ++ [x]) mc ms pc L st := fun H locs ls hP hD hS hL => by
  have d0 := D_left hD
  refine kk H locs ls (((P_left (P_left hP)).app (P_right hP)).app (P_right (P_left hP))) ?_ hS hL
  refine ((D_left d0).app (D_right hD) (fun i j p q hi hj => D_apart hD (app_l hi) hj)).app (D_right d0) (fun i j p q hi hj => ?_)
  by_cases h : i < wl.length
  · rw [List.getElem?_append_left h] at hi
    exact D_apart d0 hi hj
  · rw [List.getElem?_append_right (by omega)] at hi
    exact fun z => D_apart hD (app_r (w0 := wl) hj) hi z.symm
theorem g_newM (E : gOk C cc nL Ts own e0 rm) (hin : ∀ w ∈ wsX60, w ∈ Ts) (hcl : Cond.classLink own idx RX6 ∈ Ts) (hinst : Cond.instantiable RX6 30 ∈ Ts) (hini : Cond.initialized RX6 ∈ Ts) (hc : mc + 1 ≤ rm.cells) (hs : ms + 30 ≤ rm.slots) (d : decode cc pc = .ok (.new idx, 3)) (kk : ∀ q : Nat, G C (ws ++ [(q, .inr (7, [.int 0, .int 0, .null, .null, .null, .int 0, .null, .null, .null, .null, .int 0, .null, .null, .null, .null, .null, .null, .null, .null, .null, .null, .int 0, .null, .null, .int 0, .null, .null, .null, .null, .null]))]) (mc + 1) (ms + 30) (pc + 3) L (.ref q :: st)) : G C ws mc ms pc L st := by
  intro H locs ls hP hD hS hL
  refine va_new (ci := 7) (fs := [.int 0, .int 0, .null, .null, .null, .int 0, .null, .null, .null, .null, .int 0, .null, .null, .null, .null, .null, .null, .null, .null, .null, .null, .int 0, .null, .null, .int 0, .null, .null, .null, .null, .null]) (C := RX6) (T := TX6) (N := 30) E.exec E.code E.ts hin tyX6 tyX6_ok E.ow (E.ts _ hcl) (E.ts _ hinst) (E.ts _ hini) E.K hP hD hS E.A rfl (fun j hj => by rcases (by omega : j = 0 ∨ j = 1 ∨ j = 2 ∨ j = 3 ∨ j = 4 ∨ j = 5 ∨ j = 6 ∨ j = 7 ∨ j = 8 ∨ j = 9 ∨ j = 10 ∨ j = 11 ∨ j = 12 ∨ j = 13 ∨ j = 14 ∨ j = 15 ∨ j = 16 ∨ j = 17 ∨ j = 18 ∨ j = 19 ∨ j = 20 ∨ j = 21 ∨ j = 22 ∨ j = 23 ∨ j = 24 ∨ j = 25 ∨ j = 26 ∨ j = 27 ∨ j = 28 ∨ j = 29) with rfl | rfl | rfl | rfl | rfl | rfl | rfl | rfl | rfl | rfl | rfl | rfl | rfl | rfl | rfl | rfl | rfl | rfl | rfl | rfl | rfl | rfl | rfl | rfl | rfl | rfl | rfl | rfl | rfl | rfl <;> rfl) (by rw [E.room]; exact hc) (by rw [E.room]; exact hs) d (fun q H1 h1 h2 h3 => ?_)
  exact kk q H1 locs ls h1 h2 h3 hL
end GO
def wS0 : wS := ([], fun _ => 0, fun _ _ => 0, fun _ _ => 0, fun _ _ => none, fun _ => 0, fun _ _ => 0, fun _ _ => none)
set_option maxHeartbeats 4000000 in
set_option maxRecDepth 100000 in
theorem law_go {C : gT} {e0 b Ln : Nat} {xv : Nat → Int32} (E : gOk C cL_law 8 wsL_law RL e0 room_1) (hX : va_X b Ln xv (xs C) (xs C).heap) (hbl : b < (xs C).heap.size) (hbA : ¬ xA C b) (hL : Ln ≤ 3584) (fin : ∀ (W : va_W) (L : List (Nat × Value)) (mc ms : Nat), mc ≤ 601024 → ms ≤ 7293034 → G C W mc ms 1653 L []) : G C [] 0 0 0 [(0, .ref b)] [] := by
  show G C (cW (xy C) wS0) 0 0 0 [(0, .ref b)] []
  refine p_new_PW E inlX5 (idx := 8) (by decide +kernel) (by decide +kernel) (by decide +kernel) (Nat.le_of_ble_eq_true rfl) (Nat.le_of_ble_eq_true rfl) dL_law_0 (fun a ha => ?_)
  refine g_dup E dL_law_3 rfl ?_
  refine g_invI (As := []) (rest := [.ref a]) (n := 0) E (m_X5_init (xl C) E.tr (xD C) (xy C) e0 (S := nw wS0 a 5 0) (a := a) (List.mem_append_right _ List.mem_cons_self) (va_up_self _ _ _) (if_pos rfl)) gL_law_X5_init rfl rfl rfl (by decide +kernel) (by decide +kernel) (by decide +kernel) rfl (by decide +kernel) ⟨Nat.le_of_ble_eq_true rfl, Nat.le_of_ble_eq_true rfl⟩ rfl rfl (Nat.le_of_ble_eq_true rfl) dL_law_4 ⟨Nat.le_of_ble_eq_true rfl, Nat.le_of_ble_eq_true rfl⟩ (fun X w h => by obtain ⟨_, _, h⟩ := h; exact h.elim) (fun v w h9 => ?_)
  obtain ⟨S', rfl, rfl, -, ad, hI, rfl⟩ := h9
  refine g_astore_n (L' := [(1, .ref (ad 5 0)), (0, .ref b)]) E dL_law_7 rfl (by decide) rfl ?_
  refine g_newM E inlX6 (idx := 94) (by decide +kernel) (by decide +kernel) (by decide +kernel) (Nat.le_of_ble_eq_true rfl) (Nat.le_of_ble_eq_true rfl) dL_law_8 (fun q => ?_)
  refine g_dup E dL_law_11 rfl ?_
  refine g_invI (As := []) (rest := [.ref q]) (n := 0) E ((m_X6_init (xl C) E.tr (xD C) (xy C) e0 (a := q)).frameL (cW (xy C) S')) gL_law_X6_init rfl rfl rfl (by decide +kernel) (by decide +kernel) (by decide +kernel) rfl (by decide +kernel) ⟨Nat.le_of_ble_eq_true rfl, Nat.le_of_ble_eq_true rfl⟩ rfl rfl (Nat.le_of_ble_eq_true rfl) dL_law_12 ⟨Nat.le_of_ble_eq_true rfl, Nat.le_of_ble_eq_true rfl⟩ (fun X w h => by obtain ⟨_, _, h⟩ := h; exact h.elim) (fun v w h9 => ?_)
  obtain ⟨w1, rfl, rfl, ma, rfl, rfl⟩ := h9
  refine g_astore_n (L' := [(2, .ref (ma 0)), (1, .ref (ad 5 0)), (0, .ref b)]) E dL_law_15 rfl (by decide) rfl ?_
  refine g_iconst (v := 1) E dL_law_16 (by decide) ?_
  refine m_naJ E (by decide +kernel) 1 (by decide) (by decide) (Nat.le_of_ble_eq_true rfl) (Nat.le_of_ble_eq_true rfl) dL_law_17 (fun ob => ?_)
  refine g_swap ?_
  refine g_astore_n (L' := [(3, .ref ob), (2, .ref (ma 0)), (1, .ref (ad 5 0)), (0, .ref b)]) E dL_law_19 rfl (by decide) rfl ?_
  refine g_iconst (v := nI 0) E dL_law_20 (by decide) ?_
  refine g_istore (L' := [(4, .int (nI 0)), (3, .ref ob), (2, .ref (ma 0)), (1, .ref (ad 5 0)), (0, .ref b)]) E dL_law_21 (by decide) rfl ?_
  refine g_widen (mc' := 60) (ms' := 1400) (Nat.le_of_ble_eq_true rfl) (Nat.le_of_ble_eq_true rfl) ?_
  exact rl_loop E hX hbl hbA hL fin 512 0 60 1400 _ ⟨S', fun _ => 0, ms00, c00, ad, i00, _, _, _, rfl, hI, rfl, 0, 0, REL_new⟩ (by omega) (by omega) (Nat.le_of_ble_eq_true rfl) (Nat.le_of_ble_eq_true rfl)
