/-! a new line -/
section ILN
variable {S : wS} {a q : Nat} {x ps : Int32}
theorem iLn_L : sL (iLn S a q x ps) = sL (nw S q 7 6) := by unfold iLn; rw [sl_uI]; show sL (uI (uP (nw S q 7 6) 0 a (some q)) 0 a 1) = _; rw [sl_uI, sl_uP]
theorem iLn_K : sK (iLn S a q x ps) = sK (nw S q 7 6) := by unfold iLn; rw [sk_uI]; show sK (uI (uP (nw S q 7 6) 0 a (some q)) 0 a 1) = _; rw [sk_uI, sk_uP]
theorem iLn_FR (hq : q ∉ sL S) : FR S (iLn S a q x ps) (fun z => z = a) := by
  unfold iLn
  exact FR.tr (FR.tr (FR.tr (FR.tr (FR.nw hq) (FR.uP (a := a)) (fun _ _ h => h.elim) (fun _ _ h => h)) (FR.uI (a := a)) (fun _ _ h => h) (fun _ _ h => h)) (FR.uR (a := q)) (fun _ _ h => h) (fun z hz h => absurd (h ▸ hz) hq)) (FR.uI (a := a)) (fun _ _ h => h) (fun _ _ h => h)
theorem iLn_1 : sI (iLn S a q x ps) 1 a = ps := up2_self _ _ _ _
theorem iLn_0 : sI (iLn S a q x ps) 0 a = 1 := by
  show up2 (up2 (nw S q 7 6).2.2.1 0 a 1) 1 a ps 0 a = 1
  rw [up2_nf (by decide), up2_self]
theorem iLn_P : sP (iLn S a q x ps) 0 a = some q := up2_self _ _ _ _
theorem iLn_J (h : a ≠ q) : sJ (iLn S a q x ps) 0 a = sJ S 0 a := nw_J (k := 7) (n := 6) h
theorem iLn_R : sR (iLn S a q x ps) q 0 = x := up2_self _ _ _ _
theorem iLn_N : sN (iLn S a q x ps) q = 6 := nw_No (k := 7)
end ILN
/-- what a new line changes -/
def LRr (c : Nat → Nat) (i : Nat → Nat → Int32) (j : Nat → Nat → Int64) (r : Nat → Nat → Int32) (c' : Nat → Nat) (i' : Nat → Nat → Int32) (j' : Nat → Nat → Int64) (r' : Nat → Nat → Int32) (x ps : Int32) : Prop :=
  (∀ z, z ≠ 0 → z ≠ 7 → c' z = c z) ∧ c' 0 = c 0 + 1 ∧ (∀ f k, ¬ (f < 2 ∧ k = c 0) → i' f k = i f k) ∧ i' 0 (c 0) = 1 ∧ i' 1 (c 0) = ps ∧ (∀ f k, ¬ (f = 0 ∧ k = c 0) → j' f k = j f k) ∧ j' 0 (c 0) = 0 ∧ (∀ k, k ≠ 24 + c 0 → r' k = r k) ∧ r' (24 + c 0) 0 = x
theorem kf_0 {f : Nat} (h : kf f = 0) : f < 2 := by unfold kf at h; split at h; assumption; split at h; omega; split at h; omega; split at h; omega; split at h; omega; split at h <;> omega
theorem kj_0 {f : Nat} (h : kj f = 0) : f = 0 := by unfold kj at h; split at h; assumption; split at h <;> omega
theorem line_new {e0 : Nat} {S S9 : wS} {c : Nat → Nat} {ad : Nat → Nat → Nat} {i : Nat → Nat → Int32} {j : Nat → Nat → Int64} {p : Nat → Nat → Option Nat} {r : Nat → Nat → Int32} {q2 qa d9 : Nat} {x ps : Int32} (hI : CI e0 S c ad i j p r) (hc6 : c 0 < 6) (hq2 : q2 ∉ sL S) (hqa : qa ∉ sL (nw S q2 0 0)) (hL : okL e0 S9 (ad 6 0) d9 (c 0 + 1) (snoc (ad 0) (c 0) q2)) (hF : FR (iLn (nw S q2 0 0) q2 qa x ps) S9 (fun z => z = ad 6 0 ∨ z = ad 8 0)) (hd : d9 = ad 8 0 ∨ d9 ∉ sL (iLn (nw S q2 0 0) q2 qa x ps)) (he9 : e0 ∉ sL S9) :
    ∃ c' ad' i' j' r', CI e0 S9 c' ad' i' j' p r' ∧ ad' 5 0 = ad 5 0 ∧ LRr c i j r c' i' j' r' x ps := by
  have hne : q2 ≠ qa := fun e => hqa (e ▸ nw_own)
  have hF02 : FR S (nw S q2 0 0) (fun z => z = q2) := FR.tr (FR.nw hq2) FR.rf (fun _ _ h => h.elim) (fun _ _ h => h)
  have hF03 : FR S (iLn (nw S q2 0 0) q2 qa x ps) (fun z => z = q2) := FR.tr hF02 (iLn_FR hqa) (fun _ _ h => h) (fun _ _ h => h)
  have hF9 : FR S S9 (fun z => z = ad 6 0 ∨ z = ad 8 0) := FR.tr hF03 hF (fun z hz h => absurd (h ▸ hz) hq2) (fun _ _ h => h)
  have m2 : q2 ∈ sL (iLn (nw S q2 0 0) q2 qa x ps) := by rw [iLn_L]; exact nw_mem nw_own
  have ma : qa ∈ sL (iLn (nw S q2 0 0) q2 qa x ps) := by rw [iLn_L]; exact nw_own
  have k2 : sK (iLn (nw S q2 0 0) q2 qa x ps) q2 = 0 := by rw [iLn_K]; exact (nw_K hne).trans nw_Ko
  have ka : sK (iLn (nw S q2 0 0) q2 qa x ps) qa = 7 := by rw [iLn_K]; exact nw_Ko
  have hqaS : qa ∉ sL S := fun h => hqa (nw_mem h)
  have hc6' : 0 < c 6 := by have := hI.cnt; omega
  have nX : ∀ {z : Nat}, z ∉ sL S → z ∈ sL (iLn (nw S q2 0 0) q2 qa x ps) → ¬ (z = ad 6 0 ∨ z = ad 8 0) := by
    intro z h1 h2 h
    rcases h with h | h
    · exact h1 (h ▸ (hI.obj (kd := 6) (k := 0) (by omega) hc6').1)
    · rcases hI.arr8 (t := 0) (by omega) with g | g
      · exact he9 (by rw [← g, ← h]; exact hF.1 _ h2)
      · exact h1 (h ▸ g.1)
  obtain ⟨a1, a2, a3, a4, a5, a6, a7⟩ := hF.2 q2 m2 (nX hq2 m2)
  obtain ⟨b1, b2, b3, b4, b5, b6, b7⟩ := hF.2 qa ma (nX hqaS ma)
  have h9 := CI.ext (t := 0) (q := q2) (d' := d9) (qa := qa) (p' := p) hI (by omega) (fun _ => hc6) (show c 0 < 40 by omega) hF9 (fun kd k h1 h2 e => hq2 (e ▸ (hI.obj h1 h2).1)) (hF.1 _ m2) (a1.trans k2) hL (hd.imp id (fun h g => h (hF03.1 _ g))) he9 (fun _ _ _ => rfl) (fun e => absurd e (by decide)) (fun _ => ⟨hqaS, hF.1 _ ma, b1.trans ka, b5.trans iLn_N, (a4 0).trans iLn_P⟩)
  have c7 : c 7 = 24 + c 0 := hI.cnt.2.2.2.2.1
  refine ⟨_, _, _, _, _, h9, xAd_o (fun z => absurd z.1 (by decide)) (by decide) (Or.inl (by decide)), fun z h1 h2 => xC_o h1 (Or.inl h2), xC_s, fun f k h => if_neg (fun z => h ⟨kf_0 z.1, z.2⟩), ?_, ?_, fun f k h => if_neg (fun z => h ⟨kj_0 z.1, z.2⟩), ?_, fun k h => ?_, ?_⟩
  · exact (if_pos ⟨rfl, rfl⟩).trans ((a2 0).trans iLn_0)
  · exact (if_pos ⟨rfl, rfl⟩).trans ((a2 1).trans iLn_1)
  · exact (if_pos ⟨rfl, rfl⟩).trans ((a3 0).trans ((iLn_J hne).trans nw_Jo))
  · funext b
    exact if_neg (fun z => h (z.2.trans c7))
  · rw [← c7]
    exact (if_pos ⟨rfl, rfl⟩).trans ((congrFun b6 0).trans iLn_R)
abbrev rm_X5_line : Room := { frames := 8, cells := 5, slots := 1040, locals := 387 }
set_option maxHeartbeats 4000000 in
set_option maxRecDepth 100000 in
theorem m_X5_line (l : Launch) (hl : l.stackTraces = false) (D : va_G) (cy : Nat → ClassId) (e0 : Nat) {S : wS} {c : Nat → Nat} {ad : Nat → Nat → Nat} {i : Nat → Nat → Int32} {j : Nat → Nat → Int64} {p : Nat → Nat → Option Nat} {r : Nat → Nat → Int32} (hI : CI e0 S c ad i j p r) {x y : Int32} : cMet l yX5_line wsX5_line rm_X5_line D cy e0 [.ref (ad 5 0), .int (x), .int (y)] S (fun v S' => ∃ a, a < 10 ∧ x = nI a ∧ (¬ y < 0 ∧ ¬ 500 < y) ∧ (c 0 < 6 ∧ i 18 0 = 0) ∧ v = some (.int (nI (c 0))) ∧ ∃ c' ad' i' j' r', CI e0 S' c' ad' i' j' p r' ∧ ad' 5 0 = ad 5 0 ∧ LRr c i j r c' i' j' r' x y) (fun X S' => (X = "java/lang/IndexOutOfBoundsException" ∧ ¬ JN x ∧ S' = S) ∨ (X = "java/lang/IllegalArgumentException" ∧ (JN x ∧ ¬ (¬ y < 0 ∧ ¬ 500 < y)) ∧ S' = S) ∨ (X = "java/lang/IllegalStateException" ∧ (JN x ∧ (¬ y < 0 ∧ ¬ 500 < y) ∧ ¬ (c 0 < 6 ∧ i 18 0 = 0)) ∧ S' = S)) 5 1040 := by
  refine gMet.of (cc := cX5_line) (maxL := 3) (ret := (some .int)) hl (by decide) rfl (Nat.le_of_ble_eq_true rfl) ?_
  intro C E h1 h2 h3 hr hnm hT hE
  subst h1; subst h2; subst h3
  have E : gOk C cX5_line 3 wsX5_line RX5 e0 rm_X5_line := E
  show G C (cW (xy C) S) 0 0 0 [(0, .ref (ad 5 0)), (1, .int (x)), (2, .int (y))] []
  have hc := hI.cnt
  refine g_iload_n E dX5_line_0 rfl 1 rfl ?_
  refine c_invS (n := 1) (rest := []) E (m_X5_checkJunction (xl C) E.tr (xD C) (xy C) e0 (S := S) ) gX5_line_X5_checkJunction rfl rfl rfl (by decide +kernel) ⟨Nat.le_of_ble_eq_true rfl, Nat.le_of_ble_eq_true rfl⟩ rfl rfl (Nat.le_of_ble_eq_true rfl) dX5_line_1 ⟨Nat.le_of_ble_eq_true rfl, Nat.le_of_ble_eq_true rfl⟩ (fun X9 S9 h9 => by obtain ⟨hX9, hx9, hS9⟩ := h9; rw [hX9, hS9]; exact gx_out E hE hT (Nat.le_of_ble_eq_true rfl) (Nat.le_of_ble_eq_true rfl) ⟨S, rfl, Or.inl ⟨rfl, JN.no hx9, rfl⟩⟩) (fun v9 S9_1 h9 => ?_)
  obtain ⟨hv9, hS9, k_1, hk_1, hx_1⟩ := h9
  rw [hv9, hS9]
  subst hx_1
  show G C (cW (xy C) S) 1 6 4 [(0, .ref (ad 5 0)), (1, .int (nI k_1)), (2, .int (y))] []
  refine g_iload_n E dX5_line_4 rfl 2 rfl ?_
  refine g_if_lt (tgt := 15) E dX5_line_5 (by decide) (fun c_5 => ?_) (fun c_5 => ?_)
  · exact g_throwS E hE hT "java/lang/IllegalArgumentException" "a line carries 0 to 500 passengers" ["java/lang/RuntimeException", "java/lang/Exception"] 37 60 41 (by decide) (by decide) (List.mem_cons_of_mem _ (List.mem_append_left _ (List.mem_append_left _ (List.mem_append_left _ (List.mem_append_left _ (List.mem_append_left _ (List.mem_append_left _ (List.mem_append_left _ (List.mem_of_getElem? (i := 0) rfl))))))))) (List.mem_cons_of_mem _ (List.mem_append_left _ (List.mem_append_left _ (List.mem_append_left _ (List.mem_append_left _ (List.mem_append_left _ (List.mem_append_left _ (List.mem_append_left _ (List.mem_of_getElem? (i := 1) rfl))))))))) tbS_RX5_60 (fun _ h => (List.mem_cons_of_mem _ (List.mem_append_left _ (List.mem_append_left _ (List.mem_append_right _ h))))) tbX_IAE tbG_IAE dX5_line_15 dX5_line_18 dX5_line_19 dX5_line_21 dX5_line_24 (Nat.le_of_ble_eq_true rfl) (Nat.le_of_ble_eq_true rfl) (Nat.le_of_ble_eq_true rfl) (Nat.le_of_ble_eq_true rfl) (Nat.le_of_ble_eq_true rfl) (Nat.le_of_ble_eq_true rfl) ⟨S, rfl, Or.inr (Or.inl ⟨rfl, ⟨⟨k_1, hk_1, rfl⟩, fun q => q.1 c_5⟩, rfl⟩)⟩
  · refine g_iload_n E dX5_line_8 rfl 2 rfl ?_
    refine g_sipush (v := 500) E dX5_line_9 (by decide) ?_
    refine g_icmp_le (tgt := 25) E dX5_line_12 (by decide) (fun c_12 => ?_) (fun c_12 => ?_)
    · refine g_aload_n E dX5_line_25 rfl 0 rfl ?_
      refine q_get_PW_lines E hI (fun _ h => (List.mem_cons_of_mem _ (List.mem_append_left _ (List.mem_append_left _ (List.mem_append_left _ (List.mem_append_left _ (List.mem_append_left _ (List.mem_append_right _ h)))))))) (List.mem_cons_of_mem _ (List.mem_append_left _ (List.mem_append_left _ (List.mem_append_left _ (List.mem_append_left _ (List.mem_append_left _ (List.mem_append_left _ (List.mem_append_left _ (List.mem_of_getElem? (i := 4) rfl))))))))) dX5_line_26 ?_
      refine c_invV (n := 0) (rest := []) E (m_Jx4a65c_size_8abf5 (xl C) E.tr (xD C) (xy C) e0 hI.lists.1) (hI.obj (kd := 6) (k := 0) (by omega) (by have := hI.cnt; omega)).1 gX5_line_Jx4a65c_size_8abf5 rfl rfl rfl (by decide +kernel) ⟨Nat.le_of_ble_eq_true rfl, Nat.le_of_ble_eq_true rfl⟩ (wF_AL (hI.obj (kd := 6) (k := 0) (by omega) (by have := hI.cnt; omega)).2) rfl rfl rfl rfl (Nat.le_of_ble_eq_true rfl) dX5_line_29 ⟨Nat.le_of_ble_eq_true rfl, Nat.le_of_ble_eq_true rfl⟩ (fun _ _ h9 => h9.elim) (fun v9 S9_29 h9 => ?_)
      obtain ⟨hv9, hS9⟩ := h9
      rw [hv9, hS9]
      show G C (cW (xy C) S) 1 6 32 [(0, .ref (ad 5 0)), (1, .int (nI k_1)), (2, .int (y))] [.int (nI (c 0))]
      refine g_bipush (v := 6) E dX5_line_32 (by decide) ?_
      refine g_icmp_eq (tgt := 44) E dX5_line_34 (by decide) (fun c_34 => ?_) (fun c_34 => ?_)
      · exact g_throwS E hE hT "java/lang/IllegalStateException" "lines are added at the hour 0, at most 6" ["java/lang/RuntimeException", "java/lang/Exception"] 51 66 55 (by decide) (by decide) (List.mem_cons_of_mem _ (List.mem_append_left _ (List.mem_append_left _ (List.mem_append_left _ (List.mem_append_left _ (List.mem_append_left _ (List.mem_append_left _ (List.mem_append_left _ (List.mem_of_getElem? (i := 2) rfl))))))))) (List.mem_cons_of_mem _ (List.mem_append_left _ (List.mem_append_left _ (List.mem_append_left _ (List.mem_append_left _ (List.mem_append_left _ (List.mem_append_left _ (List.mem_append_left _ (List.mem_of_getElem? (i := 3) rfl))))))))) tbS_RX5_66 (fun _ h => (List.mem_cons_of_mem _ (List.mem_append_left _ (List.mem_append_right _ h)))) tbX_ISE tbG_ISE dX5_line_44 dX5_line_47 dX5_line_48 dX5_line_50 dX5_line_53 (Nat.le_of_ble_eq_true rfl) (Nat.le_of_ble_eq_true rfl) (Nat.le_of_ble_eq_true rfl) (Nat.le_of_ble_eq_true rfl) (Nat.le_of_ble_eq_true rfl) (Nat.le_of_ble_eq_true rfl) ⟨S, rfl, Or.inr (Or.inr (⟨rfl, ⟨⟨k_1, hk_1, rfl⟩, ⟨c_5, Int32.not_lt.mpr c_12⟩, fun q => absurd q.1 (by have := nI_inj (a := c 0) (b := 6) (by omega) (by decide) c_34; omega)⟩, rfl⟩))⟩
      · refine g_aload_n E dX5_line_37 rfl 0 rfl ?_
        refine q_get_PW_now E hI hI.c5 (fun _ h => (List.mem_cons_of_mem _ (List.mem_append_left _ (List.mem_append_left _ (List.mem_append_left _ (List.mem_append_left _ (List.mem_append_left _ (List.mem_append_right _ h)))))))) (List.mem_cons_of_mem _ (List.mem_append_left _ (List.mem_append_left _ (List.mem_append_left _ (List.mem_append_left _ (List.mem_append_left _ (List.mem_append_left _ (List.mem_append_left _ (List.mem_of_getElem? (i := 5) rfl))))))))) dX5_line_38 ?_
        refine g_if_eq (tgt := 54) E dX5_line_41 (by decide) (fun c_41 => ?_) (fun c_41 => ?_)
        · have hc6 : c 0 < 6 := by have : c 0 ≠ 6 := fun e => c_34 (congrArg nI e); omega
          refine g_aload_n E dX5_line_54 rfl 0 rfl ?_
          refine q_get_PW_lines E hI (fun _ h => (List.mem_cons_of_mem _ (List.mem_append_left _ (List.mem_append_left _ (List.mem_append_left _ (List.mem_append_left _ (List.mem_append_left _ (List.mem_append_right _ h)))))))) (List.mem_cons_of_mem _ (List.mem_append_left _ (List.mem_append_left _ (List.mem_append_left _ (List.mem_append_left _ (List.mem_append_left _ (List.mem_append_left _ (List.mem_append_left _ (List.mem_of_getElem? (i := 4) rfl))))))))) dX5_line_55 ?_
          refine p_new_Line E (fun _ h => (List.mem_cons_of_mem _ (List.mem_append_left _ (List.mem_append_left _ (List.mem_append_left _ (List.mem_append_left _ (List.mem_append_right _ h))))))) (List.mem_cons_of_mem _ (List.mem_append_left _ (List.mem_append_left _ (List.mem_append_left _ (List.mem_append_left _ (List.mem_append_left _ (List.mem_append_left _ (List.mem_append_left _ (List.mem_of_getElem? (i := 6) rfl))))))))) (List.mem_cons_of_mem _ (List.mem_append_left _ (List.mem_append_left _ (List.mem_append_left _ (List.mem_append_left _ (List.mem_append_left _ (List.mem_append_left _ (List.mem_append_left _ (List.mem_of_getElem? (i := 7) rfl))))))))) (List.mem_cons_of_mem _ (List.mem_append_left _ (List.mem_append_left _ (List.mem_append_left _ (List.mem_append_left _ (List.mem_append_left _ (List.mem_append_left _ (List.mem_append_left _ (List.mem_of_getElem? (i := 8) rfl))))))))) (Nat.le_of_ble_eq_true rfl) (Nat.le_of_ble_eq_true rfl) dX5_line_58 (fun q_58 hq_58 => ?_)
          show G C (cW (xy C) (nw S q_58 0 0)) 2 10 61 [(0, .ref (ad 5 0)), (1, .int (nI k_1)), (2, .int (y))] [.ref (q_58), .ref (ad 6 0)]
          refine g_dup E dX5_line_61 rfl ?_
          refine g_iload_n E dX5_line_62 rfl 1 rfl ?_
          refine g_iload_n E dX5_line_63 rfl 2 rfl ?_
          refine c_invI (n := 2) (rest := [.ref (q_58), .ref (ad 6 0)]) E (m_X0_init (xl C) E.tr (xD C) (xy C) e0 (S := (nw S q_58 0 0)) (x := nI k_1) (ps := y) (nw_own (k := 0) (n := 0)) (nw_Ko (k := 0) (n := 0))) gX5_line_X0_init rfl rfl rfl (List.mem_cons_of_mem _ (List.mem_append_left _ (List.mem_append_left _ (List.mem_append_left _ (List.mem_append_left _ (List.mem_append_left _ (List.mem_append_left _ (List.mem_append_left _ (List.mem_of_getElem? (i := 8) rfl))))))))) (List.mem_cons_of_mem _ (List.mem_append_left _ (List.mem_append_left _ (List.mem_append_left _ (List.mem_append_left _ (List.mem_append_left _ (List.mem_append_left _ (List.mem_append_left _ (List.mem_of_getElem? (i := 21) rfl))))))))) (List.mem_cons_of_mem _ (List.mem_append_left _ (List.mem_append_left _ (List.mem_append_left _ (List.mem_append_left _ (List.mem_append_left _ (List.mem_append_left _ (List.mem_append_left _ (List.mem_of_getElem? (i := 22) rfl))))))))) rfl (by decide +kernel) ⟨Nat.le_of_ble_eq_true rfl, Nat.le_of_ble_eq_true rfl⟩ rfl rfl (Nat.le_of_ble_eq_true rfl) dX5_line_64 ⟨Nat.le_of_ble_eq_true rfl, Nat.le_of_ble_eq_true rfl⟩ (fun _ _ h9 => h9.elim) (fun v9 S9_64 h9 => ?_)
          obtain ⟨hv9, qa, hqa, hS9⟩ := h9
          rw [hv9, hS9]
          refine g_e0 E (fun he3 => ?_)
          have hne : q_58 ≠ qa := fun e => hqa (e ▸ nw_own)
          have hm3 : q_58 ∈ sL (iLn (nw S q_58 0 0) q_58 qa (nI k_1) y) := by rw [iLn_L]; exact nw_mem nw_own
          have hk3 : sK (iLn (nw S q_58 0 0) q_58 qa (nI k_1) y) q_58 = 0 := by rw [iLn_K]; exact (nw_K hne).trans nw_Ko
          have hI3 : CI e0 (iLn (nw S q_58 0 0) q_58 qa (nI k_1) y) c ad i j p r := hI.outq (FR.tr (FR.tr (FR.nw hq_58) FR.rf (fun _ _ h => h.elim) (fun _ _ h => h)) (iLn_FR hqa) (fun _ _ h => h) (fun _ _ h => h)) (OUT.new hI hq_58 (fun e => he3 (e ▸ hm3))) he3
          show G C (cW (xy C) (iLn (nw S q_58 0 0) q_58 qa (nI k_1) y)) 3 16 67 [(0, .ref (ad 5 0)), (1, .int (nI k_1)), (2, .int (y))] [.ref (q_58), .ref (ad 6 0)]
          refine c_invV (n := 1) (rest := []) E (m_add (xl C) E.tr (xD C) (xy C) e0 (S := (iLn (nw S q_58 0 0) q_58 qa (nI k_1) y)) (kd := 0) hI3.lists.1 (by omega) (by decide) hm3 hk3 (fun k hk => hI3.obj (kd := 0) (by omega) hk)) (hI3.obj (kd := 6) (k := 0) (by omega) (by have := hI3.cnt; omega)).1 gX5_line_Jx4a65c_add_9ea2d rfl rfl rfl (by decide +kernel) ⟨Nat.le_of_ble_eq_true rfl, Nat.le_of_ble_eq_true rfl⟩ (wF_AL (hI3.obj (kd := 6) (k := 0) (by omega) (by have := hI3.cnt; omega)).2) rfl rfl rfl rfl (Nat.le_of_ble_eq_true rfl) dX5_line_67 ⟨Nat.le_of_ble_eq_true rfl, Nat.le_of_ble_eq_true rfl⟩ (fun _ _ h9 => h9.elim) (fun v9 S9_67 h9 => ?_)
          obtain ⟨hv9, d9, hL9, hF9, hd9⟩ := h9
          rw [hv9]
          refine g_e0 E (fun he9 => ?_)
          have hF03 : FR S (iLn (nw S q_58 0 0) q_58 qa (nI k_1) y) (fun z => z = q_58) := FR.tr (FR.tr (FR.nw hq_58) FR.rf (fun _ _ h => h.elim) (fun _ _ h => h)) (iLn_FR hqa) (fun _ _ h => h) (fun _ _ h => h)
          have hF9' : FR S S9_67 (fun z => z = ad 6 0 ∨ z = ad 8 0) := FR.tr hF03 hF9 (fun z hz h => absurd (h ▸ hz) hq_58) (fun _ _ h => h)
          have h5 := hI.obj (kd := 5) (k := 0) (by omega) hI.c5
          have hX5 : ¬ (ad 5 0 = ad 6 0 ∨ ad 5 0 = ad 8 0) := hI.old (t := 0) (by omega) h5.1 h5.2 (by omega) (by omega)
          have hP5 : sP S9_67 10 (ad 5 0) = some (ad 6 0) := ((hF9'.2 _ h5.1 hX5).2.2.2.1 10).trans hI.pw.2.1
          have hm5 := hF9'.1 _ h5.1
          have hk5 := (hF9'.2 _ h5.1 hX5).1.trans h5.2
          show G C (cW (xy C) S9_67) 4 1016 70 [(0, .ref (ad 5 0)), (1, .int (nI k_1)), (2, .int (y))] [.int (1)]
          refine g_pop E dX5_line_70 rfl ?_
          refine g_aload_n E dX5_line_71 rfl 0 rfl ?_
          refine p_get_PW_lines (S := S9_67) E hm5 hk5 (fun _ h => (List.mem_cons_of_mem _ (List.mem_append_left _ (List.mem_append_left _ (List.mem_append_left _ (List.mem_append_left _ (List.mem_append_left _ (List.mem_append_right _ h)))))))) (List.mem_cons_of_mem _ (List.mem_append_left _ (List.mem_append_left _ (List.mem_append_left _ (List.mem_append_left _ (List.mem_append_left _ (List.mem_append_left _ (List.mem_append_left _ (List.mem_of_getElem? (i := 4) rfl))))))))) dX5_line_72 ?_
          rw [hP5]
          show G C (cW (xy C) S9_67) 4 1016 75 [(0, .ref (ad 5 0)), (1, .int (nI k_1)), (2, .int (y))] [.ref (ad 6 0)]
          refine c_invV (n := 0) (rest := []) E (m_Jx4a65c_size_8abf5 (xl C) E.tr (xD C) (xy C) e0 hL9) hL9.1 gX5_line_Jx4a65c_size_8abf5 rfl rfl rfl (by decide +kernel) ⟨Nat.le_of_ble_eq_true rfl, Nat.le_of_ble_eq_true rfl⟩ (wF_AL hL9.2.1) rfl rfl rfl rfl (Nat.le_of_ble_eq_true rfl) dX5_line_75 ⟨Nat.le_of_ble_eq_true rfl, Nat.le_of_ble_eq_true rfl⟩ (fun _ _ h9 => h9.elim) (fun v9 S9_75 h9 => ?_)
          obtain ⟨hv9, hS9⟩ := h9
          rw [hv9, hS9]
          show G C (cW (xy C) S9_67) 4 1016 78 [(0, .ref (ad 5 0)), (1, .int (nI k_1)), (2, .int (y))] [.int (nI (c 0 + 1))]
          refine g_iconst (v := 1) E dX5_line_78 (by decide) ?_
          refine g_isub E dX5_line_79 ?_
          exact g_iret E hE hr dX5_line_80 (Nat.le_of_ble_eq_true rfl) (Nat.le_of_ble_eq_true rfl) ⟨S9_67, rfl, k_1, hk_1, rfl, ⟨c_5, Int32.not_lt.mpr c_12⟩, ⟨hc6, c_41⟩, by rw [nI_pred], line_new hI hc6 hq_58 hqa hL9 hF9 hd9 he9⟩
        · exact g_throwS E hE hT "java/lang/IllegalStateException" "lines are added at the hour 0, at most 6" ["java/lang/RuntimeException", "java/lang/Exception"] 51 66 55 (by decide) (by decide) (List.mem_cons_of_mem _ (List.mem_append_left _ (List.mem_append_left _ (List.mem_append_left _ (List.mem_append_left _ (List.mem_append_left _ (List.mem_append_left _ (List.mem_append_left _ (List.mem_of_getElem? (i := 2) rfl))))))))) (List.mem_cons_of_mem _ (List.mem_append_left _ (List.mem_append_left _ (List.mem_append_left _ (List.mem_append_left _ (List.mem_append_left _ (List.mem_append_left _ (List.mem_append_left _ (List.mem_of_getElem? (i := 3) rfl))))))))) tbS_RX5_66 (fun _ h => (List.mem_cons_of_mem _ (List.mem_append_left _ (List.mem_append_right _ h)))) tbX_ISE tbG_ISE dX5_line_44 dX5_line_47 dX5_line_48 dX5_line_50 dX5_line_53 (Nat.le_of_ble_eq_true rfl) (Nat.le_of_ble_eq_true rfl) (Nat.le_of_ble_eq_true rfl) (Nat.le_of_ble_eq_true rfl) (Nat.le_of_ble_eq_true rfl) (Nat.le_of_ble_eq_true rfl) ⟨S, rfl, Or.inr (Or.inr (⟨rfl, ⟨⟨k_1, hk_1, rfl⟩, ⟨c_5, Int32.not_lt.mpr c_12⟩, fun q => c_41 q.2⟩, rfl⟩))⟩
    · exact g_throwS E hE hT "java/lang/IllegalArgumentException" "a line carries 0 to 500 passengers" ["java/lang/RuntimeException", "java/lang/Exception"] 37 60 41 (by decide) (by decide) (List.mem_cons_of_mem _ (List.mem_append_left _ (List.mem_append_left _ (List.mem_append_left _ (List.mem_append_left _ (List.mem_append_left _ (List.mem_append_left _ (List.mem_append_left _ (List.mem_of_getElem? (i := 0) rfl))))))))) (List.mem_cons_of_mem _ (List.mem_append_left _ (List.mem_append_left _ (List.mem_append_left _ (List.mem_append_left _ (List.mem_append_left _ (List.mem_append_left _ (List.mem_append_left _ (List.mem_of_getElem? (i := 1) rfl))))))))) tbS_RX5_60 (fun _ h => (List.mem_cons_of_mem _ (List.mem_append_left _ (List.mem_append_left _ (List.mem_append_right _ h))))) tbX_IAE tbG_IAE dX5_line_15 dX5_line_18 dX5_line_19 dX5_line_21 dX5_line_24 (Nat.le_of_ble_eq_true rfl) (Nat.le_of_ble_eq_true rfl) (Nat.le_of_ble_eq_true rfl) (Nat.le_of_ble_eq_true rfl) (Nat.le_of_ble_eq_true rfl) (Nat.le_of_ble_eq_true rfl) ⟨S, rfl, Or.inr (Or.inl ⟨rfl, ⟨⟨k_1, hk_1, rfl⟩, fun q => q.2 (Int32.not_le.mp c_12)⟩, rfl⟩)⟩
