section ST
variable {c : Nat → Nat} {i : Nat → Nat → Int32} {j : Nat → Nat → Int64} {p : Nat → Nat → Option Nat} {r : Nat → Nat → Int32} {s s' : mS} {M N : Nat} {v' : Option Value}
theorem RELn.b (h : RELn c i j p r s M N) : c 0 ≤ 6 ∧ c 2 ≤ 40 ∧ c 1 ≤ c 2 ∧ M ≤ 24 ∧ N ≤ 5000 := ⟨h.1.2.2.2.2.1, h.1.2.2.2.2.2.2.1, h.1.2.2.2.2.2.2.2.2.1, h.1.2.2.1, h.1.2.2.2.2.2.2.2.2.2.1⟩
theorem RELn.ln (h : RELn c i j p r s M N) : RLn r s M := h.2.1
theorem RELn.li (h : RELn c i j p r s M N) : RLi c i j r s M := h.2.2.1
theorem RELn.pm (h : RELn c i j p r s M N) : RPm c i j p s M N := h.2.2.2.1
theorem RELn.op (h : RELn c i j p r s M N) : ROp c i j s := h.2.2.2.2.1
theorem RELn.pt (h : RELn c i j p r s M N) : RPt r s := h.2.2.2.2.2.1
theorem RELn.ma (h : RELn c i j p r s M N) : RMa c i j r M N := h.2.2.2.2.2.2.1
theorem RELn.wv (h : RELn c i j p r s M N) : WV i r M := h.2.2.2.2.2.2.2
theorem st_state (h : RELn c i j p r s M N) {x : Int32} (hQ : (∃ k, k < (c 2) ∧ x = nI k ∧ v' = some (.int (mr s 17 k)) ∧ s' = muI s 0 0) ∨ ((∀ k, k < (c 2) → x ≠ nI k) ∧ v' = some (.int 0) ∧ s' = muI s 0 1)) {k : Nat} (hk : k < c 2) (hx : x = nI k) : mi s' 0 = 0 ∧ v' = some (.int (i 11 k)) ∧ RELn c i j p r s' M N := by
  have hb := h.b
  rcases hQ with ⟨k', hk', hx', hv, hs⟩ | ⟨hb, -, -⟩
  · have e : k' = k := nI_inj (by omega) (by omega) (hx'.symm.trans hx)
    subst e
    refine ⟨by rw [hs]; exact mi0_mu, hv.trans ?_, by rw [hs]; exact h.mu 0⟩
    obtain ⟨q, -⟩ := h.pm k' hk
    rw [q.2.2.2.2.2.2.1]
  · exact absurd hx (hb k hk)
theorem stx_state (h : RELn c i j p r s M N) {x : Int32} (hQ : (∃ k, k < (c 2) ∧ x = nI k ∧ v' = some (.int (mr s 17 k)) ∧ s' = muI s 0 0) ∨ ((∀ k, k < (c 2) → x ≠ nI k) ∧ v' = some (.int 0) ∧ s' = muI s 0 1)) (hx : ∀ k, k < c 2 → x ≠ nI k) : mi s' 0 = 1 ∧ RELn c i j p r s' M N := by
  rcases hQ with ⟨k', hk', hx', hv, hs⟩ | ⟨hb, -, hs⟩
  · exact absurd hx' (hx k' hk')
  · rw [hs]
    exact ⟨mi0_mu, h.mu 1⟩
theorem st_cause (h : RELn c i j p r s M N) {x : Int32} (hQ : (∃ k, k < (c 2) ∧ x = nI k ∧ v' = some (.int (mr s 18 k)) ∧ s' = muI s 0 0) ∨ ((∀ k, k < (c 2) → x ≠ nI k) ∧ v' = some (.int 0) ∧ s' = muI s 0 1)) {k : Nat} (hk : k < c 2) (hx : x = nI k) : mi s' 0 = 0 ∧ v' = some (.int (i 12 k)) ∧ RELn c i j p r s' M N := by
  have hb := h.b
  rcases hQ with ⟨k', hk', hx', hv, hs⟩ | ⟨hb, -, -⟩
  · have e : k' = k := nI_inj (by omega) (by omega) (hx'.symm.trans hx)
    subst e
    refine ⟨by rw [hs]; exact mi0_mu, hv.trans ?_, by rw [hs]; exact h.mu 0⟩
    obtain ⟨q, -⟩ := h.pm k' hk
    rw [q.2.2.2.2.2.2.2.1]
  · exact absurd hx (hb k hk)
theorem stx_cause (h : RELn c i j p r s M N) {x : Int32} (hQ : (∃ k, k < (c 2) ∧ x = nI k ∧ v' = some (.int (mr s 18 k)) ∧ s' = muI s 0 0) ∨ ((∀ k, k < (c 2) → x ≠ nI k) ∧ v' = some (.int 0) ∧ s' = muI s 0 1)) (hx : ∀ k, k < c 2 → x ≠ nI k) : mi s' 0 = 1 ∧ RELn c i j p r s' M N := by
  rcases hQ with ⟨k', hk', hx', hv, hs⟩ | ⟨hb, -, hs⟩
  · exact absurd hx' (hx k' hk')
  · rw [hs]
    exact ⟨mi0_mu, h.mu 1⟩
theorem st_fine (h : RELn c i j p r s M N) {x : Int32} (hQ : (∃ k, k < (c 2) ∧ x = nI k ∧ v' = some (.long (2 * ml s 20 k)) ∧ s' = muI s 0 0) ∨ ((∀ k, k < (c 2) → x ≠ nI k) ∧ v' = some (.long 0) ∧ s' = muI s 0 1)) {k : Nat} (hk : k < c 2) (hx : x = nI k) : mi s' 0 = 0 ∧ v' = some (.long (2 * j 2 k)) ∧ RELn c i j p r s' M N := by
  have hb := h.b
  rcases hQ with ⟨k', hk', hx', hv, hs⟩ | ⟨hb, -, -⟩
  · have e : k' = k := nI_inj (by omega) (by omega) (hx'.symm.trans hx)
    subst e
    refine ⟨by rw [hs]; exact mi0_mu, hv.trans ?_, by rw [hs]; exact h.mu 0⟩
    obtain ⟨q, -⟩ := h.pm k' hk
    rw [q.2.2.2.2.2.2.2.2]
  · exact absurd hx (hb k hk)
theorem stx_fine (h : RELn c i j p r s M N) {x : Int32} (hQ : (∃ k, k < (c 2) ∧ x = nI k ∧ v' = some (.long (2 * ml s 20 k)) ∧ s' = muI s 0 0) ∨ ((∀ k, k < (c 2) → x ≠ nI k) ∧ v' = some (.long 0) ∧ s' = muI s 0 1)) (hx : ∀ k, k < c 2 → x ≠ nI k) : mi s' 0 = 1 ∧ RELn c i j p r s' M N := by
  rcases hQ with ⟨k', hk', hx', hv, hs⟩ | ⟨hb, -, hs⟩
  · exact absurd hx' (hx k' hk')
  · rw [hs]
    exact ⟨mi0_mu, h.mu 1⟩
theorem st_minutes (h : RELn c i j p r s M N) {x : Int32} (hQ : (∃ k, k < (c 0) ∧ x = nI k ∧ v' = some (.long (ml s 9 k)) ∧ s' = muI s 0 0) ∨ ((∀ k, k < (c 0) → x ≠ nI k) ∧ v' = some (.long 0) ∧ s' = muI s 0 1)) {k : Nat} (hk : k < c 0) (hx : x = nI k) : mi s' 0 = 0 ∧ v' = some (.long (j 0 k)) ∧ RELn c i j p r s' M N := by
  have hb := h.b
  rcases hQ with ⟨k', hk', hx', hv, hs⟩ | ⟨hb, -, -⟩
  · have e : k' = k := nI_inj (by omega) (by omega) (hx'.symm.trans hx)
    subst e
    refine ⟨by rw [hs]; exact mi0_mu, hv.trans ?_, by rw [hs]; exact h.mu 0⟩
    rw [(h.li k' hk).2.1]
  · exact absurd hx (hb k hk)
theorem stx_minutes (h : RELn c i j p r s M N) {x : Int32} (hQ : (∃ k, k < (c 0) ∧ x = nI k ∧ v' = some (.long (ml s 9 k)) ∧ s' = muI s 0 0) ∨ ((∀ k, k < (c 0) → x ≠ nI k) ∧ v' = some (.long 0) ∧ s' = muI s 0 1)) (hx : ∀ k, k < c 0 → x ≠ nI k) : mi s' 0 = 1 ∧ RELn c i j p r s' M N := by
  rcases hQ with ⟨k', hk', hx', hv, hs⟩ | ⟨hb, -, hs⟩
  · exact absurd hx' (hx k' hk')
  · rw [hs]
    exact ⟨mi0_mu, h.mu 1⟩
theorem st_points (h : RELn c i j p r s M N) {x : Int32} (hQ : (∃ k, k < 6 ∧ x = nI k ∧ v' = some (.int (mr s 25 k)) ∧ s' = muI s 0 0) ∨ ((∀ k, k < 6 → x ≠ nI k) ∧ v' = some (.int 0) ∧ s' = muI s 0 1)) {k : Nat} (hk : k < 6) (hx : x = nI k) : mi s' 0 = 0 ∧ v' = some (.int (r 3 k)) ∧ RELn c i j p r s' M N := by
  have hb := h.b
  rcases hQ with ⟨k', hk', hx', hv, hs⟩ | ⟨hb, -, -⟩
  · have e : k' = k := nI_inj (by omega) (by omega) (hx'.symm.trans hx)
    subst e
    refine ⟨by rw [hs]; exact mi0_mu, hv.trans ?_, by rw [hs]; exact h.mu 0⟩
    rw [h.pt k' hk]
  · exact absurd hx (hb k hk)
theorem stx_points (h : RELn c i j p r s M N) {x : Int32} (hQ : (∃ k, k < 6 ∧ x = nI k ∧ v' = some (.int (mr s 25 k)) ∧ s' = muI s 0 0) ∨ ((∀ k, k < 6 → x ≠ nI k) ∧ v' = some (.int 0) ∧ s' = muI s 0 1)) (hx : ∀ k, k < 6 → x ≠ nI k) : mi s' 0 = 1 ∧ RELn c i j p r s' M N := by
  rcases hQ with ⟨k', hk', hx', hv, hs⟩ | ⟨hb, -, hs⟩
  · exact absurd hx' (hx k' hk')
  · rw [hs]
    exact ⟨mi0_mu, h.mu 1⟩
theorem st_from (h : RELn c i j p r s M N) {x : Int32} (hQ : (∃ k, k < (c 2) ∧ x = nI k ∧ v' = some (.int (if mr s 17 k = 1 then mr s 13 k else mr s 22 (tn (mr s 19 k)))) ∧ s' = muI s 0 0) ∨ ((∀ k, k < (c 2) → x ≠ nI k) ∧ v' = some (.int 0) ∧ s' = muI s 0 1)) {k : Nat} (hk : k < c 2) (hx : x = nI k) : mi s' 0 = 0 ∧ v' = some (.int ((p 2 k).elim (i 8 k) (i 3))) ∧ RELn c i j p r s' M N := by
  have hb := h.b
  rcases hQ with ⟨k', hk', hx', hv, hs⟩ | ⟨hb, -, -⟩
  · have e : k' = k := nI_inj (by omega) (by omega) (hx'.symm.trans hx)
    subst e
    refine ⟨by rw [hs]; exact mi0_mu, hv.trans ?_, by rw [hs]; exact h.mu 0⟩
    obtain ⟨q, -, -, -, g, -⟩ := h.pm k' hk
    rcases g with ⟨g1, g2⟩ | ⟨g1, o, g2, g3, g4, g5⟩
    · rw [if_pos g1, g2, ← q.2.2.2.1]
      rfl
    · rw [if_neg g1, g3, g4, tn_nI (by omega), ← (h.op o g2).1]
      rfl
  · exact absurd hx (hb k hk)
theorem stx_from (h : RELn c i j p r s M N) {x : Int32} (hQ : (∃ k, k < (c 2) ∧ x = nI k ∧ v' = some (.int (if mr s 17 k = 1 then mr s 13 k else mr s 22 (tn (mr s 19 k)))) ∧ s' = muI s 0 0) ∨ ((∀ k, k < (c 2) → x ≠ nI k) ∧ v' = some (.int 0) ∧ s' = muI s 0 1)) (hx : ∀ k, k < c 2 → x ≠ nI k) : mi s' 0 = 1 ∧ RELn c i j p r s' M N := by
  rcases hQ with ⟨k', hk', hx', hv, hs⟩ | ⟨hb, -, hs⟩
  · exact absurd hx' (hx k' hk')
  · rw [hs]
    exact ⟨mi0_mu, h.mu 1⟩
theorem st_end (h : RELn c i j p r s M N) {x : Int32} (hQ : (∃ k, k < (c 2) ∧ x = nI k ∧ v' = some (.int (if mr s 17 k = 1 then mr s 14 k else mr s 23 (tn (mr s 19 k)))) ∧ s' = muI s 0 0) ∨ ((∀ k, k < (c 2) → x ≠ nI k) ∧ v' = some (.int 0) ∧ s' = muI s 0 1)) {k : Nat} (hk : k < c 2) (hx : x = nI k) : mi s' 0 = 0 ∧ v' = some (.int ((p 2 k).elim (i 9 k) (i 4))) ∧ RELn c i j p r s' M N := by
  have hb := h.b
  rcases hQ with ⟨k', hk', hx', hv, hs⟩ | ⟨hb, -, -⟩
  · have e : k' = k := nI_inj (by omega) (by omega) (hx'.symm.trans hx)
    subst e
    refine ⟨by rw [hs]; exact mi0_mu, hv.trans ?_, by rw [hs]; exact h.mu 0⟩
    obtain ⟨q, -, -, -, g, -⟩ := h.pm k' hk
    rcases g with ⟨g1, g2⟩ | ⟨g1, o, g2, g3, g4, g5⟩
    · rw [if_pos g1, g2, ← q.2.2.2.2.1]
      rfl
    · rw [if_neg g1, g3, g4, tn_nI (by omega), ← (h.op o g2).2.1]
      rfl
  · exact absurd hx (hb k hk)
theorem stx_end (h : RELn c i j p r s M N) {x : Int32} (hQ : (∃ k, k < (c 2) ∧ x = nI k ∧ v' = some (.int (if mr s 17 k = 1 then mr s 14 k else mr s 23 (tn (mr s 19 k)))) ∧ s' = muI s 0 0) ∨ ((∀ k, k < (c 2) → x ≠ nI k) ∧ v' = some (.int 0) ∧ s' = muI s 0 1)) (hx : ∀ k, k < c 2 → x ≠ nI k) : mi s' 0 = 1 ∧ RELn c i j p r s' M N := by
  rcases hQ with ⟨k', hk', hx', hv, hs⟩ | ⟨hb, -, hs⟩
  · exact absurd hx' (hx k' hk')
  · rw [hs]
    exact ⟨mi0_mu, h.mu 1⟩
theorem st_together (h : RELn c i j p r s M N) {x : Int32} (hQ : (∃ k, k < (c 2) ∧ x = nI k ∧ v' = some (.long (if mr s 17 k = 1 then 0 else mtg s (mr s 19 k) (c 2))) ∧ s' = muI s 0 0) ∨ ((∀ k, k < (c 2) → x ≠ nI k) ∧ v' = some (.long 0) ∧ s' = muI s 0 1)) {k : Nat} (hk : k < c 2) (hx : x = nI k) : mi s' 0 = 0 ∧ v' = some (.long ((p 2 k).elim 0 (j 1))) ∧ RELn c i j p r s' M N := by
  have hb := h.b
  rcases hQ with ⟨k', hk', hx', hv, hs⟩ | ⟨hb, -, -⟩
  · have e : k' = k := nI_inj (by omega) (by omega) (hx'.symm.trans hx)
    subst e
    refine ⟨by rw [hs]; exact mi0_mu, hv.trans ?_, by rw [hs]; exact h.mu 0⟩
    obtain ⟨q, -, -, -, g, -⟩ := h.pm k' hk
    rcases g with ⟨g1, g2⟩ | ⟨g1, o, g2, g3, g4, g5⟩
    · rw [if_pos g1, g2]
      rfl
    · rw [if_neg g1, g3, g4, ← (h.op o g2).2.2.1]
      rfl
  · exact absurd hx (hb k hk)
theorem stx_together (h : RELn c i j p r s M N) {x : Int32} (hQ : (∃ k, k < (c 2) ∧ x = nI k ∧ v' = some (.long (if mr s 17 k = 1 then 0 else mtg s (mr s 19 k) (c 2))) ∧ s' = muI s 0 0) ∨ ((∀ k, k < (c 2) → x ≠ nI k) ∧ v' = some (.long 0) ∧ s' = muI s 0 1)) (hx : ∀ k, k < c 2 → x ≠ nI k) : mi s' 0 = 1 ∧ RELn c i j p r s' M N := by
  rcases hQ with ⟨k', hk', hx', hv, hs⟩ | ⟨hb, -, hs⟩
  · exact absurd hx' (hx k' hk')
  · rw [hs]
    exact ⟨mi0_mu, h.mu 1⟩
theorem st_isClosed (h : RELn c i j p r s M N) {x : Int32} (hQ : (∃ k, k < M ∧ x = nI k ∧ v' = some (.int (bI (0 < opC s (c 2) (nI k)))) ∧ s' = muI s 0 0) ∨ ((∀ k, k < M → x ≠ nI k) ∧ v' = some (.int 0) ∧ s' = muI s 0 1)) {k : Nat} (hk : k < M) (hx : x = nI k) : mi s' 0 = 0 ∧ v' = some (.int (bI (¬ (clM (fun k => i 11 k) (fun k => i 7 k) none (c 2)) &&& ((1 : Int32) <<< (nI k &&& 31)) = 0))) ∧ RELn c i j p r s' M N := by
  have hb := h.b
  rcases hQ with ⟨k', hk', hx', hv, hs⟩ | ⟨hb, -, -⟩
  · have e : k' = k := nI_inj (by omega) (by omega) (hx'.symm.trans hx)
    subst e
    refine ⟨by rw [hs]; exact mi0_mu, hv.trans ?_, by rw [hs]; exact h.mu 0⟩
    congr 2
    apply bI_congr
    have hk2 : k' < 32 := by omega
    have e := opn_bt (cl := clM (fun k => i 11 k) (fun k => i 7 k) none (c 2)) hk2
    unfold opn at e
    rw [e, bt_iff (clM_bt hk2 (h.pm.lane hb.2.2.2.1)), opC_pos hb.2.1, Classical.not_not]
    constructor
    · rintro ⟨k, h1, h2, h3⟩
      obtain ⟨q, -⟩ := h.pm k h1
      exact ⟨k, h1, q.2.2.2.2.2.2.1.trans h2, by simp, q.2.2.1.trans h3⟩
    · rintro ⟨k, h1, h2, -, h3⟩
      obtain ⟨q, -⟩ := h.pm k h1
      exact ⟨k, h1, q.2.2.2.2.2.2.1.symm.trans h2, q.2.2.1.symm.trans h3⟩
  · exact absurd hx (hb k hk)
theorem stx_isClosed (h : RELn c i j p r s M N) {x : Int32} (hQ : (∃ k, k < M ∧ x = nI k ∧ v' = some (.int (bI (0 < opC s (c 2) (nI k)))) ∧ s' = muI s 0 0) ∨ ((∀ k, k < M → x ≠ nI k) ∧ v' = some (.int 0) ∧ s' = muI s 0 1)) (hx : ∀ k, k < M → x ≠ nI k) : mi s' 0 = 1 ∧ RELn c i j p r s' M N := by
  rcases hQ with ⟨k', hk', hx', hv, hs⟩ | ⟨hb, -, hs⟩
  · exact absurd hx' (hx k' hk')
  · rw [hs]
    exact ⟨mi0_mu, h.mu 1⟩
theorem fnJ_mfn (h : RPm c i j p s M N) {x : Int32} {n : Nat} (hn : n ≤ c 2) : fnJ i j x n = mfn s x n := by
  induction n with
  | zero => rfl
  | succ n ih =>
    obtain ⟨q, -⟩ := h n (by omega)
    have ih := ih (by omega)
    by_cases g : mr s 11 n = x
    · rw [mfn_t g, ← ih, ← q.2.2.2.2.2.2.2.2]
      exact if_pos (q.2.1.trans g)
    · rw [mfn_f g, ← ih, Int64.add_zero]
      exact if_neg (fun z => g (q.2.1.symm.trans z))
theorem st_fines (h : RELn c i j p r s M N) {x : Int32} (hQ : (∃ k, k < 6 ∧ x = nI k ∧ v' = some (.long (mfn s (nI k) (c 2))) ∧ s' = muI s 0 0) ∨ ((∀ k, k < 6 → x ≠ nI k) ∧ v' = some (.long 0) ∧ s' = muI s 0 1)) {k : Nat} (hk : k < 6) (hx : x = nI k) : mi s' 0 = 0 ∧ v' = some (.long (fnJ i j x (c 2))) ∧ RELn c i j p r s' M N := by
  have hb := h.b
  rcases hQ with ⟨k', hk', hx', hv, hs⟩ | ⟨hb, -, -⟩
  · have e : k' = k := nI_inj (by omega) (by omega) (hx'.symm.trans hx)
    subst e
    refine ⟨by rw [hs]; exact mi0_mu, hv.trans ?_, by rw [hs]; exact h.mu 0⟩
    subst hx
    rw [fnJ_mfn h.pm (Nat.le_refl _)]
  · exact absurd hx (hb k hk)
theorem stx_fines (h : RELn c i j p r s M N) {x : Int32} (hQ : (∃ k, k < 6 ∧ x = nI k ∧ v' = some (.long (mfn s (nI k) (c 2))) ∧ s' = muI s 0 0) ∨ ((∀ k, k < 6 → x ≠ nI k) ∧ v' = some (.long 0) ∧ s' = muI s 0 1)) (hx : ∀ k, k < 6 → x ≠ nI k) : mi s' 0 = 1 ∧ RELn c i j p r s' M N := by
  rcases hQ with ⟨k', hk', hx', hv, hs⟩ | ⟨hb, -, hs⟩
  · exact absurd hx' (hx k' hk')
  · rw [hs]
    exact ⟨mi0_mu, h.mu 1⟩
theorem mfN_nct {o : Int32} {np k : Nat} (hk : k ≤ np) : mfN s o np k + nct (in0 s o) (np - k) = nct (in0 s o) np := by
  induction k with
  | zero => show 0 + _ = _; rw [Nat.zero_add]; rfl
  | succ k ih =>
    have ih := ih (by omega)
    have e : np - k = (np - (k + 1)) + 1 := by omega
    rw [e] at ih
    by_cases g : in0 s o (np - (k + 1))
    · rw [mfN_t g]
      rw [nct_t g] at ih
      omega
    · rw [mfN_f g]
      rw [nct_f g] at ih
      exact ih
theorem mfL_low {o : Int32} {np k : Nat} (hk : k ≤ np) : (mfL s o np k = -1 ∧ ∀ b, np - k ≤ b → b < np → ¬ in0 s o b) ∨ ∃ b, b < np ∧ mfL s o np k = nI b ∧ in0 s o b ∧ ∀ b', np - k ≤ b' → b' < b → ¬ in0 s o b' := by
  induction k with
  | zero => exact Or.inl ⟨rfl, fun b h1 h2 => by omega⟩
  | succ k ih =>
    by_cases g : in0 s o (np - (k + 1))
    · exact Or.inr ⟨np - (k + 1), by omega, mfL_t g, g, fun b' h1 h2 => by omega⟩
    · rw [mfL_f g]
      rcases ih (by omega) with ⟨h1, h2⟩ | ⟨b, h1, h2, h3, h4⟩
      · refine Or.inl ⟨h1, fun b h3 h4 => ?_⟩
        by_cases e : b = np - (k + 1)
        · rw [e]; exact g
        · exact h2 b (by omega) h4
      · refine Or.inr ⟨b, h1, h2, h3, fun b' h5 h6 => ?_⟩
        by_cases e : b' = np - (k + 1)
        · rw [e]; exact g
        · exact h4 b' (by omega) h6
theorem bcJ_mtg {o : Int32} {np : Nat} (hp : np ≤ 40) : bcJ (mtg s o np) = nI (nct (in0 s o) np) := by
  rw [bcJ_ct, nct_ct]
  congr 1
  rw [show (64 : Nat) = np + (64 - np) by omega, nct_ext (n := np) (fun k hk h => ?_)]
  · exact nct_congr (fun k hk => by rw [mtg_bt (by omega) (by omega)]; exact ⟨fun g => g.2, fun g => ⟨hk, g⟩⟩)
  · by_cases h64 : k < 64
    · have := (mtg_bt (by omega) h64).mp h
      omega
    · have : bJ (mtg s o np) k = false := BitVec.getLsbD_of_ge _ _ (by omega)
      rw [this] at h
      exact absurd h (by decide)
theorem bt_iff' {x : Int64} {e : Nat} {P : Prop} (h : bJ x e = true ↔ P) : bJ x e = false ↔ ¬ P := by
  rw [← h]
  cases bJ x e <;> simp
theorem fee_eq (h : RELn c i j p r s M N) {k o : Nat} (hk : k < c 2) (hs : ¬ mr s 17 k = 1 ∧ ¬ mr s 17 k = 4) (ho : o < c 1) (h19 : mr s 19 k = nI o) : shI (j 1 o) (i 3 o) (i 4 o) (i 5 k) = mfee s (c 2) k := by
  have hb := h.b
  obtain ⟨g1, g2, g3, -⟩ := h.op o ho
  obtain ⟨q, -⟩ := h.pm k hk
  have hin : in0 s (nI o) k := ⟨hs, h19⟩
  have hpos : 0 < nct (in0 s (nI o)) (c 2) := nct_pos.mpr ⟨k, hk, hin⟩
  have hle := nct_le (in0 s (nI o)) (c 2)
  have eN : mfN s (nI o) (c 2) (c 2) = nct (in0 s (nI o)) (c 2) := by
    have := mfN_nct (s := s) (o := nI o) (Nat.le_refl (c 2))
    rw [Nat.sub_self] at this
    exact this
  have elow : (mtg s (nI o) (c 2) &&& (-mtg s (nI o) (c 2)) = (1 : Int64) <<< ((nI k).toInt64 &&& 63)) ↔ mfL s (nI o) (c 2) (c 2) = nI k := by
    rw [low_bit (by omega) ((mtg_bt (by omega) (by omega)).mpr ⟨hk, hin⟩)]
    rcases mfL_low (s := s) (o := nI o) (Nat.le_refl (c 2)) with ⟨-, e2⟩ | ⟨b, e1, e2, e3, e4⟩
    · exact absurd hin (e2 k (by omega) hk)
    · rw [e2]
      constructor
      · intro hl
        congr 1
        rcases Nat.lt_trichotomy b k with z | z | z
        · have z2 := (mtg_bt (s := s) (o := nI o) (n := c 2) (b := b) (by omega) (by omega)).mpr ⟨e1, e3⟩
          rw [hl b z] at z2
          exact absurd z2 (by decide)
        · exact z
        · exact absurd hin (e4 k (by omega) z)
      · intro hl
        have hbk : b = k := nI_inj (by omega) (by omega) hl
        subst hbk
        intro b' hb'
        exact (bt_iff' (mtg_bt (s := s) (o := nI o) (n := c 2) (b := b') (by omega) (by omega))).mpr (fun z => e4 b' (by omega) hb' z.2)
  unfold shI mfee
  rw [g1, g2, g3, q.1, h19, tn_nI (by omega), eN, bcJ_mtg hb.2.1, if_neg (nI_nz hpos (by omega))]
  by_cases z : mfL s (nI o) (c 2) (c 2) = nI k
  · rw [if_pos z, if_pos (elow.mpr z)]
  · rw [if_neg z, if_neg (fun y => z (elow.mp y))]
theorem st_fee (h : RELn c i j p r s M N) {x : Int32} (hQ : (∃ k, k < (c 2) ∧ x = nI k ∧ v' = some (.int (if ¬ mr s 17 k = 1 ∧ ¬ mr s 17 k = 4 then mfee s (c 2) k else 0)) ∧ s' = muI s 0 0) ∨ ((∀ k, k < (c 2) → x ≠ nI k) ∧ v' = some (.int 0) ∧ s' = muI s 0 1)) {k : Nat} (hk : k < c 2) (hx : x = nI k) : mi s' 0 = 0 ∧ v' = some (.int (match p 2 k with | none => 0 | some y => if i 11 k = 4 then 0 else shI (j 1 y) (i 3 y) (i 4 y) (i 5 k))) ∧ RELn c i j p r s' M N := by
  have hb := h.b
  rcases hQ with ⟨k', hk', hx', hv, hs⟩ | ⟨hb, -, -⟩
  · have e : k' = k := nI_inj (by omega) (by omega) (hx'.symm.trans hx)
    subst e
    refine ⟨by rw [hs]; exact mi0_mu, hv.trans ?_, by rw [hs]; exact h.mu 0⟩
    obtain ⟨q, -, -, -, g, -⟩ := h.pm k' hk
    rcases g with ⟨g1, g2⟩ | ⟨g1, o, g2, g3, g4, g5⟩
    · rw [g2, if_neg (fun z => z.1 g1)]
    · rw [g3]
      by_cases z : mr s 17 k' = 4
      · rw [if_neg (fun y => y.2 z)]
        show some (Value.int 0) = some (Value.int (if i 11 k' = 4 then 0 else _))
        rw [if_pos (q.2.2.2.2.2.2.1.trans z)]
      · rw [if_pos ⟨g1, z⟩]
        show _ = some (Value.int (if i 11 k' = 4 then 0 else _))
        rw [if_neg (fun y => z (q.2.2.2.2.2.2.1.symm.trans y)), fee_eq h hk ⟨g1, z⟩ g2 g4]
  · exact absurd hx (hb k hk)
theorem stx_fee (h : RELn c i j p r s M N) {x : Int32} (hQ : (∃ k, k < (c 2) ∧ x = nI k ∧ v' = some (.int (if ¬ mr s 17 k = 1 ∧ ¬ mr s 17 k = 4 then mfee s (c 2) k else 0)) ∧ s' = muI s 0 0) ∨ ((∀ k, k < (c 2) → x ≠ nI k) ∧ v' = some (.int 0) ∧ s' = muI s 0 1)) (hx : ∀ k, k < c 2 → x ≠ nI k) : mi s' 0 = 1 ∧ RELn c i j p r s' M N := by
  rcases hQ with ⟨k', hk', hx', hv, hs⟩ | ⟨hb, -, hs⟩
  · exact absurd hx' (hx k' hk')
  · rw [hs]
    exact ⟨mi0_mu, h.mu 1⟩
theorem st_detour (h : RELn c i j p r s M N) {x : Int32} (hQ : (∃ k, k < (c 0) ∧ x = nI k ∧ v' = some (.int (mdL s (mcl s (c 2) M) M k)) ∧ ∃ g, s' = mFar (muI s 0 0) g) ∨ ((∀ k, k < (c 0) → x ≠ nI k) ∧ v' = some (.int 0) ∧ s' = muI s 0 1)) {k : Nat} (hk : k < c 0) (hx : x = nI k) : mi s' 0 = 0 ∧ v' = some (.int (exL i r (clM (fun k => i 11 k) (fun k => i 7 k) none (c 2)) M k)) ∧ RELn c i j p r s' M N := by
  have hb := h.b
  rcases hQ with ⟨k', hk', hx', hv, g, hs⟩ | ⟨hb, -, -⟩
  · have e : k' = k := nI_inj (by omega) (by omega) (hx'.symm.trans hx)
    subst e
    refine ⟨by rw [hs]; exact mi0_mu (s := s) (v := 0), hv.trans ?_, by rw [hs]; exact (h.mu 0).far g⟩
    rw [exL_mdL h.ln (h.li k' hk) (cl_opn h.pm hb.2.2.2.1 hb.2.1)]
  · exact absurd hx (hb k hk)
theorem stx_detour (h : RELn c i j p r s M N) {x : Int32} (hQ : (∃ k, k < (c 0) ∧ x = nI k ∧ v' = some (.int (mdL s (mcl s (c 2) M) M k)) ∧ ∃ g, s' = mFar (muI s 0 0) g) ∨ ((∀ k, k < (c 0) → x ≠ nI k) ∧ v' = some (.int 0) ∧ s' = muI s 0 1)) (hx : ∀ k, k < c 0 → x ≠ nI k) : mi s' 0 = 1 ∧ RELn c i j p r s' M N := by
  rcases hQ with ⟨k', hk', hx', hv, g, hs⟩ | ⟨hb, -, hs⟩
  · exact absurd hx' (hx k' hk')
  · rw [hs]
    exact ⟨mi0_mu, h.mu 1⟩
theorem st_way (h : RELn c i j p r s M N) {x y : Int32} (hQ : (∃ a b, a < 10 ∧ b < 10 ∧ x = nI a ∧ y = nI b ∧ v' = some (.int (if mds s (mcl s (c 2) M) M a b = 1000000 then -1 else mds s (mcl s (c 2) M) M a b)) ∧ ∃ g, s' = mFar (muI s 0 0) g) ∨ (¬ (JN x ∧ JN y) ∧ v' = some (.int 0) ∧ s' = muI s 0 1)) {a b : Nat} (ha : a < 10) (hb : b < 10) (hx : x = nI a) (hy : y = nI b) : mi s' 0 = 0 ∧ v' = some (.int (wy (Ed (r 0) (r 1) (r 2) (clM (fun k => i 11 k) (fun k => i 7 k) none (c 2)) M) a b)) ∧ RELn c i j p r s' M N := by
  have hB := h.b
  rcases hQ with ⟨a', b', ha', hb', hx', hy', hv, g, hs⟩ | ⟨hn, -, -⟩
  · have e : a' = a := nI_inj (by omega) (by omega) (hx'.symm.trans hx)
    have e2 : b' = b := nI_inj (by omega) (by omega) (hy'.symm.trans hy)
    subst e
    subst e2
    refine ⟨by rw [hs]; exact mi0_mu (s := s) (v := 0), hv.trans ?_, by rw [hs]; exact (h.mu 0).far g⟩
    unfold mds wy
    rw [← Ed_eq h.ln (cl_opn h.pm hB.2.2.2.1 hB.2.1)]
    by_cases hd : dst (Ed (r 0) (r 1) (r 2) (clM (fun k => i 11 k) (fun k => i 7 k) none (c 2)) M) a' b' < FAR
    · rw [if_pos hd, if_neg (nI_far hd)]
    · rw [if_neg hd, Nat.le_antisymm (dst_le _ a' b') (Nat.not_lt.mp hd), if_pos FAR_nI]
  · exact absurd ⟨⟨a, ha, hx⟩, ⟨b, hb, hy⟩⟩ hn
theorem stx_way (h : RELn c i j p r s M N) {x y : Int32} (hQ : (∃ a b, a < 10 ∧ b < 10 ∧ x = nI a ∧ y = nI b ∧ v' = some (.int (if mds s (mcl s (c 2) M) M a b = 1000000 then -1 else mds s (mcl s (c 2) M) M a b)) ∧ ∃ g, s' = mFar (muI s 0 0) g) ∨ (¬ (JN x ∧ JN y) ∧ v' = some (.int 0) ∧ s' = muI s 0 1)) (hx : ¬ (JN x ∧ JN y)) : mi s' 0 = 1 ∧ RELn c i j p r s' M N := by
  rcases hQ with ⟨a', b', ha', hb', hx', hy', hv, g, hs⟩ | ⟨hb, -, hs⟩
  · exact absurd ⟨⟨a', ha', hx'⟩, ⟨b', hb', hy'⟩⟩ hx
  · rw [hs]
    exact ⟨mi0_mu, h.mu 1⟩
theorem op_there (h : RELn c i j p r s M N) {o : Nat} (ho : o < c 1) : ¬ j 1 o = 0 ↔ ∃ b, b < c 2 ∧ in0 s (nI o) b := by
  rw [(h.op o ho).2.2.1, mtg_ne (by have := h.b; omega)]
theorem op_lane (h : RELn c i j p r s M N) {o b : Nat} (ho : o < c 1) (hb : b < c 2) (hi : in0 s (nI o) b) : i 2 o = mr s 12 b := by
  have hB := h.b
  obtain ⟨-, -, -, -, g, -⟩ := h.pm b hb
  rcases g with ⟨g1, -⟩ | ⟨-, o', g2, -, g4, g5⟩
  · exact absurd g1 hi.1.1
  · have : o' = o := nI_inj (by omega) (by omega) (g4.symm.trans hi.2)
    subst this
    exact g5
theorem op_cnt (h : RELn c i j p r s M N) {ln se : Int32} {n : Nat} (hn : n ≤ c 1) : cntI (fun y => (none : Option Nat) ≠ some y ∧ i 2 y = ln ∧ ¬ j 1 y = 0 ∧ i 3 y / 500 = se) n = mcO s (c 2) ln se n := by
  induction n with
  | zero => rfl
  | succ n ih =>
    have ih := ih (by omega)
    have e : ((none : Option Nat) ≠ some n ∧ i 2 n = ln ∧ ¬ j 1 n = 0 ∧ i 3 n / 500 = se) ↔ mopP s (c 2) ln se n := by
      rw [op_there h (by omega), (h.op n (by omega)).1]
      constructor
      · rintro ⟨-, h1, ⟨b, h2, h3⟩, h4⟩
        exact ⟨⟨b, h2, h3, (op_lane h (by omega) h2 h3).symm.trans h1⟩, h4⟩
      · rintro ⟨⟨b, h2, h3, h5⟩, h4⟩
        exact ⟨by simp, (op_lane h (by omega) h2 h3).trans h5, ⟨b, h2, h3⟩, h4⟩
    by_cases g : mopP s (c 2) ln se n
    · rw [mcO_t g, cntI_t (e.mpr g), ih]
    · rw [mcO_f g, cntI_f (fun z => g (e.mp z)), ih, Int32.add_zero]
theorem in10 {x : Int32} : (0 ≤ x ∧ x ≤ 10) ↔ (¬ x < 0 ∧ ¬ 10 < x) := ⟨fun h => ⟨Int32.not_lt.mpr h.1, Int32.not_lt.mpr h.2⟩, fun h => ⟨Int32.not_lt.mp h.1, Int32.not_lt.mp h.2⟩⟩
theorem st_openings (h : RELn c i j p r s M N) {x se : Int32} (hQ : (∃ k, k < M ∧ x = nI k ∧ (0 ≤ se ∧ se ≤ 10) ∧ v' = some (.int (mcO s (c 2) (nI k) se (c 1))) ∧ s' = muI s 0 0) ∨ ((∀ k, k < M → x ≠ nI k) ∧ v' = some (.int 0) ∧ s' = muI s 0 1) ∨ (∃ k, k < M ∧ x = nI k ∧ ¬ (0 ≤ se ∧ se ≤ 10) ∧ v' = some (.int 0) ∧ s' = muI s 0 2)) {k : Nat} (hk : k < M) (hx : x = nI k) (h0 : ¬ se < 0) (h1 : ¬ 10 < se) : mi s' 0 = 0 ∧ v' = some (.int (cntI (fun y => (none : Option Nat) ≠ some y ∧ i 2 y = nI k ∧ ¬ j 1 y = 0 ∧ i 3 y / 500 = se) (c 1))) ∧ RELn c i j p r s' M N := by
  have hb := h.b
  rcases hQ with ⟨k', hk', hx', -, hv, hs⟩ | ⟨hb, -, -⟩ | ⟨k', hk', hx', hn, -⟩
  · have e : k' = k := nI_inj (by omega) (by omega) (hx'.symm.trans hx)
    subst e
    refine ⟨by rw [hs]; exact mi0_mu, hv.trans ?_, by rw [hs]; exact h.mu 0⟩
    rw [op_cnt h (Nat.le_refl _)]
  · exact absurd hx (hb k hk)
  · exact absurd (in10.mpr ⟨h0, h1⟩) hn
theorem stx_openings (h : RELn c i j p r s M N) {x se : Int32} (hQ : (∃ k, k < M ∧ x = nI k ∧ (0 ≤ se ∧ se ≤ 10) ∧ v' = some (.int (mcO s (c 2) (nI k) se (c 1))) ∧ s' = muI s 0 0) ∨ ((∀ k, k < M → x ≠ nI k) ∧ v' = some (.int 0) ∧ s' = muI s 0 1) ∨ (∃ k, k < M ∧ x = nI k ∧ ¬ (0 ≤ se ∧ se ≤ 10) ∧ v' = some (.int 0) ∧ s' = muI s 0 2)) (hx : ∀ k, k < M → x ≠ nI k) : mi s' 0 = 1 ∧ RELn c i j p r s' M N := by
  rcases hQ with ⟨k', hk', hx', -, hv, hs⟩ | ⟨hb, -, hs⟩ | ⟨k', hk', hx', hn, -⟩
  · exact absurd hx' (hx k' hk')
  · rw [hs]; exact ⟨mi0_mu, h.mu 1⟩
  · exact absurd hx' (hx k' hk')
theorem sty_openings (h : RELn c i j p r s M N) {x se : Int32} (hQ : (∃ k, k < M ∧ x = nI k ∧ (0 ≤ se ∧ se ≤ 10) ∧ v' = some (.int (mcO s (c 2) (nI k) se (c 1))) ∧ s' = muI s 0 0) ∨ ((∀ k, k < M → x ≠ nI k) ∧ v' = some (.int 0) ∧ s' = muI s 0 1) ∨ (∃ k, k < M ∧ x = nI k ∧ ¬ (0 ≤ se ∧ se ≤ 10) ∧ v' = some (.int 0) ∧ s' = muI s 0 2)) {k : Nat} (hk : k < M) (hx : x = nI k) (h01 : se < 0 ∨ 10 < se) : mi s' 0 = 2 ∧ RELn c i j p r s' M N := by
  rcases hQ with ⟨k', hk', hx', hi, hv, hs⟩ | ⟨hb, -, hs⟩ | ⟨k', hk', hx', hn, -, hs⟩
  · have := in10.mp hi
    exact absurd h01 (fun z => z.elim this.1 this.2)
  · exact absurd hx (hb k hk)
  · rw [hs]; exact ⟨mi0_mu, h.mu 2⟩
end ST
