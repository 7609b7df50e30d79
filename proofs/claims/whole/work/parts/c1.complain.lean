section ST
variable {c : Nat → Nat} {i i' : Nat → Nat → Int32} {j : Nat → Nat → Int64} {p : Nat → Nat → Option Nat} {r r' r2 : Nat → Nat → Int32} {s s' : mS} {M N : Nat} {v' : Option Value}
theorem RELn.pts (h : RELn c i j p r s M N) (hi : ∀ f, f ≠ 0 → mi s' f = mi s f) (hr : ∀ f, f ≤ 24 → mr s' f = mr s f) (hl : ∀ f, ml s' f = ml s f) (hq : ∀ k, k ≠ 3 → r2 k = r k) (hp : ∀ a, a < 6 → r2 3 a = mr s' 25 a) : RELn c i j p r2 s' M N := by
  have hx : RELn c i j p r (mrA s' 25 (mr s 25)) M N := h.same hi (fun f hf => by
    by_cases e : f = 25
    · rw [e]; exact mrA_self
    · exact (va_up_ne _ _ e).trans (hr f (by omega))) (hl 9) (hl 20)
  obtain ⟨a1, a2, a3, a4, a5, a6, a7, a8⟩ := hx
  have e : ∀ f, f ≠ 25 → mr (mrA s' 25 (mr s 25)) f = mr s' f := fun f hf => va_up_ne _ _ hf
  refine ⟨a1, ?_, ?_, ?_, ?_, hp, ?_, ?_⟩
  · unfold RLn at *
    rw [hq 0 (by decide), hq 1 (by decide), hq 2 (by decide)]
    exact a2
  · intro l hl
    have := a3 l hl
    unfold RL1 at *
    rw [hq 0 (by decide), hq 1 (by decide), hq 2 (by decide), hq (24 + l) (by omega)]
    exact this
  · exact a4
  · have hm : ∀ o, mtg s' o (c 2) = mtg (mrA s' 25 (mr s 25)) o (c 2) := fun o => mtg_congr (by have := a1.2.2.2.2.2.2.1; omega) (fun b _ => by unfold in0; rw [e 17 (by decide), e 19 (by decide)])
    intro o ho
    rw [hm]
    exact a5 o ho
  · intro l hl
    rw [SHR_congr (i := i) (r := r) (M := M) (n2 := c 2) (fun x hx => by rw [exL_same rfl (hq 0 (by decide)) (hq 1 (by decide)) (hq 2 (by decide)) (hq (24 + l) (by omega))])]
    exact a7 l hl
  · have hw : ∀ w, w < 2 → WC w i r M → WC w i r2 M := by
      intro w hw hW
      unfold WC at *
      rw [hq 0 (by decide), hq 1 (by decide), hq 2 (by decide)]
      rcases hW with z | ⟨m, z1, z2, z3⟩
      · exact Or.inl z
      · refine Or.inr ⟨m, z1, z2, ?_⟩
        intro a b ha hb
        rw [hq _ (by omega)]
        exact z3 a b ha hb
    exact ⟨hw 0 (by decide) a8.1, hw 1 (by decide) a8.2⟩
theorem pos_sub {x y : Int32} (hx : sml 6000006 x) (hy : sml 6000006 y) : 0 < x - y ↔ y < x := by
  unfold sml at *
  rw [Int32.lt_iff_toInt_lt, Int32.lt_iff_toInt_lt, I_sub (by omega) (by omega) (by omega) (by omega), show (0 : Int32).toInt = 0 from rfl]
  omega
/-- the applicant a is to blame -/
def GB (s : mS) (c : Nat → Nat) (M k a : Nat) : Prop := ∃ q, q < c 2 ∧ tn (mr s 11 q) = a ∧ 0 < mcL s (c 2) (mcl s (c 2) M) M k q
theorem bl_bt (h : RELn c i j p r s M N) {k : Nat} (hk : k < c 0) {a : Nat} (ha : a < 32) : bt (blM i r M k (c 2) (c 2)) a = true ↔ GB s c M k a := by
  have hB := h.b
  obtain ⟨-, -, n', hn', q0, -⟩ := h.li k hk
  unfold blM GB
  rw [orM_bt ha (fun q hq => by obtain ⟨x, h1, h2⟩ := h.pm.cap q hq; exact ⟨x, by omega, h2⟩)]
  constructor
  · rintro ⟨q, g1, ⟨g2, g3⟩, g4⟩
    obtain ⟨z, ⟨x, h1, h2⟩, -⟩ := h.pm q g1
    refine ⟨q, g1, ?_, ?_⟩
    · rw [← z.2.1, g4, tn_nI (by omega)]
    · rw [cost_eq h.ln h.pm hB.2.2.2.1 hB.2.1 (h.li k hk) g1 g2, pos_sub (sml_exL q0 hn') (sml_exL q0 hn')]
      exact g3
  · rintro ⟨q, g1, g2, g3⟩
    obtain ⟨z, ⟨x, h1, h2⟩, -⟩ := h.pm q g1
    have hs2 : i 11 q = 2 := by
      apply Classical.byContradiction
      intro y
      unfold mcL at g3
      rw [if_neg (fun w => y (z.2.2.2.2.2.2.1.trans w.1))] at g3
      exact absurd g3 (by decide)
    rw [cost_eq h.ln h.pm hB.2.2.2.1 hB.2.1 (h.li k hk) g1 hs2, pos_sub (sml_exL q0 hn') (sml_exL q0 hn')] at g3
    refine ⟨q, g1, ⟨hs2, g3⟩, ?_⟩
    rw [h2, tn_nI (by omega)] at g2
    rw [z.2.1, h2, g2]
theorem bd64 : ∀ m, m < 64 → bdI (nI m) = nI (fb_ct (fun k => m.testBit k) 6) := by decide +kernel
theorem pt64 : ∀ m, m < 64 → ∀ a, a < 6 → ((nI m >>> (nI a &&& 31)) &&& 1) = (if m.testBit a = true then 1 else 0) := by decide +kernel
theorem bt_nI {m a : Nat} (ha : a < 32) : bt (nI m) a = m.testBit a := by
  show (BitVec.ofNat 32 m).getLsbD a = _
  rw [BitVec.getLsbD_ofNat]
  simp [ha]
theorem bl_m (h : RELn c i j p r s M N) {k : Nat} (hk : k < c 0) : ∃ m, m < 64 ∧ (blM i r M k (c 2) (c 2)) = nI m ∧ ∀ a, a < 6 → (m.testBit a = true ↔ GB s c M k a) := by
  obtain ⟨m, hm, e⟩ := wb_of32 (blM i r M k (c 2) (c 2))
  have hb : ∀ a, a < 32 → (m.testBit a = true ↔ GB s c M k a) := fun a ha => by rw [← bl_bt h hk ha, e, bt_nI ha]
  refine ⟨m, ?_, e, fun a ha => hb a (by omega)⟩
  apply Nat.lt_pow_two_of_testBit (n := 6)
  intro a ha
  by_cases h32 : a < 32
  · cases hc : m.testBit a with
    | false => rfl
    | true =>
      obtain ⟨q, g1, g2, -⟩ := (hb a h32).mp hc
      have := (h.pm.hap q g1).2
      omega
  · exact Nat.testBit_lt_two_pow (Nat.lt_of_lt_of_le hm (Nat.pow_le_pow_right (by decide) (by omega)))
theorem gt_eq {k a : Nat} {g : Nat → Int32} (ha : a < 6) : g01 (mr (mFar (mG1 (muI s 0 0) (c 2) (mcl s (c 2) M) M k (c 2)) g) 29 a) = cIf (GB s c M k a) 1 0 := by
  rw [mG1_at]
  unfold mGt g01
  rw [if_pos ha]
  by_cases z : GB s c M k a
  · rw [cIf_t z, cIf_t (show ∃ p, p < c 2 ∧ tn (mr (muI s 0 0) 11 p) = a ∧ 0 < mcL (muI s 0 0) (c 2) (mcl s (c 2) M) M k p from z), if_neg (by decide)]
  · rw [cIf_f z, cIf_f (show ¬ ∃ p, p < c 2 ∧ tn (mr (muI s 0 0) 11 p) = a ∧ 0 < mcL (muI s 0 0) (c 2) (mcl s (c 2) M) M k p from z), if_pos rfl]
theorem st_complain (h : RELn c i j p r s M N) {x : Int32} (hQ : (∃ k, k < (c 0) ∧ x = nI k ∧ ∃ g, v' = some (.int (mGc (mFar (mG1 (muI s 0 0) (c 2) (mcl s (c 2) M) M k (c 2)) g) 6)) ∧ s' = mG2 (mFar (mG1 (muI s 0 0) (c 2) (mcl s (c 2) M) M k (c 2)) g) 6) ∨ ((∀ k, k < (c 0) → x ≠ nI k) ∧ v' = some (.int 0) ∧ s' = muI s 0 1)) {k : Nat} (hk : k < c 0) (hx : x = nI k) (hS : SC i r i' r') (hV : WV i' r' M) : mi s' 0 = 0 ∧ v' = some (.int (bdI (blM i r M k (c 2) (c 2)))) ∧ RELn c i' j p (ptR r' (blM i r M k (c 2) (c 2)) 6) s' M N := by
  have hB := h.b
  rcases hQ with ⟨k', g1, g2, g, hv, hs⟩ | ⟨hn, -⟩
  · have e : k' = k := nI_inj (by omega) (by omega) (g2.symm.trans hx)
    subst e
    obtain ⟨m, hm, em, hbit⟩ := bl_m h hk
    have hgt : ∀ a, a < 6 → g01 (mr (mFar (mG1 (muI s 0 0) (c 2) (mcl s (c 2) M) M k' (c 2)) g) 29 a) = cIf (GB s c M k' a) 1 0 := fun a ha => gt_eq ha
    have hgc : ∀ n, n ≤ 6 → mGc (mFar (mG1 (muI s 0 0) (c 2) (mcl s (c 2) M) M k' (c 2)) g) n = nI (nct (GB s c M k') n) := by
      intro n
      induction n with
      | zero => intro _; rfl
      | succ n ih =>
        intro hn
        show mGc _ n + g01 _ = _
        rw [ih (by omega), hgt n (by omega)]
        by_cases z : GB s c M k' n
        · rw [cIf_t z, nct_t z, nI_1]
        · rw [cIf_f z, nct_f z, Int32.add_zero]
    refine ⟨by rw [hs]; rfl, ?_, ?_⟩
    · rw [hv, hgc 6 (by decide), em, bd64 m hm, nct_ct, nct_congr (fun a ha => hbit a ha)]
    · refine (h.sc hS hV).pts (fun f hf => by rw [hs]; exact va_up_ne _ _ hf) (fun f hf => ?_) (fun f => by rw [hs]; rfl) (fun q hq => ?_) (fun a ha => ?_)
      · rw [hs]
        show va_up (va_up (va_up s.2.1 29 (mGt (muI s 0 0) (c 2) (mcl s (c 2) M) M k' (c 2))) 26 g) 25 (blw (fun a => mr (mFar (mG1 (muI s 0 0) (c 2) (mcl s (c 2) M) M k' (c 2)) g) 25 a + g01 (mr (mFar (mG1 (muI s 0 0) (c 2) (mcl s (c 2) M) M k' (c 2)) g) 29 a)) (mr (mFar (mG1 (muI s 0 0) (c 2) (mcl s (c 2) M) M k' (c 2)) g) 25) 6) f = s.2.1 f
        rw [va_up_ne _ _ (by omega), va_up_ne _ _ (by omega), va_up_ne _ _ (by omega)]
      · funext a
        exact if_neg (fun z => hq z.1)
      · rw [hs]
        unfold mG2
        rw [mrA_self, blw_in ha, hgt a ha, show ptR r' (blM i r M k' (c 2) (c 2)) 6 3 a = r' 3 a + ((((blM i r M k' (c 2) (c 2))) >>> (nI a &&& 31)) &&& 1) from if_pos ⟨rfl, ha⟩, em, pt64 m hm a ha, (h.sc hS hV).pt a ha]
        have e25 : mr (mFar (mG1 (muI s 0 0) (c 2) (mcl s (c 2) M) M k' (c 2)) g) 25 a = mr s 25 a := rfl
        rw [e25]
        by_cases z : GB s c M k' a
        · rw [cIf_t z, if_pos ((hbit a ha).mpr z)]
        · rw [cIf_f z, if_neg (fun w => z ((hbit a ha).mp w))]
  · exact absurd hx (hn k hk)
theorem stx_complain (h : RELn c i j p r s M N) {x : Int32} (hQ : (∃ k, k < (c 0) ∧ x = nI k ∧ ∃ g, v' = some (.int (mGc (mFar (mG1 (muI s 0 0) (c 2) (mcl s (c 2) M) M k (c 2)) g) 6)) ∧ s' = mG2 (mFar (mG1 (muI s 0 0) (c 2) (mcl s (c 2) M) M k (c 2)) g) 6) ∨ ((∀ k, k < (c 0) → x ≠ nI k) ∧ v' = some (.int 0) ∧ s' = muI s 0 1)) (hx : ∀ k, k < c 0 → x ≠ nI k) : mi s' 0 = 1 ∧ RELn c i j p r s' M N := by
  rcases hQ with ⟨k', g1, g2, -⟩ | ⟨-, -, hs⟩
  · exact absurd g2 (hx k' g1)
  · rw [hs]; exact ⟨mi0_mu, h.mu 1⟩
end ST
