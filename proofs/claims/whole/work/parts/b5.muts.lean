section ST
variable {c : Nat → Nat} {i i' : Nat → Nat → Int32} {j j' : Nat → Nat → Int64} {p : Nat → Nat → Option Nat} {r : Nat → Nat → Int32} {s s' : mS} {M N : Nat} {v' : Option Value}
theorem orM_congr {P Q : Nat → Prop} [DecidablePred P] [DecidablePred Q] {ln : Nat → Int32} {n : Nat} (h : ∀ k, k < n → (P k ↔ Q k)) : orM P ln n = orM Q ln n := by
  induction n with
  | zero => rfl
  | succ n ih =>
    have ih := ih (fun k hk => h k (by omega))
    by_cases g : P n
    · rw [orM_t g, orM_t ((h n (by omega)).mp g), ih]
    · rw [orM_f g, orM_f (fun z => g ((h n (by omega)).mpr z)), ih]
theorem SHR_congr {r' : Nat → Nat → Int32} {M' l n2 n2' : Nat} {H : Nat} (h : ∀ x, x < H → exL i' r' (cdM i' (nI x) n2') M' l = exL i r (cdM i (nI x) n2) M l) : SHR i' r' M' l n2' H = SHR i r M l n2 H := by
  induction H with
  | zero => rfl
  | succ H ih =>
    show SHR i' r' M' l n2' H + (exL i' r' (cdM i' (nI H) n2') M' l).toInt64 = SHR i r M l n2 H + (exL i r (cdM i (nI H) n2) M l).toInt64
    rw [ih (fun x hx => h x (by omega)), h H (by omega)]
/-- the state of permits changes -/
theorem RELn.perm (h : RELn c i j p r s M N) (hi : ∀ f, f ≠ 11 → f ≠ 13 → f ≠ 14 → i' f = i f) (hj : ∀ f, f ≠ 1 → j' f = j f) (hmi : ∀ f, f ≠ 0 → mi s' f = mi s f) (hmr : ∀ f, f ≠ 17 → f ≤ 25 → mr s' f = mr s f) (hml : ∀ f, ml s' f = ml s f)
    (h11 : ∀ k, k < c 2 → i' 11 k = mr s' 17 k) (hst : ∀ k, k < c 2 → (mr s' 17 k = 1 ↔ mr s 17 k = 1)) (hRB : ∀ k, k < c 2 → RB (i' 13 k) (i' 14 k) (mr s' 17 k) N) (hmem : ∀ o, o < c 1 → j' 1 o = mtg s' (nI o) (c 2)) (hcd : ∀ x, x < N → cdM i' (nI x) (c 2) = cdM i (nI x) (c 2)) : RELn c i' j' p r s' M N := by
  obtain ⟨a1, a2, a3, a4, a5, a6, a7, a8⟩ := h
  refine ⟨?_, ?_, ?_, ?_, ?_, ?_, ?_, ?_⟩
  · unfold RN at *
    rw [hi 15 (by decide) (by decide) (by decide), hi 18 (by decide) (by decide) (by decide), hmi 5 (by decide), hmi 10 (by decide), hmi 21 (by decide), hmi 24 (by decide), hmi 1 (by decide), hml, hml]
    exact a1
  · unfold RLn at *
    rw [hmr 2 (by decide) (by decide), hmr 3 (by decide) (by decide), hmr 4 (by decide) (by decide)]
    exact a2
  · unfold RLi RL1 at *
    rw [hi 1 (by decide) (by decide) (by decide), hi 0 (by decide) (by decide) (by decide), hj 0 (by decide), hmr 6 (by decide) (by decide), hmr 8 (by decide) (by decide), hmr 7 (by decide) (by decide), hml]
    exact a3
  · intro k hk
    obtain ⟨q, q1, q2, q3, q4, -⟩ := a4 k hk
    refine ⟨⟨?_, ?_, ?_, ?_, ?_, ?_, h11 k hk, ?_, ?_⟩, ?_, ?_, ?_, ?_, hRB k hk⟩
    · rw [hi 5 (by decide) (by decide) (by decide)]; exact q.1
    · rw [hi 6 (by decide) (by decide) (by decide), hmr 11 (by decide) (by decide)]; exact q.2.1
    · rw [hi 7 (by decide) (by decide) (by decide), hmr 12 (by decide) (by decide)]; exact q.2.2.1
    · rw [hi 8 (by decide) (by decide) (by decide), hmr 13 (by decide) (by decide)]; exact q.2.2.2.1
    · rw [hi 9 (by decide) (by decide) (by decide), hmr 14 (by decide) (by decide)]; exact q.2.2.2.2.1
    · rw [hi 10 (by decide) (by decide) (by decide), hmr 16 (by decide) (by decide)]; exact q.2.2.2.2.2.1
    · rw [hi 12 (by decide) (by decide) (by decide), hmr 18 (by decide) (by decide)]; exact q.2.2.2.2.2.2.2.1
    · rw [hj 2 (by decide), hml]; exact q.2.2.2.2.2.2.2.2
    · rw [hmr 11 (by decide) (by decide)]; exact q1
    · rw [hmr 12 (by decide) (by decide)]; exact q2
    · rw [hmr 15 (by decide) (by decide)]; exact q3
    · rw [hmr 19 (by decide) (by decide), hmr 12 (by decide) (by decide), hi 2 (by decide) (by decide) (by decide)]
      rcases q4 with z | z
      · exact Or.inl ⟨(hst k hk).mpr z.1, z.2⟩
      · exact Or.inr ⟨fun y => z.1 ((hst k hk).mp y), z.2⟩
  · intro o ho
    obtain ⟨b1, b2, -, b4⟩ := a5 o ho
    rw [hi 3 (by decide) (by decide) (by decide), hi 4 (by decide) (by decide) (by decide), hmr 22 (by decide) (by decide), hmr 23 (by decide) (by decide)]
    exact ⟨b1, b2, hmem o ho, b4⟩
  · unfold RPt at *
    rw [hmr 25 (by decide) (by decide)]
    exact a6
  · intro l hl
    rw [hj 0 (by decide), hi 1 (by decide) (by decide) (by decide), SHR_congr (i := i) (r := r) (M := M) (n2 := c 2) (fun x hx => ?_)]
    · exact a7 l hl
    · rw [hcd x hx]
      unfold exL
      rw [hi 0 (by decide) (by decide) (by decide)]
  · unfold WV WC at *
    rw [hi 16 (by decide) (by decide) (by decide), hi 17 (by decide) (by decide) (by decide)]
    exact a8
theorem can_eq (h : RELn c i j p r s M N) {k : Nat} (hk : k < c 2) : (i 11 k = 0 ∧ ∀ z, p 1 k = some z → i 11 z = 3) ↔ (mr s 17 k = 0 ∧ (mr s 15 k = -1 ∨ mr s 17 (tn (mr s 15 k)) = 3)) := by
  have hb := h.b
  obtain ⟨q, -, -, g, -⟩ := h.pm k hk
  rw [q.2.2.2.2.2.2.1]
  apply and_congr Iff.rfl
  rcases g with ⟨g1, g2⟩ | ⟨z, g1, g2, g3⟩
  · rw [g1]
    exact ⟨fun _ => Or.inl g2, fun _ z hz => by cases hz⟩
  · obtain ⟨q', -⟩ := h.pm z (by omega)
    rw [g2, g3, tn_nI (by omega), ← q'.2.2.2.2.2.2.1]
    constructor
    · intro y; exact Or.inr (y z rfl)
    · rintro (y | y)
      · exact absurd y.symm (nI_nm1 (by omega))
      · intro z' hz'; cases hz'; exact y
theorem mem_same {st : Int32} (h : RELn c i j p r s M N) {k : Nat} {v : Int32} (h0 : ¬ mr s 17 k = 1 ∧ ¬ mr s 17 k = 4) (h1 : ¬ st = 1 ∧ ¬ st = 4) : ∀ o, o < c 1 → j 1 o = mtg (muR (muI s 0 v) 17 k st) (nI o) (c 2) := by
  intro o ho
  rw [(h.op o ho).2.2.1]
  apply mtg_congr (by have := h.b; omega)
  intro b _
  have e19 : mr (muR (muI s 0 v) 17 k st) 19 b = mr s 19 b := rfl
  have e17 : mr (muR (muI s 0 v) 17 k st) 17 b = upd (mr s 17) k st b := by
    show va_up s.2.1 17 (upd (s.2.1 17) k st) 17 b = _
    rw [va_up_self]
  unfold in0
  rw [e19, e17]
  by_cases q : b = k
  · subst q
    rw [upd_at']
    exact ⟨fun z => ⟨h1, z.2⟩, fun z => ⟨h0, z.2⟩⟩
  · rw [upd_ne' q]
theorem mr17 {k : Nat} {v st : Int32} : mr (muR (muI s 0 v) 17 k st) 17 = upd (mr s 17) k st := by
  show va_up s.2.1 17 (upd (s.2.1 17) k st) 17 = _
  rw [va_up_self]
theorem mrS {k f : Nat} {v st : Int32} (h : f ≠ 17) : mr (muR (muI s 0 v) 17 k st) f = mr s f := va_up_ne _ _ h
theorem miS {k f : Nat} {v st : Int32} (h : f ≠ 0) : mi (muR (muI s 0 v) 17 k st) f = mi s f := va_up_ne _ _ h
theorem nI_le' {a b : Nat} (ha : a < 2 ^ 31) (hb : b < 2 ^ 31) : nI a ≤ nI b ↔ a ≤ b := nI_leI ha hb

theorem st_begin (h : RELn c i j p r s M N) {x : Int32} (hQ : (∃ k, k < (c 2) ∧ x = nI k ∧ (mr s 17 k = 0 ∧ (mr s 15 k = -1 ∨ mr s 17 (tn (mr s 15 k)) = 3)) ∧ v' = some (.int (mr s 22 (tn (mr s 19 k)) - mi s 1)) ∧ s' = muR (muI s 0 0) 17 k 2) ∨ (∃ k, k < (c 2) ∧ x = nI k ∧ ¬ (mr s 17 k = 0 ∧ (mr s 15 k = -1 ∨ mr s 17 (tn (mr s 15 k)) = 3)) ∧ v' = some (.int 0) ∧ s' = muI s 0 2) ∨ ((∀ k, k < (c 2) → x ≠ nI k) ∧ v' = some (.int 0) ∧ s' = muI s 0 1)) {k : Nat} (hk : k < c 2) (hx : x = nI k) (hc : i 11 k = 0 ∧ ∀ z, p 1 k = some z → i 11 z = 3) : mi s' 0 = 0 ∧ v' = some (.int ((p 2 k).elim (i 8 k) (i 3) - i 18 0)) ∧ RELn c (up2 (up2 i 11 k 2) 13 k (i 18 0)) j p r s' M N := by
  have hb := h.b
  have hcm := (can_eq h hk).mp hc
  rcases hQ with ⟨k', hk', hx', hn, hv, hs⟩ | ⟨k', hk', hx', hn, -⟩ | ⟨hn, -⟩
  · have e : k' = k := nI_inj (by omega) (by omega) (hx'.symm.trans hx)
    subst e
    obtain ⟨q, -, -, -, g, gB⟩ := h.pm k' hk
    have hN := h.1.2.2.2.2.2.2.2.2.2.2.1
    have hN' := h.1.2.2.2.2.2.2.2.2.2.2.2.1
    rw [hs]
    refine ⟨mi0_mu (s := s) (v := 0), hv.trans ?_, ?_⟩
    · rcases g with ⟨g1, g2⟩ | ⟨g1, o, g2, g3, g4, g5⟩
      · rw [hn.1] at g1; exact absurd g1 (by decide)
      · rw [g3, g4, tn_nI (by omega), hN, hN', ← (h.op o g2).1]
        rfl
    · have h0 : ¬ mr s 17 k' = 1 ∧ ¬ mr s 17 k' = 4 := by rw [hn.1]; exact ⟨by decide, by decide⟩
      have hbg : i 13 k' = -1 ∧ i 14 k' = -1 := by
        rcases gB with g | g | g
        · exact g.2
        · rw [hn.1] at g; exact absurd g.1 (by decide)
        · rw [hn.1] at g; exact absurd g.1 (by decide)
      refine h.perm (fun f h1 h2 h3 => by rw [up2_nf h2, up2_nf h1]) (fun _ _ => rfl) (fun f hf => miS hf) (fun f hf _ => mrS hf) (fun _ => rfl) (fun k hk2 => ?_) (fun k hk2 => ?_) (fun k hk2 => ?_) (mem_same h h0 ⟨by decide, by decide⟩) (fun x hx2 => ?_)
      · rw [mr17, up2_nf (by decide)]
        by_cases e : k = k'
        · rw [e, up2_self, upd_at']
        · rw [up2_na e, upd_ne' e]; exact (h.pm k hk2).1.2.2.2.2.2.2.1
      · rw [mr17]
        by_cases e : k = k'
        · rw [e, upd_at', hn.1]; decide
        · rw [upd_ne' e]
      · rw [mr17]
        by_cases e : k = k'
        · rw [e, upd_at', up2_self, up2_nf (by decide), up2_nf (by decide), hbg.2]
          exact Or.inr (Or.inl ⟨rfl, N, Nat.le_refl N, hN, rfl⟩)
        · rw [upd_ne' e, up2_na e, up2_nf (by decide), up2_nf (by decide), up2_nf (by decide)]
          exact (h.pm k hk2).2.2.2.2.2
      · unfold cdM
        rw [up2_nf (f := 13) (by decide : (7 : Nat) ≠ 13), up2_nf (f := 11) (by decide : (7 : Nat) ≠ 11)]
        apply orM_congr
        intro k hk2
        rw [up2_nf (f := 13) (by decide : (14 : Nat) ≠ 13), up2_nf (f := 11) (by decide : (14 : Nat) ≠ 11)]
        by_cases e : k = k'
        · rw [e, up2_self, hbg.1, hN, nI_le' (by omega) (by omega)]
          constructor
          · rintro ⟨-, z, -⟩; omega
          · rintro ⟨z, -⟩; exact absurd rfl z
        · rw [up2_na e, up2_nf (f := 11) (by decide : (13 : Nat) ≠ 11)]
  · have e : k' = k := nI_inj (by omega) (by omega) (hx'.symm.trans hx)
    subst e
    exact absurd hcm hn
  · exact absurd hx (hn k hk)
theorem stx_begin (h : RELn c i j p r s M N) {x : Int32} (hQ : (∃ k, k < (c 2) ∧ x = nI k ∧ (mr s 17 k = 0 ∧ (mr s 15 k = -1 ∨ mr s 17 (tn (mr s 15 k)) = 3)) ∧ v' = some (.int (mr s 22 (tn (mr s 19 k)) - mi s 1)) ∧ s' = muR (muI s 0 0) 17 k 2) ∨ (∃ k, k < (c 2) ∧ x = nI k ∧ ¬ (mr s 17 k = 0 ∧ (mr s 15 k = -1 ∨ mr s 17 (tn (mr s 15 k)) = 3)) ∧ v' = some (.int 0) ∧ s' = muI s 0 2) ∨ ((∀ k, k < (c 2) → x ≠ nI k) ∧ v' = some (.int 0) ∧ s' = muI s 0 1)) (hx : ∀ k, k < c 2 → x ≠ nI k) : mi s' 0 = 1 ∧ RELn c i j p r s' M N := by
  rcases hQ with ⟨k', hk', hx', -⟩ | ⟨k', hk', hx', -⟩ | ⟨-, -, hs⟩
  · exact absurd hx' (hx k' hk')
  · exact absurd hx' (hx k' hk')
  · rw [hs]; exact ⟨mi0_mu, h.mu 1⟩
theorem sty_begin (h : RELn c i j p r s M N) {x : Int32} (hQ : (∃ k, k < (c 2) ∧ x = nI k ∧ (mr s 17 k = 0 ∧ (mr s 15 k = -1 ∨ mr s 17 (tn (mr s 15 k)) = 3)) ∧ v' = some (.int (mr s 22 (tn (mr s 19 k)) - mi s 1)) ∧ s' = muR (muI s 0 0) 17 k 2) ∨ (∃ k, k < (c 2) ∧ x = nI k ∧ ¬ (mr s 17 k = 0 ∧ (mr s 15 k = -1 ∨ mr s 17 (tn (mr s 15 k)) = 3)) ∧ v' = some (.int 0) ∧ s' = muI s 0 2) ∨ ((∀ k, k < (c 2) → x ≠ nI k) ∧ v' = some (.int 0) ∧ s' = muI s 0 1)) {k : Nat} (hk : k < c 2) (hx : x = nI k) (hc : ¬ (i 11 k = 0 ∧ ∀ z, p 1 k = some z → i 11 z = 3)) : mi s' 0 = 2 ∧ RELn c i j p r s' M N := by
  have hb := h.b
  rcases hQ with ⟨k', hk', hx', hn, -⟩ | ⟨k', hk', hx', -, -, hs⟩ | ⟨hn, -⟩
  · have e : k' = k := nI_inj (by omega) (by omega) (hx'.symm.trans hx)
    subst e
    exact absurd ((can_eq h hk).mpr hn) hc
  · rw [hs]; exact ⟨mi0_mu, h.mu 2⟩
  · exact absurd hx (hn k hk)
theorem st_finish (h : RELn c i j p r s M N) {x : Int32} (hQ : (∃ k, k < (c 2) ∧ x = nI k ∧ mr s 17 k = 2 ∧ v' = some (.long (2 * ml s 20 k)) ∧ s' = muR (muI s 0 0) 17 k 3) ∨ (∃ k, k < (c 2) ∧ x = nI k ∧ ¬ mr s 17 k = 2 ∧ v' = some (.long 0) ∧ s' = muI s 0 2) ∨ ((∀ k, k < (c 2) → x ≠ nI k) ∧ v' = some (.long 0) ∧ s' = muI s 0 1)) {k : Nat} (hk : k < c 2) (hx : x = nI k) (hc : i 11 k = 2) : mi s' 0 = 0 ∧ v' = some (.long (2 * j 2 k)) ∧ RELn c (up2 (up2 i 11 k 3) 14 k (i 18 0)) j p r s' M N := by
  have hb := h.b
  obtain ⟨q, -, -, -, g, gB⟩ := h.pm k hk
  have hcm : mr s 17 k = 2 := q.2.2.2.2.2.2.1.symm.trans hc
  rcases hQ with ⟨k', hk', hx', hn, hv, hs⟩ | ⟨k', hk', hx', hn, -⟩ | ⟨hn, -⟩
  · have e : k' = k := nI_inj (by omega) (by omega) (hx'.symm.trans hx)
    subst e
    have hN := h.1.2.2.2.2.2.2.2.2.2.2.1
    rw [hs]
    refine ⟨mi0_mu (s := s) (v := 0), hv.trans (by rw [q.2.2.2.2.2.2.2.2]), ?_⟩
    have h0 : ¬ mr s 17 k' = 1 ∧ ¬ mr s 17 k' = 4 := by rw [hn]; exact ⟨by decide, by decide⟩
    obtain ⟨b, hbN, hbg, hfi⟩ : ∃ b, b ≤ N ∧ i 13 k' = nI b ∧ i 14 k' = -1 := by
      rcases gB with g | g | g
      · rw [hn] at g; exact absurd g.1 (by decide)
      · exact g.2
      · rw [hn] at g; exact absurd g.1 (by decide)
    refine h.perm (fun f h1 h2 h3 => by rw [up2_nf h3, up2_nf h1]) (fun _ _ => rfl) (fun f hf => miS hf) (fun f hf _ => mrS hf) (fun _ => rfl) (fun k hk2 => ?_) (fun k hk2 => ?_) (fun k hk2 => ?_) (mem_same h h0 ⟨by decide, by decide⟩) (fun x hx2 => ?_)
    · rw [mr17, up2_nf (by decide)]
      by_cases e : k = k'
      · rw [e, up2_self, upd_at']
      · rw [up2_na e, upd_ne' e]; exact (h.pm k hk2).1.2.2.2.2.2.2.1
    · rw [mr17]
      by_cases e : k = k'
      · rw [e, upd_at', hn]; decide
      · rw [upd_ne' e]
    · rw [mr17]
      by_cases e : k = k'
      · rw [e, upd_at', up2_self, up2_nf (by decide), up2_nf (by decide), hbg]
        exact Or.inr (Or.inr ⟨rfl, b, N, hbN, Nat.le_refl N, rfl, hN⟩)
      · rw [upd_ne' e, up2_nf (f := 14) (by decide : (13 : Nat) ≠ 14), up2_nf (f := 11) (by decide : (13 : Nat) ≠ 11), up2_na e, up2_nf (f := 11) (by decide : (14 : Nat) ≠ 11)]
        exact (h.pm k hk2).2.2.2.2.2
    · unfold cdM
      rw [up2_nf (f := 14) (by decide : (7 : Nat) ≠ 14), up2_nf (f := 11) (by decide : (7 : Nat) ≠ 11)]
      apply orM_congr
      intro k hk2
      rw [up2_nf (f := 14) (by decide : (13 : Nat) ≠ 14), up2_nf (f := 11) (by decide : (13 : Nat) ≠ 11)]
      by_cases e : k = k'
      · rw [e, up2_self, hfi, hN]
        apply and_congr Iff.rfl
        apply and_congr Iff.rfl
        constructor
        · intro _; exact Or.inl rfl
        · intro _; exact Or.inr ((nI_ltI (by omega) (by omega)).mpr hx2)
      · rw [up2_na e, up2_nf (f := 11) (by decide : (14 : Nat) ≠ 11)]
  · have e : k' = k := nI_inj (by omega) (by omega) (hx'.symm.trans hx)
    subst e
    exact absurd hcm hn
  · exact absurd hx (hn k hk)
theorem stx_finish (h : RELn c i j p r s M N) {x : Int32} (hQ : (∃ k, k < (c 2) ∧ x = nI k ∧ mr s 17 k = 2 ∧ v' = some (.long (2 * ml s 20 k)) ∧ s' = muR (muI s 0 0) 17 k 3) ∨ (∃ k, k < (c 2) ∧ x = nI k ∧ ¬ mr s 17 k = 2 ∧ v' = some (.long 0) ∧ s' = muI s 0 2) ∨ ((∀ k, k < (c 2) → x ≠ nI k) ∧ v' = some (.long 0) ∧ s' = muI s 0 1)) (hx : ∀ k, k < c 2 → x ≠ nI k) : mi s' 0 = 1 ∧ RELn c i j p r s' M N := by
  rcases hQ with ⟨k', hk', hx', -⟩ | ⟨k', hk', hx', -⟩ | ⟨-, -, hs⟩
  · exact absurd hx' (hx k' hk')
  · exact absurd hx' (hx k' hk')
  · rw [hs]; exact ⟨mi0_mu, h.mu 1⟩
theorem sty_finish (h : RELn c i j p r s M N) {x : Int32} (hQ : (∃ k, k < (c 2) ∧ x = nI k ∧ mr s 17 k = 2 ∧ v' = some (.long (2 * ml s 20 k)) ∧ s' = muR (muI s 0 0) 17 k 3) ∨ (∃ k, k < (c 2) ∧ x = nI k ∧ ¬ mr s 17 k = 2 ∧ v' = some (.long 0) ∧ s' = muI s 0 2) ∨ ((∀ k, k < (c 2) → x ≠ nI k) ∧ v' = some (.long 0) ∧ s' = muI s 0 1)) {k : Nat} (hk : k < c 2) (hx : x = nI k) (hc : ¬ i 11 k = 2) : mi s' 0 = 2 ∧ RELn c i j p r s' M N := by
  have hb := h.b
  rcases hQ with ⟨k', hk', hx', hn, -⟩ | ⟨k', hk', hx', -, -, hs⟩ | ⟨hn, -⟩
  · have e : k' = k := nI_inj (by omega) (by omega) (hx'.symm.trans hx)
    subst e
    exact absurd ((h.pm k' hk).1.2.2.2.2.2.2.1.trans hn) hc
  · rw [hs]; exact ⟨mi0_mu, h.mu 2⟩
  · exact absurd hx (hn k hk)
/-- while permits fall -/
def WJ (c : Nat → Nat) (i : Nat → Nat → Int32) (j : Nat → Nat → Int64) (s : mS) (ii : Nat → Nat → Int32) (jj : Nat → Nat → Int64) (ss : mS) : Prop :=
  (∀ f, f ≠ 11 → ii f = i f) ∧ (∀ f, f ≠ 1 → jj f = j f) ∧ (∀ f, f ≠ 0 → mi ss f = mi s f) ∧ (∀ f, f ≠ 17 → mr ss f = mr s f) ∧ (∀ f, ml ss f = ml s f) ∧ mi ss 0 = 0 ∧
  (∀ q, q < c 2 → ii 11 q = mr ss 17 q) ∧ (∀ q, q < c 2 → mr ss 17 q = mr s 17 q ∨ (mr s 17 q = 0 ∧ mr ss 17 q = 4)) ∧ ∀ o, o < c 1 → jj 1 o = mtg ss (nI o) (c 2)
theorem WJ.void (h : RELn c i j p r s M N) {ii : Nat → Nat → Int32} {jj : Nat → Nat → Int64} {ss : mS} (hW : WJ c i j s ii jj ss) {q : Nat} (hq : q < c 2) (h0 : mr ss 17 q = 0) : WJ c i j s (up2 ii 11 q 4) (cnJ ii jj p q) (muR ss 17 q 4) := by
  have hb := h.b
  obtain ⟨w1, w2, w3, w4, w5, w6, w7, w8, w9⟩ := hW
  obtain ⟨qq, -, -, -, g, -⟩ := h.pm q hq
  have hs0 : mr s 17 q = 0 := (w8 q hq).elim (fun e => e.symm.trans h0) (fun e => e.1)
  obtain ⟨o, g2, g3, g4⟩ : ∃ o, o < c 1 ∧ p 2 q = some o ∧ mr s 19 q = nI o := by
    rcases g with ⟨g1, -⟩ | ⟨-, o, g2, g3, g4, -⟩
    · rw [hs0] at g1; exact absurd g1 (by decide)
    · exact ⟨o, g2, g3, g4⟩
  have e17 : mr (muR ss 17 q 4) 17 = upd (mr ss 17) q 4 := by
    show va_up ss.2.1 17 (upd (ss.2.1 17) q 4) 17 = _
    rw [va_up_self]
  have e19 : mr (muR ss 17 q 4) 19 = mr ss 19 := rfl
  have ec : cnJ ii jj p q = up2 jj 1 o (jj 1 o &&& (((1 : Int64) <<< ((nI q).toInt64 &&& 63)) ^^^ (-1))) := by
    unfold cnJ
    rw [g3, w1 5 (by decide), qq.1]
    rfl
  refine ⟨fun f hf => by rw [up2_nf hf]; exact w1 f hf, fun f hf => by rw [ec, up2_nf hf]; exact w2 f hf, w3, fun f hf => (va_up_ne _ _ hf).trans (w4 f hf), w5, w6, fun k hk => ?_, fun k hk => ?_, fun o' ho' => ?_⟩
  · rw [e17]
    by_cases e : k = q
    · rw [e, up2_self, upd_at']
    · rw [up2_na e, upd_ne' e]; exact w7 k hk
  · rw [e17]
    by_cases e : k = q
    · rw [e, upd_at']; exact Or.inr ⟨hs0, rfl⟩
    · rw [upd_ne' e]; exact w8 k hk
  · rw [ec]
    apply bJ_eq
    intro b hb64
    rw [mtg_bt (by omega) hb64]
    unfold in0
    rw [e17, e19]
    by_cases e : o' = o
    · rw [e, up2_self, bJ_and, bJ_nbit (by omega) hb64, w9 o g2, Bool.and_eq_true, mtg_bt (by omega) hb64]
      by_cases eb : b = q
      · rw [eb, upd_at']
        simp
      · rw [upd_ne' eb]
        simp [eb]
    · rw [up2_na e, w9 o' ho', mtg_bt (by omega) hb64]
      by_cases eb : b = q
      · rw [eb, upd_at']
        constructor
        · rintro ⟨-, -, z⟩
          rw [w4 19 (by decide), g4] at z
          exact absurd (nI_inj (by omega) (by omega) z).symm e
        · rintro ⟨-, z, -⟩
          exact absurd rfl z.2
      · rw [upd_ne' eb]
theorem WJ.cond (h : RELn c i j p r s M N) {ii : Nat → Nat → Int32} {jj : Nat → Nat → Int64} {ss : mS} {cc : Int32} (hW : WJ c i j s ii jj ss) {q : Nat} (hq : q < c 2) : wdH p (ii, jj, cc) q ↔ mwH ss q := by
  have hb := h.b
  obtain ⟨w1, w2, w3, w4, w5, w6, w7, w8, w9⟩ := hW
  obtain ⟨-, -, -, g, -⟩ := h.pm q hq
  unfold wdH mwH
  show ii 11 q = 0 ∧ (∃ z, p 1 q = some z ∧ ii 11 z = 4) ↔ _
  rw [w7 q hq, w4 15 (by decide)]
  apply and_congr Iff.rfl
  rcases g with ⟨g1, g2⟩ | ⟨z, g1, g2, g3⟩
  · rw [g1, g2]
    constructor
    · rintro ⟨z, hz, -⟩; cases hz
    · rintro ⟨z, -⟩; exact absurd rfl z
  · rw [g2, g3, tn_nI (by omega), ← w7 z (by omega)]
    constructor
    · rintro ⟨z', hz, h4⟩; cases hz; exact ⟨fun e => absurd e.symm (nI_nm1 (by omega)), h4⟩
    · rintro ⟨-, h4⟩; exact ⟨z, rfl, h4⟩
theorem WJ.loop (h : RELn c i j p r s M N) {i0 : Nat → Nat → Int32} {j0 : Nat → Nat → Int64} {s0 : mS} (hW : WJ c i j s i0 j0 s0) {a n : Nat} (hn : a + n ≤ c 2) : WJ c i j s (wdn p (i0, j0, 1) a n).1 (wdn p (i0, j0, 1) a n).2.1 (mwn s0 a n).1 ∧ (wdn p (i0, j0, 1) a n).2.2 = (mwn s0 a n).2 := by
  induction n with
  | zero => exact ⟨hW, rfl⟩
  | succ n ih =>
    obtain ⟨ih1, ih2⟩ := ih (by omega)
    have hc : wdH p (wdn p (i0, j0, 1) a n) (a + n) ↔ mwH (mwn s0 a n).1 (a + n) := WJ.cond h ih1 (by omega)
    by_cases g : mwH (mwn s0 a n).1 (a + n)
    · rw [mwn_t g, show wdn p (i0, j0, 1) a (n + 1) = wdC p (wdn p (i0, j0, 1) a n) (a + n) from cIf_t (hc.mpr g)]
      exact ⟨WJ.void h ih1 (by omega) g.1, by show (wdn p (i0, j0, 1) a n).2.2 + 1 = (mwn s0 a n).2 + 1; rw [ih2]⟩
    · rw [mwn_f g, show wdn p (i0, j0, 1) a (n + 1) = wdn p (i0, j0, 1) a n from cIf_f (fun z => g (hc.mp z))]
      exact ⟨ih1, ih2⟩
theorem WJ.rel (h : RELn c i j p r s M N) {ii : Nat → Nat → Int32} {jj : Nat → Nat → Int64} {ss : mS} (hW : WJ c i j s ii jj ss) : RELn c ii jj p r ss M N := by
  obtain ⟨w1, w2, w3, w4, w5, w6, w7, w8, w9⟩ := hW
  refine h.perm (fun f h1 _ _ => w1 f h1) w2 w3 (fun f h1 _ => w4 f h1) w5 w7 (fun k hk => ?_) (fun k hk => ?_) w9 (fun x _ => ?_)
  · rcases w8 k hk with e | ⟨e1, e2⟩
    · rw [e]
    · rw [e1, e2]; decide
  · rw [w1 13 (by decide), w1 14 (by decide)]
    have g := (h.pm k hk).2.2.2.2.2
    rcases w8 k hk with e | ⟨e1, e2⟩
    · rw [e]; exact g
    · rw [e2]
      rw [e1] at g
      rcases g with g | g | g
      · exact Or.inl ⟨Or.inr (Or.inr rfl), g.2⟩
      · exact absurd g.1 (by decide)
      · exact absurd g.1 (by decide)
  · unfold cdM
    rw [w1 13 (by decide), w1 14 (by decide), w1 7 (by decide)]
theorem st_withdraw (h : RELn c i j p r s M N) {x : Int32} (hQ : (∃ k, k < (c 2) ∧ x = nI k ∧ mr s 17 k = 0 ∧ v' = some (.int (mwn (muR (muI s 0 0) 17 k 4) (k + 1) ((c 2) - (k + 1))).2) ∧ s' = (mwn (muR (muI s 0 0) 17 k 4) (k + 1) ((c 2) - (k + 1))).1) ∨ (∃ k, k < (c 2) ∧ x = nI k ∧ ¬ mr s 17 k = 0 ∧ v' = some (.int 0) ∧ s' = muI s 0 2) ∨ ((∀ k, k < (c 2) → x ≠ nI k) ∧ v' = some (.int 0) ∧ s' = muI s 0 1)) {k : Nat} (hk : k < c 2) (hx : x = nI k) (hc : i 11 k = 0) : mi s' 0 = 0 ∧ v' = some (.int (wdn p (up2 i 11 k 4, cnJ i j p k, 1) (k + 1) (c 2 - (k + 1))).2.2) ∧ RELn c (wdn p (up2 i 11 k 4, cnJ i j p k, 1) (k + 1) (c 2 - (k + 1))).1 (wdn p (up2 i 11 k 4, cnJ i j p k, 1) (k + 1) (c 2 - (k + 1))).2.1 p r s' M N := by
  have hb := h.b
  have hcm : mr s 17 k = 0 := (h.pm k hk).1.2.2.2.2.2.2.1.symm.trans hc
  rcases hQ with ⟨k', hk', hx', hn, hv, hs⟩ | ⟨k', hk', hx', hn, -⟩ | ⟨hn, -⟩
  · have e : k' = k := nI_inj (by omega) (by omega) (hx'.symm.trans hx)
    subst e
    have hW0 : WJ c i j s i j (muI s 0 0) := ⟨fun _ _ => rfl, fun _ _ => rfl, fun f hf => va_up_ne _ _ hf, fun _ _ => rfl, fun _ => rfl, mi0_mu, fun q hq => (h.pm q hq).1.2.2.2.2.2.2.1, fun _ _ => Or.inl rfl, fun o ho => ((h.mu 0).op o ho).2.2.1⟩
    have hW1 := WJ.void h hW0 hk hcm
    obtain ⟨hW2, he⟩ := WJ.loop h hW1 (a := k' + 1) (n := c 2 - (k' + 1)) (by omega)
    rw [hs]
    exact ⟨hW2.2.2.2.2.2.1, by rw [hv, he], WJ.rel h hW2⟩
  · have e : k' = k := nI_inj (by omega) (by omega) (hx'.symm.trans hx)
    subst e
    exact absurd hcm hn
  · exact absurd hx (hn k hk)
theorem stx_withdraw (h : RELn c i j p r s M N) {x : Int32} (hQ : (∃ k, k < (c 2) ∧ x = nI k ∧ mr s 17 k = 0 ∧ v' = some (.int (mwn (muR (muI s 0 0) 17 k 4) (k + 1) ((c 2) - (k + 1))).2) ∧ s' = (mwn (muR (muI s 0 0) 17 k 4) (k + 1) ((c 2) - (k + 1))).1) ∨ (∃ k, k < (c 2) ∧ x = nI k ∧ ¬ mr s 17 k = 0 ∧ v' = some (.int 0) ∧ s' = muI s 0 2) ∨ ((∀ k, k < (c 2) → x ≠ nI k) ∧ v' = some (.int 0) ∧ s' = muI s 0 1)) (hx : ∀ k, k < c 2 → x ≠ nI k) : mi s' 0 = 1 ∧ RELn c i j p r s' M N := by
  rcases hQ with ⟨k', hk', hx', -⟩ | ⟨k', hk', hx', -⟩ | ⟨-, -, hs⟩
  · exact absurd hx' (hx k' hk')
  · exact absurd hx' (hx k' hk')
  · rw [hs]; exact ⟨mi0_mu, h.mu 1⟩
theorem sty_withdraw (h : RELn c i j p r s M N) {x : Int32} (hQ : (∃ k, k < (c 2) ∧ x = nI k ∧ mr s 17 k = 0 ∧ v' = some (.int (mwn (muR (muI s 0 0) 17 k 4) (k + 1) ((c 2) - (k + 1))).2) ∧ s' = (mwn (muR (muI s 0 0) 17 k 4) (k + 1) ((c 2) - (k + 1))).1) ∨ (∃ k, k < (c 2) ∧ x = nI k ∧ ¬ mr s 17 k = 0 ∧ v' = some (.int 0) ∧ s' = muI s 0 2) ∨ ((∀ k, k < (c 2) → x ≠ nI k) ∧ v' = some (.int 0) ∧ s' = muI s 0 1)) {k : Nat} (hk : k < c 2) (hx : x = nI k) (hc : ¬ i 11 k = 0) : mi s' 0 = 2 ∧ RELn c i j p r s' M N := by
  have hb := h.b
  rcases hQ with ⟨k', hk', hx', hn, -⟩ | ⟨k', hk', hx', -, -, hs⟩ | ⟨hn, -⟩
  · have e : k' = k := nI_inj (by omega) (by omega) (hx'.symm.trans hx)
    subst e
    exact absurd ((h.pm k' hk).1.2.2.2.2.2.2.1.trans hn) hc
  · rw [hs]; exact ⟨mi0_mu, h.mu 2⟩
  · exact absurd hx (hn k hk)
end ST
