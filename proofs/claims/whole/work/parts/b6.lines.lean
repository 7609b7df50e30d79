section ST
variable {c c' : Nat → Nat} {i i' : Nat → Nat → Int32} {j j' : Nat → Nat → Int64} {p : Nat → Nat → Option Nat} {r r' : Nat → Nat → Int32} {s s' : mS} {M N : Nat} {v' : Option Value}
theorem ix_JN {x : Int32} : ¬ isIx x 10 = 0 ↔ JN x := by
  constructor
  · intro h; obtain ⟨k, hk, e⟩ := isIx_t (by decide) h; exact ⟨k, hk, e⟩
  · rintro ⟨k, hk, rfl⟩ h; exact isIx_f (by decide) h k hk rfl
theorem rngI {x : Int32} {a b : Nat} (ha : a < 2 ^ 31) (hb : b < 2 ^ 31) : (nI a ≤ x ∧ x ≤ nI b) ↔ (¬ x < nI a ∧ ¬ nI b < x) := ⟨fun h => ⟨Int32.not_lt.mpr h.1, Int32.not_lt.mpr h.2⟩, fun h => ⟨Int32.not_lt.mp h.1, Int32.not_lt.mp h.2⟩⟩
theorem inN {x : Int32} {b : Nat} (hb : b < 2 ^ 30) (h0 : ¬ x < 0) (h1 : ¬ nI b < x) : ∃ k, k ≤ b ∧ x = nI k := by
  obtain ⟨k, hk, e⟩ := nI_in2 (x := x) (n := b + 1) (by omega) h0 (Int32.lt_of_le_of_lt (Int32.not_lt.mp h1) ((nI_ltI (by omega) (by omega)).mpr (Nat.lt_succ_self b)))
  exact ⟨k, by omega, e⟩
theorem now0 (h : RELn c i j p r s M N) : (i 18 0 = 0 ↔ N = 0) ∧ (¬ 0 < mi s 1 ↔ N = 0) ∧ (mi s 1 = 0 ↔ N = 0) := by
  have hb := h.b
  have hN := h.1.2.2.2.2.2.2.2.2.2.2.1
  have hN' := h.1.2.2.2.2.2.2.2.2.2.2.2.1
  rw [hN, hN', show (0 : Int32) = nI 0 from rfl, nI_ltI (by decide) (by omega), nI_eq (by omega) (by decide)]
  exact ⟨Iff.rfl, by omega, Iff.rfl⟩
theorem up2_3 {r : Nat → Nat → Int32} {M : Nat} {x y t : Int32} : (∀ k, 3 ≤ k → up2 (up2 (up2 r 0 M x) 1 M y) 2 M t k = r k) ∧ (∀ f e, e ≠ M → up2 (up2 (up2 r 0 M x) 1 M y) 2 M t f e = r f e) ∧ up2 (up2 (up2 r 0 M x) 1 M y) 2 M t 0 M = x ∧ up2 (up2 (up2 r 0 M x) 1 M y) 2 M t 1 M = y ∧ up2 (up2 (up2 r 0 M x) 1 M y) 2 M t 2 M = t := by
  refine ⟨fun k hk => by rw [up2_nf (by omega), up2_nf (by omega), up2_nf (by omega)], fun f e he => ?_, ?_, ?_, by rw [up2_self]⟩
  · have h1 : ∀ (g : Nat → Nat → Int32) (a : Nat) (v : Int32), up2 g a M v f e = g f e := fun g a v => if_neg (fun z => he z.2)
    rw [h1, h1, h1]
  · rw [up2_nf (by decide), up2_nf (by decide), up2_self]
  · rw [up2_nf (by decide), up2_self]
theorem mlane {s : mS} {M : Nat} {x y t v : Int32} : (∀ f, f ≠ 0 → f ≠ 5 → mi (muI (muR (muR (muR (muI s 0 0) 2 M x) 3 M y) 4 M t) 5 v) f = mi s f) ∧ mi (muI (muR (muR (muR (muI s 0 0) 2 M x) 3 M y) 4 M t) 5 v) 5 = v ∧ mi (muI (muR (muR (muR (muI s 0 0) 2 M x) 3 M y) 4 M t) 5 v) 0 = 0 ∧ (∀ f, 5 ≤ f → mr (muI (muR (muR (muR (muI s 0 0) 2 M x) 3 M y) 4 M t) 5 v) f = mr s f) ∧
    mr (muI (muR (muR (muR (muI s 0 0) 2 M x) 3 M y) 4 M t) 5 v) 2 = upd (mr s 2) M x ∧ mr (muI (muR (muR (muR (muI s 0 0) 2 M x) 3 M y) 4 M t) 5 v) 3 = upd (mr s 3) M y ∧ mr (muI (muR (muR (muR (muI s 0 0) 2 M x) 3 M y) 4 M t) 5 v) 4 = upd (mr s 4) M t := by
  refine ⟨fun f h0 h5 => ?_, rfl, rfl, fun f hf => ?_, rfl, rfl, rfl⟩
  · show va_up (va_up s.1 0 0) 5 v f = _
    rw [va_up_ne _ _ h5, va_up_ne _ _ h0]
  · show va_up (va_up (va_up s.2.1 2 _) 3 _) 4 _ f = _
    rw [va_up_ne _ _ (by omega), va_up_ne _ _ (by omega), va_up_ne _ _ (by omega)]
theorem RELn.lane (h : RELn c i j p r s M N) (hN0 : N = 0) (hM : M < 24) {a b t : Nat} (ha : a < 10) (hb : b < 10) (hab : a ≠ b) (ht : t ≤ 30) : RELn c (up2 i 15 0 (nI M + 1)) j p (up2 (up2 (up2 r 0 M (nI a)) 1 M (nI b)) 2 M (nI t)) (muI (muR (muR (muR (muI s 0 0) 2 M (nI a)) 3 M (nI b)) 4 M (nI t)) 5 (nI M + 1)) (M + 1) N := by
  obtain ⟨u3, ue, u0, u1, u2⟩ := up2_3 (r := r) (M := M) (x := nI a) (y := nI b) (t := nI t)
  obtain ⟨m1, m2, m3, m4, m5, m6, m7⟩ := mlane (s := s) (M := M) (x := nI a) (y := nI b) (t := nI t) (v := nI M + 1)
  generalize hr' : up2 (up2 (up2 r 0 M (nI a)) 1 M (nI b)) 2 M (nI t) = r' at *
  generalize hs' : muI (muR (muR (muR (muI s 0 0) 2 M (nI a)) 3 M (nI b)) 4 M (nI t)) 5 (nI M + 1) = s' at *
  have hl9 : ∀ f, ml s' f = ml s f := fun f => by rw [← hs']; rfl
  have hi : ∀ f, f ≠ 15 → up2 i 15 0 (nI M + 1) f = i f := fun f hf => up2_nf hf
  have hEd : ∀ cl m, m ≤ M → dst (Ed (r' 0) (r' 1) (r' 2) cl m) = dst (Ed (r 0) (r 1) (r 2) cl m) := fun cl m hm => dst_congr (Ed_congr (fun e he => ⟨ue 0 e (by omega), ue 1 e (by omega), ue 2 e (by omega)⟩))
  obtain ⟨a1, a2, a3, a4, a5, a6, a7, a8⟩ := h
  refine ⟨?_, ?_, ?_, ?_, ?_, ?_, ?_, ?_⟩
  · unfold RN at *
    rw [up2_self, hi 18 (by decide), m1 10 (by decide) (by decide), m1 21 (by decide) (by decide), m1 24 (by decide) (by decide), m1 1 (by decide) (by decide), m2, hl9, hl9, nI_1]
    exact ⟨rfl, rfl, by omega, a1.2.2.2⟩
  · intro e he
    rw [m5, m6, m7]
    by_cases q : e = M
    · rw [q, u0, u1, u2, upd_at', upd_at', upd_at']
      exact ⟨rfl, rfl, rfl, a, b, t, rfl, rfl, rfl, ha, hb, hab, ht⟩
    · rw [ue 0 e q, ue 1 e q, ue 2 e q, upd_ne' q, upd_ne' q, upd_ne' q]
      exact a2 e (by omega)
  · intro l hl
    obtain ⟨g1, g2, n, hn, g3, g4, g5, g6⟩ := a3 l hl
    unfold RL1
    rw [hi 1 (by decide), hi 0 (by decide), m4 6 (by decide), m4 8 (by decide), m4 7 (by decide), hl9, u3 (24 + l) (by omega)]
    refine ⟨g1, g2, n, hn, g3, g4, g5, fun k hk => ?_⟩
    refine dst_more (E := Ed (r 0) (r 1) (r 2) 0 M) (fun x y z hz => ?_) (g6 k hk)
    exact Ed_more (Nat.le_succ M) ((Ed_congr (fun e he => ⟨ue 0 e (by omega), ue 1 e (by omega), ue 2 e (by omega)⟩) x y z).mpr hz)
  · intro k hk
    obtain ⟨q, q1, ⟨e, he, q2⟩, q3, q4, q5⟩ := a4 k hk
    unfold RP1
    rw [hi 5 (by decide), hi 6 (by decide), hi 7 (by decide), hi 8 (by decide), hi 9 (by decide), hi 10 (by decide), hi 11 (by decide), hi 12 (by decide), hi 13 (by decide), hi 14 (by decide), hi 2 (by decide), m4 11 (by decide), m4 12 (by decide), m4 13 (by decide), m4 14 (by decide), m4 15 (by decide), m4 16 (by decide), m4 17 (by decide), m4 18 (by decide), m4 19 (by decide), hl9]
    exact ⟨q, q1, ⟨e, by omega, q2⟩, q3, q4, q5⟩
  · have hm : ∀ o, mtg s' o (c 2) = mtg s o (c 2) := fun o => mtg_congr (by have := a1.2.2.2.2.2.2.1; omega) (fun b _ => by unfold in0; rw [m4 17 (by decide), m4 19 (by decide)])
    unfold ROp at *
    rw [hi 3 (by decide), hi 4 (by decide), m4 22 (by decide), m4 23 (by decide)]
    intro o ho
    rw [hm]
    exact a5 o ho
  · intro x hx
    rw [u3 3 (by decide), m4 25 (by decide)]
    exact a6 x hx
  · intro l hl
    have e := a7 l hl
    rw [hN0] at e ⊢
    rw [hi 1 (by decide)]
    exact e
  · have hw : ∀ w, w < 2 → WC w i r M → WC w (up2 i 15 0 (nI M + 1)) r' (M + 1) := by
      intro w hw hW
      unfold WC at *
      rw [hi 16 (by decide), hi 17 (by decide)]
      rcases hW with z | ⟨m, z1, z2, z3⟩
      · exact Or.inl z
      · refine Or.inr ⟨m, by omega, z2, ?_⟩
        rw [hEd _ m z1]
        intro a b ha hb
        rw [u3 _ (by omega)]
        exact z3 a b ha hb
    exact ⟨hw 0 (by decide) a8.1, hw 1 (by decide) a8.2⟩
theorem tI {t : Int32} (h1 : ¬ t < 1) (h2 : ¬ 30 < t) : ∃ k, k ≤ 30 ∧ t = nI k := inN (b := 30) (by decide) (fun z => h1 (Int32.lt_trans z (by decide))) h2
theorem st_lane (h : RELn c i j p r s M N) {x y t : Int32} (hQ : ((¬ isIx x 10 = 0 ∧ ¬ isIx y 10 = 0) ∧ (¬ x = y ∧ 1 ≤ t ∧ t ≤ 30) ∧ M < 24 ∧ ¬ 0 < mi s 1 ∧ v' = some (.int (nI M)) ∧ s' = muI (muR (muR (muR (muI s 0 0) 2 M x) 3 M y) 4 M t) 5 (nI M + 1)) ∨ (∃ cc : Int32, v' = some (.int 0) ∧ s' = muI s 0 cc ∧ ((cc = 1 ∧ ¬ (¬ isIx x 10 = 0 ∧ ¬ isIx y 10 = 0)) ∨ (cc = 2 ∧ (¬ isIx x 10 = 0 ∧ ¬ isIx y 10 = 0) ∧ ¬ (¬ x = y ∧ 1 ≤ t ∧ t ≤ 30)) ∨ (cc = 3 ∧ (¬ isIx x 10 = 0 ∧ ¬ isIx y 10 = 0) ∧ (¬ x = y ∧ 1 ≤ t ∧ t ≤ 30) ∧ (M = 24 ∨ 0 < mi s 1))))) {a b : Nat} (ha : a < 10) (hb : b < 10) (hx : x = nI a) (hy : y = nI b) (hok : ¬ x = y ∧ ¬ t < 1 ∧ ¬ 30 < t) (hst : M < 24 ∧ i 18 0 = 0) : mi s' 0 = 0 ∧ v' = some (.int (nI M)) ∧ RELn c (up2 i 15 0 (nI M + 1)) j p (up2 (up2 (up2 r 0 M x) 1 M y) 2 M t) s' (M + 1) N := by
  have hN := now0 h
  have hN0 := hN.1.mp hst.2
  rcases hQ with ⟨-, -, -, -, hv, hs⟩ | ⟨c1, -, -, z⟩
  · obtain ⟨tt, ht, e⟩ := tI hok.2.1 hok.2.2
    subst e
    subst hx
    subst hy
    rw [hs]
    exact ⟨rfl, hv, h.lane hN0 hst.1 ha hb (fun e => hok.1 (by rw [e])) ht⟩
  · rcases z with ⟨-, z⟩ | ⟨-, -, z⟩ | ⟨-, -, -, z⟩
    · exact absurd ⟨ix_JN.mpr ⟨a, ha, hx⟩, ix_JN.mpr ⟨b, hb, hy⟩⟩ z
    · exact absurd ⟨hok.1, (rngI (a := 1) (b := 30) (by decide) (by decide)).mpr hok.2⟩ z
    · exact z.elim (fun z => by omega) (fun z => absurd z (hN.2.1.mpr hN0))
theorem stx_lane (h : RELn c i j p r s M N) {x y t : Int32} (hQ : ((¬ isIx x 10 = 0 ∧ ¬ isIx y 10 = 0) ∧ (¬ x = y ∧ 1 ≤ t ∧ t ≤ 30) ∧ M < 24 ∧ ¬ 0 < mi s 1 ∧ v' = some (.int (nI M)) ∧ s' = muI (muR (muR (muR (muI s 0 0) 2 M x) 3 M y) 4 M t) 5 (nI M + 1)) ∨ (∃ cc : Int32, v' = some (.int 0) ∧ s' = muI s 0 cc ∧ ((cc = 1 ∧ ¬ (¬ isIx x 10 = 0 ∧ ¬ isIx y 10 = 0)) ∨ (cc = 2 ∧ (¬ isIx x 10 = 0 ∧ ¬ isIx y 10 = 0) ∧ ¬ (¬ x = y ∧ 1 ≤ t ∧ t ≤ 30)) ∨ (cc = 3 ∧ (¬ isIx x 10 = 0 ∧ ¬ isIx y 10 = 0) ∧ (¬ x = y ∧ 1 ≤ t ∧ t ≤ 30) ∧ (M = 24 ∨ 0 < mi s 1))))) {X : Int32} (hX : (X = 1 ∧ ¬ (JN x ∧ JN y)) ∨ (X = 2 ∧ JN x ∧ JN y ∧ ¬ (¬ x = y ∧ ¬ t < 1 ∧ ¬ 30 < t)) ∨ (X = 3 ∧ JN x ∧ JN y ∧ (¬ x = y ∧ ¬ t < 1 ∧ ¬ 30 < t) ∧ ¬ (M < 24 ∧ i 18 0 = 0))) : mi s' 0 = X ∧ RELn c i j p r s' M N := by
  have hN := now0 h
  have hB := h.b
  rcases hQ with ⟨q1, q2, q3, q4, hv, hs⟩ | ⟨c1, -, hs, z⟩
  · exfalso
    have q2' := (rngI (a := 1) (b := 30) (by decide) (by decide)).mp q2.2
    rcases hX with ⟨-, z⟩ | ⟨-, -, -, z⟩ | ⟨-, -, -, -, z⟩
    · exact z ⟨ix_JN.mp q1.1, ix_JN.mp q1.2⟩
    · exact z ⟨q2.1, q2'⟩
    · exact z ⟨q3, hN.1.mpr (hN.2.1.mp q4)⟩
  · have e : c1 = X := by
      rw [ix_JN, ix_JN] at z
      have q2' : ∀ (_ : ¬ x = y ∧ 1 ≤ t ∧ t ≤ 30), (¬ x = y ∧ ¬ t < 1 ∧ ¬ 30 < t) := fun z => ⟨z.1, (rngI (a := 1) (b := 30) (by decide) (by decide)).mp z.2⟩
      have q2'' : ∀ (_ : ¬ x = y ∧ ¬ t < 1 ∧ ¬ 30 < t), (¬ x = y ∧ 1 ≤ t ∧ t ≤ 30) := fun z => ⟨z.1, (rngI (a := 1) (b := 30) (by decide) (by decide)).mpr z.2⟩
      rcases z with ⟨e, z⟩ | ⟨e, z1, z⟩ | ⟨e, z1, z2, z⟩ <;> rcases hX with ⟨E, y⟩ | ⟨E, y1, y2, y⟩ | ⟨E, y1, y2, y3, y⟩
      · rw [e, E]
      · exact absurd ⟨y1, y2⟩ z
      · exact absurd ⟨y1, y2⟩ z
      · exact absurd z1 y
      · rw [e, E]
      · exact absurd (q2'' y3) z
      · exact absurd z1 y
      · exact absurd (q2' z2) y
      · rw [e, E]
    rw [hs, ← e]
    exact ⟨mi0_mu, h.mu c1⟩
theorem mline {s : mS} {l : Nat} {x y v : Int32} : (∀ f, f ≠ 0 → f ≠ 10 → mi (muI (muR (muR (muR (muI s 0 0) 7 (6 * l) x) 8 l 1) 6 l y) 10 v) f = mi s f) ∧ mi (muI (muR (muR (muR (muI s 0 0) 7 (6 * l) x) 8 l 1) 6 l y) 10 v) 10 = v ∧ (∀ f, f ≠ 6 → f ≠ 7 → f ≠ 8 → mr (muI (muR (muR (muR (muI s 0 0) 7 (6 * l) x) 8 l 1) 6 l y) 10 v) f = mr s f) ∧
    mr (muI (muR (muR (muR (muI s 0 0) 7 (6 * l) x) 8 l 1) 6 l y) 10 v) 7 = upd (mr s 7) (6 * l) x ∧ mr (muI (muR (muR (muR (muI s 0 0) 7 (6 * l) x) 8 l 1) 6 l y) 10 v) 8 = upd (mr s 8) l 1 ∧ mr (muI (muR (muR (muR (muI s 0 0) 7 (6 * l) x) 8 l 1) 6 l y) 10 v) 6 = upd (mr s 6) l y := by
  refine ⟨fun f h0 h5 => ?_, rfl, fun f h6 h7 h8 => ?_, rfl, rfl, rfl⟩
  · show va_up (va_up s.1 0 0) 10 v f = _
    rw [va_up_ne _ _ h5, va_up_ne _ _ h0]
  · show va_up (va_up (va_up s.2.1 7 _) 8 _) 6 _ f = _
    rw [va_up_ne _ _ h6, va_up_ne _ _ h8, va_up_ne _ _ h7]
theorem RELn.line (h : RELn c i j p r s M N) (hN0 : N = 0) (hl6 : c 0 < 6) {a : Nat} {y : Int32} (ha : a < 10) (hR : LRr c i j r c' i' j' r' (nI a) y) : RELn c' i' j' p r' (muI (muR (muR (muR (muI s 0 0) 7 (6 * c 0) (nI a)) 8 (c 0) 1) 6 (c 0) y) 10 (nI (c 0) + 1)) M N := by
  obtain ⟨m1, m2, m3, m7, m8, m6⟩ := mline (s := s) (l := c 0) (x := nI a) (y := y) (v := nI (c 0) + 1)
  obtain ⟨l1, l2, l3, l4, l5, l6, l7, l8, l9⟩ := hR
  generalize hs' : muI (muR (muR (muR (muI s 0 0) 7 (6 * c 0) (nI a)) 8 (c 0) 1) 6 (c 0) y) 10 (nI (c 0) + 1) = s' at *
  have hl9 : ∀ f, ml s' f = ml s f := fun f => by rw [← hs']; rfl
  have hi : ∀ f, 2 ≤ f → i' f = i f := fun f hf => by funext k; exact l3 f k (by omega)
  have hj : ∀ f, f ≠ 0 → j' f = j f := fun f hf => by funext k; exact l6 f k (fun z => hf z.1)
  have e1 : c' 1 = c 1 := l1 1 (by decide) (by decide)
  have e2 : c' 2 = c 2 := l1 2 (by decide) (by decide)
  obtain ⟨a1, a2, a3, a4, a5, a6, a7, a8⟩ := h
  refine ⟨?_, ?_, ?_, ?_, ?_, ?_, ?_, ?_⟩
  · unfold RN at *
    obtain ⟨z1, z2, z3, z4, z5, z6, z7, z8, z9, z10, z11, z12, z13, z14⟩ := a1
    rw [e1, e2, l2, hi 15 (by decide), hi 18 (by decide), m2, m1 5 (by decide) (by decide), m1 21 (by decide) (by decide), m1 24 (by decide) (by decide), m1 1 (by decide) (by decide), hl9, hl9, nI_1]
    exact ⟨z1, z2, z3, rfl, by omega, z6, z7, z8, z9, z10, z11, z12, fun l hl => z13 l (by omega), z14⟩
  · unfold RLn at *
    rw [l8 0 (by omega), l8 1 (by omega), l8 2 (by omega), m3 2 (by decide) (by decide) (by decide), m3 3 (by decide) (by decide) (by decide), m3 4 (by decide) (by decide) (by decide)]
    exact a2
  · intro l hl
    rw [l2] at hl
    unfold RL1
    rw [l8 0 (by omega), l8 1 (by omega), l8 2 (by omega), m6, m7, m8, hl9]
    by_cases q : l = c 0
    · rw [q, l4, l5, l7, upd_at', upd_at']
      refine ⟨rfl, (a1.2.2.2.2.2.2.2.2.2.2.2.2.1 _ (Nat.le_refl _)).symm, 0, by decide, rfl, rfl, fun k hk => ?_, fun k hk => by omega⟩
      rw [show k = 0 by omega, Nat.add_zero, upd_at']
      exact ⟨l9, a, ha, rfl⟩
    · obtain ⟨g1, g2, n, hn, g3, g4, g5, g6⟩ := a3 l (by omega)
      rw [l3 1 l (by omega), l3 0 l (by omega), l6 0 l (by omega), l8 (24 + l) (by omega), upd_ne' q, upd_ne' q]
      refine ⟨g1, g2, n, hn, g3, g4, fun k hk => ?_, g6⟩
      rw [upd_ne' (by omega)]
      exact g5 k hk
  · intro k hk
    rw [e2] at hk
    have g := a4 k hk
    unfold RP1 at *
    rw [e1, hi 5 (by decide), hi 6 (by decide), hi 7 (by decide), hi 8 (by decide), hi 9 (by decide), hi 10 (by decide), hi 11 (by decide), hi 12 (by decide), hi 13 (by decide), hi 14 (by decide), hi 2 (by decide), hj 2 (by decide), m3 11 (by decide) (by decide) (by decide), m3 12 (by decide) (by decide) (by decide), m3 13 (by decide) (by decide) (by decide), m3 14 (by decide) (by decide) (by decide), m3 15 (by decide) (by decide) (by decide), m3 16 (by decide) (by decide) (by decide), m3 17 (by decide) (by decide) (by decide), m3 18 (by decide) (by decide) (by decide), m3 19 (by decide) (by decide) (by decide), hl9]
    exact g
  · have hm : ∀ o, mtg s' o (c 2) = mtg s o (c 2) := fun o => mtg_congr (by have := a1.2.2.2.2.2.2.1; omega) (fun b _ => by unfold in0; rw [m3 17 (by decide) (by decide) (by decide), m3 19 (by decide) (by decide) (by decide)])
    unfold ROp at *
    rw [e1, e2, hi 3 (by decide), hi 4 (by decide), hj 1 (by decide), m3 22 (by decide) (by decide) (by decide), m3 23 (by decide) (by decide) (by decide)]
    intro o ho
    rw [hm]
    exact a5 o ho
  · intro x hx
    rw [l8 3 (by omega), m3 25 (by decide) (by decide) (by decide)]
    exact a6 x hx
  · intro l hl
    rw [l2] at hl
    rw [hN0]
    show j' 0 l = (i' 1 l).toInt64 * 0
    rw [Int64.mul_zero]
    by_cases q : l = c 0
    · rw [q]; exact l7
    · rw [l6 0 l (by omega)]
      have e := a7 l (by omega)
      rw [hN0] at e
      exact e.trans (Int64.mul_zero)
  · have hw : ∀ w, w < 2 → WC w i r M → WC w i' r' M := by
      intro w hw hW
      unfold WC at *
      rw [hi 16 (by decide), hi 17 (by decide), l8 0 (by omega), l8 1 (by omega), l8 2 (by omega)]
      rcases hW with z | ⟨m, z1, z2, z3⟩
      · exact Or.inl z
      · refine Or.inr ⟨m, z1, z2, ?_⟩
        intro a b ha hb
        rw [l8 _ (by omega)]
        exact z3 a b ha hb
    exact ⟨hw 0 (by decide) a8.1, hw 1 (by decide) a8.2⟩
theorem st_line (h : RELn c i j p r s M N) {x y : Int32} (hQ : (¬ isIx x 10 = 0 ∧ (0 ≤ y ∧ y ≤ 500) ∧ (c 0) < 6 ∧ ¬ 0 < mi s 1 ∧ v' = some (.int (nI (c 0))) ∧ s' = muI (muR (muR (muR (muI s 0 0) 7 (6 * (c 0)) x) 8 (c 0) 1) 6 (c 0) y) 10 (nI (c 0) + 1)) ∨ (∃ cc : Int32, v' = some (.int 0) ∧ s' = muI s 0 cc ∧ ((cc = 1 ∧ isIx x 10 = 0) ∨ (cc = 2 ∧ ¬ isIx x 10 = 0 ∧ ¬ (0 ≤ y ∧ y ≤ 500)) ∨ (cc = 3 ∧ ¬ isIx x 10 = 0 ∧ (0 ≤ y ∧ y ≤ 500) ∧ ((c 0) = 6 ∨ 0 < mi s 1))))) {a : Nat} (ha : a < 10) (hx : x = nI a) (hok : ¬ y < 0 ∧ ¬ 500 < y) (hst : c 0 < 6 ∧ i 18 0 = 0) (hR : LRr c i j r c' i' j' r' x y) : mi s' 0 = 0 ∧ v' = some (.int (nI (c 0))) ∧ RELn c' i' j' p r' s' M N := by
  have hN := now0 h
  have hN0 := hN.1.mp hst.2
  rcases hQ with ⟨-, -, -, -, hv, hs⟩ | ⟨c1, -, -, z⟩
  · subst hx
    rw [hs]
    exact ⟨rfl, hv, h.line hN0 hst.1 ha hR⟩
  · rcases z with ⟨-, z⟩ | ⟨-, -, z⟩ | ⟨-, -, -, z⟩
    · exact absurd z (ix_JN.mpr ⟨a, ha, hx⟩)
    · exact absurd ((rngI (a := 0) (b := 500) (by decide) (by decide)).mpr hok) z
    · exact z.elim (fun z => by omega) (fun z => absurd z (hN.2.1.mpr hN0))
theorem stx_line (h : RELn c i j p r s M N) {x y : Int32} (hQ : (¬ isIx x 10 = 0 ∧ (0 ≤ y ∧ y ≤ 500) ∧ (c 0) < 6 ∧ ¬ 0 < mi s 1 ∧ v' = some (.int (nI (c 0))) ∧ s' = muI (muR (muR (muR (muI s 0 0) 7 (6 * (c 0)) x) 8 (c 0) 1) 6 (c 0) y) 10 (nI (c 0) + 1)) ∨ (∃ cc : Int32, v' = some (.int 0) ∧ s' = muI s 0 cc ∧ ((cc = 1 ∧ isIx x 10 = 0) ∨ (cc = 2 ∧ ¬ isIx x 10 = 0 ∧ ¬ (0 ≤ y ∧ y ≤ 500)) ∨ (cc = 3 ∧ ¬ isIx x 10 = 0 ∧ (0 ≤ y ∧ y ≤ 500) ∧ ((c 0) = 6 ∨ 0 < mi s 1))))) {X : Int32} (hX : (X = 1 ∧ ¬ JN x) ∨ (X = 2 ∧ JN x ∧ ¬ (¬ y < 0 ∧ ¬ 500 < y)) ∨ (X = 3 ∧ JN x ∧ (¬ y < 0 ∧ ¬ 500 < y) ∧ ¬ (c 0 < 6 ∧ i 18 0 = 0))) : mi s' 0 = X ∧ RELn c i j p r s' M N := by
  have hN := now0 h
  have hB := h.b
  have q2 : (0 ≤ y ∧ y ≤ 500) ↔ (¬ y < 0 ∧ ¬ 500 < y) := rngI (a := 0) (b := 500) (by decide) (by decide)
  rw [q2] at hQ
  rcases hQ with ⟨q1, q2, q3, q4, hv, hs⟩ | ⟨c1, -, hs, z⟩
  · exfalso
    rcases hX with ⟨-, z⟩ | ⟨-, -, z⟩ | ⟨-, -, -, z⟩
    · exact z (ix_JN.mp q1)
    · exact z q2
    · exact z ⟨q3, hN.1.mpr (hN.2.1.mp q4)⟩
  · have e : c1 = X := by
      rw [ix_JN] at z
      rcases z with ⟨e, z⟩ | ⟨e, z1, z⟩ | ⟨e, z1, z2, z⟩ <;> rcases hX with ⟨E, y⟩ | ⟨E, y1, y⟩ | ⟨E, y1, y3, y⟩
      · rw [e, E]
      · exact absurd z (ix_JN.mpr y1)
      · exact absurd z (ix_JN.mpr y1)
      · exact absurd z1 y
      · rw [e, E]
      · exact absurd y3 z
      · exact absurd z1 y
      · exact absurd z2 y
      · rw [e, E]
    rw [hs, ← e]
    exact ⟨mi0_mu, h.mu c1⟩
theorem mstp {s : mS} {z k : Nat} {x y : Int32} {g : Nat → Int32} : (∀ f, f ≠ 0 → mi (muR (muR (muI (mFar s g) 0 0) 7 z x) 8 k y) f = mi s f) ∧ (∀ f, f ≠ 7 → f ≠ 8 → f ≤ 25 → mr (muR (muR (muI (mFar s g) 0 0) 7 z x) 8 k y) f = mr s f) ∧ mr (muR (muR (muI (mFar s g) 0 0) 7 z x) 8 k y) 7 = upd (mr s 7) z x ∧ mr (muR (muR (muI (mFar s g) 0 0) 7 z x) 8 k y) 8 = upd (mr s 8) k y := by
  refine ⟨fun f h0 => va_up_ne _ _ h0, fun f h7 h8 h25 => ?_, rfl, rfl⟩
  show va_up (va_up (va_up s.2.1 26 g) 7 _) 8 _ f = _
  rw [va_up_ne _ _ h8, va_up_ne _ _ h7, va_up_ne _ _ (by omega)]
theorem RELn.stop (h : RELn c i j p r s M N) (hN0 : N = 0) {k n b : Nat} (hk : k < c 0) (hn : n + 1 < 6) (h0 : i 0 k = nI (n + 1)) (hb : b < 10) (hd : dst (Ed (r 0) (r 1) (r 2) 0 M) (tn (r (24 + k) n)) b < FAR) {g : Nat → Int32} : RELn c (up2 i 0 k (nI (n + 1) + 1)) j p (up2 r (24 + k) (n + 1) (nI b)) (muR (muR (muI (mFar s g) 0 0) 7 (6 * k + (n + 1)) (nI b)) 8 k (nI (n + 2))) M N := by
  obtain ⟨m1, m3, m7, m8⟩ := mstp (s := s) (z := 6 * k + (n + 1)) (k := k) (x := nI b) (y := nI (n + 2)) (g := g)
  generalize hs' : muR (muR (muI (mFar s g) 0 0) 7 (6 * k + (n + 1)) (nI b)) 8 k (nI (n + 2)) = s' at *
  have hl9 : ∀ f, ml s' f = ml s f := fun f => by rw [← hs']; rfl
  have hi : ∀ f, f ≠ 0 → up2 i 0 k (nI (n + 1) + 1) f = i f := fun f hf => up2_nf hf
  have hr : ∀ f, f ≠ 24 + k → up2 r (24 + k) (n + 1) (nI b) f = r f := fun f hf => up2_nf hf
  obtain ⟨a1, a2, a3, a4, a5, a6, a7, a8⟩ := h
  refine ⟨?_, ?_, ?_, ?_, ?_, ?_, ?_, ?_⟩
  · unfold RN at *
    rw [hi 15 (by decide), hi 18 (by decide), m1 5 (by decide), m1 10 (by decide), m1 21 (by decide), m1 24 (by decide), m1 1 (by decide), hl9, hl9]
    exact a1
  · unfold RLn at *
    rw [hr 0 (by omega), hr 1 (by omega), hr 2 (by omega), m3 2 (by decide) (by decide) (by decide), m3 3 (by decide) (by decide) (by decide), m3 4 (by decide) (by decide) (by decide)]
    exact a2
  · intro l hl
    obtain ⟨g1, g2, n', hn', g3, g4, g5, g6⟩ := a3 l hl
    unfold RL1
    rw [hi 1 (by decide), hr 0 (by omega), hr 1 (by omega), hr 2 (by omega), m3 6 (by decide) (by decide) (by decide), m7, m8, hl9]
    refine ⟨g1, g2, ?_⟩
    by_cases q : l = k
    · subst q
      have en : n' = n := by
        have := nI_inj (by omega) (by omega) (g3.symm.trans h0)
        omega
      subst en
      rw [up2_self, upd_at', nI_1]
      refine ⟨n' + 1, hn, rfl, rfl, fun q hq => ?_, fun q hq => ?_⟩
      · by_cases e : q = n' + 1
        · rw [e, up2_self, upd_at']
          exact ⟨rfl, b, hb, rfl⟩
        · rw [up2_na e, upd_ne' (by omega)]
          exact g5 q (by omega)
      · rw [up2_na (show q ≠ n' + 1 by omega)]
        by_cases e : q = n'
        · rw [e, up2_self, tn_nI (by omega)]
          exact hd
        · rw [up2_na (show q + 1 ≠ n' + 1 by omega)]
          exact g6 q (by omega)
    · rw [up2_na q, hr (24 + l) (by omega), upd_ne' q]
      refine ⟨n', hn', g3, g4, fun x hx => ?_, g6⟩
      rw [upd_ne' (by omega)]
      exact g5 x hx
  · intro k' hk'
    have g := a4 k' hk'
    unfold RP1 at *
    rw [hi 5 (by decide), hi 6 (by decide), hi 7 (by decide), hi 8 (by decide), hi 9 (by decide), hi 10 (by decide), hi 11 (by decide), hi 12 (by decide), hi 13 (by decide), hi 14 (by decide), hi 2 (by decide), m3 11 (by decide) (by decide) (by decide), m3 12 (by decide) (by decide) (by decide), m3 13 (by decide) (by decide) (by decide), m3 14 (by decide) (by decide) (by decide), m3 15 (by decide) (by decide) (by decide), m3 16 (by decide) (by decide) (by decide), m3 17 (by decide) (by decide) (by decide), m3 18 (by decide) (by decide) (by decide), m3 19 (by decide) (by decide) (by decide), hl9]
    exact g
  · have hm : ∀ o, mtg s' o (c 2) = mtg s o (c 2) := fun o => mtg_congr (by have := a1.2.2.2.2.2.2.1; omega) (fun b _ => by unfold in0; rw [m3 17 (by decide) (by decide) (by decide), m3 19 (by decide) (by decide) (by decide)])
    unfold ROp at *
    rw [hi 3 (by decide), hi 4 (by decide), m3 22 (by decide) (by decide) (by decide), m3 23 (by decide) (by decide) (by decide)]
    intro o ho
    rw [hm]
    exact a5 o ho
  · intro x hx
    rw [hr 3 (by omega), m3 25 (by decide) (by decide) (by decide)]
    exact a6 x hx
  · intro l hl
    have e := a7 l hl
    rw [hN0] at e ⊢
    rw [hi 1 (by decide)]
    exact e
  · have hw : ∀ w, w < 2 → WC w i r M → WC w (up2 i 0 k (nI (n + 1) + 1)) (up2 r (24 + k) (n + 1) (nI b)) M := by
      intro w hw hW
      unfold WC at *
      rw [hi 16 (by decide), hi 17 (by decide), hr 0 (by omega), hr 1 (by omega), hr 2 (by omega)]
      rcases hW with z | ⟨m, z1, z2, z3⟩
      · exact Or.inl z
      · refine Or.inr ⟨m, z1, z2, ?_⟩
        intro a b ha hb
        rw [hr _ (by omega)]
        exact z3 a b ha hb
    exact ⟨hw 0 (by decide) a8.1, hw 1 (by decide) a8.2⟩
theorem stp_last (h : RELn c i j p r s M N) {k n : Nat} (hk : k < c 0) (h0 : i 0 k = nI (n + 1)) (hn : n < 6) : mr s 8 k = nI (n + 1) ∧ r (24 + k) n = nI (mst s k n) ∧ mst s k n < 10 := by
  obtain ⟨-, -, n', hn', g3, g4, g5, -⟩ := h.li k hk
  have en : n' = n := by
    have := nI_inj (by omega) (by omega) (g3.symm.trans h0)
    omega
  subst en
  obtain ⟨e1, b, e2, e3⟩ := g5 n' (Nat.lt_succ_self _)
  unfold mst
  rw [e1, e3, tn_nI (by omega)]
  exact ⟨g4, rfl, e2⟩
theorem can_stp (h : RELn c i j p r s M N) {k n b : Nat} (hk : k < c 0) (h0 : i 0 k = nI (n + 1)) (hn : n < 6) : (n + 1 < 6 ∧ i 18 0 = 0 ∧ ¬ wy (Ed (r 0) (r 1) (r 2) 0 M) (tn (r (24 + k) n)) b = -1) ↔ (n + 1 < 6 ∧ mi s 1 = 0 ∧ ¬ (1000000 : Int32) ≤ mds s 0 M (mst s k n) b) := by
  obtain ⟨-, e1, e2⟩ := stp_last h hk h0 hn
  rw [e1, tn_nI (by omega), (now0 h).1, (now0 h).2.2]
  apply and_congr Iff.rfl
  apply and_congr Iff.rfl
  unfold mds wy
  rw [← Ed_eq h.ln (cl := 0) (cl' := 0) (fun _ _ => Iff.rfl)]
  have hle := dst_le (Ed (r 0) (r 1) (r 2) 0 M) (mst s k n) b
  apply not_congr
  rw [← FAR_nI, nI_leI (by decide) (Nat.lt_of_le_of_lt hle (by decide))]
  by_cases hd : dst (Ed (r 0) (r 1) (r 2) 0 M) (mst s k n) b < FAR
  · rw [if_pos hd]
    exact ⟨fun e => absurd e.symm (nI_nm1 (Nat.lt_trans hd (by decide))), fun e => absurd e (Nat.not_le.mpr hd)⟩
  · rw [if_neg hd]
    exact ⟨fun _ => Nat.not_lt.mp hd, fun _ => rfl⟩
theorem wy_far {E : Nat → Nat → Nat → Prop} {a b : Nat} (h : ¬ wy E a b = -1) : dst E a b < FAR := Classical.byContradiction fun z => h (if_neg z)
theorem st_stop (h : RELn c i j p r s M N) {x y : Int32} (hQ : (∃ k b n, k < (c 0) ∧ x = nI k ∧ b < 10 ∧ y = nI b ∧ n < 6 ∧ mr s 8 k = nI (n + 1) ∧ ¬ mst s k n = b ∧ (n + 1 < 6 ∧ mi s 1 = 0 ∧ ¬ (1000000 : Int32) ≤ mds s 0 M (mst s k n) b) ∧ v' = some (.int (nI (n + 2))) ∧ ∃ g, s' = muR (muR (muI (mFar s g) 0 0) 7 (6 * k + (n + 1)) (nI b)) 8 k (nI (n + 2))) ∨ (¬ ((∃ k, k < (c 0) ∧ x = nI k) ∧ JN y) ∧ v' = some (.int 0) ∧ s' = muI s 0 1) ∨ (∃ k b n, k < (c 0) ∧ x = nI k ∧ b < 10 ∧ y = nI b ∧ n < 6 ∧ mr s 8 k = nI (n + 1) ∧ mst s k n = b ∧ v' = some (.int 0) ∧ ∃ g, s' = muI (mFar s g) 0 2) ∨ (∃ k b n, k < (c 0) ∧ x = nI k ∧ b < 10 ∧ y = nI b ∧ n < 6 ∧ mr s 8 k = nI (n + 1) ∧ ¬ mst s k n = b ∧ ¬ (n + 1 < 6 ∧ mi s 1 = 0 ∧ ¬ (1000000 : Int32) ≤ mds s 0 M (mst s k n) b) ∧ v' = some (.int 0) ∧ ∃ g, s' = muI (mFar s g) 0 3)) {k b n : Nat} (hk : k < c 0) (hx : x = nI k) (hb : b < 10) (hy : y = nI b) (hn : n < 6) (h0 : i 0 k = nI (n + 1)) (hne : ¬ r (24 + k) n = y) (hcan : n + 1 < 6 ∧ i 18 0 = 0 ∧ ¬ wy (Ed (r 0) (r 1) (r 2) 0 M) (tn (r (24 + k) n)) b = -1) : mi s' 0 = 0 ∧ v' = some (.int (nI (n + 2))) ∧ RELn c (up2 i 0 k (nI (n + 1) + 1)) j p (up2 r (24 + k) (n + 1) y) s' M N := by
  have hB := h.b
  obtain ⟨e1, e2, e3⟩ := stp_last h hk h0 hn
  have hcm := (can_stp h hk h0 hn).mp hcan
  have same : ∀ k' b' n', k' < c 0 → x = nI k' → b' < 10 → y = nI b' → n' < 6 → mr s 8 k' = nI (n' + 1) → k' = k ∧ b' = b ∧ n' = n := by
    intro k' b' n' g1 g2 g3 g4 g5 g6
    have z1 : k' = k := nI_inj (by omega) (by omega) (g2.symm.trans hx)
    subst z1
    have z2 : b' = b := nI_inj (by omega) (by omega) (g4.symm.trans hy)
    have z3 := nI_inj (by omega) (by omega) (g6.symm.trans e1)
    exact ⟨rfl, z2, by omega⟩
  rcases hQ with ⟨k', b', n', g1, g2, g3, g4, g5, g6, -, -, hv, g, hs⟩ | ⟨z, -⟩ | ⟨k', b', n', g1, g2, g3, g4, g5, g6, z, -⟩ | ⟨k', b', n', g1, g2, g3, g4, g5, g6, -, z, -⟩
  · obtain ⟨q1, q2, q3⟩ := same k' b' n' g1 g2 g3 g4 g5 g6
    subst q1
    subst q2
    subst q3
    subst hy
    rw [hs]
    exact ⟨rfl, hv, h.stop ((now0 h).1.mp hcan.2.1) hk hcan.1 h0 hb (wy_far hcan.2.2)⟩
  · exact absurd ⟨⟨k, hk, hx⟩, ⟨b, hb, hy⟩⟩ z
  · obtain ⟨q1, q2, q3⟩ := same k' b' n' g1 g2 g3 g4 g5 g6
    subst q1
    subst q2
    subst q3
    exact absurd (by rw [e2, z, hy]) hne
  · obtain ⟨q1, q2, q3⟩ := same k' b' n' g1 g2 g3 g4 g5 g6
    subst q1
    subst q2
    subst q3
    exact absurd hcm z
theorem stx_stop (h : RELn c i j p r s M N) {x y : Int32} (hQ : (∃ k b n, k < (c 0) ∧ x = nI k ∧ b < 10 ∧ y = nI b ∧ n < 6 ∧ mr s 8 k = nI (n + 1) ∧ ¬ mst s k n = b ∧ (n + 1 < 6 ∧ mi s 1 = 0 ∧ ¬ (1000000 : Int32) ≤ mds s 0 M (mst s k n) b) ∧ v' = some (.int (nI (n + 2))) ∧ ∃ g, s' = muR (muR (muI (mFar s g) 0 0) 7 (6 * k + (n + 1)) (nI b)) 8 k (nI (n + 2))) ∨ (¬ ((∃ k, k < (c 0) ∧ x = nI k) ∧ JN y) ∧ v' = some (.int 0) ∧ s' = muI s 0 1) ∨ (∃ k b n, k < (c 0) ∧ x = nI k ∧ b < 10 ∧ y = nI b ∧ n < 6 ∧ mr s 8 k = nI (n + 1) ∧ mst s k n = b ∧ v' = some (.int 0) ∧ ∃ g, s' = muI (mFar s g) 0 2) ∨ (∃ k b n, k < (c 0) ∧ x = nI k ∧ b < 10 ∧ y = nI b ∧ n < 6 ∧ mr s 8 k = nI (n + 1) ∧ ¬ mst s k n = b ∧ ¬ (n + 1 < 6 ∧ mi s 1 = 0 ∧ ¬ (1000000 : Int32) ≤ mds s 0 M (mst s k n) b) ∧ v' = some (.int 0) ∧ ∃ g, s' = muI (mFar s g) 0 3)) {X : Int32} (hX : (X = 1 ∧ ¬ ((∃ k, k < c 0 ∧ x = nI k) ∧ JN y)) ∨ (X = 2 ∧ ∃ k b n, k < c 0 ∧ x = nI k ∧ b < 10 ∧ y = nI b ∧ n < 6 ∧ i 0 k = nI (n + 1) ∧ r (24 + k) n = y) ∨ (X = 3 ∧ ∃ k b n, k < c 0 ∧ x = nI k ∧ b < 10 ∧ y = nI b ∧ n < 6 ∧ i 0 k = nI (n + 1) ∧ ¬ r (24 + k) n = y ∧ ¬ (n + 1 < 6 ∧ i 18 0 = 0 ∧ ¬ wy (Ed (r 0) (r 1) (r 2) 0 M) (tn (r (24 + k) n)) b = -1))) : mi s' 0 = X ∧ RELn c i j p r s' M N := by
  have hB := h.b
  have same : ∀ k b n k' b' n', k < c 0 → x = nI k → b < 10 → y = nI b → n < 6 → i 0 k = nI (n + 1) → k' < c 0 → x = nI k' → b' < 10 → y = nI b' → n' < 6 → mr s 8 k' = nI (n' + 1) → k' = k ∧ b' = b ∧ n' = n := by
    intro k b n k' b' n' hk hx hb hy hn h0 g1 g2 g3 g4 g5 g6
    obtain ⟨e1, e2, e3⟩ := stp_last h hk h0 hn
    have z1 : k' = k := nI_inj (by omega) (by omega) (g2.symm.trans hx)
    subst z1
    have z2 : b' = b := nI_inj (by omega) (by omega) (g4.symm.trans hy)
    have z3 := nI_inj (by omega) (by omega) (g6.symm.trans e1)
    exact ⟨rfl, z2, by omega⟩
  have last : ∀ k b n, k < c 0 → y = nI b → b < 10 → n < 6 → i 0 k = nI (n + 1) → (r (24 + k) n = y ↔ mst s k n = b) := by
    intro k b n hk hy hb hn h0
    obtain ⟨e1, e2, e3⟩ := stp_last h hk h0 hn
    rw [e2, hy]
    exact ⟨fun z => nI_inj (by omega) (by omega) z, fun z => by rw [z]⟩
  rcases hQ with ⟨k', b', n', g1, g2, g3, g4, g5, g6, g7, g8, hv, g, hs⟩ | ⟨z, -, hs⟩ | ⟨k', b', n', g1, g2, g3, g4, g5, g6, z, -, g, hs⟩ | ⟨k', b', n', g1, g2, g3, g4, g5, g6, z1, z, -, g, hs⟩
  · exfalso
    rcases hX with ⟨-, y⟩ | ⟨-, k, b, n, y1, y2, y3, y4, y5, y6, y7⟩ | ⟨-, k, b, n, y1, y2, y3, y4, y5, y6, y7, y8⟩
    · exact y ⟨⟨k', g1, g2⟩, ⟨b', g3, g4⟩⟩
    · obtain ⟨q1, q2, q3⟩ := same k b n k' b' n' y1 y2 y3 y4 y5 y6 g1 g2 g3 g4 g5 g6
      subst q1
      subst q2
      subst q3
      exact g7 ((last k' b' n' y1 y4 y3 y5 y6).mp y7)
    · obtain ⟨q1, q2, q3⟩ := same k b n k' b' n' y1 y2 y3 y4 y5 y6 g1 g2 g3 g4 g5 g6
      subst q1
      subst q2
      subst q3
      exact y8 ((can_stp h y1 y6 y5).mpr g8)
  · rw [hs]
    rcases hX with ⟨E, y⟩ | ⟨-, k, b, n, y1, y2, y3, y4, y5, y6, y7⟩ | ⟨-, k, b, n, y1, y2, y3, y4, y5, y6, y7, y8⟩
    · rw [E]; exact ⟨mi0_mu, h.mu 1⟩
    · exact absurd ⟨⟨k, y1, y2⟩, ⟨b, y3, y4⟩⟩ z
    · exact absurd ⟨⟨k, y1, y2⟩, ⟨b, y3, y4⟩⟩ z
  · rw [hs]
    rcases hX with ⟨-, y⟩ | ⟨E, k, b, n, y1, y2, y3, y4, y5, y6, y7⟩ | ⟨-, k, b, n, y1, y2, y3, y4, y5, y6, y7, y8⟩
    · exact absurd ⟨⟨k', g1, g2⟩, ⟨b', g3, g4⟩⟩ y
    · rw [E]; exact ⟨mi0_mu (s := mFar s g), (h.far g).mu 2⟩
    · obtain ⟨q1, q2, q3⟩ := same k b n k' b' n' y1 y2 y3 y4 y5 y6 g1 g2 g3 g4 g5 g6
      subst q1
      subst q2
      subst q3
      exact absurd ((last k' b' n' y1 y4 y3 y5 y6).mpr z) y7
  · rw [hs]
    rcases hX with ⟨-, y⟩ | ⟨-, k, b, n, y1, y2, y3, y4, y5, y6, y7⟩ | ⟨E, k, b, n, y1, y2, y3, y4, y5, y6, y7, y8⟩
    · exact absurd ⟨⟨k', g1, g2⟩, ⟨b', g3, g4⟩⟩ y
    · obtain ⟨q1, q2, q3⟩ := same k b n k' b' n' y1 y2 y3 y4 y5 y6 g1 g2 g3 g4 g5 g6
      subst q1
      subst q2
      subst q3
      exact absurd ((last k' b' n' y1 y4 y3 y5 y6).mp y7) z1
    · rw [E]; exact ⟨mi0_mu (s := mFar s g), (h.far g).mu 3⟩
end ST
