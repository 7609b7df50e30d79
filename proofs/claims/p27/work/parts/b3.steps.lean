/-! what each call leaves of an office -/
section KL
variable {c c' : Nat → Nat} {i i' i1 i2 : Nat → Nat → Int32} {j j' : Nat → Nat → Int64} {p p' : Nat → Nat → Option Nat} {r r' r1 r2 R : Nat → Nat → Int32} {M N : Nat}
theorem up2_3 {r : Nat → Nat → Int32} {M : Nat} {x y t : Int32} : (∀ k, 3 ≤ k → up2 (up2 (up2 r 0 M x) 1 M y) 2 M t k = r k) ∧ (∀ f e, e ≠ M → up2 (up2 (up2 r 0 M x) 1 M y) 2 M t f e = r f e) ∧ up2 (up2 (up2 r 0 M x) 1 M y) 2 M t 0 M = x ∧ up2 (up2 (up2 r 0 M x) 1 M y) 2 M t 1 M = y ∧ up2 (up2 (up2 r 0 M x) 1 M y) 2 M t 2 M = t := by
  refine ⟨fun k hk => by rw [up2_nf (by omega), up2_nf (by omega), up2_nf (by omega)], fun f e he => ?_, ?_, ?_, by rw [up2_self]⟩
  · have h1 : ∀ (g : Nat → Nat → Int32) (a : Nat) (v : Int32), up2 g a M v f e = g f e := fun g a v => if_neg (fun z => he z.2)
    rw [h1, h1, h1]
  · rw [up2_nf (by decide), up2_nf (by decide), up2_self]
  · rw [up2_nf (by decide), up2_self]
theorem KN.addLane (h : KN c i j p r M N) (hN0 : N = 0) (hM : M < 24) (hc2 : c 2 = 0) {a b t : Nat} (ha : a < 10) (hb : b < 10) (hab : a ≠ b) (ht1 : 1 ≤ t) (ht : t ≤ 30) : KN c (up2 i 15 0 (nI M + 1)) j p (up2 (up2 (up2 r 0 M (nI a)) 1 M (nI b)) 2 M (nI t)) (M + 1) N := by
  obtain ⟨u3, ue, u0, u1, u2⟩ := up2_3 (r := r) (M := M) (x := nI a) (y := nI b) (t := nI t)
  generalize hr' : up2 (up2 (up2 r 0 M (nI a)) 1 M (nI b)) 2 M (nI t) = r' at *
  have hi : ∀ f, f ≠ 15 → up2 i 15 0 (nI M + 1) f = i f := fun f hf => up2_nf hf
  have hEd : ∀ cl m, m ≤ M → dst (Ed (r' 0) (r' 1) (r' 2) cl m) = dst (Ed (r 0) (r 1) (r 2) cl m) := fun cl m hm => dst_congr (Ed_congr (fun e he => ⟨ue 0 e (by omega), ue 1 e (by omega), ue 2 e (by omega)⟩))
  obtain ⟨a1, a2, a3, a4, a5, a6, a7⟩ := h
  refine ⟨?_, ?_, ?_, ?_, ?_, ?_, ?_⟩
  · unfold KNn at *
    rw [up2_self, hi 18 (by decide), nI_1]
    exact ⟨rfl, by omega, a1.2.2⟩
  · intro e he
    by_cases q : e = M
    · rw [q, u0, u1, u2]
      exact ⟨a, b, t, rfl, rfl, rfl, ha, hb, hab, ht1, ht⟩
    · rw [ue 0 e q, ue 1 e q, ue 2 e q]
      exact a2 e (by omega)
  · intro l hl
    obtain ⟨n, hn, g3, g5, g6⟩ := a3 l hl
    unfold KL1
    rw [hi 0 (by decide), u3 (24 + l) (by omega)]
    refine ⟨n, hn, g3, g5, fun k hk => ?_⟩
    refine dst_more (E := Ed (r 0) (r 1) (r 2) 0 M) (fun x y z hz => ?_) (g6 k hk)
    exact Ed_more (Nat.le_succ M) ((Ed_congr (fun e he => ⟨ue 0 e (by omega), ue 1 e (by omega), ue 2 e (by omega)⟩) x y z).mpr hz)
  · intro k hk
    rw [hc2] at hk
    omega
  · intro k hk
    have := a1.2.2.2.2.1
    omega
  · intro l hl
    have e := a6 l hl
    rw [hN0] at e ⊢
    rw [hi 1 (by decide)]
    exact e
  · have hw : ∀ w, w < 2 → WC w i r M → WC w (up2 i 15 0 (nI M + 1)) r' (M + 1) := by
      intro w hw hW
      unfold WC at *
      rw [hi 16 (by decide), hi 17 (by decide)]
      rcases hW with z | ⟨m, z1, z2, z3⟩
      · exact Or.inl z
      · refine Or.inr ⟨m, by omega, z2, ?_⟩
        rw [hEd _ m z1]
        intro a b ha hb
        rw [u3 _ (by omega)]
        exact z3 a b ha hb
    exact ⟨hw 0 (by decide) a7.1, hw 1 (by decide) a7.2⟩
theorem KN.addLine (h : KN c i j p r M N) (hN0 : N = 0) (hl6 : c 0 < 6) {a : Nat} {y : Int32} (ha : a < 10) (hR : LRr c i j r c' i' j' r' (nI a) y) : KN c' i' j' p r' M N := by
  obtain ⟨l1, l2, l3, l4, l5, l6, l7, l8, l9⟩ := hR
  have hi : ∀ f, 2 ≤ f → i' f = i f := fun f hf => by funext k; exact l3 f k (by omega)
  have hj : ∀ f, f ≠ 0 → j' f = j f := fun f hf => by funext k; exact l6 f k (fun z => hf z.1)
  have e1 : c' 1 = c 1 := l1 1 (by decide) (by decide)
  have e2 : c' 2 = c 2 := l1 2 (by decide) (by decide)
  obtain ⟨a1, a2, a3, a4, a5, a6, a7⟩ := h
  refine ⟨?_, ?_, ?_, ?_, ?_, ?_, ?_⟩
  · unfold KNn at *
    rw [e1, e2, l2, hi 15 (by decide), hi 18 (by decide)]
    exact ⟨a1.1, a1.2.1, by omega, a1.2.2.2⟩
  · unfold KLn at *
    rw [l8 0 (by omega), l8 1 (by omega), l8 2 (by omega)]
    exact a2
  · intro l hl
    rw [l2] at hl
    unfold KL1
    rw [l8 0 (by omega), l8 1 (by omega), l8 2 (by omega)]
    by_cases q : l = c 0
    · rw [q, l4]
      refine ⟨0, by decide, rfl, fun k hk => ?_, fun k hk => by omega⟩
      rw [show k = 0 by omega]
      exact ⟨a, ha, l9⟩
    · obtain ⟨n, hn, g3, g5, g6⟩ := a3 l (by omega)
      rw [l3 0 l (by omega), l8 (24 + l) (by omega)]
      exact ⟨n, hn, g3, g5, g6⟩
  · intro k hk
    rw [e2] at hk
    have g := a4 k hk
    unfold KP1 at *
    rw [e1, hi 5 (by decide), hi 6 (by decide), hi 7 (by decide), hi 8 (by decide), hi 9 (by decide), hi 10 (by decide), hi 11 (by decide), hi 12 (by decide), hi 13 (by decide), hi 14 (by decide), hi 2 (by decide)]
    exact g
  · intro k hk
    rw [e1] at hk
    have g := a5 k hk
    unfold KO1 at *
    rw [e2, hi 3 (by decide), hi 4 (by decide), hi 10 (by decide), hi 11 (by decide), hj 1 (by decide)]
    exact g
  · intro l hl
    rw [l2] at hl
    rw [hN0]
    show j' 0 l = (i' 1 l).toInt64 * 0
    rw [Int64.mul_zero]
    by_cases q : l = c 0
    · rw [q]; exact l7
    · rw [l6 0 l (by omega)]
      have e := a6 l (by omega)
      rw [hN0] at e
      exact e.trans (Int64.mul_zero)
  · have hw : ∀ w, w < 2 → WC w i r M → WC w i' r' M := by
      intro w hw hW
      unfold WC at *
      rw [hi 16 (by decide), hi 17 (by decide), l8 0 (by omega), l8 1 (by omega), l8 2 (by omega)]
      rcases hW with z | ⟨m, z1, z2, z3⟩
      · exact Or.inl z
      · refine Or.inr ⟨m, z1, z2, ?_⟩
        intro a b ha hb
        rw [l8 _ (by omega)]
        exact z3 a b ha hb
    exact ⟨hw 0 (by decide) a7.1, hw 1 (by decide) a7.2⟩
theorem KN.addStop (h : KN c i j p r M N) (hN0 : N = 0) {k n b : Nat} (hk : k < c 0) (hn : n + 1 < 6) (h0 : i 0 k = nI (n + 1)) (hb : b < 10) (hd : dst (Ed (r 0) (r 1) (r 2) 0 M) (tn (r (24 + k) n)) b < FAR) : KN c (up2 i 0 k (nI (n + 1) + 1)) j p (up2 r (24 + k) (n + 1) (nI b)) M N := by
  have hi : ∀ f, f ≠ 0 → up2 i 0 k (nI (n + 1) + 1) f = i f := fun f hf => up2_nf hf
  have hr : ∀ f, f ≠ 24 + k → up2 r (24 + k) (n + 1) (nI b) f = r f := fun f hf => up2_nf hf
  obtain ⟨a1, a2, a3, a4, a5, a6, a7⟩ := h
  refine ⟨?_, ?_, ?_, ?_, ?_, ?_, ?_⟩
  · unfold KNn at *
    rw [hi 15 (by decide), hi 18 (by decide)]
    exact a1
  · unfold KLn at *
    rw [hr 0 (by omega), hr 1 (by omega), hr 2 (by omega)]
    exact a2
  · intro l hl
    obtain ⟨n', hn', g3, g5, g6⟩ := a3 l hl
    unfold KL1
    rw [hr 0 (by omega), hr 1 (by omega), hr 2 (by omega)]
    by_cases q : l = k
    · subst q
      have en : n' = n := by
        have := nI_inj (by omega) (by omega) (g3.symm.trans h0)
        omega
      subst en
      rw [up2_self, nI_1]
      refine ⟨n' + 1, hn, rfl, fun q hq => ?_, fun q hq => ?_⟩
      · by_cases e : q = n' + 1
        · rw [e, up2_self]
          exact ⟨b, hb, rfl⟩
        · rw [up2_na e]
          exact g5 q (by omega)
      · rw [up2_na (show q ≠ n' + 1 by omega)]
        by_cases e : q = n'
        · rw [e, up2_self, tn_nI (by omega)]
          exact hd
        · rw [up2_na (show q + 1 ≠ n' + 1 by omega)]
          exact g6 q (by omega)
    · rw [up2_na q, hr (24 + l) (by omega)]
      exact ⟨n', hn', g3, g5, g6⟩
  · intro k' hk'
    have g := a4 k' hk'
    unfold KP1 at *
    rw [hi 5 (by decide), hi 6 (by decide), hi 7 (by decide), hi 8 (by decide), hi 9 (by decide), hi 10 (by decide), hi 11 (by decide), hi 12 (by decide), hi 13 (by decide), hi 14 (by decide), hi 2 (by decide)]
    exact g
  · intro k' hk'
    have g := a5 k' hk'
    unfold KO1 at *
    rw [hi 3 (by decide), hi 4 (by decide), hi 10 (by decide), hi 11 (by decide)]
    exact g
  · intro l hl
    have e := a6 l hl
    rw [hN0] at e ⊢
    rw [hi 1 (by decide)]
    exact e
  · have hw : ∀ w, w < 2 → WC w i r M → WC w (up2 i 0 k (nI (n + 1) + 1)) (up2 r (24 + k) (n + 1) (nI b)) M := by
      intro w hw hW
      unfold WC at *
      rw [hi 16 (by decide), hi 17 (by decide), hr 0 (by omega), hr 1 (by omega), hr 2 (by omega)]
      rcases hW with z | ⟨m, z1, z2, z3⟩
      · exact Or.inl z
      · refine Or.inr ⟨m, z1, z2, ?_⟩
        intro a b ha hb
        rw [hr _ (by omega)]
        exact z3 a b ha hb
    exact ⟨hw 0 (by decide) a7.1, hw 1 (by decide) a7.2⟩
theorem WV_3 (hq : ∀ k, k ≠ 3 → R k = r k) (h : WV i r M) : WV i R M := by
  have hw : ∀ w, w < 2 → WC w i r M → WC w i R M := by
    intro w hw hW
    unfold WC at *
    rw [hq 0 (by decide), hq 1 (by decide), hq 2 (by decide)]
    rcases hW with z | ⟨m, z1, z2, z3⟩
    · exact Or.inl z
    · refine Or.inr ⟨m, z1, z2, ?_⟩
      intro a b ha hb
      rw [hq _ (by omega)]
      exact z3 a b ha hb
  exact ⟨hw 0 (by decide) h.1, hw 1 (by decide) h.2⟩
/-- points move -/
theorem KN.pts (h : KN c i j p r M N) (hq : ∀ k, k ≠ 3 → R k = r k) : KN c i j p R M N := by
  obtain ⟨a1, a2, a3, a4, a5, a6, a7⟩ := h
  refine ⟨a1, ?_, ?_, a4, a5, ?_, WV_3 hq a7⟩
  · unfold KLn at *
    rw [hq 0 (by decide), hq 1 (by decide), hq 2 (by decide)]
    exact a2
  · intro l hl
    have := a3 l hl
    unfold KL1 at *
    rw [hq 0 (by decide), hq 1 (by decide), hq 2 (by decide), hq (24 + l) (by omega)]
    exact this
  · intro l hl
    rw [SHR_congr (i := i) (r := r) (M := M) (n2 := c 2) (fun x hx => by rw [exL_same rfl (hq 0 (by decide)) (hq 1 (by decide)) (hq 2 (by decide)) (hq (24 + l) (by omega))])]
    exact a6 l hl
/-- which permits are open at an hour, by their hours -/
theorem KN.open_at (h : KN c i j p r M N) {k : Nat} (hk : k < c 2) {x : Nat} (h1 : N ≤ x) (h2 : x < 2 ^ 30) : (i 13 k ≠ -1 ∧ i 13 k ≤ nI x ∧ (i 14 k = -1 ∨ nI x < i 14 k)) ↔ i 11 k = 2 := by
  have hB := h.b
  have g := (h.pm k hk).2.2.2.2.2.2.1
  rcases g with ⟨g1, g2, -⟩ | ⟨g1, b, g2, g3, g4⟩ | ⟨g1, b, f, g2, g3, g4, g5⟩
  · constructor
    · rintro ⟨z, -⟩; exact absurd g2 z
    · intro z; rw [z] at g1; exact absurd g1 (by decide)
  · rw [g3, g4, g1]
    exact ⟨fun _ => rfl, fun _ => ⟨fun e => absurd e.symm (nI_nm1 (by omega)), (nI_leI (by omega) (by omega)).mpr (by omega), Or.inl rfl⟩⟩
  · rw [g1, g5]
    constructor
    · rintro ⟨-, -, z⟩
      rcases z with z | z
      · exact absurd z.symm (nI_nm1 (by omega))
      · have := (nI_ltI (by omega) (by omega)).mp z
        omega
    · intro z; exact absurd z (by decide)
theorem cl_or (st ln : Nat → Int32) (n : Nat) : clM st ln none n = orM (fun k => st k = 2) ln n := by
  induction n with
  | zero => rfl
  | succ n ih =>
    by_cases g : st n = 2
    · rw [orM_t g, ← ih]
      exact if_pos ⟨g, by simp⟩
    · rw [orM_f g, ← ih]
      exact if_neg (fun z => g z.1)
theorem KN.cd_now (h : KN c i j p r M N) {x : Nat} (h1 : N ≤ x) (h2 : x < 2 ^ 30) : cdM i (nI x) (c 2) = clM (fun k => i 11 k) (fun k => i 7 k) none (c 2) := by
  rw [cl_or]
  unfold cdM
  apply orM_congr
  intro k hk
  exact h.open_at hk h1 h2
theorem hr_keep {n2 : Nat} {J0 : Nat → Nat → Int64} (n : Nat) : (∀ f, f ≠ 2 → (hrS i p n2 (J0, r) n).1 f = J0 f) ∧ (∀ k, k ≠ 3 → (hrS i p n2 (J0, r) n).2 k = r k) ∧ ∀ k, ¬ i 11 k = 2 → (hrS i p n2 (J0, r) n).1 2 k = J0 2 k := by
  induction n with
  | zero => exact ⟨fun _ _ => rfl, fun _ _ => rfl, fun _ _ => rfl⟩
  | succ n ih =>
    obtain ⟨x1, x2, x3⟩ := ih
    refine ⟨fun f hf => ?_, fun k hk => ?_, fun k hk => ?_⟩
    · rw [← x1 f hf]
      funext k
      exact cIf_f (fun z => hf z.1)
    · rw [← x2 k hk]
      exact phE_o hk
    · rw [← x3 k hk]
      refine cIf_f (fun z => hk ?_)
      have := z.2.2.1
      rw [nwI_o (by decide)] at this
      exact this
/-- the office behind some hours -/
theorem KN.pass (h : KN c i j p r M N) {H : Nat} (hH : H ≤ 200) (hNH : N + H ≤ 5000) (hS1 : SC i r i1 r1) (hS : SC i r i2 r2) (hV : WV i2 r2 M) {JJ : Nat → Nat → Int64} {RR : Nat → Nat → Int32} (hJR : (JJ, RR) = hrS i2 p (c 2) ((wgJ i1 (cmJ i j r (clM (fun k => i 11 k) (fun k => i 7 k) none (c 2)) (nI H) M (c 0)) r1 (clM (fun k => i 11 k) (fun k => i 7 k) none (c 2)) M (c 0) (c 2) (c 2)), r2) H) : KN c (nwI i2 H) JJ p RR M (N + H) ∧ (∀ l, l < c 0 → JJ 0 l = j 0 l + lN H * (i 1 l).toInt64 * (exL i r (clM (fun k => i 11 k) (fun k => i 7 k) none (c 2)) M l).toInt64) ∧ (∀ k, ¬ i 11 k = 2 → JJ 2 k = j 2 k) := by
  have hB := h.b
  have hN := h.now
  obtain ⟨x1, x2, x3⟩ := hr_keep (i := i2) (p := p) (r := r2) (n2 := c 2) (J0 := wgJ i1 (cmJ i j r (clM (fun k => i 11 k) (fun k => i 7 k) none (c 2)) (nI H) M (c 0)) r1 (clM (fun k => i 11 k) (fun k => i 7 k) none (c 2)) M (c 0) (c 2) (c 2)) H
  rw [← hJR] at x1 x2 x3
  have x1 : ∀ f, f ≠ 2 → JJ f = _ := x1
  have x2 : ∀ k, k ≠ 3 → RR k = r2 k := x2
  have x3 : ∀ k, ¬ i2 11 k = 2 → JJ 2 k = _ := x3
  have j0 : ∀ f, f ≠ 3 → f ≠ 0 → (wgJ i1 (cmJ i j r (clM (fun k => i 11 k) (fun k => i 7 k) none (c 2)) (nI H) M (c 0)) r1 (clM (fun k => i 11 k) (fun k => i 7 k) none (c 2)) M (c 0) (c 2) (c 2)) f = j f := fun f h3 h0 => by
    funext k
    rw [show (wgJ i1 (cmJ i j r (clM (fun k => i 11 k) (fun k => i 7 k) none (c 2)) (nI H) M (c 0)) r1 (clM (fun k => i 11 k) (fun k => i 7 k) none (c 2)) M (c 0) (c 2) (c 2)) f k = _ from if_neg (fun z => h3 z.1)]
    exact if_neg (fun z => h0 z.1)
  have j00 : ∀ l, l < c 0 → (wgJ i1 (cmJ i j r (clM (fun k => i 11 k) (fun k => i 7 k) none (c 2)) (nI H) M (c 0)) r1 (clM (fun k => i 11 k) (fun k => i 7 k) none (c 2)) M (c 0) (c 2) (c 2)) 0 l = j 0 l + lN H * (i 1 l).toInt64 * (exL i r (clM (fun k => i 11 k) (fun k => i 7 k) none (c 2)) M l).toInt64 := fun l hl => by
    rw [show (wgJ i1 (cmJ i j r (clM (fun k => i 11 k) (fun k => i 7 k) none (c 2)) (nI H) M (c 0)) r1 (clM (fun k => i 11 k) (fun k => i 7 k) none (c 2)) M (c 0) (c 2) (c 2)) 0 l = _ from if_neg (fun z => absurd z.1 (by decide)), show cmJ i j r (clM (fun k => i 11 k) (fun k => i 7 k) none (c 2)) (nI H) M (c 0) 0 l = _ from if_pos ⟨rfl, hl⟩, nI_l (by omega)]
  have ei : ∀ f, f ≠ 16 → f ≠ 17 → f ≠ 18 → nwI i2 H f = i f := fun f h1 h2 h3 => by rw [nwI_o h3]; exact hS.1 f h1 h2
  have er : ∀ k, k ≠ 3 → ¬ (4 ≤ k ∧ k < 24) → RR k = r k := fun k h1 h2 => (x2 k h1).trans (hS.2 k h2)
  have eex : ∀ cl l, l < c 0 → exL (nwI i2 H) RR cl M l = exL i r cl M l := fun cl l _ => exL_same (ei 0 (by decide) (by decide) (by decide)) (er 0 (by decide) (by omega)) (er 1 (by decide) (by omega)) (er 2 (by decide) (by omega)) (er (24 + l) (by omega) (by omega))
  refine ⟨?_, fun l hl => by rw [x1 0 (by decide), j00 l hl], fun k hk => by rw [x3 k (by rw [hS.1 11 (by decide) (by decide)]; exact hk), j0 2 (by decide) (by decide)]⟩
  obtain ⟨a1, a2, a3, a4, a5, a6, a7⟩ := id h
  refine ⟨?_, ?_, ?_, ?_, ?_, ?_, ?_⟩
  · unfold KNn at *
    rw [ei 15 (by decide) (by decide) (by decide), nwI_now, hS.1 18 (by decide) (by decide), hN, nI_add]
    exact ⟨a1.1, a1.2.1, a1.2.2.1, a1.2.2.2.1, a1.2.2.2.2.1, hNH, rfl⟩
  · unfold KLn at *
    rw [er 0 (by decide) (by omega), er 1 (by decide) (by omega), er 2 (by decide) (by omega)]
    exact a2
  · intro l hl
    have := a3 l hl
    unfold KL1 at *
    rw [ei 0 (by decide) (by decide) (by decide), er 0 (by decide) (by omega), er 1 (by decide) (by omega), er 2 (by decide) (by omega), er (24 + l) (by omega) (by omega)]
    exact this
  · intro k hk
    have q := a4 k hk
    unfold KP1 at *
    rw [ei 5 (by decide) (by decide) (by decide), ei 6 (by decide) (by decide) (by decide), ei 7 (by decide) (by decide) (by decide), ei 8 (by decide) (by decide) (by decide), ei 9 (by decide) (by decide) (by decide), ei 10 (by decide) (by decide) (by decide), ei 11 (by decide) (by decide) (by decide), ei 12 (by decide) (by decide) (by decide), ei 13 (by decide) (by decide) (by decide), ei 14 (by decide) (by decide) (by decide), ei 2 (by decide) (by decide) (by decide)]
    obtain ⟨q1, q2, q3, q4, q5, q6, q7, q8, q9⟩ := q
    exact ⟨q1, q2, q3, q4, q5, q6, RB_mono (by omega) q7, q8, q9⟩
  · intro k hk
    have q := a5 k hk
    unfold KO1 at *
    rw [ei 3 (by decide) (by decide) (by decide), ei 4 (by decide) (by decide) (by decide), ei 10 (by decide) (by decide) (by decide), ei 11 (by decide) (by decide) (by decide), x1 1 (by decide), j0 1 (by decide) (by decide)]
    exact q
  · intro l hl
    have ecd : ∀ y, cdM (nwI i2 H) y (c 2) = cdM i y (c 2) := fun y => by
      unfold cdM
      rw [ei 13 (by decide) (by decide) (by decide), ei 14 (by decide) (by decide) (by decide), ei 7 (by decide) (by decide) (by decide)]
    rw [x1 0 (by decide), j00 l hl, ei 1 (by decide) (by decide) (by decide), SHR_congr (i := i) (r := r) (M := M) (n2 := c 2) (fun y hy => by rw [ecd, eex _ l hl]), SHR_add (e := (exL i r (clM (fun k => i 11 k) (fun k => i 7 k) none (c 2)) M l).toInt64) (fun y h1 h2 => by rw [h.cd_now h1 (by omega)]), a6 l hl, Int64.mul_add, Int64.mul_comm (lN H) (i 1 l).toInt64, Int64.mul_assoc]
  · have hw : ∀ w, w < 2 → WC w i2 r2 M → WC w (nwI i2 H) RR M := by
      intro w hw hW
      unfold WC at *
      rw [nwI_o (by decide), nwI_o (by decide), x2 0 (by decide), x2 1 (by decide), x2 2 (by decide)]
      rcases hW with z | ⟨m, z1, z2, z3⟩
      · exact Or.inl z
      · refine Or.inr ⟨m, z1, z2, ?_⟩
        intro a b ha hb
        rw [x2 _ (by omega)]
        exact z3 a b ha hb
    exact ⟨hw 0 (by decide) hV.1, hw 1 (by decide) hV.2⟩
/-! minutes anew -/
theorem tm_at (h : KN c i j p r M N) {k : Nat} (hk : k < c 2) : (i 13 k = -1 ∨ ∃ b, b ≤ N ∧ i 13 k = nI b) ∧ (i 14 k = -1 ∨ ∃ b, b ≤ N ∧ i 14 k = nI b) := by
  have g := (h.pm k hk).2.2.2.2.2.2.1
  rcases g with ⟨-, g2, g3⟩ | ⟨-, b, g2, g3, g4⟩ | ⟨-, b, f, g2, g3, g4, g5⟩
  · exact ⟨Or.inl g2, Or.inl g3⟩
  · exact ⟨Or.inr ⟨b, g2, g3⟩, Or.inl g4⟩
  · exact ⟨Or.inr ⟨b, by omega, g4⟩, Or.inr ⟨f, g3, g5⟩⟩
theorem nx_spec (h : KN c i j p r M N) {y : Nat} (hy : y < N) {n : Nat} (hn : n ≤ c 2) : ∃ x, nxC (i 13) (i 14) (nI y) (nI N) n = nI x ∧ y < x ∧ x ≤ N ∧ (∀ k, k < n → ∀ b, b ≤ N → (i 13 k = nI b ∨ i 14 k = nI b) → y < b → x ≤ b) ∧ (x = N ∨ ∃ k, k < n ∧ (i 13 k = nI x ∨ i 14 k = nI x)) := by
  have hB := h.b
  induction n with
  | zero => exact ⟨N, rfl, hy, Nat.le_refl N, fun k hk => by omega, Or.inl rfl⟩
  | succ n ih =>
    obtain ⟨x, e1, e2, e3, e4, e5⟩ := ih (by omega)
    obtain ⟨t1, t2⟩ := tm_at h (k := n) (by omega)
    obtain ⟨x1, f1, f2, f3, f4, f5⟩ := nxA_spec (N := N) (by omega) e2 e3 t1
    obtain ⟨x2, g1, g2, g3, g4, g5⟩ := nxA_spec (N := N) (by omega) f2 (by omega) t2
    refine ⟨x2, by rw [nxC_s, e1, f1, g1], g2, by omega, fun k hk b hb hv hyb => ?_, ?_⟩
    · by_cases q : k = n
      · rw [q] at hv
        rcases hv with hv | hv
        · have := f4 b hv hb hyb; omega
        · exact g4 b hv hb hyb
      · have := e4 k (by omega) b hb hv hyb; omega
    · rcases g5 with g5 | g5
      · rw [g5]
        rcases f5 with f5 | f5
        · rw [f5]
          rcases e5 with e5 | ⟨k, k1, k2⟩
          · exact Or.inl e5
          · exact Or.inr ⟨k, by omega, k2⟩
        · exact Or.inr ⟨n, by omega, Or.inl f5⟩
      · exact Or.inr ⟨n, by omega, Or.inr g5⟩
theorem tmD_lt (h : KN c i j p r M N) {y x : Nat} (hyx : y < x) (hx : x ≤ N) (he : ∃ k, k < c 2 ∧ (i 13 k = nI x ∨ i 14 k = nI x)) : tmD i (c 2) N x < tmD i (c 2) N y := by
  have hB := h.b
  have m1 : ∀ f, ∀ k, k < c 2 → (∃ b, b ≤ N ∧ i f k = nI b ∧ x < b) → ∃ b, b ≤ N ∧ i f k = nI b ∧ y < b := by
    rintro f k - ⟨b, b1, b2, b3⟩
    exact ⟨b, b1, b2, by omega⟩
  have m2 : ∀ f k, i f k = nI x → ¬ ∃ b, b ≤ N ∧ i f k = nI b ∧ x < b := by
    rintro f k e ⟨b, b1, b2, b3⟩
    have := nI_inj (by omega) (by omega) (e.symm.trans b2)
    omega
  obtain ⟨k, hk, e | e⟩ := he
  · have a1 := nct_lt (m1 13) ⟨k, hk, ⟨x, hx, e, hyx⟩, m2 13 k e⟩
    have a2 := nct_mono (m1 14)
    unfold tmD
    omega
  · have a1 := nct_lt (m1 14) ⟨k, hk, ⟨x, hx, e, hyx⟩, m2 14 k e⟩
    have a2 := nct_mono (m1 13)
    unfold tmD
    omega
theorem cd_same (h : KN c i j p r M N) {y x z : Nat} (hx : x ≤ N) (hyz : y ≤ z) (hzx : z < x) (hn : ∀ k, k < c 2 → ∀ b, b ≤ N → (i 13 k = nI b ∨ i 14 k = nI b) → y < b → x ≤ b) : cdM i (nI z) (c 2) = cdM i (nI y) (c 2) := by
  have hB := h.b
  unfold cdM
  apply orM_congr
  intro k hk
  obtain ⟨t1, t2⟩ := tm_at h hk
  apply and_congr Iff.rfl
  rcases t1 with e | ⟨b, b1, e⟩
  · rw [e]
    have q : ∀ m : Nat, m < 2 ^ 31 → (-1 : Int32) ≤ nI m := fun m hm => Int32.le_trans (by decide) (nI_pos' hm)
    have q1 := q z (by omega)
    have q2 := q y (by omega)
    apply and_congr (by exact ⟨fun _ => q2, fun _ => q1⟩)
    rcases t2 with e' | ⟨f, f1, e'⟩
    · rw [e']; exact ⟨fun _ => Or.inl rfl, fun _ => Or.inl rfl⟩
    · rw [e', nI_ltI (by omega) (by omega), nI_ltI (by omega) (by omega)]
      apply or_congr Iff.rfl
      constructor
      · intro _; omega
      · intro w
        have := hn k hk f f1 (Or.inr e') w
        omega
  · rw [e, nI_leI (by omega) (by omega), nI_leI (by omega) (by omega)]
    apply and_congr
    · constructor
      · intro w
        apply Classical.byContradiction
        intro w2
        have := hn k hk b b1 (Or.inl e) (by omega)
        omega
      · intro _; omega
    · rcases t2 with e' | ⟨f, f1, e'⟩
      · rw [e']; exact ⟨fun _ => Or.inl rfl, fun _ => Or.inl rfl⟩
      · rw [e', nI_ltI (by omega) (by omega), nI_ltI (by omega) (by omega)]
        apply or_congr Iff.rfl
        constructor
        · intro _; omega
        · intro w
          have := hn k hk f f1 (Or.inr e') w
          omega
theorem ma_all (h : KN c i j p r M N) {k n : Nat} (hlt : ∀ m, m < n → maH i (c 2) m < i 18 0) : ∃ y, maH i (c 2) n = nI y ∧ y ≤ N ∧ maS i r M k (c 2) n = SHR i r M k (c 2) y ∧ (y < N → tmD i (c 2) N y + n ≤ 80) := by
  have hB := h.b
  have hN := h.now
  induction n with
  | zero =>
    refine ⟨0, rfl, Nat.zero_le N, rfl, fun _ => ?_⟩
    unfold tmD
    have a1 := nct_le (fun k => ∃ b, b ≤ N ∧ i 13 k = nI b ∧ 0 < b) (c 2)
    have a2 := nct_le (fun k => ∃ b, b ≤ N ∧ i 14 k = nI b ∧ 0 < b) (c 2)
    omega
  | succ n ih =>
    obtain ⟨y, e1, e2, e3, e4⟩ := ih (fun m hm => hlt m (by omega))
    have hy : y < N := by
      have := hlt n (by omega)
      rw [e1, hN] at this
      exact (nI_ltI (by omega) (by omega)).mp this
    obtain ⟨x, f1, f2, f3, f4, f5⟩ := nx_spec h hy (Nat.le_refl (c 2))
    have ex : maH i (c 2) (n + 1) = nI x := by
      show nxC (i 13) (i 14) (maH i (c 2) n) (i 18 0) (c 2) = _
      rw [e1, hN, f1]
    refine ⟨x, ex, f3, ?_, fun hxN => ?_⟩
    · show maS i r M k (c 2) n + (maH i (c 2) (n + 1) - maH i (c 2) n).toInt64 * (exL i r (cdM i (maH i (c 2) n) (c 2)) M k).toInt64 = _
      have hadd := SHR_add (i := i) (r := r) (M := M) (l := k) (n2 := c 2) (N := y) (H := x - y) (e := (exL i r (cdM i (nI y) (c 2)) M k).toInt64) (fun z h1 h2 => by rw [cd_same h f3 h1 (by omega) f4])
      rw [show y + (x - y) = x by omega] at hadd
      rw [ex, e1, e3, nI_subN (by omega), nI_l (by omega), hadd]
    · have := e4 hy
      have h2 := tmD_lt h f2 f3 (f5.elim (fun z => by omega) id)
      omega
theorem KN.anew (h : KN c i j p r M N) {k n : Nat} (hk : k < c 0) (hend : n = 81 ∨ ¬ maH i (c 2) n < i 18 0) (hlt : ∀ m, m < n → maH i (c 2) m < i 18 0) : maS i r M k (c 2) n * (i 1 k).toInt64 = j 0 k := by
  have hB := h.b
  have hN := h.now
  obtain ⟨y, e1, e2, e3, e4⟩ := ma_all h (k := k) hlt
  have ey : y = N := by
    apply Classical.byContradiction
    intro z
    rcases hend with w | w
    · have := e4 (by omega); omega
    · apply w
      rw [e1, hN]
      exact (nI_ltI (by omega) (by omega)).mpr (by omega)
  rw [e3, ey, h.ma k hk, Int64.mul_comm]
theorem KN_new : KN c00 i00 (fun _ _ => 0) (fun _ _ => none) (fun _ _ => 0) 0 0 :=
  ⟨⟨rfl, by decide, by decide, by decide, by decide, by decide, rfl⟩, fun e he => absurd he (Nat.not_lt_zero e), fun l hl => absurd hl (Nat.not_lt_zero l), fun k hk => absurd hk (Nat.not_lt_zero k), fun o ho => absurd ho (Nat.not_lt_zero o), fun l hl => absurd hl (Nat.not_lt_zero l), ⟨Or.inl rfl, Or.inl rfl⟩⟩
end KL
