/-! an application -/
section KL
variable {c c' : Nat → Nat} {i i' : Nat → Nat → Int32} {j j' : Nat → Nat → Int64} {p p' : Nat → Nat → Option Nat} {r : Nat → Nat → Int32} {M N : Nat}
theorem metF_inv {ql qf qe : Int32} {k y : Nat} (h : metF i p ql qf qe k = some y) : i 7 k = ql ∧ i 10 k = 0 ∧ ¬ i 11 k = 4 ∧ p 2 k = some y := by
  unfold metF at h
  split at h
  · rename_i q
    cases hp : p 2 k with
    | none => rw [hp] at h; cases h
    | some z =>
      rw [hp] at h
      have h2 : (if qf < i 4 z ∧ i 3 z < qe then some z else none) = some y := h
      split at h2
      · cases h2; exact ⟨q.1, q.2.1, q.2.2, rfl⟩
      · cases h2
  · cases h
theorem metO_inv {ql qf qe ur : Int32} {n y : Nat} (h : metO i p ql qf qe ur n = some y) : ur = 0 ∧ ∃ k, k < n ∧ i 7 k = ql ∧ i 10 k = 0 ∧ ¬ i 11 k = 4 ∧ p 2 k = some y := by
  unfold metO at h
  split at h
  · rename_i q
    refine ⟨q, ?_⟩
    rcases fstM_cases (metF i p ql qf qe) n with ⟨h1, -⟩ | ⟨k, z, h1, h2, -, h4⟩
    · rw [h1] at h; cases h
    · rw [h4] at h; cases h
      exact ⟨k, h1, metF_inv h2⟩
  · cases h
theorem cau_m1 {a b l t : Int32} (h : cau a b l t = -1) : a = 0 ∧ b = 0 ∧ l = 0 ∧ t = 0 := by
  unfold cau at h
  split at h
  · rename_i h1
    split at h
    · rename_i h2
      split at h
      · rename_i h3
        split at h
        · rename_i h4
          exact ⟨h1, h2, h3, h4⟩
        · exact absurd h (by decide)
      · exact absurd h (by decide)
    · exact absurd h (by decide)
  · exact absurd h (by decide)
theorem cau_w {a b l t : Int32} (h : ¬ cau a b l t = -1) : ∃ w, w < 4 ∧ cau a b l t = nI w := by
  unfold cau at *
  split
  · rename_i h1
    rw [if_pos h1] at h
    split
    · rename_i h2
      rw [if_pos h2] at h
      split
      · rename_i h3
        rw [if_pos h3] at h
        split
        · rename_i h4
          rw [if_pos h4] at h
          exact absurd rfl h
        · exact ⟨3, by decide, rfl⟩
      · exact ⟨2, by decide, rfl⟩
    · exact ⟨1, by decide, rfl⟩
  · exact ⟨0, by decide, rfl⟩
theorem mnI_nI {a b : Nat} (ha : a < 2 ^ 31) (hb : b < 2 ^ 31) : mnI (nI a) (nI b) = nI (if b < a then b else a) := by
  by_cases h : b < a
  · rw [mnI_t ((nI_ltI hb ha).mpr h), if_pos h]
  · rw [mnI_f (fun z => h ((nI_ltI hb ha).mp z)), if_neg h]
theorem mxI_nI {a b : Nat} (ha : a < 2 ^ 31) (hb : b < 2 ^ 31) : mxI (nI a) (nI b) = nI (if a < b then b else a) := by
  by_cases h : a < b
  · rw [mxI_t ((nI_ltI ha hb).mpr h), if_pos h]
  · rw [mxI_f (fun z => h ((nI_ltI ha hb).mp z)), if_neg h]
theorem or_bitJ {x : Int64} {n b : Nat} (hn : n < 64) (hb : b < 64) : bJ (x ||| bitJ (nI n)) b = true ↔ bJ x b = true ∨ b = n := by
  unfold bitJ
  rw [bJ_or, bJ_bit hn hb, Bool.or_eq_true]
  simp
/-- what the permit applied for shows -/
def NP (c : Nat → Nat) (i' : Nat → Nat → Int32) (j' : Nat → Nat → Int64) (p' : Nat → Nat → Option Nat) (f e : Nat) : Prop :=
  (i' 11 (c 2) = 0 ∨ i' 11 (c 2) = 1) ∧ j' 2 (c 2) = 0 ∧ ∃ F E : Nat, (p' 2 (c 2)).elim (i' 8 (c 2)) (i' 3) = nI F ∧ (p' 2 (c 2)).elim (i' 9 (c 2)) (i' 4) = nI E ∧ F ≤ f ∧ e ≤ E ∧ E ≤ 5000
set_option maxHeartbeats 1000000 in
theorem KN.apply (h : KN c i j p r M N) (hc40 : c 2 < 40) {a l f e : Nat} {ap ln fr en ur : Int32} {pn : Option Nat} (ha : a < 6) (hap : ap = nI a) (hl : l < M) (hln : ln = nI l) (hfr : fr = nI f) (hen : en = nI e) (hfe : f < e) (he40 : e ≤ f + 40) (he : e ≤ 4940) (hu : ur = 0 ∨ ur = 1) (hpn : pn = none ∨ ∃ z, z < c 2 ∧ pn = some z) {o : Option Nat} {cz : Int32} (ho : o = metO i p ln fr en ur (c 2)) (hcz : cz = cauV i r j p a ln fr en ur (c 1) pn o) (hAR : AR c i j p c' i' j' p' o pn cz ap ln fr en ur) : KN c' i' j' p' r M N ∧ NP c i' j' p' f e := by
  have hB := h.b
  obtain ⟨a1, a2, a3, a4, a5, ⟨b5, b6, b7, b8, b9, b10, b11, b12, b13, b14, bj, -, bp⟩, hOP⟩ := hAR
  have hi : ∀ f, f < 2 ∨ 15 ≤ f → i' f = i f := fun f hf => by
    funext k
    have e1 : kf f ≠ 1 := by unfold kf; split; decide; split; omega; split; omega; split; decide; split; decide; split <;> decide
    have e2 : kf f ≠ 2 := by unfold kf; split; decide; split; omega; split; omega; split; decide; split; decide; split <;> decide
    exact a3 f k e1 (fun z => e2 z.1)
  have hik : ∀ f k, 5 ≤ f → f < 15 → k ≠ c 2 → i' f k = i f k := fun f k h1 h2 hk => a3 f k (by rw [kf_2 h1 h2]; decide) (fun z => hk z.2)
  have hcd : ∀ x, cdM i' x (c 2 + 1) = cdM i x (c 2) := by
    intro x
    unfold cdM
    rw [orM_f (n := c 2) (fun z => z.1 b13)]
    have e7 : ∀ n, n ≤ c 2 → orM (fun k => i' 13 k ≠ -1 ∧ i' 13 k ≤ x ∧ (i' 14 k = -1 ∨ x < i' 14 k)) (i' 7) n = orM (fun k => i 13 k ≠ -1 ∧ i 13 k ≤ x ∧ (i 14 k = -1 ∨ x < i 14 k)) (i 7) n := by
      intro n hn
      induction n with
      | zero => rfl
      | succ n ih =>
        have ih := ih (by omega)
        have q13 := hik 13 n (by decide) (by decide) (by omega)
        have q14 := hik 14 n (by decide) (by decide) (by omega)
        have q7 := hik 7 n (by decide) (by decide) (by omega)
        by_cases g : i 13 n ≠ -1 ∧ i 13 n ≤ x ∧ (i 14 n = -1 ∨ x < i 14 n)
        · rw [orM_t (P := fun k => i 13 k ≠ -1 ∧ i 13 k ≤ x ∧ (i 14 k = -1 ∨ x < i 14 k)) g, orM_t (P := fun k => i' 13 k ≠ -1 ∧ i' 13 k ≤ x ∧ (i' 14 k = -1 ∨ x < i' 14 k)) (by rw [q13, q14]; exact g), ih, q7]
        · rw [orM_f (P := fun k => i 13 k ≠ -1 ∧ i 13 k ≤ x ∧ (i 14 k = -1 ∨ x < i 14 k)) g, orM_f (P := fun k => i' 13 k ≠ -1 ∧ i' 13 k ≤ x ∧ (i' 14 k = -1 ∨ x < i' 14 k)) (by rw [q13, q14]; exact g), ih]
    exact e7 (c 2) (Nat.le_refl _)
  have hst : i' 11 (c 2) = 0 ∨ i' 11 (c 2) = 1 := by
    rw [b11]
    by_cases q : cz = -1
    · rw [if_pos q]; exact Or.inl rfl
    · rw [if_neg q]; exact Or.inr rfl
  have hbrk : cz = -1 → ∀ z, pn = some z → ¬ i 11 z = 4 := by
    intro q z hz h4
    rw [hcz] at q
    obtain ⟨-, q2, -⟩ := cau_m1 q
    rw [hz] at q2
    exact bI_eq0.mp q2 (Or.inr (Or.inl h4))
  have hlong : ∀ y, cz = -1 → o = some y → ¬ (40 : Int32) < mxI (i 4 y) en - mnI (i 3 y) fr := by
    intro y q hy
    rw [hcz] at q
    obtain ⟨-, -, q3, -⟩ := cau_m1 q
    rw [hy] at q3
    exact bI_eq0.mp q3
  have hw : ¬ cz = -1 → ∃ w, w < 4 ∧ cz = nI w := by
    intro q
    rw [hcz] at q ⊢
    exact cau_w q
  obtain ⟨g1, g2, g3, g4, g5, g6, g7⟩ := id h
  -- where an old permit is
  have old2 : ∀ k, k < c 2 → ∀ y, p 2 k = some y → y < c 1 := by
    intro k hk y hy
    obtain ⟨-, -, -, -, -, q6, -⟩ := g4 k hk
    rcases q6 with ⟨-, q, -⟩ | ⟨-, -, o2, q1, q2, -⟩
    · rw [q] at hy; cases hy
    · rw [q2] at hy; cases hy; exact q1
  have hz2 : ∀ k, k < c 2 → ∀ z, p 1 k = some z → z < k := by
    intro k hk z hz
    obtain ⟨-, -, -, -, q5, -⟩ := g4 k hk
    rcases q5 with q | ⟨z', q1, q2⟩
    · rw [q] at hz; cases hz
    · rw [q2] at hz; cases hz; exact q1
  -- the openings of before, those that are not joined
  have hOld : ∀ y, y < c 1 → p' 2 (c 2) ≠ some y → OPS i' j' y = OPS i j y → KO1 c' i' j' p' y := by
    intro y hy hne hops
    obtain ⟨o2, o3, o4, oj⟩ := OPS_eq hops
    obtain ⟨k1, k2, ⟨kx, k3, k4⟩, k5⟩ := g5 y hy
    unfold KO1
    rw [o3, o4, oj, a2]
    refine ⟨k1, fun b hb => ?_, ⟨kx, by omega, by rw [a5 2 kx (by omega)]; exact k4⟩, fun k k' hk hk' e1 e2 hne2 => ?_⟩
    · rw [k2 b hb]
      by_cases q : b = c 2
      · rw [q]
        exact ⟨fun z => by omega, fun z => absurd z.2.1 hne⟩
      · rw [a5 2 b q, hik 11 b (by decide) (by decide) q]
        exact ⟨fun z => ⟨by omega, z.2⟩, fun z => ⟨by omega, z.2⟩⟩
    · have q1 : k ≠ c 2 := fun q => hne (by rw [← q]; exact e1)
      have q2 : k' ≠ c 2 := fun q => hne (by rw [← q]; exact e2)
      rw [a5 2 k q1] at e1
      rw [a5 2 k' q2] at e2
      rw [hik 10 k (by decide) (by decide) q1]
      exact k5 k k' (by omega) (by omega) e1 e2 hne2
  -- all but the openings and the new permit's place
  have body : c 1 ≤ c' 1 → c' 1 ≤ c 2 + 1 → (∀ y, y < c 1 → i' 2 y = i 2 y) → ((¬ cz = -1 ∧ p' 2 (c 2) = none) ∨ (cz = -1 ∧ ∃ y, y < c' 1 ∧ p' 2 (c 2) = some y ∧ i' 2 y = ln)) → (∀ y, y < c' 1 → KO1 c' i' j' p' y) → KN c' i' j' p' r M N := by
    intro q1 q1' q2 q3 q4
    refine ⟨?_, g2, ?_, ?_, q4, ?_, ?_⟩
    · unfold KNn at *
      rw [a1 0 (by decide) (by decide), a2, hi 15 (by decide), hi 18 (by decide)]
      exact ⟨g1.1, g1.2.1, g1.2.2.1, by omega, q1', g1.2.2.2.2.2⟩
    · intro x hx
      rw [a1 0 (by decide) (by decide)] at hx
      have g := g3 x hx
      unfold KL1 at *
      rw [hi 0 (by decide)]
      exact g
    · intro k hk
      rw [a2] at hk
      by_cases q : k = c 2
      · rw [q]
        unfold KP1
        rw [b5, b6, b7, b8, b9, b10, b12, b13, b14, bp]
        refine ⟨rfl, ⟨a, ha, hap⟩, ⟨l, hl, hln⟩, hu, hpn, ?_, ?_, ⟨f, e, hfr, hen, hfe, he40, he⟩, fun z hz => ?_⟩
        · rcases q3 with ⟨z1, z2⟩ | ⟨z1, y, z2, z3, z4⟩
          · exact Or.inl ⟨by rw [b11, if_neg z1], z2, hw z1⟩
          · exact Or.inr ⟨by rw [b11, if_pos z1]; decide, z1, y, z2, z3, z4⟩
        · exact Or.inl ⟨hst.elim Or.inl (fun e => Or.inr (Or.inl e)), rfl, rfl⟩
        · have hzc : z < c 2 := by
            rcases hpn with y | ⟨z', y1, y2⟩
            · rw [y] at hz; cases hz
            · rw [y2] at hz; cases hz; exact y1
          rw [hik 11 z (by decide) (by decide) (by omega)]
          refine ⟨fun y => ?_, fun y => ?_⟩
          · by_cases y2 : cz = -1
            · exact absurd y (hbrk y2 z hz)
            · exact Or.inr (by rw [b11, if_neg y2])
          · rcases hst with y2 | y2
            · rw [y2] at y; exact absurd y (by decide)
            · rw [y2] at y; exact absurd y (by decide)
      · obtain ⟨k1, k2, k3, k4, k5, k6, k7, k8, k9⟩ := g4 k (by omega)
        unfold KP1
        rw [hik 5 k (by decide) (by decide) q, hik 6 k (by decide) (by decide) q, hik 7 k (by decide) (by decide) q, hik 8 k (by decide) (by decide) q, hik 9 k (by decide) (by decide) q, hik 10 k (by decide) (by decide) q, hik 11 k (by decide) (by decide) q, hik 12 k (by decide) (by decide) q, hik 13 k (by decide) (by decide) q, hik 14 k (by decide) (by decide) q, a5 1 k q, a5 2 k q]
        refine ⟨k1, k2, k3, k4, k5, ?_, k7, k8, fun z hz => ?_⟩
        · rcases k6 with y | ⟨y1, y2, o2, y3, y4, y5⟩
          · exact Or.inl y
          · exact Or.inr ⟨y1, y2, o2, by omega, y4, by rw [q2 o2 y3]; exact y5⟩
        · have := hz2 k (by omega) z hz
          rw [hik 11 z (by decide) (by decide) (by omega)]
          exact k9 z hz
    · intro x hx
      rw [a1 0 (by decide) (by decide)] at hx
      rw [a4 0 x (by decide) (by omega), hi 1 (by decide), a2, SHR_congr (i := i) (r := r) (M := M) (n2 := c 2) (fun y hy => ?_)]
      · exact g6 x hx
      · rw [hcd]
        unfold exL
        rw [hi 0 (by decide)]
    · unfold WV WC at *
      rw [hi 16 (by decide), hi 17 (by decide)]
      exact g7
  have bitC : ∀ b, b < c 2 → b ≠ c 2 := fun b hb => by omega
  rcases hOP with ⟨z1, z2, z3, z4⟩ | ⟨z1, y, z2, z3, z4, z5, z6, z7⟩ | ⟨z1, z2, z3, z4, z5, z6⟩
  · -- refused
    refine ⟨body (by omega) (by omega) (fun y hy => (OPS_eq (z4 y hy)).1) (Or.inl ⟨z1, z3⟩) (fun y hy => hOld y (by omega) (by rw [z3]; exact fun q => by cases q) (z4 y (by omega))), hst, bj, f, e, ?_, ?_, Nat.le_refl _, Nat.le_refl _, by omega⟩
    · rw [z3]; exact b8.trans hfr
    · rw [z3]; exact b9.trans hen
  · -- put together
    obtain ⟨o2, o3, o4, oj⟩ := OPS_eq z6
    rw [z2] at ho
    obtain ⟨u0, k0, m1, m2, m3, m4, m5⟩ := metO_inv ho.symm
    obtain ⟨⟨f0, e0, p1, p2, p3, p4, p5⟩, kb, -, kU⟩ := g5 y z3
    have hlg := hlong y z1 z2
    rw [p1, p2, hfr, hen, mnI_nI (by omega) (by omega), mxI_nI (by omega) (by omega)] at hlg
    have e3 : i' 3 y = nI (if f < f0 then f else f0) := by rw [o3, p1, hfr, mnI_nI (by omega) (by omega)]
    have e4 : i' 4 y = nI (if e0 < e then e else e0) := by rw [o4, p2, hen, mxI_nI (by omega) (by omega)]
    have hF : (if f < f0 then f else f0) ≤ f ∧ (if f < f0 then f else f0) ≤ f0 := by split <;> omega
    have hE : e ≤ (if e0 < e then e else e0) ∧ e0 ≤ (if e0 < e then e else e0) ∧ (if e0 < e then e else e0) ≤ 4940 := by split <;> omega
    generalize (if f < f0 then f else f0) = F at *
    generalize (if e0 < e then e else e0) = E at *
    have h40 : E ≤ F + 40 := by
      rw [nI_subN (by omega), show (40 : Int32) = nI 40 from rfl, nI_ltI (by decide) (by omega)] at hlg
      omega
    have hlane : i 2 y = ln := by
      obtain ⟨-, -, -, -, -, q6, -⟩ := g4 k0 m1
      rcases q6 with ⟨-, q, -⟩ | ⟨-, -, o9, q1, q2, q3⟩
      · rw [q] at m5; cases m5
      · rw [q2] at m5; cases m5; exact q3.trans m2
    have hst0 : i' 11 (c 2) = 0 := by rw [b11, if_pos z1]
    refine ⟨body (by omega) (by omega) (fun k hk => ?_) (Or.inr ⟨z1, y, by omega, z4, o2.trans hlane⟩) (fun k hk => ?_), hst, bj, F, E, ?_, ?_, hF.1, hE.1, by omega⟩
    · by_cases q : k = y
      · rw [q]; exact o2
      · exact (OPS_eq (z7 k hk q)).1
    · by_cases q : k = y
      · rw [q]
        unfold KO1
        rw [e3, e4, oj, a2]
        refine ⟨⟨F, E, rfl, rfl, by omega, h40, hE.2.2⟩, fun b hb => ?_, ⟨c 2, by omega, z4⟩, fun k k' hk hk' x1 x2 hne => ?_⟩
        · rw [or_bitJ (by omega) hb, kb b hb]
          by_cases q2 : b = c 2
          · rw [q2]
            exact ⟨fun _ => ⟨by omega, z4, by rw [hst0]; decide⟩, fun _ => Or.inr rfl⟩
          · rw [a5 2 b q2, hik 11 b (by decide) (by decide) q2]
            constructor
            · rintro (x | x)
              · exact ⟨by omega, x.2⟩
              · exact absurd x q2
            · intro x
              exact Or.inl ⟨by omega, x.2⟩
        · by_cases q1 : k = c 2
          · rw [q1, b10]; exact u0
          · rw [hik 10 k (by decide) (by decide) q1]
            rw [a5 2 k q1] at x1
            by_cases q3 : k = k0
            · rw [q3]; exact m3
            · exact kU k k0 (by omega) m1 x1 m5 q3
      · exact hOld k (by omega) (by rw [z4]; exact fun x => q (Option.some.inj x).symm) (z7 k (by omega) q)
    · rw [z4]; exact e3
    · rw [z4]; exact e4
  · -- an opening by itself
    obtain ⟨o2, o3, o4, oj⟩ := OPS_eq z5
    have e3 : i' 3 (c 1) = nI f := by rw [o3, hfr, mnI_nI (by omega) (by omega), if_neg (Nat.lt_irrefl _)]
    have e4 : i' 4 (c 1) = nI e := by rw [o4, hen, mxI_nI (by omega) (by omega), if_neg (Nat.lt_irrefl _)]
    have hst0 : i' 11 (c 2) = 0 := by rw [b11, if_pos z1]
    refine ⟨body (by omega) (by omega) (fun k hk => (OPS_eq (z6 k hk)).1) (Or.inr ⟨z1, c 1, by omega, z3, o2⟩) (fun k hk => ?_), hst, bj, f, e, ?_, ?_, Nat.le_refl _, Nat.le_refl _, by omega⟩
    · by_cases q : k = c 1
      · rw [q]
        unfold KO1
        rw [e3, e4, oj, a2]
        refine ⟨⟨f, e, rfl, rfl, hfe, he40, he⟩, fun b hb => ?_, ⟨c 2, by omega, z3⟩, fun k k' hk hk' x1 x2 hne => ?_⟩
        · rw [or_bitJ (by omega) hb, bJ_0]
          by_cases q2 : b = c 2
          · rw [q2]
            exact ⟨fun _ => ⟨by omega, z3, by rw [hst0]; decide⟩, fun _ => Or.inr rfl⟩
          · rw [a5 2 b q2]
            constructor
            · rintro (x | x)
              · exact absurd x (by decide)
              · exact absurd x q2
            · rintro ⟨x1, x2, -⟩
              have := old2 b (by omega) _ x2
              omega
        · have q1 : k = c 2 := by
            apply Classical.byContradiction
            intro q1
            rw [a5 2 k q1] at x1
            have := old2 k (by omega) _ x1
            omega
          have q2 : k' = c 2 := by
            apply Classical.byContradiction
            intro q2
            rw [a5 2 k' q2] at x2
            have := old2 k' (by omega) _ x2
            omega
          exact absurd (q1.trans q2.symm) hne
      · exact hOld k (by omega) (by rw [z3]; exact fun x => q (Option.some.inj x).symm) (z6 k (by omega))
    · rw [z3]; exact e3
    · rw [z3]; exact e4
end KL
