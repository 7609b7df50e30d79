section ST
variable {c : Nat → Nat} {i i' i1 i2 : Nat → Nat → Int32} {j J J0 : Nat → Nat → Int64} {p : Nat → Nat → Option Nat} {r r' r1 r2 R : Nat → Nat → Int32} {s s' T T0 : mS} {M N : Nat} {v' : Option Value}
theorem exL_same {l : Nat} {cl : Int32} (h0 : i' 0 = i 0) (r0 : R 0 = r 0) (r1 : R 1 = r 1) (r2 : R 2 = r 2) (rl : R (24 + l) = r (24 + l)) : exL i' R cl M l = exL i r cl M l := by
  have e : exF R l cl M = exF r l cl M := by
    funext k
    unfold exF
    rw [r0, r1, r2, rl]
  unfold exL exM
  rw [e, h0]
theorem SHR_add {l n2 : Nat} {e : Int64} {N H : Nat} (h : ∀ x, N ≤ x → x < N + H → (exL i r (cdM i (nI x) n2) M l).toInt64 = e) : SHR i r M l n2 (N + H) = SHR i r M l n2 N + lN H * e := by
  induction H with
  | zero =>
    show _ = _ + 0 * e
    rw [Int64.zero_mul, Int64.add_zero]
    rfl
  | succ H ih =>
    have ih := ih (fun x h1 h2 => h x h1 (by omega))
    show SHR i r M l n2 (N + H) + (exL i r (cdM i (nI (N + H)) n2) M l).toInt64 = _
    rw [ih, h (N + H) (by omega) (by omega), ← lN_1, Int64.add_mul, Int64.one_mul, Int64.add_assoc]
theorem RB_mono {bg fi st : Int32} {N' : Nat} (hN : N ≤ N') (h : RB bg fi st N) : RB bg fi st N' := by
  rcases h with h | ⟨h1, b, h2, h3⟩ | ⟨h1, b, f, h2, h3, h4⟩
  · exact Or.inl h
  · exact Or.inr (Or.inl ⟨h1, b, by omega, h3⟩)
  · exact Or.inr (Or.inr ⟨h1, b, f, h2, by omega, h4⟩)
/-- which permits are open at an hour, by their hours -/
theorem open_at (h : RELn c i j p r s M N) {k : Nat} (hk : k < c 2) {x : Nat} (h1 : N ≤ x) (h2 : x < 2 ^ 30) : (i 13 k ≠ -1 ∧ i 13 k ≤ nI x ∧ (i 14 k = -1 ∨ nI x < i 14 k)) ↔ mr s 17 k = 2 := by
  have hB := h.b
  have g := (h.pm k hk).2.2.2.2.2
  rcases g with ⟨g1, g2, -⟩ | ⟨g1, b, g2, g3, g4⟩ | ⟨g1, b, f, g2, g3, g4, g5⟩
  · constructor
    · rintro ⟨z, -⟩; exact absurd g2 z
    · intro z; rw [z] at g1; exact absurd g1 (by decide)
  · rw [g3, g4, g1]
    exact ⟨fun _ => rfl, fun _ => ⟨fun e => absurd e.symm (nI_nm1 (by omega)), (nI_leI (by omega) (by omega)).mpr (by omega), Or.inl rfl⟩⟩
  · rw [g1, g5]
    constructor
    · rintro ⟨-, -, z⟩
      rcases z with z | z
      · exact absurd z.symm (nI_nm1 (by omega))
      · have := (nI_ltI (by omega) (by omega)).mp z
        omega
    · intro z; exact absurd z (by decide)
theorem cd_now (h : RELn c i j p r s M N) {x : Nat} (h1 : N ≤ x) (h2 : x < 2 ^ 30) : ∀ e, e < M → (opn (cdM i (nI x) (c 2)) e ↔ opn (mcl s (c 2) M) e) := by
  intro e he
  have hB := h.b
  unfold cdM
  rw [opn_bt (by omega), opn_bt (by omega), bt_iff (orM_bt (by omega) (h.pm.lane hB.2.2.2.1)), bt_iff (mcl_bt hB.2.1 hB.2.2.2.1 (by omega))]
  apply not_congr
  constructor
  · rintro ⟨k, g1, g2, g3⟩
    exact ⟨he, k, g1, (open_at h g1 h1 h2).mp g2, (h.pm k g1).1.2.2.1.symm.trans g3⟩
  · rintro ⟨-, k, g1, g2, g3⟩
    exact ⟨k, g1, (open_at h g1 h1 h2).mpr g2, (h.pm k g1).1.2.2.1.trans g3⟩
theorem ex_now (h : RELn c i j p r s M N) {l : Nat} (hl : l < c 0) {x : Nat} (h1 : N ≤ x) (h2 : x < 2 ^ 30) : exL i r (cdM i (nI x) (c 2)) M l = exL i r (clM (fun k => i 11 k) (fun k => i 7 k) none (c 2)) M l := by
  have hB := h.b
  rw [exL_mdL h.ln (h.li l hl) (cd_now h h1 h2), exL_mdL h.ln (h.li l hl) (cl_opn h.pm hB.2.2.2.1 hB.2.1)]
theorem pass0 {g : Nat → Int32} {cl : Int32} {np nl : Nat} : (∀ f, f ≤ 25 → mr (mFar (mC2 (mD1 (muI s 0 0) cl M nl) np cl M nl np) g) f = mr s f) ∧ (∀ f, f ≠ 0 → mi (mFar (mC2 (mD1 (muI s 0 0) cl M nl) np cl M nl np) g) f = mi s f) ∧ mi (mFar (mC2 (mD1 (muI s 0 0) cl M nl) np cl M nl np) g) 0 = 0 ∧ (∀ f, f ≠ 27 → ml (mFar (mC2 (mD1 (muI s 0 0) cl M nl) np cl M nl np) g) f = ml s f) ∧ (∀ l, l < nl → mr (mFar (mC2 (mD1 (muI s 0 0) cl M nl) np cl M nl np) g) 28 l = mdL s cl M l) ∧ (∀ k, k < np → ml (mFar (mC2 (mD1 (muI s 0 0) cl M nl) np cl M nl np) g) 27 k = mCp (mD1 (muI s 0 0) cl M nl) np cl M nl k) := by
  refine ⟨fun f hf => ?_, fun f hf => va_up_ne _ _ hf, rfl, fun f hf => ?_, fun l hl => ?_, fun k hk => ?_⟩
  · show va_up (va_up s.2.1 28 (blw (mdL (muI s 0 0) cl M) (mr (muI s 0 0) 28) nl)) 26 g f = s.2.1 f
    rw [va_up_ne _ _ (by omega), va_up_ne _ _ (by omega)]
  · show va_up s.2.2 27 (blw (mCp (mD1 (muI s 0 0) cl M nl) np cl M nl) (ml (mD1 (muI s 0 0) cl M nl) 27) np) f = s.2.2 f
    rw [va_up_ne _ _ hf]
  · show va_up (va_up s.2.1 28 (blw (mdL (muI s 0 0) cl M) (mr (muI s 0 0) 28) nl)) 26 g 28 l = _
    rw [va_up_ne _ _ (by decide), va_up_self, blw_in hl]
    rfl
  · show va_up s.2.2 27 (blw (mCp (mD1 (muI s 0 0) cl M nl) np cl M nl) (ml (mD1 (muI s 0 0) cl M nl) 27) np) 27 k = _
    rw [va_up_self, blw_in hk]
theorem mulx (a b e : Int64) : a * b * e = a * (e * b) := by rw [Int64.mul_assoc, Int64.mul_comm b e]
theorem st_pass (h : RELn c i j p r s M N) {x : Int32} (hQ : (∃ H, 1 ≤ H ∧ H ≤ 200 ∧ x = nI H ∧ ¬ (5000 : Int32) < mi s 1 + nI H ∧ v' = some (.int (mi s 1 + nI H)) ∧ ∃ g, s' = mHn (mFar (mC2 (mD1 (muI s 0 0) (mcl s (c 2) M) M (c 0)) (c 2) (mcl s (c 2) M) M (c 0) (c 2)) g) (c 0) (c 2) H) ∨ (¬ (1 ≤ x ∧ x ≤ 200) ∧ v' = some (.int 0) ∧ s' = muI s 0 1) ∨ (∃ H, 1 ≤ H ∧ H ≤ 200 ∧ x = nI H ∧ (5000 : Int32) < mi s 1 + nI H ∧ v' = some (.int 0) ∧ s' = muI s 0 2)) {H : Nat} (hH1 : 1 ≤ H) (hH : H ≤ 200) (hx : x = nI H) (hle : ¬ (5000 : Int32) < i 18 0 + nI H) (hS1 : SC i r i1 r1) (hS : SC i r i2 r2) (hV : WV i2 r2 M) : mi s' 0 = 0 ∧ v' = some (.int (i 18 0 + nI H)) ∧ RELn c (nwI i2 H) (hrS i2 p (c 2) ((wgJ i1 (cmJ i j r (clM (fun k => i 11 k) (fun k => i 7 k) none (c 2)) (nI H) M (c 0)) r1 (clM (fun k => i 11 k) (fun k => i 7 k) none (c 2)) M (c 0) (c 2) (c 2)), r2) H).1 p (hrS i2 p (c 2) ((wgJ i1 (cmJ i j r (clM (fun k => i 11 k) (fun k => i 7 k) none (c 2)) (nI H) M (c 0)) r1 (clM (fun k => i 11 k) (fun k => i 7 k) none (c 2)) M (c 0) (c 2) (c 2)), r2) H).2 s' M (N + H) := by
  have hB := h.b
  have hN := h.1.2.2.2.2.2.2.2.2.2.2.1
  have hN' := h.1.2.2.2.2.2.2.2.2.2.2.2.1
  have hNH : N + H ≤ 5000 := by
    rw [hN, nI_add, show (5000 : Int32) = nI 5000 from rfl, nI_ltI (by decide) (by omega)] at hle
    omega
  rcases hQ with ⟨H', g1, g2, g3, -, hv, g, hs⟩ | ⟨hn, -⟩ | ⟨H', g1, g2, g3, g4, -⟩
  · have e : H' = H := nI_inj (by omega) (by omega) (g3.symm.trans hx)
    subst e
    obtain ⟨t1, t2, t3, t4, t5, t6⟩ := pass0 (s := s) (M := M) (g := g) (cl := mcl s (c 2) M) (np := c 2) (nl := c 0)
    have hcost : ∀ k, k < c 2 → i 11 k = 2 → (wgJ i1 (cmJ i j r (clM (fun k => i 11 k) (fun k => i 7 k) none (c 2)) (nI H') M (c 0)) r1 (clM (fun k => i 11 k) (fun k => i 7 k) none (c 2)) M (c 0) (c 2) (c 2)) 3 k = ml (mFar (mC2 (mD1 (muI s 0 0) (mcl s (c 2) M) M (c 0)) (c 2) (mcl s (c 2) M) M (c 0) (c 2)) g) 27 k := by
      intro k hk h2
      have e11 : i1 11 = i 11 := hS1.1 11 (by decide) (by decide)
      have e7 : i1 7 = i 7 := hS1.1 7 (by decide) (by decide)
      rw [t6 k hk, show (wgJ i1 (cmJ i j r (clM (fun k => i 11 k) (fun k => i 7 k) none (c 2)) (nI H') M (c 0)) r1 (clM (fun k => i 11 k) (fun k => i 7 k) none (c 2)) M (c 0) (c 2) (c 2)) 3 k = _ from if_pos ⟨rfl, hk, by rw [e11]; exact h2⟩, e11, e7, hS1.ldS, hS1.ldS]
      rw [show mCp (mD1 (muI s 0 0) (mcl s (c 2) M) M (c 0)) (c 2) (mcl s (c 2) M) M (c 0) k = mCs (mD1 (muI s 0 0) (mcl s (c 2) M) M (c 0)) (c 2) (mcl s (c 2) M) M k (c 0) from if_pos ((h.pm k hk).1.2.2.2.2.2.2.1.symm.trans h2)]
      exact ld_eq h hk h2 (T1 := mD1 (muI s 0 0) (mcl s (c 2) M) M (c 0)) rfl (fun l _ => rfl) (Nat.le_refl _)
    have j0 : ∀ f, f ≠ 3 → f ≠ 0 → (wgJ i1 (cmJ i j r (clM (fun k => i 11 k) (fun k => i 7 k) none (c 2)) (nI H') M (c 0)) r1 (clM (fun k => i 11 k) (fun k => i 7 k) none (c 2)) M (c 0) (c 2) (c 2)) f = j f := fun f h3 h0 => by
      funext k
      rw [show (wgJ i1 (cmJ i j r (clM (fun k => i 11 k) (fun k => i 7 k) none (c 2)) (nI H') M (c 0)) r1 (clM (fun k => i 11 k) (fun k => i 7 k) none (c 2)) M (c 0) (c 2) (c 2)) f k = _ from if_neg (fun z => h3 z.1)]
      exact if_neg (fun z => h0 z.1)
    have j00 : ∀ l, l < c 0 → (wgJ i1 (cmJ i j r (clM (fun k => i 11 k) (fun k => i 7 k) none (c 2)) (nI H') M (c 0)) r1 (clM (fun k => i 11 k) (fun k => i 7 k) none (c 2)) M (c 0) (c 2) (c 2)) 0 l = j 0 l + lN H' * (i 1 l).toInt64 * (exL i r (clM (fun k => i 11 k) (fun k => i 7 k) none (c 2)) M l).toInt64 := fun l hl => by
      rw [show (wgJ i1 (cmJ i j r (clM (fun k => i 11 k) (fun k => i 7 k) none (c 2)) (nI H') M (c 0)) r1 (clM (fun k => i 11 k) (fun k => i 7 k) none (c 2)) M (c 0) (c 2) (c 2)) 0 l = _ from if_neg (fun z => absurd z.1 (by decide)), show cmJ i j r (clM (fun k => i 11 k) (fun k => i 7 k) none (c 2)) (nI H') M (c 0) 0 l = _ from if_pos ⟨rfl, hl⟩, nI_l (by omega)]
    have h0 : HJ c (wgJ i1 (cmJ i j r (clM (fun k => i 11 k) (fun k => i 7 k) none (c 2)) (nI H') M (c 0)) r1 (clM (fun k => i 11 k) (fun k => i 7 k) none (c 2)) M (c 0) (c 2) (c 2)) r2 s (mFar (mC2 (mD1 (muI s 0 0) (mcl s (c 2) M) M (c 0)) (c 2) (mcl s (c 2) M) M (c 0) (c 2)) g) N 0 (wgJ i1 (cmJ i j r (clM (fun k => i 11 k) (fun k => i 7 k) none (c 2)) (nI H') M (c 0)) r1 (clM (fun k => i 11 k) (fun k => i 7 k) none (c 2)) M (c 0) (c 2) (c 2)) r2 (mFar (mC2 (mD1 (muI s 0 0) (mcl s (c 2) M) M (c 0)) (c 2) (mcl s (c 2) M) M (c 0) (c 2)) g) := by
      refine ⟨fun _ _ => rfl, fun _ _ => rfl, fun _ _ => rfl, (t2 1 (by decide)).trans hN', fun _ _ => rfl, fun _ _ _ => rfl, fun a ha => ?_, fun k hk => ?_, fun l hl => ?_, fun l hl => ?_, fun k hk => ?_⟩
      · rw [hS.2 3 (by omega), t1 25 (by decide)]; exact h.pt a ha
      · rw [j0 2 (by decide) (by decide), t4 20 (by decide)]; exact (h.pm k hk).1.2.2.2.2.2.2.2.2
      · rw [t4 9 (by decide)]
        show _ = _ + 0 * _
        rw [Int64.zero_mul, Int64.add_zero]
      · rw [t4 9 (by decide)]
      · rw [t4 20 (by decide)]
    have hA := HJ.all h hS t1 hcost h0 hH
    rw [← hs] at hA
    generalize hJJ : (hrS i2 p (c 2) ((wgJ i1 (cmJ i j r (clM (fun k => i 11 k) (fun k => i 7 k) none (c 2)) (nI H') M (c 0)) r1 (clM (fun k => i 11 k) (fun k => i 7 k) none (c 2)) M (c 0) (c 2) (c 2)), r2) H').1 = JJ at *
    generalize hRR : (hrS i2 p (c 2) ((wgJ i1 (cmJ i j r (clM (fun k => i 11 k) (fun k => i 7 k) none (c 2)) (nI H') M (c 0)) r1 (clM (fun k => i 11 k) (fun k => i 7 k) none (c 2)) M (c 0) (c 2) (c 2)), r2) H').2 = RR at *
    obtain ⟨x1, x2, x3, x4, x5, x6, x7, x8, x9, x10, x11⟩ := hA
    have ei : ∀ f, f ≠ 16 → f ≠ 17 → f ≠ 18 → nwI i2 H' f = i f := fun f h1 h2 h3 => by rw [nwI_o h3]; exact hS.1 f h1 h2
    have er : ∀ k, k ≠ 3 → ¬ (4 ≤ k ∧ k < 24) → RR k = r k := fun k h1 h2 => (x2 k h1).trans (hS.2 k h2)
    have hx0 : mi s' 0 = 0 := (x3 0 (by decide)).trans t3
    refine ⟨hx0, by rw [hv, hN, hN'], ?_⟩
    have eex : ∀ cl l, l < c 0 → exL (nwI i2 H') RR cl M l = exL i r cl M l := fun cl l _ => exL_same (ei 0 (by decide) (by decide) (by decide)) (er 0 (by decide) (by omega)) (er 1 (by decide) (by omega)) (er 2 (by decide) (by omega)) (er (24 + l) (by omega) (by omega))
    obtain ⟨a1, a2, a3, a4, a5, a6, a7, a8⟩ := id h
    refine ⟨?_, ?_, ?_, ?_, ?_, ?_, ?_, ?_⟩
    · unfold RN at *
      obtain ⟨z1, z2, z3, z4, z5, z6, z7, z8, z9, z10, z11, z12, z13, z14⟩ := a1
      rw [ei 15 (by decide) (by decide) (by decide), nwI_now, hS.1 18 (by decide) (by decide), x3 5 (by decide), x3 10 (by decide), x3 21 (by decide), x3 24 (by decide), x4, t2 5 (by decide), t2 10 (by decide), t2 21 (by decide), t2 24 (by decide), z11, nI_add]
      exact ⟨z1, z2, z3, z4, z5, z6, z7, z8, z9, hNH, rfl, rfl, fun l hl => (x10 l hl).trans (z13 l hl), fun k hk => (x11 k hk).trans (z14 k hk)⟩
    · unfold RLn at *
      rw [er 0 (by decide) (by omega), er 1 (by decide) (by omega), er 2 (by decide) (by omega), x5 2 (by decide), x5 3 (by decide), x5 4 (by decide), t1 2 (by decide), t1 3 (by decide), t1 4 (by decide)]
      exact a2
    · intro l hl
      obtain ⟨q1, q2, q3⟩ := a3 l hl
      unfold RL1
      rw [ei 1 (by decide) (by decide) (by decide), ei 0 (by decide) (by decide) (by decide), er 0 (by decide) (by omega), er 1 (by decide) (by omega), er 2 (by decide) (by omega), er (24 + l) (by omega) (by omega), x5 6 (by decide), x5 8 (by decide), x5 7 (by decide), t1 6 (by decide), t1 8 (by decide), t1 7 (by decide), x1 0 (by decide), j00 l hl, x9 l hl, t5 l hl, t1 6 (by decide)]
      refine ⟨q1, ?_, q3⟩
      rw [← q1, ← q2, ← exL_mdL a2 (a3 l hl) (cl_opn a4 hB.2.2.2.1 hB.2.1), mulx]
    · intro k hk
      have q := a4 k hk
      unfold RP1 at *
      rw [ei 5 (by decide) (by decide) (by decide), ei 6 (by decide) (by decide) (by decide), ei 7 (by decide) (by decide) (by decide), ei 8 (by decide) (by decide) (by decide), ei 9 (by decide) (by decide) (by decide), ei 10 (by decide) (by decide) (by decide), ei 11 (by decide) (by decide) (by decide), ei 12 (by decide) (by decide) (by decide), ei 13 (by decide) (by decide) (by decide), ei 14 (by decide) (by decide) (by decide), ei 2 (by decide) (by decide) (by decide), x5 11 (by decide), x5 12 (by decide), x5 13 (by decide), x5 14 (by decide), x5 15 (by decide), x5 16 (by decide), x5 17 (by decide), x5 18 (by decide), x5 19 (by decide), t1 11 (by decide), t1 12 (by decide), t1 13 (by decide), t1 14 (by decide), t1 15 (by decide), t1 16 (by decide), t1 17 (by decide), t1 18 (by decide), t1 19 (by decide)]
      obtain ⟨⟨q1, q2, q3, q4, q5, q6, q7, q8, q9⟩, q10, q11, q12, q13, q14⟩ := q
      exact ⟨⟨q1, q2, q3, q4, q5, q6, q7, q8, x8 k hk⟩, q10, q11, q12, q13, RB_mono (by omega) q14⟩
    · have hm : ∀ o, mtg s' o (c 2) = mtg s o (c 2) := fun o => mtg_congr (by omega) (fun b _ => by unfold in0; rw [x5 17 (by decide), x5 19 (by decide), t1 17 (by decide), t1 19 (by decide)])
      unfold ROp at *
      rw [ei 3 (by decide) (by decide) (by decide), ei 4 (by decide) (by decide) (by decide), x1 1 (by decide), j0 1 (by decide) (by decide), x5 22 (by decide), x5 23 (by decide), t1 22 (by decide), t1 23 (by decide)]
      intro o ho
      rw [hm]
      exact a5 o ho
    · intro a ha
      exact x7 a ha
    · intro l hl
      have ecd : ∀ y, cdM (nwI i2 H') y (c 2) = cdM i y (c 2) := fun y => by
        unfold cdM
        rw [ei 13 (by decide) (by decide) (by decide), ei 14 (by decide) (by decide) (by decide), ei 7 (by decide) (by decide) (by decide)]
      rw [x1 0 (by decide), j00 l hl, ei 1 (by decide) (by decide) (by decide), SHR_congr (i := i) (r := r) (M := M) (n2 := c 2) (fun y hy => by rw [ecd, eex _ l hl]), SHR_add (e := (exL i r (clM (fun k => i 11 k) (fun k => i 7 k) none (c 2)) M l).toInt64) (fun y h1 h2 => by rw [ex_now h hl h1 (by omega)]), a7 l hl, Int64.mul_add, Int64.mul_comm (lN H') (i 1 l).toInt64, Int64.mul_assoc]
    · have hw : ∀ w, w < 2 → WC w i2 r2 M → WC w (nwI i2 H') RR M := by
        intro w hw hW
        unfold WC at *
        rw [nwI_o (by decide), nwI_o (by decide), x2 0 (by decide), x2 1 (by decide), x2 2 (by decide)]
        rcases hW with z | ⟨m, z1, z2, z3⟩
        · exact Or.inl z
        · refine Or.inr ⟨m, z1, z2, ?_⟩
          intro a b ha hb
          rw [x2 _ (by omega)]
          exact z3 a b ha hb
      exact ⟨hw 0 (by decide) hV.1, hw 1 (by decide) hV.2⟩
  · exfalso
    apply hn
    rw [hx, show (1 : Int32) = nI 1 from rfl, show (200 : Int32) = nI 200 from rfl, nI_leI (by decide) (by omega), nI_leI (by omega) (by decide)]
    exact ⟨hH1, hH⟩
  · exfalso
    have e : H' = H := nI_inj (by omega) (by omega) (g3.symm.trans hx)
    subst e
    rw [hN'] at g4
    rw [hN] at hle
    exact hle g4
theorem stx_pass (h : RELn c i j p r s M N) {x : Int32} (hQ : (∃ H, 1 ≤ H ∧ H ≤ 200 ∧ x = nI H ∧ ¬ (5000 : Int32) < mi s 1 + nI H ∧ v' = some (.int (mi s 1 + nI H)) ∧ ∃ g, s' = mHn (mFar (mC2 (mD1 (muI s 0 0) (mcl s (c 2) M) M (c 0)) (c 2) (mcl s (c 2) M) M (c 0) (c 2)) g) (c 0) (c 2) H) ∨ (¬ (1 ≤ x ∧ x ≤ 200) ∧ v' = some (.int 0) ∧ s' = muI s 0 1) ∨ (∃ H, 1 ≤ H ∧ H ≤ 200 ∧ x = nI H ∧ (5000 : Int32) < mi s 1 + nI H ∧ v' = some (.int 0) ∧ s' = muI s 0 2)) {X : Int32} (hX : (X = 1 ∧ ¬ (¬ x < 1 ∧ ¬ 200 < x)) ∨ (X = 2 ∧ (¬ x < 1 ∧ ¬ 200 < x) ∧ (5000 : Int32) < i 18 0 + x)) : mi s' 0 = X ∧ RELn c i j p r s' M N := by
  have hN := h.1.2.2.2.2.2.2.2.2.2.2.1
  have hN' := h.1.2.2.2.2.2.2.2.2.2.2.2.1
  have er : (1 ≤ x ∧ x ≤ 200) ↔ (¬ x < 1 ∧ ¬ 200 < x) := rngI (a := 1) (b := 200) (by decide) (by decide)
  have hin : ∀ H : Nat, 1 ≤ H → H ≤ 200 → x = nI H → (1 ≤ x ∧ x ≤ 200) := by
    intro H h1 h2 e
    rw [e, show (1 : Int32) = nI 1 from rfl, show (200 : Int32) = nI 200 from rfl, nI_leI (by decide) (by omega), nI_leI (by omega) (by decide)]
    exact ⟨h1, h2⟩
  rcases hQ with ⟨H', g1, g2, g3, g4, hv, g, hs⟩ | ⟨hn, -, hs⟩ | ⟨H', g1, g2, g3, g4, -, hs⟩
  · exfalso
    rcases hX with ⟨-, z⟩ | ⟨-, -, z⟩
    · exact z (er.mp (hin H' g1 g2 g3))
    · rw [g3, hN] at z
      rw [hN'] at g4
      exact g4 z
  · rcases hX with ⟨E, z⟩ | ⟨-, z, -⟩
    · rw [hs, E]; exact ⟨mi0_mu, h.mu 1⟩
    · exact absurd (er.mpr z) hn
  · rcases hX with ⟨-, z⟩ | ⟨E, z, -⟩
    · exact absurd (er.mp (hin H' g1 g2 g3)) z
    · rw [hs, E]; exact ⟨mi0_mu, h.mu 2⟩
end ST
