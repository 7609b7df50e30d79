section ST
variable {c : Nat → Nat} {i i1 i2 : Nat → Nat → Int32} {j J J0 : Nat → Nat → Int64} {p : Nat → Nat → Option Nat} {r r1 r2 R : Nat → Nat → Int32} {s s' T T0 : mS} {M N : Nat} {v' : Option Value}
theorem mHr_mi {nl np f : Nat} (hf : f ≠ 1) : mi (mHr T nl np) f = mi T f := va_up_ne _ _ hf
theorem mM1_ml {n f : Nat} (h : f ≠ 9) : ml (mM1 T n) f = ml T f := by
  show va_up T.2.2 9 (blw (mMn T) (ml T 9) n) f = T.2.2 f
  exact va_up_ne _ _ h
theorem mHr_1 {nl np : Nat} : mi (mHr T nl np) 1 = mi T 1 + 1 := by
  show va_up (mP2 (mM1 T nl) np).1 1 (mi T 1 + 1) 1 = _
  exact va_up_self _ _ _
theorem mHr_mr {nl np f : Nat} (hf : f ≠ 25) : mr (mHr T nl np) f = mr T f := by
  show va_up (va_up T.2.1 25 _) 25 _ f = _
  rw [va_up_ne _ _ hf, va_up_ne _ _ hf]
theorem mHr_25 {nl np : Nat} : mr (mHr T nl np) 25 = blw (mFp (muI (mP2 (mM1 T nl) np) 1 (mi T 1 + 1))) (mPt (mM1 T nl) np) 6 := by
  have e : mr (muI (mP2 (mM1 T nl) np) 1 (mi T 1 + 1)) 25 = mPt (mM1 T nl) np := mrA_self
  show mr (mrA _ 25 _) 25 = _
  rw [mrA_self, e]
theorem mHr_ml {nl np f : Nat} (h9 : f ≠ 9) (h20 : f ≠ 20) : ml (mHr T nl np) f = ml T f := by
  show va_up (va_up T.2.2 9 _) 20 _ f = _
  rw [va_up_ne _ _ h20, va_up_ne _ _ h9]
theorem mHr_9 {nl np : Nat} : ml (mHr T nl np) 9 = blw (mMn T) (ml T 9) nl := by
  show va_up (va_up T.2.2 9 (blw (mMn T) (ml T 9) nl)) 20 (blw (mDg (mM1 T nl)) (ml (mM1 T nl) 20) np) 9 = _
  rw [va_up_ne _ _ (by decide), va_up_self]
theorem mHr_20 {nl np : Nat} : ml (mHr T nl np) 20 = blw (mDg (mM1 T nl)) (ml T 20) np := by
  have e : ml (mM1 T nl) 20 = ml T 20 := mM1_ml (by decide)
  show va_up (mM1 T nl).2.2 20 (blw (mDg (mM1 T nl)) (ml (mM1 T nl) 20) np) 20 = _
  rw [va_up_self, e]
theorem phR_o {n k : Nat} (hk : k ≠ 3) : phR i j p r n k = r k := by
  induction n with
  | zero => rfl
  | succ n ih =>
    by_cases g : hitP i j p n
    · rw [phR_t g, up2_nf hk]; exact ih
    · rw [phR_f g]; exact ih
theorem phE_o {v : Int32} {n k : Nat} (hk : k ≠ 3) : phE i j p r v n k = r k := by
  unfold phE
  split
  · funext a
    show fgR _ 6 k a = _
    unfold fgR
    rw [if_neg (fun z => hk z.1), phR_o hk]
  · exact phR_o hk
/-- class and model after n hours -/
def HJ (c : Nat → Nat) (J0 : Nat → Nat → Int64) (r2 : Nat → Nat → Int32) (s T0 : mS) (N n : Nat) (J : Nat → Nat → Int64) (R : Nat → Nat → Int32) (T : mS) : Prop :=
  (∀ f, f ≠ 2 → J f = J0 f) ∧ (∀ k, k ≠ 3 → R k = r2 k) ∧ (∀ f, f ≠ 1 → mi T f = mi T0 f) ∧ mi T 1 = nI (N + n) ∧ (∀ f, f ≠ 25 → mr T f = mr T0 f) ∧ (∀ f, f ≠ 9 → f ≠ 20 → ml T f = ml T0 f) ∧ (∀ a, a < 6 → R 3 a = mr T 25 a) ∧ (∀ k, k < c 2 → J 2 k = ml T 20 k) ∧ (∀ l, l < c 0 → ml T 9 l = ml s 9 l + lN n * ((mr T0 28 l).toInt64 * (mr T0 6 l).toInt64)) ∧ (∀ l, c 0 ≤ l → ml T 9 l = ml s 9 l) ∧ ∀ k, c 2 ≤ k → ml T 20 k = ml s 20 k
theorem hit_eq (h : RELn c i j p r s M N) (hS : SC i r i2 r2) (hT0 : ∀ f, f ≤ 25 → mr T0 f = mr s f) (hcost : ∀ k, k < c 2 → i 11 k = 2 → J0 3 k = ml T0 27 k) {n : Nat} (hn : n ≤ 200) (hJ : HJ c J0 r2 s T0 N n J R T) {k : Nat} (hk : k < c 2) : hitP (nwI i2 n) J p k ↔ mHit (mM1 T (c 0)) k := by
  have hB := h.b
  obtain ⟨x1, x2, x3, x4, x5, x6, x7, x8, x9, x10, x11⟩ := hJ
  have hN := h.1.2.2.2.2.2.2.2.2.2.2.1
  obtain ⟨q, -, -, -, g, -⟩ := h.pm k hk
  have ei : ∀ f, f ≠ 16 → f ≠ 17 → f ≠ 18 → nwI i2 n f = i f := fun f h1 h2 h3 => by rw [nwI_o h3]; exact hS.1 f h1 h2
  have enow : nwI i2 n 18 0 = nI (N + n) := by rw [nwI_now, hS.1 18 (by decide) (by decide), hN, nI_add]
  have et : ∀ f, f ≤ 24 → mr (mM1 T (c 0)) f = mr s f := fun f hf => (x5 f (by omega)).trans (hT0 f (by omega))
  have e27 : ml (mM1 T (c 0)) 27 = ml T0 27 := (mM1_ml (by decide)).trans (x6 27 (by decide) (by decide))
  have e1 : mi (mM1 T (c 0)) 1 = nI (N + n) := x4
  unfold hitP mHit
  rw [ei 11 (by decide) (by decide) (by decide), ei 8 (by decide) (by decide) (by decide), ei 9 (by decide) (by decide) (by decide), ei 3 (by decide) (by decide) (by decide), ei 4 (by decide) (by decide) (by decide), enow, et 17 (by decide), et 22 (by decide), et 23 (by decide), et 19 (by decide), e27, e1, x1 3 (by decide), q.2.2.2.2.2.2.1]
  rcases g with ⟨g1, -⟩ | ⟨g1, o, g2, g3, g4, -⟩
  · constructor
    · rintro ⟨z, -⟩; rw [g1] at z; exact absurd z (by decide)
    · rintro ⟨z, -⟩; rw [g1] at z; exact absurd z (by decide)
  · obtain ⟨o1, o2, -, f, e, o3, o4, o5, o6⟩ := h.op o g2
    rw [g3, g4, tn_nI (by omega)]
    show (_ ∧ (nI (N + n) < i 3 o ∨ i 4 o ≤ nI (N + n)) ∧ _) ↔ _
    rw [o1, o2, o3, o4, show nI e - 1 = nI (e - 1) from by rw [show e = (e - 1) + 1 by omega]; exact nI_pred _, nI_leI (by omega) (by omega), nI_leI (by omega) (by omega), nI_ltI (by omega) (by omega), nI_leI (by omega) (by omega)]
    constructor
    · rintro ⟨z1, z2, z3⟩
      exact ⟨z1, by omega, by rw [← hcost k hk (q.2.2.2.2.2.2.1.trans z1)]; exact z3⟩
    · rintro ⟨z1, z2, z3⟩
      exact ⟨z1, by omega, by rw [hcost k hk (q.2.2.2.2.2.2.1.trans z1)]; exact z3⟩
theorem HJ.step (h : RELn c i j p r s M N) (hS : SC i r i2 r2) (hT0 : ∀ f, f ≤ 25 → mr T0 f = mr s f) (hcost : ∀ k, k < c 2 → i 11 k = 2 → J0 3 k = ml T0 27 k) {n : Nat} (hn : n < 200) (hJ : HJ c J0 r2 s T0 N n J R T) : HJ c J0 r2 s T0 N (n + 1) (phJ (nwI i2 n) J p (c 2)) (phE (nwI i2 n) J p R (nwI i2 n 18 0 + 1) (c 2)) (mHr T (c 0) (c 2)) := by
  have hB := h.b
  have hN := h.1.2.2.2.2.2.2.2.2.2.2.1
  have hh : ∀ k, k < c 2 → (hitP (nwI i2 n) J p k ↔ mHit (mM1 T (c 0)) k) := fun k hk => hit_eq h hS hT0 hcost (by omega) hJ hk
  have hJ' := hJ
  obtain ⟨x1, x2, x3, x4, x5, x6, x7, x8, x9, x10, x11⟩ := hJ'
  have enow : nwI i2 n 18 0 = nI (N + n) := by rw [nwI_now, hS.1 18 (by decide) (by decide), hN, nI_add]
  have e27 : ml (mM1 T (c 0)) 27 = ml T0 27 := (mM1_ml (by decide)).trans (x6 27 (by decide) (by decide))
  have e20 : ml (mM1 T (c 0)) 20 = ml T 20 := mM1_ml (by decide)
  have hpt : ∀ m, m ≤ c 2 → ∀ a, a < 6 → phR (nwI i2 n) J p R m 3 a = mPt (mM1 T (c 0)) m a := by
    intro m
    induction m with
    | zero => intro _ a ha; exact x7 a ha
    | succ m ih =>
      intro hm a ha
      have ih := ih (by omega)
      obtain ⟨q, ⟨a0, ha0, e11⟩, -⟩ := h.pm m (by omega)
      have e6 : tn (nwI i2 n 6 m) = a0 := by rw [nwI_o (by decide), hS.1 6 (by decide) (by decide), q.2.1, e11, tn_nI (by omega)]
      have e11' : tn (mr (mM1 T (c 0)) 11 m) = a0 := by rw [show mr (mM1 T (c 0)) 11 = mr s 11 from (x5 11 (by decide)).trans (hT0 11 (by decide)), e11, tn_nI (by omega)]
      by_cases g : hitP (nwI i2 n) J p m
      · rw [phR_t g, show mPt (mM1 T (c 0)) (m + 1) = _ from cIf_t ((hh m (by omega)).mp g), e6, e11']
        by_cases e : a = a0
        · rw [e, up2_self, upd_at', ih a0 ha0]
        · rw [up2_na e, upd_ne' e]; exact ih a ha
      · rw [phR_f g, show mPt (mM1 T (c 0)) (m + 1) = _ from cIf_f (fun z => g ((hh m (by omega)).mpr z))]
        exact ih a ha
  refine ⟨fun f hf => ?_, fun k hk => by rw [phE_o hk]; exact x2 k hk, fun f hf => (mHr_mi hf).trans (x3 f hf), ?_, fun f hf => (mHr_mr hf).trans (x5 f hf), fun f h9 h20 => (mHr_ml h9 h20).trans (x6 f h9 h20), fun a ha => ?_, fun k hk => ?_, fun l hl => ?_, fun l hl => ?_, fun k hk => ?_⟩
  · rw [← x1 f hf]
    funext k
    exact cIf_f (fun z => hf z.1)
  · rw [mHr_1, x4, nI_1]
    rfl
  · rw [mHr_25, blw_in ha]
    have e1 : mi (muI (mP2 (mM1 T (c 0)) (c 2)) 1 (mi T 1 + 1)) 1 = nI (N + n) + 1 := by
      show va_up (mP2 (mM1 T (c 0)) (c 2)).1 1 (mi T 1 + 1) 1 = _
      rw [va_up_self, x4]
    have e2 : mr (muI (mP2 (mM1 T (c 0)) (c 2)) 1 (mi T 1 + 1)) 25 = mPt (mM1 T (c 0)) (c 2) := mrA_self
    unfold phE mFp
    rw [e1, e2, enow]
    have hp := hpt (c 2) (Nat.le_refl _) a ha
    by_cases g : nI (N + n) + 1 - (nI (N + n) + 1) / 100 * 100 = 0
    · rw [if_pos g]
      show fgR _ 6 3 a = _
      unfold fgR
      rw [hp]
      by_cases g2 : 0 < mPt (mM1 T (c 0)) (c 2) a
      · rw [if_pos ⟨rfl, ha, g2⟩, if_pos ⟨g, g2⟩]
      · rw [if_neg (fun z => g2 z.2.2), if_neg (fun z => g2 z.2)]
    · rw [if_neg g, if_neg (fun z => g z.1)]
      exact hp
  · rw [mHr_20, blw_in hk]
    unfold phJ mDg
    rw [e20, e27]
    by_cases g : hitP (nwI i2 n) J p k
    · rw [cIf_t ⟨rfl, hk, g⟩, cIf_t ((hh k hk).mp g), x8 k hk, x1 3 (by decide)]
      have := g.1
      rw [nwI_o (by decide), hS.1 11 (by decide) (by decide)] at this
      rw [hcost k hk this]
    · rw [cIf_f (fun z => g z.2.2), cIf_f (fun z => g ((hh k hk).mpr z)), x8 k hk]
  · rw [mHr_9, blw_in hl]
    unfold mMn
    rw [x9 l hl, x5 28 (by decide), x5 6 (by decide), ← lN_1, Int64.add_mul, Int64.one_mul, Int64.add_assoc]
  · rw [mHr_9, blw_out (by omega)]
    exact x10 l hl
  · rw [mHr_20, blw_out (by omega)]
    exact x11 k hk
theorem HJ.all (h : RELn c i j p r s M N) (hS : SC i r i2 r2) (hT0 : ∀ f, f ≤ 25 → mr T0 f = mr s f) (hcost : ∀ k, k < c 2 → i 11 k = 2 → J0 3 k = ml T0 27 k) (h0 : HJ c J0 r2 s T0 N 0 J0 r2 T0) {n : Nat} (hn : n ≤ 200) : HJ c J0 r2 s T0 N n (hrS i2 p (c 2) (J0, r2) n).1 (hrS i2 p (c 2) (J0, r2) n).2 (mHn T0 (c 0) (c 2) n) := by
  induction n with
  | zero => exact h0
  | succ n ih => exact HJ.step h hS hT0 hcost (by omega) (ih (by omega))
/-! what a dig costs all lines -/
theorem ring1 (a b x y q : Int64) : (a + q * x) - (b + q * y) = (a - b) + (x - y) * q := by
  rw [Int64.sub_eq_add_neg, Int64.sub_eq_add_neg, Int64.sub_eq_add_neg, Int64.neg_add, Int64.sub_eq_add_neg, Int64.add_mul, Int64.mul_comm x q, Int64.mul_comm (-y) q, Int64.mul_neg]
  ac_rfl
theorem ld_eq (h : RELn c i j p r s M N) {k : Nat} (hk : k < c 2) (hs : i 11 k = 2) {T1 : mS} (e6 : mr T1 6 = mr s 6) (e8 : ∀ l, l < c 0 → mcL T1 (c 2) (mcl s (c 2) M) M l k = mcL s (c 2) (mcl s (c 2) M) M l k) {n : Nat} (hn : n ≤ c 0) : ldS i r (clM (fun k => i 11 k) (fun k => i 7 k) none (c 2)) M n - ldS i r (clM (fun k => i 11 k) (fun k => i 7 k) (some k) (c 2)) M n = mCs T1 (c 2) (mcl s (c 2) M) M k n := by
  have hB := h.b
  induction n with
  | zero => exact Int64.sub_self _
  | succ n ih =>
    have ih := ih (by omega)
    have h1 := h.li n (by omega)
    obtain ⟨q1, -, n', hn', q0, -⟩ := h.li n (by omega)
    show (ldS i r _ M n + (i 1 n).toInt64 * (exL i r _ M n).toInt64) - (ldS i r _ M n + (i 1 n).toInt64 * (exL i r _ M n).toInt64) = mCs T1 (c 2) (mcl s (c 2) M) M k n + (mcL T1 (c 2) (mcl s (c 2) M) M n k).toInt64 * (mr T1 6 n).toInt64
    rw [ring1, ih, e8 n (by omega), cost_eq h.ln h.pm hB.2.2.2.1 hB.2.1 h1 hk hs, w64_sub (sml_exL q0 hn') (sml_exL q0 hn'), e6, q1]
end ST
