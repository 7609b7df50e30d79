section ST
variable {c c' : Nat → Nat} {i i' : Nat → Nat → Int32} {j j' : Nat → Nat → Int64} {p p' : Nat → Nat → Option Nat} {r : Nat → Nat → Int32} {s s' s2 : mS} {M N : Nat} {v' : Option Value}
theorem muR_at {s : mS} {f b : Nat} {v : Int32} : mr (muR s f b v) f b = v := by
  show va_up s.2.1 f (upd (s.2.1 f) b v) f b = v
  rw [va_up_self, upd_at']
theorem muR_nf {s : mS} {f f0 b : Nat} {v : Int32} (h : f ≠ f0) : mr (muR s f0 b v) f = mr s f := va_up_ne _ _ h
theorem muR_ne {s : mS} {f f0 b k : Nat} {v : Int32} (h : k ≠ b) : mr (muR s f0 b v) f k = mr s f k := by
  by_cases q : f = f0
  · subst q
    show va_up s.2.1 f (upd (s.2.1 f) b v) f k = _
    rw [va_up_self, upd_ne' h]
  · rw [muR_nf q]
theorem mAp_is {s2 : mS} {np : Nat} {ap ln fr en nd ur st w o : Int32} : (∀ f, f ≠ 21 → mi (mAp s2 np ap ln fr en nd ur st w o) f = mi s2 f) ∧ mi (mAp s2 np ap ln fr en nd ur st w o) 21 = nI np + 1 ∧ (∀ f, f < 11 ∨ 19 < f → mr (mAp s2 np ap ln fr en nd ur st w o) f = mr s2 f) ∧ (∀ f k, k ≠ np → mr (mAp s2 np ap ln fr en nd ur st w o) f k = mr s2 f k) ∧ (∀ f, ml (mAp s2 np ap ln fr en nd ur st w o) f = ml s2 f) ∧ mr (mAp s2 np ap ln fr en nd ur st w o) 11 np = ap ∧ mr (mAp s2 np ap ln fr en nd ur st w o) 12 np = ln ∧ mr (mAp s2 np ap ln fr en nd ur st w o) 13 np = fr ∧ mr (mAp s2 np ap ln fr en nd ur st w o) 14 np = en ∧ mr (mAp s2 np ap ln fr en nd ur st w o) 15 np = nd ∧ mr (mAp s2 np ap ln fr en nd ur st w o) 16 np = ur ∧ mr (mAp s2 np ap ln fr en nd ur st w o) 17 np = st ∧ mr (mAp s2 np ap ln fr en nd ur st w o) 18 np = w ∧ mr (mAp s2 np ap ln fr en nd ur st w o) 19 np = o := by
  have e : ∀ f, mr (mAp s2 np ap ln fr en nd ur st w o) f = mr (muR (muR (muR (muR (muR (muR (muR (muR (muR s2 11 np ap) 12 np ln) 13 np fr) 14 np en) 15 np nd) 16 np ur) 17 np st) 18 np w) 19 np o) f := fun _ => rfl
  refine ⟨fun f hf => va_up_ne _ _ hf, rfl, fun f hf => ?_, fun f k hk => ?_, fun _ => rfl, ?_, ?_, ?_, ?_, ?_, ?_, ?_, ?_, ?_⟩
  · rw [e, muR_nf (by omega), muR_nf (by omega), muR_nf (by omega), muR_nf (by omega), muR_nf (by omega), muR_nf (by omega), muR_nf (by omega), muR_nf (by omega), muR_nf (by omega)]
  · rw [e, muR_ne hk, muR_ne hk, muR_ne hk, muR_ne hk, muR_ne hk, muR_ne hk, muR_ne hk, muR_ne hk, muR_ne hk]
  · rw [e, muR_nf (by decide), muR_nf (by decide), muR_nf (by decide), muR_nf (by decide), muR_nf (by decide), muR_nf (by decide), muR_nf (by decide), muR_nf (by decide), muR_at]
  · rw [e, muR_nf (by decide), muR_nf (by decide), muR_nf (by decide), muR_nf (by decide), muR_nf (by decide), muR_nf (by decide), muR_nf (by decide), muR_at]
  · rw [e, muR_nf (by decide), muR_nf (by decide), muR_nf (by decide), muR_nf (by decide), muR_nf (by decide), muR_nf (by decide), muR_at]
  · rw [e, muR_nf (by decide), muR_nf (by decide), muR_nf (by decide), muR_nf (by decide), muR_nf (by decide), muR_at]
  · rw [e, muR_nf (by decide), muR_nf (by decide), muR_nf (by decide), muR_nf (by decide), muR_at]
  · rw [e, muR_nf (by decide), muR_nf (by decide), muR_nf (by decide), muR_at]
  · rw [e, muR_nf (by decide), muR_nf (by decide), muR_at]
  · rw [e, muR_nf (by decide), muR_at]
  · rw [e, muR_at]
theorem fstM_cases (f : Nat → Option Nat) (n : Nat) : (fstM f n = none ∧ ∀ k, k < n → f k = none) ∨ ∃ k y, k < n ∧ f k = some y ∧ (∀ q, q < k → f q = none) ∧ fstM f n = some y := by
  induction n with
  | zero => exact Or.inl ⟨rfl, fun k hk => by omega⟩
  | succ n ih =>
    rcases ih with ⟨h1, h2⟩ | ⟨k, y, h1, h2, h3, h4⟩
    · rw [fstM_n h1]
      cases hf : f n with
      | none =>
        refine Or.inl ⟨rfl, fun k hk => ?_⟩
        by_cases q : k = n
        · rw [q]; exact hf
        · exact h2 k (by omega)
      | some y => exact Or.inr ⟨n, y, by omega, hf, h2, rfl⟩
    · exact Or.inr ⟨k, y, by omega, h2, h3, fstM_s h4⟩
theorem met_eq (h : RELn c i j p r s M N) {ln fr en : Int32} {k : Nat} (hk : k < c 2) : (¬ mjF s ln fr en k ∧ metF i p ln fr en k = none) ∨ ∃ y, y < c 1 ∧ mjF s ln fr en k ∧ metF i p ln fr en k = some y ∧ mr s 19 k = nI y := by
  have hb := h.b
  obtain ⟨q, -, -, -, g, -⟩ := h.pm k hk
  by_cases hj : mjF s ln fr en k
  · rcases g with ⟨g1, -⟩ | ⟨-, y, g2, g3, g4, -⟩
    · exact absurd g1 hj.1.1
    · refine Or.inr ⟨y, g2, hj, ?_, g4⟩
      obtain ⟨o1, o2, -⟩ := h.op y g2
      obtain ⟨j1, j2, j3, j4, j5⟩ := hj
      rw [g4, tn_nI (by omega)] at j4 j5
      exact metF_yes (q.2.2.1.trans j3) (q.2.2.2.2.2.1.trans j2) (fun z => j1.2 (q.2.2.2.2.2.2.1.symm.trans z)) g3 ⟨by rw [o2]; exact j5, by rw [o1]; exact j4⟩
  · refine Or.inl ⟨hj, metF_none (fun z1 z2 z3 y z4 z5 => hj ?_)⟩
    rcases g with ⟨-, g2⟩ | ⟨g1, y', g2, g3, g4, -⟩
    · rw [g2] at z4; cases z4
    · rw [g3] at z4
      cases z4
      obtain ⟨o1, o2, -⟩ := h.op y g2
      refine ⟨⟨g1, fun z => z3 (q.2.2.2.2.2.2.1.trans z)⟩, q.2.2.2.2.2.1.symm.trans z2, q.2.2.1.symm.trans z1, ?_, ?_⟩
      · rw [g4, tn_nI (by omega), ← o1]; exact z5.2
      · rw [g4, tn_nI (by omega), ← o2]; exact z5.1
theorem own_eq (h : RELn c i j p r s M N) {ln fr en ur own : Int32} (hO : OWN s (c 2) ln fr en ur own) : (metO i p ln fr en ur (c 2) = none ∧ own = -1) ∨ ∃ y, y < c 1 ∧ metO i p ln fr en ur (c 2) = some y ∧ own = nI y ∧ ur = 0 := by
  have hb := h.b
  unfold metO
  rcases hO with ⟨h1, h2⟩ | ⟨h1, hJ⟩
  · rw [if_neg h1]; exact Or.inl ⟨rfl, h2⟩
  · rw [if_pos h1]
    rcases fstM_cases (metF i p ln fr en) (c 2) with ⟨f1, f2⟩ | ⟨k, y, f1, f2, f3, f4⟩
    · rw [f1]
      rcases hJ with ⟨q, q1, q2, -, -⟩ | ⟨-, q2⟩
      · rcases met_eq h (ln := ln) (fr := fr) (en := en) q1 with ⟨z, -⟩ | ⟨y, -, -, z, -⟩
        · exact absurd q2 z
        · rw [f2 q q1] at z; cases z
      · exact Or.inl ⟨rfl, q2⟩
    · rw [f4]
      rcases met_eq h (ln := ln) (fr := fr) (en := en) f1 with ⟨-, z⟩ | ⟨y', z1, z2, z3, z4⟩
      · rw [f2] at z; cases z
      · rw [f2] at z3
        cases z3
        rcases hJ with ⟨q, q1, q2, q3, q4⟩ | ⟨q1, -⟩
        · have e : q = k := by
            rcases Nat.lt_trichotomy q k with z | z | z
            · rcases met_eq h (ln := ln) (fr := fr) (en := en) q1 with ⟨w, -⟩ | ⟨y2, -, -, w, -⟩
              · exact absurd q2 w
              · rw [f3 q z] at w; cases w
            · exact z
            · exact absurd z2 (q3 k z)
          rw [e] at q4
          exact Or.inr ⟨y, z1, rfl, q4.trans z4, h1⟩
        · exact absurd z2 (q1 k f1)
theorem tw_eq (h : RELn c i j p r s M N) {ln hr own : Int32} {sp : Option Nat} (ho : (sp = none ∧ own = -1) ∨ ∃ y, y < c 1 ∧ sp = some y ∧ own = nI y) : 0 < cntI (fun k => sp ≠ some k ∧ i 2 k = ln ∧ ¬ j 1 k = 0 ∧ i 3 k / 500 = hr / 500) (c 1) ↔ ∃ q, q < c 2 ∧ mtF s ln own hr q := by
  have hb := h.b
  rw [cntI_nct, show (0 : Int32) = nI 0 from rfl, nI_ltI (by decide) (by have := nct_le (fun k => sp ≠ some k ∧ i 2 k = ln ∧ ¬ j 1 k = 0 ∧ i 3 k / 500 = hr / 500) (c 1); omega), nct_pos]
  have hne : ∀ k, k < c 1 → (sp ≠ some k ↔ ¬ nI k = own) := by
    intro k hk
    rcases ho with ⟨e1, e2⟩ | ⟨y, hy, e1, e2⟩
    · rw [e1, e2]
      exact ⟨fun _ e => absurd e.symm (nI_nm1 (by omega)), fun _ => by simp⟩
    · rw [e1, e2]
      exact ⟨fun z e => z (by rw [nI_inj (by omega) (by omega) e]), fun z e => z (by rw [Option.some.inj e])⟩
  constructor
  · rintro ⟨k, hk, g1, g2, g3, g4⟩
    obtain ⟨b, hb1, hb2⟩ := (op_there h hk).mp g3
    refine ⟨b, hb1, hb2.1, (op_lane h hk hb1 hb2).symm.trans g2, ?_, ?_⟩
    · rw [hb2.2]; exact (hne k hk).mp g1
    · rw [hb2.2, tn_nI (by omega), ← (h.op k hk).1]; exact g4
  · rintro ⟨q, hq, g1, g2, g3, g4⟩
    obtain ⟨-, -, -, -, g, -⟩ := h.pm q hq
    rcases g with ⟨z, -⟩ | ⟨-, o, z1, z2, z3, z4⟩
    · exact absurd z g1.1
    · rw [z3] at g3
      rw [z3, tn_nI (by omega), ← (h.op o z1).1] at g4
      exact ⟨o, z1, (hne o z1).mpr g3, z4.trans g2, (op_there h z1).mpr ⟨q, hq, g1, z3⟩, g4⟩
theorem sta_eq (h : RELn c i j p r s M N) {y : Nat} (hy : y < c 1) {a : Int32} : STA s a (nI y) = mnI (i 3 y) a := by
  have hb := h.b
  unfold STA mnI
  rw [if_neg (fun e => absurd e.symm (nI_nm1 (by omega))), tn_nI (by omega), (h.op y hy).1]
theorem stp_eq (h : RELn c i j p r s M N) {y : Nat} (hy : y < c 1) {a : Int32} : STP0 s a (nI y) = mxI (i 4 y) a := by
  have hb := h.b
  unfold STP0 mxI
  rw [if_neg (fun e => absurd e.symm (nI_nm1 (by omega))), tn_nI (by omega), (h.op y hy).2.1]
theorem bI0 {P : Prop} [Decidable P] (h : ¬ P) : bI P = 0 := bI_f h
theorem brk_eq (h : RELn c i j p r s M N) {fr : Int32} {z : Nat} (hz : z < c 2) : (i 11 z = 1 ∨ i 11 z = 4 ∨ fr < (p 2 z).elim (i 9 z) (i 4)) ↔ BKz s z fr := by
  have hb := h.b
  obtain ⟨q, -, -, -, g, -⟩ := h.pm z hz
  rw [q.2.2.2.2.2.2.1]
  rcases g with ⟨g1, g2⟩ | ⟨g1, o, g2, g3, g4, -⟩
  · exact ⟨fun _ => Or.inl (fun e => e.1 g1), fun _ => Or.inl g1⟩
  · unfold BKz
    rw [g3, g4, tn_nI (by omega), ← (h.op o g2).2.1]
    show (_ ∨ _ ∨ fr < i 4 o) ↔ _
    constructor
    · rintro (e | e | e)
      · exact absurd e g1
      · exact Or.inl (fun w => w.2 e)
      · exact Or.inr e
    · rintro (e | e)
      · by_cases w : mr s 17 z = 4
        · exact Or.inr (Or.inl w)
        · exact absurd ⟨g1, w⟩ e
      · exact Or.inr (Or.inr e)
theorem cau_eq (h : RELn c i j p r s M N) {a : Nat} (ha : a < 6) {ln fr en ur w : Int32} {BK : Prop} {pn : Option Nat} (hbk : (pn = none ∧ BK = False) ∨ ∃ z, z < c 2 ∧ pn = some z ∧ BK = BKz s z fr) (hW : WHY s (c 2) a ln fr en ur BK w) : cauV i r j p a ln fr en ur (c 1) pn (metO i p ln fr en ur (c 2)) = w := by
  have hb := h.b
  have hN := h.1.2.2.2.2.2.2.2.2.2.2.1
  have hN' := h.1.2.2.2.2.2.2.2.2.2.2.2.1
  have elt : (ur = 0 ∧ fr < i 18 0 + (2 + 3 * r 3 a)) ↔ mLT s a fr ur := by
    unfold mLT
    rw [hN, hN', h.pt a ha, Int32.add_assoc]
  have ebk : ∀ (_ : BK), ¬ brkV i p fr pn = 0 := by
    intro z
    rcases hbk with ⟨-, e⟩ | ⟨q, hq, e1, e2⟩
    · rw [e] at z; exact z.elim
    · rw [e1]
      show ¬ bI _ = 0
      rw [bI_ne0, brk_eq h hq]
      rw [e2] at z; exact z
  have enb : ∀ (_ : ¬ BK), brkV i p fr pn = 0 := by
    intro z
    rcases hbk with ⟨e, -⟩ | ⟨q, hq, e1, e2⟩
    · rw [e]; rfl
    · rw [e1]
      show bI _ = 0
      rw [bI_eq0, brk_eq h hq]
      rw [e2] at z; exact z
  unfold cauV cau lateV
  rcases hW with ⟨h1, h2⟩ | ⟨h1, h2, h3⟩ | ⟨h1, h2, own, hO, hR⟩
  · rw [if_neg (bI_ne0.mpr (elt.mpr h1)), h2]
  · rw [if_pos (bI_eq0.mpr (fun z => h1 (elt.mp z))), if_neg (ebk h2), h3]
  · rw [if_pos (bI_eq0.mpr (fun z => h1 (elt.mp z))), if_pos (enb h2)]
    rcases own_eq h hO with ⟨e1, e2⟩ | ⟨y, hy, e1, e2, e3⟩
    · rw [e1]
      show (if (0 : Int32) = 0 then (if bI _ = 0 then (-1 : Int32) else 3) else 2) = w
      rw [if_pos rfl]
      have et := tw_eq h (ln := ln) (hr := fr) (own := -1) (sp := none) (Or.inl ⟨rfl, rfl⟩)
      rw [e2] at hR
      have nl : ¬ mLG s fr en (-1) := fun z => z.1 rfl
      rcases hR with ⟨z, -⟩ | ⟨-, z, e⟩ | ⟨-, z, e⟩
      · exact absurd z nl
      · unfold mTW at z
        rw [STA_N] at z
        rw [if_neg (bI_ne0.mpr ⟨z.1, et.mpr z.2⟩), e]
      · unfold mTW at z
        rw [STA_N] at z
        rw [if_pos (bI_eq0.mpr (fun y => z ⟨y.1, et.mp y.2⟩)), e]
    · rw [e1]
      show (if bI _ = 0 then (if bI _ = 0 then (-1 : Int32) else 3) else 2) = w
      have et := tw_eq h (ln := ln) (hr := mnI (i 3 y) fr) (own := nI y) (sp := some y) (Or.inr ⟨y, hy, rfl, rfl⟩)
      rw [e2] at hR
      unfold mLG mTW at hR
      rw [sta_eq h hy, stp_eq h hy] at hR
      have ne : ¬ nI y = -1 := fun e => absurd e.symm (nI_nm1 (by omega))
      rcases hR with ⟨z, e⟩ | ⟨z1, z, e⟩ | ⟨z1, z, e⟩
      · rw [if_neg (bI_ne0.mpr z.2), e]
      · rw [if_pos (bI_eq0.mpr (fun y => z1 ⟨ne, y⟩)), if_neg (bI_ne0.mpr ⟨z.1, et.mpr z.2⟩), e]
      · rw [if_pos (bI_eq0.mpr (fun y => z1 ⟨ne, y⟩)), if_pos (bI_eq0.mpr (fun y => z ⟨y.1, et.mp y.2⟩)), e]
/-- one permit more -/
theorem RELn.apply (h : RELn c i j p r s M N) (hc40 : c 2 < 40) {a : Nat} (ha : a < 6) {e0 : Nat} (he0 : e0 < M) {fr en nd ur st w o : Int32} {pn : Option Nat} (hnd : (nd = -1 ∧ pn = none) ∨ ∃ z, z < c 2 ∧ nd = nI z ∧ pn = some z)
    (a1 : ∀ x, x ≠ 1 → x ≠ 2 → c' x = c x) (a2 : c' 2 = c 2 + 1) (a3 : ∀ f k, kf f ≠ 1 → ¬ (kf f = 2 ∧ k = c 2) → i' f k = i f k) (a4 : ∀ f k, f ≠ 1 → ¬ (2 ≤ f ∧ k = c 2) → j' f k = j f k) (a5 : ∀ f k, k ≠ c 2 → p' f k = p f k)
    (b5 : i' 5 (c 2) = nI (c 2)) (b6 : i' 6 (c 2) = nI a) (b7 : i' 7 (c 2) = nI e0) (b8 : i' 8 (c 2) = fr) (b9 : i' 9 (c 2) = en) (b10 : i' 10 (c 2) = ur) (b11 : i' 11 (c 2) = st) (b12 : i' 12 (c 2) = w) (b13 : i' 13 (c 2) = -1) (b14 : i' 14 (c 2) = -1) (bj : j' 2 (c 2) = 0) (bp : p' 1 (c 2) = pn)
    (hst : st = 0 ∨ st = 1) (hc1 : c 1 ≤ c' 1) (hc1' : c' 1 ≤ c 2 + 1) (h2 : ∀ o, o < c 1 → i' 2 o = i 2 o)
    (m1 : ∀ f, f ≠ 0 → f ≠ 24 → mi s2 f = mi s f) (m24 : mi s2 24 = nI (c' 1)) (m3 : ∀ f, f ≠ 22 → f ≠ 23 → mr s2 f = mr s f) (m4 : ∀ f, ml s2 f = ml s f)
    (hnew : (st = 1 ∧ p' 2 (c 2) = none) ∨ (¬ st = 1 ∧ ∃ y, y < c' 1 ∧ p' 2 (c 2) = some y ∧ o = nI y ∧ i' 2 y = nI e0))
    (hop : ∀ y, y < c' 1 → i' 3 y = mr s2 22 y ∧ i' 4 y = mr s2 23 y ∧ (∃ f e : Nat, mr s2 22 y = nI f ∧ mr s2 23 y = nI e ∧ f < e ∧ e ≤ 4940) ∧ ((¬ (st = 0 ∧ o = nI y) ∧ y < c 1 ∧ j' 1 y = j 1 y) ∨ (st = 0 ∧ o = nI y ∧ y < c 1 ∧ j' 1 y = (j 1 y ||| bitJ (nI (c 2)))) ∨ (st = 0 ∧ o = nI y ∧ y = c 1 ∧ j' 1 y = (0 ||| bitJ (nI (c 2))))))
    : RELn c' i' j' p' r (mAp s2 (c 2) (nI a) (nI e0) fr en nd ur st w o) M N := by
  obtain ⟨n1, n21, nr, nk, nl, v11, v12, v13, v14, v15, v16, v17, v18, v19⟩ := mAp_is (s2 := s2) (np := c 2) (ap := nI a) (ln := nI e0) (fr := fr) (en := en) (nd := nd) (ur := ur) (st := st) (w := w) (o := o)
  generalize hs' : mAp s2 (c 2) (nI a) (nI e0) fr en nd ur st w o = s' at *
  have hB := h.b
  have hi : ∀ f, f < 2 ∨ 15 ≤ f → i' f = i f := fun f hf => by
    funext k
    have e1 : kf f ≠ 1 := by unfold kf; split; decide; split; omega; split; omega; split; decide; split; decide; split <;> decide
    have e2 : kf f ≠ 2 := by unfold kf; split; decide; split; omega; split; omega; split; decide; split; decide; split <;> decide
    exact a3 f k e1 (fun z => e2 z.1)
  have hik : ∀ f k, 5 ≤ f → f < 15 → k ≠ c 2 → i' f k = i f k := fun f k h1 h2 hk => a3 f k (by rw [kf_2 h1 h2]; decide) (fun z => hk z.2)
  have hcd : ∀ x, cdM i' x (c 2 + 1) = cdM i x (c 2) := by
    intro x
    unfold cdM
    rw [orM_f (n := c 2) (fun z => z.1 b13)]
    have e7 : ∀ n, n ≤ c 2 → orM (fun k => i' 13 k ≠ -1 ∧ i' 13 k ≤ x ∧ (i' 14 k = -1 ∨ x < i' 14 k)) (i' 7) n = orM (fun k => i 13 k ≠ -1 ∧ i 13 k ≤ x ∧ (i 14 k = -1 ∨ x < i 14 k)) (i 7) n := by
      intro n hn
      induction n with
      | zero => rfl
      | succ n ih =>
        have ih := ih (by omega)
        have q13 := hik 13 n (by decide) (by decide) (by omega)
        have q14 := hik 14 n (by decide) (by decide) (by omega)
        have q7 := hik 7 n (by decide) (by decide) (by omega)
        by_cases g : i 13 n ≠ -1 ∧ i 13 n ≤ x ∧ (i 14 n = -1 ∨ x < i 14 n)
        · rw [orM_t (P := fun k => i 13 k ≠ -1 ∧ i 13 k ≤ x ∧ (i 14 k = -1 ∨ x < i 14 k)) g, orM_t (P := fun k => i' 13 k ≠ -1 ∧ i' 13 k ≤ x ∧ (i' 14 k = -1 ∨ x < i' 14 k)) (by rw [q13, q14]; exact g), ih, q7]
        · rw [orM_f (P := fun k => i 13 k ≠ -1 ∧ i 13 k ≤ x ∧ (i 14 k = -1 ∨ x < i 14 k)) g, orM_f (P := fun k => i' 13 k ≠ -1 ∧ i' 13 k ≤ x ∧ (i' 14 k = -1 ∨ x < i' 14 k)) (by rw [q13, q14]; exact g), ih]
    exact e7 (c 2) (Nat.le_refl _)
  obtain ⟨g1, g2, g3, g4, g5, g6, g7, g8⟩ := h
  refine ⟨?_, ?_, ?_, ?_, ?_, ?_, ?_, ?_⟩
  · unfold RN at *
    obtain ⟨z1, z2, z3, z4, z5, z6, z7, z8, z9, z10, z11, z12, z13, z14⟩ := g1
    rw [a1 0 (by decide) (by decide), a2, hi 15 (by decide), hi 18 (by decide), n21, n1 5 (by decide), n1 10 (by decide), n1 24 (by decide), n1 1 (by decide), nl, nl, m1 5 (by decide) (by decide), m1 10 (by decide) (by decide), m1 1 (by decide) (by decide), m24, m4, m4, nI_1]
    exact ⟨z1, z2, z3, z4, z5, rfl, by omega, rfl, hc1', z10, z11, z12, z13, fun k hk => z14 k (by omega)⟩
  · unfold RLn at *
    rw [nr 2 (by decide), nr 3 (by decide), nr 4 (by decide), m3 2 (by decide) (by decide), m3 3 (by decide) (by decide), m3 4 (by decide) (by decide)]
    exact g2
  · intro l hl
    rw [a1 0 (by decide) (by decide)] at hl
    have g := g3 l hl
    unfold RL1 at *
    rw [hi 1 (by decide), hi 0 (by decide), a4 0 l (by decide) (by omega), nr 6 (by decide), nr 8 (by decide), nr 7 (by decide), m3 6 (by decide) (by decide), m3 8 (by decide) (by decide), m3 7 (by decide) (by decide), nl, m4]
    exact g
  · intro k hk
    rw [a2] at hk
    by_cases e : k = c 2
    · rw [e]
      unfold RP1
      rw [b5, b6, b7, b8, b9, b10, b11, b12, b13, b14, bj, bp, v11, v12, v13, v14, v15, v16, v17, v18, v19, nl, m4]
      refine ⟨⟨rfl, rfl, rfl, rfl, rfl, rfl, rfl, rfl, (g1.2.2.2.2.2.2.2.2.2.2.2.2.2 (c 2) (Nat.le_refl _)).symm⟩, ⟨a, ha, rfl⟩, ⟨e0, he0, rfl⟩, ?_, ?_, ?_⟩
      · rcases hnd with ⟨q1, q2⟩ | ⟨z, q1, q2, q3⟩
        · exact Or.inl ⟨q2, q1⟩
        · exact Or.inr ⟨z, q1, q3, q2⟩
      · rcases hnew with q | ⟨q1, y, q2, q3, q4, q5⟩
        · exact Or.inl q
        · exact Or.inr ⟨q1, y, q2, q3, q4, q5⟩
      · exact Or.inl ⟨hst.elim Or.inl (fun e => Or.inr (Or.inl e)), rfl, rfl⟩
    · have g := g4 k (by omega)
      unfold RP1 at *
      rw [hik 5 k (by decide) (by decide) e, hik 6 k (by decide) (by decide) e, hik 7 k (by decide) (by decide) e, hik 8 k (by decide) (by decide) e, hik 9 k (by decide) (by decide) e, hik 10 k (by decide) (by decide) e, hik 11 k (by decide) (by decide) e, hik 12 k (by decide) (by decide) e, hik 13 k (by decide) (by decide) e, hik 14 k (by decide) (by decide) e, a4 2 k (by decide) (fun z => e z.2), a5 1 k e, a5 2 k e, nk 11 k e, nk 12 k e, nk 13 k e, nk 14 k e, nk 15 k e, nk 16 k e, nk 17 k e, nk 18 k e, nk 19 k e, nl, m4, m3 11 (by decide) (by decide), m3 12 (by decide) (by decide), m3 13 (by decide) (by decide), m3 14 (by decide) (by decide), m3 15 (by decide) (by decide), m3 16 (by decide) (by decide), m3 17 (by decide) (by decide), m3 18 (by decide) (by decide), m3 19 (by decide) (by decide)]
      refine ⟨g.1, g.2.1, g.2.2.1, g.2.2.2.1, ?_, g.2.2.2.2.2⟩
      rcases g.2.2.2.2.1 with q | ⟨q1, y, q2, q3, q4, q5⟩
      · exact Or.inl q
      · exact Or.inr ⟨q1, y, by omega, q3, q4, (h2 y q2).trans q5⟩
  · intro y hy
    obtain ⟨p1, p2, p3, p4⟩ := hop y hy
    rw [nr 22 (by decide), nr 23 (by decide), a2]
    refine ⟨p1, p2, ?_, p3⟩
    have hin : ∀ b, b < c 2 → (in0 s' (nI y) b ↔ in0 s (nI y) b) := by
      intro b hb
      unfold in0
      rw [nk 17 b (by omega), nk 19 b (by omega), m3 17 (by decide) (by decide), m3 19 (by decide) (by decide)]
    have hlast : in0 s' (nI y) (c 2) ↔ (st = 0 ∧ o = nI y) := by
      unfold in0
      rw [v17, v19]
      rcases hst with e | e
      · rw [e]
        exact ⟨fun z => ⟨rfl, z.2⟩, fun z => ⟨⟨by decide, by decide⟩, z.2⟩⟩
      · rw [e]
        exact ⟨fun z => absurd rfl z.1.1, fun z => absurd z.1 (by decide)⟩
    have hold : mtg s' (nI y) (c 2) = mtg s (nI y) (c 2) := mtg_congr (by omega) hin
    rcases p4 with ⟨q1, q2, q3⟩ | ⟨q1, q2, q3, q4⟩ | ⟨q1, q2, q3, q4⟩
    · rw [mtg_f (fun z => q1 (hlast.mp z)), Int64.or_zero, hold, q3]
      exact (g5 y q2).2.2.1
    · rw [mtg_t (hlast.mpr ⟨q1, q2⟩), hold, q4, (g5 y q3).2.2.1]
      rfl
    · rw [mtg_t (hlast.mpr ⟨q1, q2⟩), hold, q4]
      have e0 : mtg s (nI y) (c 2) = 0 := by
        apply Classical.byContradiction
        intro z
        obtain ⟨b, hb, z1, z2⟩ := (mtg_ne (by omega)).mp z
        obtain ⟨-, -, -, -, g, -⟩ := g4 b hb
        rcases g with ⟨w, -⟩ | ⟨-, o2, w1, -, w3, -⟩
        · exact z1.1 w
        · have := nI_inj (by omega) (by omega) (w3.symm.trans z2)
          omega
      rw [e0]
      rfl
  · unfold RPt at *
    rw [nr 25 (by decide), m3 25 (by decide) (by decide)]
    exact g6
  · intro l hl
    rw [a1 0 (by decide) (by decide)] at hl
    rw [a4 0 l (by decide) (by omega), hi 1 (by decide), a2, SHR_congr (i := i) (r := r) (M := M) (n2 := c 2) (fun x hx => ?_)]
    · exact g7 l hl
    · rw [hcd]
      unfold exL
      rw [hi 0 (by decide)]
  · unfold WV WC at *
    rw [hi 16 (by decide), hi 17 (by decide)]
    exact g8
end ST
