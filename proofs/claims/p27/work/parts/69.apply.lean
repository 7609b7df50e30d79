/-! a new permit -/
section IPM
variable {S : wS} {a : Nat} {n ap ln fr en ur : Int32} {pn : Option Nat}
theorem iPm_i : (iPm S a n ap ln fr en pn ur).2.2.1 = up2 (up2 (up2 (up2 (up2 (up2 (up2 (up2 (up2 (up2 S.2.2.1 11 a 0) 12 a (-1)) 13 a (-1)) 14 a (-1)) 5 a n) 6 a ap) 7 a ln) 8 a fr) 9 a en) 10 a ur := rfl
theorem iPm_L : sL (iPm S a n ap ln fr en pn ur) = sL S := by unfold iPm; rw [sl_uI, sl_uP, sl_uI, sl_uI, sl_uI, sl_uI, sl_uI, sl_uI, sl_uI, sl_uI, sl_uI]
theorem iPm_K : sK (iPm S a n ap ln fr en pn ur) = sK S := by unfold iPm; rw [sk_uI, sk_uP, sk_uI, sk_uI, sk_uI, sk_uI, sk_uI, sk_uI, sk_uI, sk_uI, sk_uI]
theorem iPm_5 : sI (iPm S a n ap ln fr en pn ur) 5 a = n := (congrFun (congrFun iPm_i 5) a).trans (by rw [up2_nf (by decide), up2_nf (by decide), up2_nf (by decide), up2_nf (by decide), up2_nf (by decide), up2_self])
theorem iPm_6 : sI (iPm S a n ap ln fr en pn ur) 6 a = ap := (congrFun (congrFun iPm_i 6) a).trans (by rw [up2_nf (by decide), up2_nf (by decide), up2_nf (by decide), up2_nf (by decide), up2_self])
theorem iPm_7 : sI (iPm S a n ap ln fr en pn ur) 7 a = ln := (congrFun (congrFun iPm_i 7) a).trans (by rw [up2_nf (by decide), up2_nf (by decide), up2_nf (by decide), up2_self])
theorem iPm_8 : sI (iPm S a n ap ln fr en pn ur) 8 a = fr := (congrFun (congrFun iPm_i 8) a).trans (by rw [up2_nf (by decide), up2_nf (by decide), up2_self])
theorem iPm_9 : sI (iPm S a n ap ln fr en pn ur) 9 a = en := (congrFun (congrFun iPm_i 9) a).trans (by rw [up2_nf (by decide), up2_self])
theorem iPm_10 : sI (iPm S a n ap ln fr en pn ur) 10 a = ur := (congrFun (congrFun iPm_i 10) a).trans (by rw [up2_self])
theorem iPm_11 : sI (iPm S a n ap ln fr en pn ur) 11 a = 0 := (congrFun (congrFun iPm_i 11) a).trans (by rw [up2_nf (by decide), up2_nf (by decide), up2_nf (by decide), up2_nf (by decide), up2_nf (by decide), up2_nf (by decide), up2_nf (by decide), up2_nf (by decide), up2_nf (by decide), up2_self])
theorem iPm_12 : sI (iPm S a n ap ln fr en pn ur) 12 a = -1 := (congrFun (congrFun iPm_i 12) a).trans (by rw [up2_nf (by decide), up2_nf (by decide), up2_nf (by decide), up2_nf (by decide), up2_nf (by decide), up2_nf (by decide), up2_nf (by decide), up2_nf (by decide), up2_self])
theorem iPm_13 : sI (iPm S a n ap ln fr en pn ur) 13 a = -1 := (congrFun (congrFun iPm_i 13) a).trans (by rw [up2_nf (by decide), up2_nf (by decide), up2_nf (by decide), up2_nf (by decide), up2_nf (by decide), up2_nf (by decide), up2_nf (by decide), up2_self])
theorem iPm_14 : sI (iPm S a n ap ln fr en pn ur) 14 a = -1 := (congrFun (congrFun iPm_i 14) a).trans (by rw [up2_nf (by decide), up2_nf (by decide), up2_nf (by decide), up2_nf (by decide), up2_nf (by decide), up2_nf (by decide), up2_self])
theorem iPm_P1 : sP (iPm S a n ap ln fr en pn ur) 1 a = pn := up2_self _ _ _ _
theorem iPm_P2 : sP (iPm S a n ap ln fr en pn ur) 2 a = sP S 2 a := by
  show up2 S.2.2.2.2.1 1 a pn 2 a = S.2.2.2.2.1 2 a
  rw [up2_nf (by decide)]
theorem iPm_J : sJ (iPm S a n ap ln fr en pn ur) = sJ S := rfl
theorem iPm_FR : FR S (iPm S a n ap ln fr en pn ur) (fun z => z = a) := by
  unfold iPm
  have s : ∀ x, x ∈ sL S → x = a → x = a := fun _ _ h => h
  have h1 : FR S (uI S 11 a 0) (fun z => z = a) := FR.uI
  have h2 := h1.tr (FR.uI (f := 12) (a := a) (v := -1)) s s
  have h3 := h2.tr (FR.uI (f := 13) (a := a) (v := -1)) s s
  have h4 := h3.tr (FR.uI (f := 14) (a := a) (v := -1)) s s
  have h5 := h4.tr (FR.uI (f := 5) (a := a) (v := n)) s s
  have h6 := h5.tr (FR.uI (f := 6) (a := a) (v := ap)) s s
  have h7 := h6.tr (FR.uI (f := 7) (a := a) (v := ln)) s s
  have h8 := h7.tr (FR.uI (f := 8) (a := a) (v := fr)) s s
  have h9 := h8.tr (FR.uI (f := 9) (a := a) (v := en)) s s
  have h10 := h9.tr (FR.uP (f := 1) (a := a) (v := pn)) s s
  exact h10.tr (FR.uI (f := 10) (a := a) (v := ur)) s s
end IPM
/-! what an application is, in pure words -/
def metO (i : Nat → Nat → Int32) (p : Nat → Nat → Option Nat) (ql qf qe ur : Int32) (n2 : Nat) : Option Nat := if ur = 0 then fstM (metF i p ql qf qe) n2 else none
def lateV (i r : Nat → Nat → Int32) (a : Nat) (qf ur : Int32) : Int32 := bI (ur = 0 ∧ qf < i 18 0 + (2 + 3 * r 3 a))
def brkV (i : Nat → Nat → Int32) (p : Nat → Nat → Option Nat) (qf : Int32) (pn : Option Nat) : Int32 := match pn with
  | none => 0
  | some z => bI (i 11 z = 1 ∨ i 11 z = 4 ∨ qf < ((p 2 z).elim (i 9 z) (i 4)))
def longV (i : Nat → Nat → Int32) (qf qe : Int32) (o : Option Nat) : Int32 := match o with
  | none => 0
  | some y => bI ((40 : Int32) < mxI (i 4 y) qe - mnI (i 3 y) qf)
def twV (i : Nat → Nat → Int32) (j : Nat → Nat → Int64) (ql qf ur : Int32) (n1 : Nat) (o : Option Nat) : Int32 := match o with
  | none => bI (ur = 0 ∧ 0 < cntI (fun k => none ≠ some k ∧ i 2 k = ql ∧ ¬ j 1 k = 0 ∧ i 3 k / 500 = qf / 500) n1)
  | some y => bI (ur = 0 ∧ 0 < cntI (fun k => some y ≠ some k ∧ i 2 k = ql ∧ ¬ j 1 k = 0 ∧ i 3 k / 500 = mnI (i 3 y) qf / 500) n1)
def cauV (i r : Nat → Nat → Int32) (j : Nat → Nat → Int64) (p : Nat → Nat → Option Nat) (a : Nat) (ql qf qe ur : Int32) (n1 : Nat) (pn o : Option Nat) : Int32 := cau (lateV i r a qf ur) (brkV i p qf pn) (longV i qf qe o) (twV i j ql qf ur n1 o)
/-- what an application changes -/
def AR (c : Nat → Nat) (i : Nat → Nat → Int32) (j : Nat → Nat → Int64) (p : Nat → Nat → Option Nat) (c' : Nat → Nat) (i' : Nat → Nat → Int32) (j' : Nat → Nat → Int64) (p' : Nat → Nat → Option Nat) (o pn : Option Nat) (cz ap ln fr en ur : Int32) : Prop :=
  (∀ x, x ≠ 1 → x ≠ 2 → c' x = c x) ∧ c' 2 = c 2 + 1 ∧ (∀ f k, kf f ≠ 1 → ¬ (kf f = 2 ∧ k = c 2) → i' f k = i f k) ∧ (∀ f k, f ≠ 1 → ¬ (2 ≤ f ∧ k = c 2) → j' f k = j f k) ∧ (∀ f k, k ≠ c 2 → p' f k = p f k) ∧
  (i' 5 (c 2) = nI (c 2) ∧ i' 6 (c 2) = ap ∧ i' 7 (c 2) = ln ∧ i' 8 (c 2) = fr ∧ i' 9 (c 2) = en ∧ i' 10 (c 2) = ur ∧ i' 11 (c 2) = (if cz = -1 then 0 else 1) ∧ i' 12 (c 2) = cz ∧ i' 13 (c 2) = -1 ∧ i' 14 (c 2) = -1 ∧ j' 2 (c 2) = 0 ∧ j' 3 (c 2) = 0 ∧ p' 1 (c 2) = pn) ∧
  ((cz ≠ -1 ∧ c' 1 = c 1 ∧ p' 2 (c 2) = none ∧ ∀ k, k < c 1 → OPS i' j' k = OPS i j k) ∨
   (cz = -1 ∧ ∃ y, o = some y ∧ y < c 1 ∧ p' 2 (c 2) = some y ∧ c' 1 = c 1 ∧ OPS i' j' y = (i 2 y, mnI (i 3 y) fr, mxI (i 4 y) en, j 1 y ||| bitJ (nI (c 2))) ∧ ∀ k, k < c 1 → k ≠ y → OPS i' j' k = OPS i j k) ∨
   (cz = -1 ∧ o = none ∧ p' 2 (c 2) = some (c 1) ∧ c' 1 = c 1 + 1 ∧ OPS i' j' (c 1) = (ln, mnI fr fr, mxI en en, 0 ||| bitJ (nI (c 2))) ∧ ∀ k, k < c 1 → OPS i' j' k = OPS i j k))
theorem kf_2 {f : Nat} (h5 : 5 ≤ f) (h : f < 15) : kf f = 2 := by unfold kf; rw [if_neg (by omega), if_neg (by omega), if_pos h]
theorem kj_2 {f : Nat} (h : kj f = 2) : 2 ≤ f := by unfold kj at h; split at h; omega; split at h <;> omega
/-- the end of an application: S3 the permit is made, S1 it is decided, S9 it is in the list -/
theorem apply_end {e0 : Nat} {S3 S1 S9 : wS} {c : Nat → Nat} {ad : Nat → Nat → Nat} {i : Nat → Nat → Int32} {j : Nat → Nat → Int64} {p : Nat → Nat → Option Nat} {r : Nat → Nat → Int32} {q : Nat} {o pn : Option Nat} {cz ap ln fr en ur : Int32}
    (hPD : PD e0 S3 c ad i j p r q o cz S1) (hc2 : c 2 < 40) (e5 : sI S3 5 q = nI (c 2)) (e6 : sI S3 6 q = ap) (e7 : sI S3 7 q = ln) (e8 : sI S3 8 q = fr) (e9 : sI S3 9 q = en) (e10 : sI S3 10 q = ur) (e11 : sI S3 11 q = 0) (e13 : sI S3 13 q = -1) (e14 : sI S3 14 q = -1) (ep1 : sP S3 1 q = pn.map (ad 2)) (ej2 : sJ S3 2 q = 0) (ej3 : sJ S3 3 q = 0) (hpn : ∀ y, pn = some y → y < c 2) {v : Option Value} {ad8 : Nat}
    (hL1 : ∀ (c' : Nat → Nat) (ad' : Nat → Nat → Nat) (i' : Nat → Nat → Int32) (j' : Nat → Nat → Int64), CI e0 S1 c' ad' i' j' p r → c' 2 = c 2 → ad' 6 = ad 6 → ad' 2 = ad 2 → sP S1 14 (ad 6 1) = some ad8 → ad' 8 1 = ad8)
    (h14 : sP S1 14 (ad 6 1) = some ad8) (hA : pAdd e0 S1 (ad 6 1) ad8 (c 2) q (ad 2) v S9) (he9 : e0 ∉ sL S9) :
    ∃ c' ad' i' j' p', CI e0 S9 c' ad' i' j' p' r ∧ ad' 5 0 = ad 5 0 ∧ AR c i j p c' i' j' p' o pn cz ap ln fr en ur := by
  obtain ⟨c', ad', i', j', o', hI, hO, hm, hk, hf, h12, h11, hp1, hp2, hj, d1, d2, d3, d4, d5⟩ := hPD
  obtain ⟨-, d9, hL, hF, hd⟩ := hA
  have c2 : c' 2 = c 2 := d1 2 (by decide)
  have a2 : ad' 2 = ad 2 := d2 2 (by decide) (by decide)
  have a6 : ad' 6 = ad 6 := d2 6 (by decide) (by decide)
  have a8 : ad' 8 1 = ad8 := hL1 c' ad' i' j' hI c2 a6 a2 h14
  have hX : ¬ (q = ad 6 1 ∨ q = ad8) := by
    rintro (h | h)
    · exact hO.1 6 1 (by omega) (by have := hI.cnt; omega) (by rw [a6]; exact h.symm)
    · exact hO.2.2 1 (by omega) (by rw [a8]; exact h.symm)
  obtain ⟨g1, g2, g3, g4, -, -, -⟩ := hF.2 q hm hX
  have ho' : ∀ y, o' = some y → y < c' 1 := by
    intro y hy
    rcases d5 with ⟨-, -, z, -⟩ | ⟨-, y2, -, z1, z2, z3, -⟩ | ⟨-, -, z1, z2, -⟩
    · rw [z] at hy; cases hy
    · rw [z2] at hy; cases hy; rw [z3]; exact z1
    · rw [z1] at hy; cases hy; rw [z2]; exact Nat.lt_succ_self _
  have h9 := CI.ext (t := 1) (q := q) (d' := d9) (qa := 0) (p' := fun f k => if k = c 2 then (if f = 1 then pn else o') else p f k) hI (by omega) (fun e => absurd e (by decide)) (show c' 2 < 40 by omega) (by rw [a6, a8]; exact hF) hO.1 (hF.1 _ hm) (g1.trans hk) (by show okL e0 S9 (ad' 6 1) d9 (c' 2 + 1) (snoc (ad' 2) (c' 2) q); rw [a6, a2, c2]; exact hL) (by rw [a8]; exact hd) he9
    (fun f k hk => if_neg (by omega))
    (fun _ => by
      rw [c2]
      refine ⟨?_, ?_, ?_, ?_⟩
      · rw [if_pos rfl, if_pos rfl, a2, g4 1, hp1, ep1]
      · rw [if_pos rfl, if_neg (by decide), g4 2, hp2]
      · rw [if_pos rfl, if_pos rfl]; exact hpn
      · rw [if_pos rfl, if_neg (by decide)]; exact ho')
    (fun e => absurd e (by decide))
  have hr : xR' c' r (kl 1) 0 S9 = r := by funext k b; exact if_neg (fun e => absurd e.1 (by decide))
  rw [hr] at h9
  have nv : ∀ f, 5 ≤ f → f < 15 → xI c' i' (kl 1) q S9 f (c 2) = sI S1 f q := fun f h1 h2 => (if_pos ⟨kf_2 h1 h2, c2.symm⟩).trans (g2 f)
  have nj : ∀ f, kj f = 2 → xJ c' j' (kl 1) q S9 f (c 2) = sJ S1 f q := fun f h1 => (if_pos ⟨h1, c2.symm⟩).trans (g3 f)
  have ov : ∀ k, OPS (xI c' i' (kl 1) q S9) (xJ c' j' (kl 1) q S9) k = OPS i' j' k := fun k => by
    have x2 : xI c' i' (kl 1) q S9 2 k = i' 2 k := if_neg (fun z => absurd z.1 (by decide))
    have x3 : xI c' i' (kl 1) q S9 3 k = i' 3 k := if_neg (fun z => absurd z.1 (by decide))
    have x4 : xI c' i' (kl 1) q S9 4 k = i' 4 k := if_neg (fun z => absurd z.1 (by decide))
    have xj : xJ c' j' (kl 1) q S9 1 k = j' 1 k := if_neg (fun z => absurd z.1 (by decide))
    unfold OPS
    rw [x2, x3, x4, xj]
  have x1 : xC c' (kl 1) 1 = c' 1 := xC_o (by decide) (Or.inl (by decide))
  refine ⟨_, _, _, _, _, h9, (xAd_o (fun z => absurd z.1 (by decide)) (by decide) (Or.inr (by decide))).trans (congrFun (d2 5 (by decide) (by decide)) 0), fun x h1 h2 => (xC_o h2 (Or.inr (by decide))).trans (d1 x h1), ?_, fun f k h1 h2 => ?_, fun f k h1 h2 => ?_, fun f k h1 => if_neg h1, ⟨?_, ?_, ?_, ?_, ?_, ?_, ?_, ?_, ?_, ?_, ?_, ?_, ?_⟩, ?_⟩
  · exact (xC_s (c := c') (kd := 2)).trans (by rw [c2])
  · refine (if_neg (fun z => h2 ⟨z.1, z.2.trans c2⟩)).trans (d3 f k h1)
  · refine (if_neg (fun z => h2 ⟨kj_2 z.1, z.2.trans c2⟩)).trans (d4 f k h1)
  · exact (nv 5 (by omega) (by omega)).trans ((hf 5 (by decide) (by decide)).trans e5)
  · exact (nv 6 (by omega) (by omega)).trans ((hf 6 (by decide) (by decide)).trans e6)
  · exact (nv 7 (by omega) (by omega)).trans ((hf 7 (by decide) (by decide)).trans e7)
  · exact (nv 8 (by omega) (by omega)).trans ((hf 8 (by decide) (by decide)).trans e8)
  · exact (nv 9 (by omega) (by omega)).trans ((hf 9 (by decide) (by decide)).trans e9)
  · exact (nv 10 (by omega) (by omega)).trans ((hf 10 (by decide) (by decide)).trans e10)
  · refine (nv 11 (by omega) (by omega)).trans (h11.trans ?_); rw [e11]
  · exact (nv 12 (by omega) (by omega)).trans h12
  · exact (nv 13 (by omega) (by omega)).trans ((hf 13 (by decide) (by decide)).trans e13)
  · exact (nv 14 (by omega) (by omega)).trans ((hf 14 (by decide) (by decide)).trans e14)
  · exact (nj 2 rfl).trans ((hj 2).trans ej2)
  · exact (nj 3 rfl).trans ((hj 3).trans ej3)
  · show (if c 2 = c 2 then (if 1 = 1 then pn else o') else p 1 (c 2)) = pn
    rw [if_pos rfl, if_pos rfl]
  · have pp : (if c 2 = c 2 then (if 2 = 1 then pn else o') else p 2 (c 2)) = o' := by rw [if_pos rfl, if_neg (by decide)]
    rw [e5, e7, e8, e9] at d5
    rw [x1]
    rcases d5 with ⟨z1, z2, z3, z4⟩ | ⟨z1, y, z2, z3, z4, z5, z6, z7⟩ | ⟨z1, z2, z3, z4, z5, z6⟩
    · exact Or.inl ⟨z1, z2, pp.trans z3, fun k hk => (ov k).trans (z4 k hk)⟩
    · exact Or.inr (Or.inl ⟨z1, y, z2, z3, pp.trans z4, z5, (ov y).trans z6, fun k h1 h2 => (ov k).trans (z7 k h1 h2)⟩)
    · exact Or.inr (Or.inr ⟨z1, z2, pp.trans z3, z4, (ov _).trans z5, fun k hk => (ov k).trans (z6 k hk)⟩)
abbrev rm_X5_apply : Room := { frames := 9, cells := 10, slots := 2100, locals := 410 }
set_option maxHeartbeats 4000000 in
set_option maxRecDepth 100000 in
theorem m_X5_apply (l : Launch) (hl : l.stackTraces = false) (D : va_G) (cy : Nat → ClassId) (e0 : Nat) {S : wS} {c : Nat → Nat} {ad : Nat → Nat → Nat} {i : Nat → Nat → Int32} {j : Nat → Nat → Int64} {p : Nat → Nat → Option Nat} {r : Nat → Nat → Int32} (hI : CI e0 S c ad i j p r) {ap ln fr hs nd ur : Int32} (hu : ur = 0 ∨ ur = 1) {m : Nat} (hm : i 15 0 = nI m) (hm2 : m ≤ 24) (hc1 : c 1 < 40 ∨ c 2 = 40) : cMet l yX5_apply wsX5_apply rm_X5_apply D cy e0 [.ref (ad 5 0), .int (ap), .int (ln), .int (fr), .int (hs), .int (nd), .int (ur)] S (fun v S' => ∃ a l pn, a < 6 ∧ ap = nI a ∧ l < m ∧ ln = nI l ∧ ((nd = -1 ∧ pn = none) ∨ ∃ z, z < c 2 ∧ nd = nI z ∧ pn = some z) ∧ (¬ fr < 0 ∧ ¬ 4900 < fr ∧ ¬ hs < 1 ∧ ¬ 40 < hs ∧ ¬ fr < i 18 0) ∧ c 2 < 40 ∧ v = some (.int (nI (c 2))) ∧ ∃ o cz, o = metO i p ln fr (fr + hs) ur (c 2) ∧ cz = cauV i r j p a ln fr (fr + hs) ur (c 1) pn o ∧ ∃ c' ad' i' j' p', CI e0 S' c' ad' i' j' p' r ∧ ad' 5 0 = ad 5 0 ∧ AR c i j p c' i' j' p' o pn cz ap ln fr (fr + hs) ur) (fun X S' => (X = "java/lang/IndexOutOfBoundsException" ∧ ¬ ((∃ a, a < 6 ∧ ap = nI a) ∧ (∃ l, l < m ∧ ln = nI l) ∧ (nd = -1 ∨ ∃ z, z < c 2 ∧ nd = nI z)) ∧ S' = S) ∨ (X = "java/lang/IllegalArgumentException" ∧ ((∃ a, a < 6 ∧ ap = nI a) ∧ (∃ l, l < m ∧ ln = nI l) ∧ (nd = -1 ∨ ∃ z, z < c 2 ∧ nd = nI z) ∧ ¬ (¬ fr < 0 ∧ ¬ 4900 < fr ∧ ¬ hs < 1 ∧ ¬ 40 < hs ∧ ¬ fr < i 18 0)) ∧ S' = S) ∨ (X = "java/lang/IllegalStateException" ∧ ((∃ a, a < 6 ∧ ap = nI a) ∧ (∃ l, l < m ∧ ln = nI l) ∧ (nd = -1 ∨ ∃ z, z < c 2 ∧ nd = nI z) ∧ (¬ fr < 0 ∧ ¬ 4900 < fr ∧ ¬ hs < 1 ∧ ¬ 40 < hs ∧ ¬ fr < i 18 0) ∧ ¬ c 2 < 40) ∧ S' = S)) 10 2100 := by
  refine gMet.of (cc := cX5_apply) (maxL := 9) (ret := (some .int)) hl (by decide) rfl (Nat.le_of_ble_eq_true rfl) ?_
  intro C E h1 h2 h3 hr hnm hT hE
  subst h1; subst h2; subst h3
  have E : gOk C cX5_apply 9 wsX5_apply RX5 e0 rm_X5_apply := E
  show G C (cW (xy C) S) 0 0 0 [(0, .ref (ad 5 0)), (1, .int (ap)), (2, .int (ln)), (3, .int (fr)), (4, .int (hs)), (5, .int (nd)), (6, .int (ur))] []
  have hc := hI.cnt
  refine g_iload_n E dX5_apply_0 rfl 1 rfl ?_
  refine c_invS (n := 1) (rest := []) E (m_X5_checkApplicant (xl C) E.tr (xD C) (xy C) e0 (S := S) ) gX5_apply_X5_checkApplicant rfl rfl rfl (by decide +kernel) ⟨Nat.le_of_ble_eq_true rfl, Nat.le_of_ble_eq_true rfl⟩ rfl rfl (Nat.le_of_ble_eq_true rfl) dX5_apply_1 ⟨Nat.le_of_ble_eq_true rfl, Nat.le_of_ble_eq_true rfl⟩ (fun X9 S9 h9 => by obtain ⟨hX9, hx9, hS9⟩ := h9; rw [hX9, hS9]; exact gx_out E hE hT (Nat.le_of_ble_eq_true rfl) (Nat.le_of_ble_eq_true rfl) ⟨S, rfl, Or.inl ⟨rfl, fun q => q.1.elim fun a g => hx9 a g.1 g.2, rfl⟩⟩) (fun v9 S9_1 h9 => ?_)
  obtain ⟨hv9, hS9, k_1, hk_1, hx_1⟩ := h9
  rw [hv9, hS9]
  subst hx_1
  show G C (cW (xy C) S) 1 6 4 [(0, .ref (ad 5 0)), (1, .int (nI k_1)), (2, .int (ln)), (3, .int (fr)), (4, .int (hs)), (5, .int (nd)), (6, .int (ur))] []
  refine g_aload_n E dX5_apply_4 rfl 0 rfl ?_
  refine g_iload_n E dX5_apply_5 rfl 2 rfl ?_
  refine c_invV (n := 1) (rest := []) E (m_X5_checkLane (xl C) E.tr (xD C) (xy C) e0 (S := S) hI hm hm2) (hI.obj (kd := 5) (k := 0) (by omega) hI.c5).1 gX5_apply_X5_checkLane rfl rfl rfl (by decide +kernel) ⟨Nat.le_of_ble_eq_true rfl, Nat.le_of_ble_eq_true rfl⟩ (wF_PW (hI.obj (kd := 5) (k := 0) (by omega) hI.c5).2) rfl rfl rfl rfl (Nat.le_of_ble_eq_true rfl) dX5_apply_6 ⟨Nat.le_of_ble_eq_true rfl, Nat.le_of_ble_eq_true rfl⟩ (fun X9 S9 h9 => by obtain ⟨hX9, hx9, hS9⟩ := h9; rw [hX9, hS9]; exact gx_out E hE hT (Nat.le_of_ble_eq_true rfl) (Nat.le_of_ble_eq_true rfl) ⟨S, rfl, Or.inl ⟨rfl, fun q => q.2.1.elim fun a g => hx9 a g.1 g.2, rfl⟩⟩) (fun v9 S9_6 h9 => ?_)
  obtain ⟨hv9, hS9, k_6, hk_6, hx_6⟩ := h9
  rw [hv9, hS9]
  subst hx_6
  show G C (cW (xy C) S) 2 12 9 [(0, .ref (ad 5 0)), (1, .int (nI k_1)), (2, .int (nI k_6)), (3, .int (fr)), (4, .int (hs)), (5, .int (nd)), (6, .int (ur))] []
  refine g_iload E dX5_apply_9 5 rfl ?_
  refine g_iconst (v := (-1)) E dX5_apply_11 (by decide) ?_
  refine g_icmp_ne (tgt := 19) E dX5_apply_12 (by decide) (fun c_12 => ?_) (fun c_12 => ?_)
  · refine g_aload_n E dX5_apply_19 rfl 0 rfl ?_
    refine g_iload E dX5_apply_20 5 rfl ?_
    refine c_invV (n := 1) (rest := []) E (m_X5_permitOf (xl C) E.tr (xD C) (xy C) e0 hI) (hI.obj (kd := 5) (k := 0) (by omega) hI.c5).1 gX5_apply_X5_permitOf rfl rfl rfl (by decide +kernel) ⟨Nat.le_of_ble_eq_true rfl, Nat.le_of_ble_eq_true rfl⟩ (wF_PW (hI.obj (kd := 5) (k := 0) (by omega) hI.c5).2) rfl rfl rfl rfl (Nat.le_of_ble_eq_true rfl) dX5_apply_22 ⟨Nat.le_of_ble_eq_true rfl, Nat.le_of_ble_eq_true rfl⟩ (fun X9 S9 h9 => by obtain ⟨hX9, hx9, hS9⟩ := h9; rw [hX9, hS9]; exact gx_out E hE hT (Nat.le_of_ble_eq_true rfl) (Nat.le_of_ble_eq_true rfl) ⟨S, rfl, Or.inl ⟨rfl, fun q => q.2.2.elim c_12 (fun g => g.elim fun a g => hx9 a g.1 g.2), rfl⟩⟩) (fun v9 S9_22 h9 => ?_)
    obtain ⟨hS9, k_22, hk_22, hx_22, hv9⟩ := h9
    rw [hv9, hS9]
    subst hx_22
    show G C (cW (xy C) S) 3 18 25 [(0, .ref (ad 5 0)), (1, .int (nI k_1)), (2, .int (nI k_6)), (3, .int (fr)), (4, .int (hs)), (5, .int (nI k_22)), (6, .int (ur))] [.ref (ad 2 k_22)]
    refine g_astore (L' := [(7, .ref (ad 2 k_22)), (0, .ref (ad 5 0)), (1, .int (nI k_1)), (2, .int (nI k_6)), (3, .int (fr)), (4, .int (hs)), (5, .int (nI k_22)), (6, .int (ur))]) E dX5_apply_25 (by decide) rfl ?_
    refine g_iload_n E dX5_apply_27 rfl 4 rfl ?_
    refine g_if_lt (tgt := 59) E dX5_apply_28 (by decide) (fun c_28 => ?_) (fun c_28 => ?_)
    · exact g_throwS E hE hT "java/lang/IllegalArgumentException" "a permit is for 1 to 40 hours, from now on, up to 4900" ["java/lang/RuntimeException", "java/lang/Exception"] 37 130 41 (by decide) (by decide) (List.mem_cons_of_mem _ (List.mem_append_left _ (List.mem_append_left _ (List.mem_append_left _ (List.mem_append_left _ (List.mem_append_left _ (List.mem_append_left _ (List.mem_append_left _ (List.mem_append_left _ (List.mem_append_left _ (List.mem_of_getElem? (i := 0) rfl))))))))))) (List.mem_cons_of_mem _ (List.mem_append_left _ (List.mem_append_left _ (List.mem_append_left _ (List.mem_append_left _ (List.mem_append_left _ (List.mem_append_left _ (List.mem_append_left _ (List.mem_append_left _ (List.mem_append_left _ (List.mem_of_getElem? (i := 1) rfl))))))))))) tbS_RX5_130 (fun _ h => (List.mem_cons_of_mem _ (List.mem_append_left _ (List.mem_append_left _ (List.mem_append_right _ h))))) tbX_IAE tbG_IAE dX5_apply_59 dX5_apply_62 dX5_apply_63 dX5_apply_65 dX5_apply_68 (Nat.le_of_ble_eq_true rfl) (Nat.le_of_ble_eq_true rfl) (Nat.le_of_ble_eq_true rfl) (Nat.le_of_ble_eq_true rfl) (Nat.le_of_ble_eq_true rfl) (Nat.le_of_ble_eq_true rfl) ⟨S, rfl, Or.inr (Or.inl ⟨rfl, ⟨⟨k_1, hk_1, rfl⟩, ⟨k_6, hk_6, rfl⟩, Or.inr ⟨k_22, hk_22, rfl⟩, fun q => q.1 c_28⟩, rfl⟩)⟩
    · refine g_iload_n E dX5_apply_31 rfl 4 rfl ?_
      refine g_sipush (v := 4900) E dX5_apply_32 (by decide) ?_
      refine g_icmp_gt (tgt := 59) E dX5_apply_35 (by decide) (fun c_35 => ?_) (fun c_35 => ?_)
      · exact g_throwS E hE hT "java/lang/IllegalArgumentException" "a permit is for 1 to 40 hours, from now on, up to 4900" ["java/lang/RuntimeException", "java/lang/Exception"] 37 130 41 (by decide) (by decide) (List.mem_cons_of_mem _ (List.mem_append_left _ (List.mem_append_left _ (List.mem_append_left _ (List.mem_append_left _ (List.mem_append_left _ (List.mem_append_left _ (List.mem_append_left _ (List.mem_append_left _ (List.mem_append_left _ (List.mem_of_getElem? (i := 0) rfl))))))))))) (List.mem_cons_of_mem _ (List.mem_append_left _ (List.mem_append_left _ (List.mem_append_left _ (List.mem_append_left _ (List.mem_append_left _ (List.mem_append_left _ (List.mem_append_left _ (List.mem_append_left _ (List.mem_append_left _ (List.mem_of_getElem? (i := 1) rfl))))))))))) tbS_RX5_130 (fun _ h => (List.mem_cons_of_mem _ (List.mem_append_left _ (List.mem_append_left _ (List.mem_append_right _ h))))) tbX_IAE tbG_IAE dX5_apply_59 dX5_apply_62 dX5_apply_63 dX5_apply_65 dX5_apply_68 (Nat.le_of_ble_eq_true rfl) (Nat.le_of_ble_eq_true rfl) (Nat.le_of_ble_eq_true rfl) (Nat.le_of_ble_eq_true rfl) (Nat.le_of_ble_eq_true rfl) (Nat.le_of_ble_eq_true rfl) ⟨S, rfl, Or.inr (Or.inl ⟨rfl, ⟨⟨k_1, hk_1, rfl⟩, ⟨k_6, hk_6, rfl⟩, Or.inr ⟨k_22, hk_22, rfl⟩, fun q => q.2.1 c_35⟩, rfl⟩)⟩
      · refine g_iload E dX5_apply_38 5 rfl ?_
        refine g_iconst (v := 1) E dX5_apply_40 (by decide) ?_
        refine g_icmp_lt (tgt := 59) E dX5_apply_41 (by decide) (fun c_41 => ?_) (fun c_41 => ?_)
        · exact g_throwS E hE hT "java/lang/IllegalArgumentException" "a permit is for 1 to 40 hours, from now on, up to 4900" ["java/lang/RuntimeException", "java/lang/Exception"] 37 130 41 (by decide) (by decide) (List.mem_cons_of_mem _ (List.mem_append_left _ (List.mem_append_left _ (List.mem_append_left _ (List.mem_append_left _ (List.mem_append_left _ (List.mem_append_left _ (List.mem_append_left _ (List.mem_append_left _ (List.mem_append_left _ (List.mem_of_getElem? (i := 0) rfl))))))))))) (List.mem_cons_of_mem _ (List.mem_append_left _ (List.mem_append_left _ (List.mem_append_left _ (List.mem_append_left _ (List.mem_append_left _ (List.mem_append_left _ (List.mem_append_left _ (List.mem_append_left _ (List.mem_append_left _ (List.mem_of_getElem? (i := 1) rfl))))))))))) tbS_RX5_130 (fun _ h => (List.mem_cons_of_mem _ (List.mem_append_left _ (List.mem_append_left _ (List.mem_append_right _ h))))) tbX_IAE tbG_IAE dX5_apply_59 dX5_apply_62 dX5_apply_63 dX5_apply_65 dX5_apply_68 (Nat.le_of_ble_eq_true rfl) (Nat.le_of_ble_eq_true rfl) (Nat.le_of_ble_eq_true rfl) (Nat.le_of_ble_eq_true rfl) (Nat.le_of_ble_eq_true rfl) (Nat.le_of_ble_eq_true rfl) ⟨S, rfl, Or.inr (Or.inl ⟨rfl, ⟨⟨k_1, hk_1, rfl⟩, ⟨k_6, hk_6, rfl⟩, Or.inr ⟨k_22, hk_22, rfl⟩, fun q => q.2.2.1 c_41⟩, rfl⟩)⟩
        · refine g_iload E dX5_apply_44 5 rfl ?_
          refine g_bipush (v := 40) E dX5_apply_46 (by decide) ?_
          refine g_icmp_gt (tgt := 59) E dX5_apply_48 (by decide) (fun c_48 => ?_) (fun c_48 => ?_)
          · exact g_throwS E hE hT "java/lang/IllegalArgumentException" "a permit is for 1 to 40 hours, from now on, up to 4900" ["java/lang/RuntimeException", "java/lang/Exception"] 37 130 41 (by decide) (by decide) (List.mem_cons_of_mem _ (List.mem_append_left _ (List.mem_append_left _ (List.mem_append_left _ (List.mem_append_left _ (List.mem_append_left _ (List.mem_append_left _ (List.mem_append_left _ (List.mem_append_left _ (List.mem_append_left _ (List.mem_of_getElem? (i := 0) rfl))))))))))) (List.mem_cons_of_mem _ (List.mem_append_left _ (List.mem_append_left _ (List.mem_append_left _ (List.mem_append_left _ (List.mem_append_left _ (List.mem_append_left _ (List.mem_append_left _ (List.mem_append_left _ (List.mem_append_left _ (List.mem_of_getElem? (i := 1) rfl))))))))))) tbS_RX5_130 (fun _ h => (List.mem_cons_of_mem _ (List.mem_append_left _ (List.mem_append_left _ (List.mem_append_right _ h))))) tbX_IAE tbG_IAE dX5_apply_59 dX5_apply_62 dX5_apply_63 dX5_apply_65 dX5_apply_68 (Nat.le_of_ble_eq_true rfl) (Nat.le_of_ble_eq_true rfl) (Nat.le_of_ble_eq_true rfl) (Nat.le_of_ble_eq_true rfl) (Nat.le_of_ble_eq_true rfl) (Nat.le_of_ble_eq_true rfl) ⟨S, rfl, Or.inr (Or.inl ⟨rfl, ⟨⟨k_1, hk_1, rfl⟩, ⟨k_6, hk_6, rfl⟩, Or.inr ⟨k_22, hk_22, rfl⟩, fun q => q.2.2.2.1 c_48⟩, rfl⟩)⟩
          · refine g_iload_n E dX5_apply_51 rfl 4 rfl ?_
            refine g_aload_n E dX5_apply_52 rfl 1 rfl ?_
            refine q_get_PW_now E hI hI.c5 (fun _ h => (List.mem_cons_of_mem _ (List.mem_append_left _ (List.mem_append_left _ (List.mem_append_left _ (List.mem_append_left _ (List.mem_append_left _ (List.mem_append_left _ (List.mem_append_left _ (List.mem_append_right _ h)))))))))) (List.mem_cons_of_mem _ (List.mem_append_left _ (List.mem_append_left _ (List.mem_append_left _ (List.mem_append_left _ (List.mem_append_left _ (List.mem_append_left _ (List.mem_append_left _ (List.mem_append_left _ (List.mem_append_left _ (List.mem_of_getElem? (i := 4) rfl))))))))))) dX5_apply_53 ?_
            refine g_icmp_ge (tgt := 69) E dX5_apply_56 (by decide) (fun c_56 => ?_) (fun c_56 => ?_)
            · refine g_aload_n E dX5_apply_69 rfl 1 rfl ?_
              refine q_get_PW_permits E hI (fun _ h => (List.mem_cons_of_mem _ (List.mem_append_left _ (List.mem_append_left _ (List.mem_append_left _ (List.mem_append_left _ (List.mem_append_left _ (List.mem_append_left _ (List.mem_append_left _ (List.mem_append_right _ h)))))))))) (List.mem_cons_of_mem _ (List.mem_append_left _ (List.mem_append_left _ (List.mem_append_left _ (List.mem_append_left _ (List.mem_append_left _ (List.mem_append_left _ (List.mem_append_left _ (List.mem_append_left _ (List.mem_append_left _ (List.mem_of_getElem? (i := 5) rfl))))))))))) dX5_apply_70 ?_
              refine c_invV (n := 0) (rest := []) E (m_Jx4a65c_size_8abf5 (xl C) E.tr (xD C) (xy C) e0 hI.lists.2.1) (hI.obj (kd := 6) (k := 1) (by omega) (by have := hI.cnt; omega)).1 gX5_apply_Jx4a65c_size_8abf5 rfl rfl rfl (by decide +kernel) ⟨Nat.le_of_ble_eq_true rfl, Nat.le_of_ble_eq_true rfl⟩ (wF_AL (hI.obj (kd := 6) (k := 1) (by omega) (by have := hI.cnt; omega)).2) rfl rfl rfl rfl (Nat.le_of_ble_eq_true rfl) dX5_apply_73 ⟨Nat.le_of_ble_eq_true rfl, Nat.le_of_ble_eq_true rfl⟩ (fun _ _ h9 => h9.elim) (fun v9 S9_73 h9 => ?_)
              obtain ⟨hv9, hS9⟩ := h9
              rw [hv9, hS9]
              show G C (cW (xy C) S) 3 18 76 [(7, .ref (ad 2 k_22)), (0, .ref (ad 5 0)), (1, .int (nI k_1)), (2, .int (nI k_6)), (3, .int (fr)), (4, .int (hs)), (5, .int (nI k_22)), (6, .int (ur))] [.int (nI (c 2))]
              refine g_bipush (v := 40) E dX5_apply_76 (by decide) ?_
              refine g_icmp_ne (tgt := 91) E dX5_apply_78 (by decide) (fun c_78 => ?_) (fun c_78 => ?_)
              · have hc40 : c 2 < 40 := by have : c 2 ≠ 40 := fun e => c_78 (congrArg nI e); omega
                have hc1 : c 1 < 40 := hc1.elim id (fun e => by omega)
                refine p_new_Permit E (fun _ h => (List.mem_cons_of_mem _ (List.mem_append_left _ (List.mem_append_left _ (List.mem_append_left _ (List.mem_append_left _ (List.mem_append_left _ (List.mem_append_left _ (List.mem_append_right _ h))))))))) (List.mem_cons_of_mem _ (List.mem_append_left _ (List.mem_append_left _ (List.mem_append_left _ (List.mem_append_left _ (List.mem_append_left _ (List.mem_append_left _ (List.mem_append_left _ (List.mem_append_left _ (List.mem_append_left _ (List.mem_of_getElem? (i := 6) rfl))))))))))) (List.mem_cons_of_mem _ (List.mem_append_left _ (List.mem_append_left _ (List.mem_append_left _ (List.mem_append_left _ (List.mem_append_left _ (List.mem_append_left _ (List.mem_append_left _ (List.mem_append_left _ (List.mem_append_left _ (List.mem_of_getElem? (i := 7) rfl))))))))))) (List.mem_cons_of_mem _ (List.mem_append_left _ (List.mem_append_left _ (List.mem_append_left _ (List.mem_append_left _ (List.mem_append_left _ (List.mem_append_left _ (List.mem_append_left _ (List.mem_append_left _ (List.mem_append_left _ (List.mem_of_getElem? (i := 8) rfl))))))))))) (Nat.le_of_ble_eq_true rfl) (Nat.le_of_ble_eq_true rfl) dX5_apply_91 (fun q_91 hq_91 => ?_)
                refine g_e0 E (fun he2 => ?_)
                have hm2' : q_91 ∈ sL (nw S q_91 2 0) := nw_own (k := 2) (n := 0)
                have hO : OUT c ad q_91 := OUT.new hI hq_91 (fun e => he2 (e ▸ hm2'))
                have hI2 : CI e0 (nw S q_91 2 0) c ad i j p r := hI.outq (FR.tr (FR.nw hq_91) FR.rf (fun _ _ h => h.elim) (fun _ _ h => h)) hO he2
                show G C (cW (xy C) (nw S q_91 2 0)) 4 32 94 [(7, .ref (ad 2 k_22)), (0, .ref (ad 5 0)), (1, .int (nI k_1)), (2, .int (nI k_6)), (3, .int (fr)), (4, .int (hs)), (5, .int (nI k_22)), (6, .int (ur))] [.ref (q_91)]
                refine g_dup E dX5_apply_94 rfl ?_
                refine g_aload_n E dX5_apply_95 rfl 1 rfl ?_
                refine q_get_PW_permits E hI2 (fun _ h => (List.mem_cons_of_mem _ (List.mem_append_left _ (List.mem_append_left _ (List.mem_append_left _ (List.mem_append_left _ (List.mem_append_left _ (List.mem_append_left _ (List.mem_append_left _ (List.mem_append_right _ h)))))))))) (List.mem_cons_of_mem _ (List.mem_append_left _ (List.mem_append_left _ (List.mem_append_left _ (List.mem_append_left _ (List.mem_append_left _ (List.mem_append_left _ (List.mem_append_left _ (List.mem_append_left _ (List.mem_append_left _ (List.mem_of_getElem? (i := 5) rfl))))))))))) dX5_apply_96 ?_
                refine c_invV (n := 0) (rest := [.ref (q_91), .ref (q_91)]) E (m_Jx4a65c_size_8abf5 (xl C) E.tr (xD C) (xy C) e0 hI2.lists.2.1) (hI2.obj (kd := 6) (k := 1) (by omega) (by have := hI2.cnt; omega)).1 gX5_apply_Jx4a65c_size_8abf5 rfl rfl rfl (by decide +kernel) ⟨Nat.le_of_ble_eq_true rfl, Nat.le_of_ble_eq_true rfl⟩ (wF_AL (hI2.obj (kd := 6) (k := 1) (by omega) (by have := hI2.cnt; omega)).2) rfl rfl rfl rfl (Nat.le_of_ble_eq_true rfl) dX5_apply_99 ⟨Nat.le_of_ble_eq_true rfl, Nat.le_of_ble_eq_true rfl⟩ (fun _ _ h9 => h9.elim) (fun v9 S9_99 h9 => ?_)
                obtain ⟨hv9, hS9⟩ := h9
                rw [hv9, hS9]
                show G C (cW (xy C) (nw S q_91 2 0)) 4 32 102 [(7, .ref (ad 2 k_22)), (0, .ref (ad 5 0)), (1, .int (nI k_1)), (2, .int (nI k_6)), (3, .int (fr)), (4, .int (hs)), (5, .int (nI k_22)), (6, .int (ur))] [.int (nI (c 2)), .ref (q_91), .ref (q_91)]
                refine g_iload_n E dX5_apply_102 rfl 2 rfl ?_
                refine g_iload_n E dX5_apply_103 rfl 3 rfl ?_
                refine g_iload_n E dX5_apply_104 rfl 4 rfl ?_
                refine g_iload_n E dX5_apply_105 rfl 4 rfl ?_
                refine g_iload E dX5_apply_106 5 rfl ?_
                refine g_iadd E dX5_apply_108 ?_
                refine g_aload E dX5_apply_109 0 rfl ?_
                refine g_iload E dX5_apply_111 7 rfl ?_
                refine c_invI (n := 7) (rest := [.ref (q_91)]) E (m_X2_init (xl C) E.tr (xD C) (xy C) e0 (S := (nw S q_91 2 0)) (nw_own (k := 2) (n := 0)) (nw_Ko (k := 2) (n := 0)) hu) gX5_apply_X2_init rfl rfl rfl (List.mem_cons_of_mem _ (List.mem_append_left _ (List.mem_append_left _ (List.mem_append_left _ (List.mem_append_left _ (List.mem_append_left _ (List.mem_append_left _ (List.mem_append_left _ (List.mem_append_left _ (List.mem_append_left _ (List.mem_of_getElem? (i := 8) rfl))))))))))) (List.mem_cons_of_mem _ (List.mem_append_left _ (List.mem_append_left _ (List.mem_append_left _ (List.mem_append_left _ (List.mem_append_left _ (List.mem_append_left _ (List.mem_append_left _ (List.mem_append_left _ (List.mem_append_right _ (List.mem_append_right _ (List.mem_append_left _ (List.mem_of_getElem? (i := 0) rfl))))))))))))) (List.mem_cons_of_mem _ (List.mem_append_left _ (List.mem_append_left _ (List.mem_append_left _ (List.mem_append_left _ (List.mem_append_left _ (List.mem_append_left _ (List.mem_append_left _ (List.mem_append_left _ (List.mem_append_right _ (List.mem_append_right _ (List.mem_append_left _ (List.mem_of_getElem? (i := 1) rfl))))))))))))) rfl (by decide +kernel) ⟨Nat.le_of_ble_eq_true rfl, Nat.le_of_ble_eq_true rfl⟩ rfl rfl (Nat.le_of_ble_eq_true rfl) dX5_apply_113 ⟨Nat.le_of_ble_eq_true rfl, Nat.le_of_ble_eq_true rfl⟩ (fun _ _ h9 => h9.elim) (fun v9 S9_113 h9 => ?_)
                obtain ⟨hv9, hS9⟩ := h9
                have hS3 : ∃ S3, S3 = (iPm (nw S q_91 2 0) q_91 (nI (c 2)) (nI k_1) (nI k_6) fr (fr + hs) (some (ad 2 k_22)) ur) := ⟨_, rfl⟩
                obtain ⟨S3, hS3⟩ := hS3
                rw [hv9, hS9, ← hS3]
                have e5 : sI S3 5 q_91 = nI (c 2) := by rw [hS3]; exact iPm_5
                have e6 : sI S3 6 q_91 = nI k_1 := by rw [hS3]; exact iPm_6
                have e7 : sI S3 7 q_91 = nI k_6 := by rw [hS3]; exact iPm_7
                have e8 : sI S3 8 q_91 = fr := by rw [hS3]; exact iPm_8
                have e9 : sI S3 9 q_91 = fr + hs := by rw [hS3]; exact iPm_9
                have e10 : sI S3 10 q_91 = ur := by rw [hS3]; exact iPm_10
                have e11 : sI S3 11 q_91 = 0 := by rw [hS3]; exact iPm_11
                have e13 : sI S3 13 q_91 = -1 := by rw [hS3]; exact iPm_13
                have e14 : sI S3 14 q_91 = -1 := by rw [hS3]; exact iPm_14
                have ep1 : sP S3 1 q_91 = (some (ad 2 k_22)) := by rw [hS3]; exact iPm_P1
                have ep2 : sP S3 2 q_91 = none := by rw [hS3]; exact iPm_P2.trans (nw_Po (k := 2) (n := 0))
                have ej2 : sJ S3 2 q_91 = 0 := by rw [hS3, iPm_J]; exact nw_Jo (k := 2) (n := 0)
                have ej3 : sJ S3 3 q_91 = 0 := by rw [hS3, iPm_J]; exact nw_Jo (k := 2) (n := 0)
                have hm3 : q_91 ∈ sL S3 := by rw [hS3, iPm_L]; exact hm2'
                have hk3 : sK S3 q_91 = 2 := by rw [hS3, iPm_K]; exact nw_Ko (k := 2) (n := 0)
                have hI3 : CI e0 S3 c ad i j p r := hI2.outq (by rw [hS3]; exact iPm_FR) hO (by rw [hS3, iPm_L]; exact he2)
                show G C (cW (xy C) S3) 4 32 116 [(7, .ref (ad 2 k_22)), (0, .ref (ad 5 0)), (1, .int (nI k_1)), (2, .int (nI k_6)), (3, .int (fr)), (4, .int (hs)), (5, .int (nI k_22)), (6, .int (ur))] [.ref (q_91)]
                refine g_astore (L' := [(8, .ref (q_91)), (7, .ref (ad 2 k_22)), (0, .ref (ad 5 0)), (1, .int (nI k_1)), (2, .int (nI k_6)), (3, .int (fr)), (4, .int (hs)), (5, .int (nI k_22)), (6, .int (ur))]) E dX5_apply_116 (by decide) rfl ?_
                refine g_aload_n E dX5_apply_118 rfl 2 rfl ?_
                refine g_aload E dX5_apply_119 0 rfl ?_
                refine c_invV (n := 1) (rest := []) E (m_X5_decide_S (xl C) E.tr (xD C) (xy C) e0 hI3 hm3 hk3 e6 hk_1 hO hc1 ep2 ep1 hk_22) (hI3.obj (kd := 5) (k := 0) (by omega) hI.c5).1 gX5_apply_X5_decide rfl rfl rfl (by decide +kernel) ⟨Nat.le_of_ble_eq_true rfl, Nat.le_of_ble_eq_true rfl⟩ (wF_PW (hI3.obj (kd := 5) (k := 0) (by omega) hI.c5).2) rfl rfl rfl rfl (Nat.le_of_ble_eq_true rfl) dX5_apply_121 ⟨Nat.le_of_ble_eq_true rfl, Nat.le_of_ble_eq_true rfl⟩ (fun _ _ h9 => h9.elim) (fun v9 S9_121 h9 => ?_)
                obtain ⟨hv9, o, cz, ho, hcz, hPD⟩ := h9
                rw [hv9]
                have hPD0 := hPD
                obtain ⟨c', ad', i', j', o', hI5, hO5, hm5, hk5, -, -, -, -, -, -, d1, d2, -⟩ := hPD0
                have a5 : ad' 5 = ad 5 := d2 5 (by decide) (by decide)
                have a6 : ad' 6 = ad 6 := d2 6 (by decide) (by decide)
                have a2 : ad' 2 = ad 2 := d2 2 (by decide) (by decide)
                have c2 : c' 2 = c 2 := d1 2 (by decide)
                have hp5 := hI5.obj (kd := 5) (k := 0) (by omega) hI5.c5
                rw [a5] at hp5
                have hP5 : sP S9_121 11 (ad 5 0) = some (ad 6 1) := by have h := hI5.pw.2.2.1; rw [a5, a6] at h; exact h
                have hL5 : okL e0 S9_121 (ad 6 1) (ad' 8 1) (c 2) (ad 2) := by have h := hI5.lists.2.1; rw [a6, a2, c2] at h; exact h
                have ho2 : o = metO i p (nI k_6) fr (fr + hs) ur (c 2) := by rw [ho, e10, e7, e8, e9]; rfl
                have hcz2 : cz = cauV i r j p k_1 (nI k_6) fr (fr + hs) ur (c 1) (some k_22) o := by rw [hcz, e10, e7, e8, e9]; cases o <;> rfl
                show G C (cW (xy C) S9_121) 6 1036 124 [(8, .ref (q_91)), (7, .ref (ad 2 k_22)), (0, .ref (ad 5 0)), (1, .int (nI k_1)), (2, .int (nI k_6)), (3, .int (fr)), (4, .int (hs)), (5, .int (nI k_22)), (6, .int (ur))] []
                refine g_aload_n E dX5_apply_124 rfl 2 rfl ?_
                refine p_get_PW_permits (S := S9_121) E hp5.1 hp5.2 (fun _ h => (List.mem_cons_of_mem _ (List.mem_append_left _ (List.mem_append_left _ (List.mem_append_left _ (List.mem_append_left _ (List.mem_append_left _ (List.mem_append_left _ (List.mem_append_left _ (List.mem_append_right _ h)))))))))) (List.mem_cons_of_mem _ (List.mem_append_left _ (List.mem_append_left _ (List.mem_append_left _ (List.mem_append_left _ (List.mem_append_left _ (List.mem_append_left _ (List.mem_append_left _ (List.mem_append_left _ (List.mem_append_left _ (List.mem_of_getElem? (i := 5) rfl))))))))))) dX5_apply_125 ?_
                rw [hP5]
                show G C (cW (xy C) S9_121) 6 1036 128 [(8, .ref (q_91)), (7, .ref (ad 2 k_22)), (0, .ref (ad 5 0)), (1, .int (nI k_1)), (2, .int (nI k_6)), (3, .int (fr)), (4, .int (hs)), (5, .int (nI k_22)), (6, .int (ur))] [.ref (ad 6 1)]
                refine g_aload E dX5_apply_128 0 rfl ?_
                refine c_invV (n := 1) (rest := []) E (m_add (xl C) E.tr (xD C) (xy C) e0 (S := S9_121) (kd := 2) hL5 hc40 (by decide) hm5 hk5 (fun k hk => by have h := hI5.obj (kd := 2) (k := k) (by omega) (by omega); rw [a2] at h; exact h)) hL5.1 gX5_apply_Jx4a65c_add_9ea2d rfl rfl rfl (by decide +kernel) ⟨Nat.le_of_ble_eq_true rfl, Nat.le_of_ble_eq_true rfl⟩ (wF_AL hL5.2.1) rfl rfl rfl rfl (Nat.le_of_ble_eq_true rfl) dX5_apply_130 ⟨Nat.le_of_ble_eq_true rfl, Nat.le_of_ble_eq_true rfl⟩ (fun _ _ h9 => h9.elim) (fun v9 S9_130 h9 => ?_)
                have hA := h9
                obtain ⟨hv9, d9, hL9, hF9, hd9⟩ := h9
                rw [hv9]
                refine g_e0 E (fun he9 => ?_)
                have hXq : ¬ (q_91 = ad 6 1 ∨ q_91 = ad' 8 1) := by
                  rintro (h | h)
                  · exact hO.1 6 1 (by omega) (by have := hI.cnt; omega) h.symm
                  · exact hO5.2.2 1 (by omega) h.symm
                have hm9 := hF9.1 _ hm5
                have hk9 := (hF9.2 _ hm5 hXq).1.trans hk5
                have e59 : sI S9_130 5 q_91 = nI (c 2) := ((hF9.2 _ hm5 hXq).2.1 5).trans (hPD.elim fun c1 h => h.elim fun ad1 h => h.elim fun i1 h => h.elim fun j1 h => h.elim fun o1 h => (h.2.2.2.2.1 5 (by decide) (by decide)).trans e5)
                show G C (cW (xy C) S9_130) 7 2036 133 [(8, .ref (q_91)), (7, .ref (ad 2 k_22)), (0, .ref (ad 5 0)), (1, .int (nI k_1)), (2, .int (nI k_6)), (3, .int (fr)), (4, .int (hs)), (5, .int (nI k_22)), (6, .int (ur))] [.int (1)]
                refine g_pop E dX5_apply_133 rfl ?_
                refine g_aload E dX5_apply_134 0 rfl ?_
                refine p_getN_Permit_number (S := S9_130) E hm9 hk9 (fun _ h => (List.mem_cons_of_mem _ (List.mem_append_left _ (List.mem_append_left _ (List.mem_append_left _ (List.mem_append_left _ (List.mem_append_left _ (List.mem_append_left _ (List.mem_append_right _ h))))))))) tbF_RX5_143 dX5_apply_136 ?_
                rw [e59]
                show G C (cW (xy C) S9_130) 7 2036 139 [(8, .ref (q_91)), (7, .ref (ad 2 k_22)), (0, .ref (ad 5 0)), (1, .int (nI k_1)), (2, .int (nI k_6)), (3, .int (fr)), (4, .int (hs)), (5, .int (nI k_22)), (6, .int (ur))] [.int (nI (c 2))]
                exact g_iret E hE hr dX5_apply_139 (Nat.le_of_ble_eq_true rfl) (Nat.le_of_ble_eq_true rfl) ⟨S9_130, rfl, k_1, k_6, (some k_22), hk_1, rfl, hk_6, rfl, Or.inr ⟨k_22, hk_22, rfl, rfl⟩, ⟨c_28, c_35, c_41, c_48, Int32.not_lt.mpr c_56⟩, hc40, rfl, o, cz, ho2, hcz2, apply_end hPD hc40 e5 e6 e7 e8 e9 e10 e11 e13 e14 (by rw [ep1]; rfl) ej2 ej3 (fun y h => by cases h; exact hk_22) (fun c1 ad1 i1 j1 h1 h2 h3 h4 h5 => by have g := h1.lists.2.1.2.2.2.2.1; rw [h3, h5] at g; exact (Option.some.inj g).symm) hL5.2.2.2.2.1 hA he9⟩
              · exact g_throwS E hE hT "java/lang/IllegalStateException" "there are 40 permits" ["java/lang/RuntimeException", "java/lang/Exception"] 51 132 55 (by decide) (by decide) (List.mem_cons_of_mem _ (List.mem_append_left _ (List.mem_append_left _ (List.mem_append_left _ (List.mem_append_left _ (List.mem_append_left _ (List.mem_append_left _ (List.mem_append_left _ (List.mem_append_left _ (List.mem_append_left _ (List.mem_of_getElem? (i := 2) rfl))))))))))) (List.mem_cons_of_mem _ (List.mem_append_left _ (List.mem_append_left _ (List.mem_append_left _ (List.mem_append_left _ (List.mem_append_left _ (List.mem_append_left _ (List.mem_append_left _ (List.mem_append_left _ (List.mem_append_left _ (List.mem_of_getElem? (i := 3) rfl))))))))))) tbS_RX5_132 (fun _ h => (List.mem_cons_of_mem _ (List.mem_append_left _ (List.mem_append_right _ h)))) tbX_ISE tbG_ISE dX5_apply_81 dX5_apply_84 dX5_apply_85 dX5_apply_87 dX5_apply_90 (Nat.le_of_ble_eq_true rfl) (Nat.le_of_ble_eq_true rfl) (Nat.le_of_ble_eq_true rfl) (Nat.le_of_ble_eq_true rfl) (Nat.le_of_ble_eq_true rfl) (Nat.le_of_ble_eq_true rfl) ⟨S, rfl, Or.inr (Or.inr (⟨rfl, ⟨⟨k_1, hk_1, rfl⟩, ⟨k_6, hk_6, rfl⟩, Or.inr ⟨k_22, hk_22, rfl⟩, ⟨c_28, c_35, c_41, c_48, Int32.not_lt.mpr c_56⟩, fun q => absurd q (by have := nI_inj (a := c 2) (b := 40) (by omega) (by decide) c_78; omega)⟩, rfl⟩))⟩
            · exact g_throwS E hE hT "java/lang/IllegalArgumentException" "a permit is for 1 to 40 hours, from now on, up to 4900" ["java/lang/RuntimeException", "java/lang/Exception"] 37 130 41 (by decide) (by decide) (List.mem_cons_of_mem _ (List.mem_append_left _ (List.mem_append_left _ (List.mem_append_left _ (List.mem_append_left _ (List.mem_append_left _ (List.mem_append_left _ (List.mem_append_left _ (List.mem_append_left _ (List.mem_append_left _ (List.mem_of_getElem? (i := 0) rfl))))))))))) (List.mem_cons_of_mem _ (List.mem_append_left _ (List.mem_append_left _ (List.mem_append_left _ (List.mem_append_left _ (List.mem_append_left _ (List.mem_append_left _ (List.mem_append_left _ (List.mem_append_left _ (List.mem_append_left _ (List.mem_of_getElem? (i := 1) rfl))))))))))) tbS_RX5_130 (fun _ h => (List.mem_cons_of_mem _ (List.mem_append_left _ (List.mem_append_left _ (List.mem_append_right _ h))))) tbX_IAE tbG_IAE dX5_apply_59 dX5_apply_62 dX5_apply_63 dX5_apply_65 dX5_apply_68 (Nat.le_of_ble_eq_true rfl) (Nat.le_of_ble_eq_true rfl) (Nat.le_of_ble_eq_true rfl) (Nat.le_of_ble_eq_true rfl) (Nat.le_of_ble_eq_true rfl) (Nat.le_of_ble_eq_true rfl) ⟨S, rfl, Or.inr (Or.inl ⟨rfl, ⟨⟨k_1, hk_1, rfl⟩, ⟨k_6, hk_6, rfl⟩, Or.inr ⟨k_22, hk_22, rfl⟩, fun q => q.2.2.2.2 (Int32.not_le.mp c_56)⟩, rfl⟩)⟩
  · refine g_null E dX5_apply_15 ?_
    refine g_goto (tgt := 25) E dX5_apply_16 (by decide) ?_
    refine g_astoreN (L' := [(7, .null), (0, .ref (ad 5 0)), (1, .int (nI k_1)), (2, .int (nI k_6)), (3, .int (fr)), (4, .int (hs)), (5, .int (nd)), (6, .int (ur))]) E dX5_apply_25 (by decide) rfl ?_
    refine g_iload_n E dX5_apply_27 rfl 4 rfl ?_
    refine g_if_lt (tgt := 59) E dX5_apply_28 (by decide) (fun c_28 => ?_) (fun c_28 => ?_)
    · exact g_throwS E hE hT "java/lang/IllegalArgumentException" "a permit is for 1 to 40 hours, from now on, up to 4900" ["java/lang/RuntimeException", "java/lang/Exception"] 37 130 41 (by decide) (by decide) (List.mem_cons_of_mem _ (List.mem_append_left _ (List.mem_append_left _ (List.mem_append_left _ (List.mem_append_left _ (List.mem_append_left _ (List.mem_append_left _ (List.mem_append_left _ (List.mem_append_left _ (List.mem_append_left _ (List.mem_of_getElem? (i := 0) rfl))))))))))) (List.mem_cons_of_mem _ (List.mem_append_left _ (List.mem_append_left _ (List.mem_append_left _ (List.mem_append_left _ (List.mem_append_left _ (List.mem_append_left _ (List.mem_append_left _ (List.mem_append_left _ (List.mem_append_left _ (List.mem_of_getElem? (i := 1) rfl))))))))))) tbS_RX5_130 (fun _ h => (List.mem_cons_of_mem _ (List.mem_append_left _ (List.mem_append_left _ (List.mem_append_right _ h))))) tbX_IAE tbG_IAE dX5_apply_59 dX5_apply_62 dX5_apply_63 dX5_apply_65 dX5_apply_68 (Nat.le_of_ble_eq_true rfl) (Nat.le_of_ble_eq_true rfl) (Nat.le_of_ble_eq_true rfl) (Nat.le_of_ble_eq_true rfl) (Nat.le_of_ble_eq_true rfl) (Nat.le_of_ble_eq_true rfl) ⟨S, rfl, Or.inr (Or.inl ⟨rfl, ⟨⟨k_1, hk_1, rfl⟩, ⟨k_6, hk_6, rfl⟩, Or.inl c_12, fun q => q.1 c_28⟩, rfl⟩)⟩
    · refine g_iload_n E dX5_apply_31 rfl 4 rfl ?_
      refine g_sipush (v := 4900) E dX5_apply_32 (by decide) ?_
      refine g_icmp_gt (tgt := 59) E dX5_apply_35 (by decide) (fun c_35 => ?_) (fun c_35 => ?_)
      · exact g_throwS E hE hT "java/lang/IllegalArgumentException" "a permit is for 1 to 40 hours, from now on, up to 4900" ["java/lang/RuntimeException", "java/lang/Exception"] 37 130 41 (by decide) (by decide) (List.mem_cons_of_mem _ (List.mem_append_left _ (List.mem_append_left _ (List.mem_append_left _ (List.mem_append_left _ (List.mem_append_left _ (List.mem_append_left _ (List.mem_append_left _ (List.mem_append_left _ (List.mem_append_left _ (List.mem_of_getElem? (i := 0) rfl))))))))))) (List.mem_cons_of_mem _ (List.mem_append_left _ (List.mem_append_left _ (List.mem_append_left _ (List.mem_append_left _ (List.mem_append_left _ (List.mem_append_left _ (List.mem_append_left _ (List.mem_append_left _ (List.mem_append_left _ (List.mem_of_getElem? (i := 1) rfl))))))))))) tbS_RX5_130 (fun _ h => (List.mem_cons_of_mem _ (List.mem_append_left _ (List.mem_append_left _ (List.mem_append_right _ h))))) tbX_IAE tbG_IAE dX5_apply_59 dX5_apply_62 dX5_apply_63 dX5_apply_65 dX5_apply_68 (Nat.le_of_ble_eq_true rfl) (Nat.le_of_ble_eq_true rfl) (Nat.le_of_ble_eq_true rfl) (Nat.le_of_ble_eq_true rfl) (Nat.le_of_ble_eq_true rfl) (Nat.le_of_ble_eq_true rfl) ⟨S, rfl, Or.inr (Or.inl ⟨rfl, ⟨⟨k_1, hk_1, rfl⟩, ⟨k_6, hk_6, rfl⟩, Or.inl c_12, fun q => q.2.1 c_35⟩, rfl⟩)⟩
      · refine g_iload E dX5_apply_38 5 rfl ?_
        refine g_iconst (v := 1) E dX5_apply_40 (by decide) ?_
        refine g_icmp_lt (tgt := 59) E dX5_apply_41 (by decide) (fun c_41 => ?_) (fun c_41 => ?_)
        · exact g_throwS E hE hT "java/lang/IllegalArgumentException" "a permit is for 1 to 40 hours, from now on, up to 4900" ["java/lang/RuntimeException", "java/lang/Exception"] 37 130 41 (by decide) (by decide) (List.mem_cons_of_mem _ (List.mem_append_left _ (List.mem_append_left _ (List.mem_append_left _ (List.mem_append_left _ (List.mem_append_left _ (List.mem_append_left _ (List.mem_append_left _ (List.mem_append_left _ (List.mem_append_left _ (List.mem_of_getElem? (i := 0) rfl))))))))))) (List.mem_cons_of_mem _ (List.mem_append_left _ (List.mem_append_left _ (List.mem_append_left _ (List.mem_append_left _ (List.mem_append_left _ (List.mem_append_left _ (List.mem_append_left _ (List.mem_append_left _ (List.mem_append_left _ (List.mem_of_getElem? (i := 1) rfl))))))))))) tbS_RX5_130 (fun _ h => (List.mem_cons_of_mem _ (List.mem_append_left _ (List.mem_append_left _ (List.mem_append_right _ h))))) tbX_IAE tbG_IAE dX5_apply_59 dX5_apply_62 dX5_apply_63 dX5_apply_65 dX5_apply_68 (Nat.le_of_ble_eq_true rfl) (Nat.le_of_ble_eq_true rfl) (Nat.le_of_ble_eq_true rfl) (Nat.le_of_ble_eq_true rfl) (Nat.le_of_ble_eq_true rfl) (Nat.le_of_ble_eq_true rfl) ⟨S, rfl, Or.inr (Or.inl ⟨rfl, ⟨⟨k_1, hk_1, rfl⟩, ⟨k_6, hk_6, rfl⟩, Or.inl c_12, fun q => q.2.2.1 c_41⟩, rfl⟩)⟩
        · refine g_iload E dX5_apply_44 5 rfl ?_
          refine g_bipush (v := 40) E dX5_apply_46 (by decide) ?_
          refine g_icmp_gt (tgt := 59) E dX5_apply_48 (by decide) (fun c_48 => ?_) (fun c_48 => ?_)
          · exact g_throwS E hE hT "java/lang/IllegalArgumentException" "a permit is for 1 to 40 hours, from now on, up to 4900" ["java/lang/RuntimeException", "java/lang/Exception"] 37 130 41 (by decide) (by decide) (List.mem_cons_of_mem _ (List.mem_append_left _ (List.mem_append_left _ (List.mem_append_left _ (List.mem_append_left _ (List.mem_append_left _ (List.mem_append_left _ (List.mem_append_left _ (List.mem_append_left _ (List.mem_append_left _ (List.mem_of_getElem? (i := 0) rfl))))))))))) (List.mem_cons_of_mem _ (List.mem_append_left _ (List.mem_append_left _ (List.mem_append_left _ (List.mem_append_left _ (List.mem_append_left _ (List.mem_append_left _ (List.mem_append_left _ (List.mem_append_left _ (List.mem_append_left _ (List.mem_of_getElem? (i := 1) rfl))))))))))) tbS_RX5_130 (fun _ h => (List.mem_cons_of_mem _ (List.mem_append_left _ (List.mem_append_left _ (List.mem_append_right _ h))))) tbX_IAE tbG_IAE dX5_apply_59 dX5_apply_62 dX5_apply_63 dX5_apply_65 dX5_apply_68 (Nat.le_of_ble_eq_true rfl) (Nat.le_of_ble_eq_true rfl) (Nat.le_of_ble_eq_true rfl) (Nat.le_of_ble_eq_true rfl) (Nat.le_of_ble_eq_true rfl) (Nat.le_of_ble_eq_true rfl) ⟨S, rfl, Or.inr (Or.inl ⟨rfl, ⟨⟨k_1, hk_1, rfl⟩, ⟨k_6, hk_6, rfl⟩, Or.inl c_12, fun q => q.2.2.2.1 c_48⟩, rfl⟩)⟩
          · refine g_iload_n E dX5_apply_51 rfl 4 rfl ?_
            refine g_aload_n E dX5_apply_52 rfl 1 rfl ?_
            refine q_get_PW_now E hI hI.c5 (fun _ h => (List.mem_cons_of_mem _ (List.mem_append_left _ (List.mem_append_left _ (List.mem_append_left _ (List.mem_append_left _ (List.mem_append_left _ (List.mem_append_left _ (List.mem_append_left _ (List.mem_append_right _ h)))))))))) (List.mem_cons_of_mem _ (List.mem_append_left _ (List.mem_append_left _ (List.mem_append_left _ (List.mem_append_left _ (List.mem_append_left _ (List.mem_append_left _ (List.mem_append_left _ (List.mem_append_left _ (List.mem_append_left _ (List.mem_of_getElem? (i := 4) rfl))))))))))) dX5_apply_53 ?_
            refine g_icmp_ge (tgt := 69) E dX5_apply_56 (by decide) (fun c_56 => ?_) (fun c_56 => ?_)
            · refine g_aload_n E dX5_apply_69 rfl 1 rfl ?_
              refine q_get_PW_permits E hI (fun _ h => (List.mem_cons_of_mem _ (List.mem_append_left _ (List.mem_append_left _ (List.mem_append_left _ (List.mem_append_left _ (List.mem_append_left _ (List.mem_append_left _ (List.mem_append_left _ (List.mem_append_right _ h)))))))))) (List.mem_cons_of_mem _ (List.mem_append_left _ (List.mem_append_left _ (List.mem_append_left _ (List.mem_append_left _ (List.mem_append_left _ (List.mem_append_left _ (List.mem_append_left _ (List.mem_append_left _ (List.mem_append_left _ (List.mem_of_getElem? (i := 5) rfl))))))))))) dX5_apply_70 ?_
              refine c_invV (n := 0) (rest := []) E (m_Jx4a65c_size_8abf5 (xl C) E.tr (xD C) (xy C) e0 hI.lists.2.1) (hI.obj (kd := 6) (k := 1) (by omega) (by have := hI.cnt; omega)).1 gX5_apply_Jx4a65c_size_8abf5 rfl rfl rfl (by decide +kernel) ⟨Nat.le_of_ble_eq_true rfl, Nat.le_of_ble_eq_true rfl⟩ (wF_AL (hI.obj (kd := 6) (k := 1) (by omega) (by have := hI.cnt; omega)).2) rfl rfl rfl rfl (Nat.le_of_ble_eq_true rfl) dX5_apply_73 ⟨Nat.le_of_ble_eq_true rfl, Nat.le_of_ble_eq_true rfl⟩ (fun _ _ h9 => h9.elim) (fun v9 S9_73 h9 => ?_)
              obtain ⟨hv9, hS9⟩ := h9
              rw [hv9, hS9]
              show G C (cW (xy C) S) 2 12 76 [(7, .null), (0, .ref (ad 5 0)), (1, .int (nI k_1)), (2, .int (nI k_6)), (3, .int (fr)), (4, .int (hs)), (5, .int (nd)), (6, .int (ur))] [.int (nI (c 2))]
              refine g_bipush (v := 40) E dX5_apply_76 (by decide) ?_
              refine g_icmp_ne (tgt := 91) E dX5_apply_78 (by decide) (fun c_78 => ?_) (fun c_78 => ?_)
              · have hc40 : c 2 < 40 := by have : c 2 ≠ 40 := fun e => c_78 (congrArg nI e); omega
                have hc1 : c 1 < 40 := hc1.elim id (fun e => by omega)
                refine p_new_Permit E (fun _ h => (List.mem_cons_of_mem _ (List.mem_append_left _ (List.mem_append_left _ (List.mem_append_left _ (List.mem_append_left _ (List.mem_append_left _ (List.mem_append_left _ (List.mem_append_right _ h))))))))) (List.mem_cons_of_mem _ (List.mem_append_left _ (List.mem_append_left _ (List.mem_append_left _ (List.mem_append_left _ (List.mem_append_left _ (List.mem_append_left _ (List.mem_append_left _ (List.mem_append_left _ (List.mem_append_left _ (List.mem_of_getElem? (i := 6) rfl))))))))))) (List.mem_cons_of_mem _ (List.mem_append_left _ (List.mem_append_left _ (List.mem_append_left _ (List.mem_append_left _ (List.mem_append_left _ (List.mem_append_left _ (List.mem_append_left _ (List.mem_append_left _ (List.mem_append_left _ (List.mem_of_getElem? (i := 7) rfl))))))))))) (List.mem_cons_of_mem _ (List.mem_append_left _ (List.mem_append_left _ (List.mem_append_left _ (List.mem_append_left _ (List.mem_append_left _ (List.mem_append_left _ (List.mem_append_left _ (List.mem_append_left _ (List.mem_append_left _ (List.mem_of_getElem? (i := 8) rfl))))))))))) (Nat.le_of_ble_eq_true rfl) (Nat.le_of_ble_eq_true rfl) dX5_apply_91 (fun q_91 hq_91 => ?_)
                refine g_e0 E (fun he2 => ?_)
                have hm2' : q_91 ∈ sL (nw S q_91 2 0) := nw_own (k := 2) (n := 0)
                have hO : OUT c ad q_91 := OUT.new hI hq_91 (fun e => he2 (e ▸ hm2'))
                have hI2 : CI e0 (nw S q_91 2 0) c ad i j p r := hI.outq (FR.tr (FR.nw hq_91) FR.rf (fun _ _ h => h.elim) (fun _ _ h => h)) hO he2
                show G C (cW (xy C) (nw S q_91 2 0)) 3 26 94 [(7, .null), (0, .ref (ad 5 0)), (1, .int (nI k_1)), (2, .int (nI k_6)), (3, .int (fr)), (4, .int (hs)), (5, .int (nd)), (6, .int (ur))] [.ref (q_91)]
                refine g_dup E dX5_apply_94 rfl ?_
                refine g_aload_n E dX5_apply_95 rfl 1 rfl ?_
                refine q_get_PW_permits E hI2 (fun _ h => (List.mem_cons_of_mem _ (List.mem_append_left _ (List.mem_append_left _ (List.mem_append_left _ (List.mem_append_left _ (List.mem_append_left _ (List.mem_append_left _ (List.mem_append_left _ (List.mem_append_right _ h)))))))))) (List.mem_cons_of_mem _ (List.mem_append_left _ (List.mem_append_left _ (List.mem_append_left _ (List.mem_append_left _ (List.mem_append_left _ (List.mem_append_left _ (List.mem_append_left _ (List.mem_append_left _ (List.mem_append_left _ (List.mem_of_getElem? (i := 5) rfl))))))))))) dX5_apply_96 ?_
                refine c_invV (n := 0) (rest := [.ref (q_91), .ref (q_91)]) E (m_Jx4a65c_size_8abf5 (xl C) E.tr (xD C) (xy C) e0 hI2.lists.2.1) (hI2.obj (kd := 6) (k := 1) (by omega) (by have := hI2.cnt; omega)).1 gX5_apply_Jx4a65c_size_8abf5 rfl rfl rfl (by decide +kernel) ⟨Nat.le_of_ble_eq_true rfl, Nat.le_of_ble_eq_true rfl⟩ (wF_AL (hI2.obj (kd := 6) (k := 1) (by omega) (by have := hI2.cnt; omega)).2) rfl rfl rfl rfl (Nat.le_of_ble_eq_true rfl) dX5_apply_99 ⟨Nat.le_of_ble_eq_true rfl, Nat.le_of_ble_eq_true rfl⟩ (fun _ _ h9 => h9.elim) (fun v9 S9_99 h9 => ?_)
                obtain ⟨hv9, hS9⟩ := h9
                rw [hv9, hS9]
                show G C (cW (xy C) (nw S q_91 2 0)) 3 26 102 [(7, .null), (0, .ref (ad 5 0)), (1, .int (nI k_1)), (2, .int (nI k_6)), (3, .int (fr)), (4, .int (hs)), (5, .int (nd)), (6, .int (ur))] [.int (nI (c 2)), .ref (q_91), .ref (q_91)]
                refine g_iload_n E dX5_apply_102 rfl 2 rfl ?_
                refine g_iload_n E dX5_apply_103 rfl 3 rfl ?_
                refine g_iload_n E dX5_apply_104 rfl 4 rfl ?_
                refine g_iload_n E dX5_apply_105 rfl 4 rfl ?_
                refine g_iload E dX5_apply_106 5 rfl ?_
                refine g_iadd E dX5_apply_108 ?_
                refine g_aloadN E dX5_apply_109 0 rfl ?_
                refine g_iload E dX5_apply_111 7 rfl ?_
                refine c_invI (n := 7) (rest := [.ref (q_91)]) E (m_X2_init_N (xl C) E.tr (xD C) (xy C) e0 (S := (nw S q_91 2 0)) (nw_own (k := 2) (n := 0)) (nw_Ko (k := 2) (n := 0)) hu) gX5_apply_X2_init rfl rfl rfl (List.mem_cons_of_mem _ (List.mem_append_left _ (List.mem_append_left _ (List.mem_append_left _ (List.mem_append_left _ (List.mem_append_left _ (List.mem_append_left _ (List.mem_append_left _ (List.mem_append_left _ (List.mem_append_left _ (List.mem_of_getElem? (i := 8) rfl))))))))))) (List.mem_cons_of_mem _ (List.mem_append_left _ (List.mem_append_left _ (List.mem_append_left _ (List.mem_append_left _ (List.mem_append_left _ (List.mem_append_left _ (List.mem_append_left _ (List.mem_append_left _ (List.mem_append_right _ (List.mem_append_right _ (List.mem_append_left _ (List.mem_of_getElem? (i := 0) rfl))))))))))))) (List.mem_cons_of_mem _ (List.mem_append_left _ (List.mem_append_left _ (List.mem_append_left _ (List.mem_append_left _ (List.mem_append_left _ (List.mem_append_left _ (List.mem_append_left _ (List.mem_append_left _ (List.mem_append_right _ (List.mem_append_right _ (List.mem_append_left _ (List.mem_of_getElem? (i := 1) rfl))))))))))))) rfl (by decide +kernel) ⟨Nat.le_of_ble_eq_true rfl, Nat.le_of_ble_eq_true rfl⟩ rfl rfl (Nat.le_of_ble_eq_true rfl) dX5_apply_113 ⟨Nat.le_of_ble_eq_true rfl, Nat.le_of_ble_eq_true rfl⟩ (fun _ _ h9 => h9.elim) (fun v9 S9_113 h9 => ?_)
                obtain ⟨hv9, hS9⟩ := h9
                have hS3 : ∃ S3, S3 = (iPm (nw S q_91 2 0) q_91 (nI (c 2)) (nI k_1) (nI k_6) fr (fr + hs) none ur) := ⟨_, rfl⟩
                obtain ⟨S3, hS3⟩ := hS3
                rw [hv9, hS9, ← hS3]
                have e5 : sI S3 5 q_91 = nI (c 2) := by rw [hS3]; exact iPm_5
                have e6 : sI S3 6 q_91 = nI k_1 := by rw [hS3]; exact iPm_6
                have e7 : sI S3 7 q_91 = nI k_6 := by rw [hS3]; exact iPm_7
                have e8 : sI S3 8 q_91 = fr := by rw [hS3]; exact iPm_8
                have e9 : sI S3 9 q_91 = fr + hs := by rw [hS3]; exact iPm_9
                have e10 : sI S3 10 q_91 = ur := by rw [hS3]; exact iPm_10
                have e11 : sI S3 11 q_91 = 0 := by rw [hS3]; exact iPm_11
                have e13 : sI S3 13 q_91 = -1 := by rw [hS3]; exact iPm_13
                have e14 : sI S3 14 q_91 = -1 := by rw [hS3]; exact iPm_14
                have ep1 : sP S3 1 q_91 = none := by rw [hS3]; exact iPm_P1
                have ep2 : sP S3 2 q_91 = none := by rw [hS3]; exact iPm_P2.trans (nw_Po (k := 2) (n := 0))
                have ej2 : sJ S3 2 q_91 = 0 := by rw [hS3, iPm_J]; exact nw_Jo (k := 2) (n := 0)
                have ej3 : sJ S3 3 q_91 = 0 := by rw [hS3, iPm_J]; exact nw_Jo (k := 2) (n := 0)
                have hm3 : q_91 ∈ sL S3 := by rw [hS3, iPm_L]; exact hm2'
                have hk3 : sK S3 q_91 = 2 := by rw [hS3, iPm_K]; exact nw_Ko (k := 2) (n := 0)
                have hI3 : CI e0 S3 c ad i j p r := hI2.outq (by rw [hS3]; exact iPm_FR) hO (by rw [hS3, iPm_L]; exact he2)
                show G C (cW (xy C) S3) 3 26 116 [(7, .null), (0, .ref (ad 5 0)), (1, .int (nI k_1)), (2, .int (nI k_6)), (3, .int (fr)), (4, .int (hs)), (5, .int (nd)), (6, .int (ur))] [.ref (q_91)]
                refine g_astore (L' := [(8, .ref (q_91)), (7, .null), (0, .ref (ad 5 0)), (1, .int (nI k_1)), (2, .int (nI k_6)), (3, .int (fr)), (4, .int (hs)), (5, .int (nd)), (6, .int (ur))]) E dX5_apply_116 (by decide) rfl ?_
                refine g_aload_n E dX5_apply_118 rfl 2 rfl ?_
                refine g_aload E dX5_apply_119 0 rfl ?_
                refine c_invV (n := 1) (rest := []) E (m_X5_decide_N (xl C) E.tr (xD C) (xy C) e0 hI3 hm3 hk3 e6 hk_1 hO hc1 ep2 ep1) (hI3.obj (kd := 5) (k := 0) (by omega) hI.c5).1 gX5_apply_X5_decide rfl rfl rfl (by decide +kernel) ⟨Nat.le_of_ble_eq_true rfl, Nat.le_of_ble_eq_true rfl⟩ (wF_PW (hI3.obj (kd := 5) (k := 0) (by omega) hI.c5).2) rfl rfl rfl rfl (Nat.le_of_ble_eq_true rfl) dX5_apply_121 ⟨Nat.le_of_ble_eq_true rfl, Nat.le_of_ble_eq_true rfl⟩ (fun _ _ h9 => h9.elim) (fun v9 S9_121 h9 => ?_)
                obtain ⟨hv9, o, cz, ho, hcz, hPD⟩ := h9
                rw [hv9]
                have hPD0 := hPD
                obtain ⟨c', ad', i', j', o', hI5, hO5, hm5, hk5, -, -, -, -, -, -, d1, d2, -⟩ := hPD0
                have a5 : ad' 5 = ad 5 := d2 5 (by decide) (by decide)
                have a6 : ad' 6 = ad 6 := d2 6 (by decide) (by decide)
                have a2 : ad' 2 = ad 2 := d2 2 (by decide) (by decide)
                have c2 : c' 2 = c 2 := d1 2 (by decide)
                have hp5 := hI5.obj (kd := 5) (k := 0) (by omega) hI5.c5
                rw [a5] at hp5
                have hP5 : sP S9_121 11 (ad 5 0) = some (ad 6 1) := by have h := hI5.pw.2.2.1; rw [a5, a6] at h; exact h
                have hL5 : okL e0 S9_121 (ad 6 1) (ad' 8 1) (c 2) (ad 2) := by have h := hI5.lists.2.1; rw [a6, a2, c2] at h; exact h
                have ho2 : o = metO i p (nI k_6) fr (fr + hs) ur (c 2) := by rw [ho, e10, e7, e8, e9]; rfl
                have hcz2 : cz = cauV i r j p k_1 (nI k_6) fr (fr + hs) ur (c 1) none o := by rw [hcz, e10, e7, e8, e9]; cases o <;> rfl
                show G C (cW (xy C) S9_121) 5 1030 124 [(8, .ref (q_91)), (7, .null), (0, .ref (ad 5 0)), (1, .int (nI k_1)), (2, .int (nI k_6)), (3, .int (fr)), (4, .int (hs)), (5, .int (nd)), (6, .int (ur))] []
                refine g_aload_n E dX5_apply_124 rfl 2 rfl ?_
                refine p_get_PW_permits (S := S9_121) E hp5.1 hp5.2 (fun _ h => (List.mem_cons_of_mem _ (List.mem_append_left _ (List.mem_append_left _ (List.mem_append_left _ (List.mem_append_left _ (List.mem_append_left _ (List.mem_append_left _ (List.mem_append_left _ (List.mem_append_right _ h)))))))))) (List.mem_cons_of_mem _ (List.mem_append_left _ (List.mem_append_left _ (List.mem_append_left _ (List.mem_append_left _ (List.mem_append_left _ (List.mem_append_left _ (List.mem_append_left _ (List.mem_append_left _ (List.mem_append_left _ (List.mem_of_getElem? (i := 5) rfl))))))))))) dX5_apply_125 ?_
                rw [hP5]
                show G C (cW (xy C) S9_121) 5 1030 128 [(8, .ref (q_91)), (7, .null), (0, .ref (ad 5 0)), (1, .int (nI k_1)), (2, .int (nI k_6)), (3, .int (fr)), (4, .int (hs)), (5, .int (nd)), (6, .int (ur))] [.ref (ad 6 1)]
                refine g_aload E dX5_apply_128 0 rfl ?_
                refine c_invV (n := 1) (rest := []) E (m_add (xl C) E.tr (xD C) (xy C) e0 (S := S9_121) (kd := 2) hL5 hc40 (by decide) hm5 hk5 (fun k hk => by have h := hI5.obj (kd := 2) (k := k) (by omega) (by omega); rw [a2] at h; exact h)) hL5.1 gX5_apply_Jx4a65c_add_9ea2d rfl rfl rfl (by decide +kernel) ⟨Nat.le_of_ble_eq_true rfl, Nat.le_of_ble_eq_true rfl⟩ (wF_AL hL5.2.1) rfl rfl rfl rfl (Nat.le_of_ble_eq_true rfl) dX5_apply_130 ⟨Nat.le_of_ble_eq_true rfl, Nat.le_of_ble_eq_true rfl⟩ (fun _ _ h9 => h9.elim) (fun v9 S9_130 h9 => ?_)
                have hA := h9
                obtain ⟨hv9, d9, hL9, hF9, hd9⟩ := h9
                rw [hv9]
                refine g_e0 E (fun he9 => ?_)
                have hXq : ¬ (q_91 = ad 6 1 ∨ q_91 = ad' 8 1) := by
                  rintro (h | h)
                  · exact hO.1 6 1 (by omega) (by have := hI.cnt; omega) h.symm
                  · exact hO5.2.2 1 (by omega) h.symm
                have hm9 := hF9.1 _ hm5
                have hk9 := (hF9.2 _ hm5 hXq).1.trans hk5
                have e59 : sI S9_130 5 q_91 = nI (c 2) := ((hF9.2 _ hm5 hXq).2.1 5).trans (hPD.elim fun c1 h => h.elim fun ad1 h => h.elim fun i1 h => h.elim fun j1 h => h.elim fun o1 h => (h.2.2.2.2.1 5 (by decide) (by decide)).trans e5)
                show G C (cW (xy C) S9_130) 6 2030 133 [(8, .ref (q_91)), (7, .null), (0, .ref (ad 5 0)), (1, .int (nI k_1)), (2, .int (nI k_6)), (3, .int (fr)), (4, .int (hs)), (5, .int (nd)), (6, .int (ur))] [.int (1)]
                refine g_pop E dX5_apply_133 rfl ?_
                refine g_aload E dX5_apply_134 0 rfl ?_
                refine p_getN_Permit_number (S := S9_130) E hm9 hk9 (fun _ h => (List.mem_cons_of_mem _ (List.mem_append_left _ (List.mem_append_left _ (List.mem_append_left _ (List.mem_append_left _ (List.mem_append_left _ (List.mem_append_left _ (List.mem_append_right _ h))))))))) tbF_RX5_143 dX5_apply_136 ?_
                rw [e59]
                show G C (cW (xy C) S9_130) 6 2030 139 [(8, .ref (q_91)), (7, .null), (0, .ref (ad 5 0)), (1, .int (nI k_1)), (2, .int (nI k_6)), (3, .int (fr)), (4, .int (hs)), (5, .int (nd)), (6, .int (ur))] [.int (nI (c 2))]
                exact g_iret E hE hr dX5_apply_139 (Nat.le_of_ble_eq_true rfl) (Nat.le_of_ble_eq_true rfl) ⟨S9_130, rfl, k_1, k_6, none, hk_1, rfl, hk_6, rfl, Or.inl ⟨c_12, rfl⟩, ⟨c_28, c_35, c_41, c_48, Int32.not_lt.mpr c_56⟩, hc40, rfl, o, cz, ho2, hcz2, apply_end hPD hc40 e5 e6 e7 e8 e9 e10 e11 e13 e14 (by rw [ep1]; rfl) ej2 ej3 (fun y h => by cases h) (fun c1 ad1 i1 j1 h1 h2 h3 h4 h5 => by have g := h1.lists.2.1.2.2.2.2.1; rw [h3, h5] at g; exact (Option.some.inj g).symm) hL5.2.2.2.2.1 hA he9⟩
              · exact g_throwS E hE hT "java/lang/IllegalStateException" "there are 40 permits" ["java/lang/RuntimeException", "java/lang/Exception"] 51 132 55 (by decide) (by decide) (List.mem_cons_of_mem _ (List.mem_append_left _ (List.mem_append_left _ (List.mem_append_left _ (List.mem_append_left _ (List.mem_append_left _ (List.mem_append_left _ (List.mem_append_left _ (List.mem_append_left _ (List.mem_append_left _ (List.mem_of_getElem? (i := 2) rfl))))))))))) (List.mem_cons_of_mem _ (List.mem_append_left _ (List.mem_append_left _ (List.mem_append_left _ (List.mem_append_left _ (List.mem_append_left _ (List.mem_append_left _ (List.mem_append_left _ (List.mem_append_left _ (List.mem_append_left _ (List.mem_of_getElem? (i := 3) rfl))))))))))) tbS_RX5_132 (fun _ h => (List.mem_cons_of_mem _ (List.mem_append_left _ (List.mem_append_right _ h)))) tbX_ISE tbG_ISE dX5_apply_81 dX5_apply_84 dX5_apply_85 dX5_apply_87 dX5_apply_90 (Nat.le_of_ble_eq_true rfl) (Nat.le_of_ble_eq_true rfl) (Nat.le_of_ble_eq_true rfl) (Nat.le_of_ble_eq_true rfl) (Nat.le_of_ble_eq_true rfl) (Nat.le_of_ble_eq_true rfl) ⟨S, rfl, Or.inr (Or.inr (⟨rfl, ⟨⟨k_1, hk_1, rfl⟩, ⟨k_6, hk_6, rfl⟩, Or.inl c_12, ⟨c_28, c_35, c_41, c_48, Int32.not_lt.mpr c_56⟩, fun q => absurd q (by have := nI_inj (a := c 2) (b := 40) (by omega) (by decide) c_78; omega)⟩, rfl⟩))⟩
            · exact g_throwS E hE hT "java/lang/IllegalArgumentException" "a permit is for 1 to 40 hours, from now on, up to 4900" ["java/lang/RuntimeException", "java/lang/Exception"] 37 130 41 (by decide) (by decide) (List.mem_cons_of_mem _ (List.mem_append_left _ (List.mem_append_left _ (List.mem_append_left _ (List.mem_append_left _ (List.mem_append_left _ (List.mem_append_left _ (List.mem_append_left _ (List.mem_append_left _ (List.mem_append_left _ (List.mem_of_getElem? (i := 0) rfl))))))))))) (List.mem_cons_of_mem _ (List.mem_append_left _ (List.mem_append_left _ (List.mem_append_left _ (List.mem_append_left _ (List.mem_append_left _ (List.mem_append_left _ (List.mem_append_left _ (List.mem_append_left _ (List.mem_append_left _ (List.mem_of_getElem? (i := 1) rfl))))))))))) tbS_RX5_130 (fun _ h => (List.mem_cons_of_mem _ (List.mem_append_left _ (List.mem_append_left _ (List.mem_append_right _ h))))) tbX_IAE tbG_IAE dX5_apply_59 dX5_apply_62 dX5_apply_63 dX5_apply_65 dX5_apply_68 (Nat.le_of_ble_eq_true rfl) (Nat.le_of_ble_eq_true rfl) (Nat.le_of_ble_eq_true rfl) (Nat.le_of_ble_eq_true rfl) (Nat.le_of_ble_eq_true rfl) (Nat.le_of_ble_eq_true rfl) ⟨S, rfl, Or.inr (Or.inl ⟨rfl, ⟨⟨k_1, hk_1, rfl⟩, ⟨k_6, hk_6, rfl⟩, Or.inl c_12, fun q => q.2.2.2.2 (Int32.not_le.mp c_56)⟩, rfl⟩)⟩
