/-! what a decision changes -/
def OPS (i : Nat → Nat → Int32) (j : Nat → Nat → Int64) (k : Nat) : Int32 × Int32 × Int32 × Int64 := (i 2 k, i 3 k, i 4 k, j 1 k)
def bitJ (n : Int32) : Int64 := (1 : Int64) <<< (n.toInt64 &&& 63)
/-- c ad i j before, primed ones behind; o the opening met, o' the permit's -/
def DR (c : Nat → Nat) (ad : Nat → Nat → Nat) (i : Nat → Nat → Int32) (j : Nat → Nat → Int64) (c' : Nat → Nat) (ad' : Nat → Nat → Nat) (i' : Nat → Nat → Int32) (j' : Nat → Nat → Int64) (o o' : Option Nat) (cz n ln fr en : Int32) : Prop :=
  (∀ x, x ≠ 1 → c' x = c x) ∧ (∀ x, x ≠ 1 → x ≠ 8 → ad' x = ad x) ∧ (∀ f k, kf f ≠ 1 → i' f k = i f k) ∧ (∀ f k, f ≠ 1 → j' f k = j f k) ∧
  ((cz ≠ -1 ∧ c' 1 = c 1 ∧ o' = none ∧ ∀ k, k < c 1 → OPS i' j' k = OPS i j k) ∨
   (cz = -1 ∧ ∃ y, o = some y ∧ y < c 1 ∧ o' = some y ∧ c' 1 = c 1 ∧ OPS i' j' y = (i 2 y, mnI (i 3 y) fr, mxI (i 4 y) en, j 1 y ||| bitJ n) ∧ ∀ k, k < c 1 → k ≠ y → OPS i' j' k = OPS i j k) ∨
   (cz = -1 ∧ o = none ∧ o' = some (c 1) ∧ c' 1 = c 1 + 1 ∧ OPS i' j' (c 1) = (ln, mnI fr fr, mxI en en, 0 ||| bitJ n) ∧ ∀ k, k < c 1 → OPS i' j' k = OPS i j k))
/-- what decide leaves of the pool; q the permit -/
def PD (e0 : Nat) (S : wS) (c : Nat → Nat) (ad : Nat → Nat → Nat) (i : Nat → Nat → Int32) (j : Nat → Nat → Int64) (p : Nat → Nat → Option Nat) (r : Nat → Nat → Int32) (q : Nat) (o : Option Nat) (cz : Int32) (S' : wS) : Prop :=
  ∃ c' ad' i' j' o', CI e0 S' c' ad' i' j' p r ∧ OUT c' ad' q ∧ q ∈ sL S' ∧ sK S' q = 2 ∧ (∀ f, f ≠ 11 → f ≠ 12 → sI S' f q = sI S f q) ∧ sI S' 12 q = cz ∧ sI S' 11 q = (if cz = -1 then sI S 11 q else 1) ∧ sP S' 1 q = sP S 1 q ∧ sP S' 2 q = o'.map (ad' 1) ∧ (∀ f, sJ S' f q = sJ S f q) ∧ DR c ad i j c' ad' i' j' o o' cz (sI S 5 q) (sI S 7 q) (sI S 8 q) (sI S 9 q)
theorem xC_s {c : Nat → Nat} {kd : Nat} : xC c kd kd = c kd + 1 := if_pos rfl
theorem xC_o {c : Nat → Nat} {kd x : Nat} (h : x ≠ kd) (h7 : x ≠ 7 ∨ kd ≠ 0) : xC c kd x = c x := (if_neg h).trans (if_neg (fun z => h7.elim (fun q => q z.1) (fun q => q z.2)))
theorem xAd_s {c : Nat → Nat} {ad : Nat → Nat → Nat} {kd q t d' qa : Nat} : xAd c ad kd q t d' qa kd (c kd) = q := if_pos ⟨rfl, rfl⟩
theorem xAd_o {c : Nat → Nat} {ad : Nat → Nat → Nat} {kd q t d' qa x k : Nat} (h1 : ¬ (x = kd ∧ k = c kd)) (h2 : x ≠ 8) (h3 : x ≠ 7 ∨ kd ≠ 0) : xAd c ad kd q t d' qa x k = ad x k := (if_neg h1).trans ((if_neg (fun z => h2 z.1)).trans (if_neg (fun z => h3.elim (fun q => q z.1) (fun q => q z.2.1))))
theorem kj_1 {f : Nat} (h : kj f = 1) : f = 1 := by
  unfold kj at h
  split at h
  · omega
  · split at h
    · assumption
    · omega
theorem OPS_put {i : Nat → Nat → Int32} {j : Nat → Nat → Int64} {y : Nat} {a b : Int32} {v : Int64} : OPS (up2 (up2 i 3 y a) 4 y b) (up2 j 1 y v) y = (i 2 y, a, b, v) := by
  unfold OPS
  rw [up2_nf (f := 4) (g := 2) (by decide), up2_nf (f := 3) (g := 2) (by decide), up2_nf (f := 4) (g := 3) (by decide), up2_self, up2_self, up2_self]
theorem OPS_oth {i : Nat → Nat → Int32} {j : Nat → Nat → Int64} {y k : Nat} {a b : Int32} {v : Int64} (h : k ≠ y) : OPS (up2 (up2 i 3 y a) 4 y b) (up2 j 1 y v) k = OPS i j k := by
  unfold OPS
  rw [up2_na h, up2_na h, up2_na h, up2_na h, up2_na h, up2_na h, up2_na h]
theorem sl_uI {S : wS} {f a : Nat} {v : Int32} : sL (uI S f a v) = sL S := rfl
theorem sl_uJ {S : wS} {f a : Nat} {v : Int64} : sL (uJ S f a v) = sL S := rfl
theorem sl_uP {S : wS} {f a : Nat} {v : Option Nat} : sL (uP S f a v) = sL S := rfl
theorem sk_uI {S : wS} {f a : Nat} {v : Int32} : sK (uI S f a v) = sK S := rfl
theorem sk_uJ {S : wS} {f a : Nat} {v : Int64} : sK (uJ S f a v) = sK S := rfl
theorem sk_uP {S : wS} {f a : Nat} {v : Option Nat} : sK (uP S f a v) = sK S := rfl
section DEC
variable {e0 : Nat} {S S9 : wS} {c : Nat → Nat} {ad : Nat → Nat → Nat} {i : Nat → Nat → Int32} {j : Nat → Nat → Int64} {p : Nat → Nat → Option Nat} {r : Nat → Nat → Int32} {q : Nat} {o : Option Nat} {cz : Int32}
theorem PD_ref (hI : CI e0 S c ad i j p r) (hO : OUT c ad q) (hqm : q ∈ sL S) (hqk : sK S q = 2) (hp2 : sP S 2 q = none) (hcz : ¬ cz = -1) : PD e0 S c ad i j p r q o cz (uI (uI S 12 q cz) 11 q 1) := by
  refine ⟨c, ad, i, j, none, hI.outq (FR.tr (FR.uI (a := q)) (FR.uI (a := q)) (fun _ _ h => h) (fun _ _ h => h)) hO hI.apart.2, hO, hqm, hqk, fun f h1 h2 => ?_, ?_, ?_, rfl, hp2, fun _ => rfl, fun _ _ => rfl, fun _ _ _ => rfl, fun _ _ _ => rfl, fun _ _ _ => rfl, Or.inl ⟨hcz, rfl, rfl, fun _ _ => rfl⟩⟩
  · show up2 (up2 S.2.2.1 12 q cz) 11 q 1 f q = S.2.2.1 f q
    rw [up2_nf h1, up2_nf h2]
  · show up2 (up2 S.2.2.1 12 q cz) 11 q 1 12 q = cz
    rw [up2_nf (by decide), up2_self]
  · rw [if_neg hcz]; exact up2_self _ _ _ _
/-- an opening is joined -/
theorem PD_join (hI : CI e0 S c ad i j p r) (hO : OUT c ad q) (hqm : q ∈ sL S) (hqk : sK S q = 2) {y : Nat} (hy : y < c 1) : PD e0 S c ad i j p r q (some y) (-1) (uP (uJ (uI (uI (uI S 12 q (-1)) 3 (ad 1 y) (mnI (i 3 y) (sI S 8 q))) 4 (ad 1 y) (mxI (i 4 y) (sI S 9 q))) 1 (ad 1 y) (j 1 y ||| bitJ (sI S 5 q))) 2 q (some (ad 1 y))) := by
  have hne : q ≠ ad 1 y := fun e => hO.1 1 y (by omega) hy e.symm
  have h1 : CI e0 (uI S 12 q (-1)) c ad i j p r := hI.outq (FR.uI (a := q)) hO hI.apart.2
  have h2a : CI e0 (uI (uI S 12 q (-1)) 3 (ad 1 y) (mnI (i 3 y) (sI S 8 q))) c ad (up2 i 3 y (mnI (i 3 y) (sI S 8 q))) j p r := h1.uI (f := 3) (k := y) (by omega) hy (mnI (i 3 y) (sI S 8 q))
  have h2b : CI e0 (uI (uI (uI S 12 q (-1)) 3 (ad 1 y) (mnI (i 3 y) (sI S 8 q))) 4 (ad 1 y) (mxI (i 4 y) (sI S 9 q))) c ad (up2 (up2 i 3 y (mnI (i 3 y) (sI S 8 q))) 4 y (mxI (i 4 y) (sI S 9 q))) j p r := h2a.uI (f := 4) (k := y) (by omega) hy (mxI (i 4 y) (sI S 9 q))
  have h2 : CI e0 (uJ (uI (uI (uI S 12 q (-1)) 3 (ad 1 y) (mnI (i 3 y) (sI S 8 q))) 4 (ad 1 y) (mxI (i 4 y) (sI S 9 q))) 1 (ad 1 y) (j 1 y ||| bitJ (sI S 5 q))) c ad (up2 (up2 i 3 y (mnI (i 3 y) (sI S 8 q))) 4 y (mxI (i 4 y) (sI S 9 q))) (up2 j 1 y (j 1 y ||| bitJ (sI S 5 q))) p r := h2b.uJ (f := 1) (k := y) hy (j 1 y ||| bitJ (sI S 5 q))
  have h3 := h2.outq (FR.uP (f := 2) (a := q) (v := some (ad 1 y))) hO (by rw [sl_uP]; exact h2.apart.2)
  refine ⟨c, ad, _, _, some y, h3, hO, by rw [sl_uP, sl_uJ, sl_uI, sl_uI, sl_uI]; exact hqm, by rw [sk_uP, sk_uJ, sk_uI, sk_uI, sk_uI]; exact hqk, fun f g1 g2 => ?_, ?_, ?_, ?_, up2_self _ _ _ _, fun f => ?_, fun _ _ => rfl, fun _ _ _ => rfl, fun f k hf => ?_, fun f k hf => ?_, Or.inr (Or.inl ⟨rfl, y, rfl, hy, rfl, rfl, ?_, fun k hk hne => ?_⟩)⟩
  · show up2 (up2 (up2 S.2.2.1 12 q (-1)) 3 (ad 1 y) (mnI (i 3 y) (sI S 8 q))) 4 (ad 1 y) (mxI (i 4 y) (sI S 9 q)) f q = S.2.2.1 f q
    rw [up2_na hne, up2_na hne, up2_nf g2]
  · show up2 (up2 (up2 S.2.2.1 12 q (-1)) 3 (ad 1 y) (mnI (i 3 y) (sI S 8 q))) 4 (ad 1 y) (mxI (i 4 y) (sI S 9 q)) 12 q = -1
    rw [up2_na hne, up2_na hne, up2_self]
  · rw [if_pos rfl]
    show up2 (up2 (up2 S.2.2.1 12 q (-1)) 3 (ad 1 y) (mnI (i 3 y) (sI S 8 q))) 4 (ad 1 y) (mxI (i 4 y) (sI S 9 q)) 11 q = S.2.2.1 11 q
    rw [up2_na hne, up2_na hne, up2_nf (by decide)]
  · show up2 S.2.2.2.2.1 2 q (some (ad 1 y)) 1 q = S.2.2.2.2.1 1 q
    rw [up2_nf (by decide)]
  · show up2 S.2.2.2.1 1 (ad 1 y) (j 1 y ||| bitJ (sI S 5 q)) f q = S.2.2.2.1 f q
    rw [up2_na hne]
  · rw [up2_nf (fun e => hf (by rw [e]; rfl)), up2_nf (fun e => hf (by rw [e]; rfl))]
  · rw [up2_nf hf]
  · exact OPS_put
  · exact OPS_oth hne
/-- an opening is made -/
theorem PD_new (hI : CI e0 S c ad i j p r) (hO : OUT c ad q) (hqm : q ∈ sL S) (hqk : sK S q = 2) (hc1 : c 1 < 40) {q2 d' : Nat} {ln fr en : Int32} (hq2 : q2 ∉ sL S) (eln : ln = sI S 7 q) (efr : fr = sI S 8 q) (een : en = sI S 9 q)
    (hL : okL e0 S9 (ad 6 2) d' (c 1 + 1) (snoc (ad 1) (c 1) q2)) (hF : FR (iOp (nw (uI S 12 q (-1)) q2 1 0) q2 ln fr en) S9 (fun x => x = ad 6 2 ∨ x = ad 8 2)) (hd' : d' = ad 8 2 ∨ d' ∉ sL (iOp (nw (uI S 12 q (-1)) q2 1 0) q2 ln fr en)) (he9 : e0 ∉ sL S9) :
    PD e0 S c ad i j p r q none (-1) (uP (uJ (uI (uI S9 3 q2 (mnI (sI S9 3 q2) (sI S9 8 q))) 4 q2 (mxI (sI S9 4 q2) (sI S9 9 q))) 1 q2 (sJ S9 1 q2 ||| bitJ (sI S9 5 q))) 2 q (some q2)) := by
  have hq2q : q2 ≠ q := fun e => hq2 (e ▸ hqm)
  have hI1 : CI e0 (uI S 12 q (-1)) c ad i j p r := hI.outq (FR.uI (a := q)) hO hI.apart.2
  have hF13 : FR (uI S 12 q (-1)) (iOp (nw (uI S 12 q (-1)) q2 1 0) q2 ln fr en) (fun x => x = q2) := FR.tr (FR.tr (FR.tr (FR.nw hq2) FR.uI (fun _ _ h => h.elim) (fun _ _ h => h)) FR.uI (fun _ _ h => h) (fun _ _ h => h)) FR.uI (fun _ _ h => h) (fun _ _ h => h)
  have hF19 : FR (uI S 12 q (-1)) S9 (fun x => x = ad 6 2 ∨ x = ad 8 2) := FR.tr hF13 hF (fun x hx h => absurd (h ▸ hx) hq2) (fun _ _ h => h)
  have hm3 : q2 ∈ sL (iOp (nw (uI S 12 q (-1)) q2 1 0) q2 ln fr en) := nw_own (k := 1) (n := 0)
  have hX2 : ¬ (q2 = ad 6 2 ∨ q2 = ad 8 2) := by
    rintro (h | h)
    · exact hq2 (h ▸ (hI.obj (kd := 6) (k := 2) (by omega) (by have := hI.cnt; omega)).1)
    · rcases hI.arr8 (t := 2) (by omega) with g | g
      · exact he9 (by rw [← g, ← h]; exact hF.1 _ hm3)
      · exact hq2 (h ▸ g.1)
  have hXq : ¬ (q = ad 6 2 ∨ q = ad 8 2) := by
    rintro (h | h)
    · exact hO.1 6 2 (by omega) (by have := hI.cnt; omega) h.symm
    · exact hO.2.2 2 (by omega) h.symm
  obtain ⟨k1, k2, k3, k4, -, -, -⟩ := hF.2 q2 hm3 hX2
  obtain ⟨l1, l2, l3, l4, -, -, -⟩ := hF19.2 q hqm hXq
  have hk2 : sK S9 q2 = 1 := k1.trans (nw_Ko (k := 1) (n := 0))
  have hI9 := CI.ext (t := 2) (q := q2) (d' := d') (qa := 0) (p' := p) hI1 (by omega) (fun e => absurd e (by decide)) hc1 hF19 (fun kd k h1 h2 e => hq2 (e ▸ (hI1.obj h1 h2).1)) (hF.1 _ hm3) hk2 hL (hd'.imp id (fun h g => h (hF13.1 _ g))) he9 (fun _ _ _ => rfl) (fun e => absurd e (by decide)) (fun e => absurd e (by decide))
  have hr : xR' c r (kl 2) 0 S9 = r := by funext k b; exact if_neg (fun e => absurd e.1 (by decide))
  rw [hr] at hI9
  have hnew : xAd c ad (kl 2) q2 2 d' 0 1 (c 1) = q2 := if_pos ⟨rfl, rfl⟩
  have hcc : c 1 < xC c (kl 2) 1 := by rw [show xC c (kl 2) 1 = c 1 + 1 from xC_s]; omega
  have h10 := ((hI9.uI (f := 3) (k := c 1) (by omega) hcc (mnI fr fr)).uI (f := 4) (k := c 1) (by omega) hcc (mxI en en)).uJ (f := 1) (k := c 1) hcc (0 ||| bitJ (sI S 5 q))
  rw [show xAd c ad (kl 2) q2 2 d' 0 (kf 3) (c 1) = q2 from hnew, show xAd c ad (kl 2) q2 2 d' 0 (kf 4) (c 1) = q2 from hnew, show xAd c ad (kl 2) q2 2 d' 0 (kj 1) (c 1) = q2 from hnew] at h10
  have v2 : sI S9 2 q2 = ln := (k2 2).trans (by show up2 (up2 (up2 _ 2 q2 ln) 3 q2 fr) 4 q2 en 2 q2 = ln; rw [up2_nf (by decide), up2_nf (by decide), up2_self])
  have v3 : sI S9 3 q2 = fr := (k2 3).trans (by show up2 (up2 (up2 _ 2 q2 ln) 3 q2 fr) 4 q2 en 3 q2 = fr; rw [up2_nf (by decide), up2_self])
  have v4 : sI S9 4 q2 = en := (k2 4).trans (up2_self _ _ _ _)
  have vj : sJ S9 1 q2 = 0 := (k3 1).trans (nw_Jo (k := 1) (n := 0))
  have w5 : sI S9 5 q = sI S 5 q := l2 5
  have w8 : sI S9 8 q = fr := (l2 8).trans efr.symm
  have w9 : sI S9 9 q = en := (l2 9).trans een.symm
  rw [v3, v4, vj, w5, w8, w9]
  have hO' : OUT (xC c (kl 2)) (xAd c ad (kl 2) q2 2 d' 0) q := by
    refine ⟨fun kd k h1 h2 e => ?_, fun w hw e => hO.2.1 w hw e, fun t ht e => ?_⟩
    · unfold xAd at e
      by_cases g : kd = kl 2 ∧ k = c (kl 2)
      · rw [if_pos g] at e; exact hq2q e
      · rw [if_neg g, if_neg (by omega), if_neg (fun z => absurd z.2.1 (by decide))] at e
        refine hO.1 kd k h1 ?_ e
        unfold xC at h2
        by_cases g2 : kd = kl 2
        · rw [if_pos g2] at h2; subst g2; omega
        · rw [if_neg g2, if_neg (fun z => absurd z.2 (by decide))] at h2; exact h2
    · unfold xAd at e
      rw [if_neg (fun z => absurd z.1 (by decide))] at e
      by_cases g : 8 = 8 ∧ t = 2
      · rw [if_pos g] at e
        have kk := (hF19.2 q hqm hXq).1.trans hqk
        rcases hL.2.2.2.2.2 with z | z
        · exact hI.apart.2 (by rw [← z.2, e]; exact hqm)
        · rw [← e, z.2.1] at kk; omega
      · rw [if_neg g, if_neg (fun z => absurd z.1 (by decide))] at e
        exact hO.2.2 t ht e
  have h11 := h10.outq (FR.uP (f := 2) (a := q) (v := some q2)) hO' he9
  refine ⟨_, _, _, _, some (c 1), h11, hO', hF19.1 q hqm, l1.trans hqk, fun f g1 g2 => ?_, ?_, ?_, ?_, ?_, fun f => ?_, ⟨fun x hx => ?_, fun x hx1 hx8 => ?_, fun f k hf => ?_, fun f k hf => ?_, Or.inr (Or.inr ⟨rfl, rfl, rfl, ?_, ?_, fun k hk => ?_⟩)⟩⟩
  · show up2 (up2 S9.2.2.1 3 q2 (mnI fr fr)) 4 q2 (mxI en en) f q = S.2.2.1 f q
    rw [up2_na hq2q.symm, up2_na hq2q.symm]
    exact (l2 f).trans (congrFun (up2_nf g2) q)
  · show up2 (up2 S9.2.2.1 3 q2 (mnI fr fr)) 4 q2 (mxI en en) 12 q = -1
    rw [up2_na hq2q.symm, up2_na hq2q.symm]
    exact (l2 12).trans (up2_self _ _ _ _)
  · rw [if_pos rfl]
    show up2 (up2 S9.2.2.1 3 q2 (mnI fr fr)) 4 q2 (mxI en en) 11 q = S.2.2.1 11 q
    rw [up2_na hq2q.symm, up2_na hq2q.symm]
    exact (l2 11).trans (show up2 S.2.2.1 12 q (-1) 11 q = S.2.2.1 11 q by rw [up2_nf (by decide)])
  · show up2 S9.2.2.2.2.1 2 q (some q2) 1 q = _
    rw [up2_nf (by decide)]
    exact l4 1
  · show up2 S9.2.2.2.2.1 2 q (some q2) 2 q = some (xAd c ad (kl 2) q2 2 d' 0 1 (c 1))
    rw [up2_self, hnew]
  · show up2 S9.2.2.2.1 1 q2 _ f q = _
    rw [up2_na hq2q.symm]
    exact l3 f
  · exact xC_o hx (Or.inr (by decide))
  · funext k
    exact xAd_o (fun z => hx1 z.1) hx8 (Or.inr (by decide))
  · rw [up2_nf (fun e => hf (by rw [e]; rfl)), up2_nf (fun e => hf (by rw [e]; rfl))]
    exact if_neg (fun z => hf z.1)
  · rw [up2_nf hf]
    exact if_neg (fun z => hf (kj_1 z.1))
  · exact xC_s
  · have e2 : xI c i (kl 2) q2 S9 2 (c 1) = ln := (if_pos ⟨rfl, rfl⟩).trans v2
    rw [OPS_put, e2, eln, efr, een]
  · have e2 : ∀ f, xI c i (kl 2) q2 S9 f k = i f k := fun f => if_neg (fun z => by have := z.2; rw [show kl 2 = 1 from rfl] at this; omega)
    have e3 : xJ c j (kl 2) q2 S9 1 k = j 1 k := if_neg (fun z => by have := z.2; rw [show kl 2 = 1 from rfl] at this; omega)
    have e4 : k ≠ c 1 := by omega
    rw [OPS_oth e4]
    unfold OPS
    rw [e2, e2, e2, e3]
end DEC
