/-! the class's pool with one more object (a line has its array besides) -/
def kl (t : Nat) : Nat := if t = 0 then 0 else if t = 1 then 2 else 1
theorem kl_lt (t : Nat) : kl t < 3 := by unfold kl; split; omega; split <;> omega
theorem kl_inj {t t' : Nat} (h : t < 3) (h' : t' < 3) (e : kl t = kl t') : t = t' := by unfold kl at e; split at e <;> split at e <;> (try split at e) <;> (try split at e) <;> omega
def xC (c : Nat → Nat) (kd : Nat) : Nat → Nat := fun x => if x = kd then c x + 1 else if x = 7 ∧ kd = 0 then c x + 1 else c x
def xAd (c : Nat → Nat) (ad : Nat → Nat → Nat) (kd q t d' qa : Nat) : Nat → Nat → Nat := fun x k => if x = kd ∧ k = c kd then q else if x = 8 ∧ k = t then d' else if x = 7 ∧ kd = 0 ∧ k = c 7 then qa else ad x k
def xI (c : Nat → Nat) (i : Nat → Nat → Int32) (kd q : Nat) (S' : wS) : Nat → Nat → Int32 := fun f k => if kf f = kd ∧ k = c kd then sI S' f q else i f k
def xJ (c : Nat → Nat) (j : Nat → Nat → Int64) (kd q : Nat) (S' : wS) : Nat → Nat → Int64 := fun f k => if kj f = kd ∧ k = c kd then sJ S' f q else j f k
def xR' (c : Nat → Nat) (r : Nat → Nat → Int32) (kd qa : Nat) (S' : wS) : Nat → Nat → Int32 := fun k b => if kd = 0 ∧ k = c 7 then sR S' qa b else r k b
theorem okL.cg {e0 : Nat} {S : wS} {l d n : Nat} {e e' : Nat → Nat} (h : okL e0 S l d n e) (he : ∀ k, k < n → e k = e' k) : okL e0 S l d n e' := by
  obtain ⟨h1, h2, h3, h4, h5, h6⟩ := h
  refine ⟨h1, h2, h3, h4, h5, h6.imp id (fun q => ⟨q.1, q.2.1, q.2.2.1, q.2.2.2.1, fun k hk => by rw [← he k hk]; exact q.2.2.2.2 k hk⟩)⟩
theorem okL.fr {e0 : Nat} {S S' : wS} {X : Nat → Prop} {l d n : Nat} {e : Nat → Nat} (h : okL e0 S l d n e) (hF : FR S S' X) (hl : ¬ X l) (hd : d ∈ sL S → ¬ X d) : okL e0 S' l d n e := by
  obtain ⟨h1, h2, h3, h4, h5, h6⟩ := h
  obtain ⟨g1, g2, -, g4, -⟩ := hF.2 l h1 hl
  refine ⟨hF.1 l h1, g1.trans h2, (g2 20).trans h3, h4, (g4 14).trans h5, h6.imp id (fun q => ?_)⟩
  obtain ⟨q1, q2, q3, q4, q5⟩ := q
  obtain ⟨g1, -, -, -, g5, -, g7⟩ := hF.2 d q1 (hd q1)
  exact ⟨hF.1 d q1, g1.trans q2, by rw [g5]; exact q3, by rw [g5]; exact q4, fun k hk => by rw [g7]; exact q5 k hk⟩
section CIX
variable {e0 : Nat} {S S' : wS} {c : Nat → Nat} {ad : Nat → Nat → Nat} {i : Nat → Nat → Int32} {j : Nat → Nat → Int64} {p : Nat → Nat → Option Nat} {r : Nat → Nat → Int32}
theorem CI.list (h : CI e0 S c ad i j p r) {t : Nat} (ht : t < 3) : okL e0 S (ad 6 t) (ad 8 t) (c (kl t)) (ad (kl t)) := by
  rcases (show t = 0 ∨ t = 1 ∨ t = 2 by omega) with rfl | rfl | rfl
  · exact h.lists.1
  · exact h.lists.2.1
  · exact h.lists.2.2
theorem CI.arr8 (h : CI e0 S c ad i j p r) {t : Nat} (ht : t < 3) : ad 8 t = e0 ∨ (ad 8 t ∈ sL S ∧ sK S (ad 8 t) = 8) := by
  rcases (h.list ht).2.2.2.2.2 with q | q
  · exact Or.inl q.2
  · exact Or.inr ⟨q.1, q.2.1⟩
/-- an old thing but the list and its array is left alone -/
theorem CI.old (h : CI e0 S c ad i j p r) {t x kd : Nat} (ht : t < 3) (hx : x ∈ sL S) (hk : sK S x = kd) (h8 : kd ≠ 8) (h6 : kd = 6 → x ≠ ad 6 t) : ¬ (x = ad 6 t ∨ x = ad 8 t) := by
  have c6 : t < c 6 := by have := h.cnt; omega
  rintro (q | q)
  · exact h6 (by rw [← hk, q]; exact (h.obj (kd := 6) (by omega) c6).2) q
  · rcases h.arr8 ht with g | g
    · exact h.apart.2 (by rw [← g, ← q]; exact hx)
    · exact h8 (by rw [← hk, q]; exact g.2)
theorem CI.ext (h : CI e0 S c ad i j p r) {t q d' qa : Nat} {p' : Nat → Nat → Option Nat} (ht : t < 3) (hc0 : kl t = 0 → c 0 < 6) (hc1 : c (kl t) < 40) (hF : FR S S' (fun x => x = ad 6 t ∨ x = ad 8 t)) (hqn : ∀ kd k, kd ≤ 7 → k < c kd → ad kd k ≠ q) (hq : q ∈ sL S') (hqk : sK S' q = kl t)
    (hL : okL e0 S' (ad 6 t) d' (c (kl t) + 1) (snoc (ad (kl t)) (c (kl t)) q)) (hd' : d' = ad 8 t ∨ d' ∉ sL S) (he0 : e0 ∉ sL S')
    (hp : ∀ f k, k < c 2 → p' f k = p f k) (hp2 : kl t = 2 → sP S' 1 q = (p' 1 (c 2)).map (ad 2) ∧ sP S' 2 q = (p' 2 (c 2)).map (ad 1) ∧ (∀ y, p' 1 (c 2) = some y → y < c 2) ∧ ∀ y, p' 2 (c 2) = some y → y < c 1)
    (hqa : kl t = 0 → qa ∉ sL S ∧ qa ∈ sL S' ∧ sK S' qa = 7 ∧ sN S' qa = 6 ∧ sP S' 0 q = some qa) :
    CI e0 S' (xC c (kl t)) (xAd c ad (kl t) q t d' qa) (xI c i (kl t) q S') (xJ c j (kl t) q S') p' (xR' c r (kl t) qa S') := by
  have hk3 := kl_lt t
  have hcn := h.cnt
  have c6 : t < c 6 := by omega
  -- old addresses
  have old : ∀ {kd k : Nat}, kd ≤ 7 → k < c kd → xAd c ad (kl t) q t d' qa kd k = ad kd k := by
    intro kd k hkd hk
    unfold xAd
    rw [if_neg (by rintro ⟨rfl, e⟩; omega), if_neg (by omega), if_neg (by rintro ⟨rfl, -, e⟩; omega)]
  have old9 : ∀ w, xAd c ad (kl t) q t d' qa 9 w = ad 9 w := fun w => by
    unfold xAd
    rw [if_neg (by omega), if_neg (by omega), if_neg (by omega)]
  have newq : xAd c ad (kl t) q t d' qa (kl t) (c (kl t)) = q := if_pos ⟨rfl, rfl⟩
  have newa : kl t = 0 → xAd c ad (kl t) q t d' qa 7 (c 7) = qa := fun e => by
    unfold xAd
    rw [if_neg (by omega), if_neg (by omega), if_pos ⟨rfl, e, rfl⟩]
  -- an index is old or new
  have cas : ∀ {kd k : Nat}, kd ≤ 7 → k < xC c (kl t) kd → k < c kd ∨ (kd = kl t ∧ k = c (kl t)) ∨ (kd = 7 ∧ kl t = 0 ∧ k = c 7) := by
    intro kd k hkd hk
    unfold xC at hk
    by_cases e : kd = kl t
    · rw [if_pos e] at hk
      subst e
      by_cases e2 : k < c (kl t)
      · exact Or.inl e2
      · exact Or.inr (Or.inl ⟨rfl, by omega⟩)
    · rw [if_neg e] at hk
      by_cases e2 : kd = 7 ∧ kl t = 0
      · rw [if_pos e2] at hk
        obtain ⟨e2, e3⟩ := e2
        subst e2
        by_cases e4 : k < c 7
        · exact Or.inl e4
        · exact Or.inr (Or.inr ⟨rfl, e3, by omega⟩)
      · rw [if_neg e2] at hk
        exact Or.inl hk
  have nX : ∀ {kd k : Nat}, kd ≤ 7 → k < c kd → (kd = 6 → k ≠ t) → ¬ (ad kd k = ad 6 t ∨ ad kd k = ad 8 t) := by
    intro kd k hkd hk h6
    refine h.old ht (h.obj hkd hk).1 (h.obj hkd hk).2 (by omega) (fun e => ?_)
    subst e
    exact fun e => h6 rfl (h.inj (by omega) hk c6 e)
  have fr : ∀ {kd k : Nat}, kd ≤ 7 → k < c kd → (kd = 6 → k ≠ t) → _ := fun {kd k} hkd hk h6 => hF.2 (ad kd k) (h.obj hkd hk).1 (nX hkd hk h6)
  have mem : ∀ {kd k : Nat}, kd ≤ 7 → k < xC c (kl t) kd → xAd c ad (kl t) q t d' qa kd k ∈ sL S' ∧ sK S' (xAd c ad (kl t) q t d' qa kd k) = kd := by
    intro kd k hkd hk
    rcases cas hkd hk with e | ⟨rfl, rfl⟩ | ⟨rfl, e2, rfl⟩
    · rw [old hkd e]
      refine ⟨hF.1 _ (h.obj hkd e).1, ?_⟩
      by_cases e2 : kd = 6 ∧ k = t
      · obtain ⟨rfl, rfl⟩ := e2
        exact hL.2.1
      · exact (fr hkd e (fun e3 e4 => e2 ⟨e3, e4⟩)).1.trans (h.obj hkd e).2
    · rw [newq]; exact ⟨hq, hqk⟩
    · rw [newa e2]; exact ⟨(hqa e2).2.1, (hqa e2).2.2.1⟩
  have c1' : ∀ x, x ≠ kl t → (x = 7 → kl t ≠ 0) → xC c (kl t) x = c x := fun x h1 h2 => by
    unfold xC
    rw [if_neg h1, if_neg (fun e => h2 e.1 e.2)]
  have oldI : ∀ {f k : Nat}, k < c (kf f) → xI c i (kl t) q S' f k = i f k := fun {f k} hk => if_neg (fun e => by have := e.2; rw [← e.1] at this; omega)
  have oldJ : ∀ {f k : Nat}, k < c (kj f) → xJ c j (kl t) q S' f k = j f k := fun {f k} hk => if_neg (fun e => by have := e.2; rw [← e.1] at this; omega)
  refine ⟨fun kd k hkd hk => mem hkd hk, fun kd k k' hkd hk hk' e => ?_, fun f k hf hk => ?_, fun f k hk => ?_, fun k hk => ?_, ?_, ?_, ?_, fun w hw => ?_, fun k hk => ?_, fun k hk => ?_, ?_, ?_⟩
  · -- apart
    rcases cas hkd hk with a | ⟨a1, a2⟩ | ⟨a1, a2, a3⟩ <;> rcases cas hkd hk' with b | ⟨b1, b2⟩ | ⟨b1, b2, b3⟩
    · rw [old hkd a, old hkd b] at e; exact h.inj hkd a b e
    · exfalso; subst b1; rw [b2, newq, old hkd a] at e; exact hqn _ _ hkd a e
    · exfalso; subst b1; rw [b3, newa b2, old hkd a] at e; exact (hqa b2).1 (e ▸ (h.obj hkd a).1)
    · exfalso; subst a1; rw [a2, newq, old hkd b] at e; exact hqn _ _ hkd b e.symm
    · omega
    · omega
    · exfalso; subst a1; rw [a3, newa a2, old hkd b] at e; exact (hqa a2).1 (e ▸ (h.obj hkd b).1)
    · omega
    · omega
  · rcases cas (kf_le f) hk with a | ⟨a1, a2⟩ | ⟨a1, a2, a3⟩
    · have h6 : kf f = 6 → k ≠ t := fun e => by exfalso; unfold kf at e; split at e; omega; split at e; omega; split at e; omega; split at e; omega; split at e; omega; split at e <;> omega
      rw [old (kf_le f) a, (fr (kf_le f) a h6).2.1 f, h.int a hf, oldI a]
    · rw [a2, ← show xAd c ad (kl t) q t d' qa (kl t) (c (kl t)) = xAd c ad (kl t) q t d' qa (kf f) (c (kl t)) by rw [a1], newq]
      exact (if_pos ⟨a1, rfl⟩).symm
    · exfalso; unfold kf at a1; split at a1; omega; split at a1; omega; split at a1; omega; split at a1; omega; split at a1; omega; split at a1 <;> omega
  · rcases cas (kj_le f) hk with a | ⟨a1, a2⟩ | ⟨a1, a2, a3⟩
    · have h6 : kj f = 6 → k ≠ t := fun e => by exfalso; unfold kj at e; split at e; omega; split at e <;> omega
      rw [old (kj_le f) a, (fr (kj_le f) a h6).2.2.1 f, h.long a, oldJ a]
    · rw [a2, ← show xAd c ad (kl t) q t d' qa (kl t) (c (kl t)) = xAd c ad (kl t) q t d' qa (kj f) (c (kl t)) by rw [a1], newq]
      exact (if_pos ⟨a1, rfl⟩).symm
    · exfalso; unfold kj at a1; split at a1; omega; split at a1 <;> omega
  · rcases cas (Nat.le_refl 7) hk with a | ⟨a1, a2⟩ | ⟨a1, a2, a3⟩
    · obtain ⟨-, -, -, -, g5, g6, -⟩ := fr (Nat.le_refl 7) a (by omega)
      rw [old (Nat.le_refl 7) a, g5]
      refine ⟨(h.arr a).1, fun b hb => ?_⟩
      rw [g6, (h.arr a).2 b hb]
      exact (if_neg (fun e => by omega)).symm
    · omega
    · subst a3
      rw [newa a2]
      refine ⟨(hqa a2).2.2.2.1.trans ?_, fun b hb => (if_pos ⟨a2, rfl⟩).symm⟩
      rw [hcn.2.2.2.2.1, alen_s]
  · refine ⟨(c1' 3 (by omega) (by omega)).trans hcn.1, (c1' 4 (by omega) (by omega)).trans hcn.2.1, (c1' 5 (by omega) (by omega)).trans hcn.2.2.1, (c1' 6 (by omega) (by omega)).trans hcn.2.2.2.1, ?_, ?_, ?_, ?_⟩
    · unfold xC
      by_cases e : kl t = 0
      · rw [if_neg (by omega), if_pos ⟨rfl, e⟩, if_pos e.symm]; omega
      · rw [if_neg (by omega), if_neg (fun q => e q.2), if_neg (fun q => e q.symm), if_neg (by omega)]; exact hcn.2.2.2.2.1
    · unfold xC
      by_cases e : 0 = kl t
      · rw [if_pos e]; have := hc0 e.symm; omega
      · rw [if_neg e, if_neg (by omega)]; omega
    · unfold xC
      by_cases e : 1 = kl t
      · rw [if_pos e]; rw [← e] at hc1; omega
      · rw [if_neg e, if_neg (by omega)]; omega
    · unfold xC
      by_cases e : 2 = kl t
      · rw [if_pos e]; rw [← e] at hc1; omega
      · rw [if_neg e, if_neg (by omega)]; omega
  · have g := (fr (kd := 5) (k := 0) (by omega) h.c5 (by omega)).2.2.2.1
    rw [old (kd := 5) (by omega) h.c5, old (kd := 3) (by omega) h.c3, old (kd := 6) (k := 0) (by omega) (by omega), old (kd := 6) (k := 1) (by omega) (by omega), old (kd := 6) (k := 2) (by omega) (by omega), old (kd := 7) (k := 3) (by omega) (by omega), g 9, g 10, g 11, g 12, g 13]
    exact h.pw
  · have g := (fr (kd := 3) (k := 0) (by omega) h.c3 (by omega)).2.2.2.1
    rw [old (kd := 3) (by omega) h.c3, old (kd := 7) (k := 0) (by omega) (by omega), old (kd := 7) (k := 1) (by omega) (by omega), old (kd := 7) (k := 2) (by omega) (by omega), old (kd := 4) (k := 0) (by omega) (by omega), old (kd := 4) (k := 1) (by omega) (by omega), g 3, g 4, g 5, g 6, g 7]
    exact h.roads
  · have g := (fr (kd := 4) (k := w) (by omega) (by omega) (by omega)).2.2.2.1
    obtain ⟨w1, w2, w3, w4, w5⟩ := h.ways hw
    obtain ⟨g1, -, -, -, g5, -, g7⟩ := hF.2 (ad 9 w) w2 (h.old ht w2 w3 (by omega) (by omega))
    rw [old (kd := 4) (k := w) (by omega) (by omega), old9, g 8, g1, g5, g7]
    refine ⟨w1, hF.1 _ w2, w3, w4, fun b hb => ?_⟩
    rw [old (kd := 7) (k := 4 + 10 * w + b) (by omega) (by omega)]
    exact w5 b hb
  · rcases cas (show 0 ≤ 7 by omega) hk with a | ⟨a1, a2⟩ | ⟨a1, a2, a3⟩
    · have g := (fr (kd := 0) (k := k) (by omega) a (by omega)).2.2.2.1
      rw [old (kd := 0) (by omega) a, old (kd := 7) (k := 24 + k) (by omega) (by omega), g 0]
      exact h.stops a
    · rw [a2, ← show xAd c ad (kl t) q t d' qa (kl t) (c (kl t)) = xAd c ad (kl t) q t d' qa 0 (c (kl t)) by rw [a1], newq, show 24 + c (kl t) = c 7 by rw [← a1]; omega, newa a1.symm]
      exact (hqa a1.symm).2.2.2.2
    · omega
  · have m1 : ∀ {y : Nat}, y < c 2 → xAd c ad (kl t) q t d' qa 2 y = ad 2 y := fun hy => old (kd := 2) (by omega) hy
    have m2 : ∀ {y : Nat}, y < c 1 → xAd c ad (kl t) q t d' qa 1 y = ad 1 y := fun hy => old (kd := 1) (by omega) hy
    have cc1 : c 1 ≤ xC c (kl t) 1 := by unfold xC; split; omega; split <;> omega
    have mp1 : ∀ (o : Option Nat), (∀ y, o = some y → y < c 2) → o.map (ad 2) = o.map (xAd c ad (kl t) q t d' qa 2) := fun o ho => by
      cases o with
      | none => rfl
      | some y => exact congrArg some (m1 (ho y rfl)).symm
    have mp2 : ∀ (o : Option Nat), (∀ y, o = some y → y < c 1) → o.map (ad 1) = o.map (xAd c ad (kl t) q t d' qa 1) := fun o ho => by
      cases o with
      | none => rfl
      | some y => exact congrArg some (m2 (ho y rfl)).symm
    rcases cas (show 2 ≤ 7 by omega) hk with a | ⟨a1, a2⟩ | ⟨a1, a2, a3⟩
    · have g := (fr (kd := 2) (k := k) (by omega) a (by omega)).2.2.2.1
      obtain ⟨q1, q2, q3, q4⟩ := h.perm a
      rw [m1 a, g 1, g 2, hp 1 k a, hp 2 k a]
      exact ⟨q1.trans (mp1 _ (fun y e => Nat.lt_trans (q3 y e) a)), q2.trans (mp2 _ q4), q3, fun y e => Nat.lt_of_lt_of_le (q4 y e) cc1⟩
    · obtain ⟨q1, q2, q3, q4⟩ := hp2 a1.symm
      rw [a2, ← show xAd c ad (kl t) q t d' qa (kl t) (c (kl t)) = xAd c ad (kl t) q t d' qa 2 (c (kl t)) by rw [a1], newq, show c (kl t) = c 2 by rw [← a1]]
      exact ⟨q1.trans (mp1 _ q3), q2.trans (mp2 _ q4), q3, fun y e => Nat.lt_of_lt_of_le (q4 y e) cc1⟩
    · omega
  · -- the lists
    have lst : ∀ t', t' < 3 → okL e0 S' (xAd c ad (kl t) q t d' qa 6 t') (xAd c ad (kl t) q t d' qa 8 t') (xC c (kl t) (kl t')) (xAd c ad (kl t) q t d' qa (kl t')) := by
      intro t' ht'
      rw [old (kd := 6) (k := t') (by omega) (by omega)]
      by_cases e : t' = t
      · subst e
        rw [show xAd c ad (kl t') q t' d' qa 8 t' = d' by unfold xAd; rw [if_neg (by omega), if_pos ⟨rfl, rfl⟩], show xC c (kl t') (kl t') = c (kl t') + 1 from if_pos rfl]
        refine hL.cg (fun k hk => ?_)
        by_cases e2 : k = c (kl t')
        · rw [e2, snoc_n, newq]
        · rw [snoc_o e2]; exact (old (by omega) (by omega)).symm
      · have hk' := kl_lt t'
        have hne : kl t' ≠ kl t := fun q => e (kl_inj ht' ht q)
        rw [show xAd c ad (kl t) q t d' qa 8 t' = ad 8 t' by unfold xAd; rw [if_neg (by omega), if_neg (fun q => e q.2), if_neg (by omega)], c1' (kl t') hne (by omega)]
        have ok := h.list ht'
        refine (ok.fr hF ?_ (fun hm => ?_)).cg (fun k hk => (old (by omega) hk).symm)
        · exact h.old ht ok.1 ok.2.1 (by omega) (fun _ q => e (h.inj (kd := 6) (by omega) (by omega) c6 q))
        · rintro (q | q)
          · have := (h.obj (kd := 6) (by omega) c6).2
            rcases h.arr8 ht' with g | g
            · exact h.apart.2 (g ▸ hm)
            · rw [← q, g.2] at this; omega
          · exact e (h.apart.1 t' t ht' ht hm q)
    exact ⟨lst 0 (by omega), lst 1 (by omega), lst 2 (by omega)⟩
  · refine ⟨?_, he0⟩
    have o8 : ∀ t', t' ≠ t → xAd c ad (kl t) q t d' qa 8 t' = ad 8 t' := fun t' e => by unfold xAd; rw [if_neg (by omega), if_neg (fun q => e q.2), if_neg (by omega)]
    have n8 : xAd c ad (kl t) q t d' qa 8 t = d' := by unfold xAd; rw [if_neg (by omega), if_pos ⟨rfl, rfl⟩]
    have key : ∀ t', t' < 3 → t' ≠ t → d' ∈ sL S' → d' ≠ ad 8 t' := by
      intro t' ht' hne hm e
      rcases h.arr8 ht' with g | g
      · exact he0 (by rw [← g, ← e]; exact hm)
      · rcases hd' with q | q
        · exact hne (h.apart.1 t' t ht' ht g.1 (e.symm.trans q))
        · exact q (e ▸ g.1)
    intro t1 t2 h1 h2 hm e
    by_cases e1 : t1 = t <;> by_cases e2 : t2 = t
    · omega
    · subst e1; rw [n8] at hm e; rw [o8 t2 e2] at e; exact absurd e (key t2 h2 e2 hm)
    · subst e2; rw [n8] at e; rw [o8 t1 e1] at hm e; exact absurd e.symm (key t1 h1 e1 (e ▸ hm))
    · rw [o8 t1 e1] at hm e
      rw [o8 t2 e2] at e
      rcases h.arr8 h1 with g | g
      · exact absurd (g ▸ hm) he0
      · exact h.apart.1 t1 t2 h1 h2 g.1 e
end CIX
