/-! facts of one thing, carried along -/
def Ar (S : wS) (x n : Nat) : Prop := x ∈ sL S ∧ sK S x = 7 ∧ sN S x = n ∧ ∀ b, sR S x b = 0
def Gr (S : wS) (q : Nat) (r : Nat → Nat) : Prop := q ∈ sL S ∧ sK S q = 9 ∧ sN S q = 10 ∧ ∀ i, i < 10 → sQ S q i = some (r i)
def Wy (S : wS) (w q : Nat) : Prop := w ∈ sL S ∧ sK S w = 4 ∧ sI S 16 w = -1 ∧ sI S 17 w = 0 ∧ sP S 8 w = some q
theorem Ar.fr {S S' : wS} {X : Nat → Prop} {x n : Nat} (h : Ar S x n) (hF : FR S S' X) (hx : ¬ X x) : Ar S' x n := by
  obtain ⟨g1, g2, g3, g4, g5, g6, g7⟩ := hF.2 x h.1 hx
  exact ⟨hF.1 _ h.1, g1.trans h.2.1, g5.trans h.2.2.1, fun b => by rw [g6]; exact h.2.2.2 b⟩
theorem Gr.fr {S S' : wS} {X : Nat → Prop} {q : Nat} {r : Nat → Nat} (h : Gr S q r) (hF : FR S S' X) (hx : ¬ X q) : Gr S' q r := by
  obtain ⟨g1, g2, g3, g4, g5, g6, g7⟩ := hF.2 q h.1 hx
  exact ⟨hF.1 _ h.1, g1.trans h.2.1, g5.trans h.2.2.1, fun b hb => by rw [g7]; exact h.2.2.2 b hb⟩
theorem Wy.fr {S S' : wS} {X : Nat → Prop} {w q : Nat} (h : Wy S w q) (hF : FR S S' X) (hx : ¬ X w) : Wy S' w q := by
  obtain ⟨g1, g2, g3, g4, g5, g6, g7⟩ := hF.2 w h.1 hx
  exact ⟨hF.1 _ h.1, g1.trans h.2.1, (g2 16).trans h.2.2.1, (g2 17).trans h.2.2.2.1, (g4 8).trans h.2.2.2.2⟩
theorem Ar.new {S : wS} {q n : Nat} : Ar (nw S q 7 n) q n := ⟨nw_own, nw_Ko, nw_No, fun b => congrFun nw_Ro b⟩
/-- new roads at a -/
def pRd (S S' : wS) (a : Nat) : Prop := FR S S' (fun x => x = a) ∧ sK S' a = sK S a ∧ sI S' 15 a = sI S 15 a ∧ ∃ (A W Gd : Nat → Nat),
  (∀ k, k < 24 → k ≠ 3 → A k ∉ sL S ∧ Ar S' (A k) (alen k)) ∧ (∀ k k', k < 24 → k' < 24 → k ≠ 3 → k' ≠ 3 → A k = A k' → k = k') ∧
  (∀ w, w < 2 → W w ∉ sL S ∧ Wy S' (W w) (Gd w) ∧ Gd w ∉ sL S ∧ Gr S' (Gd w) (fun b => A (4 + 10 * w + b))) ∧ W 0 ≠ W 1 ∧
  sP S' 3 a = some (A 0) ∧ sP S' 4 a = some (A 1) ∧ sP S' 5 a = some (A 2) ∧ sP S' 6 a = some (W 0) ∧ sP S' 7 a = some (W 1)
def rdA (q0 q1 q2 : Nat) (r0 r1 : Nat → Nat) (k : Nat) : Nat := if k = 0 then q0 else if k = 1 then q1 else if k = 2 then q2 else if k < 14 then r0 (k - 4) else r1 (k - 14)
theorem rdA_0 {q0 q1 q2 : Nat} {r0 r1 : Nat → Nat} : rdA q0 q1 q2 r0 r1 0 = q0 := rfl
theorem rdA_1 {q0 q1 q2 : Nat} {r0 r1 : Nat → Nat} : rdA q0 q1 q2 r0 r1 1 = q1 := rfl
theorem rdA_2 {q0 q1 q2 : Nat} {r0 r1 : Nat → Nat} : rdA q0 q1 q2 r0 r1 2 = q2 := rfl
theorem rdA_a {q0 q1 q2 : Nat} {r0 r1 : Nat → Nat} {b : Nat} (h : b < 10) : rdA q0 q1 q2 r0 r1 (4 + b) = r0 b := by
  unfold rdA
  rw [if_neg (by omega), if_neg (by omega), if_neg (by omega), if_pos (by omega), show 4 + b - 4 = b by omega]
theorem rdA_b {q0 q1 q2 : Nat} {r0 r1 : Nat → Nat} {b : Nat} : rdA q0 q1 q2 r0 r1 (14 + b) = r1 b := by
  unfold rdA
  rw [if_neg (by omega), if_neg (by omega), if_neg (by omega), if_neg (by omega), show 14 + b - 14 = b by omega]
theorem rd_cases {k : Nat} (h : k < 24) (h3 : k ≠ 3) : k = 0 ∨ k = 1 ∨ k = 2 ∨ (∃ b, b < 10 ∧ k = 4 + b) ∨ ∃ b, b < 10 ∧ k = 14 + b := by
  by_cases h1 : k < 3
  · omega
  · by_cases h2 : k < 14
    · exact Or.inr (Or.inr (Or.inr (Or.inl ⟨k - 4, by omega, by omega⟩)))
    · exact Or.inr (Or.inr (Or.inr (Or.inr ⟨k - 14, by omega, by omega⟩)))
