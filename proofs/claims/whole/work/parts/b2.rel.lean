/-! class and model side by side -/
/-- the numbers -/
def RN (c : Nat → Nat) (i : Nat → Nat → Int32) (s : mS) (M N : Nat) : Prop :=
  i 15 0 = nI M ∧ mi s 5 = nI M ∧ M ≤ 24 ∧ mi s 10 = nI (c 0) ∧ c 0 ≤ 6 ∧ mi s 21 = nI (c 2) ∧ c 2 ≤ 40 ∧ mi s 24 = nI (c 1) ∧ c 1 ≤ c 2 ∧ N ≤ 5000 ∧ i 18 0 = nI N ∧ mi s 1 = nI N ∧ (∀ l, c 0 ≤ l → ml s 9 l = 0) ∧ ∀ k, c 2 ≤ k → ml s 20 k = 0
/-- the lanes -/
def RLn (r : Nat → Nat → Int32) (s : mS) (M : Nat) : Prop := ∀ e, e < M → r 0 e = mr s 2 e ∧ r 1 e = mr s 3 e ∧ r 2 e = mr s 4 e ∧ ∃ x y t : Nat, mr s 2 e = nI x ∧ mr s 3 e = nI y ∧ mr s 4 e = nI t ∧ x < 10 ∧ y < 10 ∧ x ≠ y ∧ t ≤ 30
/-- a line -/
def RL1 (i : Nat → Nat → Int32) (j : Nat → Nat → Int64) (r : Nat → Nat → Int32) (s : mS) (M l : Nat) : Prop :=
  i 1 l = mr s 6 l ∧ j 0 l = ml s 9 l ∧ ∃ n, n < 6 ∧ i 0 l = nI (n + 1) ∧ mr s 8 l = nI (n + 1) ∧ (∀ k, k < n + 1 → r (24 + l) k = mr s 7 (6 * l + k) ∧ ∃ b, b < 10 ∧ mr s 7 (6 * l + k) = nI b) ∧ ∀ k, k < n → dst (Ed (r 0) (r 1) (r 2) 0 M) (tn (r (24 + l) k)) (tn (r (24 + l) (k + 1))) < FAR
def RLi (c : Nat → Nat) (i : Nat → Nat → Int32) (j : Nat → Nat → Int64) (r : Nat → Nat → Int32) (s : mS) (M : Nat) : Prop := ∀ l, l < c 0 → RL1 i j r s M l
/-- when a permit was begun and finished, by its state -/
def RB (bg fi st : Int32) (N : Nat) : Prop := ((st = 0 ∨ st = 1 ∨ st = 4) ∧ bg = -1 ∧ fi = -1) ∨ (st = 2 ∧ ∃ b, b ≤ N ∧ bg = nI b ∧ fi = -1) ∨ (st = 3 ∧ ∃ b f, b ≤ f ∧ f ≤ N ∧ bg = nI b ∧ fi = nI f)
/-- a permit -/
def RP1 (c : Nat → Nat) (i : Nat → Nat → Int32) (j : Nat → Nat → Int64) (p : Nat → Nat → Option Nat) (s : mS) (M N k : Nat) : Prop :=
  (i 5 k = nI k ∧ i 6 k = mr s 11 k ∧ i 7 k = mr s 12 k ∧ i 8 k = mr s 13 k ∧ i 9 k = mr s 14 k ∧ i 10 k = mr s 16 k ∧ i 11 k = mr s 17 k ∧ i 12 k = mr s 18 k ∧ j 2 k = ml s 20 k) ∧
  (∃ a, a < 6 ∧ mr s 11 k = nI a) ∧ (∃ e, e < M ∧ mr s 12 k = nI e) ∧
  ((p 1 k = none ∧ mr s 15 k = -1) ∨ ∃ z, z < k ∧ p 1 k = some z ∧ mr s 15 k = nI z) ∧
  ((mr s 17 k = 1 ∧ p 2 k = none) ∨ (¬ mr s 17 k = 1 ∧ ∃ o, o < c 1 ∧ p 2 k = some o ∧ mr s 19 k = nI o ∧ i 2 o = mr s 12 k)) ∧
  RB (i 13 k) (i 14 k) (mr s 17 k) N
def RPm (c : Nat → Nat) (i : Nat → Nat → Int32) (j : Nat → Nat → Int64) (p : Nat → Nat → Option Nat) (s : mS) (M N : Nat) : Prop := ∀ k, k < c 2 → RP1 c i j p s M N k
/-- the openings -/
def ROp (c : Nat → Nat) (i : Nat → Nat → Int32) (j : Nat → Nat → Int64) (s : mS) : Prop := ∀ o, o < c 1 → i 3 o = mr s 22 o ∧ i 4 o = mr s 23 o ∧ j 1 o = mtg s (nI o) (c 2) ∧ ∃ f e : Nat, mr s 22 o = nI f ∧ mr s 23 o = nI e ∧ f < e ∧ e ≤ 4940
def RPt (r : Nat → Nat → Int32) (s : mS) : Prop := ∀ a, a < 6 → r 3 a = mr s 25 a
/-- the minutes anew, hour by hour -/
noncomputable def SHR (i r : Nat → Nat → Int32) (M l n2 : Nat) : Nat → Int64
  | 0 => 0
  | h + 1 => SHR i r M l n2 h + (exL i r (cdM i (nI h) n2) M l).toInt64
def RMa (c : Nat → Nat) (i : Nat → Nat → Int32) (j : Nat → Nat → Int64) (r : Nat → Nat → Int32) (M N : Nat) : Prop := ∀ l, l < c 0 → j 0 l = (i 1 l).toInt64 * SHR i r M l (c 2) N
def RELn (c : Nat → Nat) (i : Nat → Nat → Int32) (j : Nat → Nat → Int64) (p : Nat → Nat → Option Nat) (r : Nat → Nat → Int32) (s : mS) (M N : Nat) : Prop :=
  RN c i s M N ∧ RLn r s M ∧ RLi c i j r s M ∧ RPm c i j p s M N ∧ ROp c i j s ∧ RPt r s ∧ RMa c i j r M N ∧ WV i r M
def REL (c : Nat → Nat) (i : Nat → Nat → Int32) (j : Nat → Nat → Int64) (p : Nat → Nat → Option Nat) (r : Nat → Nat → Int32) (s : mS) : Prop := ∃ M N, RELn c i j p r s M N
section RL
variable {c : Nat → Nat} {i : Nat → Nat → Int32} {j : Nat → Nat → Int64} {p : Nat → Nat → Option Nat} {r : Nat → Nat → Int32} {s : mS} {M N : Nat}
theorem RLn.lns (h : RLn r s M) : LNS r M := by
  intro e he
  obtain ⟨h1, h2, h3, x, y, t, g1, g2, g3, g4⟩ := h e he
  exact ⟨x, y, t, h1.trans g1, h2.trans g2, h3.trans g3, g4⟩
theorem RLn.mln (h : RLn r s M) : MLN s M := fun e he => (h e he).2.2.2
theorem RLi.li (h : RLi c i j r s M) : LI i r (c 0) := by
  intro l hl
  obtain ⟨-, -, n, h1, h2, -, h3, -⟩ := h l hl
  refine ⟨n, h1, h2, fun k hk => ?_⟩
  obtain ⟨g1, b, g2, g3⟩ := h3 k hk
  rw [g1, g3, tn_nI (by omega)]
  exact ⟨rfl, g2⟩
theorem RLi.mli (h : RLi c i j r s M) : MLI s (c 0) := by
  intro l hl
  obtain ⟨-, -, n, h1, -, h2, h3, -⟩ := h l hl
  refine ⟨n, h1, h2, fun k hk => ?_⟩
  obtain ⟨-, b, g2, g3⟩ := h3 k hk
  unfold mst
  rw [g3, tn_nI (by omega)]
  exact ⟨rfl, g2⟩
theorem RPm.hop (h : RPm c i j p s M N) (h1 : c 1 ≤ c 2) (h2 : c 2 ≤ 40) : HOP s (c 2) := by
  intro k hk hn
  obtain ⟨-, -, -, -, g, -⟩ := h k hk
  rcases g with g | ⟨-, o, g1, g2, g3, g4⟩
  · exact absurd g.1 hn
  · rw [g3, tn_nI (by omega)]
    exact ⟨rfl, by omega⟩
theorem RPm.hnd (h : RPm c i j p s M N) (h2 : c 2 ≤ 40) : ∀ k, k < c 2 → mr s 15 k = -1 ∨ (mr s 15 k = nI (tn (mr s 15 k)) ∧ tn (mr s 15 k) < 40) := by
  intro k hk
  obtain ⟨-, -, -, g, -⟩ := h k hk
  rcases g with g | ⟨z, g1, g2, g3⟩
  · exact Or.inl g.2
  · rw [g3, tn_nI (by omega)]
    exact Or.inr ⟨rfl, by omega⟩
theorem RPm.hap (h : RPm c i j p s M N) : ∀ k, k < c 2 → mr s 11 k = nI (tn (mr s 11 k)) ∧ tn (mr s 11 k) < 6 := by
  intro k hk
  obtain ⟨-, ⟨a, g1, g2⟩, -⟩ := h k hk
  rw [g2, tn_nI (by omega)]
  exact ⟨rfl, g1⟩
theorem RPm.cap (h : RPm c i j p s M N) : ∀ k, k < c 2 → ∃ a, a < 6 ∧ i 6 k = nI a := by
  intro k hk
  obtain ⟨g, ⟨a, g1, g2⟩, -⟩ := h k hk
  exact ⟨a, g1, g.2.1.trans g2⟩
/-! the same ways -/
theorem Ed_eq (h : RLn r s M) {cl cl' : Int32} (ho : ∀ e, e < M → (opn cl e ↔ opn cl' e)) : dst (Ed (r 0) (r 1) (r 2) cl M) = dst (Ed (mr s 2) (mr s 3) (mr s 4) cl' M) := by
  apply dst_congr
  intro a b t
  constructor
  · rintro ⟨e, h1, h2, h3, h4, h5, h6, h7⟩
    obtain ⟨g1, g2, g3, -⟩ := h e h1
    exact ⟨e, h1, (ho e h1).mp h2, g3.symm.trans h3, h4, h5, h6, by rw [← g1, ← g2]; exact h7⟩
  · rintro ⟨e, h1, h2, h3, h4, h5, h6, h7⟩
    obtain ⟨g1, g2, g3, -⟩ := h e h1
    exact ⟨e, h1, (ho e h1).mpr h2, g3.trans h3, h4, h5, h6, by rw [g1, g2]; exact h7⟩
theorem Ed_sub {on ot tk : Nat → Int32} {cl : Int32} {m : Nat} : ∀ a b t, Ed on ot tk cl m a b t → Ed on ot tk 0 m a b t := by
  rintro a b t ⟨e, h1, h2, h3⟩
  exact ⟨e, h1, opn_0 e, h3⟩
theorem sumI_congr {f g : Nat → Int32} {n : Nat} (h : ∀ k, k < n → f k = g k) : sumI f n = sumI g n := by
  induction n with
  | zero => rfl
  | succ n ih => rw [sumI_s, sumI_s, ih (fun k hk => h k (by omega)), h n (by omega)]
theorem sumI_0 {f : Nat → Int32} {n : Nat} (h : ∀ k, k < n → f k = 0) : sumI f n = 0 := by
  induction n with
  | zero => rfl
  | succ n ih => rw [sumI_s, ih (fun k hk => h k (by omega)), h n (by omega)]; rfl
theorem FAR_nI : nI FAR = 1000000 := rfl
theorem nI_far {d : Nat} (h : d < FAR) : ¬ nI d = 1000000 := fun e => by
  have := nI_inj (a := d) (b := FAR) (by unfold FAR at h; omega) (by decide) e
  omega
theorem leg_eq (hL : RLn r s M) {cl cl' : Int32} (ho : ∀ e, e < M → (opn cl e ↔ opn cl' e)) {a b : Nat} : legI (Ed (r 0) (r 1) (r 2) 0 M) (Ed (r 0) (r 1) (r 2) cl M) a b = (if mds s cl' M a b = 1000000 then 60 else mds s cl' M a b - mds s 0 M a b) := by
  have e1 := Ed_eq hL ho
  have e0 := Ed_eq hL (cl := 0) (cl' := 0) (fun _ _ => Iff.rfl)
  unfold legI wy mds
  rw [← e1, ← e0]
  by_cases hd : dst (Ed (r 0) (r 1) (r 2) cl M) a b < FAR
  · have h0 := dst_more Ed_sub hd
    rw [if_pos hd, if_pos h0, if_neg (nI_far hd), if_neg (fun e => absurd e.symm (nI_nm1 (by unfold FAR at hd; omega)))]
  · have hF : dst (Ed (r 0) (r 1) (r 2) cl M) a b = FAR := Nat.le_antisymm (dst_le _ _ _) (Nat.not_lt.mp hd)
    rw [if_neg hd, if_pos rfl, hF, if_pos FAR_nI]
theorem exL_mdL (hL : RLn r s M) {l : Nat} (h1 : RL1 i j r s M l) {cl cl' : Int32} (ho : ∀ e, e < M → (opn cl e ↔ opn cl' e)) : exL i r cl M l = mdL s cl' M l := by
  obtain ⟨-, -, n, hn, g1, g2, g3, g4⟩ := h1
  unfold exL mdL exM
  rw [g1, g2, tn_nI (by omega), Nat.add_sub_cancel]
  have est : ∀ k, k < n + 1 → tn (r (24 + l) k) = mst s l k := fun k hk => by unfold mst; rw [(g3 k hk).1]
  by_cases hc : cl' = 0
  · rw [show mdt s cl' M l n = 0 from if_pos hc]
    apply sumI_0
    intro k hk
    unfold exF
    have e1 : dst (Ed (r 0) (r 1) (r 2) cl M) = dst (Ed (r 0) (r 1) (r 2) 0 M) := (Ed_eq hL ho).trans (by rw [hc]; exact (Ed_eq hL (fun _ _ => Iff.rfl)).symm)
    have hd := g4 k hk
    unfold legI wy
    rw [e1, if_pos hd, if_neg (fun e => absurd e.symm (nI_nm1 (by unfold FAR at hd; omega))), Int32.sub_self]
  · rw [show mdt s cl' M l n = sumI (mleg s cl' M l) n from if_neg hc]
    apply sumI_congr
    intro k hk
    unfold exF mleg
    rw [est k (by omega), est (k + 1) (by omega)]
    exact leg_eq hL ho
/-! the closed lanes -/
theorem opC_nct {np : Nat} {x : Int32} : opC s np x = nI (nct (fun k => mr s 17 k = 2 ∧ mr s 12 k = x) np) := cntI_nct
theorem opC_pos {np : Nat} (hp : np ≤ 40) {x : Int32} : 0 < opC s np x ↔ ∃ k, k < np ∧ mr s 17 k = 2 ∧ mr s 12 k = x := by
  rw [opC_nct, show (0 : Int32) = nI 0 from rfl, nI_ltI (by decide) (by have := nct_le (fun k => mr s 17 k = 2 ∧ mr s 12 k = x) np; omega), nct_pos]
theorem mcl_bt {np n e : Nat} (hp : np ≤ 40) (hn : n ≤ 24) (he : e < 32) : bt (mcl s np n) e = true ↔ e < n ∧ ∃ k, k < np ∧ mr s 17 k = 2 ∧ mr s 12 k = nI e := by
  induction n with
  | zero =>
    constructor
    · intro h; exact absurd h (by show ¬ bt 0 e = true; rw [b_0]; decide)
    · rintro ⟨h, -⟩; omega
  | succ n ih =>
    have ih := ih (by omega)
    by_cases h : 0 < opC s np (nI n)
    · rw [mcl_t h, b_or, bt_bit (by omega) he, Bool.or_eq_true, ih]
      constructor
      · rintro (g | g)
        · exact ⟨by omega, g.2⟩
        · have g : e = n := by simpa using g
          subst g
          exact ⟨by omega, (opC_pos hp).mp h⟩
      · rintro ⟨g1, g2⟩
        by_cases q : e = n
        · exact Or.inr (by simp [q])
        · exact Or.inl ⟨by omega, g2⟩
    · rw [mcl_f h, b_or, b_0, Bool.or_false, ih]
      constructor
      · rintro g; exact ⟨by omega, g.2⟩
      · rintro ⟨g1, g2⟩
        by_cases q : e = n
        · subst q; exact absurd ((opC_pos hp).mpr g2) h
        · exact ⟨by omega, g2⟩
theorem RPm.lane (h : RPm c i j p s M N) (hM : M ≤ 24) : ∀ k, k < c 2 → ∃ x, x < 32 ∧ i 7 k = nI x := by
  intro k hk
  obtain ⟨g, -, ⟨e, g1, g2⟩, -⟩ := h k hk
  exact ⟨e, by omega, g.2.2.1.trans g2⟩
theorem bt_iff {x : Int32} {e : Nat} {P : Prop} (h : bt x e = true ↔ P) : bt x e = false ↔ ¬ P := by
  rw [← h]
  cases bt x e <;> simp
theorem cl_opn (h : RPm c i j p s M N) (hM : M ≤ 24) (hp : c 2 ≤ 40) : ∀ e, e < M → (opn (clM (fun k => i 11 k) (fun k => i 7 k) none (c 2)) e ↔ opn (mcl s (c 2) M) e) := by
  intro e he
  rw [opn_bt (by omega), opn_bt (by omega), bt_iff (clM_bt (by omega) (h.lane hM)), bt_iff (mcl_bt hp hM (by omega))]
  constructor
  · rintro g ⟨-, k, h1, h2, h3⟩
    obtain ⟨q, -⟩ := h k h1
    exact g ⟨k, h1, q.2.2.2.2.2.2.1.trans h2, by simp, q.2.2.1.trans h3⟩
  · rintro g ⟨k, h1, h2, -, h3⟩
    obtain ⟨q, -⟩ := h k h1
    exact g ⟨he, k, h1, q.2.2.2.2.2.2.1.symm.trans h2, q.2.2.1.symm.trans h3⟩
/-- what a dig costs a line -/
theorem cost_eq (hL : RLn r s M) (h : RPm c i j p s M N) (hM : M ≤ 24) (hp : c 2 ≤ 40) {l : Nat} (h1 : RL1 i j r s M l) {k : Nat} (hk : k < c 2) (hs : i 11 k = 2) : mcL s (c 2) (mcl s (c 2) M) M l k = exL i r (clM (fun k => i 11 k) (fun k => i 7 k) none (c 2)) M l - exL i r (clM (fun k => i 11 k) (fun k => i 7 k) (some k) (c 2)) M l := by
  obtain ⟨q, -, ⟨e0, he0, hle⟩, -⟩ := h k hk
  have hs' : mr s 17 k = 2 := q.2.2.2.2.2.2.1.symm.trans hs
  have hbut : ∀ e, e < M → (opn (clM (fun k => i 11 k) (fun k => i 7 k) (some k) (c 2)) e ↔ ¬ ∃ k', k' < c 2 ∧ mr s 17 k' = 2 ∧ k' ≠ k ∧ mr s 12 k' = nI e) := by
    intro e he
    rw [opn_bt (by omega), bt_iff (clM_bt (by omega) (h.lane hM))]
    apply not_congr
    constructor
    · rintro ⟨k', g1, g2, g3, g4⟩
      obtain ⟨q', -⟩ := h k' g1
      exact ⟨k', g1, q'.2.2.2.2.2.2.1.symm.trans g2, fun e => g3 (by rw [e]), q'.2.2.1.symm.trans g4⟩
    · rintro ⟨k', g1, g2, g3, g4⟩
      obtain ⟨q', -⟩ := h k' g1
      exact ⟨k', g1, q'.2.2.2.2.2.2.1.trans g2, fun e => g3 (Option.some.inj e).symm, q'.2.2.1.trans g4⟩
  have hcl : ∀ e, e < M → (opn (mcl s (c 2) M) e ↔ ¬ ∃ k', k' < c 2 ∧ mr s 17 k' = 2 ∧ mr s 12 k' = nI e) := by
    intro e he
    rw [opn_bt (by omega), bt_iff (mcl_bt hp hM (by omega))]
    exact not_congr ⟨fun g => g.2, fun g => ⟨he, g⟩⟩
  unfold mcL
  by_cases ho : opC s (c 2) (mr s 12 k) = 1
  · rw [if_pos ⟨hs', ho⟩]
    have hone : nct (fun k' => mr s 17 k' = 2 ∧ mr s 12 k' = mr s 12 k) (c 2) = 1 := by
      rw [opC_nct] at ho
      exact nI_inj (b := 1) (by have := nct_le (fun k' => mr s 17 k' = 2 ∧ mr s 12 k' = mr s 12 k) (c 2); omega) (by decide) ho
    rw [exL_mdL hL h1 (cl_opn h hM hp), exL_mdL hL h1 (cl := clM (fun k => i 11 k) (fun k => i 7 k) (some k) (c 2)) (cl' := mcl s (c 2) M &&& (((1 : Int32) <<< (mr s 12 k &&& 31)) ^^^ (-1)))]
    intro e he
    rw [hbut e he, opn_bt (by omega), b_and, hle, bt_nbit (by omega) (by omega)]
    by_cases qe : e = e0
    · subst qe
      constructor
      · intro _; simp
      · rintro - ⟨k', g1, g2, g3, g4⟩
        exact g3 (nct_one hone k' k g1 hk ⟨g2, g4.trans hle.symm⟩ ⟨hs', rfl⟩)
    · have hb := bt_iff (mcl_bt (s := s) (n := M) (e := e) hp hM (by omega))
      simp only [qe, decide_false, Bool.not_false, Bool.and_true, hb]
      apply not_congr
      constructor
      · rintro ⟨k', g1, g2, g3, g4⟩; exact ⟨he, k', g1, g2, g4⟩
      · rintro ⟨-, k', g1, g2, g4⟩
        exact ⟨k', g1, g2, fun e2 => qe (nI_inj (by omega) (by omega) (g4.symm.trans (by rw [e2]; exact hle))), g4⟩
  · rw [if_neg (fun z => ho z.2)]
    obtain ⟨k2, g1, g2, g3⟩ := nct_two (P := fun k' => mr s 17 k' = 2 ∧ mr s 12 k' = mr s 12 k) hk ⟨hs', rfl⟩ (fun z => ho (by rw [opC_nct, z]; rfl))
    rw [exL_mdL hL h1 (cl_opn h hM hp), exL_mdL hL h1 (cl := clM (fun k => i 11 k) (fun k => i 7 k) (some k) (c 2)) (cl' := mcl s (c 2) M), Int32.sub_self]
    intro e he
    rw [hbut e he, hcl e he]
    apply not_congr
    constructor
    · rintro ⟨k', a1, a2, a3, a4⟩; exact ⟨k', a1, a2, a4⟩
    · rintro ⟨k', a1, a2, a4⟩
      by_cases z : k' = k
      · exact ⟨k2, g1, g3.1, g2, g3.2.trans (by rw [← z]; exact a4)⟩
      · exact ⟨k', a1, a2, z, a4⟩
end RL
