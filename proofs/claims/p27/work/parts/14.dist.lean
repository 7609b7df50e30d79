/-! the shortest way, as a number: both sides find it -/
def FAR : Nat := 1000000
/-- a way of s steps from a to b, n minutes long -/
def wk (E : Nat → Nat → Nat → Prop) : Nat → Nat → Nat → Nat → Prop
  | 0, a, b, n => a = b ∧ n = 0
  | s + 1, a, b, n => ∃ m n', wk E s a m n' ∧ ∃ t, E m b t ∧ n = n' + t
def Rch (E : Nat → Nat → Nat → Prop) (a b n : Nat) : Prop := ∃ s, wk E s a b n
theorem Rch.rf {E : Nat → Nat → Nat → Prop} {a : Nat} : Rch E a a 0 := ⟨0, rfl, rfl⟩
theorem Rch.step {E : Nat → Nat → Nat → Prop} {a m b n t : Nat} (h : Rch E a m n) (e : E m b t) : Rch E a b (n + t) := by
  obtain ⟨s, h⟩ := h
  exact ⟨s + 1, m, n, h, t, e, rfl⟩
theorem Rch.trans {E : Nat → Nat → Nat → Prop} {a m n : Nat} (h : Rch E a m n) {b n' : Nat} (h' : Rch E m b n') : Rch E a b (n + n') := by
  obtain ⟨s, h'⟩ := h'
  induction s generalizing b n' with
  | zero =>
    obtain ⟨rfl, rfl⟩ := h'
    exact h
  | succ s ih =>
    obtain ⟨q, n1, h1, t, e, rfl⟩ := h'
    have := (ih h1).step e
    rwa [Nat.add_assoc] at this
theorem wk.mono {E E' : Nat → Nat → Nat → Prop} (hE : ∀ m b t, E m b t → E' m b t) : ∀ (s a b n : Nat), wk E s a b n → wk E' s a b n
  | 0, _, _, _, h => h
  | s + 1, a, _, _, ⟨m, n', h1, t, e, h2⟩ => ⟨m, n', wk.mono hE s a m n' h1, t, hE _ _ _ e, h2⟩
theorem Rch.mono {E E' : Nat → Nat → Nat → Prop} (hE : ∀ m b t, E m b t → E' m b t) {a b n : Nat} (h : Rch E a b n) : Rch E' a b n := by
  obtain ⟨s, h⟩ := h
  exact ⟨s, wk.mono hE s a b n h⟩
def isD (E : Nat → Nat → Nat → Prop) (a b v : Nat) : Prop := (v < FAR ∧ Rch E a b v ∧ ∀ m, Rch E a b m → v ≤ m) ∨ (v = FAR ∧ ∀ m, Rch E a b m → FAR ≤ m)
theorem isD_uniq {E : Nat → Nat → Nat → Prop} {a b v w : Nat} (h1 : isD E a b v) (h2 : isD E a b w) : v = w := by
  rcases h1 with ⟨a1, b1, c1⟩ | ⟨a1, c1⟩ <;> rcases h2 with ⟨a2, b2, c2⟩ | ⟨a2, c2⟩
  · exact Nat.le_antisymm (c1 _ b2) (c2 _ b1)
  · have := c2 _ b1; omega
  · have := c1 _ b2; omega
  · omega
theorem isD_ex (E : Nat → Nat → Nat → Prop) (a b : Nat) : ∃ v, isD E a b v := by
  by_cases h : ∃ n, n < FAR ∧ Rch E a b n
  · obtain ⟨n, hn, hr⟩ := h
    obtain ⟨k, hk, hmin⟩ := pk_least (fun n => Rch E a b n) ⟨n, hr⟩
    have hkn : k ≤ n := Nat.not_lt.mp (fun q => hmin n q hr)
    exact ⟨k, Or.inl ⟨by omega, hk, fun m hm => Nat.not_lt.mp (fun q => hmin m q hm)⟩⟩
  · exact ⟨FAR, Or.inr ⟨rfl, fun m hm => Nat.not_lt.mp (fun q => h ⟨m, q, hm⟩)⟩⟩
noncomputable def dst (E : Nat → Nat → Nat → Prop) (a b : Nat) : Nat := (isD_ex E a b).choose
theorem dst_is {E : Nat → Nat → Nat → Prop} {a b : Nat} : isD E a b (dst E a b) := (isD_ex E a b).choose_spec
theorem dst_eq {E : Nat → Nat → Nat → Prop} {a b v : Nat} (h : isD E a b v) : v = dst E a b := isD_uniq h dst_is
theorem dst_le (E : Nat → Nat → Nat → Prop) (a b : Nat) : dst E a b ≤ FAR := by
  rcases dst_is (E := E) (a := a) (b := b) with ⟨h, -⟩ | ⟨h, -⟩ <;> omega
theorem dst_congr {E E' : Nat → Nat → Nat → Prop} (h : ∀ m b t, E m b t ↔ E' m b t) : dst E = dst E' := by
  have e : E = E' := by funext m b t; exact propext (h m b t)
  rw [e]
theorem dst_self (E : Nat → Nat → Nat → Prop) (a : Nat) : dst E a a = 0 := by
  rcases dst_is (E := E) (a := a) (b := a) with ⟨-, -, h⟩ | ⟨-, h⟩
  · exact Nat.le_zero.mp (h 0 Rch.rf)
  · have := h 0 Rch.rf; unfold FAR at this; omega
/-- with more lanes a way stays -/
theorem dst_more {E E' : Nat → Nat → Nat → Prop} (hE : ∀ m b t, E m b t → E' m b t) {a b : Nat} (h : dst E a b < FAR) : dst E' a b < FAR := by
  have hr : Rch E a b (dst E a b) := by
    rcases dst_is (E := E) (a := a) (b := b) with ⟨-, h1, -⟩ | ⟨h1, -⟩
    · exact h1
    · omega
  rcases dst_is (E := E') (a := a) (b := b) with ⟨h1, -⟩ | ⟨-, h1⟩
  · exact h1
  · have := h1 _ (hr.mono hE); omega
theorem isD_of {E : Nat → Nat → Nat → Prop} {a : Nat} {f : Nat → Nat} (h0 : f a = 0) (hs : ∀ m b t, E m b t → f b ≤ f m + t) {b : Nat} (hr : f b < FAR → Rch E a b (f b)) (hle : f b ≤ FAR) : isD E a b (f b) := by
  have hlow : ∀ (s b n : Nat), wk E s a b n → f b ≤ n := by
    intro s
    induction s with
    | zero => rintro b n ⟨rfl, rfl⟩; omega
    | succ s ih =>
      rintro b n ⟨m, n', h1, t, e, rfl⟩
      have h2 := ih m n' h1
      have h3 := hs m b t e
      omega
  by_cases h : f b < FAR
  · exact Or.inl ⟨h, hr h, fun m hm => by obtain ⟨s, hm⟩ := hm; exact hlow s b m hm⟩
  · exact Or.inr ⟨by omega, fun m hm => by obtain ⟨s, hm⟩ := hm; have := hlow s b m hm; omega⟩
/-! the ways over a table, junction by junction -/
def fwI (E : Nat → Nat → Nat → Prop) (k : Nat) (d : Nat → Nat → Nat) : Prop :=
  (∀ a b, a < 10 → b < 10 → d a b < FAR → Rch E a b (d a b)) ∧ (∀ m b t, E m b t → d m b ≤ t) ∧ (∀ a, a < 10 → d a a = 0) ∧ (∀ a b, a < 10 → b < 10 → d a b ≤ FAR) ∧ (∀ m a b, m < k → a < 10 → b < 10 → d a b ≤ d a m + d m b)
def fwS (k : Nat) (d : Nat → Nat → Nat) (a b : Nat) : Nat := if d a k + d k b < d a b then d a k + d k b else d a b
theorem fwS_row {k : Nat} {d : Nat → Nat → Nat} (h : d k k = 0) (b : Nat) : fwS k d k b = d k b := by unfold fwS; split <;> omega
theorem fwS_col {k : Nat} {d : Nat → Nat → Nat} (h : d k k = 0) (a : Nat) : fwS k d a k = d a k := by unfold fwS; split <;> omega
theorem fwI_step {E : Nat → Nat → Nat → Prop} {k : Nat} {d : Nat → Nat → Nat} (hk : k < 10) (h : fwI E k d) : fwI E (k + 1) (fwS k d) := by
  obtain ⟨h1, h2, h3, h4, h5⟩ := h
  refine ⟨fun a b ha hb hl => ?_, fun m b t e => ?_, fun a ha => ?_, fun a b ha hb => ?_, fun m a b hm ha hb => ?_⟩
  · unfold fwS at hl ⊢
    split
    · rename_i q
      rw [if_pos q] at hl
      have := h4 a b ha hb
      exact (h1 a k ha hk (by omega)).trans (h1 k b hk hb (by omega))
    · rename_i q
      rw [if_neg q] at hl
      exact h1 a b ha hb hl
  · have := h2 m b t e
    unfold fwS
    split <;> omega
  · have := h3 a ha
    unfold fwS
    split <;> omega
  · have := h4 a b ha hb
    unfold fwS
    split <;> omega
  · have hkk := h3 k hk
    by_cases e : m = k
    · subst e
      rw [fwS_col hkk, fwS_row hkk]
      unfold fwS
      split <;> omega
    · have hm' : m < k := by omega
      have g1 := h5 m a b hm' ha hb
      have g2 := h5 m a k hm' ha hk
      have g3 := h5 m k b hm' hk hb
      unfold fwS
      split <;> split <;> split <;> omega
theorem fw_end {E : Nat → Nat → Nat → Prop} {d : Nat → Nat → Nat} (hE : ∀ m b t, E m b t → m < 10 ∧ b < 10) (h : fwI E 10 d) {a b : Nat} (ha : a < 10) (hb : b < 10) : d a b = dst E a b := by
  obtain ⟨h1, h2, h3, h4, h5⟩ := h
  refine dst_eq (isD_of (f := d a) (h3 a ha) (fun m b t e => ?_) (h1 a b ha hb) (h4 a b ha hb))
  have g1 := hE m b t e
  have g2 := h5 m a b g1.1 ha g1.2
  have g3 := h2 m b t e
  omega
/-! the lanes: on, ot their junctions, tk their minutes, cl the closed ones -/
def opn (cl : Int32) (e : Nat) : Prop := cl &&& ((1 : Int32) <<< (nI e &&& 31)) = 0
def Ed (on ot tk : Nat → Int32) (cl : Int32) (m : Nat) (a b t : Nat) : Prop := ∃ e, e < m ∧ opn cl e ∧ tk e = nI t ∧ t ≤ 30 ∧ a < 10 ∧ b < 10 ∧ ((on e = nI a ∧ ot e = nI b) ∨ (on e = nI b ∧ ot e = nI a))
theorem Ed_in {on ot tk : Nat → Int32} {cl : Int32} {m a b t : Nat} (h : Ed on ot tk cl m a b t) : a < 10 ∧ b < 10 := by obtain ⟨e, -, -, -, -, h1, h2, -⟩ := h; exact ⟨h1, h2⟩
theorem Ed_more {on ot tk : Nat → Int32} {cl : Int32} {m m' a b t : Nat} (hm : m ≤ m') (h : Ed on ot tk cl m a b t) : Ed on ot tk cl m' a b t := by obtain ⟨e, h1, h2⟩ := h; exact ⟨e, by omega, h2⟩
theorem Ed_congr {on ot tk on' ot' tk' : Nat → Int32} {cl : Int32} {m : Nat} (h : ∀ e, e < m → on e = on' e ∧ ot e = ot' e ∧ tk e = tk' e) (a b t : Nat) : Ed on ot tk cl m a b t ↔ Ed on' ot' tk' cl m a b t := by
  constructor
  · rintro ⟨e, h1, h2⟩; obtain ⟨q1, q2, q3⟩ := h e h1; rw [q1, q2, q3] at h2; exact ⟨e, h1, h2⟩
  · rintro ⟨e, h1, h2⟩; obtain ⟨q1, q2, q3⟩ := h e h1; rw [← q1, ← q2, ← q3] at h2; exact ⟨e, h1, h2⟩
theorem opn_0 (e : Nat) : opn 0 e := by unfold opn; simp
/-- what holds while lanes are taken into the table -/
def tkI (E : Nat → Nat → Nat → Prop) (d : Nat → Nat → Nat) : Prop :=
  (∀ a b, a < 10 → b < 10 → d a b < FAR → Rch E a b (d a b)) ∧ (∀ m b t, E m b t → d m b ≤ t) ∧ (∀ a, a < 10 → d a a = 0) ∧ (∀ a b, a < 10 → b < 10 → d a b ≤ FAR) ∧ (∀ a b, d a b = d b a)
theorem tkI_fw {E : Nat → Nat → Nat → Prop} {d : Nat → Nat → Nat} (h : tkI E d) : fwI E 0 d := ⟨h.1, h.2.1, h.2.2.1, h.2.2.2.1, fun m a b hm => absurd hm (Nat.not_lt_zero m)⟩
theorem tkI_0 {on ot tk : Nat → Int32} {cl : Int32} : tkI (Ed on ot tk cl 0) (fun a b => if a = b then 0 else FAR) := by
  refine ⟨fun a b ha hb hl => ?_, fun m b t h => ?_, fun a ha => if_pos rfl, fun a b ha hb => ?_, fun a b => ?_⟩
  · by_cases e : a = b
    · subst e; show Rch _ a a (if a = a then 0 else FAR); rw [if_pos rfl]; exact Rch.rf
    · simp only [if_neg e] at hl; omega
  · obtain ⟨e, h1, -⟩ := h; omega
  · show (if a = b then 0 else FAR) ≤ FAR; split <;> omega
  · by_cases e : a = b
    · subst e; rfl
    · simp only [if_neg e, if_neg (fun q => e (Eq.symm q))]
def tkS (x y t : Nat) (d : Nat → Nat → Nat) (a b : Nat) : Nat := if (a = x ∧ b = y) ∨ (a = y ∧ b = x) then t else d a b
theorem Ed_succ {on ot tk : Nat → Int32} {cl : Int32} {m a b t : Nat} (h : Ed on ot tk cl (m + 1) a b t) : Ed on ot tk cl m a b t ∨ (opn cl m ∧ tk m = nI t ∧ t ≤ 30 ∧ ((on m = nI a ∧ ot m = nI b) ∨ (on m = nI b ∧ ot m = nI a)) ∧ a < 10 ∧ b < 10) := by
  obtain ⟨e, h1, h2, h3, h4, h5, h6, h7⟩ := h
  by_cases q : e = m
  · subst q; exact Or.inr ⟨h2, h3, h4, h7, h5, h6⟩
  · exact Or.inl ⟨e, by omega, h2, h3, h4, h5, h6, h7⟩
theorem nI_inj {a b : Nat} (ha : a < 2 ^ 31) (hb : b < 2 ^ 31) (h : nI a = nI b) : a = b := (nI_eq ha hb).mp h
/-- a lane that isn't better, or is closed -/
theorem tkI_no {on ot tk : Nat → Int32} {cl : Int32} {m x y t0 : Nat} {d : Nat → Nat → Nat} (h : tkI (Ed on ot tk cl m) d) (hx : on m = nI x) (hy : ot m = nI y) (ht : tk m = nI t0) (hx10 : x < 10) (hy10 : y < 10) (ht30 : t0 ≤ 30) (hno : opn cl m → d x y ≤ t0) : tkI (Ed on ot tk cl (m + 1)) d := by
  obtain ⟨h1, h2, h3, h4, h5⟩ := h
  refine ⟨fun a b ha hb hl => (h1 a b ha hb hl).mono (fun _ _ _ => Ed_more (Nat.le_succ m)), fun a b t e => ?_, h3, h4, h5⟩
  rcases Ed_succ e with e | ⟨e1, e2, e3, e4, e5, e6⟩
  · exact h2 a b t e
  · have ht' : t = t0 := nI_inj (by omega) (by omega) (e2.symm.trans ht)
    subst ht'
    rcases e4 with ⟨q1, q2⟩ | ⟨q1, q2⟩
    · have ea : a = x := nI_inj (by omega) (by omega) (q1.symm.trans hx)
      have eb : b = y := nI_inj (by omega) (by omega) (q2.symm.trans hy)
      subst ea; subst eb; exact hno e1
    · have eb : b = x := nI_inj (by omega) (by omega) (q1.symm.trans hx)
      have ea : a = y := nI_inj (by omega) (by omega) (q2.symm.trans hy)
      subst ea; subst eb; rw [h5]; exact hno e1
/-- a lane that is better -/
theorem tkI_yes {on ot tk : Nat → Int32} {cl : Int32} {m x y t0 : Nat} {d : Nat → Nat → Nat} (h : tkI (Ed on ot tk cl m) d) (hx : on m = nI x) (hy : ot m = nI y) (ht : tk m = nI t0) (hx10 : x < 10) (hy10 : y < 10) (ht30 : t0 ≤ 30) (hxy : x ≠ y) (ho : opn cl m) (hlt : t0 < d x y) : tkI (Ed on ot tk cl (m + 1)) (tkS x y t0 d) := by
  obtain ⟨h1, h2, h3, h4, h5⟩ := h
  have e0 : Ed on ot tk cl (m + 1) x y t0 := ⟨m, Nat.lt_succ_self m, ho, ht, ht30, hx10, hy10, Or.inl ⟨hx, hy⟩⟩
  have e1 : Ed on ot tk cl (m + 1) y x t0 := ⟨m, Nat.lt_succ_self m, ho, ht, ht30, hy10, hx10, Or.inr ⟨hx, hy⟩⟩
  refine ⟨fun a b ha hb hl => ?_, fun a b t e => ?_, fun a ha => ?_, fun a b ha hb => ?_, fun a b => ?_⟩
  · unfold tkS at hl ⊢
    by_cases q : (a = x ∧ b = y) ∨ (a = y ∧ b = x)
    · rw [if_pos q]
      rcases q with ⟨rfl, rfl⟩ | ⟨rfl, rfl⟩
      · have := Rch.rf.step e0; rwa [Nat.zero_add] at this
      · have := Rch.rf.step e1; rwa [Nat.zero_add] at this
    · rw [if_neg q] at hl ⊢
      exact (h1 a b ha hb hl).mono (fun _ _ _ => Ed_more (Nat.le_succ m))
  · unfold tkS
    rcases Ed_succ e with e | ⟨-, q2, q3, q4, -, -⟩
    · have := h2 a b t e
      split
      · rename_i q
        rcases q with ⟨rfl, rfl⟩ | ⟨rfl, rfl⟩
        · omega
        · rw [h5] at this; omega
      · exact this
    · have ht' : t = t0 := nI_inj (by omega) (by omega) (q2.symm.trans ht)
      subst ht'
      obtain ⟨ha, hb⟩ := Ed_in e
      rw [if_pos]
      · exact Nat.le_refl _
      · rcases q4 with ⟨g1, g2⟩ | ⟨g1, g2⟩
        · exact Or.inl ⟨nI_inj (by omega) (by omega) (g1.symm.trans hx), nI_inj (by omega) (by omega) (g2.symm.trans hy)⟩
        · exact Or.inr ⟨nI_inj (by omega) (by omega) (g2.symm.trans hy), nI_inj (by omega) (by omega) (g1.symm.trans hx)⟩
  · unfold tkS
    rw [if_neg]
    · exact h3 a ha
    · rintro (⟨rfl, h⟩ | ⟨rfl, h⟩)
      · exact hxy h
      · exact hxy h.symm
  · unfold tkS
    split
    · unfold FAR; omega
    · exact h4 a b ha hb
  · unfold tkS
    have : ((a = x ∧ b = y) ∨ (a = y ∧ b = x)) ↔ ((b = x ∧ a = y) ∨ (b = y ∧ a = x)) := by constructor <;> (rintro (⟨h, h'⟩ | ⟨h, h'⟩)) <;> first | exact Or.inr ⟨h', h⟩ | exact Or.inl ⟨h', h⟩
    by_cases q : (a = x ∧ b = y) ∨ (a = y ∧ b = x)
    · rw [if_pos q, if_pos (this.mp q)]
    · rw [if_neg q, if_neg (fun z => q (this.mpr z)), h5]
