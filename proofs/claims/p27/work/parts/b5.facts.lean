/-! fees and sets -/
section KF
variable {c : Nat → Nat} {i i' : Nat → Nat → Int32} {j : Nat → Nat → Int64} {p : Nat → Nat → Option Nat} {r r' : Nat → Nat → Int32} {M N : Nat}
/-- the permits of the opening of k, as bits -/
def togV (j : Nat → Nat → Int64) (p : Nat → Nat → Option Nat) (k : Nat) : Int64 := (p 2 k).elim 0 (j 1)
def froV (i : Nat → Nat → Int32) (p : Nat → Nat → Option Nat) (k : Nat) : Int32 := (p 2 k).elim (i 8 k) (i 3)
def endV (i : Nat → Nat → Int32) (p : Nat → Nat → Option Nat) (k : Nat) : Int32 := (p 2 k).elim (i 9 k) (i 4)
def feV (i : Nat → Nat → Int32) (j : Nat → Nat → Int64) (p : Nat → Nat → Option Nat) (k : Nat) : Int32 := match p 2 k with | none => 0 | some y => if i 11 k = 4 then 0 else shI (j 1 y) (i 3 y) (i 4 y) (i 5 k)
theorem bJ_big {x : Int64} {k : Nat} (h : 64 ≤ k) : bJ x k = false := BitVec.getLsbD_of_ge _ _ h
theorem bJ_false {x : Int64} {k : Nat} {P : Prop} (h : bJ x k = true ↔ P) (hn : ¬ P) : bJ x k = false := by
  cases hb : bJ x k with
  | false => rfl
  | true => exact absurd (h.mp hb) hn
theorem shr1 {x : Int64} {k : Nat} (hk : k < 64) : (x >>> ((nI k).toInt64 &&& 63)) &&& 1 = if bJ x k = true then 1 else 0 := by
  obtain ⟨n, hn, rfl⟩ := wb_of x
  apply bJ_ext
  intro b hb
  rw [bJ_and]
  have e1 : ∀ b, b < 64 → bJ 1 b = decide (b = 0) := by decide +kernel
  rw [e1 b hb]
  by_cases h0 : b = 0
  · subst h0
    have e2 : bJ (lN n >>> ((nI k).toInt64 &&& 63)) 0 = bJ (lN n) k := by
      unfold bJ
      rw [wb_c k hk, Int64.toBitVec_shiftRight]
      rw [show (lN k).toBitVec = BitVec.ofNat 64 k from rfl, wb_sm k hk]
      rw [BitVec.sshiftRight_eq', BitVec.getLsbD_sshiftRight]
      have hk2 : (BitVec.ofNat 64 k).toNat = k := by rw [BitVec.toNat_ofNat, Nat.mod_eq_of_lt (by omega)]
      rw [hk2]
      simp [hk]
    rw [e2]
    cases bJ (lN n) k <;> decide
  · rw [show decide (b = 0) = false from decide_eq_false h0, Bool.and_false]
    split
    · rw [e1 b hb, decide_eq_false h0]
    · rw [bJ_0]
theorem KN.tog (h : KN c i j p r M N) {k b : Nat} (hk : k < c 2) (hb : b < 64) : bJ (togV j p k) b = true ↔ b < c 2 ∧ p 2 k ≠ none ∧ p 2 b = p 2 k ∧ ¬ i 11 b = 4 := by
  obtain ⟨-, -, -, -, -, q6, -⟩ := h.pm k hk
  unfold togV
  rcases q6 with ⟨-, q, -⟩ | ⟨-, -, o, q1, q2, -⟩
  · rw [q]
    show bJ 0 b = true ↔ _
    rw [bJ_0]
    exact ⟨fun z => absurd z (by decide), fun z => absurd rfl z.2.1⟩
  · rw [q2]
    show bJ (j 1 o) b = true ↔ _
    rw [(h.op o q1).2.1 b hb]
    exact ⟨fun z => ⟨z.1, by simp, z.2⟩, fun z => ⟨z.1, z.2.2⟩⟩
/-- what is known of two permits of one opening -/
theorem KN.mates (h : KN c i j p r M N) {k b : Nat} (hk : k < c 2) (hb : b < 64) (hbit : bJ (togV j p k) b = true) : b < c 2 ∧ i 7 b = i 7 k ∧ froV i p b = froV i p k ∧ endV i p b = endV i p k ∧ togV j p b = togV j p k ∧ (b ≠ k → i 10 b = 0 ∧ i 10 k = 0) := by
  obtain ⟨h1, h2, h3, h4⟩ := (h.tog hk hb).mp hbit
  obtain ⟨-, -, -, -, -, q6, -⟩ := h.pm k hk
  obtain ⟨-, -, -, -, -, y6, -⟩ := h.pm b h1
  rcases q6 with ⟨-, q, -⟩ | ⟨-, -, o, q1, q2, q3⟩
  · exact absurd q h2
  · rcases y6 with ⟨-, y, -⟩ | ⟨-, -, o', y1, y2, y3⟩
    · rw [h3] at y; exact absurd y h2
    · have eo : o' = o := by
        rw [h3, q2] at y2
        exact (Option.some.inj y2).symm
      subst eo
      unfold froV endV togV
      rw [y2, q2]
      exact ⟨h1, y3.symm.trans q3, rfl, rfl, rfl, fun hne => ⟨(h.op o' q1).2.2.2 b k h1 hk y2 q2 hne, (h.op o' q1).2.2.2 k b hk h1 q2 y2 (fun z => hne z.symm)⟩⟩
theorem KN.span (h : KN c i j p r M N) {k : Nat} (hk : k < c 2) : ∃ f e : Nat, froV i p k = nI f ∧ endV i p k = nI e ∧ f < e ∧ e ≤ f + 40 ∧ e ≤ 4940 := by
  obtain ⟨-, -, -, -, -, q6, -, q8, -⟩ := h.pm k hk
  unfold froV endV
  rcases q6 with ⟨-, q, -⟩ | ⟨-, -, o, q1, q2, q3⟩
  · rw [q]; exact q8
  · rw [q2]; exact (h.op o q1).1
/-- the due of the opening of k, and how many share it -/
theorem KN.fee (h : KN c i j p r M N) {k : Nat} (hk : k < c 2) {f e : Nat} (hf : froV i p k = nI f) (he : endV i p k = nI e) (hfe : f < e) (he40 : e ≤ f + 40) (he5 : e ≤ 4940) (hs : ¬ togV j p k = 0) : ∃ n, 0 < n ∧ n ≤ 40 ∧ fb_ct (bJ (togV j p k)) (c 2) = n ∧ ∀ b, b < c 2 → bJ (togV j p k) b = true → feV i j p b = nI ((1000 + 100 * (e - f)) / n + (if fb_ct (bJ (togV j p k)) b = 0 then (1000 + 100 * (e - f)) % n else 0)) := by
  have hB := h.b
  have hn0 : ∃ b, b < c 2 ∧ bJ (togV j p k) b = true := by
    apply Classical.byContradiction
    intro z
    apply hs
    apply bJ_eq
    intro b hb
    rw [bJ_0]
    constructor
    · intro y
      exact absurd ⟨b, ((h.tog hk hb).mp y).1, y⟩ z
    · intro y; exact absurd y (by decide)
  refine ⟨fb_ct (bJ (togV j p k)) (c 2), fb_ct_pos.mpr hn0, Nat.le_trans (fb_ct_le _ _) hB.2.1, rfl, fun b hb hbit => ?_⟩
  have hpos := fb_ct_pos.mpr hn0
  have hle := fb_ct_le (bJ (togV j p k)) (c 2)
  have hall : fb_ct (bJ (togV j p k)) 64 = fb_ct (bJ (togV j p k)) (c 2) := by
    rw [show (64 : Nat) = c 2 + (64 - c 2) by omega, fb_ct_split]
    rw [fb_ct_zero.mpr (fun q hq => bJ_false (h.tog hk (b := c 2 + q) (by omega)) (fun z => by omega))]
    rfl
  obtain ⟨-, m2, m3, m4, m5, -⟩ := h.mates hk (by omega) hbit
  obtain ⟨-, t2, t3, t4⟩ := (h.tog hk (by omega)).mp hbit
  obtain ⟨b5, -, -, -, -, y6, -⟩ := h.pm b hb
  rcases y6 with ⟨-, y, -⟩ | ⟨-, -, o', y1, y2, y3⟩
  · rw [t3] at y; exact absurd y t2
  · have ej : j 1 o' = togV j p k := by rw [← m5]; unfold togV; rw [y2]; rfl
    have e3 : i 3 o' = nI f := by rw [← hf, ← m3]; unfold froV; rw [y2]; rfl
    have e4 : i 4 o' = nI e := by rw [← he, ← m4]; unfold endV; rw [y2]; rfl
    unfold feV
    rw [y2]
    show (if i 11 b = 4 then (0 : Int32) else shI (j 1 o') (i 3 o') (i 4 o') (i 5 b)) = _
    rw [if_neg t4, ej, e3, e4, b5]
    generalize togV j p k = x at *
    generalize hn : fb_ct (bJ x) (c 2) = n at *
    have hD : (1000 : Int32) + 100 * (nI e - nI f) = nI (1000 + 100 * (e - f)) := by
      rw [pk_sub (by omega), show (100 : Int32) = nI 100 from rfl, pk_mul, show (1000 : Int32) = nI 1000 from rfl, nI_add]
    have hbc : bcJ x = nI n := by rw [bcJ_ct, hall]
    generalize hDD : 1000 + 100 * (e - f) = D at *
    have hD5 : D ≤ 5000 := by omega
    unfold shI
    rw [hD, hbc, if_neg (nI_ne0 hpos (by omega)), pk_div (by omega) hpos (by omega), pk_mul, pk_sub (Nat.div_mul_le_self D n)]
    have er : D - D / n * n = D % n := by
      have := Nat.div_add_mod D n
      rw [Nat.mul_comm] at this
      omega
    have hl := low_bit (x := x) (k := b) (by omega) hbit
    have hz : fb_ct (bJ x) b = 0 ↔ ∀ q, q < b → bJ x q = false := fb_ct_zero
    by_cases q : ∀ q, q < b → bJ x q = false
    · rw [if_pos (hl.mpr q), if_pos (hz.mpr q), er, nI_add]
    · rw [if_neg (fun z => q (hl.mp z)), if_neg (fun z => q (hz.mp z)), Nat.add_zero]
      exact Int32.add_zero _
/-- the sum of the fees up to q -/
def feS (x : Int64) (D n : Nat) (q : Nat) : Nat := fb_ct (bJ x) q * (D / n) + (if fb_ct (bJ x) q = 0 then 0 else D % n)
theorem feS_0 {x : Int64} {D n : Nat} : feS x D n 0 = 0 := by
  unfold feS
  rw [show fb_ct (bJ x) 0 = 0 from rfl]
  simp
theorem feS_t {x : Int64} {D n q : Nat} (h : bJ x q = true) : feS x D n (q + 1) = feS x D n q + (D / n + (if fb_ct (bJ x) q = 0 then D % n else 0)) := by
  unfold feS
  rw [fb_ct_succ, if_pos h, if_neg (Nat.succ_ne_zero _), Nat.add_mul, Nat.one_mul]
  split
  · rename_i g; rw [g]; simp
  · omega
theorem feS_f {x : Int64} {D n q : Nat} (h : ¬ bJ x q = true) : feS x D n (q + 1) = feS x D n q := by
  unfold feS
  rw [fb_ct_succ, if_neg h, Nat.add_zero]
theorem feS_end {x : Int64} {D n q : Nat} (hn : fb_ct (bJ x) q = n) (h0 : 0 < n) : feS x D n q = D := by
  unfold feS
  rw [hn, if_neg (by omega)]
  exact Nat.div_add_mod D n
theorem KN.fee0 (h : KN c i j p r M N) {k : Nat} (hk : k < c 2) (hs : i 11 k = 1 ∨ i 11 k = 4) : feV i j p k = 0 := by
  obtain ⟨-, -, -, -, -, q6, -⟩ := h.pm k hk
  unfold feV
  rcases q6 with ⟨-, q, -⟩ | ⟨g, -, o, q1, q2, q3⟩
  · rw [q]
  · rw [q2]
    exact if_pos (hs.elim (fun z => absurd z g) id)
theorem KN.feeP (h : KN c i j p r M N) {k : Nat} (hk : k < c 2) (h1 : ¬ i 11 k = 1) (h4 : ¬ i 11 k = 4) : 0 < feV i j p k := by
  have hB := h.b
  obtain ⟨f, e, s1, s2, s3, s4, s5⟩ := h.span hk
  have hp : p 2 k ≠ none := by
    obtain ⟨-, -, -, -, -, q6, -⟩ := h.pm k hk
    rcases q6 with ⟨q, -⟩ | ⟨-, -, o, -, q2, -⟩
    · exact absurd q h1
    · rw [q2]; simp
  have hbit : bJ (togV j p k) k = true := (h.tog hk (by omega)).mpr ⟨hk, hp, rfl, h4⟩
  have hs : ¬ togV j p k = 0 := fun z => by rw [z, bJ_0] at hbit; exact absurd hbit (by decide)
  obtain ⟨n, n1, n2, -, n4⟩ := h.fee hk s1 s2 s3 s4 s5 hs
  rw [n4 k hk hbit, show (0 : Int32) = nI 0 from rfl]
  have hd : 1 ≤ (1000 + 100 * (e - f)) / n := (Nat.le_div_iff_mul_le n1).mpr (by omega)
  have hu : (1000 + 100 * (e - f)) / n ≤ 5000 := Nat.le_trans (Nat.div_le_self _ _) (by omega)
  have hm : (1000 + 100 * (e - f)) % n ≤ 40 := by have := Nat.mod_lt (1000 + 100 * (e - f)) n1; omega
  refine (nI_ltI (by decide) ?_).mpr ?_
  · split <;> omega
  · split <;> omega
theorem KN.st5 (h : KN c i j p r M N) {k : Nat} (hk : k < c 2) : ∃ s, s < 5 ∧ i 11 k = nI s := by
  obtain ⟨-, -, -, -, -, -, gB, -⟩ := h.pm k hk
  rcases gB with ⟨g, -⟩ | ⟨g, -⟩ | ⟨g, -⟩
  · rcases g with g | g | g
    · exact ⟨0, by decide, g⟩
    · exact ⟨1, by decide, g⟩
    · exact ⟨4, by decide, g⟩
  · exact ⟨2, by decide, g⟩
  · exact ⟨3, by decide, g⟩
theorem KN.ca (h : KN c i j p r M N) {k : Nat} (hk : k < c 2) : (i 12 k = -1 ↔ ¬ i 11 k = 1) ∧ i 12 k < 4 := by
  obtain ⟨-, -, -, -, -, q6, -⟩ := h.pm k hk
  rcases q6 with ⟨q, -, w, q2, q3⟩ | ⟨g, q1, -⟩
  · rw [q, q3]
    exact ⟨⟨fun z => absurd z.symm (nI_nm1 (by omega)), fun z => absurd rfl z⟩, (nI_ltI (by omega) (by decide : 4 < 2 ^ 31)).mpr q2⟩
  · rw [q1]
    exact ⟨⟨fun _ => g, fun _ => rfl⟩, by decide⟩
theorem KN.tog_self (h : KN c i j p r M N) {k : Nat} (hk : k < c 2) : bJ (togV j p k) k = true ↔ (¬ i 11 k = 1 ∧ ¬ i 11 k = 4) := by
  have hB := h.b
  rw [h.tog hk (by omega)]
  obtain ⟨-, -, -, -, -, q6, -⟩ := h.pm k hk
  rcases q6 with ⟨q, q', -⟩ | ⟨g, -, o, -, q2, -⟩
  · rw [q']
    exact ⟨fun z => absurd rfl z.2.1, fun z => absurd q z.1⟩
  · rw [q2]
    exact ⟨fun z => ⟨g, z.2.2.2⟩, fun z => ⟨hk, by simp, rfl, z.2⟩⟩
theorem KN.tog_ref (h : KN c i j p r M N) {k : Nat} (hk : k < c 2) (h1 : i 11 k = 1) : togV j p k = 0 := by
  obtain ⟨-, -, -, -, -, q6, -⟩ := h.pm k hk
  unfold togV
  rcases q6 with ⟨-, q', -⟩ | ⟨g, -⟩
  · rw [q']; rfl
  · exact absurd h1 g
/-! sets that begin in a season -/
/-- the opening y counts -/
def lnP (i : Nat → Nat → Int32) (j : Nat → Nat → Int64) (ln se : Int32) (y : Nat) : Prop := i 2 y = ln ∧ ¬ j 1 y = 0 ∧ i 3 y / 500 = se
def lnD (p : Nat → Nat → Option Nat) (q y : Nat) : Prop := ∃ k, k < q ∧ p 2 k = some y
/-- what is seen and counted of the first q permits -/
def LNq (c : Nat → Nat) (i : Nat → Nat → Int32) (j : Nat → Nat → Int64) (p : Nat → Nat → Option Nat) (ln se : Int32) (q : Nat) (seen : Int64) (n : Int32) : Prop :=
  n = nI (nct (fun y => lnP i j ln se y ∧ lnD p q y) (c 1)) ∧ ∀ b, b < 64 → (bJ seen b = true ↔ ∃ y, y < c 1 ∧ lnP i j ln se y ∧ lnD p q y ∧ bJ (j 1 y) b = true)
theorem nct_add {P Q : Nat → Prop} {n y : Nat} (hy : y < n) (hP : ¬ P y) (hQ : Q y) (h : ∀ k, k ≠ y → (P k ↔ Q k)) : nct Q n = nct P n + 1 := by
  induction n with
  | zero => omega
  | succ n ih =>
    by_cases e : n = y
    · subst e
      rw [nct_t hQ, nct_f hP, nct_congr (fun k hk => (h k (by omega)).symm)]
    · have ih := ih (by omega)
      by_cases g : P n
      · rw [nct_t g, nct_t ((h n e).mp g), ih]
      · rw [nct_f g, nct_f (fun z => g ((h n e).mpr z)), ih]
theorem LNq_0 {ln se : Int32} : LNq c i j p ln se 0 0 0 := by
  refine ⟨?_, fun b _ => ?_⟩
  · have e : nct (fun y => lnP i j ln se y ∧ lnD p 0 y) (c 1) = 0 := by
      apply Classical.byContradiction
      intro z
      obtain ⟨k, -, -, q, hq, -⟩ := nct_pos.mp (Nat.pos_of_ne_zero z)
      omega
    rw [e]; rfl
  · rw [bJ_0]
    exact ⟨fun z => absurd z (by decide), fun ⟨_, _, _, ⟨q, hq, _⟩, _⟩ => by omega⟩
theorem LNq_same {ln se : Int32} {q : Nat} {seen : Int64} {n : Int32} (h : LNq c i j p ln se q seen n) (hs : ∀ y, y < c 1 → lnP i j ln se y → p 2 q = some y → lnD p q y) : LNq c i j p ln se (q + 1) seen n := by
  have e : ∀ y, y < c 1 → (lnP i j ln se y ∧ lnD p (q + 1) y ↔ lnP i j ln se y ∧ lnD p q y) := by
    intro y hy
    constructor
    · rintro ⟨h1, k, hk, h2⟩
      refine ⟨h1, ?_⟩
      by_cases z : k = q
      · rw [z] at h2; exact hs y hy h1 h2
      · exact ⟨k, by omega, h2⟩
    · rintro ⟨h1, k, hk, h2⟩
      exact ⟨h1, k, by omega, h2⟩
  refine ⟨?_, fun b hb => ?_⟩
  · rw [h.1, nct_congr (fun y hy => (e y hy).symm)]
  · rw [h.2 b hb]
    constructor
    · rintro ⟨y, h1, h2, h3, h4⟩
      have := (e y h1).mpr ⟨h2, h3⟩
      exact ⟨y, h1, this.1, this.2, h4⟩
    · rintro ⟨y, h1, h2, h3, h4⟩
      have := (e y h1).mp ⟨h2, h3⟩
      exact ⟨y, h1, this.1, this.2, h4⟩
/-- the set that the law looks at -/
def lnS (i : Nat → Nat → Int32) (j : Nat → Nat → Int64) (p : Nat → Nat → Option Nat) (ln : Int32) (q : Nat) : Int64 := if i 7 q = ln then togV j p q else 0
theorem KN.ln_step (h : KN c i j p r M N) {ln se : Int32} {q : Nat} (hq : q < c 2) {seen : Int64} {n : Int32} (hL : LNq c i j p ln se q seen n) : ((¬ lnS i j p ln q = 0 ∧ seen &&& lnS i j p ln q = 0 ∧ froV i p q / 500 = se) → LNq c i j p ln se (q + 1) (seen ||| lnS i j p ln q) (n + 1)) ∧ (¬ (¬ lnS i j p ln q = 0 ∧ seen &&& lnS i j p ln q = 0 ∧ froV i p q / 500 = se) → LNq c i j p ln se (q + 1) seen n) := by
  have hB := h.b
  obtain ⟨-, -, -, -, -, q6, -⟩ := h.pm q hq
  rcases q6 with ⟨-, q2, -⟩ | ⟨-, -, o, q1, q2, q3⟩
  · have e0 : lnS i j p ln q = 0 := by
      unfold lnS togV
      rw [q2]
      exact ite_self _
    refine ⟨fun z => absurd e0 z.1, fun _ => LNq_same hL (fun y _ _ z => ?_)⟩
    rw [q2] at z; cases z
  · have ef : froV i p q = i 3 o := by unfold froV; rw [q2]; rfl
    have et : togV j p q = j 1 o := by unfold togV; rw [q2]; rfl
    have inj : ∀ y, p 2 q = some y → y = o := fun y hy => by rw [q2] at hy; exact (Option.some.inj hy).symm
    constructor
    · rintro ⟨z1, z2, z3⟩
      have hl : i 7 q = ln := by
        apply Classical.byContradiction
        intro y
        exact z1 (if_neg y)
      have es : lnS i j p ln q = j 1 o := by unfold lnS; rw [if_pos hl, et]
      rw [es] at z1 z2 ⊢
      rw [ef] at z3
      have hP : lnP i j ln se o := ⟨q3.trans hl, z1, z3⟩
      have hD : ¬ lnD p q o := by
        intro y
        apply z1
        apply bJ_eq
        intro b hb
        rw [bJ_0]
        constructor
        · intro g
          have g2 := (hL.2 b hb).mpr ⟨o, q1, hP, y, g⟩
          have g3 : bJ (seen &&& j 1 o) b = true := by rw [bJ_and, g2, g]; rfl
          rw [z2, bJ_0] at g3
          exact g3
        · intro g; exact absurd g (by decide)
      refine ⟨?_, fun b hb => ?_⟩
      · rw [hL.1, nI_1]
        congr 1
        refine (nct_add q1 (fun y => hD y.2) ⟨hP, q, by omega, q2⟩ (fun k hk => ?_)).symm
        apply and_congr Iff.rfl
        constructor
        · rintro ⟨x, x1, x2⟩; exact ⟨x, by omega, x2⟩
        · rintro ⟨x, x1, x2⟩
          by_cases e : x = q
          · rw [e] at x2; exact absurd (inj k x2) hk
          · exact ⟨x, by omega, x2⟩
      · rw [bJ_or, Bool.or_eq_true, hL.2 b hb]
        constructor
        · rintro (⟨y, y1, y2, ⟨x, x1, x2⟩, y4⟩ | g)
          · exact ⟨y, y1, y2, ⟨x, by omega, x2⟩, y4⟩
          · exact ⟨o, q1, hP, ⟨q, by omega, q2⟩, g⟩
        · rintro ⟨y, y1, y2, ⟨x, x1, x2⟩, y4⟩
          by_cases e : x = q
          · rw [e] at x2
            rw [inj y x2] at y4
            exact Or.inr y4
          · exact Or.inl ⟨y, y1, y2, ⟨x, by omega, x2⟩, y4⟩
    · intro z
      refine LNq_same hL (fun y hy hP hpy => ?_)
      have e := inj y hpy
      subst e
      apply Classical.byContradiction
      intro hD
      apply z
      have hl : i 7 q = ln := q3.symm.trans hP.1
      have es : lnS i j p ln q = j 1 y := by unfold lnS; rw [if_pos hl, et]
      rw [es, ef]
      refine ⟨hP.2.1, ?_, hP.2.2⟩
      apply bJ_eq
      intro b hb
      rw [bJ_0, bJ_and, Bool.and_eq_true]
      constructor
      · rintro ⟨g1, g2⟩
        obtain ⟨y', y1, y2, ⟨x, x1, x2⟩, y4⟩ := (hL.2 b hb).mp g1
        have w1 := ((h.op y' y1).2.1 b hb).mp y4
        have w2 := ((h.op y q1).2.1 b hb).mp g2
        have : y' = y := Option.some.inj (w1.2.1.symm.trans w2.2.1)
        subst this
        exact absurd ⟨x, x1, x2⟩ hD
      · intro g; exact absurd g (by decide)
theorem KN.ln_end (h : KN c i j p r M N) {ln se : Int32} {seen : Int64} {n : Int32} (hL : LNq c i j p ln se (c 2) seen n) : cntI (fun y => none ≠ some y ∧ i 2 y = ln ∧ ¬ j 1 y = 0 ∧ i 3 y / 500 = se) (c 1) = n := by
  rw [hL.1, cntI_nct]
  congr 1
  apply nct_congr
  intro y hy
  unfold lnP lnD
  constructor
  · rintro ⟨-, z⟩; exact ⟨z, (h.op y hy).2.2.1⟩
  · rintro ⟨z, -⟩; exact ⟨by simp, z⟩
end KF
