/-! what holds of an office, by its numbers alone -/
def RB (bg fi st : Int32) (N : Nat) : Prop := ((st = 0 ∨ st = 1 ∨ st = 4) ∧ bg = -1 ∧ fi = -1) ∨ (st = 2 ∧ ∃ b, b ≤ N ∧ bg = nI b ∧ fi = -1) ∨ (st = 3 ∧ ∃ b f, b ≤ f ∧ f ≤ N ∧ bg = nI b ∧ fi = nI f)
noncomputable def SHR (i r : Nat → Nat → Int32) (M l n2 : Nat) : Nat → Int64
  | 0 => 0
  | h + 1 => SHR i r M l n2 h + (exL i r (cdM i (nI h) n2) M l).toInt64
def RMa (c : Nat → Nat) (i : Nat → Nat → Int32) (j : Nat → Nat → Int64) (r : Nat → Nat → Int32) (M N : Nat) : Prop := ∀ l, l < c 0 → j 0 l = (i 1 l).toInt64 * SHR i r M l (c 2) N
/-- the numbers -/
def KNn (c : Nat → Nat) (i : Nat → Nat → Int32) (M N : Nat) : Prop := i 15 0 = nI M ∧ M ≤ 24 ∧ c 0 ≤ 6 ∧ c 2 ≤ 40 ∧ c 1 ≤ c 2 ∧ N ≤ 5000 ∧ i 18 0 = nI N
/-- the lanes -/
def KLn (r : Nat → Nat → Int32) (M : Nat) : Prop := ∀ e, e < M → ∃ x y t : Nat, r 0 e = nI x ∧ r 1 e = nI y ∧ r 2 e = nI t ∧ x < 10 ∧ y < 10 ∧ x ≠ y ∧ 1 ≤ t ∧ t ≤ 30
/-- a line -/
def KL1 (i : Nat → Nat → Int32) (r : Nat → Nat → Int32) (M l : Nat) : Prop :=
  ∃ n, n < 6 ∧ i 0 l = nI (n + 1) ∧ (∀ k, k < n + 1 → ∃ b, b < 10 ∧ r (24 + l) k = nI b) ∧ ∀ k, k < n → dst (Ed (r 0) (r 1) (r 2) 0 M) (tn (r (24 + l) k)) (tn (r (24 + l) (k + 1))) < FAR
/-- a permit -/
def KP1 (c : Nat → Nat) (i : Nat → Nat → Int32) (p : Nat → Nat → Option Nat) (M N k : Nat) : Prop :=
  i 5 k = nI k ∧ (∃ a, a < 6 ∧ i 6 k = nI a) ∧ (∃ e, e < M ∧ i 7 k = nI e) ∧ (i 10 k = 0 ∨ i 10 k = 1) ∧
  (p 1 k = none ∨ ∃ z, z < k ∧ p 1 k = some z) ∧
  ((i 11 k = 1 ∧ p 2 k = none ∧ ∃ w, w < 4 ∧ i 12 k = nI w) ∨ (¬ i 11 k = 1 ∧ i 12 k = -1 ∧ ∃ o, o < c 1 ∧ p 2 k = some o ∧ i 2 o = i 7 k)) ∧
  RB (i 13 k) (i 14 k) (i 11 k) N ∧
  (∃ f e : Nat, i 8 k = nI f ∧ i 9 k = nI e ∧ f < e ∧ e ≤ f + 40 ∧ e ≤ 4940) ∧
  (∀ z, p 1 k = some z → (i 11 z = 4 → i 11 k = 4 ∨ i 11 k = 1) ∧ (i 11 k = 2 ∨ i 11 k = 3 → i 11 z = 3))
/-- an opening -/
def KO1 (c : Nat → Nat) (i : Nat → Nat → Int32) (j : Nat → Nat → Int64) (p : Nat → Nat → Option Nat) (o : Nat) : Prop :=
  (∃ f e : Nat, i 3 o = nI f ∧ i 4 o = nI e ∧ f < e ∧ e ≤ f + 40 ∧ e ≤ 4940) ∧
  (∀ b, b < 64 → (bJ (j 1 o) b = true ↔ b < c 2 ∧ p 2 b = some o ∧ ¬ i 11 b = 4)) ∧
  (∃ k, k < c 2 ∧ p 2 k = some o) ∧
  ∀ k k', k < c 2 → k' < c 2 → p 2 k = some o → p 2 k' = some o → k ≠ k' → i 10 k = 0
def KN (c : Nat → Nat) (i : Nat → Nat → Int32) (j : Nat → Nat → Int64) (p : Nat → Nat → Option Nat) (r : Nat → Nat → Int32) (M N : Nat) : Prop :=
  KNn c i M N ∧ KLn r M ∧ (∀ l, l < c 0 → KL1 i r M l) ∧ (∀ k, k < c 2 → KP1 c i p M N k) ∧ (∀ o, o < c 1 → KO1 c i j p o) ∧ RMa c i j r M N ∧ WV i r M
section KL
variable {c c' : Nat → Nat} {i i' : Nat → Nat → Int32} {j j' : Nat → Nat → Int64} {p p' : Nat → Nat → Option Nat} {r r' R : Nat → Nat → Int32} {M N : Nat}
theorem KN.b (h : KN c i j p r M N) : c 0 ≤ 6 ∧ c 2 ≤ 40 ∧ c 1 ≤ c 2 ∧ M ≤ 24 ∧ N ≤ 5000 := ⟨h.1.2.2.1, h.1.2.2.2.1, h.1.2.2.2.2.1, h.1.2.1, h.1.2.2.2.2.2.1⟩
theorem KN.m (h : KN c i j p r M N) : i 15 0 = nI M := h.1.1
theorem KN.now (h : KN c i j p r M N) : i 18 0 = nI N := h.1.2.2.2.2.2.2
theorem KN.ln (h : KN c i j p r M N) : KLn r M := h.2.1
theorem KN.li (h : KN c i j p r M N) : ∀ l, l < c 0 → KL1 i r M l := h.2.2.1
theorem KN.pm (h : KN c i j p r M N) : ∀ k, k < c 2 → KP1 c i p M N k := h.2.2.2.1
theorem KN.op (h : KN c i j p r M N) : ∀ o, o < c 1 → KO1 c i j p o := h.2.2.2.2.1
theorem KN.ma (h : KN c i j p r M N) : RMa c i j r M N := h.2.2.2.2.2.1
theorem KN.wv (h : KN c i j p r M N) : WV i r M := h.2.2.2.2.2.2
theorem KLn.lns (h : KLn r M) : LNS r M := by
  intro e he
  obtain ⟨x, y, t, h1, h2, h3, h4, h5, h6, h7, h8⟩ := h e he
  exact ⟨x, y, t, h1, h2, h3, h4, h5, h6, h8⟩
theorem KN.lns (h : KN c i j p r M N) : LNS r M := h.ln.lns
theorem KN.lii (h : KN c i j p r M N) : LI i r (c 0) := by
  intro l hl
  obtain ⟨n, h1, h2, h3, -⟩ := h.li l hl
  refine ⟨n, h1, h2, fun k hk => ?_⟩
  obtain ⟨b, g2, g3⟩ := h3 k hk
  rw [g3, tn_nI (by omega)]
  exact ⟨rfl, g2⟩
theorem KN.cap (h : KN c i j p r M N) : ∀ k, k < c 2 → ∃ a, a < 6 ∧ i 6 k = nI a := fun k hk => (h.pm k hk).2.1
theorem KN.lane (h : KN c i j p r M N) : ∀ k, k < c 2 → ∃ x, x < 32 ∧ i 7 k = nI x := by
  intro k hk
  have hb := h.b
  obtain ⟨-, -, ⟨e, g1, g2⟩, -⟩ := h.pm k hk
  exact ⟨e, by omega, g2⟩
theorem Ed_sub {on ot tk : Nat → Int32} {cl : Int32} {m : Nat} : ∀ a b t, Ed on ot tk cl m a b t → Ed on ot tk 0 m a b t := by
  rintro a b t ⟨e, h1, h2, h3⟩
  exact ⟨e, h1, opn_0 e, h3⟩
theorem sumI_congr {f g : Nat → Int32} {n : Nat} (h : ∀ k, k < n → f k = g k) : sumI f n = sumI g n := by
  induction n with
  | zero => rfl
  | succ n ih => rw [sumI_s, sumI_s, ih (fun k hk => h k (by omega)), h n (by omega)]
theorem sumI_0 {f : Nat → Int32} {n : Nat} (h : ∀ k, k < n → f k = 0) : sumI f n = 0 := by
  induction n with
  | zero => rfl
  | succ n ih => rw [sumI_s, ih (fun k hk => h k (by omega)), h n (by omega)]; rfl
theorem FAR_nI : nI FAR = 1000000 := rfl
theorem nI_far {d : Nat} (h : d < FAR) : ¬ nI d = 1000000 := fun e => by
  have := nI_inj (a := d) (b := FAR) (by unfold FAR at h; omega) (by decide) e
  omega
theorem bt_iff {x : Int32} {e : Nat} {P : Prop} (h : bt x e = true ↔ P) : bt x e = false ↔ ¬ P := by
  rw [← h]
  cases bt x e <;> simp
theorem bJ_eq {x y : Int64} (h : ∀ b, b < 64 → (bJ x b = true ↔ bJ y b = true)) : x = y := by
  apply bJ_ext
  intro b hb
  have := h b hb
  cases hx : bJ x b <;> cases hy : bJ y b <;> simp_all
theorem bt_eq {x y : Int32} (h : ∀ b, b < 32 → (bt x b = true ↔ bt y b = true)) : x = y := by
  apply b_ext
  intro b hb
  have := h b hb
  cases hx : bt x b <;> cases hy : bt y b <;> simp_all
theorem I_add {x y : Int32} (h1 : -1000000000 ≤ x.toInt) (h2 : x.toInt ≤ 1000000000) (h3 : -1000000000 ≤ y.toInt) (h4 : y.toInt ≤ 1000000000) : (x + y).toInt = x.toInt + y.toInt := by
  rw [Int32.toInt_add]
  unfold Int.bmod
  simp only []
  split <;> omega
theorem I_sub {x y : Int32} (h1 : -1000000000 ≤ x.toInt) (h2 : x.toInt ≤ 1000000000) (h3 : -1000000000 ≤ y.toInt) (h4 : y.toInt ≤ 1000000000) : (x - y).toInt = x.toInt - y.toInt := by
  rw [Int32.toInt_sub]
  unfold Int.bmod
  simp only []
  split <;> omega
theorem L_sub {x y : Int64} (h1 : -1000000000 ≤ x.toInt) (h2 : x.toInt ≤ 1000000000) (h3 : -1000000000 ≤ y.toInt) (h4 : y.toInt ≤ 1000000000) : (x - y).toInt = x.toInt - y.toInt := by
  rw [Int64.toInt_sub]
  unfold Int.bmod
  simp only []
  split <;> omega
def sml (n : Int) (x : Int32) : Prop := -n ≤ x.toInt ∧ x.toInt ≤ n
theorem sml_leg {E0 Ec : Nat → Nat → Nat → Prop} {a b : Nat} : sml 1000001 (legI E0 Ec a b) := by
  have hw : ∀ E, -1 ≤ (wy E a b).toInt ∧ (wy E a b).toInt ≤ 1000000 := by
    intro E
    unfold wy
    by_cases h : dst E a b < FAR
    · rw [if_pos h, nI_toInt (by unfold FAR at h; omega)]
      unfold FAR at h
      omega
    · rw [if_neg h]
      decide
  unfold sml legI
  by_cases h : wy Ec a b = -1
  · rw [if_pos h]; decide
  · rw [if_neg h]
    have h1 := hw Ec
    have h2 := hw E0
    rw [I_sub (by omega) (by omega) (by omega) (by omega)]
    omega
theorem sml_sum {f : Nat → Int32} (h : ∀ k, sml 1000001 (f k)) (n : Nat) (hn : n ≤ 6) : sml (1000001 * n) (sumI f n) := by
  induction n with
  | zero =>
    have e : (sumI f 0).toInt = 0 := rfl
    unfold sml
    omega
  | succ n ih =>
    have ih := ih (by omega)
    have h1 := h n
    unfold sml at *
    rw [sumI_s, I_add (by omega) (by omega) (by omega) (by omega)]
    omega
theorem sml_exL {i r : Nat → Nat → Int32} {cl : Int32} {M l n : Nat} (h : i 0 l = nI (n + 1)) (hn : n < 6) : sml 6000006 (exL i r cl M l) := by
  unfold exL exM
  rw [h, tn_nI (by omega), Nat.add_sub_cancel]
  have := sml_sum (f := exF r l cl M) (fun k => sml_leg) n (by omega)
  unfold sml at *
  omega
theorem w64_sub {x y : Int32} (hx : sml 6000006 x) (hy : sml 6000006 y) : (x - y).toInt64 = x.toInt64 - y.toInt64 := by
  unfold sml at *
  apply Int64.toInt_inj.mp
  rw [Int32.toInt_toInt64, I_sub (by omega) (by omega) (by omega) (by omega), L_sub (by rw [Int32.toInt_toInt64]; omega) (by rw [Int32.toInt_toInt64]; omega) (by rw [Int32.toInt_toInt64]; omega) (by rw [Int32.toInt_toInt64]; omega), Int32.toInt_toInt64, Int32.toInt_toInt64]
theorem pos_sub {x y : Int32} (hx : sml 6000006 x) (hy : sml 6000006 y) : 0 < x - y ↔ y < x := by
  unfold sml at *
  rw [Int32.lt_iff_toInt_lt, Int32.lt_iff_toInt_lt, I_sub (by omega) (by omega) (by omega) (by omega), show (0 : Int32).toInt = 0 from rfl]
  omega
theorem orM_congr {P Q : Nat → Prop} [DecidablePred P] [DecidablePred Q] {ln : Nat → Int32} {n : Nat} (h : ∀ k, k < n → (P k ↔ Q k)) : orM P ln n = orM Q ln n := by
  induction n with
  | zero => rfl
  | succ n ih =>
    have ih := ih (fun k hk => h k (by omega))
    by_cases g : P n
    · rw [orM_t g, orM_t ((h n (by omega)).mp g), ih]
    · rw [orM_f g, orM_f (fun z => g ((h n (by omega)).mpr z)), ih]
theorem SHR_congr {r' : Nat → Nat → Int32} {M' l n2 n2' : Nat} {H : Nat} (h : ∀ x, x < H → exL i' r' (cdM i' (nI x) n2') M' l = exL i r (cdM i (nI x) n2) M l) : SHR i' r' M' l n2' H = SHR i r M l n2 H := by
  induction H with
  | zero => rfl
  | succ H ih =>
    show SHR i' r' M' l n2' H + (exL i' r' (cdM i' (nI H) n2') M' l).toInt64 = SHR i r M l n2 H + (exL i r (cdM i (nI H) n2) M l).toInt64
    rw [ih (fun x hx => h x (by omega)), h H (by omega)]
theorem SHR_SC {i' r' : Nat → Nat → Int32} (hS : SC i r i' r') {l n n2 : Nat} {M : Nat} (h0 : i 0 l = nI (n + 1)) (hn : n < 6) (H : Nat) : SHR i' r' M l n2 H = SHR i r M l n2 H := by
  induction H with
  | zero => rfl
  | succ H ih =>
    show SHR i' r' M l n2 H + (exL i' r' (cdM i' (nI H) n2) M l).toInt64 = SHR i r M l n2 H + (exL i r (cdM i (nI H) n2) M l).toInt64
    rw [ih, hS.cdM]
    congr 2
    unfold exL
    rw [hS.1 0 (by decide) (by decide)]
    exact hS.exM
theorem exL_same {l : Nat} {cl : Int32} (h0 : i' 0 = i 0) (r0 : R 0 = r 0) (r1 : R 1 = r 1) (r2 : R 2 = r 2) (rl : R (24 + l) = r (24 + l)) : exL i' R cl M l = exL i r cl M l := by
  have e : exF R l cl M = exF r l cl M := by
    funext k
    unfold exF
    rw [r0, r1, r2, rl]
  unfold exL exM
  rw [e, h0]
theorem SHR_add {l n2 : Nat} {e : Int64} {N H : Nat} (h : ∀ x, N ≤ x → x < N + H → (exL i r (cdM i (nI x) n2) M l).toInt64 = e) : SHR i r M l n2 (N + H) = SHR i r M l n2 N + lN H * e := by
  induction H with
  | zero =>
    show _ = _ + 0 * e
    rw [Int64.zero_mul, Int64.add_zero]
    rfl
  | succ H ih =>
    have ih := ih (fun x h1 h2 => h x h1 (by omega))
    show SHR i r M l n2 (N + H) + (exL i r (cdM i (nI (N + H)) n2) M l).toInt64 = _
    rw [ih, h (N + H) (by omega) (by omega), ← lN_1, Int64.add_mul, Int64.one_mul, Int64.add_assoc]
theorem RB_mono {bg fi st : Int32} {N' : Nat} (hN : N ≤ N') (h : RB bg fi st N) : RB bg fi st N' := by
  rcases h with h | ⟨h1, b, h2, h3⟩ | ⟨h1, b, f, h2, h3, h4⟩
  · exact Or.inl h
  · exact Or.inr (Or.inl ⟨h1, b, by omega, h3⟩)
  · exact Or.inr (Or.inr ⟨h1, b, f, h2, by omega, h4⟩)
theorem phR_o {n k : Nat} (hk : k ≠ 3) : phR i j p r n k = r k := by
  induction n with
  | zero => rfl
  | succ n ih =>
    by_cases g : hitP i j p n
    · rw [phR_t g, up2_nf hk]; exact ih
    · rw [phR_f g]; exact ih
theorem phE_o {v : Int32} {n k : Nat} (hk : k ≠ 3) : phE i j p r v n k = r k := by
  unfold phE
  split
  · funext a
    show fgR _ 6 k a = _
    unfold fgR
    rw [if_neg (fun z => hk z.1), phR_o hk]
  · exact phR_o hk
theorem nI_le' {a b : Nat} (ha : a < 2 ^ 31) (hb : b < 2 ^ 31) : nI a ≤ nI b ↔ a ≤ b := nI_leI ha hb
theorem nI_subN {a b : Nat} (h : b ≤ a) : nI a - nI b = nI (a - b) := by
  rw [show nI a = nI (a - b) + nI b from by rw [nI_add]; congr 1; omega, Int32.add_sub_cancel]
theorem mulx (a b e : Int64) : a * b * e = a * (e * b) := by rw [Int64.mul_assoc, Int64.mul_comm b e]
theorem OPS_eq {I : Nat → Nat → Int32} {J : Nat → Nat → Int64} {k : Nat} {a b d : Int32} {e : Int64} (h : OPS I J k = (a, b, d, e)) : I 2 k = a ∧ I 3 k = b ∧ I 4 k = d ∧ J 1 k = e := by
  unfold OPS at h
  simp only [Prod.mk.injEq] at h
  exact h
theorem inN {x : Int32} {b : Nat} (hb : b < 2 ^ 30) (h0 : ¬ x < 0) (h1 : ¬ nI b < x) : ∃ k, k ≤ b ∧ x = nI k := by
  obtain ⟨k, hk, e⟩ := nI_in2 (x := x) (n := b + 1) (by omega) h0 (Int32.lt_of_le_of_lt (Int32.not_lt.mp h1) ((nI_ltI (by omega) (by omega)).mpr (Nat.lt_succ_self b)))
  exact ⟨k, by omega, e⟩
theorem rngI {x : Int32} {a b : Nat} (ha : a < 2 ^ 31) (hb : b < 2 ^ 31) : (nI a ≤ x ∧ x ≤ nI b) ↔ (¬ x < nI a ∧ ¬ nI b < x) := ⟨fun h => ⟨Int32.not_lt.mpr h.1, Int32.not_lt.mpr h.2⟩, fun h => ⟨Int32.not_lt.mp h.1, Int32.not_lt.mp h.2⟩⟩
theorem fstM_cases (f : Nat → Option Nat) (n : Nat) : (fstM f n = none ∧ ∀ k, k < n → f k = none) ∨ ∃ k y, k < n ∧ f k = some y ∧ (∀ q, q < k → f q = none) ∧ fstM f n = some y := by
  induction n with
  | zero => exact Or.inl ⟨rfl, fun k hk => by omega⟩
  | succ n ih =>
    rcases ih with ⟨h1, h2⟩ | ⟨k, y, h1, h2, h3, h4⟩
    · rw [fstM_n h1]
      cases hf : f n with
      | none =>
        refine Or.inl ⟨rfl, fun k hk => ?_⟩
        by_cases q : k = n
        · rw [q]; exact hf
        · exact h2 k (by omega)
      | some y => exact Or.inr ⟨n, y, by omega, hf, h2, rfl⟩
    · exact Or.inr ⟨k, y, by omega, h2, h3, fstM_s h4⟩
theorem nct_lt {P Q : Nat → Prop} {n : Nat} (h : ∀ k, k < n → P k → Q k) (he : ∃ k, k < n ∧ Q k ∧ ¬ P k) : nct P n < nct Q n := by
  have hle : ∀ m, m ≤ n → nct P m ≤ nct Q m := by
    intro m
    induction m with
    | zero => intro _; exact Nat.le_refl 0
    | succ m ih =>
      intro hm
      have ih := ih (by omega)
      by_cases g : P m
      · rw [nct_t g, nct_t (h m (by omega) g)]; omega
      · rw [nct_f g]
        by_cases g2 : Q m
        · rw [nct_t g2]; omega
        · rw [nct_f g2]; exact ih
  obtain ⟨k, hk, h1, h2⟩ := he
  have hs : ∀ d, k + 1 + d ≤ n → nct P (k + 1 + d) < nct Q (k + 1 + d) := by
    intro d
    induction d with
    | zero =>
      intro _
      show nct P (k + 1) < nct Q (k + 1)
      rw [nct_f h2, nct_t h1]
      have := hle k (by omega)
      omega
    | succ d ih =>
      intro hd
      have ih := ih (by omega)
      show nct P (k + 1 + d + 1) < nct Q (k + 1 + d + 1)
      by_cases g : P (k + 1 + d)
      · rw [nct_t g, nct_t (h _ (by omega) g)]; omega
      · rw [nct_f g]
        by_cases g2 : Q (k + 1 + d)
        · rw [nct_t g2]; omega
        · rw [nct_f g2]; exact ih
  have := hs (n - (k + 1)) (by omega)
  rwa [show k + 1 + (n - (k + 1)) = n by omega] at this
theorem nct_mono {P Q : Nat → Prop} {n : Nat} (h : ∀ k, k < n → P k → Q k) : nct P n ≤ nct Q n := by
  induction n with
  | zero => exact Nat.le_refl 0
  | succ n ih =>
    have ih := ih (fun k hk => h k (by omega))
    by_cases g : P n
    · rw [nct_t g, nct_t (h n (by omega) g)]; omega
    · rw [nct_f g]
      by_cases g2 : Q n
      · rw [nct_t g2]; omega
      · rw [nct_f g2]; exact ih
theorem nxA_spec {x h N : Nat} {v : Int32} (hN : N < 2 ^ 30) (hx : h < x) (hxN : x ≤ N) (hv : v = -1 ∨ ∃ b, b ≤ N ∧ v = nI b) : ∃ x', nxA (nI x) v (nI h) = nI x' ∧ h < x' ∧ x' ≤ x ∧ (∀ b, v = nI b → b ≤ N → h < b → x' ≤ b) ∧ (x' = x ∨ v = nI x') := by
  rcases hv with e | ⟨b, hb, e⟩
  · refine ⟨x, ?_, hx, Nat.le_refl x, fun b hb1 hb2 _ => absurd (e.symm.trans hb1) (nI_nm1 (by omega)), Or.inl rfl⟩
    apply nxA_f
    rw [e]
    intro z
    exact absurd (Int32.lt_of_le_of_lt (nI_pos' (by omega : h < 2 ^ 31)) z) (by decide)
  · by_cases g : h < b
    · have hg : nI h < v := by rw [e]; exact (nI_ltI (by omega) (by omega)).mpr g
      rw [nxA_t hg, e]
      by_cases g2 : b < x
      · refine ⟨b, mnI_t ((nI_ltI (by omega) (by omega)).mpr g2), g, by omega, fun b' hb1 hb2 _ => ?_, Or.inr rfl⟩
        have := nI_inj (by omega) (by omega) hb1
        omega
      · refine ⟨x, mnI_f (fun z => g2 ((nI_ltI (by omega) (by omega)).mp z)), hx, Nat.le_refl x, fun b' hb1 hb2 _ => ?_, Or.inl rfl⟩
        have := nI_inj (by omega) (by omega) hb1
        omega
    · refine ⟨x, nxA_f (fun z => ?_), hx, Nat.le_refl x, fun b' hb1 hb2 hb3 => ?_, Or.inl rfl⟩
      · rw [e] at z
        exact g ((nI_ltI (by omega) (by omega)).mp z)
      · have := nI_inj (by omega) (by omega) (e.symm.trans hb1)
        omega
noncomputable def tmD (i : Nat → Nat → Int32) (n2 N y : Nat) : Nat := nct (fun k => ∃ b, b ≤ N ∧ i 13 k = nI b ∧ y < b) n2 + nct (fun k => ∃ b, b ≤ N ∧ i 14 k = nI b ∧ y < b) n2
/-- caches move -/
theorem KN.sc (h : KN c i j p r M N) (hS : SC i r i' r') (hV : WV i' r' M) : KN c i' j p r' M N := by
  obtain ⟨a1, a2, a3, a4, a5, a6, a7⟩ := h
  have e : ∀ f, f ≠ 16 → f ≠ 17 → i' f = i f := hS.1
  have q : ∀ k, ¬ (4 ≤ k ∧ k < 24) → r' k = r k := hS.2
  refine ⟨?_, ?_, ?_, ?_, ?_, ?_, hV⟩
  · unfold KNn at *
    rw [e 15 (by decide) (by decide), e 18 (by decide) (by decide)]
    exact a1
  · unfold KLn at *
    rw [q 0 (by omega), q 1 (by omega), q 2 (by omega)]
    exact a2
  · intro l hl
    have := a3 l hl
    unfold KL1 at *
    rw [e 0 (by decide) (by decide), q 0 (by omega), q 1 (by omega), q 2 (by omega), q (24 + l) (by omega)]
    exact this
  · intro k hk
    have := a4 k hk
    unfold KP1 at *
    rw [e 5 (by decide) (by decide), e 6 (by decide) (by decide), e 7 (by decide) (by decide), e 8 (by decide) (by decide), e 9 (by decide) (by decide), e 10 (by decide) (by decide), e 11 (by decide) (by decide), e 12 (by decide) (by decide), e 13 (by decide) (by decide), e 14 (by decide) (by decide), e 2 (by decide) (by decide)]
    exact this
  · intro k hk
    have := a5 k hk
    unfold KO1 at *
    rw [e 3 (by decide) (by decide), e 4 (by decide) (by decide), e 10 (by decide) (by decide), e 11 (by decide) (by decide)]
    exact this
  · intro l hl
    obtain ⟨n, hn, h0, -⟩ := a3 l hl
    rw [SHR_SC hS h0 hn, e 1 (by decide) (by decide)]
    exact a6 l hl
/-- the state of permits changes -/
theorem KN.perm (h : KN c i j p r M N) (hi : ∀ f, f ≠ 11 → f ≠ 13 → f ≠ 14 → i' f = i f) (hj : ∀ f, f ≠ 1 → j' f = j f)
    (hst : ∀ k, k < c 2 → (i' 11 k = 1 ↔ i 11 k = 1)) (hRB : ∀ k, k < c 2 → RB (i' 13 k) (i' 14 k) (i' 11 k) N) (hmem : ∀ o, o < c 1 → ∀ b, b < 64 → (bJ (j' 1 o) b = true ↔ b < c 2 ∧ p 2 b = some o ∧ ¬ i' 11 b = 4)) (hch : ∀ k, k < c 2 → ∀ z, p 1 k = some z → (i' 11 z = 4 → i' 11 k = 4 ∨ i' 11 k = 1) ∧ (i' 11 k = 2 ∨ i' 11 k = 3 → i' 11 z = 3)) (hcd : ∀ x, x < N → cdM i' (nI x) (c 2) = cdM i (nI x) (c 2)) : KN c i' j' p r M N := by
  obtain ⟨a1, a2, a3, a4, a5, a6, a7⟩ := h
  refine ⟨?_, a2, ?_, ?_, ?_, ?_, ?_⟩
  · unfold KNn at *
    rw [hi 15 (by decide) (by decide) (by decide), hi 18 (by decide) (by decide) (by decide)]
    exact a1
  · intro l hl
    have := a3 l hl
    unfold KL1 at *
    rw [hi 0 (by decide) (by decide) (by decide)]
    exact this
  · intro k hk
    obtain ⟨q1, q2, q3, q4, q5, q6, -, q8, -⟩ := a4 k hk
    unfold KP1
    rw [hi 5 (by decide) (by decide) (by decide), hi 6 (by decide) (by decide) (by decide), hi 7 (by decide) (by decide) (by decide), hi 8 (by decide) (by decide) (by decide), hi 9 (by decide) (by decide) (by decide), hi 10 (by decide) (by decide) (by decide), hi 12 (by decide) (by decide) (by decide), hi 2 (by decide) (by decide) (by decide)]
    refine ⟨q1, q2, q3, q4, q5, ?_, hRB k hk, q8, hch k hk⟩
    rcases q6 with z | z
    · exact Or.inl ⟨(hst k hk).mpr z.1, z.2⟩
    · exact Or.inr ⟨fun y => z.1 ((hst k hk).mp y), z.2⟩
  · intro o ho
    obtain ⟨b1, -, b3, b4⟩ := a5 o ho
    unfold KO1
    rw [hi 3 (by decide) (by decide) (by decide), hi 4 (by decide) (by decide) (by decide), hi 10 (by decide) (by decide) (by decide)]
    exact ⟨b1, hmem o ho, b3, b4⟩
  · intro l hl
    rw [hj 0 (by decide), hi 1 (by decide) (by decide) (by decide), SHR_congr (i := i) (r := r) (M := M) (n2 := c 2) (fun x hx => ?_)]
    · exact a6 l hl
    · rw [hcd x hx]
      unfold exL
      rw [hi 0 (by decide) (by decide) (by decide)]
  · unfold WV WC at *
    rw [hi 16 (by decide) (by decide) (by decide), hi 17 (by decide) (by decide) (by decide)]
    exact a7
theorem st_ne {x y z : Int32} (h : x = y) (hn : ¬ y = z) : ¬ x = z := fun e => hn (h.symm.trans e)
theorem KN.begin (h : KN c i j p r M N) {k : Nat} (hk : k < c 2) (hc : i 11 k = 0 ∧ ∀ z, p 1 k = some z → i 11 z = 3) : KN c (up2 (up2 i 11 k 2) 13 k (i 18 0)) j p r M N := by
  have hb := h.b
  have hN := h.now
  obtain ⟨q1, q2, q3, q4, q5, q6, gB, q8, q9⟩ := h.pm k hk
  have hbg : i 13 k = -1 ∧ i 14 k = -1 := by
    rcases gB with g | g | g
    · exact g.2
    · exact absurd (hc.1.symm.trans g.1) (by decide)
    · exact absurd (hc.1.symm.trans g.1) (by decide)
  have e11 : ∀ x, up2 (up2 i 11 k 2) 13 k (i 18 0) 11 x = if x = k then 2 else i 11 x := by
    intro x
    rw [up2_nf (by decide)]
    by_cases e : x = k
    · rw [e, up2_self, if_pos rfl]
    · rw [up2_na e, if_neg e]
  refine h.perm (fun f h1 h2 h3 => by rw [up2_nf h2, up2_nf h1]) (fun _ _ => rfl) (fun x hx => ?_) (fun x hx => ?_) (fun o ho b hb64 => ?_) (fun x hx z hz => ?_) (fun x hx2 => ?_)
  · rw [e11]
    by_cases e : x = k
    · rw [if_pos e, e, hc.1]; decide
    · rw [if_neg e]
  · rw [e11]
    by_cases e : x = k
    · rw [if_pos e, e, up2_self, up2_nf (by decide), up2_nf (by decide), hbg.2]
      exact Or.inr (Or.inl ⟨rfl, N, Nat.le_refl N, hN, rfl⟩)
    · rw [if_neg e, up2_na e, up2_nf (by decide), up2_nf (by decide), up2_nf (by decide)]
      exact (h.pm x hx).2.2.2.2.2.2.1
  · rw [(h.op o ho).2.1 b hb64, e11]
    by_cases e : b = k
    · rw [if_pos e, e, hc.1]
      exact ⟨fun z => ⟨z.1, z.2.1, by decide⟩, fun z => ⟨z.1, z.2.1, by decide⟩⟩
    · rw [if_neg e]
  · rw [e11, e11]
    have hch := (h.pm x hx).2.2.2.2.2.2.2.2 z hz
    by_cases e : x = k
    · rw [if_pos e]
      rw [e] at hz
      have h3 := hc.2 z hz
      have ne : z ≠ k := fun y => absurd (hc.1.symm.trans (y ▸ h3)) (by decide)
      rw [if_neg ne]
      exact ⟨fun y => absurd (h3.symm.trans y) (by decide), fun _ => h3⟩
    · rw [if_neg e]
      by_cases e2 : z = k
      · rw [if_pos e2]
        rw [e2, hc.1] at hch
        exact ⟨fun y => absurd y (by decide), fun y => absurd (hch.2 y) (by decide)⟩
      · rw [if_neg e2]; exact hch
  · unfold cdM
    rw [up2_nf (f := 13) (by decide : (7 : Nat) ≠ 13), up2_nf (f := 11) (by decide : (7 : Nat) ≠ 11)]
    apply orM_congr
    intro y hk2
    rw [up2_nf (f := 13) (by decide : (14 : Nat) ≠ 13), up2_nf (f := 11) (by decide : (14 : Nat) ≠ 11)]
    by_cases e : y = k
    · rw [e, up2_self, hbg.1, hN, nI_le' (by omega) (by omega)]
      constructor
      · rintro ⟨-, z, -⟩; omega
      · rintro ⟨z, -⟩; exact absurd rfl z
    · rw [up2_na e, up2_nf (f := 11) (by decide : (13 : Nat) ≠ 11)]
theorem KN.finish (h : KN c i j p r M N) {k : Nat} (hk : k < c 2) (hc : i 11 k = 2) : KN c (up2 (up2 i 11 k 3) 14 k (i 18 0)) j p r M N := by
  have hb := h.b
  have hN := h.now
  obtain ⟨q1, q2, q3, q4, q5, q6, gB, q8, q9⟩ := h.pm k hk
  obtain ⟨b0, hbN, hbg, hfi⟩ : ∃ b, b ≤ N ∧ i 13 k = nI b ∧ i 14 k = -1 := by
    rcases gB with g | g | g
    · rw [hc] at g; exact absurd g.1 (by decide)
    · exact g.2
    · exact absurd (hc.symm.trans g.1) (by decide)
  have e11 : ∀ x, up2 (up2 i 11 k 3) 14 k (i 18 0) 11 x = if x = k then 3 else i 11 x := by
    intro x
    rw [up2_nf (by decide)]
    by_cases e : x = k
    · rw [e, up2_self, if_pos rfl]
    · rw [up2_na e, if_neg e]
  refine h.perm (fun f h1 h2 h3 => by rw [up2_nf h3, up2_nf h1]) (fun _ _ => rfl) (fun x hx => ?_) (fun x hx => ?_) (fun o ho b hb64 => ?_) (fun x hx z hz => ?_) (fun x hx2 => ?_)
  · rw [e11]
    by_cases e : x = k
    · rw [if_pos e, e, hc]; decide
    · rw [if_neg e]
  · rw [e11]
    by_cases e : x = k
    · rw [if_pos e, e, up2_self, up2_nf (by decide), up2_nf (by decide), hbg]
      exact Or.inr (Or.inr ⟨rfl, b0, N, hbN, Nat.le_refl N, rfl, hN⟩)
    · rw [if_neg e, up2_nf (f := 14) (by decide : (13 : Nat) ≠ 14), up2_nf (f := 11) (by decide : (13 : Nat) ≠ 11), up2_na e, up2_nf (f := 11) (by decide : (14 : Nat) ≠ 11)]
      exact (h.pm x hx).2.2.2.2.2.2.1
  · rw [(h.op o ho).2.1 b hb64, e11]
    by_cases e : b = k
    · rw [if_pos e, e, hc]
      exact ⟨fun z => ⟨z.1, z.2.1, by decide⟩, fun z => ⟨z.1, z.2.1, by decide⟩⟩
    · rw [if_neg e]
  · rw [e11, e11]
    have hch := (h.pm x hx).2.2.2.2.2.2.2.2 z hz
    by_cases e : x = k
    · rw [if_pos e]
      rw [e, hc] at hch
      have h3 := hch.2 (Or.inl rfl)
      have ne : z ≠ k := fun y => absurd (hc.symm.trans (y ▸ h3)) (by decide)
      rw [if_neg ne]
      exact ⟨fun y => absurd (h3.symm.trans y) (by decide), fun _ => h3⟩
    · rw [if_neg e]
      by_cases e2 : z = k
      · rw [if_pos e2]
        exact ⟨fun y => absurd y (by decide), fun _ => rfl⟩
      · rw [if_neg e2]; exact hch
  · unfold cdM
    rw [up2_nf (f := 14) (by decide : (7 : Nat) ≠ 14), up2_nf (f := 11) (by decide : (7 : Nat) ≠ 11)]
    apply orM_congr
    intro y hk2
    rw [up2_nf (f := 14) (by decide : (13 : Nat) ≠ 14), up2_nf (f := 11) (by decide : (13 : Nat) ≠ 11)]
    by_cases e : y = k
    · rw [e, up2_self, hfi, hN]
      apply and_congr Iff.rfl
      apply and_congr Iff.rfl
      constructor
      · intro _; exact Or.inl rfl
      · intro _; exact Or.inr ((nI_ltI (by omega) (by omega)).mpr hx2)
    · rw [up2_na e, up2_nf (f := 11) (by decide : (14 : Nat) ≠ 11)]
/-- while permits fall, from k on, up to m -/
def KW (c : Nat → Nat) (i : Nat → Nat → Int32) (j : Nat → Nat → Int64) (p : Nat → Nat → Option Nat) (m : Nat) (ii : Nat → Nat → Int32) (jj : Nat → Nat → Int64) : Prop :=
  (∀ f, f ≠ 11 → ii f = i f) ∧ (∀ f, f ≠ 1 → jj f = j f) ∧ (∀ q, q < c 2 → ii 11 q = i 11 q ∨ (i 11 q = 0 ∧ ii 11 q = 4)) ∧
  (∀ o, o < c 1 → ∀ b, b < 64 → (bJ (jj 1 o) b = true ↔ b < c 2 ∧ p 2 b = some o ∧ ¬ ii 11 b = 4)) ∧
  ∀ q, q < m → ∀ z, p 1 q = some z → ii 11 z = 4 → ii 11 q = 4 ∨ ii 11 q = 1
theorem KW.void (h : KN c i j p r M N) {m : Nat} {ii : Nat → Nat → Int32} {jj : Nat → Nat → Int64} (hW : KW c i j p m ii jj) {q : Nat} (hq : q < c 2) (hm : q = m) (h0 : ii 11 q = 0) : KW c i j p (m + 1) (up2 ii 11 q 4) (cnJ ii jj p q) := by
  have hb := h.b
  obtain ⟨w1, w2, w3, w4, w5⟩ := hW
  obtain ⟨q1, -, -, -, q5, q6, -⟩ := h.pm q hq
  have hs0 : i 11 q = 0 := (w3 q hq).elim (fun e => e.symm.trans h0) (fun e => e.1)
  obtain ⟨o, g2, g3⟩ : ∃ o, o < c 1 ∧ p 2 q = some o := by
    rcases q6 with ⟨g1, -⟩ | ⟨-, -, o, g2, g3, -⟩
    · rw [hs0] at g1; exact absurd g1 (by decide)
    · exact ⟨o, g2, g3⟩
  have ec : cnJ ii jj p q = up2 jj 1 o (jj 1 o &&& (((1 : Int64) <<< ((nI q).toInt64 &&& 63)) ^^^ (-1))) := by
    unfold cnJ
    rw [g3, w1 5 (by decide), q1]
    rfl
  refine ⟨fun f hf => by rw [up2_nf hf]; exact w1 f hf, fun f hf => by rw [ec, up2_nf hf]; exact w2 f hf, fun k hk => ?_, fun o' ho' b hb64 => ?_, fun k hk z hz => ?_⟩
  · by_cases e : k = q
    · rw [e, up2_self]; exact Or.inr ⟨hs0, rfl⟩
    · rw [up2_na e]; exact w3 k hk
  · rw [ec]
    by_cases e : o' = o
    · rw [e, up2_self, bJ_and, bJ_nbit (by omega) hb64, Bool.and_eq_true, w4 o g2 b hb64]
      by_cases eb : b = q
      · rw [eb, up2_self]; simp
      · rw [up2_na eb]; simp [eb]
    · rw [up2_na e, w4 o' ho' b hb64]
      by_cases eb : b = q
      · rw [eb, up2_self, g3]
        constructor
        · rintro ⟨-, z, -⟩; exact absurd (Option.some.inj z).symm e
        · rintro ⟨-, -, z⟩; exact absurd rfl z
      · rw [up2_na eb]
  · by_cases e : k = q
    · rw [e, up2_self]; exact fun _ => Or.inl rfl
    · have hkm : k < m := by omega
      rw [up2_na e]
      by_cases e2 : z = q
      · exfalso
        obtain ⟨-, -, -, -, q5', -⟩ := h.pm k (by omega)
        rcases q5' with y | ⟨z', y1, y2⟩
        · rw [y] at hz; cases hz
        · rw [y2] at hz; cases hz; omega
      · rw [up2_na e2]; exact w5 k hkm z hz
theorem KW.skip (h : KN c i j p r M N) {m : Nat} {ii : Nat → Nat → Int32} {jj : Nat → Nat → Int64} (hW : KW c i j p m ii jj) (hq : m < c 2) (h0 : ¬ (ii 11 m = 0 ∧ ∃ z, p 1 m = some z ∧ ii 11 z = 4)) : KW c i j p (m + 1) ii jj := by
  obtain ⟨w1, w2, w3, w4, w5⟩ := hW
  refine ⟨w1, w2, w3, w4, fun k hk z hz h4 => ?_⟩
  by_cases e : k = m
  · rw [e] at hz ⊢
    obtain ⟨-, -, -, -, q5, q6, qB, -, q9⟩ := h.pm m hq
    have hz' : z < c 2 := by
      rcases q5 with y | ⟨z', y1, y2⟩
      · rw [y] at hz; cases hz
      · rw [y2] at hz; cases hz; omega
    have hn0 : ¬ ii 11 m = 0 := fun y => h0 ⟨y, z, hz, h4⟩
    rcases w3 m hq with y | ⟨-, y⟩
    · rw [y] at hn0 ⊢
      have h2 := (q9 z hz).2
      have nd : ¬ (i 11 m = 2 ∨ i 11 m = 3) := by
        intro y2
        have := h2 y2
        rcases w3 z hz' with w | ⟨w, -⟩
        · rw [w, this] at h4; exact absurd h4 (by decide)
        · rw [w] at this; exact absurd this (by decide)
      rcases qB with ⟨g, -⟩ | ⟨g, -⟩ | ⟨g, -⟩
      · rcases g with g | g | g
        · exact absurd g hn0
        · exact Or.inr g
        · exact Or.inl g
      · exact absurd (Or.inl g) nd
      · exact absurd (Or.inr g) nd
    · exact Or.inl y
  · exact w5 k (by omega) z hz h4
theorem KW.loop (h : KN c i j p r M N) {i0 : Nat → Nat → Int32} {j0 : Nat → Nat → Int64} {a : Nat} (hW : KW c i j p a i0 j0) {n : Nat} (hn : a + n ≤ c 2) : KW c i j p (a + n) (wdn p (i0, j0, 1) a n).1 (wdn p (i0, j0, 1) a n).2.1 ∧ ∃ m, 1 ≤ m ∧ m ≤ 1 + n ∧ (wdn p (i0, j0, 1) a n).2.2 = nI m := by
  induction n with
  | zero => exact ⟨hW, 1, by omega, by omega, rfl⟩
  | succ n ih =>
    obtain ⟨ih1, m, m1, m2, m3⟩ := ih (by omega)
    by_cases g : wdH p (wdn p (i0, j0, 1) a n) (a + n)
    · rw [show wdn p (i0, j0, 1) a (n + 1) = wdC p (wdn p (i0, j0, 1) a n) (a + n) from cIf_t g]
      exact ⟨KW.void (m := a + n) h ih1 (by omega) rfl g.1, m + 1, by omega, by omega, by show (wdn p (i0, j0, 1) a n).2.2 + 1 = nI (m + 1); rw [m3, nI_1]⟩
    · rw [show wdn p (i0, j0, 1) a (n + 1) = wdn p (i0, j0, 1) a n from cIf_f g]
      exact ⟨KW.skip (m := a + n) h ih1 (by omega) g, m, m1, by omega, m3⟩
theorem KW.kn (h : KN c i j p r M N) {ii : Nat → Nat → Int32} {jj : Nat → Nat → Int64} (hW : KW c i j p (c 2) ii jj) : KN c ii jj p r M N := by
  obtain ⟨w1, w2, w3, w4, w5⟩ := hW
  refine h.perm (fun f h1 _ _ => w1 f h1) w2 (fun k hk => ?_) (fun k hk => ?_) w4 (fun k hk z hz => ⟨w5 k hk z hz, fun y => ?_⟩) (fun x _ => ?_)
  · rcases w3 k hk with e | ⟨e1, e2⟩
    · rw [e]
    · rw [e1, e2]; decide
  · rw [w1 13 (by decide), w1 14 (by decide)]
    have g := (h.pm k hk).2.2.2.2.2.2.1
    rcases w3 k hk with e | ⟨e1, e2⟩
    · rw [e]; exact g
    · rw [e2]
      rw [e1] at g
      rcases g with g | g | g
      · exact Or.inl ⟨Or.inr (Or.inr rfl), g.2⟩
      · exact absurd g.1 (by decide)
      · exact absurd g.1 (by decide)
  · obtain ⟨-, -, -, -, q5, -, -, -, q9⟩ := h.pm k hk
    have hz' : z < c 2 := by
      rcases q5 with y | ⟨z', y1, y2⟩
      · rw [y] at hz; cases hz
      · rw [y2] at hz; cases hz; omega
    have e : ii 11 k = i 11 k := by
      rcases w3 k hk with e | ⟨-, e2⟩
      · exact e
      · rw [e2] at y; exact absurd y (by decide)
    rw [e] at y
    have h3 := (q9 z hz).2 y
    rcases w3 z hz' with w | ⟨w, -⟩
    · rw [w]; exact h3
    · rw [w] at h3; exact absurd h3 (by decide)
  · unfold cdM
    rw [w1 13 (by decide), w1 14 (by decide), w1 7 (by decide)]
theorem KN.withdraw (h : KN c i j p r M N) {k : Nat} (hk : k < c 2) (hc : i 11 k = 0) : KW c i j p (c 2) (wdn p (up2 i 11 k 4, cnJ i j p k, 1) (k + 1) (c 2 - (k + 1))).1 (wdn p (up2 i 11 k 4, cnJ i j p k, 1) (k + 1) (c 2 - (k + 1))).2.1 ∧ (∃ m, 1 ≤ m ∧ m ≤ c 2 ∧ (wdn p (up2 i 11 k 4, cnJ i j p k, 1) (k + 1) (c 2 - (k + 1))).2.2 = nI m) ∧ (wdn p (up2 i 11 k 4, cnJ i j p k, 1) (k + 1) (c 2 - (k + 1))).1 11 k = 4 := by
  have hb := h.b
  have hW0 : KW c i j p k i j := ⟨fun _ _ => rfl, fun _ _ => rfl, fun _ _ => Or.inl rfl, fun o ho => (h.op o ho).2.1, fun q hq z hz => ((h.pm q (by omega)).2.2.2.2.2.2.2.2 z hz).1⟩
  have hW1 := KW.void h hW0 hk rfl hc
  obtain ⟨hW2, m, m1, m2, m3⟩ := KW.loop h hW1 (n := c 2 - (k + 1)) (by omega)
  rw [show k + 1 + (c 2 - (k + 1)) = c 2 by omega] at hW2
  refine ⟨hW2, ⟨m, m1, by omega, m3⟩, ?_⟩
  have stay : ∀ n, (wdn p (up2 i 11 k 4, cnJ i j p k, 1) (k + 1) n).1 11 k = 4 := by
    intro n
    induction n with
    | zero => exact up2_self _ _ _ _
    | succ n ih =>
      by_cases g : wdH p (wdn p (up2 i 11 k 4, cnJ i j p k, 1) (k + 1) n) (k + 1 + n)
      · rw [show wdn p (up2 i 11 k 4, cnJ i j p k, 1) (k + 1) (n + 1) = wdC p (wdn p (up2 i 11 k 4, cnJ i j p k, 1) (k + 1) n) (k + 1 + n) from cIf_t g]
        show up2 _ 11 (k + 1 + n) 4 11 k = 4
        rw [up2_na (by omega)]; exact ih
      · rw [show wdn p (up2 i 11 k 4, cnJ i j p k, 1) (k + 1) (n + 1) = wdn p (up2 i 11 k 4, cnJ i j p k, 1) (k + 1) n from cIf_f g]
        exact ih
  exact stay _
end KL
