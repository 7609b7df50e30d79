/-! the number of bits, as the library finds it -/
theorem nx_and' (a b : Nat) : nI a &&& nI b = nI (a &&& b) := by
  apply Int32.toBitVec_inj.mp
  rw [Int32.toBitVec_and]
  show BitVec.ofNat 32 a &&& BitVec.ofNat 32 b = BitVec.ofNat 32 (a &&& b)
  exact (BitVec.ofNat_and).symm
theorem dgm_le (c n : Nat) (hc : c < 256) : dgm c n < 256 ^ n := by
  induction n with
  | zero => exact Nat.one_pos
  | succ n ih =>
    show c + 256 * dgm c n < _
    rw [Nat.pow_succ]
    omega
theorem pB_le (n m : Nat) : pB n m ≤ dgm 0x33 n + dgm 0x33 n := Nat.add_le_add Nat.and_le_right Nat.and_le_right
theorem d55 : dgm 0x55 8 = 6148914691236517205 := by decide
theorem d33 : dgm 0x33 8 = 3689348814741910323 := by decide
theorem d0f : dgm 0x0f 8 = 1085102592571150095 := by decide
theorem bcA_N {m : Nat} (hm : m < 2 ^ 64) : bcA (lN m) = lN (pA 8 m) := by
  unfold bcA
  have h := wb_shr (k := 1) hm (by decide)
  rw [show ((lN m).toUInt64 >>> ((1 : Int32).toInt64.toUInt64 &&& Int64.toUInt64 63)).toInt64 = lN (m / 2 ^ 1) from h, show (6148914691236517205 : Int64) = lN 6148914691236517205 from rfl, wb_and (by omega) (by decide), lN_sub (Nat.le_trans Nat.and_le_left (by omega)), ← d55]
  rfl
theorem bcB_N {m : Nat} (hm : m < 2 ^ 64) : bcB (lN m) = lN (pB 8 m) := by
  unfold bcB
  have h := wb_shr (k := 2) hm (by decide)
  rw [show ((lN m).toUInt64 >>> ((2 : Int32).toInt64.toUInt64 &&& Int64.toUInt64 63)).toInt64 = lN (m / 2 ^ 2) from h, show (3689348814741910323 : Int64) = lN 3689348814741910323 from rfl, wb_and hm (by decide), wb_and (by omega) (by decide), lN_add, ← d33]
  rfl
theorem bcC_N {m : Nat} (hm : m < 2 ^ 63) : bcC (lN m) = lN (pC 8 m) := by
  unfold bcC
  have h := wb_shr (n := m) (k := 4) (by omega) (by decide)
  rw [show ((lN m).toUInt64 >>> ((4 : Int32).toInt64.toUInt64 &&& Int64.toUInt64 63)).toInt64 = lN (m / 2 ^ 4) from h, lN_add, show (1085102592571150095 : Int64) = lN 1085102592571150095 from rfl, wb_and (by omega) (by decide), ← d0f]
  rfl
theorem bcD_N {m k : Nat} (hm : m < 2 ^ 64) (hk : k < 64) : bcD (nI k) (lN m) = lN (m + m / 2 ^ k) := by
  unfold bcD
  rw [wb_shr hm hk, lN_add]
theorem bsum {c0 c1 c2 c3 c4 c5 c6 c7 x : Nat} (g0 : c0 ≤ 8) (g1 : c1 ≤ 8) (g2 : c2 ≤ 8) (g3 : c3 ≤ 8) (g4 : c4 ≤ 8) (g5 : c5 ≤ 8) (g6 : c6 ≤ 8) (g7 : c7 ≤ 8) (hs : x = c0 + 256 * (c1 + 256 * (c2 + 256 * (c3 + 256 * (c4 + 256 * (c5 + 256 * (c6 + 256 * c7))))))) :
    x < 2 ^ 60 ∧ x + x / 2 ^ 8 < 2 ^ 61 ∧ x + x / 2 ^ 8 + (x + x / 2 ^ 8) / 2 ^ 16 < 2 ^ 62 ∧ (x + x / 2 ^ 8 + (x + x / 2 ^ 8) / 2 ^ 16 + (x + x / 2 ^ 8 + (x + x / 2 ^ 8) / 2 ^ 16) / 2 ^ 32) % 2 ^ 7 = c0 + (c1 + (c2 + (c3 + (c4 + (c5 + (c6 + c7)))))) := by
  obtain ⟨X6, h6⟩ : ∃ X, X = c6 + 256 * c7 := ⟨_, rfl⟩
  rw [← h6] at hs
  obtain ⟨X5, h5⟩ : ∃ X, X = c5 + 256 * X6 := ⟨_, rfl⟩
  rw [← h5] at hs
  obtain ⟨X4, h4⟩ : ∃ X, X = c4 + 256 * X5 := ⟨_, rfl⟩
  rw [← h4] at hs
  obtain ⟨X3, h3⟩ : ∃ X, X = c3 + 256 * X4 := ⟨_, rfl⟩
  rw [← h3] at hs
  obtain ⟨X2, h2⟩ : ∃ X, X = c2 + 256 * X3 := ⟨_, rfl⟩
  rw [← h2] at hs
  obtain ⟨X1, h1⟩ : ∃ X, X = c1 + 256 * X2 := ⟨_, rfl⟩
  rw [← h1] at hs
  have b6 : X6 ≤ 8 + 256 * 8 := by omega
  have b5 : X5 ≤ 8 + 256 * (8 + 256 * 8) := by omega
  have b4 : X4 ≤ 8 + 256 * (8 + 256 * (8 + 256 * 8)) := by omega
  have b3 : X3 ≤ 8 + 256 * (8 + 256 * (8 + 256 * (8 + 256 * 8))) := by omega
  have b2 : X2 ≤ 8 + 256 * (8 + 256 * (8 + 256 * (8 + 256 * (8 + 256 * 8)))) := by omega
  have b1 : X1 ≤ 8 + 256 * (8 + 256 * (8 + 256 * (8 + 256 * (8 + 256 * (8 + 256 * 8))))) := by omega
  have hx : x < 2 ^ 60 := by omega
  have d1 : x / 2 ^ 8 = X1 := by
    clear h1 h2 h3 h4 h5 h6 b1 b2 b3 b4 b5 b6
    omega
  rw [d1]
  have ey : x + X1 = (c0 + c1) + 256 * ((c1 + c2) + 256 * (X2 + X3)) := by
    clear b1 b2 b3 b4 b5 b6 h3 h4 h5 h6 d1 hx
    omega
  have hy : x + X1 < 2 ^ 61 := by omega
  have d2 : (x + X1) / 2 ^ 16 = X2 + X3 := by
    rw [ey]
    generalize X2 + X3 = W
    clear h1 h2 h3 h4 h5 h6 b1 b2 b3 b4 b5 b6 ey d1 hs hx hy
    omega
  rw [d2]
  have ez : x + X1 + (X2 + X3) = (c0 + c1 + c2 + c3) + 256 * ((c1 + c2 + c3 + c4) + 256 * ((c2 + c3 + c4 + c5) + 256 * ((c3 + c4 + c5 + c6) + 256 * (X4 + X5 + X6 + c7)))) := by
    rw [ey, h2, h3, h4, h5, h6]
    clear h1 h2 h3 h4 h5 h6 b1 b2 b3 b4 b5 b6 ey d1 d2 hs hx hy
    omega
  have hz : x + X1 + (X2 + X3) < 2 ^ 62 := by omega
  have d3 : (x + X1 + (X2 + X3)) / 2 ^ 32 = X4 + X5 + X6 + c7 := by
    rw [ez]
    generalize X4 + X5 + X6 + c7 = W
    clear h1 h2 h3 h4 h5 h6 b1 b2 b3 b4 b5 b6 ey d1 d2 hs hx hy ez hz
    omega
  rw [d3, ez]
  refine ⟨hx, hy, by rw [← ez]; exact hz, ?_⟩
  rw [show X4 + X5 + X6 + c7 = (c4 + c5 + c6 + c7) + 256 * (X5 + X6 + c7) by omega]
  generalize X5 + X6 + c7 = W
  clear h1 h2 h3 h4 h5 h6 b1 b2 b3 b4 b5 b6 ey d1 d2 d3 hs hx hy ez hz
  omega
theorem bcJ_N {m : Nat} (hm : m < 2 ^ 64) : bcJ (lN m) = nI (fb_ct (fun k => m.testBit k) 64) := by
  have hA : pA 8 m < 2 ^ 64 := Nat.lt_of_le_of_lt (Nat.sub_le _ _) hm
  have hB : pB 8 (pA 8 m) < 2 ^ 63 := Nat.lt_of_le_of_lt (pB_le 8 _) (by rw [d33]; decide)
  obtain ⟨-, hC⟩ := pABC (n := 8) (m := m) (by rw [show (256 : Nat) ^ 8 = 2 ^ 64 by decide]; exact hm)
  obtain ⟨c0, c1, c2, c3, c4, c5, c6, c7, hs, g0, g1, g2, g3, g4, g5, g6, g7, ht⟩ := cs_8 (m := m)
  obtain ⟨hx, hy, hz, he⟩ := bsum g0 g1 g2 g3 g4 g5 g6 g7 hs
  unfold bcJ
  rw [bcA_N hm, bcB_N hA, bcC_N hB, hC, show (8 : Int32) = nI 8 from rfl, show (16 : Int32) = nI 16 from rfl, show (32 : Int32) = nI 32 from rfl]
  rw [bcD_N (Nat.lt_trans hx (by decide)) (by decide), bcD_N (Nat.lt_trans hy (by decide)) (by decide), bcD_N (Nat.lt_trans hz (by decide)) (by decide)]
  rw [lN_i, show (127 : Int32) = nI (2 ^ 7 - 1) from rfl, nx_and', Nat.and_two_pow_sub_one_eq_mod, he, ht]
theorem bJ_lN {m k : Nat} (hk : k < 64) : bJ (lN m) k = m.testBit k := by
  show (BitVec.ofNat 64 m).getLsbD k = _
  rw [BitVec.getLsbD_ofNat]
  simp [hk]
theorem bcJ_ct (x : Int64) : bcJ x = nI (fb_ct (bJ x) 64) := by
  obtain ⟨m, hm, rfl⟩ := wb_of x
  rw [bcJ_N hm]
  congr 1
  exact fb_ct_cong (fun k hk => (bJ_lN hk).symm)
/-! sets found by loops, bit by bit -/
theorem clM_bt {st ln : Nat → Int32} {sp : Option Nat} {n e : Nat} (he : e < 32) (hl : ∀ k, k < n → ∃ x, x < 32 ∧ ln k = nI x) : bt (clM st ln sp n) e = true ↔ ∃ k, k < n ∧ st k = 2 ∧ sp ≠ some k ∧ ln k = nI e := by
  induction n with
  | zero =>
    constructor
    · intro h; exact absurd h (by show ¬ bt 0 e = true; rw [b_0]; decide)
    · rintro ⟨k, hk, -⟩; omega
  | succ n ih =>
    have ih := ih (fun k hk => hl k (by omega))
    obtain ⟨x, hx, hx2⟩ := hl n (by omega)
    by_cases h : st n = 2 ∧ sp ≠ some n
    · rw [clM_yes h.1 h.2, b_or, hx2, bt_bit hx he, Bool.or_eq_true, ih]
      constructor
      · rintro (⟨k, g1, g2⟩ | g)
        · exact ⟨k, by omega, g2⟩
        · have g : e = x := by simpa using g
          exact ⟨n, by omega, h.1, h.2, by rw [hx2, g]⟩
      · rintro ⟨k, g1, g2, g3, g4⟩
        by_cases q : k = n
        · subst q
          have := nI_inj (by omega) (by omega) (hx2.symm.trans g4)
          exact Or.inr (by simp [this])
        · exact Or.inl ⟨k, by omega, g2, g3, g4⟩
    · rw [clM_no h, ih]
      constructor
      · rintro ⟨k, g1, g2⟩; exact ⟨k, by omega, g2⟩
      · rintro ⟨k, g1, g2, g3, g4⟩
        by_cases q : k = n
        · subst q; exact absurd ⟨g2, g3⟩ h
        · exact ⟨k, by omega, g2, g3, g4⟩
theorem orM_bt {P : Nat → Prop} [DecidablePred P] {ln : Nat → Int32} {n e : Nat} (he : e < 32) (hl : ∀ k, k < n → ∃ x, x < 32 ∧ ln k = nI x) : bt (orM P ln n) e = true ↔ ∃ k, k < n ∧ P k ∧ ln k = nI e := by
  induction n with
  | zero =>
    constructor
    · intro h; exact absurd h (by show ¬ bt 0 e = true; rw [b_0]; decide)
    · rintro ⟨k, hk, -⟩; omega
  | succ n ih =>
    have ih := ih (fun k hk => hl k (by omega))
    obtain ⟨x, hx, hx2⟩ := hl n (by omega)
    by_cases h : P n
    · rw [orM_t h, b_or, hx2, bt_bit hx he, Bool.or_eq_true, ih]
      constructor
      · rintro (⟨k, g1, g2⟩ | g)
        · exact ⟨k, by omega, g2⟩
        · have g : e = x := by simpa using g
          exact ⟨n, by omega, h, by rw [hx2, g]⟩
      · rintro ⟨k, g1, g2, g4⟩
        by_cases q : k = n
        · subst q
          have := nI_inj (by omega) (by omega) (hx2.symm.trans g4)
          exact Or.inr (by simp [this])
        · exact Or.inl ⟨k, by omega, g2, g4⟩
    · rw [orM_f h, ih]
      constructor
      · rintro ⟨k, g1, g2⟩; exact ⟨k, by omega, g2⟩
      · rintro ⟨k, g1, g2, g4⟩
        by_cases q : k = n
        · subst q; exact absurd g2 h
        · exact ⟨k, by omega, g2, g4⟩
/-- how many of n -/
noncomputable def nct (P : Nat → Prop) : Nat → Nat
  | 0 => 0
  | n + 1 => nct P n + cIf (P n) 1 0
theorem nct_t {P : Nat → Prop} {n : Nat} (h : P n) : nct P (n + 1) = nct P n + 1 := by show nct P n + cIf _ 1 0 = _; rw [cIf_t h]
theorem nct_f {P : Nat → Prop} {n : Nat} (h : ¬ P n) : nct P (n + 1) = nct P n := by show nct P n + cIf _ 1 0 = _; rw [cIf_f h]; rfl
theorem nct_le (P : Nat → Prop) (n : Nat) : nct P n ≤ n := by
  induction n with
  | zero => exact Nat.le_refl 0
  | succ n ih =>
    by_cases h : P n
    · rw [nct_t h]; omega
    · rw [nct_f h]; omega
theorem nct_congr {P Q : Nat → Prop} {n : Nat} (h : ∀ k, k < n → (P k ↔ Q k)) : nct P n = nct Q n := by
  induction n with
  | zero => rfl
  | succ n ih =>
    have ih := ih (fun k hk => h k (by omega))
    by_cases g : P n
    · rw [nct_t g, nct_t ((h n (by omega)).mp g), ih]
    · rw [nct_f g, nct_f (fun z => g ((h n (by omega)).mpr z)), ih]
theorem nct_pos {P : Nat → Prop} {n : Nat} : 0 < nct P n ↔ ∃ k, k < n ∧ P k := by
  induction n with
  | zero =>
    constructor
    · intro h; exact absurd h (Nat.lt_irrefl 0)
    · rintro ⟨k, hk, -⟩; omega
  | succ n ih =>
    by_cases g : P n
    · rw [nct_t g]
      exact ⟨fun _ => ⟨n, by omega, g⟩, fun _ => by omega⟩
    · rw [nct_f g, ih]
      constructor
      · rintro ⟨k, hk, h⟩; exact ⟨k, by omega, h⟩
      · rintro ⟨k, hk, h⟩
        by_cases q : k = n
        · subst q; exact absurd h g
        · exact ⟨k, by omega, h⟩
theorem nct_one {P : Nat → Prop} {n : Nat} : nct P n = 1 → ∀ k k', k < n → k' < n → P k → P k' → k = k' := by
  induction n with
  | zero => intro h; exact absurd (show (0 : Nat) = 1 from h) (by decide)
  | succ n ih =>
    intro h k k' hk hk' h1 h2
    by_cases g : P n
    · rw [nct_t g] at h
      have h0 : ∀ z, z < n → ¬ P z := fun z hz hp => by
        have := (nct_pos (P := P) (n := n)).mpr ⟨z, hz, hp⟩
        omega
      have a1 : k = n := by
        by_cases q : k = n
        · exact q
        · exact absurd h1 (h0 k (by omega))
      have a2 : k' = n := by
        by_cases q : k' = n
        · exact q
        · exact absurd h2 (h0 k' (by omega))
      rw [a1, a2]
    · rw [nct_f g] at h
      have a1 : k ≠ n := fun e => g (e ▸ h1)
      have a2 : k' ≠ n := fun e => g (e ▸ h2)
      exact ih h k k' (by omega) (by omega) h1 h2
theorem nct_two {P : Nat → Prop} {n : Nat} {k : Nat} (hk : k < n) (h1 : P k) (h : ¬ nct P n = 1) : ∃ k', k' < n ∧ k' ≠ k ∧ P k' := by
  induction n with
  | zero => omega
  | succ n ih =>
    by_cases g : P n
    · rw [nct_t g] at h
      by_cases q : k = n
      · have hp : 0 < nct P n := by omega
        obtain ⟨k', h3, h4⟩ := nct_pos.mp hp
        exact ⟨k', by omega, by omega, h4⟩
      · exact ⟨n, by omega, fun e => q e.symm, g⟩
    · rw [nct_f g] at h
      have q : k ≠ n := fun e => g (e ▸ h1)
      obtain ⟨k', a, b, d⟩ := ih (by omega) h
      exact ⟨k', by omega, b, d⟩
theorem cntI_nct {P : Nat → Prop} [DecidablePred P] {n : Nat} : cntI P n = nI (nct P n) := by
  induction n with
  | zero => rfl
  | succ n ih =>
    by_cases h : P n
    · rw [cntI_t h, nct_t h, ih, nI_1]
    · rw [cntI_f h, nct_f h, ih]
theorem nct_ct {p : Nat → Bool} {n : Nat} : fb_ct p n = nct (fun k => p k = true) n := by
  induction n with
  | zero => rfl
  | succ n ih =>
    rw [fb_ct_succ, ih]
    by_cases h : p n = true
    · rw [nct_t h, if_pos h]
    · rw [nct_f h, if_neg h]; rfl
theorem nct_ext {P : Nat → Prop} {n m : Nat} (h : ∀ k, n ≤ k → ¬ P k) : nct P (n + m) = nct P n := by
  induction m with
  | zero => rfl
  | succ m ih =>
    show nct P (n + m + 1) = _
    rw [nct_f (h _ (by omega)), ih]
