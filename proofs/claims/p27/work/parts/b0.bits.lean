/-! bits (rows of the kit's BITS and COUNTS families stand first, pasted as they may be) -/
def bt (x : Int32) (i : Nat) : Bool := x.toBitVec.getLsbD i
theorem b_ext {x y : Int32} (h : ∀ i, i < 32 → bt x i = bt y i) : x = y := Int32.toBitVec_inj.mp (BitVec.eq_of_getLsbD_eq (fun i hi => h i hi))
theorem b_or (x y : Int32) (i : Nat) : bt (x ||| y) i = (bt x i || bt y i) := by unfold bt; rw [Int32.toBitVec_or, BitVec.getLsbD_or]
theorem b_and (x y : Int32) (i : Nat) : bt (x &&& y) i = (bt x i && bt y i) := by unfold bt; rw [Int32.toBitVec_and, BitVec.getLsbD_and]
theorem b_xor (x y : Int32) (i : Nat) : bt (x ^^^ y) i = (bt x i ^^ bt y i) := by unfold bt; rw [Int32.toBitVec_xor, BitVec.getLsbD_xor]
theorem b_big {x : Int32} {i : Nat} (h : 32 ≤ i) : bt x i = false := BitVec.getLsbD_of_ge _ _ h
theorem b_255 (i : Nat) : bt 255 i = decide (i < 8) := by
  rcases Nat.lt_or_ge i 32 with h | h
  · exact (by decide +kernel : ∀ i, i < 32 → bt 255 i = decide (i < 8)) i h
  · rw [b_big h, decide_eq_false (by omega)]
theorem b_65535 (i : Nat) : bt 65535 i = decide (i < 16) := by
  rcases Nat.lt_or_ge i 32 with h | h
  · exact (by decide +kernel : ∀ i, i < 32 → bt 65535 i = decide (i < 16)) i h
  · rw [b_big h, decide_eq_false (by omega)]
theorem b_m1 : ∀ i, i < 32 → bt (-1) i = true := by decide +kernel
theorem b_0 (i : Nat) : bt 0 i = false := BitVec.getLsbD_zero
theorem s_l : ∀ n, n < 32 → ((nI n &&& 31).toBitVec.smod 32).toNat = n := by decide +kernel
theorem s_u : ∀ n, n < 32 → (((nI n).toUInt32 &&& Int32.toUInt32 31).toBitVec % 32).toNat = n := by decide +kernel
theorem b_shl (n : Nat) (hn : n < 32) (x : Int32) {i : Nat} (hi : i < 32) : bt (x <<< (nI n &&& 31)) i = (decide (n ≤ i) && bt x (i - n)) := by
  unfold bt
  rw [Int32.toBitVec_shiftLeft]
  show (x.toBitVec <<< ((nI n &&& 31).toBitVec.smod 32).toNat).getLsbD i = _
  rw [s_l n hn, BitVec.getLsbD_shiftLeft]
  rcases Nat.lt_or_ge i n with h | h
  · simp [h, Nat.not_le.mpr h]
  · simp [hi, h, Nat.not_lt.mpr h]
theorem b_ushr (n : Nat) (hn : n < 32) (x : Int32) (i : Nat) : bt ((x.toUInt32 >>> ((nI n).toUInt32 &&& Int32.toUInt32 31)).toInt32) i = bt x (n + i) := by
  show (x.toUInt32 >>> ((nI n).toUInt32 &&& Int32.toUInt32 31)).toBitVec.getLsbD i = x.toUInt32.toBitVec.getLsbD (n + i)
  rw [UInt32.toBitVec_shiftRight]
  show (x.toUInt32.toBitVec >>> (((nI n).toUInt32 &&& Int32.toUInt32 31).toBitVec % 32).toNat).getLsbD i = _
  rw [s_u n hn, BitVec.getLsbD_ushiftRight]
theorem b_sshr (n : Nat) (hn : n < 32) (x : Int32) {i : Nat} (hi : i < 32) : bt (x >>> (nI n &&& 31)) i = if n + i < 32 then bt x (n + i) else bt x 31 := by
  unfold bt
  rw [Int32.toBitVec_shiftRight]
  show (x.toBitVec.sshiftRight ((nI n &&& 31).toBitVec.smod 32).toNat).getLsbD i = _
  rw [s_l n hn, BitVec.getLsbD_sshiftRight, BitVec.msb_eq_getLsbD_last]
  simp [hi]
theorem nf_sh : ∀ l, l < 32 → ((1 : Int32) <<< (nI l &&& 31)).toBitVec = BitVec.twoPow 32 l := by decide +kernel
theorem wb_tb (n : Nat) : (lN n).toBitVec = BitVec.ofNat 64 n := rfl
theorem wb_inj {a b : Int64} (h : a.toBitVec = b.toBitVec) : a = b := Int64.toBitVec_inj.mp h
theorem wb_tn {n : Nat} (h : n < 2 ^ 64) : (lN n).toBitVec.toNat = n := by rw [wb_tb, BitVec.toNat_ofNat, Nat.mod_eq_of_lt h]
theorem wb_of (x : Int64) : ∃ n, n < 2 ^ 64 ∧ x = lN n := ⟨x.toBitVec.toNat, x.toBitVec.isLt, wb_inj (by rw [wb_tb]; simp)⟩
theorem wb_of32 (x : Int32) : ∃ n, n < 2 ^ 32 ∧ x = nI n := ⟨x.toBitVec.toNat, x.toBitVec.isLt, Int32.toBitVec_inj.mp (by show _ = BitVec.ofNat 32 _; simp)⟩
theorem wb_c : ∀ k, k < 64 → ((nI k).toInt64 &&& 63) = lN k := by decide +kernel
theorem wb_cu : ∀ k, k < 64 → ((nI k).toInt64.toUInt64 &&& Int64.toUInt64 63) = UInt64.ofNat k := by decide +kernel
theorem wb_sm : ∀ k, k < 64 → (BitVec.ofNat 64 k).smod 64 = BitVec.ofNat 64 k := by decide +kernel
theorem wb_pw {a b : Nat} (h : a ≤ b) : 2 ^ b = 2 ^ a * 2 ^ (b - a) := by rw [← Nat.pow_add]; congr 1; omega
theorem wb_lt2 {a b : Nat} (h : a < b) : 2 ^ a < 2 ^ b := Nat.pow_lt_pow_right (by decide) h
theorem wb_mod (n : Nat) : lN n = lN (n % 2 ^ 64) := wb_inj (by rw [wb_tb, wb_tb]; apply BitVec.eq_of_toNat_eq; rw [BitVec.toNat_ofNat, BitVec.toNat_ofNat, Nat.mod_mod])
theorem wb_shr {n k : Nat} (hn : n < 2 ^ 64) (hk : k < 64) : ((lN n).toUInt64 >>> ((nI k).toInt64.toUInt64 &&& Int64.toUInt64 63)).toInt64 = lN (n / 2 ^ k) := by
  rw [wb_cu k hk]
  apply wb_inj
  apply BitVec.eq_of_toNat_eq
  show ((lN n).toUInt64 >>> UInt64.ofNat k).toNat = (BitVec.ofNat 64 _).toNat
  have h1 : (UInt64.ofNat k).toNat = k := by
    show (BitVec.ofNat 64 k).toNat = k
    rw [BitVec.toNat_ofNat, Nat.mod_eq_of_lt (by omega)]
  have h2 : (lN n).toUInt64.toNat = n := wb_tn hn
  rw [UInt64.toNat_shiftRight, h1, h2, Nat.mod_eq_of_lt hk, Nat.shiftRight_eq_div_pow, BitVec.toNat_ofNat, Nat.mod_eq_of_lt (Nat.lt_of_le_of_lt (Nat.div_le_self _ _) hn)]
theorem wb_shl (n : Nat) {k : Nat} (hk : k < 64) : lN n <<< ((nI k).toInt64 &&& 63) = lN (n * 2 ^ k) := by
  rw [wb_c k hk]
  apply wb_inj
  rw [Int64.toBitVec_shiftLeft, wb_tb, wb_tb, wb_tb, wb_sm k hk]
  apply BitVec.eq_of_toNat_eq
  rw [BitVec.shiftLeft_eq', BitVec.toNat_shiftLeft, BitVec.toNat_ofNat, BitVec.toNat_ofNat, BitVec.toNat_ofNat, Nat.mod_eq_of_lt (show k < 2 ^ 64 by omega), Nat.shiftLeft_eq, Nat.mul_mod, Nat.mod_mod, ← Nat.mul_mod]
theorem wb_and {a b : Nat} (ha : a < 2 ^ 64) (hb : b < 2 ^ 64) : lN a &&& lN b = lN (a &&& b) := by
  apply wb_inj
  rw [Int64.toBitVec_and, wb_tb, wb_tb, wb_tb]
  apply BitVec.eq_of_toNat_eq
  rw [BitVec.toNat_and, BitVec.toNat_ofNat, BitVec.toNat_ofNat, BitVec.toNat_ofNat, Nat.mod_eq_of_lt ha, Nat.mod_eq_of_lt hb, Nat.mod_eq_of_lt (Nat.and_lt_two_pow _ hb)]
theorem wb_or {a b : Nat} (ha : a < 2 ^ 64) (hb : b < 2 ^ 64) : lN a ||| lN b = lN (a ||| b) := by
  apply wb_inj
  rw [Int64.toBitVec_or, wb_tb, wb_tb, wb_tb]
  apply BitVec.eq_of_toNat_eq
  rw [BitVec.toNat_or, BitVec.toNat_ofNat, BitVec.toNat_ofNat, BitVec.toNat_ofNat, Nat.mod_eq_of_lt ha, Nat.mod_eq_of_lt hb, Nat.mod_eq_of_lt (Nat.or_lt_two_pow ha hb)]
theorem wb_mask {n k : Nat} (hn : n < 2 ^ 64) (hk : k < 64) : lN n &&& lN (2 ^ k - 1) = lN (n % 2 ^ k) := by
  rw [wb_and hn (by have := wb_lt2 hk; omega), Nat.and_two_pow_sub_one_eq_mod]
theorem wb_a1 {n : Nat} (hn : n < 2 ^ 64) : lN n &&& 1 = lN (n % 2) := wb_mask (k := 1) hn (by decide)
theorem wb_bit {n k : Nat} (hn : n < 2 ^ 64) (hk : k < 64) : ((lN n).toUInt64 >>> ((nI k).toInt64.toUInt64 &&& Int64.toUInt64 63)).toInt64 &&& 1 = lN (n / 2 ^ k % 2) := by
  rw [wb_shr hn hk, wb_a1 (Nat.lt_of_le_of_lt (Nat.div_le_self _ _) hn)]
def fb_ct (p : Nat → Bool) : Nat → Nat
  | 0 => 0
  | n + 1 => fb_ct p n + (if p n then 1 else 0)
theorem fb_ct_succ (p : Nat → Bool) (n : Nat) : fb_ct p (n + 1) = fb_ct p n + (if p n then 1 else 0) := rfl
theorem fb_ct_le (p : Nat → Bool) : ∀ n, fb_ct p n ≤ n
  | 0 => Nat.le_refl _
  | n + 1 => by
    have h := fb_ct_le p n
    rw [fb_ct_succ]
    split <;> omega
theorem fb_ct_step (p : Nat → Bool) (m : Nat) : ∀ n, fb_ct p m ≤ fb_ct p (m + n)
  | 0 => Nat.le_refl _
  | n + 1 => by
    have h := fb_ct_step p m n
    show fb_ct p m ≤ fb_ct p (m + n + 1)
    rw [fb_ct_succ]
    omega
theorem fb_ct_mono (p : Nat → Bool) {m n : Nat} (h : m ≤ n) : fb_ct p m ≤ fb_ct p n := by
  have := fb_ct_step p m (n - m)
  rwa [Nat.add_sub_cancel' h] at this
theorem fb_ct_cong {p q : Nat → Bool} : ∀ {n : Nat}, (∀ k, k < n → p k = q k) → fb_ct p n = fb_ct q n
  | 0, _ => rfl
  | n + 1, h => by
    rw [fb_ct_succ, fb_ct_succ, fb_ct_cong (fun k hk => h k (by omega)), h n (by omega)]
/-- one place changed -/
theorem fb_ct_out (p : Nat → Bool) (b : Bool) {i n : Nat} (h : n ≤ i) : fb_ct (fun k => if k = i then b else p k) n = fb_ct p n :=
  fb_ct_cong fun k hk => if_neg (by omega)
theorem fb_ct_upd (p : Nat → Bool) (b : Bool) {i : Nat} : ∀ {n : Nat}, i < n → fb_ct (fun k => if k = i then b else p k) n + (if p i then 1 else 0) = fb_ct p n + (if b then 1 else 0)
  | 0, h => absurd h (Nat.not_lt_zero i)
  | n + 1, h => by
    rw [fb_ct_succ, fb_ct_succ]
    rcases Nat.lt_or_ge i n with q | q
    · have := fb_ct_upd p b q
      have e : (if n = i then b else p n) = p n := if_neg (by omega)
      rw [e]
      omega
    · have e : i = n := by omega
      subst e
      rw [fb_ct_out p b (Nat.le_refl _)]
      simp only [if_true]
      omega
theorem fb_ct_sub {p q : Nat → Bool} : ∀ {n : Nat}, (∀ k, k < n → p k = true → q k = true) → fb_ct p n ≤ fb_ct q n
  | 0, _ => Nat.le_refl _
  | n + 1, h => by
    have h1 := fb_ct_sub (n := n) (p := p) (q := q) (fun k hk => h k (by omega))
    have h2 := h n (by omega)
    rw [fb_ct_succ, fb_ct_succ]
    cases hp : p n <;> cases hq : q n <;> simp_all <;> omega
theorem fb_ct_or {p q : Nat → Bool} : ∀ {n : Nat}, (∀ k, k < n → ¬ (p k = true ∧ q k = true)) → fb_ct (fun k => p k || q k) n = fb_ct p n + fb_ct q n
  | 0, _ => rfl
  | n + 1, h => by
    have h1 := fb_ct_or (n := n) (p := p) (q := q) (fun k hk => h k (by omega))
    have h2 := h n (by omega)
    rw [fb_ct_succ, fb_ct_succ, fb_ct_succ, h1]
    cases hp : p n <;> cases hq : q n <;> simp_all <;> omega
theorem fb_ct_not (p : Nat → Bool) : ∀ n, fb_ct p n + fb_ct (fun k => !p k) n = n
  | 0 => rfl
  | n + 1 => by
    have h := fb_ct_not p n
    rw [fb_ct_succ, fb_ct_succ]
    cases p n <;> simp <;> omega
theorem fb_ct_split (p : Nat → Bool) (m : Nat) : ∀ n, fb_ct p (m + n) = fb_ct p m + fb_ct (fun k => p (m + k)) n
  | 0 => rfl
  | n + 1 => by
    have h := fb_ct_split p m n
    show fb_ct p (m + n + 1) = _
    rw [fb_ct_succ, fb_ct_succ, h, Nat.add_assoc]
theorem fb_ct_zero {p : Nat → Bool} : ∀ {n : Nat}, fb_ct p n = 0 ↔ ∀ k, k < n → p k = false
  | 0 => ⟨fun _ k hk => absurd hk (Nat.not_lt_zero k), fun _ => rfl⟩
  | n + 1 => by
    have h := fb_ct_zero (p := p) (n := n)
    rw [fb_ct_succ]
    constructor
    · intro e k hk
      have e1 : fb_ct p n = 0 := by omega
      rcases Nat.lt_or_ge k n with q | q
      · exact h.mp e1 k q
      · have ek : k = n := by omega
        subst ek
        cases hp : p k
        · rfl
        · simp [hp] at e
    · intro a
      rw [h.mpr (fun k hk => a k (by omega)), a n (by omega)]
      rfl
theorem fb_ct_pos {p : Nat → Bool} {n : Nat} : 0 < fb_ct p n ↔ ∃ k, k < n ∧ p k = true := by
  constructor
  · intro h
    refine Classical.byContradiction fun hx => ?_
    have := fb_ct_zero.mpr (fun k hk => by
      cases hp : p k
      · rfl
      · exact absurd ⟨k, hk, hp⟩ hx : ∀ k, k < n → p k = false)
    omega
  · rintro ⟨k, hk, hp⟩
    rcases Nat.eq_zero_or_pos (fb_ct p n) with e | e
    · have := fb_ct_zero.mp e k hk
      rw [this] at hp
      cases hp
    · exact e
theorem fb_ct_all {p : Nat → Bool} {n : Nat} : fb_ct p n = n ↔ ∀ k, k < n → p k = true := by
  have h := fb_ct_not p n
  constructor
  · intro e k hk
    have z : fb_ct (fun k => !p k) n = 0 := by omega
    have := fb_ct_zero.mp z k hk
    cases hp : p k
    · simp [hp] at this
    · rfl
  · intro a
    have z : fb_ct (fun k => !p k) n = 0 := fb_ct_zero.mpr (fun k hk => by simp [a k hk])
    omega
/-- the k-th place with the property -/
theorem fb_ct_kth {p : Nat → Bool} {k : Nat} : ∀ {n : Nat}, k < fb_ct p n → ∃ i, i < n ∧ p i = true ∧ fb_ct p i = k
  | 0, h => absurd h (Nat.not_lt_zero k)
  | n + 1, h => by
    rcases Nat.lt_or_ge k (fb_ct p n) with q | q
    · obtain ⟨i, h1, h2⟩ := fb_ct_kth q
      exact ⟨i, by omega, h2⟩
    · rw [fb_ct_succ] at h
      cases hp : p n
      · simp [hp] at h; omega
      · simp [hp] at h
        exact ⟨n, by omega, hp, by omega⟩
theorem fb_ct_kth_one {p : Nat → Bool} {i j : Nat} (hi : p i = true) (hj : p j = true) (e : fb_ct p i = fb_ct p j) : i = j := by
  have key : ∀ a b : Nat, a < b → p a = true → fb_ct p a < fb_ct p b := by
    intro a b hab ha
    have h := fb_ct_mono p (show a + 1 ≤ b from hab)
    rw [fb_ct_succ, ha] at h
    simp at h
    omega
  rcases Nat.lt_trichotomy i j with q | q | q
  · have := key i j q hi; omega
  · exact q
  · have := key j i q hj; omega
/-! ===== sums over a range: one place changed, parts, bounds ===== -/
theorem bt_1 : ∀ i, i < 32 → bt 1 i = decide (i = 0) := by decide +kernel
theorem bt_bit {n i : Nat} (hn : n < 32) (hi : i < 32) : bt ((1 : Int32) <<< (nI n &&& 31)) i = decide (i = n) := by
  rw [b_shl n hn 1 hi]
  by_cases h : n ≤ i
  · rw [bt_1 _ (by omega)]
    by_cases q : i = n
    · subst q; simp
    · have : ¬ i - n = 0 := by omega
      simp [h, q, this]
  · have q : ¬ i = n := by omega
    simp [h, q]
theorem bt_nbit {n i : Nat} (hn : n < 32) (hi : i < 32) : bt (((1 : Int32) <<< (nI n &&& 31)) ^^^ (-1)) i = !decide (i = n) := by
  rw [b_xor, bt_bit hn hi, b_m1 i hi]
  simp
theorem opn_bt {cl : Int32} {e : Nat} (he : e < 32) : opn cl e ↔ bt cl e = false := by
  unfold opn
  constructor
  · intro h
    have t := congrArg (fun x => bt x e) h
    simp only [b_and, bt_bit he he, b_0] at t
    simpa using t
  · intro h
    apply b_ext
    intro i hi
    rw [b_and, bt_bit he hi, b_0]
    by_cases q : i = e
    · subst q; simp [h]
    · simp [q]
/-! Int64 by its bits -/
def bJ (x : Int64) (i : Nat) : Bool := x.toBitVec.getLsbD i
theorem bJ_ext {x y : Int64} (h : ∀ i, i < 64 → bJ x i = bJ y i) : x = y := Int64.toBitVec_inj.mp (BitVec.eq_of_getLsbD_eq (fun i hi => h i hi))
theorem bJ_or (x y : Int64) (i : Nat) : bJ (x ||| y) i = (bJ x i || bJ y i) := by unfold bJ; rw [Int64.toBitVec_or, BitVec.getLsbD_or]
theorem bJ_and (x y : Int64) (i : Nat) : bJ (x &&& y) i = (bJ x i && bJ y i) := by unfold bJ; rw [Int64.toBitVec_and, BitVec.getLsbD_and]
theorem bJ_xor (x y : Int64) (i : Nat) : bJ (x ^^^ y) i = (bJ x i ^^ bJ y i) := by unfold bJ; rw [Int64.toBitVec_xor, BitVec.getLsbD_xor]
theorem bJ_0 (i : Nat) : bJ 0 i = false := BitVec.getLsbD_zero
theorem bJ_m1 : ∀ i, i < 64 → bJ (-1) i = true := by decide +kernel
theorem tw64 : ∀ n, n < 64 → ((1 : Int64) <<< ((nI n).toInt64 &&& 63)).toBitVec = BitVec.twoPow 64 n := by decide +kernel
theorem bJ_bit {n i : Nat} (hn : n < 64) (hi : i < 64) : bJ ((1 : Int64) <<< ((nI n).toInt64 &&& 63)) i = decide (i = n) := by
  unfold bJ
  rw [tw64 n hn, BitVec.getLsbD_twoPow]
  by_cases q : i = n
  · subst q; simp [hi]
  · have : ¬ n = i := fun h => q h.symm
    simp [q, this]
theorem bJ_nbit {n i : Nat} (hn : n < 64) (hi : i < 64) : bJ (((1 : Int64) <<< ((nI n).toInt64 &&& 63)) ^^^ (-1)) i = !decide (i = n) := by
  rw [bJ_xor, bJ_bit hn hi, bJ_m1 i hi]
  simp
theorem bJ_neg (x : Int64) {i : Nat} (hi : i < 64) : bJ (-x) i = (bJ x i ^^ decide (∃ j, j < i ∧ bJ x j = true)) := by
  unfold bJ
  rw [Int64.toBitVec_neg, BitVec.getLsbD_neg]
  simp [hi]
/-- the lowest bit -/
theorem low_bit {x : Int64} {k : Nat} (hk : k < 64) (h : bJ x k = true) : (x &&& (-x) = (1 : Int64) <<< ((nI k).toInt64 &&& 63)) ↔ ∀ j, j < k → bJ x j = false := by
  constructor
  · intro e j hj
    have hl : ∀ m, m < 64 → bJ x m = true → (∀ q, q < m → bJ x q = false) → m = k := by
      intro m hm h1 h2
      have t := congrArg (fun y => bJ y m) e
      simp only [bJ_and, bJ_neg x hm, bJ_bit hk hm, h1] at t
      have z : decide (∃ q, q < m ∧ bJ x q = true) = false := by
        simp only [decide_eq_false_iff_not]
        rintro ⟨q, h3, h4⟩
        rw [h2 q h3] at h4
        exact absurd h4 (by decide)
      rw [z] at t
      simpa using t
    have hall : ∀ q, q < k → bJ x q = false := by
      intro q
      induction q using Nat.strongRecOn with
      | _ q ih =>
        intro hq
        cases hb : bJ x q with
        | false => rfl
        | true =>
          have := hl q (by omega) hb (fun z hz => ih z hz (by omega))
          omega
    exact hall j hj
  · intro hlow
    apply bJ_ext
    intro i hi
    rw [bJ_and, bJ_neg x hi, bJ_bit hk hi]
    by_cases q : i = k
    · subst q
      have z : decide (∃ j, j < i ∧ bJ x j = true) = false := by
        simp only [decide_eq_false_iff_not]
        rintro ⟨j, h3, h4⟩
        rw [hlow j h3] at h4
        exact absurd h4 (by decide)
      rw [z, h]
      simp
    · by_cases g : i < k
      · rw [hlow i g]; simp [q]
      · have z : decide (∃ j, j < i ∧ bJ x j = true) = true := by
          simp only [decide_eq_true_eq]
          exact ⟨k, by omega, h⟩
        rw [z]
        cases bJ x i <;> simp [q]
/-! how many bits: the library's way, byte by byte -/
def dgm (c : Nat) : Nat → Nat
  | 0 => 0
  | n + 1 => c + 256 * dgm c n
def pA (n m : Nat) : Nat := m - (m / 2 &&& dgm 0x55 n)
def pB (n m : Nat) : Nat := (m &&& dgm 0x33 n) + (m / 4 &&& dgm 0x33 n)
def pC (n m : Nat) : Nat := (m + m / 16) &&& dgm 0x0f n
theorem and_dg {a b c d : Nat} (ha : a < 256) (hc : c < 256) : (a + 256 * b) &&& (c + 256 * d) = (a &&& c) + 256 * (b &&& d) := by
  have hac : a &&& c < 256 := Nat.lt_of_le_of_lt Nat.and_le_left ha
  apply Nat.eq_of_testBit_eq
  intro i
  rw [Nat.testBit_and, Nat.add_comm a, Nat.add_comm c, Nat.add_comm (a &&& c), show (256 : Nat) = 2 ^ 8 from rfl, Nat.testBit_two_pow_mul_add _ ha, Nat.testBit_two_pow_mul_add _ hc, Nat.testBit_two_pow_mul_add _ hac]
  by_cases h : i < 8
  · simp only [h, if_true, ite_true]; rw [Nat.testBit_and]
  · simp only [h, if_false, ite_false]; rw [Nat.testBit_and]
theorem tb_A : ∀ e, e < 2 → ∀ d, d < 256 → (128 * e + d / 2) &&& 0x55 = d / 2 &&& 0x55 := by decide +kernel
theorem tb_B : ∀ e, e < 4 → ∀ d, d < 256 → (64 * e + d / 4) &&& 0x33 = d / 4 &&& 0x33 := by decide +kernel
def b8A (d : Nat) : Nat := d - (d / 2 &&& 0x55)
def b8B (d : Nat) : Nat := (d &&& 0x33) + (d / 4 &&& 0x33)
def b8C (d : Nat) : Nat := (d + d / 16) &&& 0x0f
theorem tb_n : ∀ d, d < 256 → b8B (b8A d) % 16 ≤ 4 ∧ b8B (b8A d) / 16 ≤ 4 ∧ b8A d < 256 ∧ b8C (b8B (b8A d)) = fb_ct (fun k => d.testBit k) 8 ∧ b8C (b8B (b8A d)) < 256 := by decide +kernel
theorem tb_C : ∀ e, e < 5 → ∀ h, h < 5 → ∀ l, l < 5 → ((16 * h + l) + (16 * h + l) / 16 + 16 * e) &&& 0x0f = b8C (16 * h + l) := by decide +kernel
theorem pA_s {n q d : Nat} (hd : d < 256) : pA (n + 1) (d + 256 * q) = b8A d + 256 * pA n q := by
  unfold pA b8A
  show d + 256 * q - ((d + 256 * q) / 2 &&& (0x55 + 256 * dgm 0x55 n)) = _
  have e : (d + 256 * q) / 2 = (128 * (q % 2) + d / 2) + 256 * (q / 2) := by omega
  rw [e, and_dg (by omega) (by decide), tb_A _ (by omega) d hd]
  have h1 : d / 2 &&& 0x55 ≤ d / 2 := Nat.and_le_left
  have h2 : q / 2 &&& dgm 0x55 n ≤ q / 2 := Nat.and_le_left
  omega
theorem pB_s {n q d : Nat} (hd : d < 256) : pB (n + 1) (d + 256 * q) = b8B d + 256 * pB n q := by
  unfold pB b8B
  show ((d + 256 * q) &&& (0x33 + 256 * dgm 0x33 n)) + ((d + 256 * q) / 4 &&& (0x33 + 256 * dgm 0x33 n)) = _
  have e : (d + 256 * q) / 4 = (64 * (q % 4) + d / 4) + 256 * (q / 4) := by omega
  rw [e, and_dg hd (by decide), and_dg (by omega) (by decide), tb_B _ (by omega) d hd]
  omega
theorem pC_s {n q d : Nat} (hd1 : d % 16 ≤ 4) (hd2 : d / 16 ≤ 4) (hq : q % 16 ≤ 4) : pC (n + 1) (d + 256 * q) = b8C d + 256 * pC n q := by
  unfold pC
  show (d + 256 * q + (d + 256 * q) / 16) &&& (0x0f + 256 * dgm 0x0f n) = _
  have e : d + 256 * q + (d + 256 * q) / 16 = (d + d / 16 + 16 * (q % 16)) + 256 * (q + q / 16) := by omega
  rw [e, and_dg (by omega) (by decide)]
  have e2 := tb_C (q % 16) (by omega) (d / 16) (by omega) (d % 16) (by omega)
  rw [show 16 * (d / 16) + d % 16 = d by omega] at e2
  rw [e2]
def cs : Nat → Nat → Nat
  | 0, _ => 0
  | n + 1, m => fb_ct (fun k => (m % 256).testBit k) 8 + 256 * cs n (m / 256)
theorem pABC {n : Nat} : ∀ {m : Nat}, m < 256 ^ n → pB n (pA n m) % 16 ≤ 4 ∧ pC n (pB n (pA n m)) = cs n m := by
  induction n with
  | zero =>
    intro m hm
    have : m = 0 := by simpa using hm
    subst this
    exact ⟨by decide, by decide⟩
  | succ n ih =>
    intro m hm
    have hq : m / 256 < 256 ^ n := by
      rw [Nat.pow_succ] at hm
      exact Nat.div_lt_of_lt_mul (by rw [Nat.mul_comm]; exact hm)
    obtain ⟨h1, h2⟩ := ih hq
    have ht := tb_n (m % 256) (by omega)
    have e : m = m % 256 + 256 * (m / 256) := by omega
    have eA : pA (n + 1) m = b8A (m % 256) + 256 * pA n (m / 256) := by
      have := pA_s (n := n) (q := m / 256) (d := m % 256) (by omega)
      rwa [← e] at this
    rw [eA, pB_s ht.2.2.1]
    refine ⟨by omega, ?_⟩
    rw [pC_s ht.1 ht.2.1 h1, h2, ht.2.2.2.1]
    rfl
theorem cs_8 {m : Nat} : ∃ c0 c1 c2 c3 c4 c5 c6 c7 : Nat, cs 8 m = c0 + 256 * (c1 + 256 * (c2 + 256 * (c3 + 256 * (c4 + 256 * (c5 + 256 * (c6 + 256 * c7)))))) ∧ c0 ≤ 8 ∧ c1 ≤ 8 ∧ c2 ≤ 8 ∧ c3 ≤ 8 ∧ c4 ≤ 8 ∧ c5 ≤ 8 ∧ c6 ≤ 8 ∧ c7 ≤ 8 ∧ c0 + (c1 + (c2 + (c3 + (c4 + (c5 + (c6 + c7)))))) = fb_ct (fun k => m.testBit k) 64 := by
  have hs : ∀ (x j : Nat), fb_ct (fun k => x.testBit k) (8 + j) = fb_ct (fun k => (x % 256).testBit k) 8 + fb_ct (fun k => (x / 256).testBit k) j := by
    intro x j
    rw [fb_ct_split]
    congr 1
    · apply fb_ct_cong
      intro k hk
      show x.testBit k = (x % 2 ^ 8).testBit k
      rw [Nat.testBit_mod_two_pow]
      simp [hk]
    · apply fb_ct_cong
      intro k _
      show x.testBit (8 + k) = (x / 2 ^ 8).testBit k
      rw [Nat.testBit_div_two_pow, Nat.add_comm]
  refine ⟨_, _, _, _, _, _, _, _, rfl, ?_, ?_, ?_, ?_, ?_, ?_, ?_, ?_, ?_⟩
  · exact fb_ct_le _ 8
  · exact fb_ct_le _ 8
  · exact fb_ct_le _ 8
  · exact fb_ct_le _ 8
  · exact fb_ct_le _ 8
  · exact fb_ct_le _ 8
  · exact fb_ct_le _ 8
  · show _ + 256 * 0 ≤ 8
    exact fb_ct_le _ 8
  · rw [show (64 : Nat) = 8 + (8 + (8 + (8 + (8 + (8 + (8 + (8 + 0))))))) from rfl, hs, hs, hs, hs, hs, hs, hs, hs]
    rfl
