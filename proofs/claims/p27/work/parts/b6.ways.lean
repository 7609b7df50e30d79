/-! ways, detours, blame -/
section KF
variable {c : Nat → Nat} {i i' : Nat → Nat → Int32} {j : Nat → Nat → Int64} {p : Nat → Nat → Option Nat} {r r' R : Nat → Nat → Int32} {M N : Nat}
theorem wk_rev {E : Nat → Nat → Nat → Prop} (hE : ∀ a b t, E a b t → E b a t) : ∀ (s a b n : Nat), wk E s a b n → Rch E b a n
  | 0, a, b, n, h => by
    obtain ⟨rfl, rfl⟩ := h
    exact Rch.rf
  | s + 1, a, b, n, ⟨m, n', h1, t, e, h2⟩ => by
    have h3 := wk_rev hE s a m n' h1
    have h4 : Rch E b m (0 + t) := Rch.step Rch.rf (hE _ _ _ e)
    have h5 := h4.trans h3
    rw [h2, show n' + t = 0 + t + n' by omega]
    exact h5
theorem Rch.rev {E : Nat → Nat → Nat → Prop} (hE : ∀ a b t, E a b t → E b a t) {a b n : Nat} (h : Rch E a b n) : Rch E b a n := by
  obtain ⟨s, h⟩ := h
  exact wk_rev hE s a b n h
theorem dst_sym {E : Nat → Nat → Nat → Prop} (hE : ∀ a b t, E a b t → E b a t) (a b : Nat) : dst E a b = dst E b a := by
  refine dst_eq ?_
  rcases dst_is (E := E) (a := a) (b := b) with ⟨h1, h2, h3⟩ | ⟨h1, h2⟩
  · exact Or.inl ⟨h1, h2.rev hE, fun m hm => h3 m (hm.rev hE)⟩
  · exact Or.inr ⟨h1, fun m hm => h2 m (hm.rev hE)⟩
theorem dst_of {E : Nat → Nat → Nat → Prop} {a b n : Nat} (h : Rch E a b n) : dst E a b ≤ n := by
  rcases dst_is (E := E) (a := a) (b := b) with ⟨-, -, h3⟩ | ⟨h1, h2⟩
  · exact h3 n h
  · rw [h1]; exact h2 n h
theorem dst_mono {E E' : Nat → Nat → Nat → Prop} (hE : ∀ m b t, E m b t → E' m b t) {a b : Nat} : dst E' a b ≤ dst E a b := by
  rcases dst_is (E := E) (a := a) (b := b) with ⟨-, h2, -⟩ | ⟨h1, -⟩
  · exact dst_of (h2.mono hE)
  · rw [h1]; exact dst_le _ _ _
theorem Rch_pos {E : Nat → Nat → Nat → Prop} (hE : ∀ a b t, E a b t → 1 ≤ t) {a b n : Nat} (h : Rch E a b n) (hab : a ≠ b) : 1 ≤ n := by
  obtain ⟨s, h⟩ := h
  cases s with
  | zero => exact absurd h.1 hab
  | succ s =>
    obtain ⟨m, n', -, t, e, h2⟩ := h
    have := hE _ _ _ e
    omega
theorem dst_pos {E : Nat → Nat → Nat → Prop} (hE : ∀ a b t, E a b t → 1 ≤ t) {a b : Nat} (hab : a ≠ b) : 1 ≤ dst E a b := by
  rcases dst_is (E := E) (a := a) (b := b) with ⟨-, h2, -⟩ | ⟨h1, -⟩
  · exact Rch_pos hE h2 hab
  · rw [h1]; decide
theorem Ed_sym {on ot tk : Nat → Int32} {cl : Int32} {m : Nat} : ∀ a b t, Ed on ot tk cl m a b t → Ed on ot tk cl m b a t := by
  rintro a b t ⟨e, h1, h2, h3, h4, h5, h6, h7⟩
  exact ⟨e, h1, h2, h3, h4, h6, h5, h7.symm.elim Or.inl Or.inr⟩
theorem KLn.pos (h : KLn r M) {cl : Int32} {m : Nat} (hm : m ≤ M) : ∀ a b t, Ed (r 0) (r 1) (r 2) cl m a b t → 1 ≤ t := by
  rintro a b t ⟨e, h1, -, h3, h4, -⟩
  obtain ⟨x, y, t', -, -, g3, -, -, -, g7, g8⟩ := h e (by omega)
  have := nI_inj (by omega) (by omega) (g3.symm.trans h3)
  omega
/-- a way between two junctions -/
theorem KLn.way (h : KLn r M) {cl : Int32} {a b : Nat} (hab : a ≠ b) : wy (Ed (r 0) (r 1) (r 2) cl M) a b = wy (Ed (r 0) (r 1) (r 2) cl M) b a ∧ ¬ wy (Ed (r 0) (r 1) (r 2) cl M) a b = 0 := by
  refine ⟨?_, ?_⟩
  · unfold wy
    rw [dst_sym Ed_sym a b]
  · unfold wy
    have h1 := dst_pos (h.pos (cl := cl) (Nat.le_refl M)) hab
    by_cases g : dst (Ed (r 0) (r 1) (r 2) cl M) a b < FAR
    · rw [if_pos g]
      exact nI_ne0 h1 (by unfold FAR at g; omega)
    · rw [if_neg g]; decide
/-- a lane that is not closed -/
theorem KLn.lane (h : KLn r M) {cl : Int32} {e a b t : Nat} (he : e < M) (ho : opn cl e) (ha : r 0 e = nI a) (hb : r 1 e = nI b) (ht : r 2 e = nI t) (ha10 : a < 10) (hb10 : b < 10) (hab : a ≠ b) (ht30 : t ≤ 30) : ∃ d, 1 ≤ d ∧ d ≤ t ∧ wy (Ed (r 0) (r 1) (r 2) cl M) a b = nI d := by
  have h1 := dst_pos (h.pos (cl := cl) (Nat.le_refl M)) hab
  have h2 : Rch (Ed (r 0) (r 1) (r 2) cl M) a b (0 + t) := Rch.step Rch.rf ⟨e, he, ho, ht, ht30, ha10, hb10, Or.inl ⟨ha, hb⟩⟩
  have h3 := dst_of h2
  refine ⟨dst (Ed (r 0) (r 1) (r 2) cl M) a b, h1, by omega, if_pos ?_⟩
  unfold FAR
  omega
/-- lanes in a row join their ends -/
theorem row_dst {cl : Int32} {m : Nat} (h : ∀ e, e < m → e < M ∧ opn cl e ∧ r 0 e = nI e ∧ r 1 e = nI (e + 1) ∧ ∃ t, r 2 e = nI t ∧ t ≤ 30) (hm : m < 10) : ∀ a, a ≤ m → ∃ n, n ≤ 30 * a ∧ Rch (Ed (r 0) (r 1) (r 2) cl M) 0 a n := by
  intro a
  induction a with
  | zero => intro _; exact ⟨0, by omega, Rch.rf⟩
  | succ a ih =>
    intro ha
    obtain ⟨n, h1, h2⟩ := ih (by omega)
    obtain ⟨g1, g2, g3, g4, t, g5, g6⟩ := h a (by omega)
    exact ⟨n + t, by omega, h2.step ⟨a, g1, g2, g5, g6, by omega, by omega, Or.inl ⟨g3, g4⟩⟩⟩
theorem row_far {cl : Int32} {m : Nat} (h : ∀ e, e < m → e < M ∧ opn cl e ∧ r 0 e = nI e ∧ r 1 e = nI (e + 1) ∧ ∃ t, r 2 e = nI t ∧ t ≤ 30) (hm : m < 10) {a b : Nat} (ha : a ≤ m) (hb : b ≤ m) : dst (Ed (r 0) (r 1) (r 2) cl M) a b < FAR := by
  obtain ⟨n, h1, h2⟩ := row_dst h hm a ha
  obtain ⟨n', h1', h2'⟩ := row_dst h hm b hb
  have := dst_of ((h2.rev Ed_sym).trans h2')
  unfold FAR
  omega
theorem wy_near {E : Nat → Nat → Nat → Prop} {a b : Nat} (h : dst E a b < FAR) : ¬ wy E a b = -1 := by
  unfold wy
  rw [if_pos h]
  exact fun e => nI_nm1 (by unfold FAR at h; omega) e.symm
theorem wy_self {E : Nat → Nat → Nat → Prop} {a : Nat} : wy E a a = 0 := by
  unfold wy
  rw [dst_self, if_pos (by decide)]
  rfl
theorem wy_none {on ot tk : Nat → Int32} {cl : Int32} {a b : Nat} (hab : a ≠ b) : wy (Ed on ot tk cl 0) a b = -1 := by
  unfold wy
  refine if_neg ?_
  have hz : ∀ s n, ¬ wk (Ed on ot tk cl 0) s a b n := by
    intro s n hw
    cases s with
    | zero => exact hab hw.1
    | succ s =>
      obtain ⟨m, n', -, t, ⟨e, he, -⟩, -⟩ := hw
      omega
  rcases dst_is (E := Ed on ot tk cl 0) (a := a) (b := b) with ⟨-, ⟨s, h2⟩, -⟩ | ⟨h1, -⟩
  · exact absurd h2 (hz s _)
  · rw [h1]; exact Nat.lt_irrefl _
/-! closed lanes -/
theorem shr32 {x : Int32} {k : Nat} (hk : k < 32) : (x >>> (nI k &&& 31)) &&& 1 = if bt x k = true then 1 else 0 := by
  apply b_ext
  intro b hb
  rw [b_and, b_sshr k hk x hb, bt_1 b hb]
  by_cases h0 : b = 0
  · subst h0
    rw [if_pos (by omega)]
    show (bt x k && decide (0 = 0)) = _
    cases bt x k <;> decide
  · rw [decide_eq_false h0, Bool.and_false]
    split
    · rw [bt_1 b hb, decide_eq_false h0]
    · rw [b_0]
theorem closed_bit {x : Int32} {k : Nat} (hk : k < 32) : (bI (¬ (x &&& ((1 : Int32) <<< (nI k &&& 31)) = 0))) = if ((x >>> (nI k &&& 31)) &&& 1) = 1 then 1 else 0 := by
  rw [shr32 hk]
  have h := opn_bt (cl := x) (e := k) hk
  unfold opn at h
  cases hb : bt x k with
  | false =>
    rw [bI_f (P := ¬ (x &&& ((1 : Int32) <<< (nI k &&& 31)) = 0)) (fun z => z (h.mpr hb))]
    rfl
  | true =>
    rw [bI_t (P := ¬ (x &&& ((1 : Int32) <<< (nI k &&& 31)) = 0)) (fun z => by rw [h.mp z] at hb; exact absurd hb (by decide))]
    rfl
/-! a detour is not negative -/
theorem sum_pos {f : Nat → Int32} {n : Nat} (hn : n ≤ 6) (h : ∀ k, k < n → 0 ≤ (f k).toInt ∧ (f k).toInt ≤ 1000001) : 0 ≤ (sumI f n).toInt ∧ (sumI f n).toInt ≤ 1000001 * n := by
  induction n with
  | zero =>
    have e : (sumI f 0).toInt = 0 := rfl
    omega
  | succ n ih =>
    have ih := ih (by omega) (fun k hk => h k (by omega))
    have h1 := h n (by omega)
    rw [sumI_s, I_add (by omega) (by omega) (by omega) (by omega)]
    omega
theorem leg_pos {cl : Int32} {a b : Nat} : 0 ≤ (legI (Ed (r 0) (r 1) (r 2) 0 M) (Ed (r 0) (r 1) (r 2) cl M) a b).toInt ∧ (legI (Ed (r 0) (r 1) (r 2) 0 M) (Ed (r 0) (r 1) (r 2) cl M) a b).toInt ≤ 1000001 := by
  unfold legI wy
  by_cases hd : dst (Ed (r 0) (r 1) (r 2) cl M) a b < FAR
  · have h0 := dst_more Ed_sub hd
    have hm := dst_mono (a := a) (b := b) (Ed_sub (on := r 0) (ot := r 1) (tk := r 2) (cl := cl) (m := M))
    have hF : FAR = 1000000 := rfl
    rw [if_pos hd, if_pos h0, if_neg (fun e => absurd e.symm (nI_nm1 (by omega))), pk_sub hm, nI_toInt (by omega)]
    omega
  · rw [if_neg hd, if_pos rfl]
    decide
theorem KN.ex_pos (h : KN c i j p r M N) {l : Nat} (hl : l < c 0) {cl : Int32} : ∃ d, d ≤ 6000006 ∧ exL i r cl M l = nI d := by
  obtain ⟨n, hn, h0, -⟩ := h.li l hl
  have g := sum_pos (f := exF r l cl M) (n := n) (by omega) (fun k _ => leg_pos)
  have e : exL i r cl M l = sumI (exF r l cl M) n := by
    unfold exL exM
    rw [h0, tn_nI (by omega), Nat.add_sub_cancel]
  rw [e]
  have hb : ¬ sumI (exF r l cl M) n < 0 := by
    rw [Int32.lt_iff_toInt_lt, show (0 : Int32).toInt = 0 from rfl]
    omega
  obtain ⟨d, hd, he⟩ := nI_of hb
  refine ⟨d, ?_, he⟩
  rw [he, nI_toInt hd] at g
  omega
theorem sc_ex (hS : SC i r i' r') {cl : Int32} {l : Nat} : exL i' r' cl M l = exL i r cl M l := exL_same (hS.1 0 (by decide) (by decide)) (hS.2 0 (by omega)) (hS.2 1 (by omega)) (hS.2 2 (by omega)) (hS.2 (24 + l) (by omega))
/-! blame -/
theorem bd64 : ∀ m, m < 64 → bdI (nI m) = nI (fb_ct (fun k => m.testBit k) 6) := by decide +kernel
theorem pt64 : ∀ m, m < 64 → ∀ a, a < 6 → ((nI m >>> (nI a &&& 31)) &&& 1) = (if m.testBit a = true then 1 else 0) := by decide +kernel
theorem bt_nI {m a : Nat} (ha : a < 32) : bt (nI m) a = m.testBit a := by
  show (BitVec.ofNat 32 m).getLsbD a = _
  rw [BitVec.getLsbD_ofNat]
  simp [ha]
/-- the points of all -/
def ptS (r : Nat → Nat → Int32) : Nat → Int32
  | 0 => 0
  | n + 1 => ptS r n + r 3 n
theorem bl_64 (h : KN c i j p r M N) {k : Nat} : ∃ m, m < 64 ∧ blM i r M k (c 2) (c 2) = nI m := by
  obtain ⟨m, hm, e⟩ := wb_of32 (blM i r M k (c 2) (c 2))
  refine ⟨m, ?_, e⟩
  apply Nat.lt_pow_two_of_testBit (n := 6)
  intro a ha
  by_cases h32 : a < 32
  · cases hc : m.testBit a with
    | false => rfl
    | true =>
      have hb : bt (blM i r M k (c 2) (c 2)) a = true := by rw [e, bt_nI h32]; exact hc
      unfold blM at hb
      obtain ⟨q, g1, -, g3⟩ := (orM_bt h32 (fun q hq => by obtain ⟨x, h1, h2⟩ := h.cap q hq; exact ⟨x, by omega, h2⟩)).mp hb
      obtain ⟨x, h1, h2⟩ := h.cap q g1
      have := nI_inj (by omega) (by omega) (h2.symm.trans g3)
      omega
  · exact Nat.testBit_lt_two_pow (Nat.lt_of_lt_of_le hm (Nat.pow_le_pow_right (by decide) (by omega)))
theorem ptS_pt {m : Nat} (hm : m < 64) (n : Nat) (hn : n ≤ 6) : ptS (ptR r (nI m) 6) n = ptS r n + nI (fb_ct (fun k => m.testBit k) n) := by
  induction n with
  | zero => exact (Int32.add_zero _).symm
  | succ n ih =>
    have ih := ih (by omega)
    show ptS (ptR r (nI m) 6) n + ptR r (nI m) 6 3 n = ptS r n + r 3 n + nI (fb_ct (fun k => m.testBit k) (n + 1))
    rw [ih, show ptR r (nI m) 6 3 n = r 3 n + ((nI m >>> (nI n &&& 31)) &&& 1) from if_pos ⟨rfl, by omega⟩, pt64 m hm n (by omega), fb_ct_succ, ← nI_add]
    cases m.testBit n
    · show _ + (_ + (0 : Int32)) = _ + (_ + nI 0)
      rw [nI_0]; ac_rfl
    · show _ + (_ + (1 : Int32)) = _ + (_ + nI 1)
      rw [show nI 1 = 1 from rfl]; ac_rfl
/-- what a complaint tells and leaves -/
theorem KN.blame (h : KN c i j p r M N) {k : Nat} (hk : k < c 0) : ∃ d, d < 7 ∧ bdI (blM i r M k (c 2) (c 2)) = nI d ∧ ptS (ptR r (blM i r M k (c 2) (c 2)) 6) 6 = ptS r 6 + nI d ∧ (¬ 0 < exL i r (clM (fun k => i 11 k) (fun k => i 7 k) none (c 2)) M k → d = 0) := by
  obtain ⟨m, hm, e⟩ := bl_64 h (k := k)
  refine ⟨fb_ct (fun k => m.testBit k) 6, Nat.lt_succ_of_le (fb_ct_le _ 6), by rw [e]; exact bd64 m hm, by rw [e]; exact ptS_pt hm 6 (Nat.le_refl 6), fun hz => ?_⟩
  have e0 : blM i r M k (c 2) (c 2) = 0 := by
    have hall : ∀ n, n ≤ c 2 → orM (fun q => i 11 q = 2 ∧ exL i r (clM (fun k => i 11 k) (fun k => i 7 k) (some q) (c 2)) M k < exL i r (clM (fun k => i 11 k) (fun k => i 7 k) none (c 2)) M k) (i 6) n = 0 := by
      intro n
      induction n with
      | zero => intro _; rfl
      | succ n ih =>
        intro hn
        rw [orM_f]
        · exact ih (by omega)
        · rintro ⟨-, y⟩
          apply hz
          obtain ⟨d, hd, ed⟩ := h.ex_pos hk (cl := clM (fun k => i 11 k) (fun k => i 7 k) (some n) (c 2))
          rw [ed] at y
          exact Int32.lt_of_le_of_lt (nI_pos' (by omega)) y
    exact hall (c 2) (Nat.le_refl _)
  rw [e0] at e
  have em : m = 0 := by
    have := nI_inj (a := 0) (b := m) (by decide) (by omega) e
    omega
  subst em
  exact fb_ct_zero.mpr (fun q _ => Nat.zero_testBit q)
end KF
