section ST
variable {c : Nat → Nat} {i i' : Nat → Nat → Int32} {j : Nat → Nat → Int64} {p : Nat → Nat → Option Nat} {r r' r2 : Nat → Nat → Int32} {s s' : mS} {M N : Nat} {v' : Option Value}
theorem nct_lt {P Q : Nat → Prop} {n : Nat} (h : ∀ k, k < n → P k → Q k) (he : ∃ k, k < n ∧ Q k ∧ ¬ P k) : nct P n < nct Q n := by
  have hle : ∀ m, m ≤ n → nct P m ≤ nct Q m := by
    intro m
    induction m with
    | zero => intro _; exact Nat.le_refl 0
    | succ m ih =>
      intro hm
      have ih := ih (by omega)
      by_cases g : P m
      · rw [nct_t g, nct_t (h m (by omega) g)]; omega
      · rw [nct_f g]
        by_cases g2 : Q m
        · rw [nct_t g2]; omega
        · rw [nct_f g2]; exact ih
  obtain ⟨k, hk, h1, h2⟩ := he
  have hs : ∀ d, k + 1 + d ≤ n → nct P (k + 1 + d) < nct Q (k + 1 + d) := by
    intro d
    induction d with
    | zero =>
      intro _
      show nct P (k + 1) < nct Q (k + 1)
      rw [nct_f h2, nct_t h1]
      have := hle k (by omega)
      omega
    | succ d ih =>
      intro hd
      have ih := ih (by omega)
      show nct P (k + 1 + d + 1) < nct Q (k + 1 + d + 1)
      by_cases g : P (k + 1 + d)
      · rw [nct_t g, nct_t (h _ (by omega) g)]; omega
      · rw [nct_f g]
        by_cases g2 : Q (k + 1 + d)
        · rw [nct_t g2]; omega
        · rw [nct_f g2]; exact ih
  have := hs (n - (k + 1)) (by omega)
  rwa [show k + 1 + (n - (k + 1)) = n by omega] at this
theorem nct_mono {P Q : Nat → Prop} {n : Nat} (h : ∀ k, k < n → P k → Q k) : nct P n ≤ nct Q n := by
  induction n with
  | zero => exact Nat.le_refl 0
  | succ n ih =>
    have ih := ih (fun k hk => h k (by omega))
    by_cases g : P n
    · rw [nct_t g, nct_t (h n (by omega) g)]; omega
    · rw [nct_f g]
      by_cases g2 : Q n
      · rw [nct_t g2]; omega
      · rw [nct_f g2]; exact ih
/-- a time of a permit: none, or an hour up to now -/
theorem tm_at (h : RELn c i j p r s M N) {k : Nat} (hk : k < c 2) : (i 13 k = -1 ∨ ∃ b, b ≤ N ∧ i 13 k = nI b) ∧ (i 14 k = -1 ∨ ∃ b, b ≤ N ∧ i 14 k = nI b) := by
  have g := (h.pm k hk).2.2.2.2.2
  rcases g with ⟨-, g2, g3⟩ | ⟨-, b, g2, g3, g4⟩ | ⟨-, b, f, g2, g3, g4, g5⟩
  · exact ⟨Or.inl g2, Or.inl g3⟩
  · exact ⟨Or.inr ⟨b, g2, g3⟩, Or.inl g4⟩
  · exact ⟨Or.inr ⟨b, by omega, g4⟩, Or.inr ⟨f, g3, g5⟩⟩
theorem nxA_spec {x h N : Nat} {v : Int32} (hN : N < 2 ^ 30) (hx : h < x) (hxN : x ≤ N) (hv : v = -1 ∨ ∃ b, b ≤ N ∧ v = nI b) : ∃ x', nxA (nI x) v (nI h) = nI x' ∧ h < x' ∧ x' ≤ x ∧ (∀ b, v = nI b → b ≤ N → h < b → x' ≤ b) ∧ (x' = x ∨ v = nI x') := by
  rcases hv with e | ⟨b, hb, e⟩
  · refine ⟨x, ?_, hx, Nat.le_refl x, fun b hb1 hb2 _ => absurd (e.symm.trans hb1) (nI_nm1 (by omega)), Or.inl rfl⟩
    apply nxA_f
    rw [e]
    intro z
    exact absurd (Int32.lt_of_le_of_lt (nI_pos' (by omega : h < 2 ^ 31)) z) (by decide)
  · by_cases g : h < b
    · have hg : nI h < v := by rw [e]; exact (nI_ltI (by omega) (by omega)).mpr g
      rw [nxA_t hg, e]
      by_cases g2 : b < x
      · refine ⟨b, mnI_t ((nI_ltI (by omega) (by omega)).mpr g2), g, by omega, fun b' hb1 hb2 _ => ?_, Or.inr rfl⟩
        have := nI_inj (by omega) (by omega) hb1
        omega
      · refine ⟨x, mnI_f (fun z => g2 ((nI_ltI (by omega) (by omega)).mp z)), hx, Nat.le_refl x, fun b' hb1 hb2 _ => ?_, Or.inl rfl⟩
        have := nI_inj (by omega) (by omega) hb1
        omega
    · refine ⟨x, nxA_f (fun z => ?_), hx, Nat.le_refl x, fun b' hb1 hb2 hb3 => ?_, Or.inl rfl⟩
      · rw [e] at z
        exact g ((nI_ltI (by omega) (by omega)).mp z)
      · have := nI_inj (by omega) (by omega) (e.symm.trans hb1)
        omega
theorem nx_spec (h : RELn c i j p r s M N) {y : Nat} (hy : y < N) {n : Nat} (hn : n ≤ c 2) : ∃ x, nxC (i 13) (i 14) (nI y) (nI N) n = nI x ∧ y < x ∧ x ≤ N ∧ (∀ k, k < n → ∀ b, b ≤ N → (i 13 k = nI b ∨ i 14 k = nI b) → y < b → x ≤ b) ∧ (x = N ∨ ∃ k, k < n ∧ (i 13 k = nI x ∨ i 14 k = nI x)) := by
  have hB := h.b
  induction n with
  | zero => exact ⟨N, rfl, hy, Nat.le_refl N, fun k hk => by omega, Or.inl rfl⟩
  | succ n ih =>
    obtain ⟨x, e1, e2, e3, e4, e5⟩ := ih (by omega)
    obtain ⟨t1, t2⟩ := tm_at h (k := n) (by omega)
    obtain ⟨x1, f1, f2, f3, f4, f5⟩ := nxA_spec (N := N) (by omega) e2 e3 t1
    obtain ⟨x2, g1, g2, g3, g4, g5⟩ := nxA_spec (N := N) (by omega) f2 (by omega) t2
    refine ⟨x2, by rw [nxC_s, e1, f1, g1], g2, by omega, fun k hk b hb hv hyb => ?_, ?_⟩
    · by_cases q : k = n
      · rw [q] at hv
        rcases hv with hv | hv
        · have := f4 b hv hb hyb; omega
        · exact g4 b hv hb hyb
      · have := e4 k (by omega) b hb hv hyb; omega
    · rcases g5 with g5 | g5
      · rw [g5]
        rcases f5 with f5 | f5
        · rw [f5]
          rcases e5 with e5 | ⟨k, k1, k2⟩
          · exact Or.inl e5
          · exact Or.inr ⟨k, by omega, k2⟩
        · exact Or.inr ⟨n, by omega, Or.inl f5⟩
      · exact Or.inr ⟨n, by omega, Or.inr g5⟩
/-- times behind an hour -/
noncomputable def tmD (i : Nat → Nat → Int32) (n2 N y : Nat) : Nat := nct (fun k => ∃ b, b ≤ N ∧ i 13 k = nI b ∧ y < b) n2 + nct (fun k => ∃ b, b ≤ N ∧ i 14 k = nI b ∧ y < b) n2
theorem tmD_lt (h : RELn c i j p r s M N) {y x : Nat} (hyx : y < x) (hx : x ≤ N) (he : ∃ k, k < c 2 ∧ (i 13 k = nI x ∨ i 14 k = nI x)) : tmD i (c 2) N x < tmD i (c 2) N y := by
  have hB := h.b
  have m1 : ∀ f, ∀ k, k < c 2 → (∃ b, b ≤ N ∧ i f k = nI b ∧ x < b) → ∃ b, b ≤ N ∧ i f k = nI b ∧ y < b := by
    rintro f k - ⟨b, b1, b2, b3⟩
    exact ⟨b, b1, b2, by omega⟩
  have m2 : ∀ f k, i f k = nI x → ¬ ∃ b, b ≤ N ∧ i f k = nI b ∧ x < b := by
    rintro f k e ⟨b, b1, b2, b3⟩
    have := nI_inj (by omega) (by omega) (e.symm.trans b2)
    omega
  obtain ⟨k, hk, e | e⟩ := he
  · have a1 := nct_lt (m1 13) ⟨k, hk, ⟨x, hx, e, hyx⟩, m2 13 k e⟩
    have a2 := nct_mono (m1 14)
    unfold tmD
    omega
  · have a1 := nct_lt (m1 14) ⟨k, hk, ⟨x, hx, e, hyx⟩, m2 14 k e⟩
    have a2 := nct_mono (m1 13)
    unfold tmD
    omega
theorem cd_same (h : RELn c i j p r s M N) {y x z : Nat} (hx : x ≤ N) (hyz : y ≤ z) (hzx : z < x) (hn : ∀ k, k < c 2 → ∀ b, b ≤ N → (i 13 k = nI b ∨ i 14 k = nI b) → y < b → x ≤ b) : cdM i (nI z) (c 2) = cdM i (nI y) (c 2) := by
  have hB := h.b
  unfold cdM
  apply orM_congr
  intro k hk
  obtain ⟨t1, t2⟩ := tm_at h hk
  apply and_congr Iff.rfl
  rcases t1 with e | ⟨b, b1, e⟩
  · rw [e]
    have q : ∀ m : Nat, m < 2 ^ 31 → (-1 : Int32) ≤ nI m := fun m hm => Int32.le_trans (by decide) (nI_pos' hm)
    have q1 := q z (by omega)
    have q2 := q y (by omega)
    apply and_congr (by exact ⟨fun _ => q2, fun _ => q1⟩)
    rcases t2 with e' | ⟨f, f1, e'⟩
    · rw [e']; exact ⟨fun _ => Or.inl rfl, fun _ => Or.inl rfl⟩
    · rw [e', nI_ltI (by omega) (by omega), nI_ltI (by omega) (by omega)]
      apply or_congr Iff.rfl
      constructor
      · intro _; omega
      · intro w
        have := hn k hk f f1 (Or.inr e') w
        omega
  · rw [e, nI_leI (by omega) (by omega), nI_leI (by omega) (by omega)]
    apply and_congr
    · constructor
      · intro w
        apply Classical.byContradiction
        intro w2
        have := hn k hk b b1 (Or.inl e) (by omega)
        omega
      · intro _; omega
    · rcases t2 with e' | ⟨f, f1, e'⟩
      · rw [e']; exact ⟨fun _ => Or.inl rfl, fun _ => Or.inl rfl⟩
      · rw [e', nI_ltI (by omega) (by omega), nI_ltI (by omega) (by omega)]
        apply or_congr Iff.rfl
        constructor
        · intro _; omega
        · intro w
          have := hn k hk f f1 (Or.inr e') w
          omega
theorem nI_subN {a b : Nat} (h : b ≤ a) : nI a - nI b = nI (a - b) := by
  rw [show nI a = nI (a - b) + nI b from by rw [nI_add]; congr 1; omega, Int32.add_sub_cancel]
theorem ma_all (h : RELn c i j p r s M N) {k n : Nat} (hlt : ∀ m, m < n → maH i (c 2) m < i 18 0) : ∃ y, maH i (c 2) n = nI y ∧ y ≤ N ∧ maS i r M k (c 2) n = SHR i r M k (c 2) y ∧ (y < N → tmD i (c 2) N y + n ≤ 80) := by
  have hB := h.b
  have hN := h.1.2.2.2.2.2.2.2.2.2.2.1
  induction n with
  | zero =>
    refine ⟨0, rfl, Nat.zero_le N, rfl, fun _ => ?_⟩
    unfold tmD
    have a1 := nct_le (fun k => ∃ b, b ≤ N ∧ i 13 k = nI b ∧ 0 < b) (c 2)
    have a2 := nct_le (fun k => ∃ b, b ≤ N ∧ i 14 k = nI b ∧ 0 < b) (c 2)
    omega
  | succ n ih =>
    obtain ⟨y, e1, e2, e3, e4⟩ := ih (fun m hm => hlt m (by omega))
    have hy : y < N := by
      have := hlt n (by omega)
      rw [e1, hN] at this
      exact (nI_ltI (by omega) (by omega)).mp this
    obtain ⟨x, f1, f2, f3, f4, f5⟩ := nx_spec h hy (Nat.le_refl (c 2))
    have ex : maH i (c 2) (n + 1) = nI x := by
      show nxC (i 13) (i 14) (maH i (c 2) n) (i 18 0) (c 2) = _
      rw [e1, hN, f1]
    refine ⟨x, ex, f3, ?_, fun hxN => ?_⟩
    · show maS i r M k (c 2) n + (maH i (c 2) (n + 1) - maH i (c 2) n).toInt64 * (exL i r (cdM i (maH i (c 2) n) (c 2)) M k).toInt64 = _
      have hadd := SHR_add (i := i) (r := r) (M := M) (l := k) (n2 := c 2) (N := y) (H := x - y) (e := (exL i r (cdM i (nI y) (c 2)) M k).toInt64) (fun z h1 h2 => by rw [cd_same h f3 h1 (by omega) f4])
      rw [show y + (x - y) = x by omega] at hadd
      rw [ex, e1, e3, nI_subN (by omega), nI_l (by omega), hadd]
    · have := e4 hy
      have h2 := tmD_lt h f2 f3 (f5.elim (fun z => by omega) id)
      omega
theorem st_minutesAnew (h : RELn c i j p r s M N) {x : Int32} (hQ : (∃ k, k < (c 0) ∧ x = nI k ∧ v' = some (.long (ml s 9 k)) ∧ s' = muI s 0 0) ∨ ((∀ k, k < (c 0) → x ≠ nI k) ∧ v' = some (.long 0) ∧ s' = muI s 0 1)) {k : Nat} (hk : k < c 0) (hx : x = nI k) {n : Nat} (hn : n ≤ 81) (hend : n = 81 ∨ ¬ maH i (c 2) n < i 18 0) (hlt : ∀ m, m < n → maH i (c 2) m < i 18 0) (hS : SC i r i' r') (hV : WV i' r' M) : mi s' 0 = 0 ∧ v' = some (.long (maS i r M k (c 2) n * (i 1 k).toInt64)) ∧ RELn c i' j p r' s' M N := by
  have hB := h.b
  have hN := h.1.2.2.2.2.2.2.2.2.2.2.1
  rcases hQ with ⟨k', g1, g2, hv, hs⟩ | ⟨hn, -⟩
  · have e : k' = k := nI_inj (by omega) (by omega) (g2.symm.trans hx)
    subst e
    refine ⟨by rw [hs]; exact mi0_mu, ?_, by rw [hs]; exact (h.sc hS hV).mu 0⟩
    obtain ⟨y, e1, e2, e3, e4⟩ := ma_all h (k := k') hlt
    have ey : y = N := by
      apply Classical.byContradiction
      intro z
      rcases hend with w | w
      · have := e4 (by omega); omega
      · apply w
        rw [e1, hN]
        exact (nI_ltI (by omega) (by omega)).mpr (by omega)
    rw [hv, e3, ey, ← (h.li k' hk).2.1, h.ma k' hk, Int64.mul_comm]
  · exact absurd hx (hn k hk)
theorem stx_minutesAnew (h : RELn c i j p r s M N) {x : Int32} (hQ : (∃ k, k < (c 0) ∧ x = nI k ∧ v' = some (.long (ml s 9 k)) ∧ s' = muI s 0 0) ∨ ((∀ k, k < (c 0) → x ≠ nI k) ∧ v' = some (.long 0) ∧ s' = muI s 0 1)) (hx : ∀ k, k < c 0 → x ≠ nI k) : mi s' 0 = 1 ∧ RELn c i j p r s' M N := by
  rcases hQ with ⟨k', g1, g2, -⟩ | ⟨-, -, hs⟩
  · exact absurd g2 (hx k' g1)
  · rw [hs]; exact ⟨mi0_mu, h.mu 1⟩
/-- a new object and a new model -/
theorem REL_new : RELn c00 i00 (fun _ _ => 0) (fun _ _ => none) (fun _ _ => 0) ms00 0 0 := by
  refine ⟨⟨rfl, rfl, by decide, rfl, by decide, rfl, by decide, rfl, by decide, by decide, rfl, rfl, fun _ _ => rfl, fun _ _ => rfl⟩, fun e he => absurd he (Nat.not_lt_zero e), fun l hl => absurd hl (Nat.not_lt_zero l), fun k hk => absurd hk (Nat.not_lt_zero k), fun o ho => absurd ho (Nat.not_lt_zero o), fun _ _ => rfl, fun l hl => absurd hl (Nat.not_lt_zero l), ⟨Or.inl rfl, Or.inl rfl⟩⟩
end ST
