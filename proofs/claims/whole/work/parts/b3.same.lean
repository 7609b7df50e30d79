/-! members, as a set -/
theorem mtg_bt {s : mS} {o : Int32} {n b : Nat} (hn : n ≤ 64) (hb : b < 64) : bJ (mtg s o n) b = true ↔ b < n ∧ in0 s o b := by
  induction n with
  | zero =>
    constructor
    · intro h; exact absurd h (by show ¬ bJ 0 b = true; rw [bJ_0]; decide)
    · rintro ⟨h, -⟩; omega
  | succ n ih =>
    have ih := ih (by omega)
    by_cases h : in0 s o n
    · rw [mtg_t h, bJ_or, bJ_bit (by omega) hb, Bool.or_eq_true, ih]
      constructor
      · rintro (g | g)
        · exact ⟨by omega, g.2⟩
        · have g : b = n := by simpa using g
          subst g
          exact ⟨by omega, h⟩
      · rintro ⟨g1, g2⟩
        by_cases q : b = n
        · exact Or.inr (by simp [q])
        · exact Or.inl ⟨by omega, g2⟩
    · rw [mtg_f h, bJ_or, bJ_0, Bool.or_false, ih]
      constructor
      · rintro g; exact ⟨by omega, g.2⟩
      · rintro ⟨g1, g2⟩
        by_cases q : b = n
        · subst q; exact absurd g2 h
        · exact ⟨by omega, g2⟩
theorem bJ_eq {x y : Int64} (h : ∀ b, b < 64 → (bJ x b = true ↔ bJ y b = true)) : x = y := by
  apply bJ_ext
  intro b hb
  have := h b hb
  cases hx : bJ x b <;> cases hy : bJ y b <;> simp_all
theorem bt_eq {x y : Int32} (h : ∀ b, b < 32 → (bt x b = true ↔ bt y b = true)) : x = y := by
  apply b_ext
  intro b hb
  have := h b hb
  cases hx : bt x b <;> cases hy : bt y b <;> simp_all
theorem mtg_congr {s s' : mS} {o o' : Int32} {n : Nat} (hn : n ≤ 64) (h : ∀ b, b < n → (in0 s o b ↔ in0 s' o' b)) : mtg s o n = mtg s' o' n := by
  apply bJ_eq
  intro b hb
  rw [mtg_bt hn hb, mtg_bt hn hb]
  exact ⟨fun g => ⟨g.1, (h b g.1).mp g.2⟩, fun g => ⟨g.1, (h b g.1).mpr g.2⟩⟩
theorem mtg_ne {s : mS} {o : Int32} {n : Nat} (hn : n ≤ 64) : ¬ mtg s o n = 0 ↔ ∃ b, b < n ∧ in0 s o b := by
  constructor
  · intro h
    apply Classical.byContradiction
    intro g
    apply h
    apply bJ_eq
    intro b hb
    rw [mtg_bt hn hb, bJ_0]
    exact ⟨fun z => absurd ⟨b, z⟩ g, fun z => absurd z (by decide)⟩
  · rintro ⟨b, h1, h2⟩ e
    have := (mtg_bt (s := s) (o := o) hn (b := b) (by omega)).mpr ⟨h1, h2⟩
    rw [e, bJ_0] at this
    exact absurd this (by decide)
/-! Int32 and Int64 without overflow -/
theorem I_add {x y : Int32} (h1 : -1000000000 ≤ x.toInt) (h2 : x.toInt ≤ 1000000000) (h3 : -1000000000 ≤ y.toInt) (h4 : y.toInt ≤ 1000000000) : (x + y).toInt = x.toInt + y.toInt := by
  rw [Int32.toInt_add]
  unfold Int.bmod
  simp only []
  split <;> omega
theorem I_sub {x y : Int32} (h1 : -1000000000 ≤ x.toInt) (h2 : x.toInt ≤ 1000000000) (h3 : -1000000000 ≤ y.toInt) (h4 : y.toInt ≤ 1000000000) : (x - y).toInt = x.toInt - y.toInt := by
  rw [Int32.toInt_sub]
  unfold Int.bmod
  simp only []
  split <;> omega
theorem L_sub {x y : Int64} (h1 : -1000000000 ≤ x.toInt) (h2 : x.toInt ≤ 1000000000) (h3 : -1000000000 ≤ y.toInt) (h4 : y.toInt ≤ 1000000000) : (x - y).toInt = x.toInt - y.toInt := by
  rw [Int64.toInt_sub]
  unfold Int.bmod
  simp only []
  split <;> omega
/-- small -/
def sml (n : Int) (x : Int32) : Prop := -n ≤ x.toInt ∧ x.toInt ≤ n
theorem sml_leg {E0 Ec : Nat → Nat → Nat → Prop} {a b : Nat} : sml 1000001 (legI E0 Ec a b) := by
  have hw : ∀ E, -1 ≤ (wy E a b).toInt ∧ (wy E a b).toInt ≤ 1000000 := by
    intro E
    unfold wy
    by_cases h : dst E a b < FAR
    · rw [if_pos h, nI_toInt (by unfold FAR at h; omega)]
      unfold FAR at h
      omega
    · rw [if_neg h]
      decide
  unfold sml legI
  by_cases h : wy Ec a b = -1
  · rw [if_pos h]; decide
  · rw [if_neg h]
    have h1 := hw Ec
    have h2 := hw E0
    rw [I_sub (by omega) (by omega) (by omega) (by omega)]
    omega
theorem sml_sum {f : Nat → Int32} (h : ∀ k, sml 1000001 (f k)) (n : Nat) (hn : n ≤ 6) : sml (1000001 * n) (sumI f n) := by
  induction n with
  | zero =>
    have e : (sumI f 0).toInt = 0 := rfl
    unfold sml
    omega
  | succ n ih =>
    have ih := ih (by omega)
    have h1 := h n
    unfold sml at *
    rw [sumI_s, I_add (by omega) (by omega) (by omega) (by omega)]
    omega
theorem sml_exL {i r : Nat → Nat → Int32} {cl : Int32} {M l n : Nat} (h : i 0 l = nI (n + 1)) (hn : n < 6) : sml 6000006 (exL i r cl M l) := by
  unfold exL exM
  rw [h, tn_nI (by omega), Nat.add_sub_cancel]
  have := sml_sum (f := exF r l cl M) (fun k => sml_leg) n (by omega)
  unfold sml at *
  omega
theorem w64_sub {x y : Int32} (hx : sml 6000006 x) (hy : sml 6000006 y) : (x - y).toInt64 = x.toInt64 - y.toInt64 := by
  unfold sml at *
  apply Int64.toInt_inj.mp
  rw [Int32.toInt_toInt64, I_sub (by omega) (by omega) (by omega) (by omega), L_sub (by rw [Int32.toInt_toInt64]; omega) (by rw [Int32.toInt_toInt64]; omega) (by rw [Int32.toInt_toInt64]; omega) (by rw [Int32.toInt_toInt64]; omega), Int32.toInt_toInt64, Int32.toInt_toInt64]
/-! what changes nothing between the two -/
section RL
variable {c : Nat → Nat} {i : Nat → Nat → Int32} {j : Nat → Nat → Int64} {p : Nat → Nat → Option Nat} {r : Nat → Nat → Int32} {s s' : mS} {M N : Nat}
theorem RELn.same (h : RELn c i j p r s M N) (hi : ∀ f, f ≠ 0 → mi s' f = mi s f) (hr : ∀ f, f ≤ 25 → mr s' f = mr s f) (h9 : ml s' 9 = ml s 9) (h20 : ml s' 20 = ml s 20) : RELn c i j p r s' M N := by
  obtain ⟨a1, a2, a3, a4, a5, a6, a7, a8⟩ := h
  refine ⟨?_, ?_, ?_, ?_, ?_, ?_, a7, a8⟩
  · unfold RN at *
    rw [hi 5 (by decide), hi 10 (by decide), hi 21 (by decide), hi 24 (by decide), hi 1 (by decide), h9, h20]
    exact a1
  · unfold RLn at *
    rw [hr 2 (by decide), hr 3 (by decide), hr 4 (by decide)]
    exact a2
  · unfold RLi RL1 at *
    rw [hr 6 (by decide), hr 8 (by decide), hr 7 (by decide), h9]
    exact a3
  · unfold RPm RP1 at *
    rw [hr 11 (by decide), hr 12 (by decide), hr 13 (by decide), hr 14 (by decide), hr 15 (by decide), hr 16 (by decide), hr 17 (by decide), hr 18 (by decide), hr 19 (by decide), h20]
    exact a4
  · have hm : ∀ o, mtg s' o (c 2) = mtg s o (c 2) := fun o => mtg_congr (by have := a1.2.2.2.2.2.2.1; omega) (fun b _ => by unfold in0; rw [hr 17 (by decide), hr 19 (by decide)])
    unfold ROp at *
    rw [hr 22 (by decide), hr 23 (by decide)]
    intro o ho
    rw [hm]
    exact a5 o ho
  · unfold RPt at *
    rw [hr 25 (by decide)]
    exact a6
theorem RELn.mu (h : RELn c i j p r s M N) (v : Int32) : RELn c i j p r (muI s 0 v) M N := h.same (fun f hf => va_up_ne _ _ hf) (fun _ _ => rfl) rfl rfl
theorem RELn.far (h : RELn c i j p r s M N) (g : Nat → Int32) : RELn c i j p r (mFar s g) M N := h.same (fun _ _ => rfl) (fun f hf => va_up_ne _ _ (by omega)) rfl rfl
theorem RELn.mrA' (h : RELn c i j p r s M N) {f : Nat} (hf : 25 < f) (g : Nat → Int32) : RELn c i j p r (mrA s f g) M N := h.same (fun _ _ => rfl) (fun f' hf' => va_up_ne _ _ (by omega)) rfl rfl
theorem RELn.mlA' (h : RELn c i j p r s M N) {f : Nat} (hf : 20 < f) (g : Nat → Int64) : RELn c i j p r (mlA s f g) M N := h.same (fun _ _ => rfl) (fun _ _ => rfl) (va_up_ne _ _ (by omega)) (va_up_ne _ _ (by omega))
theorem mi0_mu {v : Int32} : mi (muI s 0 v) 0 = v := by
  show va_up s.1 0 v 0 = v
  exact va_up_self _ _ _
/-- caches move -/
theorem SHR_SC {i' r' : Nat → Nat → Int32} (hS : SC i r i' r') {l n n2 : Nat} {M : Nat} (h0 : i 0 l = nI (n + 1)) (hn : n < 6) (H : Nat) : SHR i' r' M l n2 H = SHR i r M l n2 H := by
  induction H with
  | zero => rfl
  | succ H ih =>
    show SHR i' r' M l n2 H + (exL i' r' (cdM i' (nI H) n2) M l).toInt64 = SHR i r M l n2 H + (exL i r (cdM i (nI H) n2) M l).toInt64
    rw [ih, hS.cdM]
    congr 2
    unfold exL
    rw [hS.1 0 (by decide) (by decide)]
    exact hS.exM
theorem RELn.sc (h : RELn c i j p r s M N) {i' r' : Nat → Nat → Int32} (hS : SC i r i' r') (hV : WV i' r' M) : RELn c i' j p r' s M N := by
  obtain ⟨a1, a2, a3, a4, a5, a6, a7, a8⟩ := h
  have e : ∀ f, f ≠ 16 → f ≠ 17 → i' f = i f := hS.1
  have q : ∀ k, ¬ (4 ≤ k ∧ k < 24) → r' k = r k := hS.2
  refine ⟨?_, ?_, ?_, ?_, ?_, ?_, ?_, hV⟩
  · unfold RN at *
    rw [e 15 (by decide) (by decide), e 18 (by decide) (by decide)]
    exact a1
  · unfold RLn at *
    rw [q 0 (by omega), q 1 (by omega), q 2 (by omega)]
    exact a2
  · intro l hl
    have := a3 l hl
    unfold RL1 at *
    rw [e 1 (by decide) (by decide), e 0 (by decide) (by decide), q 0 (by omega), q 1 (by omega), q 2 (by omega), q (24 + l) (by omega)]
    exact this
  · unfold RPm RP1 at *
    rw [e 5 (by decide) (by decide), e 6 (by decide) (by decide), e 7 (by decide) (by decide), e 8 (by decide) (by decide), e 9 (by decide) (by decide), e 10 (by decide) (by decide), e 11 (by decide) (by decide), e 12 (by decide) (by decide), e 13 (by decide) (by decide), e 14 (by decide) (by decide), e 2 (by decide) (by decide)]
    exact a4
  · unfold ROp at *
    rw [e 3 (by decide) (by decide), e 4 (by decide) (by decide)]
    exact a5
  · unfold RPt at *
    rw [q 3 (by omega)]
    exact a6
  · intro l hl
    obtain ⟨-, -, n, hn, h0, -⟩ := a3 l hl
    rw [SHR_SC hS h0 hn, e 1 (by decide) (by decide)]
    exact a7 l hl
end RL
