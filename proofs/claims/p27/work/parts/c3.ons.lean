/-! calls by way of 'on' -/
theorem gMet.impX {l : Launch} {y : MethodName} {wds : List Cond} {rm : Room} {D : va_G} {cy : Nat → ClassId} {e0 : Nat} {av : List Value} {w0 : va_W} {post : Option Value → va_W → Prop} {xpost xpost' : String → va_W → Prop} {mc ms : Nat} (h : gMet l y wds rm D cy e0 av w0 post xpost mc ms) (hx : ∀ X w, xpost X w → xpost' X w) : gMet l y wds rm D cy e0 av w0 post xpost' mc ms := by
  intro sz
  refine Jvm.Free.MetFree.mono (h sz) (fun a s hp => hp) (fun _ _ _ _ _ k => k) (fun a s o t hp hq => ?_)
  rcases hq with hq | ⟨q, k0, E, ce, L, ⟨w, k1, k2⟩, k5⟩
  · exact Or.inl hq
  · exact Or.inr ⟨q, k0, E, ce, L, ⟨w, hx _ _ k1, k2⟩, k5⟩
section LO
variable {C : gT} {cc : ByteArray} {nL : Nat} {Ts : List Cond} {own : String} {e0 a : Nat} {rm : Room} {W : va_W} {mc ms pc : Nat} {L : List (Nat × Value)} {st rest : List Value} {idx : Nat}
variable {aa : Nat → Nat} {av : Nat → Nat → Int32} {c : Nat → Nat} {i : Nat → Nat → Int32} {j : Nat → Nat → Int64} {p : Nat → Nat → Option Nat} {r : Nat → Nat → Int32} {M N : Nat}
theorem k_on_withdraw (E : gOk C cc nL Ts own e0 rm) (hW : LW (xy C) e0 a aa av c i j p r M W) (hK : KN c i j p r M N) {k : Nat} (hk : k < c 2) (hG : GoodIn Ts (va_wsS own idx yL_on wsL_on)) (hR : 10 ≤ rm.frames ∧ 216 ≤ rm.locals) (hcat : (rest.map fun v => v.category).sum ≤ 8) (d : decode cc pc = .ok (.invokestatic idx, 3)) (hf : mc + 3 ≤ rm.cells ∧ ms + 18 ≤ rm.slots)
    (kt : i 11 k = 0 → ∀ (m : Nat) (ii : Nat → Nat → Int32) (jj : Nat → Nat → Int64) (W' : va_W), 1 ≤ m → m ≤ c 2 → KW c i j p (c 2) ii jj → ii 11 k = 4 → LW (xy C) e0 a aa av c ii jj p r M W' → G C W' (mc + 3) (ms + 18) (pc + 3) L (.long (lN m) :: rest))
    (kf : ¬ i 11 k = 0 → ∀ W', LW (xy C) e0 a aa av c i j p r M W' → G C W' (mc + 3) (ms + 18) (pc + 3) L (.long (-900013) :: rest)) : G C W mc ms pc L (.int 0 :: .int (nI k) :: .int 0 :: .ref a :: rest) := by
  obtain ⟨S, ad, i', r', rfl, hI, rfl, hS, hV⟩ := hW
  have hK' := hK.sc hS hV
  have hb := hK.b
  have hM1 := gMet.impX (m_X5_withdraw (xl C) E.tr (xD C) (xy C) e0 hI (x := nI k)) (xpost' := fun X w => ∃ S', w = cW (xy C) S' ∧ (X = "java/lang/IllegalStateException" ∧ ¬ i 11 k = 0 ∧ S' = S)) (fun X w h => by
    obtain ⟨S', rfl, h⟩ := h
    refine ⟨S', rfl, ?_⟩
    rcases h with ⟨-, h, -⟩ | ⟨rfl, ⟨k', hk', hx, h⟩, rfl⟩
    · exact absurd rfl (h k hk)
    · have ek : k' = k := nI_inj (by omega) (by omega) hx.symm
      subst ek
      exact ⟨rfl, by rw [← hS.1 11 (by decide) (by decide)]; exact h, rfl⟩)
  have hM2 := w_asks_withdraw (xl C) E.tr (xD C) (xy C) e0 (y := 0) (wr := aW (xy C) aa av) (XP := fun X S' => X = "java/lang/IllegalStateException" ∧ ¬ i 11 k = 0 ∧ S' = S) (hI.obj (kd := 5) (k := 0) (by omega) hI.c5).1 (hI.obj (kd := 5) (k := 0) (by omega) hI.c5).2 hM1 (fun v S' h => by obtain ⟨_, _, _, _, s, _, h, _⟩ := h; exact ⟨_, h⟩)
  have hM3 := w_on (xl C) E.tr (xD C) (xy C) e0 hM2 (fun v w h => by obtain ⟨_, _, q, h, -⟩ := h; exact ⟨q, h⟩) (fun X w h => by obtain ⟨S', -, h⟩ := h; exact h.1.symm ▸ Or.inr rfl)
  refine g_invSW (n := 4) (As := [.ref (ad 5 0), .int 0, .int (nI k), .int 0]) (rest := rest) E hM3 hG rfl rfl rfl (by decide +kernel) hR rfl rfl hcat d hf (fun v w h => ?_)
  rcases h with ⟨S', vv, q, rfl, rfl, h, hq⟩ | ⟨-, S', -, h⟩ | ⟨rfl, S', rfl, h⟩
  · obtain ⟨k', hk', hx, h0, s, hs, rfl, hI2⟩ := h
    have ek : k' = k := nI_inj (by omega) (by omega) hx.symm
    subst ek
    obtain ⟨z, hz, rfl⟩ := hq
    obtain ⟨hKW, ⟨m, m1, m2, m3⟩, h4⟩ := hK'.withdraw hk' h0
    rw [← hs] at hKW m3 h4
    obtain ⟨v1, v2⟩ := kw_view hS hKW
    have ez : z = nI m := by rw [← m3]; exact (Value.int.inj (Option.some.inj hz)).symm
    rw [ez, nI_l (by omega)]
    refine kt (by rw [← hS.1 11 (by decide) (by decide)]; exact h0) m (vup i 11 (s.1 11)) s.2.1 _ m1 m2 v1 (by rw [vup_at]; exact h4) ⟨S', ad, s.1, r', rfl, hI2, rfl, v2, ?_⟩
    have hw := hKW.1
    unfold WV WC at *
    rw [hw 16 (by decide), hw 17 (by decide)]
    exact hV
  · exact absurd h.1 (by decide)
  · obtain ⟨-, h0, rfl⟩ := h
    exact kf h0 _ ⟨S', ad, i', r', rfl, hI, rfl, hS, hV⟩
theorem k_on_begin (E : gOk C cc nL Ts own e0 rm) (hW : LW (xy C) e0 a aa av c i j p r M W) (hK : KN c i j p r M N) {k : Nat} (hk : k < c 2) (hG : GoodIn Ts (va_wsS own idx yL_on wsL_on)) (hR : 10 ≤ rm.frames ∧ 216 ≤ rm.locals) (hcat : (rest.map fun v => v.category).sum ≤ 8) (d : decode cc pc = .ok (.invokestatic idx, 3)) (hf : mc + 3 ≤ rm.cells ∧ ms + 18 ≤ rm.slots)
    (kt : (i 11 k = 0 ∧ ∀ z, p 1 k = some z → i 11 z = 3) → ∀ W', LW (xy C) e0 a aa av c (up2 (up2 i 11 k 2) 13 k (i 18 0)) j p r M W' → G C W' (mc + 3) (ms + 18) (pc + 3) L (.long (froV i p k - i 18 0).toInt64 :: rest))
    (kf : ¬ (i 11 k = 0 ∧ ∀ z, p 1 k = some z → i 11 z = 3) → ∀ W', LW (xy C) e0 a aa av c i j p r M W' → G C W' (mc + 3) (ms + 18) (pc + 3) L (.long (-900013) :: rest)) : G C W mc ms pc L (.int 0 :: .int (nI k) :: .int 1 :: .ref a :: rest) := by
  obtain ⟨S, ad, i', r', rfl, hI, rfl, hS, hV⟩ := hW
  have hK' := hK.sc hS hV
  have hb := hK.b
  have hM1 := gMet.impX (m_X5_begin (xl C) E.tr (xD C) (xy C) e0 hI (x := nI k)) (xpost' := fun X w => ∃ S', w = cW (xy C) S' ∧ (X = "java/lang/IllegalStateException" ∧ ¬ (i 11 k = 0 ∧ ∀ z, p 1 k = some z → i 11 z = 3) ∧ S' = S)) (fun X w h => by
    obtain ⟨S', rfl, h⟩ := h
    refine ⟨S', rfl, ?_⟩
    rcases h with ⟨-, h, -⟩ | ⟨rfl, ⟨k', hk', hx, h⟩, rfl⟩
    · exact absurd rfl (h k hk)
    · have ek : k' = k := nI_inj (by omega) (by omega) hx.symm
      subst ek
      rw [hS.1 11 (by decide) (by decide)] at h
      exact ⟨rfl, h, rfl⟩)
  have hM2 := w_asks_begin (xl C) E.tr (xD C) (xy C) e0 (y := 0) (wr := aW (xy C) aa av) (XP := fun X S' => X = "java/lang/IllegalStateException" ∧ ¬ (i 11 k = 0 ∧ ∀ z, p 1 k = some z → i 11 z = 3) ∧ S' = S) (hI.obj (kd := 5) (k := 0) (by omega) hI.c5).1 (hI.obj (kd := 5) (k := 0) (by omega) hI.c5).2 hM1 (fun v S' h => by obtain ⟨_, _, _, _, h, _⟩ := h; exact ⟨_, h⟩)
  have hM3 := w_on (xl C) E.tr (xD C) (xy C) e0 hM2 (fun v w h => by obtain ⟨_, _, q, h, -⟩ := h; exact ⟨q, h⟩) (fun X w h => by obtain ⟨S', -, h⟩ := h; exact h.1.symm ▸ Or.inr rfl)
  refine g_invSW (n := 4) (As := [.ref (ad 5 0), .int 1, .int (nI k), .int 0]) (rest := rest) E hM3 hG rfl rfl rfl (by decide +kernel) hR rfl rfl hcat d hf (fun v w h => ?_)
  rcases h with ⟨S', vv, q, rfl, rfl, h, hq⟩ | ⟨-, S', -, h⟩ | ⟨rfl, S', rfl, h⟩
  · obtain ⟨k', hk', hx, h0, rfl, hI2⟩ := h
    have ek : k' = k := nI_inj (by omega) (by omega) hx.symm
    subst ek
    obtain ⟨z, hz, rfl⟩ := hq
    have ez := (Value.int.inj (Option.some.inj hz)).symm
    rw [ez]
    rw [hS.1 18 (by decide) (by decide)] at hI2 ⊢
    rw [hS.1 8 (by decide) (by decide), hS.1 3 (by decide) (by decide)]
    rw [hS.1 11 (by decide) (by decide)] at h0
    exact kt h0 _ ⟨S', ad, _, r', rfl, hI2, rfl, sc_up2 (sc_up2 hS (by decide) (by decide)) (by decide) (by decide), by
      unfold WV WC at *
      rw [up2_nf (by decide), up2_nf (by decide), up2_nf (by decide), up2_nf (by decide)]
      exact hV⟩
  · exact absurd h.1 (by decide)
  · obtain ⟨-, h0, rfl⟩ := h
    exact kf h0 _ ⟨S', ad, i', r', rfl, hI, rfl, hS, hV⟩
theorem k_on_finish (E : gOk C cc nL Ts own e0 rm) (hW : LW (xy C) e0 a aa av c i j p r M W) (hK : KN c i j p r M N) {k : Nat} (hk : k < c 2) (hG : GoodIn Ts (va_wsS own idx yL_on wsL_on)) (hR : 10 ≤ rm.frames ∧ 216 ≤ rm.locals) (hcat : (rest.map fun v => v.category).sum ≤ 8) (d : decode cc pc = .ok (.invokestatic idx, 3)) (hf : mc + 3 ≤ rm.cells ∧ ms + 18 ≤ rm.slots)
    (kt : i 11 k = 2 → ∀ W', LW (xy C) e0 a aa av c (up2 (up2 i 11 k 3) 14 k (i 18 0)) j p r M W' → G C W' (mc + 3) (ms + 18) (pc + 3) L (.long (2 * j 2 k) :: rest))
    (kf : ¬ i 11 k = 2 → ∀ W', LW (xy C) e0 a aa av c i j p r M W' → G C W' (mc + 3) (ms + 18) (pc + 3) L (.long (-900013) :: rest)) : G C W mc ms pc L (.int 0 :: .int (nI k) :: .int 2 :: .ref a :: rest) := by
  obtain ⟨S, ad, i', r', rfl, hI, rfl, hS, hV⟩ := hW
  have hK' := hK.sc hS hV
  have hb := hK.b
  have hM1 := gMet.impX (m_X5_finish (xl C) E.tr (xD C) (xy C) e0 hI (x := nI k)) (xpost' := fun X w => ∃ S', w = cW (xy C) S' ∧ (X = "java/lang/IllegalStateException" ∧ ¬ i 11 k = 2 ∧ S' = S)) (fun X w h => by
    obtain ⟨S', rfl, h⟩ := h
    refine ⟨S', rfl, ?_⟩
    rcases h with ⟨-, h, -⟩ | ⟨rfl, ⟨k', hk', hx, h⟩, rfl⟩
    · exact absurd rfl (h k hk)
    · have ek : k' = k := nI_inj (by omega) (by omega) hx.symm
      subst ek
      exact ⟨rfl, by rw [← hS.1 11 (by decide) (by decide)]; exact h, rfl⟩)
  have hM2 := w_asks_finish (xl C) E.tr (xD C) (xy C) e0 (y := 0) (wr := aW (xy C) aa av) (XP := fun X S' => X = "java/lang/IllegalStateException" ∧ ¬ i 11 k = 2 ∧ S' = S) (hI.obj (kd := 5) (k := 0) (by omega) hI.c5).1 (hI.obj (kd := 5) (k := 0) (by omega) hI.c5).2 hM1 (fun v S' h => by obtain ⟨_, _, _, _, h, _⟩ := h; exact ⟨_, h⟩)
  have hM3 := w_on (xl C) E.tr (xD C) (xy C) e0 hM2 (fun v w h => by obtain ⟨_, _, q, h, -⟩ := h; exact ⟨q, h⟩) (fun X w h => by obtain ⟨S', -, h⟩ := h; exact h.1.symm ▸ Or.inr rfl)
  refine g_invSW (n := 4) (As := [.ref (ad 5 0), .int 2, .int (nI k), .int 0]) (rest := rest) E hM3 hG rfl rfl rfl (by decide +kernel) hR rfl rfl hcat d hf (fun v w h => ?_)
  rcases h with ⟨S', vv, q, rfl, rfl, h, hq⟩ | ⟨-, S', -, h⟩ | ⟨rfl, S', rfl, h⟩
  · obtain ⟨k', hk', hx, h0, rfl, hI2⟩ := h
    have ek : k' = k := nI_inj (by omega) (by omega) hx.symm
    subst ek
    have ez := (Value.long.inj (Option.some.inj hq)).symm
    rw [ez]
    rw [hS.1 18 (by decide) (by decide)] at hI2
    rw [hS.1 11 (by decide) (by decide)] at h0
    exact kt h0 _ ⟨S', ad, _, r', rfl, hI2, rfl, sc_up2 (sc_up2 hS (by decide) (by decide)) (by decide) (by decide), by
      unfold WV WC at *
      rw [up2_nf (by decide), up2_nf (by decide), up2_nf (by decide), up2_nf (by decide)]
      exact hV⟩
  · exact absurd h.1 (by decide)
  · obtain ⟨-, h0, rfl⟩ := h
    exact kf h0 _ ⟨S', ad, i', r', rfl, hI, rfl, hS, hV⟩
theorem k_on_stop (E : gOk C cc nL Ts own e0 rm) (hW : LW (xy C) e0 a aa av c i j p r M W) (hK : KN c i j p r M N) {k b q : Nat} (hk : k < c 0) (hq : q < 10) (hbj : b < 10) (h0 : i 0 k = 1) (hr0 : r (24 + k) 0 = nI q) (hN : N = 0) (hd : dst (Ed (r 0) (r 1) (r 2) 0 M) q b < FAR) (hG : GoodIn Ts (va_wsS own idx yL_on wsL_on)) (hR : 10 ≤ rm.frames ∧ 216 ≤ rm.locals) (hcat : (rest.map fun v => v.category).sum ≤ 8) (d : decode cc pc = .ok (.invokestatic idx, 3)) (hf : mc + 3 ≤ rm.cells ∧ ms + 18 ≤ rm.slots)
    (kt : b ≠ q → ∀ (i2 R : Nat → Nat → Int32) (W' : va_W), KN c i2 j p R M N → (∀ f, f ≠ 0 → f ≠ 16 → f ≠ 17 → i2 f = i f) → (∀ x, x < 4 → R x = r x) → LW (xy C) e0 a aa av c i2 j p R M W' → G C W' (mc + 3) (ms + 18) (pc + 3) L (.long 2 :: rest))
    (kf : b = q → ∀ W', LW (xy C) e0 a aa av c i j p r M W' → G C W' (mc + 3) (ms + 18) (pc + 3) L (.long (-900012) :: rest)) : G C W mc ms pc L (.int (nI b) :: .int (nI k) :: .int 3 :: .ref a :: rest) := by
  obtain ⟨S, ad, i', r', rfl, hI, rfl, hS, hV⟩ := hW
  have hK' := hK.sc hS hV
  have hb := hK.b
  have h0' : i' 0 k = 1 := by rw [hS.1 0 (by decide) (by decide)]; exact h0
  have hr0' : r' (24 + k) 0 = nI q := by rw [hS.2 (24 + k) (by omega)]; exact hr0
  have hnow : i' 18 0 = 0 := by rw [hK'.now, hN]; rfl
  have at0 : ∀ n : Nat, n < 6 → i' 0 k = nI (n + 1) → n = 0 := fun n hn z => by
    have := nI_inj (a := 1) (b := n + 1) (by decide) (by omega) (h0'.symm.trans z)
    omega
  have hway : ¬ wy (Ed (r' 0) (r' 1) (r' 2) 0 M) q b = -1 := by
    rw [hS.2 0 (by omega), hS.2 1 (by omega), hS.2 2 (by omega)]
    exact wy_near hd
  have hM1 := gMet.impX (m_X5_stop (xl C) E.tr (xD C) (xy C) e0 hI (x := nI k) (y := nI b) hK'.m hb.2.2.2.1 hK'.lns hV hK'.lii) (xpost' := fun X w => ∃ S', w = cW (xy C) S' ∧ (X = "java/lang/IllegalArgumentException" ∧ b = q ∧ S' = S)) (fun X w h => by
    obtain ⟨S', rfl, h⟩ := h
    refine ⟨S', rfl, ?_⟩
    rcases h with ⟨-, h, -⟩ | ⟨rfl, ⟨k', b', n, hk', hx, hb', hy, hn, e0', h⟩, rfl⟩ | ⟨-, i2, r2, -, -, -, k', b', n, hk', hx, hb', hy, hn, e0', -, h⟩
    · rcases h with h | ⟨-, h⟩
      · exact absurd rfl (h k hk)
      · exact absurd ⟨b, hbj, rfl⟩ h
    · have ek : k' = k := nI_inj (by omega) (by omega) hx.symm
      subst ek
      obtain rfl := at0 n hn e0'
      rw [hr0'] at h
      exact ⟨rfl, (nI_inj (by omega) (by omega) h).symm, rfl⟩
    · have ek : k' = k := nI_inj (by omega) (by omega) hx.symm
      subst ek
      have eb : b' = b := nI_inj (by omega) (by omega) hy.symm
      subst eb
      obtain rfl := at0 n hn e0'
      exact absurd ⟨by omega, hnow, by rw [hr0', tn_nI (by omega)]; exact hway⟩ h)
  have hM2 := w_asks_stop (xl C) E.tr (xD C) (xy C) e0 (y := (nI b)) (wr := aW (xy C) aa av) (XP := fun X S' => X = "java/lang/IllegalArgumentException" ∧ b = q ∧ S' = S) (hI.obj (kd := 5) (k := 0) (by omega) hI.c5).1 (hI.obj (kd := 5) (k := 0) (by omega) hI.c5).2 hM1 (fun v S' h => by obtain ⟨_, _, _, _, _, _, _, _, _, _, _, _, _, _, _, h, _⟩ := h; exact ⟨_, h⟩)
  have hM3 := w_on (xl C) E.tr (xD C) (xy C) e0 hM2 (fun v w h => by obtain ⟨_, _, q, h, -⟩ := h; exact ⟨q, h⟩) (fun X w h => by obtain ⟨S', -, h⟩ := h; exact h.1.symm ▸ Or.inl rfl)
  refine g_invSW (n := 4) (As := [.ref (ad 5 0), .int 3, .int (nI k), .int (nI b)]) (rest := rest) E hM3 hG rfl rfl rfl (by decide +kernel) hR rfl rfl hcat d hf (fun v w h => ?_)
  rcases h with ⟨S', vv, q2, rfl, rfl, h, hq2⟩ | ⟨rfl, S', rfl, h⟩ | ⟨-, S', -, h⟩
  · obtain ⟨k', b', n, hk', hx, hb', hy, hn, e0', hne, -, i2, r2, hS2, hV2, rfl, hI2⟩ := h
    have ek : k' = k := nI_inj (by omega) (by omega) hx.symm
    subst ek
    have eb : b' = b := nI_inj (by omega) (by omega) hy.symm
    subst eb
    obtain rfl := at0 n hn e0'
    obtain ⟨z, hz, rfl⟩ := hq2
    have ez := (Value.int.inj (Option.some.inj hz)).symm
    rw [ez]
    have hS3 := hS.tr hS2
    have hK2 := hK.sc hS3 hV2
    have hK3 := hK2.addStop hN hk' (n := 0) (b := b') (by omega) (by rw [hS3.1 0 (by decide) (by decide), h0]; rfl) hb' (by rw [hS3.2 0 (by omega), hS3.2 1 (by omega), hS3.2 2 (by omega), hS3.2 (24 + k') (by omega), hr0, tn_nI (by omega)]; exact hd)
    refine kt (fun z => hne (by rw [hr0', z])) _ _ _ hK3 (fun f h1 h2 h3 => ?_) (fun x hx => ?_) ⟨S', ad, _, _, rfl, hI2, rfl, SC.rf, hK3.wv⟩
    · rw [up2_nf h1]; exact hS3.1 f h2 h3
    · rw [up2_nf (by omega)]; exact hS3.2 x (by omega)
  · obtain ⟨-, h1, rfl⟩ := h
    exact kf h1 _ ⟨S', ad, i', r', rfl, hI, rfl, hS, hV⟩
  · exact absurd h.1 (by decide)
theorem k_on_pass (E : gOk C cc nL Ts own e0 rm) (hW : LW (xy C) e0 a aa av c i j p r M W) (hK : KN c i j p r M N) {H : Nat} (hH1 : 1 ≤ H) (hH : H ≤ 200) (hNH : N + H ≤ 5000) (hG : GoodIn Ts (va_wsS own idx yL_on wsL_on)) (hR : 10 ≤ rm.frames ∧ 216 ≤ rm.locals) (hcat : (rest.map fun v => v.category).sum ≤ 8) (d : decode cc pc = .ok (.invokestatic idx, 3)) (hf : mc + 3 ≤ rm.cells ∧ ms + 18 ≤ rm.slots)
    (kk : ∀ (i2 : Nat → Nat → Int32) (j2 : Nat → Nat → Int64) (R : Nat → Nat → Int32) (W' : va_W), KN c i2 j2 p R M (N + H) → (∀ f, f ≠ 16 → f ≠ 17 → f ≠ 18 → i2 f = i f) → (∀ x, x ≠ 3 → ¬ (4 ≤ x ∧ x < 24) → R x = r x) → (∀ l, l < c 0 → j2 0 l = j 0 l + lN H * (i 1 l).toInt64 * (exL i r (clM (fun k => i 11 k) (fun k => i 7 k) none (c 2)) M l).toInt64) → (∀ k, ¬ i 11 k = 2 → j2 2 k = j 2 k) → LW (xy C) e0 a aa av c i2 j2 p R M W' → G C W' (mc + 3) (ms + 18) (pc + 3) L (.long (lN (N + H)) :: rest)) : G C W mc ms pc L (.int 0 :: .int (nI H) :: .int 4 :: .ref a :: rest) := by
  obtain ⟨S, ad, i', r', rfl, hI, rfl, hS, hV⟩ := hW
  have hK' := hK.sc hS hV
  have hb := hK.b
  have hM1 := gMet.impX (m_X5_pass (xl C) E.tr (xD C) (xy C) e0 hI (h := nI H) hK'.m hb.2.2.2.1 hK'.lns hV hK'.lii hK'.cap) (xpost' := fun X w => ∃ S', w = cW (xy C) S' ∧ (False)) (fun X w h => by
    obtain ⟨S', rfl, h⟩ := h
    refine ⟨S', rfl, ?_⟩
    rcases h with ⟨-, h, -⟩ | ⟨-, ⟨-, h⟩, -⟩
    · exact h ⟨by rw [show (1 : Int32) = nI 1 from rfl, nI_ltI (by omega) (by decide)]; omega, by rw [show (200 : Int32) = nI 200 from rfl, nI_ltI (by decide) (by omega)]; omega⟩
    · rw [hK'.now, nI_add, show (5000 : Int32) = nI 5000 from rfl, nI_ltI (by decide) (by omega)] at h
      omega)
  have hM2 := w_asks_pass (xl C) E.tr (xD C) (xy C) e0 (y := 0) (wr := aW (xy C) aa av) (XP := fun X S' => False) (hI.obj (kd := 5) (k := 0) (by omega) hI.c5).1 (hI.obj (kd := 5) (k := 0) (by omega) hI.c5).2 hM1 (fun v S' h => by obtain ⟨_, _, _, _, _, _, _, _, _, _, _, _, _, _, _, h⟩ := h; exact ⟨_, h⟩)
  have hM3 := w_on (xl C) E.tr (xD C) (xy C) e0 hM2 (fun v w h => by obtain ⟨_, _, q, h, -⟩ := h; exact ⟨q, h⟩) (fun X w h => by obtain ⟨S', -, h⟩ := h; exact h.elim)
  refine g_invSW (n := 4) (As := [.ref (ad 5 0), .int 4, .int (nI H), .int 0]) (rest := rest) E hM3 hG rfl rfl rfl (by decide +kernel) hR rfl rfl hcat d hf (fun v w h => ?_)
  rcases h with ⟨S', vv, q2, rfl, rfl, h, hq2⟩ | ⟨-, S', -, h⟩ | ⟨-, S', -, h⟩
  · obtain ⟨H', g1, g2, g3, -, i1, r1, i2, r2, hS1, hS2, hV2, s, hs, hI2, rfl⟩ := h
    have eH : H' = H := nI_inj (by omega) (by omega) g3.symm
    subst eH
    obtain ⟨z, hz, rfl⟩ := hq2
    have ez := (Value.int.inj (Option.some.inj hz)).symm
    obtain ⟨hK2, x1, x2⟩ := hK'.pass hH hNH hS1 hS2 hV2 (JJ := s.1) (RR := s.2) hs
    rw [ez, hK'.now, nI_add, nI_l (by omega)]
    have hkeep := hr_keep (i := i2) (p := p) (r := r2) (n2 := c 2) (J0 := (wgJ i1 (cmJ i' j r' (clM (fun k => i' 11 k) (fun k => i' 7 k) none (c 2)) (nI H') M (c 0)) r1 (clM (fun k => i' 11 k) (fun k => i' 7 k) none (c 2)) M (c 0) (c 2) (c 2))) H'
    rw [← hs] at hkeep
    refine kk _ _ _ _ hK2 (fun f h1 h2 h3 => ?_) (fun x h1 h2 => ?_) (fun l hl => ?_) (fun k hk => ?_) ⟨S', ad, _, _, rfl, hI2, rfl, SC.rf, hK2.wv⟩
    · rw [nwI_o h3, hS2.1 f h1 h2, hS.1 f h1 h2]
    · rw [hkeep.2.1 x h1, hS2.2 x h2, hS.2 x h2]
    · rw [x1 l hl, hS.1 1 (by decide) (by decide), hS.1 11 (by decide) (by decide), hS.1 7 (by decide) (by decide), sc_ex hS]
    · exact x2 k (by rw [hS.1 11 (by decide) (by decide)]; exact hk)
  · exact h.elim
  · exact h.elim
end LO
