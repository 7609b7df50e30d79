/-! each permit is in its opening -/
abbrev rm_L_isPermit : Room := { frames := 8, cells := 200, slots := 1200, locals := 144 }
set_option maxHeartbeats 4000000 in
set_option maxRecDepth 100000 in
theorem m_L_isPermit (l : Launch) (hl : l.stackTraces = false) (D : va_G) (cy : Nat → ClassId) (e0 : Nat) {a k M N : Nat} {aa : Nat → Nat} {av : Nat → Nat → Int32} {c : Nat → Nat} {i : Nat → Nat → Int32} {j : Nat → Nat → Int64} {p : Nat → Nat → Option Nat} {r : Nat → Nat → Int32} {W : va_W} (hW : LW cy e0 a aa av c i j p r M W) (hK : KN c i j p r M N) (hA : LA c i p r av) (hk : k < c 2) : gMet l yL_isPermit wsL_isPermit rm_L_isPermit D cy e0 [.ref a, .ref (aa 4), .ref (aa 5), .int (nI k), .int (nI (c 2))] W (fun v W' => v = some (.int 1) ∧ LW cy e0 a aa av c i j p r M W') (fun _ _ => False) 200 1200 := by
  refine gMet.of (cc := cL_isPermit) (maxL := 15) (ret := some .boolean) hl (by decide) rfl (Nat.le_of_ble_eq_true rfl) ?_
  intro C E h1 h2 h3 hr hnm hT hE
  subst h1; subst h2; subst h3
  have E : gOk C cL_isPermit 15 wsL_isPermit RL e0 rm_L_isPermit := E
  have hb := hK.b
  obtain ⟨s, hs, es⟩ := hK.st5 hk
  obtain ⟨f, e, ef, ee, hfe, he40, he5⟩ := hK.span hk
  have hca := hK.ca hk
  have hself := hK.tog_self hk
  obtain ⟨x, hx⟩ : ∃ x, x = togV j p k := ⟨_, rfl⟩
  have hfee : ∃ D n, (∀ b, b < c 2 → bJ x b = true → feV i j p b = nI (D / n + (if fb_ct (bJ x) b = 0 then D % n else 0))) ∧ (x = 0 ∨ (D = 1000 + 100 * (e - f) ∧ 0 < n ∧ fb_ct (bJ x) (c 2) = n)) := by
    by_cases h0 : x = 0
    · exact ⟨0, 1, fun b _ hb => by rw [h0, bJ_0] at hb; exact absurd hb (by decide), Or.inl h0⟩
    · obtain ⟨n, n1, n2, n3, n4⟩ := hK.fee hk ef ee hfe he40 he5 (by rw [← hx]; exact h0)
      rw [← hx] at n3 n4
      exact ⟨_, n, n4, Or.inr ⟨rfl, n1, n3⟩⟩
  obtain ⟨Du, nn, hfe1, hfe2⟩ := hfee
  have hm8 : ∀ q, q < c 2 → bJ x q = true → av 4 q = av 4 k ∧ froV i p q = nI f ∧ endV i p q = nI e ∧ togV j p q = x ∧ (q ≠ k → av 5 q = 0 ∧ av 5 k = 0) := by
    intro q hq hbit
    rw [hx] at hbit
    obtain ⟨-, m2, m3, m4, m5, m6⟩ := hK.mates hk (by omega) hbit
    have a1 := hA.2.2 q hq
    have a2 := hA.2.2 k hk
    refine ⟨by rw [a1.1, a2.1, m2], m3.trans ef, m4.trans ee, m5.trans hx.symm, fun hne => ?_⟩
    rw [a1.2.1, a2.2.1]
    exact m6 hne
  -- the loop over the permits
  have loop : ∀ (n q : Nat), q + n = c 2 → ∀ W, LW (xy C) e0 a aa av c i j p r M W → G C W (7 + 4 * q) (42 + 24 * q) 182 [(14, .int (nI q)), (13, .int (nI (feS x Du nn q))), (12, .int (nI 1)), (9, .long x), (8, .int (nI e)), (7, .int (nI f)), (0, .ref a), (1, .ref (aa 4)), (2, .ref (aa 5)), (3, .int (nI k)), (4, .int (nI (c 2)))] [] := by
    intro n
    induction n with
    | zero =>
      intro q hq W hW
      refine g_iload E dL_isPermit_182 0 rfl ?_
      refine g_iload E dL_isPermit_184 10 rfl ?_
      refine n_icmp_ge (tgt := 293) E (by omega) (by omega) dL_isPermit_186 (by decide) (fun c_186 => ?_) (fun z => by omega)
      refine g_iload E dL_isPermit_293 2 rfl ?_
      refine g_if_eq (tgt := 326) E dL_isPermit_295 (by decide) (fun z => absurd z (by decide)) (fun c_295 => ?_)
      refine g_lload E dL_isPermit_298 3 rfl ?_
      refine g_lconst (v := 0) E dL_isPermit_300 (by decide) ?_
      refine g_lcmp E dL_isPermit_301 ?_
      rcases hfe2 with h0 | ⟨h0, h1, h2⟩
      · refine g_if_eq (tgt := 322) E dL_isPermit_302 (by decide) (fun c_302 => ?_) (fun z => absurd ((lg_cmp_eq _ _).mpr h0) z)
        refine g_iconst (v := nI 1) E dL_isPermit_322 (by decide) ?_
        refine g_goto (tgt := 327) E dL_isPermit_323 (by decide) ?_
        exact g_zret E hE hr (Or.inr rfl) dL_isPermit_327 (by omega) (by omega) ⟨rfl, hW⟩
      · have hx0 : ¬ x = 0 := fun z => by
          rw [z] at h2
          rw [fb_ct_zero.mpr (fun q _ => bJ_0 q)] at h2
          omega
        have hcq : q = c 2 := by omega
        have hS9 : feS x Du nn q = Du := feS_end (by rw [hcq]; exact h2) h1
        refine g_if_eq (tgt := 322) E dL_isPermit_302 (by decide) (fun z => absurd ((lg_cmp_eq _ _).mp z) hx0) (fun c_302 => ?_)
        refine g_iload E dL_isPermit_305 1 rfl ?_
        refine g_sipush (v := nI 1000) E dL_isPermit_307 (by decide) ?_
        refine g_bipush (v := nI 100) E dL_isPermit_310 (by decide) ?_
        refine g_iload E dL_isPermit_312 4 rfl ?_
        refine g_iload E dL_isPermit_314 5 rfl ?_
        refine n_isub E (by omega) dL_isPermit_316 ?_
        refine n_imul E dL_isPermit_317 ?_
        refine n_iadd E dL_isPermit_318 ?_
        refine n_icmp_ne (tgt := 326) E (by rw [hS9]; omega) (by omega) dL_isPermit_319 (by decide) (fun z => absurd (by rw [hS9, h0]) z) (fun c_319 => ?_)
        refine g_iconst (v := nI 1) E dL_isPermit_322 (by decide) ?_
        refine g_goto (tgt := 327) E dL_isPermit_323 (by decide) ?_
        exact g_zret E hE hr (Or.inr rfl) dL_isPermit_327 (by omega) (by omega) ⟨rfl, hW⟩
    | succ n ih =>
      intro q hq W hW
      have next : ∀ W, LW (xy C) e0 a aa av c i j p r M W → ∀ S, S = feS x Du nn (q + 1) → G C W (7 + 4 * q + 4) (42 + 24 * q + 24) 287 [(12, .int (nI 1)), (13, .int (nI S)), (14, .int (nI q)), (9, .long x), (8, .int (nI e)), (7, .int (nI f)), (0, .ref a), (1, .ref (aa 4)), (2, .ref (aa 5)), (3, .int (nI k)), (4, .int (nI (c 2)))] [] := by
        intro W hW S hS
        subst hS
        refine g_iinc (v := nI (q + 1)) (L' := [(14, .int (nI (q + 1))), (12, .int (nI 1)), (13, .int (nI (feS x Du nn (q + 1)))), (9, .long x), (8, .int (nI e)), (7, .int (nI f)), (0, .ref a), (1, .ref (aa 4)), (2, .ref (aa 5)), (3, .int (nI k)), (4, .int (nI (c 2)))]) E dL_isPermit_287 2 rfl (nI_1 q) (by decide) rfl ?_
        refine g_goto (tgt := 182) E dL_isPermit_290 (by decide) ?_
        refine g_locals [(14, .int (nI (q + 1))), (13, .int (nI (feS x Du nn (q + 1)))), (12, .int (nI 1)), (9, .long x), (8, .int (nI e)), (7, .int (nI f)), (0, .ref a), (1, .ref (aa 4)), (2, .ref (aa 5)), (3, .int (nI k)), (4, .int (nI (c 2)))] [0, 2, 1, 3, 4, 5, 6, 7, 8, 9, 10] rfl ?_
        exact g_widen (by omega) (by omega) (ih (q + 1) (by omega) W hW)
      refine g_iload E dL_isPermit_182 0 rfl ?_
      refine g_iload E dL_isPermit_184 10 rfl ?_
      refine n_icmp_ge (tgt := 293) E (by omega) (by omega) dL_isPermit_186 (by decide) (fun z => by omega) (fun c_186 => ?_)
      refine g_iload E dL_isPermit_189 2 rfl ?_
      refine g_if_eq (tgt := 293) E dL_isPermit_191 (by decide) (fun z => absurd z (by decide)) (fun c_191 => ?_)
      refine g_lload E dL_isPermit_194 3 rfl ?_
      refine g_iload E dL_isPermit_196 0 rfl ?_
      refine g_lshr E dL_isPermit_198 ?_
      refine g_lconst (v := 1) E dL_isPermit_199 (by decide) ?_
      refine g_land E dL_isPermit_200 ?_
      rw [shr1 (show q < 64 by omega)]
      by_cases hbit : bJ x q = true
      · rw [if_pos hbit]
        obtain ⟨y1, y2, y3, y4, y5⟩ := hm8 q (by omega) hbit
        refine g_lconst (v := 1) E dL_isPermit_201 (by decide) ?_
        refine g_lcmp E dL_isPermit_202 ?_
        refine g_if_ne (tgt := 287) E dL_isPermit_203 (by decide) (fun z => absurd ((lg_cmp_eq _ _).mpr rfl) z) (fun c_203 => ?_)
        refine g_iload E dL_isPermit_206 1 rfl ?_
        refine g_aload_n E dL_isPermit_208 rfl 6 rfl ?_
        refine g_iload E dL_isPermit_209 0 rfl ?_
        refine k_fee E hW hK (k := q) (by omega) gL_isPermit_X5_fee ⟨Nat.le_of_ble_eq_true rfl, Nat.le_of_ble_eq_true rfl⟩ (Nat.le_of_ble_eq_true rfl) dL_isPermit_211 ⟨by show _ ≤ 200; omega, by show _ ≤ 1200; omega⟩ (fun W hW => ?_)
        rw [hfe1 q (by omega) hbit]
        refine n_iadd E dL_isPermit_214 ?_
        refine g_istore (L' := [(13, .int (nI ((feS x Du nn q) + (Du / nn + (if fb_ct (bJ x) q = 0 then Du % nn else 0))))), (14, .int (nI q)), (12, .int (nI 1)), (9, .long x), (8, .int (nI e)), (7, .int (nI f)), (0, .ref a), (1, .ref (aa 4)), (2, .ref (aa 5)), (3, .int (nI k)), (4, .int (nI (c 2)))]) E dL_isPermit_215 (by decide) rfl ?_
        have hS : feS x Du nn q + (Du / nn + (if fb_ct (bJ x) q = 0 then Du % nn else 0)) = feS x Du nn (q + 1) := (feS_t hbit).symm
        obtain ⟨S9, hS9⟩ : ∃ S9, S9 = feS x Du nn q + (Du / nn + (if fb_ct (bJ x) q = 0 then Du % nn else 0)) := ⟨_, rfl⟩
        rw [← hS9] at hS ⊢
        refine g_aload_n E dL_isPermit_217 rfl 7 rfl ?_
        refine g_iload E dL_isPermit_218 1 rfl ?_
        refine l_ald E hW 4 q (by decide) (by show _ < 40; omega) dL_isPermit_220 ?_
        refine g_aload_n E dL_isPermit_221 rfl 7 rfl ?_
        refine g_iload_n E dL_isPermit_222 rfl 9 rfl ?_
        refine l_ald E hW 4 k (by decide) (by show _ < 40; omega) dL_isPermit_223 ?_
        refine g_icmp_ne (tgt := 284) E dL_isPermit_224 (by decide) (fun z => absurd y1 z) (fun c_224 => ?_)
        refine g_aload_n E dL_isPermit_227 rfl 6 rfl ?_
        refine g_iload E dL_isPermit_228 1 rfl ?_
        refine k_from E hW hK (k := q) (by omega) gL_isPermit_X5_from ⟨Nat.le_of_ble_eq_true rfl, Nat.le_of_ble_eq_true rfl⟩ (Nat.le_of_ble_eq_true rfl) dL_isPermit_230 ⟨by show _ ≤ 200; omega, by show _ ≤ 1200; omega⟩ (fun W hW => ?_)
        rw [y2]
        refine g_iload E dL_isPermit_233 5 rfl ?_
        refine n_icmp_ne (tgt := 284) E (by omega) (by omega) dL_isPermit_235 (by decide) (fun z => absurd rfl z) (fun c_235 => ?_)
        refine g_aload_n E dL_isPermit_238 rfl 6 rfl ?_
        refine g_iload E dL_isPermit_239 1 rfl ?_
        refine k_end E hW hK (k := q) (by omega) gL_isPermit_X5_end ⟨Nat.le_of_ble_eq_true rfl, Nat.le_of_ble_eq_true rfl⟩ (Nat.le_of_ble_eq_true rfl) dL_isPermit_241 ⟨by show _ ≤ 200; omega, by show _ ≤ 1200; omega⟩ (fun W hW => ?_)
        rw [y3]
        refine g_iload E dL_isPermit_244 4 rfl ?_
        refine n_icmp_ne (tgt := 284) E (by omega) (by omega) dL_isPermit_246 (by decide) (fun z => absurd rfl z) (fun c_246 => ?_)
        refine g_aload_n E dL_isPermit_249 rfl 6 rfl ?_
        refine g_iload E dL_isPermit_250 1 rfl ?_
        refine k_together E hW hK (k := q) (by omega) gL_isPermit_X5_together ⟨Nat.le_of_ble_eq_true rfl, Nat.le_of_ble_eq_true rfl⟩ (Nat.le_of_ble_eq_true rfl) dL_isPermit_252 ⟨by show _ ≤ 200; omega, by show _ ≤ 1200; omega⟩ (fun W hW => ?_)
        rw [y4]
        refine g_lload E dL_isPermit_255 3 rfl ?_
        refine g_lcmp E dL_isPermit_257 ?_
        refine g_if_ne (tgt := 284) E dL_isPermit_258 (by decide) (fun z => absurd ((lg_cmp_eq _ _).mpr rfl) z) (fun c_258 => ?_)
        refine g_aload_n E dL_isPermit_261 rfl 8 rfl ?_
        refine g_iload E dL_isPermit_262 1 rfl ?_
        refine l_ald E hW 5 q (by decide) (by show _ < 40; omega) dL_isPermit_264 ?_
        have join : ∀ W, LW (xy C) e0 a aa av c i j p r M W → G C W (7 + 4 * q + 1 + 1 + 1 + 1) (42 + 24 * q + 6 + 6 + 6 + 6) 280 [(13, .int (nI S9)), (14, .int (nI q)), (12, .int (nI 1)), (9, .long x), (8, .int (nI e)), (7, .int (nI f)), (0, .ref a), (1, .ref (aa 4)), (2, .ref (aa 5)), (3, .int (nI k)), (4, .int (nI (c 2)))] [] := by
          intro W hW
          refine g_iconst (v := nI 1) E dL_isPermit_280 (by decide) ?_
          refine g_goto (tgt := 285) E dL_isPermit_281 (by decide) ?_
          refine g_istore (L' := [(12, .int (nI 1)), (13, .int (nI S9)), (14, .int (nI q)), (9, .long x), (8, .int (nI e)), (7, .int (nI f)), (0, .ref a), (1, .ref (aa 4)), (2, .ref (aa 5)), (3, .int (nI k)), (4, .int (nI (c 2)))]) E dL_isPermit_285 (by decide) rfl ?_
          refine g_locals [(12, .int (nI 1)), (13, .int (nI S9)), (14, .int (nI q)), (9, .long x), (8, .int (nI e)), (7, .int (nI f)), (0, .ref a), (1, .ref (aa 4)), (2, .ref (aa 5)), (3, .int (nI k)), (4, .int (nI (c 2)))] [0, 1, 2, 3, 4, 5, 6, 7, 8, 9, 10] rfl ?_
          exact next W hW S9 hS
        by_cases z5 : av 5 q = 0
        · refine g_if_ne (tgt := 274) E dL_isPermit_265 (by decide) (fun z => absurd z5 z) (fun c_265 => ?_)
          refine g_aload_n E dL_isPermit_268 rfl 8 rfl ?_
          refine g_iload_n E dL_isPermit_269 rfl 9 rfl ?_
          refine l_ald E hW 5 k (by decide) (by show _ < 40; omega) dL_isPermit_270 ?_
          by_cases z6 : av 5 k = 0
          · refine g_if_eq (tgt := 280) E dL_isPermit_271 (by decide) (fun c_271 => ?_) (fun z => absurd z6 z)
            exact join W hW
          · have hqk : q = k := Classical.byContradiction fun w => z6 (y5 w).2
            refine g_if_eq (tgt := 280) E dL_isPermit_271 (by decide) (fun z => absurd z z6) (fun c_271 => ?_)
            refine g_iload E dL_isPermit_274 1 rfl ?_
            refine g_iload_n E dL_isPermit_276 rfl 9 rfl ?_
            refine n_icmp_ne (tgt := 284) E (by omega) (by omega) dL_isPermit_277 (by decide) (fun z => absurd hqk z) (fun c_277 => ?_)
            exact join W hW
        · have hqk : q = k := Classical.byContradiction fun w => z5 (y5 w).1
          refine g_if_ne (tgt := 274) E dL_isPermit_265 (by decide) (fun c_265 => ?_) (fun z => absurd z (fun y => z5 y))
          refine g_iload E dL_isPermit_274 1 rfl ?_
          refine g_iload_n E dL_isPermit_276 rfl 9 rfl ?_
          refine n_icmp_ne (tgt := 284) E (by omega) (by omega) dL_isPermit_277 (by decide) (fun z => absurd hqk z) (fun c_277 => ?_)
          exact join W hW
      · rw [if_neg hbit]
        refine g_lconst (v := 1) E dL_isPermit_201 (by decide) ?_
        refine g_lcmp E dL_isPermit_202 ?_
        refine g_if_ne (tgt := 287) E dL_isPermit_203 (by decide) (fun c_203 => ?_) (fun z => absurd (((lg_cmp_eq _ _).mp z)) (by decide))
        refine g_locals [(12, .int (nI 1)), (13, .int (nI (feS x Du nn q))), (14, .int (nI q)), (9, .long x), (8, .int (nI e)), (7, .int (nI f)), (0, .ref a), (1, .ref (aa 4)), (2, .ref (aa 5)), (3, .int (nI k)), (4, .int (nI (c 2)))] [2, 1, 0, 3, 4, 5, 6, 7, 8, 9, 10] rfl ?_
        exact g_widen (by omega) (by omega) (next W hW _ (feS_f hbit).symm)
  have start : ∀ W, LW (xy C) e0 a aa av c i j p r M W → ∀ q6 q5 q11 : Value, G C W (0 + 1 + 1 + 1 + 1 + 1 + 1) (0 + 6 + 6 + 6 + 6 + 6 + 6) 176 [(12, .int (nI 1)), (9, .long x), (8, .int (nI e)), (7, .int (nI f)), (0, .ref a), (1, .ref (aa 4)), (2, .ref (aa 5)), (3, .int (nI k)), (4, .int (nI (c 2)))] [] := by
    intro W hW q6 q5 q11
    refine g_iconst (v := nI 0) E dL_isPermit_176 (by decide) ?_
    refine g_istore (L' := [(13, .int (nI 0)), (12, .int (nI 1)), (9, .long x), (8, .int (nI e)), (7, .int (nI f)), (0, .ref a), (1, .ref (aa 4)), (2, .ref (aa 5)), (3, .int (nI k)), (4, .int (nI (c 2)))]) E dL_isPermit_177 (by decide) rfl ?_
    refine g_iconst (v := nI 0) E dL_isPermit_179 (by decide) ?_
    refine g_istore (L' := [(14, .int (nI 0)), (13, .int (nI 0)), (12, .int (nI 1)), (9, .long x), (8, .int (nI e)), (7, .int (nI f)), (0, .ref a), (1, .ref (aa 4)), (2, .ref (aa 5)), (3, .int (nI k)), (4, .int (nI (c 2)))]) E dL_isPermit_180 (by decide) rfl ?_
    refine g_locals [(14, .int (nI 0)), (13, .int (nI 0)), (12, .int (nI 1)), (9, .long x), (8, .int (nI e)), (7, .int (nI f)), (0, .ref a), (1, .ref (aa 4)), (2, .ref (aa 5)), (3, .int (nI k)), (4, .int (nI (c 2)))] [0, 1, 2, 3, 4, 5, 6, 7, 8, 9, 10] rfl ?_
    have h0 := loop (c 2) 0 (Nat.zero_add _) W hW
    rw [feS_0] at h0
    exact g_widen (by omega) (by omega) h0
  show G C W 0 0 0 [(0, .ref a), (1, .ref (aa 4)), (2, .ref (aa 5)), (3, .int (nI k)), (4, .int (nI (c 2)))] []
  refine g_aload_n E dL_isPermit_0 rfl 0 rfl ?_
  refine g_iload_n E dL_isPermit_1 rfl 3 rfl ?_
  refine k_state E hW hK (k := k) hk gL_isPermit_X5_state ⟨Nat.le_of_ble_eq_true rfl, Nat.le_of_ble_eq_true rfl⟩ (Nat.le_of_ble_eq_true rfl) dL_isPermit_2 ⟨by show _ ≤ 200; omega, by show _ ≤ 1200; omega⟩ (fun W hW => ?_)
  rw [es]
  refine g_istore (L' := [(5, .int (nI s)), (0, .ref a), (1, .ref (aa 4)), (2, .ref (aa 5)), (3, .int (nI k)), (4, .int (nI (c 2)))]) E dL_isPermit_5 (by decide) rfl ?_
  refine g_aload_n E dL_isPermit_7 rfl 1 rfl ?_
  refine g_iload_n E dL_isPermit_8 rfl 4 rfl ?_
  refine k_cause E hW hK (k := k) hk gL_isPermit_X5_cause ⟨Nat.le_of_ble_eq_true rfl, Nat.le_of_ble_eq_true rfl⟩ (Nat.le_of_ble_eq_true rfl) dL_isPermit_9 ⟨by show _ ≤ 200; omega, by show _ ≤ 1200; omega⟩ (fun W hW => ?_)
  refine g_istore (L' := [(6, .int (i 12 k)), (5, .int (nI s)), (0, .ref a), (1, .ref (aa 4)), (2, .ref (aa 5)), (3, .int (nI k)), (4, .int (nI (c 2)))]) E dL_isPermit_12 (by decide) rfl ?_
  refine g_aload_n E dL_isPermit_14 rfl 2 rfl ?_
  refine g_iload_n E dL_isPermit_15 rfl 5 rfl ?_
  refine k_from E hW hK (k := k) hk gL_isPermit_X5_from ⟨Nat.le_of_ble_eq_true rfl, Nat.le_of_ble_eq_true rfl⟩ (Nat.le_of_ble_eq_true rfl) dL_isPermit_16 ⟨by show _ ≤ 200; omega, by show _ ≤ 1200; omega⟩ (fun W hW => ?_)
  rw [ef]
  refine g_istore (L' := [(7, .int (nI f)), (6, .int (i 12 k)), (5, .int (nI s)), (0, .ref a), (1, .ref (aa 4)), (2, .ref (aa 5)), (3, .int (nI k)), (4, .int (nI (c 2)))]) E dL_isPermit_19 (by decide) rfl ?_
  refine g_aload_n E dL_isPermit_21 rfl 3 rfl ?_
  refine g_iload_n E dL_isPermit_22 rfl 6 rfl ?_
  refine k_end E hW hK (k := k) hk gL_isPermit_X5_end ⟨Nat.le_of_ble_eq_true rfl, Nat.le_of_ble_eq_true rfl⟩ (Nat.le_of_ble_eq_true rfl) dL_isPermit_23 ⟨by show _ ≤ 200; omega, by show _ ≤ 1200; omega⟩ (fun W hW => ?_)
  rw [ee]
  refine g_istore (L' := [(8, .int (nI e)), (7, .int (nI f)), (6, .int (i 12 k)), (5, .int (nI s)), (0, .ref a), (1, .ref (aa 4)), (2, .ref (aa 5)), (3, .int (nI k)), (4, .int (nI (c 2)))]) E dL_isPermit_26 (by decide) rfl ?_
  refine g_aload_n E dL_isPermit_28 rfl 4 rfl ?_
  refine g_iload_n E dL_isPermit_29 rfl 7 rfl ?_
  refine k_together E hW hK (k := k) hk gL_isPermit_X5_together ⟨Nat.le_of_ble_eq_true rfl, Nat.le_of_ble_eq_true rfl⟩ (Nat.le_of_ble_eq_true rfl) dL_isPermit_30 ⟨by show _ ≤ 200; omega, by show _ ≤ 1200; omega⟩ (fun W hW => ?_)
  rw [← hx]
  refine g_lstore (L' := [(9, .long x), (8, .int (nI e)), (7, .int (nI f)), (6, .int (i 12 k)), (5, .int (nI s)), (0, .ref a), (1, .ref (aa 4)), (2, .ref (aa 5)), (3, .int (nI k)), (4, .int (nI (c 2)))]) E dL_isPermit_33 (by decide) rfl ?_
  rcases (by omega : s = 0 ∨ s = 1 ∨ s = 2 ∨ s = 3 ∨ s = 4) with rfl | rfl | rfl | rfl | rfl
  · have hc1 : i 12 k = -1 := hca.1.mpr (by rw [es]; decide)
    have hfp := hK.feeP hk (by rw [es]; decide) (by rw [es]; decide)
    have hbit : bJ x k = true := by rw [hx]; exact hself.mpr ⟨by rw [es]; decide, by rw [es]; decide⟩
    refine g_iload E dL_isPermit_35 4 rfl ?_
    refine g_if_eq (tgt := 52) E dL_isPermit_37 (by decide) (fun c_37 => ?_) (fun z => absurd rfl z)
    refine g_iconst (v := nI 1) E dL_isPermit_52 (by decide) ?_
    refine g_goto (tgt := 57) E dL_isPermit_53 (by decide) ?_
    refine g_istore (L' := [(11, .int (nI 1)), (9, .long x), (8, .int (nI e)), (7, .int (nI f)), (6, .int (i 12 k)), (5, .int (nI 0)), (0, .ref a), (1, .ref (aa 4)), (2, .ref (aa 5)), (3, .int (nI k)), (4, .int (nI (c 2)))]) E dL_isPermit_57 (by decide) rfl ?_
    refine g_iload E dL_isPermit_59 5 rfl ?_
    refine g_if_lt (tgt := 173) E dL_isPermit_61 (by decide) (fun z => absurd z (by decide)) (fun c_61 => ?_)
    refine g_iload E dL_isPermit_64 5 rfl ?_
    refine g_iconst (v := nI 5) E dL_isPermit_66 (by decide) ?_
    refine n_icmp_ge (tgt := 173) E (by omega) (by omega) dL_isPermit_67 (by decide) (fun z => by omega) (fun c_67 => ?_)
    refine g_iload E dL_isPermit_70 4 rfl ?_
    refine g_iconst (v := (-1)) E dL_isPermit_72 (by decide) ?_
    refine g_icmp_ne (tgt := 80) E dL_isPermit_73 (by decide) (fun z => absurd hc1 z) (fun c_73 => ?_)
    refine g_iconst (v := nI 1) E dL_isPermit_76 (by decide) ?_
    refine g_goto (tgt := 81) E dL_isPermit_77 (by decide) ?_
    refine g_iload E dL_isPermit_81 5 rfl ?_
    refine g_iconst (v := nI 1) E dL_isPermit_83 (by decide) ?_
    refine n_icmp_eq (tgt := 91) E (by omega) (by omega) dL_isPermit_84 (by decide) (fun z => absurd z (by decide)) (fun c_84 => ?_)
    refine g_iconst (v := nI 1) E dL_isPermit_87 (by decide) ?_
    refine g_goto (tgt := 92) E dL_isPermit_88 (by decide) ?_
    refine n_icmp_ne (tgt := 173) E (by omega) (by omega) dL_isPermit_92 (by decide) (fun z => absurd rfl z) (fun c_92 => ?_)
    refine g_iload E dL_isPermit_95 4 rfl ?_
    refine g_iconst (v := nI 4) E dL_isPermit_97 (by decide) ?_
    refine g_icmp_ge (tgt := 173) E dL_isPermit_98 (by decide) (fun z => absurd hca.2 (Int32.not_lt.mpr z)) (fun c_98 => ?_)
    refine g_iload E dL_isPermit_101 2 rfl ?_
    refine g_iload E dL_isPermit_103 3 rfl ?_
    refine n_icmp_le (tgt := 173) E (by omega) (by omega) dL_isPermit_105 (by decide) (fun z => by omega) (fun c_105 => ?_)
    refine g_iload E dL_isPermit_108 2 rfl ?_
    refine g_iload E dL_isPermit_110 3 rfl ?_
    refine n_isub E (by omega) dL_isPermit_112 ?_
    refine g_bipush (v := nI 40) E dL_isPermit_113 (by decide) ?_
    refine n_icmp_gt (tgt := 173) E (by omega) (by omega) dL_isPermit_115 (by decide) (fun z => by omega) (fun c_115 => ?_)
    refine g_lload E dL_isPermit_118 1 rfl ?_
    refine g_iload_n E dL_isPermit_120 rfl 9 rfl ?_
    refine g_lshr E dL_isPermit_121 ?_
    refine g_lconst (v := 1) E dL_isPermit_122 (by decide) ?_
    refine g_land E dL_isPermit_123 ?_
    rw [shr1 (show k < 64 by omega), if_pos hbit]
    refine g_iload E dL_isPermit_124 0 rfl ?_
    refine g_if_eq (tgt := 133) E dL_isPermit_126 (by decide) (fun z => absurd z (by decide)) (fun c_126 => ?_)
    refine g_lconst (v := 1) E dL_isPermit_129 (by decide) ?_
    refine g_goto (tgt := 134) E dL_isPermit_130 (by decide) ?_
    refine g_lcmp E dL_isPermit_134 ?_
    refine g_if_ne (tgt := 173) E dL_isPermit_135 (by decide) (fun z => absurd ((lg_cmp_eq _ _).mpr rfl) z) (fun c_135 => ?_)
    refine g_iload E dL_isPermit_138 5 rfl ?_
    refine g_iconst (v := nI 1) E dL_isPermit_140 (by decide) ?_
    refine n_icmp_ne (tgt := 151) E (by omega) (by omega) dL_isPermit_141 (by decide) (fun c_141 => ?_) (fun z => absurd z (by decide))
    refine g_aload_n E dL_isPermit_151 rfl 6 rfl ?_
    refine g_iload_n E dL_isPermit_152 rfl 9 rfl ?_
    refine k_fee E hW hK (k := k) hk gL_isPermit_X5_fee ⟨Nat.le_of_ble_eq_true rfl, Nat.le_of_ble_eq_true rfl⟩ (Nat.le_of_ble_eq_true rfl) dL_isPermit_153 ⟨by show _ ≤ 200; omega, by show _ ≤ 1200; omega⟩ (fun W hW => ?_)
    refine g_if_le (tgt := 163) E dL_isPermit_156 (by decide) (fun z => absurd hfp (Int32.not_lt.mpr z)) (fun c_156 => ?_)
    refine g_iconst (v := nI 1) E dL_isPermit_159 (by decide) ?_
    refine g_goto (tgt := 164) E dL_isPermit_160 (by decide) ?_
    refine g_iload E dL_isPermit_164 0 rfl ?_
    refine n_icmp_ne (tgt := 173) E (by omega) (by omega) dL_isPermit_166 (by decide) (fun z => absurd rfl z) (fun c_166 => ?_)
    refine g_iconst (v := nI 1) E dL_isPermit_169 (by decide) ?_
    refine g_goto (tgt := 174) E dL_isPermit_170 (by decide) ?_
    refine g_istore (L' := [(12, .int (nI 1)), (11, .int (nI 1)), (9, .long x), (8, .int (nI e)), (7, .int (nI f)), (6, .int (i 12 k)), (5, .int (nI 0)), (0, .ref a), (1, .ref (aa 4)), (2, .ref (aa 5)), (3, .int (nI k)), (4, .int (nI (c 2)))]) E dL_isPermit_174 (by decide) rfl ?_
    refine g_locals [(12, .int (nI 1)), (9, .long x), (8, .int (nI e)), (7, .int (nI f)), (0, .ref a), (1, .ref (aa 4)), (2, .ref (aa 5)), (3, .int (nI k)), (4, .int (nI (c 2)))] [0, 2, 3, 4, 7, 8, 9, 10, 11] rfl ?_
    exact start W hW .null .null .null
  · have hc1 : ¬ i 12 k = -1 := fun z => (hca.1.mp z) es
    have hx0 : x = 0 := by rw [hx]; exact hK.tog_ref hk es
    have hf0 := hK.fee0 hk (Or.inl es)
    have hbit : ¬ bJ x k = true := by rw [hx, hself]; rintro ⟨z1, z2⟩; exact z1 es
    refine g_iload E dL_isPermit_35 4 rfl ?_
    refine g_if_eq (tgt := 52) E dL_isPermit_37 (by decide) (fun z => absurd z (by decide)) (fun c_37 => ?_)
    refine g_iload E dL_isPermit_40 4 rfl ?_
    refine g_iconst (v := nI 2) E dL_isPermit_42 (by decide) ?_
    refine n_icmp_eq (tgt := 52) E (by omega) (by omega) dL_isPermit_43 (by decide) (fun z => absurd z (by decide)) (fun c_43 => ?_)
    refine g_iload E dL_isPermit_46 4 rfl ?_
    refine g_iconst (v := nI 3) E dL_isPermit_48 (by decide) ?_
    refine n_icmp_ne (tgt := 56) E (by omega) (by omega) dL_isPermit_49 (by decide) (fun c_49 => ?_) (fun z => absurd z (by decide))
    refine g_iconst (v := nI 0) E dL_isPermit_56 (by decide) ?_
    refine g_istore (L' := [(11, .int (nI 0)), (9, .long x), (8, .int (nI e)), (7, .int (nI f)), (6, .int (i 12 k)), (5, .int (nI 1)), (0, .ref a), (1, .ref (aa 4)), (2, .ref (aa 5)), (3, .int (nI k)), (4, .int (nI (c 2)))]) E dL_isPermit_57 (by decide) rfl ?_
    refine g_iload E dL_isPermit_59 5 rfl ?_
    refine g_if_lt (tgt := 173) E dL_isPermit_61 (by decide) (fun z => absurd z (by decide)) (fun c_61 => ?_)
    refine g_iload E dL_isPermit_64 5 rfl ?_
    refine g_iconst (v := nI 5) E dL_isPermit_66 (by decide) ?_
    refine n_icmp_ge (tgt := 173) E (by omega) (by omega) dL_isPermit_67 (by decide) (fun z => by omega) (fun c_67 => ?_)
    refine g_iload E dL_isPermit_70 4 rfl ?_
    refine g_iconst (v := (-1)) E dL_isPermit_72 (by decide) ?_
    refine g_icmp_ne (tgt := 80) E dL_isPermit_73 (by decide) (fun c_73 => ?_) (fun z => absurd z hc1)
    refine g_iconst (v := nI 0) E dL_isPermit_80 (by decide) ?_
    refine g_iload E dL_isPermit_81 5 rfl ?_
    refine g_iconst (v := nI 1) E dL_isPermit_83 (by decide) ?_
    refine n_icmp_eq (tgt := 91) E (by omega) (by omega) dL_isPermit_84 (by decide) (fun c_84 => ?_) (fun z => absurd rfl z)
    refine g_iconst (v := nI 0) E dL_isPermit_91 (by decide) ?_
    refine n_icmp_ne (tgt := 173) E (by omega) (by omega) dL_isPermit_92 (by decide) (fun z => absurd rfl z) (fun c_92 => ?_)
    refine g_iload E dL_isPermit_95 4 rfl ?_
    refine g_iconst (v := nI 4) E dL_isPermit_97 (by decide) ?_
    refine g_icmp_ge (tgt := 173) E dL_isPermit_98 (by decide) (fun z => absurd hca.2 (Int32.not_lt.mpr z)) (fun c_98 => ?_)
    refine g_iload E dL_isPermit_101 2 rfl ?_
    refine g_iload E dL_isPermit_103 3 rfl ?_
    refine n_icmp_le (tgt := 173) E (by omega) (by omega) dL_isPermit_105 (by decide) (fun z => by omega) (fun c_105 => ?_)
    refine g_iload E dL_isPermit_108 2 rfl ?_
    refine g_iload E dL_isPermit_110 3 rfl ?_
    refine n_isub E (by omega) dL_isPermit_112 ?_
    refine g_bipush (v := nI 40) E dL_isPermit_113 (by decide) ?_
    refine n_icmp_gt (tgt := 173) E (by omega) (by omega) dL_isPermit_115 (by decide) (fun z => by omega) (fun c_115 => ?_)
    refine g_lload E dL_isPermit_118 1 rfl ?_
    refine g_iload_n E dL_isPermit_120 rfl 9 rfl ?_
    refine g_lshr E dL_isPermit_121 ?_
    refine g_lconst (v := 1) E dL_isPermit_122 (by decide) ?_
    refine g_land E dL_isPermit_123 ?_
    rw [shr1 (show k < 64 by omega), if_neg hbit]
    refine g_iload E dL_isPermit_124 0 rfl ?_
    refine g_if_eq (tgt := 133) E dL_isPermit_126 (by decide) (fun c_126 => ?_) (fun z => absurd rfl z)
    refine g_lconst (v := 0) E dL_isPermit_133 (by decide) ?_
    refine g_lcmp E dL_isPermit_134 ?_
    refine g_if_ne (tgt := 173) E dL_isPermit_135 (by decide) (fun z => absurd ((lg_cmp_eq _ _).mpr rfl) z) (fun c_135 => ?_)
    refine g_iload E dL_isPermit_138 5 rfl ?_
    refine g_iconst (v := nI 1) E dL_isPermit_140 (by decide) ?_
    refine n_icmp_ne (tgt := 151) E (by omega) (by omega) dL_isPermit_141 (by decide) (fun z => absurd rfl z) (fun c_141 => ?_)
    refine g_lload E dL_isPermit_144 1 rfl ?_
    refine g_lconst (v := 0) E dL_isPermit_146 (by decide) ?_
    refine g_lcmp E dL_isPermit_147 ?_
    refine g_if_ne (tgt := 173) E dL_isPermit_148 (by decide) (fun z => absurd ((lg_cmp_eq _ _).mpr hx0) z) (fun c_148 => ?_)
    refine g_aload_n E dL_isPermit_151 rfl 6 rfl ?_
    refine g_iload_n E dL_isPermit_152 rfl 9 rfl ?_
    refine k_fee E hW hK (k := k) hk gL_isPermit_X5_fee ⟨Nat.le_of_ble_eq_true rfl, Nat.le_of_ble_eq_true rfl⟩ (Nat.le_of_ble_eq_true rfl) dL_isPermit_153 ⟨by show _ ≤ 200; omega, by show _ ≤ 1200; omega⟩ (fun W hW => ?_)
    refine g_if_le (tgt := 163) E dL_isPermit_156 (by decide) (fun c_156 => ?_) (fun z => absurd (by rw [hf0]; decide) z)
    refine g_iconst (v := nI 0) E dL_isPermit_163 (by decide) ?_
    refine g_iload E dL_isPermit_164 0 rfl ?_
    refine n_icmp_ne (tgt := 173) E (by omega) (by omega) dL_isPermit_166 (by decide) (fun z => absurd rfl z) (fun c_166 => ?_)
    refine g_iconst (v := nI 1) E dL_isPermit_169 (by decide) ?_
    refine g_goto (tgt := 174) E dL_isPermit_170 (by decide) ?_
    refine g_istore (L' := [(12, .int (nI 1)), (11, .int (nI 0)), (9, .long x), (8, .int (nI e)), (7, .int (nI f)), (6, .int (i 12 k)), (5, .int (nI 1)), (0, .ref a), (1, .ref (aa 4)), (2, .ref (aa 5)), (3, .int (nI k)), (4, .int (nI (c 2)))]) E dL_isPermit_174 (by decide) rfl ?_
    refine g_locals [(12, .int (nI 1)), (9, .long x), (8, .int (nI e)), (7, .int (nI f)), (0, .ref a), (1, .ref (aa 4)), (2, .ref (aa 5)), (3, .int (nI k)), (4, .int (nI (c 2)))] [0, 2, 3, 4, 7, 8, 9, 10, 11] rfl ?_
    exact start W hW .null .null .null
  · have hc1 : i 12 k = -1 := hca.1.mpr (by rw [es]; decide)
    have hfp := hK.feeP hk (by rw [es]; decide) (by rw [es]; decide)
    have hbit : bJ x k = true := by rw [hx]; exact hself.mpr ⟨by rw [es]; decide, by rw [es]; decide⟩
    refine g_iload E dL_isPermit_35 4 rfl ?_
    refine g_if_eq (tgt := 52) E dL_isPermit_37 (by decide) (fun z => absurd z (by decide)) (fun c_37 => ?_)
    refine g_iload E dL_isPermit_40 4 rfl ?_
    refine g_iconst (v := nI 2) E dL_isPermit_42 (by decide) ?_
    refine n_icmp_eq (tgt := 52) E (by omega) (by omega) dL_isPermit_43 (by decide) (fun c_43 => ?_) (fun z => absurd rfl z)
    refine g_iconst (v := nI 1) E dL_isPermit_52 (by decide) ?_
    refine g_goto (tgt := 57) E dL_isPermit_53 (by decide) ?_
    refine g_istore (L' := [(11, .int (nI 1)), (9, .long x), (8, .int (nI e)), (7, .int (nI f)), (6, .int (i 12 k)), (5, .int (nI 2)), (0, .ref a), (1, .ref (aa 4)), (2, .ref (aa 5)), (3, .int (nI k)), (4, .int (nI (c 2)))]) E dL_isPermit_57 (by decide) rfl ?_
    refine g_iload E dL_isPermit_59 5 rfl ?_
    refine g_if_lt (tgt := 173) E dL_isPermit_61 (by decide) (fun z => absurd z (by decide)) (fun c_61 => ?_)
    refine g_iload E dL_isPermit_64 5 rfl ?_
    refine g_iconst (v := nI 5) E dL_isPermit_66 (by decide) ?_
    refine n_icmp_ge (tgt := 173) E (by omega) (by omega) dL_isPermit_67 (by decide) (fun z => by omega) (fun c_67 => ?_)
    refine g_iload E dL_isPermit_70 4 rfl ?_
    refine g_iconst (v := (-1)) E dL_isPermit_72 (by decide) ?_
    refine g_icmp_ne (tgt := 80) E dL_isPermit_73 (by decide) (fun z => absurd hc1 z) (fun c_73 => ?_)
    refine g_iconst (v := nI 1) E dL_isPermit_76 (by decide) ?_
    refine g_goto (tgt := 81) E dL_isPermit_77 (by decide) ?_
    refine g_iload E dL_isPermit_81 5 rfl ?_
    refine g_iconst (v := nI 1) E dL_isPermit_83 (by decide) ?_
    refine n_icmp_eq (tgt := 91) E (by omega) (by omega) dL_isPermit_84 (by decide) (fun z => absurd z (by decide)) (fun c_84 => ?_)
    refine g_iconst (v := nI 1) E dL_isPermit_87 (by decide) ?_
    refine g_goto (tgt := 92) E dL_isPermit_88 (by decide) ?_
    refine n_icmp_ne (tgt := 173) E (by omega) (by omega) dL_isPermit_92 (by decide) (fun z => absurd rfl z) (fun c_92 => ?_)
    refine g_iload E dL_isPermit_95 4 rfl ?_
    refine g_iconst (v := nI 4) E dL_isPermit_97 (by decide) ?_
    refine g_icmp_ge (tgt := 173) E dL_isPermit_98 (by decide) (fun z => absurd hca.2 (Int32.not_lt.mpr z)) (fun c_98 => ?_)
    refine g_iload E dL_isPermit_101 2 rfl ?_
    refine g_iload E dL_isPermit_103 3 rfl ?_
    refine n_icmp_le (tgt := 173) E (by omega) (by omega) dL_isPermit_105 (by decide) (fun z => by omega) (fun c_105 => ?_)
    refine g_iload E dL_isPermit_108 2 rfl ?_
    refine g_iload E dL_isPermit_110 3 rfl ?_
    refine n_isub E (by omega) dL_isPermit_112 ?_
    refine g_bipush (v := nI 40) E dL_isPermit_113 (by decide) ?_
    refine n_icmp_gt (tgt := 173) E (by omega) (by omega) dL_isPermit_115 (by decide) (fun z => by omega) (fun c_115 => ?_)
    refine g_lload E dL_isPermit_118 1 rfl ?_
    refine g_iload_n E dL_isPermit_120 rfl 9 rfl ?_
    refine g_lshr E dL_isPermit_121 ?_
    refine g_lconst (v := 1) E dL_isPermit_122 (by decide) ?_
    refine g_land E dL_isPermit_123 ?_
    rw [shr1 (show k < 64 by omega), if_pos hbit]
    refine g_iload E dL_isPermit_124 0 rfl ?_
    refine g_if_eq (tgt := 133) E dL_isPermit_126 (by decide) (fun z => absurd z (by decide)) (fun c_126 => ?_)
    refine g_lconst (v := 1) E dL_isPermit_129 (by decide) ?_
    refine g_goto (tgt := 134) E dL_isPermit_130 (by decide) ?_
    refine g_lcmp E dL_isPermit_134 ?_
    refine g_if_ne (tgt := 173) E dL_isPermit_135 (by decide) (fun z => absurd ((lg_cmp_eq _ _).mpr rfl) z) (fun c_135 => ?_)
    refine g_iload E dL_isPermit_138 5 rfl ?_
    refine g_iconst (v := nI 1) E dL_isPermit_140 (by decide) ?_
    refine n_icmp_ne (tgt := 151) E (by omega) (by omega) dL_isPermit_141 (by decide) (fun c_141 => ?_) (fun z => absurd z (by decide))
    refine g_aload_n E dL_isPermit_151 rfl 6 rfl ?_
    refine g_iload_n E dL_isPermit_152 rfl 9 rfl ?_
    refine k_fee E hW hK (k := k) hk gL_isPermit_X5_fee ⟨Nat.le_of_ble_eq_true rfl, Nat.le_of_ble_eq_true rfl⟩ (Nat.le_of_ble_eq_true rfl) dL_isPermit_153 ⟨by show _ ≤ 200; omega, by show _ ≤ 1200; omega⟩ (fun W hW => ?_)
    refine g_if_le (tgt := 163) E dL_isPermit_156 (by decide) (fun z => absurd hfp (Int32.not_lt.mpr z)) (fun c_156 => ?_)
    refine g_iconst (v := nI 1) E dL_isPermit_159 (by decide) ?_
    refine g_goto (tgt := 164) E dL_isPermit_160 (by decide) ?_
    refine g_iload E dL_isPermit_164 0 rfl ?_
    refine n_icmp_ne (tgt := 173) E (by omega) (by omega) dL_isPermit_166 (by decide) (fun z => absurd rfl z) (fun c_166 => ?_)
    refine g_iconst (v := nI 1) E dL_isPermit_169 (by decide) ?_
    refine g_goto (tgt := 174) E dL_isPermit_170 (by decide) ?_
    refine g_istore (L' := [(12, .int (nI 1)), (11, .int (nI 1)), (9, .long x), (8, .int (nI e)), (7, .int (nI f)), (6, .int (i 12 k)), (5, .int (nI 2)), (0, .ref a), (1, .ref (aa 4)), (2, .ref (aa 5)), (3, .int (nI k)), (4, .int (nI (c 2)))]) E dL_isPermit_174 (by decide) rfl ?_
    refine g_locals [(12, .int (nI 1)), (9, .long x), (8, .int (nI e)), (7, .int (nI f)), (0, .ref a), (1, .ref (aa 4)), (2, .ref (aa 5)), (3, .int (nI k)), (4, .int (nI (c 2)))] [0, 2, 3, 4, 7, 8, 9, 10, 11] rfl ?_
    exact start W hW .null .null .null
  · have hc1 : i 12 k = -1 := hca.1.mpr (by rw [es]; decide)
    have hfp := hK.feeP hk (by rw [es]; decide) (by rw [es]; decide)
    have hbit : bJ x k = true := by rw [hx]; exact hself.mpr ⟨by rw [es]; decide, by rw [es]; decide⟩
    refine g_iload E dL_isPermit_35 4 rfl ?_
    refine g_if_eq (tgt := 52) E dL_isPermit_37 (by decide) (fun z => absurd z (by decide)) (fun c_37 => ?_)
    refine g_iload E dL_isPermit_40 4 rfl ?_
    refine g_iconst (v := nI 2) E dL_isPermit_42 (by decide) ?_
    refine n_icmp_eq (tgt := 52) E (by omega) (by omega) dL_isPermit_43 (by decide) (fun z => absurd z (by decide)) (fun c_43 => ?_)
    refine g_iload E dL_isPermit_46 4 rfl ?_
    refine g_iconst (v := nI 3) E dL_isPermit_48 (by decide) ?_
    refine n_icmp_ne (tgt := 56) E (by omega) (by omega) dL_isPermit_49 (by decide) (fun z => absurd rfl z) (fun c_49 => ?_)
    refine g_iconst (v := nI 1) E dL_isPermit_52 (by decide) ?_
    refine g_goto (tgt := 57) E dL_isPermit_53 (by decide) ?_
    refine g_istore (L' := [(11, .int (nI 1)), (9, .long x), (8, .int (nI e)), (7, .int (nI f)), (6, .int (i 12 k)), (5, .int (nI 3)), (0, .ref a), (1, .ref (aa 4)), (2, .ref (aa 5)), (3, .int (nI k)), (4, .int (nI (c 2)))]) E dL_isPermit_57 (by decide) rfl ?_
    refine g_iload E dL_isPermit_59 5 rfl ?_
    refine g_if_lt (tgt := 173) E dL_isPermit_61 (by decide) (fun z => absurd z (by decide)) (fun c_61 => ?_)
    refine g_iload E dL_isPermit_64 5 rfl ?_
    refine g_iconst (v := nI 5) E dL_isPermit_66 (by decide) ?_
    refine n_icmp_ge (tgt := 173) E (by omega) (by omega) dL_isPermit_67 (by decide) (fun z => by omega) (fun c_67 => ?_)
    refine g_iload E dL_isPermit_70 4 rfl ?_
    refine g_iconst (v := (-1)) E dL_isPermit_72 (by decide) ?_
    refine g_icmp_ne (tgt := 80) E dL_isPermit_73 (by decide) (fun z => absurd hc1 z) (fun c_73 => ?_)
    refine g_iconst (v := nI 1) E dL_isPermit_76 (by decide) ?_
    refine g_goto (tgt := 81) E dL_isPermit_77 (by decide) ?_
    refine g_iload E dL_isPermit_81 5 rfl ?_
    refine g_iconst (v := nI 1) E dL_isPermit_83 (by decide) ?_
    refine n_icmp_eq (tgt := 91) E (by omega) (by omega) dL_isPermit_84 (by decide) (fun z => absurd z (by decide)) (fun c_84 => ?_)
    refine g_iconst (v := nI 1) E dL_isPermit_87 (by decide) ?_
    refine g_goto (tgt := 92) E dL_isPermit_88 (by decide) ?_
    refine n_icmp_ne (tgt := 173) E (by omega) (by omega) dL_isPermit_92 (by decide) (fun z => absurd rfl z) (fun c_92 => ?_)
    refine g_iload E dL_isPermit_95 4 rfl ?_
    refine g_iconst (v := nI 4) E dL_isPermit_97 (by decide) ?_
    refine g_icmp_ge (tgt := 173) E dL_isPermit_98 (by decide) (fun z => absurd hca.2 (Int32.not_lt.mpr z)) (fun c_98 => ?_)
    refine g_iload E dL_isPermit_101 2 rfl ?_
    refine g_iload E dL_isPermit_103 3 rfl ?_
    refine n_icmp_le (tgt := 173) E (by omega) (by omega) dL_isPermit_105 (by decide) (fun z => by omega) (fun c_105 => ?_)
    refine g_iload E dL_isPermit_108 2 rfl ?_
    refine g_iload E dL_isPermit_110 3 rfl ?_
    refine n_isub E (by omega) dL_isPermit_112 ?_
    refine g_bipush (v := nI 40) E dL_isPermit_113 (by decide) ?_
    refine n_icmp_gt (tgt := 173) E (by omega) (by omega) dL_isPermit_115 (by decide) (fun z => by omega) (fun c_115 => ?_)
    refine g_lload E dL_isPermit_118 1 rfl ?_
    refine g_iload_n E dL_isPermit_120 rfl 9 rfl ?_
    refine g_lshr E dL_isPermit_121 ?_
    refine g_lconst (v := 1) E dL_isPermit_122 (by decide) ?_
    refine g_land E dL_isPermit_123 ?_
    rw [shr1 (show k < 64 by omega), if_pos hbit]
    refine g_iload E dL_isPermit_124 0 rfl ?_
    refine g_if_eq (tgt := 133) E dL_isPermit_126 (by decide) (fun z => absurd z (by decide)) (fun c_126 => ?_)
    refine g_lconst (v := 1) E dL_isPermit_129 (by decide) ?_
    refine g_goto (tgt := 134) E dL_isPermit_130 (by decide) ?_
    refine g_lcmp E dL_isPermit_134 ?_
    refine g_if_ne (tgt := 173) E dL_isPermit_135 (by decide) (fun z => absurd ((lg_cmp_eq _ _).mpr rfl) z) (fun c_135 => ?_)
    refine g_iload E dL_isPermit_138 5 rfl ?_
    refine g_iconst (v := nI 1) E dL_isPermit_140 (by decide) ?_
    refine n_icmp_ne (tgt := 151) E (by omega) (by omega) dL_isPermit_141 (by decide) (fun c_141 => ?_) (fun z => absurd z (by decide))
    refine g_aload_n E dL_isPermit_151 rfl 6 rfl ?_
    refine g_iload_n E dL_isPermit_152 rfl 9 rfl ?_
    refine k_fee E hW hK (k := k) hk gL_isPermit_X5_fee ⟨Nat.le_of_ble_eq_true rfl, Nat.le_of_ble_eq_true rfl⟩ (Nat.le_of_ble_eq_true rfl) dL_isPermit_153 ⟨by show _ ≤ 200; omega, by show _ ≤ 1200; omega⟩ (fun W hW => ?_)
    refine g_if_le (tgt := 163) E dL_isPermit_156 (by decide) (fun z => absurd hfp (Int32.not_lt.mpr z)) (fun c_156 => ?_)
    refine g_iconst (v := nI 1) E dL_isPermit_159 (by decide) ?_
    refine g_goto (tgt := 164) E dL_isPermit_160 (by decide) ?_
    refine g_iload E dL_isPermit_164 0 rfl ?_
    refine n_icmp_ne (tgt := 173) E (by omega) (by omega) dL_isPermit_166 (by decide) (fun z => absurd rfl z) (fun c_166 => ?_)
    refine g_iconst (v := nI 1) E dL_isPermit_169 (by decide) ?_
    refine g_goto (tgt := 174) E dL_isPermit_170 (by decide) ?_
    refine g_istore (L' := [(12, .int (nI 1)), (11, .int (nI 1)), (9, .long x), (8, .int (nI e)), (7, .int (nI f)), (6, .int (i 12 k)), (5, .int (nI 3)), (0, .ref a), (1, .ref (aa 4)), (2, .ref (aa 5)), (3, .int (nI k)), (4, .int (nI (c 2)))]) E dL_isPermit_174 (by decide) rfl ?_
    refine g_locals [(12, .int (nI 1)), (9, .long x), (8, .int (nI e)), (7, .int (nI f)), (0, .ref a), (1, .ref (aa 4)), (2, .ref (aa 5)), (3, .int (nI k)), (4, .int (nI (c 2)))] [0, 2, 3, 4, 7, 8, 9, 10, 11] rfl ?_
    exact start W hW .null .null .null
  · have hc1 : i 12 k = -1 := hca.1.mpr (by rw [es]; decide)
    have hf0 := hK.fee0 hk (Or.inr es)
    have hbit : ¬ bJ x k = true := by rw [hx, hself]; rintro ⟨z1, z2⟩; exact z2 es
    refine g_iload E dL_isPermit_35 4 rfl ?_
    refine g_if_eq (tgt := 52) E dL_isPermit_37 (by decide) (fun z => absurd z (by decide)) (fun c_37 => ?_)
    refine g_iload E dL_isPermit_40 4 rfl ?_
    refine g_iconst (v := nI 2) E dL_isPermit_42 (by decide) ?_
    refine n_icmp_eq (tgt := 52) E (by omega) (by omega) dL_isPermit_43 (by decide) (fun z => absurd z (by decide)) (fun c_43 => ?_)
    refine g_iload E dL_isPermit_46 4 rfl ?_
    refine g_iconst (v := nI 3) E dL_isPermit_48 (by decide) ?_
    refine n_icmp_ne (tgt := 56) E (by omega) (by omega) dL_isPermit_49 (by decide) (fun c_49 => ?_) (fun z => absurd z (by decide))
    refine g_iconst (v := nI 0) E dL_isPermit_56 (by decide) ?_
    refine g_istore (L' := [(11, .int (nI 0)), (9, .long x), (8, .int (nI e)), (7, .int (nI f)), (6, .int (i 12 k)), (5, .int (nI 4)), (0, .ref a), (1, .ref (aa 4)), (2, .ref (aa 5)), (3, .int (nI k)), (4, .int (nI (c 2)))]) E dL_isPermit_57 (by decide) rfl ?_
    refine g_iload E dL_isPermit_59 5 rfl ?_
    refine g_if_lt (tgt := 173) E dL_isPermit_61 (by decide) (fun z => absurd z (by decide)) (fun c_61 => ?_)
    refine g_iload E dL_isPermit_64 5 rfl ?_
    refine g_iconst (v := nI 5) E dL_isPermit_66 (by decide) ?_
    refine n_icmp_ge (tgt := 173) E (by omega) (by omega) dL_isPermit_67 (by decide) (fun z => by omega) (fun c_67 => ?_)
    refine g_iload E dL_isPermit_70 4 rfl ?_
    refine g_iconst (v := (-1)) E dL_isPermit_72 (by decide) ?_
    refine g_icmp_ne (tgt := 80) E dL_isPermit_73 (by decide) (fun z => absurd hc1 z) (fun c_73 => ?_)
    refine g_iconst (v := nI 1) E dL_isPermit_76 (by decide) ?_
    refine g_goto (tgt := 81) E dL_isPermit_77 (by decide) ?_
    refine g_iload E dL_isPermit_81 5 rfl ?_
    refine g_iconst (v := nI 1) E dL_isPermit_83 (by decide) ?_
    refine n_icmp_eq (tgt := 91) E (by omega) (by omega) dL_isPermit_84 (by decide) (fun z => absurd z (by decide)) (fun c_84 => ?_)
    refine g_iconst (v := nI 1) E dL_isPermit_87 (by decide) ?_
    refine g_goto (tgt := 92) E dL_isPermit_88 (by decide) ?_
    refine n_icmp_ne (tgt := 173) E (by omega) (by omega) dL_isPermit_92 (by decide) (fun z => absurd rfl z) (fun c_92 => ?_)
    refine g_iload E dL_isPermit_95 4 rfl ?_
    refine g_iconst (v := nI 4) E dL_isPermit_97 (by decide) ?_
    refine g_icmp_ge (tgt := 173) E dL_isPermit_98 (by decide) (fun z => absurd hca.2 (Int32.not_lt.mpr z)) (fun c_98 => ?_)
    refine g_iload E dL_isPermit_101 2 rfl ?_
    refine g_iload E dL_isPermit_103 3 rfl ?_
    refine n_icmp_le (tgt := 173) E (by omega) (by omega) dL_isPermit_105 (by decide) (fun z => by omega) (fun c_105 => ?_)
    refine g_iload E dL_isPermit_108 2 rfl ?_
    refine g_iload E dL_isPermit_110 3 rfl ?_
    refine n_isub E (by omega) dL_isPermit_112 ?_
    refine g_bipush (v := nI 40) E dL_isPermit_113 (by decide) ?_
    refine n_icmp_gt (tgt := 173) E (by omega) (by omega) dL_isPermit_115 (by decide) (fun z => by omega) (fun c_115 => ?_)
    refine g_lload E dL_isPermit_118 1 rfl ?_
    refine g_iload_n E dL_isPermit_120 rfl 9 rfl ?_
    refine g_lshr E dL_isPermit_121 ?_
    refine g_lconst (v := 1) E dL_isPermit_122 (by decide) ?_
    refine g_land E dL_isPermit_123 ?_
    rw [shr1 (show k < 64 by omega), if_neg hbit]
    refine g_iload E dL_isPermit_124 0 rfl ?_
    refine g_if_eq (tgt := 133) E dL_isPermit_126 (by decide) (fun c_126 => ?_) (fun z => absurd rfl z)
    refine g_lconst (v := 0) E dL_isPermit_133 (by decide) ?_
    refine g_lcmp E dL_isPermit_134 ?_
    refine g_if_ne (tgt := 173) E dL_isPermit_135 (by decide) (fun z => absurd ((lg_cmp_eq _ _).mpr rfl) z) (fun c_135 => ?_)
    refine g_iload E dL_isPermit_138 5 rfl ?_
    refine g_iconst (v := nI 1) E dL_isPermit_140 (by decide) ?_
    refine n_icmp_ne (tgt := 151) E (by omega) (by omega) dL_isPermit_141 (by decide) (fun c_141 => ?_) (fun z => absurd z (by decide))
    refine g_aload_n E dL_isPermit_151 rfl 6 rfl ?_
    refine g_iload_n E dL_isPermit_152 rfl 9 rfl ?_
    refine k_fee E hW hK (k := k) hk gL_isPermit_X5_fee ⟨Nat.le_of_ble_eq_true rfl, Nat.le_of_ble_eq_true rfl⟩ (Nat.le_of_ble_eq_true rfl) dL_isPermit_153 ⟨by show _ ≤ 200; omega, by show _ ≤ 1200; omega⟩ (fun W hW => ?_)
    refine g_if_le (tgt := 163) E dL_isPermit_156 (by decide) (fun c_156 => ?_) (fun z => absurd (by rw [hf0]; decide) z)
    refine g_iconst (v := nI 0) E dL_isPermit_163 (by decide) ?_
    refine g_iload E dL_isPermit_164 0 rfl ?_
    refine n_icmp_ne (tgt := 173) E (by omega) (by omega) dL_isPermit_166 (by decide) (fun z => absurd rfl z) (fun c_166 => ?_)
    refine g_iconst (v := nI 1) E dL_isPermit_169 (by decide) ?_
    refine g_goto (tgt := 174) E dL_isPermit_170 (by decide) ?_
    refine g_istore (L' := [(12, .int (nI 1)), (11, .int (nI 0)), (9, .long x), (8, .int (nI e)), (7, .int (nI f)), (6, .int (i 12 k)), (5, .int (nI 4)), (0, .ref a), (1, .ref (aa 4)), (2, .ref (aa 5)), (3, .int (nI k)), (4, .int (nI (c 2)))]) E dL_isPermit_174 (by decide) rfl ?_
    refine g_locals [(12, .int (nI 1)), (9, .long x), (8, .int (nI e)), (7, .int (nI f)), (0, .ref a), (1, .ref (aa 4)), (2, .ref (aa 5)), (3, .int (nI k)), (4, .int (nI (c 2)))] [0, 2, 3, 4, 7, 8, 9, 10, 11] rfl ?_
    exact start W hW .null .null .null
