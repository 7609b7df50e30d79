/-! the law: lanes and lines -/
section LZ
variable {C : gT} {e0 a b : Nat} {aa : Nat → Nat} {av : Nat → Nat → Int32} {c : Nat → Nat} {i : Nat → Nat → Int32} {j : Nat → Nat → Int64} {p : Nat → Nat → Option Nat} {r : Nat → Nat → Int32} {W : va_W} {mc ms : Nat} {Ln : Nat} {xv : Nat → Int32}
/-- lanes and lines so far -/
def SU (l : Nat) (av : Nat → Nat → Int32) (c : Nat → Nat) (i : Nat → Nat → Int32) (r : Nat → Nat → Int32) : Prop :=
  c 2 = 0 ∧ c 0 = l - 10 ∧ (∀ e, e < l → av 0 e = r 0 e ∧ av 1 e = r 1 e ∧ av 2 e = r 2 e) ∧ (∀ x, x < c 0 → av 3 x = i 1 x) ∧ ∀ e, e < l → e < 7 → r 0 e = nI e ∧ r 1 e = nI (e + 1)
set_option maxHeartbeats 4000000 in
set_option maxRecDepth 100000 in
theorem y_line (E : gOk C cL_law 27 wsL_law RL e0 room_1) {l q Y X1 : Nat} (hW : LW (xy C) e0 a aa av c i j p r (l + 1) W) (hK : KN c i j p r (l + 1) 0) (hc2 : c 2 = 0) (hc0 : c 0 = l - 10) (hq : q = l - 10) (hl : l < 14) (hl9 : 9 < l) (hY : Y < 2 ^ 28) (hX1 : X1 < 8) (hrl : r 0 l = nI X1) (hA : ∀ e, e < l + 1 → av 0 e = r 0 e ∧ av 1 e = r 1 e ∧ av 2 e = r 2 e) (hA3 : ∀ x, x < c 0 → av 3 x = i 1 x) (hrow : ∀ e, e < l + 1 → e < 7 → r 0 e = nI e ∧ r 1 e = nI (e + 1)) {m0 s0 : Nat} (hm0 : m0 ≤ mc + 6) (hs0 : s0 ≤ ms + 36) (hmc : mc + 1000 ≤ 646545) (hms : ms + 8000 ≤ 7162134) (kk : ∀ (av : Nat → Nat → Int32) (c : Nat → Nat) (i : Nat → Nat → Int32) (j : Nat → Nat → Int64) (p : Nat → Nat → Option Nat) (r : Nat → Nat → Int32) (W : va_W) (q' : Nat), q' = l + 1 - 10 → LW (xy C) e0 a aa av c i j p r (l + 1) W → KN c i j p r (l + 1) 0 → SU (l + 1) av c i r → G C W (mc + 14) (ms + 1100) 89 [(13, .int (nI (l + 1))), (12, .int (nI 1)), (11, .int (nI 0)), (10, .int (nI (q'))), (0, .ref b), (1, .ref a), (2, .ref (aa 0)), (3, .ref (aa 1)), (4, .ref (aa 2)), (5, .ref (aa 3)), (6, .ref (aa 4)), (7, .ref (aa 5)), (8, .ref (aa 6)), (9, .ref (aa 7))] []) : G C W m0 s0 269 [(14, .int (nI Y)), (13, .int (nI l)), (12, .int (nI 1)), (11, .int (nI 0)), (10, .int (nI q)), (0, .ref b), (1, .ref a), (2, .ref (aa 0)), (3, .ref (aa 1)), (4, .ref (aa 2)), (5, .ref (aa 3)), (6, .ref (aa 4)), (7, .ref (aa 5)), (8, .ref (aa 6)), (9, .ref (aa 7))] [] := by
  have hb := hK.b
  refine g_aload E dL_law_269 10 rfl ?_
  refine g_iload E dL_law_271 4 rfl ?_
  refine g_iload E dL_law_273 0 rfl ?_
  refine g_iconst (v := nI 4) E dL_law_275 (by decide) ?_
  refine n_ishr E (by omega) (by decide) dL_law_276 ?_
  refine g_sipush (v := nI 501) E dL_law_277 (by decide) ?_
  refine n_irem E (by omega) (by omega) (by omega) dL_law_280 ?_
  obtain ⟨ps, hps⟩ : ∃ ps, ps = Y / 2 ^ 4 % 501 := ⟨_, rfl⟩
  have hps5 : ps ≤ 500 := by omega
  rw [← hps]
  refine l_ast E hW 3 q (by decide) (by show _ < 6; omega) dL_law_281 (fun W hW => ?_)
  refine g_iload E dL_law_282 0 rfl ?_
  refine g_bipush (v := nI 8) E dL_law_284 (by decide) ?_
  refine n_ishr E (by omega) (by decide) dL_law_286 ?_
  refine g_bipush (v := nI 8) E dL_law_287 (by decide) ?_
  refine n_irem E (by omega) (by omega) (by omega) dL_law_289 ?_
  obtain ⟨sj, hsj⟩ : ∃ sj, sj = Y / 2 ^ 8 % 8 := ⟨_, rfl⟩
  have hsj8 : sj < 8 := by omega
  rw [← hsj]
  obtain ⟨av1, hav1⟩ : ∃ av1, av1 = up2 av 3 q (nI ps) := ⟨_, rfl⟩
  rw [← hav1] at hW
  have hA1 : ∀ f, f ≠ 3 → av1 f = av f := fun f hf => by rw [hav1, up2_nf hf]
  have e3 : av1 3 q = nI ps := by rw [hav1, up2_self]
  have e0l : av1 0 l = nI X1 := by rw [hA1 0 (by decide), (hA l (by omega)).1, hrl]
  refine g_istore (L' := [(15, .int (nI sj)), (14, .int (nI Y)), (13, .int (nI l)), (12, .int (nI 1)), (11, .int (nI 0)), (10, .int (nI q)), (0, .ref b), (1, .ref a), (2, .ref (aa 0)), (3, .ref (aa 1)), (4, .ref (aa 2)), (5, .ref (aa 3)), (6, .ref (aa 4)), (7, .ref (aa 5)), (8, .ref (aa 6)), (9, .ref (aa 7))]) E dL_law_290 (by decide) rfl ?_
  refine g_aload_n E dL_law_292 rfl 7 rfl ?_
  refine g_aload_n E dL_law_293 rfl 8 rfl ?_
  refine g_iload E dL_law_294 2 rfl ?_
  refine l_ald E hW 0 l (by decide) (by show _ < 24; omega) dL_law_296 ?_
  rw [e0l]
  refine g_aload E dL_law_297 11 rfl ?_
  refine g_iload E dL_law_299 5 rfl ?_
  refine l_ald E hW 3 q (by decide) (by show _ < 6; omega) dL_law_301 ?_
  rw [e3]
  refine k_line E hW hK (x := X1) (y := ps) (by omega) hps5 (by omega) rfl gL_law_X5_line ⟨Nat.le_of_ble_eq_true rfl, Nat.le_of_ble_eq_true rfl⟩ (Nat.le_of_ble_eq_true rfl) dL_law_302 ⟨by show _ ≤ 646545; omega, by show _ ≤ 7162134; omega⟩ (fun c2 i2 j2 R W hK2 hcc hc0n hi2 hi1 hR0 hR hW => ?_)
  rw [hc0, ← hq]
  refine g_iload E dL_law_305 5 rfl ?_
  refine n_icmp_ne (tgt := 345) E (by omega) (by omega) dL_law_307 (by decide) (fun z => absurd rfl z) (fun c_307 => ?_)
  refine g_aload_n E dL_law_310 rfl 7 rfl ?_
  refine g_iconst (v := nI 3) E dL_law_311 (by decide) ?_
  refine g_iload E dL_law_312 5 rfl ?_
  refine g_iload E dL_law_314 0 rfl ?_
  have hr3 : ∀ x, x < 4 → R x = r x := fun x hx => hR x (by omega) (by omega)
  have hfar : dst (Ed (R 0) (R 1) (R 2) 0 (l + 1)) X1 sj < FAR := by
    refine row_far (m := 7) (fun e he => ?_) (by decide) (by omega) (by omega)
    obtain ⟨x, y, t, -, -, g3, -, -, -, -, g8⟩ := hK2.ln e (by omega)
    rw [hr3 0 (by decide), hr3 1 (by decide)]
    exact ⟨by omega, opn_0 e, (hrow e (by omega) he).1, (hrow e (by omega) he).2, t, g3, g8⟩
  have hi20 : i2 0 q = 1 := by rw [hq, ← hc0]; exact hR0.2
  have hRq : R (24 + q) 0 = nI X1 := by rw [hq, ← hc0]; exact hR0.1
  have fin : ∀ (i3 R3 : Nat → Nat → Int32) (W : va_W), KN c2 i3 j2 p R3 (l + 1) 0 → (∀ x, i3 1 x = i2 1 x) → (∀ x, x < 4 → R3 x = r x) → LW (xy C) e0 a aa av1 c2 i3 j2 p R3 (l + 1) W → ∀ m s, m ≤ mc + 14 → s ≤ ms + 1100 → G C W m s 341 [(15, .int (nI sj)), (14, .int (nI Y)), (13, .int (nI l)), (12, .int (nI 1)), (11, .int (nI 0)), (10, .int (nI q)), (0, .ref b), (1, .ref a), (2, .ref (aa 0)), (3, .ref (aa 1)), (4, .ref (aa 2)), (5, .ref (aa 3)), (6, .ref (aa 4)), (7, .ref (aa 5)), (8, .ref (aa 6)), (9, .ref (aa 7))] [] := by
    intro i3 R3 W hK3 hi3 hR3 hW m s hm hs
    refine g_iconst (v := nI 1) E dL_law_341 (by decide) ?_
    refine g_goto (tgt := 346) E dL_law_342 (by decide) ?_
    refine g_istore (L' := [(12, .int (nI 1)), (15, .int (nI sj)), (14, .int (nI Y)), (13, .int (nI l)), (11, .int (nI 0)), (10, .int (nI q)), (0, .ref b), (1, .ref a), (2, .ref (aa 0)), (3, .ref (aa 1)), (4, .ref (aa 2)), (5, .ref (aa 3)), (6, .ref (aa 4)), (7, .ref (aa 5)), (8, .ref (aa 6)), (9, .ref (aa 7))]) E dL_law_346 (by decide) rfl ?_
    refine g_iinc (v := nI (q + 1)) (L' := [(10, .int (nI (q + 1))), (12, .int (nI 1)), (15, .int (nI sj)), (14, .int (nI Y)), (13, .int (nI l)), (11, .int (nI 0)), (0, .ref b), (1, .ref a), (2, .ref (aa 0)), (3, .ref (aa 1)), (4, .ref (aa 2)), (5, .ref (aa 3)), (6, .ref (aa 4)), (7, .ref (aa 5)), (8, .ref (aa 6)), (9, .ref (aa 7))]) E dL_law_348 5 rfl (nI_1 q) (by decide) rfl ?_
    refine g_iinc (v := nI (l + 1)) (L' := [(13, .int (nI (l + 1))), (10, .int (nI (q + 1))), (12, .int (nI 1)), (15, .int (nI sj)), (14, .int (nI Y)), (11, .int (nI 0)), (0, .ref b), (1, .ref a), (2, .ref (aa 0)), (3, .ref (aa 1)), (4, .ref (aa 2)), (5, .ref (aa 3)), (6, .ref (aa 4)), (7, .ref (aa 5)), (8, .ref (aa 6)), (9, .ref (aa 7))]) E dL_law_351 4 rfl (nI_1 l) (by decide) rfl ?_
    refine g_goto (tgt := 89) E dL_law_354 (by decide) ?_
    refine g_locals [(13, .int (nI (l + 1))), (12, .int (nI 1)), (11, .int (nI 0)), (10, .int (nI (q + 1))), (0, .ref b), (1, .ref a), (2, .ref (aa 0)), (3, .ref (aa 1)), (4, .ref (aa 2)), (5, .ref (aa 3)), (6, .ref (aa 4)), (7, .ref (aa 5)), (8, .ref (aa 6)), (9, .ref (aa 7))] [0, 2, 5, 1, 6, 7, 8, 9, 10, 11, 12, 13, 14, 15] rfl ?_
    refine g_widen hm hs (kk av1 c2 i3 j2 p R3 W (q + 1) (by omega) hW hK3 ⟨hcc.trans hc2, by omega, fun e he => ?_, fun x hx => ?_, fun e he h7 => ?_⟩)
    · rw [hA1 0 (by decide), hA1 1 (by decide), hA1 2 (by decide), hR3 0 (by decide), hR3 1 (by decide), hR3 2 (by decide)]
      exact hA e he
    · rw [hi3]
      by_cases z : x = q
      · rw [z, e3]
        have := hi1
        rw [hc0, ← hq] at this
        exact this.symm
      · rw [hav1, up2_na z, hi2 1 x (by decide) (by decide) (by omega)]
        exact hA3 x (by omega)
    · rw [hR3 0 (by decide), hR3 1 (by decide)]
      exact hrow e he h7
  refine k_on_stop E hW hK2 (k := q) (b := sj) (q := X1) (by omega) (by omega) (by omega) hi20 hRq rfl hfar gL_law_L_on ⟨Nat.le_of_ble_eq_true rfl, Nat.le_of_ble_eq_true rfl⟩ (Nat.le_of_ble_eq_true rfl) dL_law_316 ⟨by show _ ≤ 646545; omega, by show _ ≤ 7162134; omega⟩ (fun hne i3 R3 W hK3 hi3 hR3 hW => ?_) (fun heq W hW => ?_)
  · refine g_iload E dL_law_319 0 rfl ?_
    refine g_aload_n E dL_law_321 rfl 8 rfl ?_
    refine g_iload E dL_law_322 2 rfl ?_
    refine l_ald E hW 0 l (by decide) (by show _ < 24; omega) dL_law_324 ?_
    rw [e0l]
    refine n_icmp_ne (tgt := 334) E (by omega) (by omega) dL_law_325 (by decide) (fun c_325 => ?_) (fun z => absurd z hne)
    refine g_ldc2 (v := (2)) E (by decide +kernel) dL_law_334 ?_
    refine g_lcmp E dL_law_337 ?_
    refine g_if_ne (tgt := 345) E dL_law_338 (by decide) (fun z => absurd ((lg_cmp_eq _ _).mpr rfl) z) (fun c_338 => ?_)
    exact fin i3 R3 W hK3 (fun x => by rw [hi3 1 (by decide) (by decide) (by decide)]) (fun x hx => (hR3 x hx).trans (hr3 x hx)) hW _ _ (by omega) (by omega)
  · refine g_iload E dL_law_319 0 rfl ?_
    refine g_aload_n E dL_law_321 rfl 8 rfl ?_
    refine g_iload E dL_law_322 2 rfl ?_
    refine l_ald E hW 0 l (by decide) (by show _ < 24; omega) dL_law_324 ?_
    rw [e0l]
    refine n_icmp_ne (tgt := 334) E (by omega) (by omega) dL_law_325 (by decide) (fun z => absurd heq z) (fun c_325 => ?_)
    refine g_ldc2 (v := (-900012)) E (by decide +kernel) dL_law_328 ?_
    refine g_goto (tgt := 337) E dL_law_331 (by decide) ?_
    refine g_lcmp E dL_law_337 ?_
    refine g_if_ne (tgt := 345) E dL_law_338 (by decide) (fun z => absurd ((lg_cmp_eq _ _).mpr rfl) z) (fun c_338 => ?_)
    exact fin i2 R W hK2 (fun _ => rfl) hr3 hW _ _ (by omega) (by omega)
set_option maxHeartbeats 4000000 in
set_option maxRecDepth 100000 in
theorem y_lane (E : gOk C cL_law 27 wsL_law RL e0 room_1) {l q Y X1 X2 : Nat} {av0 : Nat → Nat → Int32} (hav : av = up2 (up2 av0 0 l (nI X1)) 1 l (nI X2)) (hW : LW (xy C) e0 a aa av c i j p r l W) (hK : KN c i j p r l 0) (hS : SU l av0 c i r) (hq : q = l - 10) (hl : l < 14) (hY : Y < 2 ^ 28) (hX1 : X1 < 8) (hX2 : X2 < 8) (hne : X1 ≠ X2) (h7 : l < 7 → X1 = l ∧ X2 = l + 1) (hmc : mc + 1000 ≤ 646545) (hms : ms + 8000 ≤ 7162134) (kk : ∀ (av : Nat → Nat → Int32) (c : Nat → Nat) (i : Nat → Nat → Int32) (j : Nat → Nat → Int64) (p : Nat → Nat → Option Nat) (r : Nat → Nat → Int32) (W : va_W) (q' : Nat), q' = l + 1 - 10 → LW (xy C) e0 a aa av c i j p r (l + 1) W → KN c i j p r (l + 1) 0 → SU (l + 1) av c i r → G C W (mc + 14) (ms + 1100) 89 [(13, .int (nI (l + 1))), (12, .int (nI 1)), (11, .int (nI 0)), (10, .int (nI (q'))), (0, .ref b), (1, .ref a), (2, .ref (aa 0)), (3, .ref (aa 1)), (4, .ref (aa 2)), (5, .ref (aa 3)), (6, .ref (aa 4)), (7, .ref (aa 5)), (8, .ref (aa 6)), (9, .ref (aa 7))] []) : G C W mc ms 193 [(14, .int (nI Y)), (13, .int (nI l)), (12, .int (nI 1)), (11, .int (nI 0)), (10, .int (nI q)), (0, .ref b), (1, .ref a), (2, .ref (aa 0)), (3, .ref (aa 1)), (4, .ref (aa 2)), (5, .ref (aa 3)), (6, .ref (aa 4)), (7, .ref (aa 5)), (8, .ref (aa 6)), (9, .ref (aa 7))] [] := by
  have hb := hK.b
  obtain ⟨s1, s2, s3, s4, s5⟩ := hS
  refine g_aload E dL_law_193 9 rfl ?_
  refine g_iload E dL_law_195 1 rfl ?_
  refine g_iconst (v := nI 1) E dL_law_197 (by decide) ?_
  refine g_iload E dL_law_198 0 rfl ?_
  refine g_bipush (v := nI 6) E dL_law_200 (by decide) ?_
  refine n_ishr E (by omega) (by decide) dL_law_202 ?_
  refine g_bipush (v := nI 30) E dL_law_203 (by decide) ?_
  refine n_irem E (by omega) (by omega) (by omega) dL_law_205 ?_
  refine n_iadd E dL_law_206 ?_
  obtain ⟨t, ht⟩ : ∃ t, t = 1 + Y / 2 ^ 6 % 30 := ⟨_, rfl⟩
  have ht30 : t ≤ 30 := by omega
  rw [← ht]
  refine l_ast E hW 2 l (by decide) (by show _ < 24; omega) dL_law_207 (fun W hW => ?_)
  obtain ⟨av1, hav1⟩ : ∃ av1, av1 = up2 av 2 l (nI t) := ⟨_, rfl⟩
  rw [← hav1] at hW
  have f0 : av1 0 l = nI X1 := by rw [hav1, up2_nf (by decide), hav, up2_nf (by decide), up2_self]
  have f1 : av1 1 l = nI X2 := by rw [hav1, up2_nf (by decide), hav, up2_self]
  have f2 : av1 2 l = nI t := by rw [hav1, up2_self]
  have fo : ∀ f x, (2 < f ∨ x ≠ l) → av1 f x = av0 f x := by
    intro f x h
    rw [hav1, hav]
    unfold up2
    rw [if_neg (by omega), if_neg (by omega), if_neg (by omega)]
  refine g_aload_n E dL_law_208 rfl 6 rfl ?_
  refine g_aload_n E dL_law_209 rfl 7 rfl ?_
  refine g_iload E dL_law_210 1 rfl ?_
  refine l_ald E hW 0 l (by decide) (by show _ < 24; omega) dL_law_212 ?_
  rw [f0]
  refine g_aload_n E dL_law_213 rfl 8 rfl ?_
  refine g_iload E dL_law_214 1 rfl ?_
  refine l_ald E hW 1 l (by decide) (by show _ < 24; omega) dL_law_216 ?_
  rw [f1]
  refine g_aload E dL_law_217 9 rfl ?_
  refine g_iload E dL_law_219 1 rfl ?_
  refine l_ald E hW 2 l (by decide) (by show _ < 24; omega) dL_law_221 ?_
  rw [f2]
  refine k_lane E hW hK (x := X1) (y := X2) (t := t) (by omega) (by omega) hne (by omega) ht30 (by omega) rfl s1 gL_law_X5_lane ⟨Nat.le_of_ble_eq_true rfl, Nat.le_of_ble_eq_true rfl⟩ (Nat.le_of_ble_eq_true rfl) dL_law_222 ⟨by show _ ≤ 646545; omega, by show _ ≤ 7162134; omega⟩ (fun i2 R W hK2 hi2 hR hW => ?_)
  refine g_iload E dL_law_225 1 rfl ?_
  refine n_icmp_ne (tgt := 254) E (by omega) (by omega) dL_law_227 (by decide) (fun z => absurd rfl z) (fun c_227 => ?_)
  refine g_aload_n E dL_law_230 rfl 6 rfl ?_
  refine g_aload_n E dL_law_231 rfl 7 rfl ?_
  refine g_iload E dL_law_232 1 rfl ?_
  refine l_ald E hW 0 l (by decide) (by show _ < 24; omega) dL_law_234 ?_
  rw [f0]
  refine g_aload_n E dL_law_235 rfl 8 rfl ?_
  refine g_iload E dL_law_236 1 rfl ?_
  refine l_ald E hW 1 l (by decide) (by show _ < 24; omega) dL_law_238 ?_
  rw [f1]
  obtain ⟨d, d1, d2, d3⟩ := hK2.ln.lane (cl := clM (fun k => i2 11 k) (fun k => i2 7 k) none (c 2)) (show l < l + 1 by omega) (by rw [s1]; exact opn_0 l) hR.2.1 hR.2.2.1 hR.2.2.2.1 (by omega) (by omega) hne ht30
  refine k_way E hW hK2 (x := X1) (y := X2) (by omega) (by omega) gL_law_X5_way ⟨Nat.le_of_ble_eq_true rfl, Nat.le_of_ble_eq_true rfl⟩ (Nat.le_of_ble_eq_true rfl) dL_law_239 ⟨by show _ ≤ 646545; omega, by show _ ≤ 7162134; omega⟩ (fun W hW => ?_)
  rw [d3]
  refine g_aload E dL_law_242 9 rfl ?_
  refine g_iload E dL_law_244 1 rfl ?_
  refine l_ald E hW 2 l (by decide) (by show _ < 24; omega) dL_law_246 ?_
  rw [f2]
  refine n_icmp_gt (tgt := 254) E (by omega) (by omega) dL_law_247 (by decide) (fun z => by omega) (fun c_247 => ?_)
  refine g_iconst (v := nI 1) E dL_law_250 (by decide) ?_
  refine g_goto (tgt := 255) E dL_law_251 (by decide) ?_
  refine g_istore (L' := [(12, .int (nI 1)), (14, .int (nI Y)), (13, .int (nI l)), (11, .int (nI 0)), (10, .int (nI q)), (0, .ref b), (1, .ref a), (2, .ref (aa 0)), (3, .ref (aa 1)), (4, .ref (aa 2)), (5, .ref (aa 3)), (6, .ref (aa 4)), (7, .ref (aa 5)), (8, .ref (aa 6)), (9, .ref (aa 7))]) E dL_law_255 (by decide) rfl ?_
  have hA : ∀ e, e < l + 1 → av1 0 e = R 0 e ∧ av1 1 e = R 1 e ∧ av1 2 e = R 2 e := by
    intro e he
    by_cases z : e = l
    · rw [z, f0, f1, f2, hR.2.1, hR.2.2.1, hR.2.2.2.1]
      exact ⟨rfl, rfl, rfl⟩
    · rw [fo 0 e (Or.inr z), fo 1 e (Or.inr z), fo 2 e (Or.inr z), (hR.1 e z).1, (hR.1 e z).2.1, (hR.1 e z).2.2]
      exact s3 e (by omega)
  have hA3 : ∀ x, x < c 0 → av1 3 x = i2 1 x := by
    intro x hx
    rw [fo 3 x (Or.inl (by decide)), hi2 1 (by decide)]
    exact s4 x hx
  have hrow : ∀ e, e < l + 1 → e < 7 → R 0 e = nI e ∧ R 1 e = nI (e + 1) := by
    intro e he h9
    by_cases z : e = l
    · rw [z, hR.2.1, hR.2.2.1, (h7 (by omega)).1, (h7 (by omega)).2]
      exact ⟨rfl, rfl⟩
    · rw [(hR.1 e z).1, (hR.1 e z).2.1]
      exact s5 e (by omega) h9
  refine g_iload E dL_law_257 0 rfl ?_
  refine g_if_eq (tgt := 351) E dL_law_259 (by decide) (fun z => absurd z (by decide)) (fun c_259 => ?_)
  refine g_iload E dL_law_262 2 rfl ?_
  refine g_bipush (v := nI 9) E dL_law_264 (by decide) ?_
  by_cases h9 : 9 < l
  · refine n_icmp_le (tgt := 351) E (by omega) (by omega) dL_law_266 (by decide) (fun z => by omega) (fun c_266 => ?_)
    refine g_locals [(14, .int (nI Y)), (13, .int (nI l)), (12, .int (nI 1)), (11, .int (nI 0)), (10, .int (nI q)), (0, .ref b), (1, .ref a), (2, .ref (aa 0)), (3, .ref (aa 1)), (4, .ref (aa 2)), (5, .ref (aa 3)), (6, .ref (aa 4)), (7, .ref (aa 5)), (8, .ref (aa 6)), (9, .ref (aa 7))] [1, 2, 0, 3, 4, 5, 6, 7, 8, 9, 10, 11, 12, 13, 14] rfl ?_
    exact y_line (mc := mc) (ms := ms) E hW hK2 s1 s2 hq hl h9 hY hX1 hR.2.1 hA hA3 hrow (by omega) (by omega) hmc hms kk
  · refine n_icmp_le (tgt := 351) E (by omega) (by omega) dL_law_266 (by decide) (fun c_266 => ?_) (fun z => by omega)
    refine g_iinc (v := nI (l + 1)) (L' := [(13, .int (nI (l + 1))), (12, .int (nI 1)), (14, .int (nI Y)), (11, .int (nI 0)), (10, .int (nI q)), (0, .ref b), (1, .ref a), (2, .ref (aa 0)), (3, .ref (aa 1)), (4, .ref (aa 2)), (5, .ref (aa 3)), (6, .ref (aa 4)), (7, .ref (aa 5)), (8, .ref (aa 6)), (9, .ref (aa 7))]) E dL_law_351 2 rfl (nI_1 l) (by decide) rfl ?_
    refine g_goto (tgt := 89) E dL_law_354 (by decide) ?_
    refine g_locals [(13, .int (nI (l + 1))), (12, .int (nI 1)), (11, .int (nI 0)), (10, .int (nI q)), (0, .ref b), (1, .ref a), (2, .ref (aa 0)), (3, .ref (aa 1)), (4, .ref (aa 2)), (5, .ref (aa 3)), (6, .ref (aa 4)), (7, .ref (aa 5)), (8, .ref (aa 6)), (9, .ref (aa 7))] [0, 1, 3, 4, 5, 6, 7, 8, 9, 10, 11, 12, 13, 14] rfl ?_
    exact g_widen (by omega) (by omega) (kk av1 c i2 j p R W q (by omega) hW hK2 ⟨s1, by omega, hA, hA3, hrow⟩)
set_option maxHeartbeats 4000000 in
set_option maxRecDepth 100000 in
theorem y_step (E : gOk C cL_law 27 wsL_law RL e0 room_1) (hX : va_X b Ln xv (xs C) (xs C).heap) (hbl : b < (xs C).heap.size) (hbA : ¬ xA C b) (hL : Ln ≤ 260) {l q : Nat} (hW : LW (xy C) e0 a aa av c i j p r l W) (hK : KN c i j p r l 0) (hS : SU l av c i r) (hq : q = l - 10) (hl : l < 14) (hmc : mc + 1000 ≤ 646545) (hms : ms + 8000 ≤ 7162134) (kk : ∀ (av : Nat → Nat → Int32) (c : Nat → Nat) (i : Nat → Nat → Int32) (j : Nat → Nat → Int64) (p : Nat → Nat → Option Nat) (r : Nat → Nat → Int32) (W : va_W) (q' : Nat), q' = l + 1 - 10 → LW (xy C) e0 a aa av c i j p r (l + 1) W → KN c i j p r (l + 1) 0 → SU (l + 1) av c i r → G C W (mc + 14) (ms + 1100) 89 [(13, .int (nI (l + 1))), (12, .int (nI 1)), (11, .int (nI 0)), (10, .int (nI (q'))), (0, .ref b), (1, .ref a), (2, .ref (aa 0)), (3, .ref (aa 1)), (4, .ref (aa 2)), (5, .ref (aa 3)), (6, .ref (aa 4)), (7, .ref (aa 5)), (8, .ref (aa 6)), (9, .ref (aa 7))] []) : G C W mc ms 96 [(13, .int (nI l)), (12, .int (nI 1)), (11, .int (nI 0)), (10, .int (nI q)), (0, .ref b), (1, .ref a), (2, .ref (aa 0)), (3, .ref (aa 1)), (4, .ref (aa 2)), (5, .ref (aa 3)), (6, .ref (aa 4)), (7, .ref (aa 5)), (8, .ref (aa 6)), (9, .ref (aa 7))] [] := by
  have k192 : ∀ (W : va_W) (Y X1 X2 : Nat), LW (xy C) e0 a aa (up2 av 0 l (nI X1)) c i j p r l W → Y < 2 ^ 28 → X1 < 8 → X2 < 8 → X1 ≠ X2 → (l < 7 → X1 = l ∧ X2 = l + 1) → G C W mc ms 192 [(14, .int (nI Y)), (13, .int (nI l)), (12, .int (nI 1)), (11, .int (nI 0)), (10, .int (nI q)), (0, .ref b), (1, .ref a), (2, .ref (aa 0)), (3, .ref (aa 1)), (4, .ref (aa 2)), (5, .ref (aa 3)), (6, .ref (aa 4)), (7, .ref (aa 5)), (8, .ref (aa 6)), (9, .ref (aa 7))] [.int (nI X2), .int (nI l), .ref (aa 1)] := by
    intro W Y X1 X2 hW hY hX1 hX2 hne h7
    refine l_ast E hW 1 l (by decide) (by show _ < 24; omega) dL_law_192 (fun W hW => ?_)
    exact y_lane E rfl hW hK hS hq hl hY hX1 hX2 hne h7 hmc hms kk
  have k157 : ∀ (Y X1 : Nat), Y < 2 ^ 28 → X1 < 8 → (l < 7 → X1 = l) → G C W mc ms 157 [(14, .int (nI Y)), (13, .int (nI l)), (12, .int (nI 1)), (11, .int (nI 0)), (10, .int (nI q)), (0, .ref b), (1, .ref a), (2, .ref (aa 0)), (3, .ref (aa 1)), (4, .ref (aa 2)), (5, .ref (aa 3)), (6, .ref (aa 4)), (7, .ref (aa 5)), (8, .ref (aa 6)), (9, .ref (aa 7))] [.int (nI X1), .int (nI l), .ref (aa 0)] := by
    intro Y X1 hY hX1 h7
    refine l_ast E hW 0 l (by decide) (by show _ < 24; omega) dL_law_157 (fun W hW => ?_)
    refine g_aload_n E dL_law_158 rfl 8 rfl ?_
    refine g_iload E dL_law_159 1 rfl ?_
    refine g_iload E dL_law_161 1 rfl ?_
    refine g_bipush (v := nI 7) E dL_law_163 (by decide) ?_
    by_cases hl7 : l < 7
    · refine n_icmp_ge (tgt := 175) E (by omega) (by omega) dL_law_165 (by decide) (fun z => by omega) (fun c_165 => ?_)
      refine g_iload E dL_law_168 1 rfl ?_
      refine g_iconst (v := nI 1) E dL_law_170 (by decide) ?_
      refine n_iadd E dL_law_171 ?_
      refine g_goto (tgt := 192) E dL_law_172 (by decide) ?_
      exact k192 W Y X1 (l + 1) hW hY hX1 (by omega) (by have := h7 hl7; omega) (fun z => ⟨h7 z, rfl⟩)
    · refine n_icmp_ge (tgt := 175) E (by omega) (by omega) dL_law_165 (by decide) (fun c_165 => ?_) (fun z => by omega)
      refine g_aload_n E dL_law_175 rfl 7 rfl ?_
      refine g_iload E dL_law_176 1 rfl ?_
      refine l_ald E hW 0 l (by decide) (by show _ < 24; omega) dL_law_178 ?_
      rw [up2_self]
      refine g_iconst (v := nI 1) E dL_law_179 (by decide) ?_
      refine n_iadd E dL_law_180 ?_
      refine g_iload E dL_law_181 0 rfl ?_
      refine g_iconst (v := nI 3) E dL_law_183 (by decide) ?_
      refine n_ishr E (by omega) (by decide) dL_law_184 ?_
      refine g_bipush (v := nI 7) E dL_law_185 (by decide) ?_
      refine n_irem E (by omega) (by omega) (by omega) dL_law_187 ?_
      refine n_iadd E dL_law_188 ?_
      refine g_bipush (v := nI 8) E dL_law_189 (by decide) ?_
      refine n_irem E (by omega) (by omega) (by omega) dL_law_191 ?_
      exact k192 W Y X1 _ hW hY hX1 (Nat.mod_lt _ (by decide)) (by omega) (fun z => absurd z hl7)
  have k132 : ∀ x : Int32, G C W mc ms 132 [(13, .int (nI l)), (12, .int (nI 1)), (11, .int (nI 0)), (10, .int (nI q)), (0, .ref b), (1, .ref a), (2, .ref (aa 0)), (3, .ref (aa 1)), (4, .ref (aa 2)), (5, .ref (aa 3)), (6, .ref (aa 4)), (7, .ref (aa 5)), (8, .ref (aa 6)), (9, .ref (aa 7))] [.int x] := by
    intro x
    refine g_ldc (v := (268435455)) E (by decide +kernel) dL_law_132 ?_
    refine g_iand E dL_law_134 ?_
    obtain ⟨Y, hY, eY⟩ := pk_andE x (m := 268435455) 28 rfl
    rw [eY]
    refine g_istore (L' := [(14, .int (nI Y)), (13, .int (nI l)), (12, .int (nI 1)), (11, .int (nI 0)), (10, .int (nI q)), (0, .ref b), (1, .ref a), (2, .ref (aa 0)), (3, .ref (aa 1)), (4, .ref (aa 2)), (5, .ref (aa 3)), (6, .ref (aa 4)), (7, .ref (aa 5)), (8, .ref (aa 6)), (9, .ref (aa 7))]) E dL_law_135 (by decide) rfl ?_
    refine g_aload_n E dL_law_137 rfl 7 rfl ?_
    refine g_iload E dL_law_138 1 rfl ?_
    refine g_iload E dL_law_140 1 rfl ?_
    refine g_bipush (v := nI 7) E dL_law_142 (by decide) ?_
    by_cases hl7 : l < 7
    · refine n_icmp_ge (tgt := 152) E (by omega) (by omega) dL_law_144 (by decide) (fun z => by omega) (fun c_144 => ?_)
      refine g_iload E dL_law_147 1 rfl ?_
      refine g_goto (tgt := 157) E dL_law_149 (by decide) ?_
      exact k157 Y l hY (by omega) (fun _ => rfl)
    · refine n_icmp_ge (tgt := 152) E (by omega) (by omega) dL_law_144 (by decide) (fun c_144 => ?_) (fun z => by omega)
      refine g_iload E dL_law_152 0 rfl ?_
      refine g_bipush (v := nI 8) E dL_law_154 (by decide) ?_
      refine n_irem E (by omega) (by omega) (by omega) dL_law_156 ?_
      exact k157 Y _ hY (Nat.mod_lt _ (by decide)) (fun z => absurd z hl7)
  refine g_iload E dL_law_96 1 rfl ?_
  refine g_if_eq (tgt := 357) E dL_law_98 (by decide) (fun z => absurd z (by decide)) (fun c_98 => ?_)
  refine g_iload E dL_law_101 0 rfl ?_
  refine g_aload_n E dL_law_103 rfl 4 rfl ?_
  refine g_slen E hX hbl hbA dL_law_104 ?_
  by_cases hl9 : l < Ln
  · refine n_icmp_ge (tgt := 115) E (by omega) (by omega) dL_law_105 (by decide) (fun z => by omega) (fun c_105 => ?_)
    refine g_aload_n E dL_law_108 rfl 4 rfl ?_
    refine g_iload E dL_law_109 0 rfl ?_
    refine g_sld E hX hbl hbA (by omega) l rfl (by omega) dL_law_111 ?_
    refine g_goto (tgt := 132) E dL_law_112 (by decide) ?_
    exact k132 _
  · refine n_icmp_ge (tgt := 115) E (by omega) (by omega) dL_law_105 (by decide) (fun c_105 => ?_) (fun z => by omega)
    refine g_ldc (v := (3110009)) E (by decide +kernel) dL_law_115 ?_
    refine g_iload E dL_law_117 0 rfl ?_
    refine g_imul E dL_law_119 ?_
    refine g_iload E dL_law_120 0 rfl ?_
    refine g_imul E dL_law_122 ?_
    refine g_ldc (v := (52027)) E (by decide +kernel) dL_law_123 ?_
    refine g_iload E dL_law_125 0 rfl ?_
    refine g_imul E dL_law_127 ?_
    refine g_iadd E dL_law_128 ?_
    refine g_bipush (v := nI 13) E dL_law_129 (by decide) ?_
    refine g_iadd E dL_law_131 ?_
    exact k132 _
set_option maxHeartbeats 4000000 in
set_option maxRecDepth 100000 in
theorem y_turns (E : gOk C cL_law 27 wsL_law RL e0 room_1) (hX : va_X b Ln xv (xs C) (xs C).heap) (hbl : b < (xs C).heap.size) (hbA : ¬ xA C b) (hL : Ln ≤ 260) (kk : ∀ T : Nat, T ≤ 200 → G C W mc ms 392 [(14, .int (nI 0)), (13, .int (nI T)), (12, .int (nI 1)), (11, .int (nI 0)), (10, .int (nI 4)), (0, .ref b), (1, .ref a), (2, .ref (aa 0)), (3, .ref (aa 1)), (4, .ref (aa 2)), (5, .ref (aa 3)), (6, .ref (aa 4)), (7, .ref (aa 5)), (8, .ref (aa 6)), (9, .ref (aa 7))] []) : G C W mc ms 357 [(13, .int (nI 14)), (12, .int (nI 1)), (11, .int (nI 0)), (10, .int (nI 4)), (0, .ref b), (1, .ref a), (2, .ref (aa 0)), (3, .ref (aa 1)), (4, .ref (aa 2)), (5, .ref (aa 3)), (6, .ref (aa 4)), (7, .ref (aa 5)), (8, .ref (aa 6)), (9, .ref (aa 7))] [] := by
  have k387 : ∀ T : Nat, T ≤ 200 → G C W mc ms 387 [(13, .int (nI 14)), (12, .int (nI 1)), (11, .int (nI 0)), (10, .int (nI 4)), (0, .ref b), (1, .ref a), (2, .ref (aa 0)), (3, .ref (aa 1)), (4, .ref (aa 2)), (5, .ref (aa 3)), (6, .ref (aa 4)), (7, .ref (aa 5)), (8, .ref (aa 6)), (9, .ref (aa 7))] [.int (nI T)] := by
    intro T hT
    refine g_istore (L' := [(13, .int (nI T)), (12, .int (nI 1)), (11, .int (nI 0)), (10, .int (nI 4)), (0, .ref b), (1, .ref a), (2, .ref (aa 0)), (3, .ref (aa 1)), (4, .ref (aa 2)), (5, .ref (aa 3)), (6, .ref (aa 4)), (7, .ref (aa 5)), (8, .ref (aa 6)), (9, .ref (aa 7))]) E dL_law_387 (by decide) rfl ?_
    refine g_iconst (v := nI 0) E dL_law_389 (by decide) ?_
    refine g_istore (L' := [(14, .int (nI 0)), (13, .int (nI T)), (12, .int (nI 1)), (11, .int (nI 0)), (10, .int (nI 4)), (0, .ref b), (1, .ref a), (2, .ref (aa 0)), (3, .ref (aa 1)), (4, .ref (aa 2)), (5, .ref (aa 3)), (6, .ref (aa 4)), (7, .ref (aa 5)), (8, .ref (aa 6)), (9, .ref (aa 7))]) E dL_law_390 (by decide) rfl ?_
    refine g_locals [(14, .int (nI 0)), (13, .int (nI T)), (12, .int (nI 1)), (11, .int (nI 0)), (10, .int (nI 4)), (0, .ref b), (1, .ref a), (2, .ref (aa 0)), (3, .ref (aa 1)), (4, .ref (aa 2)), (5, .ref (aa 3)), (6, .ref (aa 4)), (7, .ref (aa 5)), (8, .ref (aa 6)), (9, .ref (aa 7))] [0, 1, 2, 3, 4, 5, 6, 7, 8, 9, 10, 11, 12, 13, 14] rfl ?_
    exact kk T hT
  refine g_aload_n E dL_law_357 rfl 4 rfl ?_
  refine g_slen E hX hbl hbA dL_law_358 ?_
  refine g_bipush (v := nI 40) E dL_law_359 (by decide) ?_
  by_cases h40 : Ln < 40
  · refine n_icmp_ge (tgt := 370) E (by omega) (by omega) dL_law_361 (by decide) (fun z => by omega) (fun c_361 => ?_)
    refine g_sipush (v := nI 140) E dL_law_364 (by decide) ?_
    refine g_goto (tgt := 387) E dL_law_367 (by decide) ?_
    exact k387 140 (by decide)
  · refine n_icmp_ge (tgt := 370) E (by omega) (by omega) dL_law_361 (by decide) (fun c_361 => ?_) (fun z => by omega)
    refine g_aload_n E dL_law_370 rfl 4 rfl ?_
    refine g_slen E hX hbl hbA dL_law_371 ?_
    refine g_bipush (v := nI 80) E dL_law_372 (by decide) ?_
    by_cases h80 : Ln < 80
    · refine n_icmp_ge (tgt := 384) E (by omega) (by omega) dL_law_374 (by decide) (fun z => by omega) (fun c_374 => ?_)
      refine g_iconst (v := nI 2) E dL_law_377 (by decide) ?_
      refine g_aload_n E dL_law_378 rfl 4 rfl ?_
      refine g_slen E hX hbl hbA dL_law_379 ?_
      refine n_imul E dL_law_380 ?_
      refine g_goto (tgt := 387) E dL_law_381 (by decide) ?_
      exact k387 _ (by omega)
    · refine n_icmp_ge (tgt := 384) E (by omega) (by omega) dL_law_374 (by decide) (fun c_374 => ?_) (fun z => by omega)
      refine g_sipush (v := nI 200) E dL_law_384 (by decide) ?_
      exact k387 200 (by decide)
set_option maxHeartbeats 4000000 in
set_option maxRecDepth 100000 in
theorem y_loop (E : gOk C cL_law 27 wsL_law RL e0 room_1) (hX : va_X b Ln xv (xs C) (xs C).heap) (hbl : b < (xs C).heap.size) (hbA : ¬ xA C b) (hL : Ln ≤ 260) (fin : ∀ (W : va_W) (L : List (Nat × Value)) (mc ms : Nat), mc ≤ 646545 → ms ≤ 7162134 → G C W mc ms 1625 L [.int (nI 1)]) : ∀ (n l q : Nat), l + n = 14 → q = l - 10 → ∀ (av : Nat → Nat → Int32) (c : Nat → Nat) (i : Nat → Nat → Int32) (j : Nat → Nat → Int64) (p : Nat → Nat → Option Nat) (r : Nat → Nat → Int32) (W : va_W), LW (xy C) e0 a aa av c i j p r l W → KN c i j p r l 0 → SU l av c i r → G C W (100 + 14 * l) (2000 + 1100 * l) 89 [(13, .int (nI l)), (12, .int (nI 1)), (11, .int (nI 0)), (10, .int (nI q)), (0, .ref b), (1, .ref a), (2, .ref (aa 0)), (3, .ref (aa 1)), (4, .ref (aa 2)), (5, .ref (aa 3)), (6, .ref (aa 4)), (7, .ref (aa 5)), (8, .ref (aa 6)), (9, .ref (aa 7))] [] := by
  intro n
  induction n with
  | zero =>
    intro l q hl hq av c i j p r W hW hK hS
    obtain rfl : l = 14 := by omega
    obtain rfl : q = 4 := by omega
    refine g_iload E dL_law_89 0 rfl ?_
    refine g_bipush (v := nI 14) E dL_law_91 (by decide) ?_
    refine n_icmp_ge (tgt := 357) E (by omega) (by omega) dL_law_93 (by decide) (fun c_93 => ?_) (fun z => by omega)
    obtain ⟨s1, s2, s3, s4, -⟩ := hS
    refine y_turns E hX hbl hbA hL (fun T hT => ?_)
    have h9 := z_loop E hX hbl hbA hL hT fin T 0 (Nat.zero_add _) av c i j p r 0 W hW hK ⟨s3, s4, fun k hk => by omega⟩ s2 (by omega)
    rw [s1] at h9
    exact g_widen (by omega) (by omega) h9
  | succ n ih =>
    intro l q hl hq av c i j p r W hW hK hS
    refine g_iload E dL_law_89 0 rfl ?_
    refine g_bipush (v := nI 14) E dL_law_91 (by decide) ?_
    refine n_icmp_ge (tgt := 357) E (by omega) (by omega) dL_law_93 (by decide) (fun z => by omega) (fun c_93 => ?_)
    refine y_step E hX hbl hbA hL hW hK hS hq (by omega) (by omega) (by omega) (fun av c i j p r W q' hq' hW hK hS => ?_)
    exact g_widen (by omega) (by omega) (ih (l + 1) q' (by omega) hq' av c i j p r W hW hK hS)
end LZ
