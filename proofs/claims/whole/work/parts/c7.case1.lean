section CS
variable {C : gT} {e0 a ob b Ln q mc ms : Nat} {ma : Nat → Nat} {xv : Nat → Int32} {W : va_W}
set_option maxHeartbeats 4000000 in
set_option maxRecDepth 100000 in
theorem cs_lane (E : gOk C cL_law 8 wsL_law RL e0 room_1) (hX : va_X b Ln xv (xs C) (xs C).heap) (hbl : b < (xs C).heap.size) (hbA : ¬ xA C b) (hL : Ln ≤ 3584) (hq : q + 7 ≤ Ln) (hW : LV C e0 a ob ma W) (hmc : mc + 10 ≤ 601024) (hms : ms + 4000 ≤ 7293034) (kk : ∀ W', LV C e0 a ob ma W' → G C W' (mc + 10) (ms + 4000) 1647 [(4, .int (nI q)), (3, .ref ob), (2, .ref (ma 0)), (1, .ref a), (0, .ref b)] []) : G C W mc ms 152 [(4, .int (nI q)), (3, .ref ob), (2, .ref (ma 0)), (1, .ref a), (0, .ref b)] [] := by
  obtain ⟨S, o, s, c, ad, i, j, p, r, rfl, hI, hA, M, N, h⟩ := hW
  subst hA
  refine g_aload_n E dL_law_152 rfl 3 rfl ?_
  refine g_aload_n E dL_law_153 rfl 4 rfl ?_
  refine g_iload E dL_law_154 0 rfl ?_
  refine g_iconst (v := nI 1) E dL_law_156 (by decide) ?_
  refine g_iadd E dL_law_157 ?_
  refine g_sld E hX hbl hbA hL (q + 1) (nI_add q 1) (by omega) dL_law_158 ?_
  refine g_aload_n E dL_law_159 rfl 4 rfl ?_
  refine g_iload E dL_law_160 0 rfl ?_
  refine g_iconst (v := nI 2) E dL_law_162 (by decide) ?_
  refine g_iadd E dL_law_163 ?_
  refine g_sld E hX hbl hbA hL (q + 2) (nI_add q 2) (by omega) dL_law_164 ?_
  refine g_aload_n E dL_law_165 rfl 4 rfl ?_
  refine g_iload E dL_law_166 0 rfl ?_
  refine g_iconst (v := nI 3) E dL_law_168 (by decide) ?_
  refine g_iadd E dL_law_169 ?_
  refine g_sld E hX hbl hbA hL (q + 3) (nI_add q 3) (by omega) dL_law_170 ?_
  refine g_aload_n E dL_law_171 rfl 1 rfl ?_
  refine g_invSW (rm' := rm_L_lane) (mc' := 4) (ms' := 24) (As := [.ref (ad 5 0), .int (xv (q + 1)), .int (xv (q + 2)), .int (xv (q + 3)), .ref ob]) (rest := []) (n := 5) E ((w_lane (xl C) E.tr (xD C) (xy C) e0 (hI.obj (kd := 5) (by decide) hI.c5).1 (hI.obj (kd := 5) (by decide) hI.c5).2 (m_X5_lane (xl C) E.tr (xD C) (xy C) e0 hI h.1.1 h.b.2.2.2.1) (fun v S' hP => by rcases hP with ⟨_, _, _, _, _, _, _, _, hv, _⟩ <;> exact ⟨_, hv⟩) (fun _ _ h => h.elim (fun h => Or.inl h.1) (fun h => h.elim (fun h => Or.inr (Or.inl h.1)) (fun h => Or.inr (Or.inr h.1))))).frameRN (mW (xy C) ma s)) gL_law_L_lane rfl rfl rfl (by decide +kernel) ⟨Nat.le_of_ble_eq_true rfl, Nat.le_of_ble_eq_true rfl⟩ rfl rfl (Nat.le_of_ble_eq_true rfl) dL_law_172 ⟨by exact Nat.le_trans (Nat.add_le_add_left (Nat.le_of_ble_eq_true rfl) _) hmc, by exact Nat.le_trans (Nat.add_le_add_left (Nat.le_of_ble_eq_true rfl) _) hms⟩ (fun v w h9 => ?_)
  obtain ⟨w1, rfl, h9⟩ := h9
  rcases h9 with ⟨S', vv, x, rfl, rfl, hP, hcv⟩ | ⟨S', X, k, rfl, rfl, hXP, hec⟩
  · obtain ⟨c', ad', i', j', p', r', hI', hA', hn⟩ := nx_lane hI h hP
    show G C ((cW (xy C) S' ++ [oE (xy C) ob (vp_updL o 0 x)]) ++ mW (xy C) ma s) (mc + 4) (ms + 24) 175 [(4, .int (nI q)), (3, .ref ob), (2, .ref (ma 0)), (1, .ref (ad 5 0)), (0, .ref b)] [.int 0]
    refine g_istore (L' := [(5, .int 0), (4, .int (nI q)), (3, .ref ob), (2, .ref (ma 0)), (1, .ref (ad 5 0)), (0, .ref b)]) E dL_law_175 (by decide) rfl ?_
    refine g_aload_n E dL_law_177 rfl 3 rfl ?_
    refine g_aload_n E dL_law_178 rfl 5 rfl ?_
    refine g_iload E dL_law_179 1 rfl ?_
    refine g_iconst (v := nI 1) E dL_law_181 (by decide) ?_
    refine g_iadd E dL_law_182 ?_
    refine g_sld E hX hbl hbA hL (q + 1) (nI_add q 1) (by omega) dL_law_183 ?_
    refine g_aload_n E dL_law_184 rfl 5 rfl ?_
    refine g_iload E dL_law_185 1 rfl ?_
    refine g_iconst (v := nI 2) E dL_law_187 (by decide) ?_
    refine g_iadd E dL_law_188 ?_
    refine g_sld E hX hbl hbA hL (q + 2) (nI_add q 2) (by omega) dL_law_189 ?_
    refine g_aload_n E dL_law_190 rfl 5 rfl ?_
    refine g_iload E dL_law_191 1 rfl ?_
    refine g_iconst (v := nI 3) E dL_law_193 (by decide) ?_
    refine g_iadd E dL_law_194 ?_
    refine g_sld E hX hbl hbA hL (q + 3) (nI_add q 3) (by omega) dL_law_195 ?_
    refine g_invV (rm' := rm_X6_lane) (mc' := 0) (ms' := 0) (As := [.int (xv (q + 1)), .int (xv (q + 2)), .int (xv (q + 3))]) (rest := []) (n := 3) E (gMet.frameL (m_X6_lane (xl C) E.tr (xD C) (xy C) e0 h.1.2.1 h.b.2.2.2.1) (cW (xy C) S' ++ [oE (xy C) ob (vp_updL o 0 x)])) gL_law_X6_lane rfl rfl rfl (by decide +kernel) ⟨Nat.le_of_ble_eq_true rfl, Nat.le_of_ble_eq_true rfl⟩ _ 7 rfl rfl (app_r (k := 0) rfl) rfl rfl (Nat.le_of_ble_eq_true rfl) dL_law_196 ⟨Nat.le_trans (show mc + 4 + 0 ≤ mc + 10 from Nat.add_le_add_left (Nat.le_of_ble_eq_true rfl) mc) hmc, Nat.le_trans (show ms + 24 + 0 ≤ ms + 4000 from Nat.add_le_add_left (Nat.le_of_ble_eq_true rfl) ms) hms⟩ (fun X9 w h9 => by obtain ⟨_, _, h9⟩ := h9; exact h9.elim) (fun v w h9 => ?_)
    obtain ⟨w1, rfl, s', rfl, hQ⟩ := h9
    obtain ⟨z, rfl⟩ := sh_lane hQ
    obtain ⟨h0, hv, hR⟩ := hn _ _ hQ
    show G C ((cW (xy C) S' ++ [oE (xy C) ob (vp_updL o 0 x)]) ++ mW (xy C) ma s') (mc + 4) (ms + 24) 199 [(5, .int 0), (4, .int (nI q)), (3, .ref ob), (2, .ref (ma 0)), (1, .ref (ad 5 0)), (0, .ref b)] [.int z]
    refine g_istore (L' := [(6, .int z), (5, .int 0), (4, .int (nI q)), (3, .ref ob), (2, .ref (ma 0)), (1, .ref (ad 5 0)), (0, .ref b)]) E dL_law_199 (by decide) rfl ?_
    refine g_aload_n E dL_law_201 rfl 4 rfl ?_
    refine g_invV (rm' := rm_X6_thrown) (mc' := 0) (ms' := 0) (As := []) (rest := []) (n := 0) E (gMet.frameL (m_X6_thrown (xl C) E.tr (xD C) (xy C) e0 (ma := ma) (s := s')) (cW (xy C) S' ++ [oE (xy C) ob (vp_updL o 0 x)])) gL_law_X6_thrown rfl rfl rfl (by decide +kernel) ⟨Nat.le_of_ble_eq_true rfl, Nat.le_of_ble_eq_true rfl⟩ _ 7 rfl rfl (app_r (k := 0) rfl) rfl rfl (Nat.le_of_ble_eq_true rfl) dL_law_202 ⟨Nat.le_trans (show mc + 4 + 0 ≤ mc + 10 from Nat.add_le_add_left (Nat.le_of_ble_eq_true rfl) mc) hmc, Nat.le_trans (show ms + 24 + 0 ≤ ms + 4000 from Nat.add_le_add_left (Nat.le_of_ble_eq_true rfl) ms) hms⟩ (fun X9 w h9 => by obtain ⟨_, _, h9⟩ := h9; exact h9.elim) (fun v w h9 => ?_)
    obtain ⟨w1, rfl, s9, rfl, rfl, rfl⟩ := h9
    show G C ((cW (xy C) S' ++ [oE (xy C) ob (vp_updL o 0 x)]) ++ mW (xy C) ma s9) (mc + 4) (ms + 24) 205 [(6, .int z), (5, .int 0), (4, .int (nI q)), (3, .ref ob), (2, .ref (ma 0)), (1, .ref (ad 5 0)), (0, .ref b)] [.int (mi s9 0)]
    refine g_iload E dL_law_205 1 rfl ?_
    refine g_icmp_eq (tgt := 212) E dL_law_207 (by decide) (fun _ => ?_) (fun hz => absurd h0 hz)
    refine g_iload E dL_law_212 1 rfl ?_
    refine g_if_ne (tgt := 229) E dL_law_214 (by decide) (fun hz => absurd rfl hz) (fun _ => ?_)
    refine g_aload_n E dL_law_217 rfl 3 rfl ?_
    refine g_iconst (v := 0) E dL_law_218 (by decide) ?_
    refine g_outld E dL_law_219 ?_
    show G C ((cW (xy C) S' ++ [oE (xy C) ob (vp_updL o 0 x)]) ++ mW (xy C) ma s9) (mc + 4) (ms + 24) 220 [(6, .int z), (5, .int 0), (4, .int (nI q)), (3, .ref ob), (2, .ref (ma 0)), (1, .ref (ad 5 0)), (0, .ref b)] [.long x]
    refine g_iload E dL_law_220 0 rfl ?_
    refine g_i2l E dL_law_222 ?_
    have hxz : x = z.toInt64 := by obtain ⟨z0, h4, h6⟩ := hcv; have h5 := hv.trans h4; injection h5 with h5; injection h5 with h5; rw [h6, h5]
    refine g_lcmp E dL_law_223 ?_
    refine g_if_eq (tgt := 229) E dL_law_224 (by decide) (fun _ => ?_) (fun hz => absurd ((lg_cmp_eq _ _).mpr hxz) hz)
    refine g_goto (tgt := 1647) E dL_law_229 (by decide) ?_
    refine g_widen (mc' := mc + 10) (ms' := ms + 4000) (Nat.add_le_add_left (Nat.le_of_ble_eq_true rfl) _) (Nat.add_le_add_left (Nat.le_of_ble_eq_true rfl) _) ?_
    refine g_locals [(4, .int (nI q)), (3, .ref ob), (2, .ref (ma 0)), (1, .ref (ad 5 0)), (0, .ref b)] [2, 3, 4, 5, 6] rfl ?_
    exact kk _ ⟨S', _, _, c', ad', i', j', p', r', rfl, hI', hA', hR⟩
  · obtain ⟨hk0, c', ad', i', j', p', r', hI', hA', hn⟩ := xx_lane hI h hXP hec
    show G C ((cW (xy C) S' ++ [oE (xy C) ob o]) ++ mW (xy C) ma s) (mc + 4) (ms + 24) 175 [(4, .int (nI q)), (3, .ref ob), (2, .ref (ma 0)), (1, .ref (ad 5 0)), (0, .ref b)] [.int k]
    refine g_istore (L' := [(5, .int k), (4, .int (nI q)), (3, .ref ob), (2, .ref (ma 0)), (1, .ref (ad 5 0)), (0, .ref b)]) E dL_law_175 (by decide) rfl ?_
    refine g_aload_n E dL_law_177 rfl 3 rfl ?_
    refine g_aload_n E dL_law_178 rfl 5 rfl ?_
    refine g_iload E dL_law_179 1 rfl ?_
    refine g_iconst (v := nI 1) E dL_law_181 (by decide) ?_
    refine g_iadd E dL_law_182 ?_
    refine g_sld E hX hbl hbA hL (q + 1) (nI_add q 1) (by omega) dL_law_183 ?_
    refine g_aload_n E dL_law_184 rfl 5 rfl ?_
    refine g_iload E dL_law_185 1 rfl ?_
    refine g_iconst (v := nI 2) E dL_law_187 (by decide) ?_
    refine g_iadd E dL_law_188 ?_
    refine g_sld E hX hbl hbA hL (q + 2) (nI_add q 2) (by omega) dL_law_189 ?_
    refine g_aload_n E dL_law_190 rfl 5 rfl ?_
    refine g_iload E dL_law_191 1 rfl ?_
    refine g_iconst (v := nI 3) E dL_law_193 (by decide) ?_
    refine g_iadd E dL_law_194 ?_
    refine g_sld E hX hbl hbA hL (q + 3) (nI_add q 3) (by omega) dL_law_195 ?_
    refine g_invV (rm' := rm_X6_lane) (mc' := 0) (ms' := 0) (As := [.int (xv (q + 1)), .int (xv (q + 2)), .int (xv (q + 3))]) (rest := []) (n := 3) E (gMet.frameL (m_X6_lane (xl C) E.tr (xD C) (xy C) e0 h.1.2.1 h.b.2.2.2.1) (cW (xy C) S' ++ [oE (xy C) ob o])) gL_law_X6_lane rfl rfl rfl (by decide +kernel) ⟨Nat.le_of_ble_eq_true rfl, Nat.le_of_ble_eq_true rfl⟩ _ 7 rfl rfl (app_r (k := 0) rfl) rfl rfl (Nat.le_of_ble_eq_true rfl) dL_law_196 ⟨Nat.le_trans (show mc + 4 + 0 ≤ mc + 10 from Nat.add_le_add_left (Nat.le_of_ble_eq_true rfl) mc) hmc, Nat.le_trans (show ms + 24 + 0 ≤ ms + 4000 from Nat.add_le_add_left (Nat.le_of_ble_eq_true rfl) ms) hms⟩ (fun X9 w h9 => by obtain ⟨_, _, h9⟩ := h9; exact h9.elim) (fun v w h9 => ?_)
    obtain ⟨w1, rfl, s', rfl, hQ⟩ := h9
    obtain ⟨z, rfl⟩ := sh_lane hQ
    obtain ⟨h0, hR⟩ := hn _ _ hQ
    show G C ((cW (xy C) S' ++ [oE (xy C) ob o]) ++ mW (xy C) ma s') (mc + 4) (ms + 24) 199 [(5, .int k), (4, .int (nI q)), (3, .ref ob), (2, .ref (ma 0)), (1, .ref (ad 5 0)), (0, .ref b)] [.int z]
    refine g_istore (L' := [(6, .int z), (5, .int k), (4, .int (nI q)), (3, .ref ob), (2, .ref (ma 0)), (1, .ref (ad 5 0)), (0, .ref b)]) E dL_law_199 (by decide) rfl ?_
    refine g_aload_n E dL_law_201 rfl 4 rfl ?_
    refine g_invV (rm' := rm_X6_thrown) (mc' := 0) (ms' := 0) (As := []) (rest := []) (n := 0) E (gMet.frameL (m_X6_thrown (xl C) E.tr (xD C) (xy C) e0 (ma := ma) (s := s')) (cW (xy C) S' ++ [oE (xy C) ob o])) gL_law_X6_thrown rfl rfl rfl (by decide +kernel) ⟨Nat.le_of_ble_eq_true rfl, Nat.le_of_ble_eq_true rfl⟩ _ 7 rfl rfl (app_r (k := 0) rfl) rfl rfl (Nat.le_of_ble_eq_true rfl) dL_law_202 ⟨Nat.le_trans (show mc + 4 + 0 ≤ mc + 10 from Nat.add_le_add_left (Nat.le_of_ble_eq_true rfl) mc) hmc, Nat.le_trans (show ms + 24 + 0 ≤ ms + 4000 from Nat.add_le_add_left (Nat.le_of_ble_eq_true rfl) ms) hms⟩ (fun X9 w h9 => by obtain ⟨_, _, h9⟩ := h9; exact h9.elim) (fun v w h9 => ?_)
    obtain ⟨w1, rfl, s9, rfl, rfl, rfl⟩ := h9
    show G C ((cW (xy C) S' ++ [oE (xy C) ob o]) ++ mW (xy C) ma s9) (mc + 4) (ms + 24) 205 [(6, .int z), (5, .int k), (4, .int (nI q)), (3, .ref ob), (2, .ref (ma 0)), (1, .ref (ad 5 0)), (0, .ref b)] [.int (mi s9 0)]
    refine g_iload E dL_law_205 1 rfl ?_
    refine g_icmp_eq (tgt := 212) E dL_law_207 (by decide) (fun _ => ?_) (fun hz => absurd h0 hz)
    refine g_iload E dL_law_212 1 rfl ?_
    refine g_if_ne (tgt := 229) E dL_law_214 (by decide) (fun _ => ?_) (fun hz => absurd hz hk0)
    refine g_goto (tgt := 1647) E dL_law_229 (by decide) ?_
    refine g_widen (mc' := mc + 10) (ms' := ms + 4000) (Nat.add_le_add_left (Nat.le_of_ble_eq_true rfl) _) (Nat.add_le_add_left (Nat.le_of_ble_eq_true rfl) _) ?_
    refine g_locals [(4, .int (nI q)), (3, .ref ob), (2, .ref (ma 0)), (1, .ref (ad 5 0)), (0, .ref b)] [2, 3, 4, 5, 6] rfl ?_
    exact kk _ ⟨S', _, _, c', ad', i', j', p', r', rfl, hI', hA', hR⟩
set_option maxHeartbeats 4000000 in
set_option maxRecDepth 100000 in
theorem cs_line (E : gOk C cL_law 8 wsL_law RL e0 room_1) (hX : va_X b Ln xv (xs C) (xs C).heap) (hbl : b < (xs C).heap.size) (hbA : ¬ xA C b) (hL : Ln ≤ 3584) (hq : q + 7 ≤ Ln) (hW : LV C e0 a ob ma W) (hmc : mc + 10 ≤ 601024) (hms : ms + 4000 ≤ 7293034) (kk : ∀ W', LV C e0 a ob ma W' → G C W' (mc + 10) (ms + 4000) 1647 [(4, .int (nI q)), (3, .ref ob), (2, .ref (ma 0)), (1, .ref a), (0, .ref b)] []) : G C W mc ms 232 [(4, .int (nI q)), (3, .ref ob), (2, .ref (ma 0)), (1, .ref a), (0, .ref b)] [] := by
  obtain ⟨S, o, s, c, ad, i, j, p, r, rfl, hI, hA, M, N, h⟩ := hW
  subst hA
  refine g_aload_n E dL_law_232 rfl 3 rfl ?_
  refine g_aload_n E dL_law_233 rfl 4 rfl ?_
  refine g_iload E dL_law_234 0 rfl ?_
  refine g_iconst (v := nI 1) E dL_law_236 (by decide) ?_
  refine g_iadd E dL_law_237 ?_
  refine g_sld E hX hbl hbA hL (q + 1) (nI_add q 1) (by omega) dL_law_238 ?_
  refine g_aload_n E dL_law_239 rfl 4 rfl ?_
  refine g_iload E dL_law_240 0 rfl ?_
  refine g_iconst (v := nI 2) E dL_law_242 (by decide) ?_
  refine g_iadd E dL_law_243 ?_
  refine g_sld E hX hbl hbA hL (q + 2) (nI_add q 2) (by omega) dL_law_244 ?_
  refine g_aload_n E dL_law_245 rfl 1 rfl ?_
  refine g_invSW (rm' := rm_L_line) (mc' := 5) (ms' := 1040) (As := [.ref (ad 5 0), .int (xv (q + 1)), .int (xv (q + 2)), .ref ob]) (rest := []) (n := 4) E ((w_line (xl C) E.tr (xD C) (xy C) e0 (hI.obj (kd := 5) (by decide) hI.c5).1 (hI.obj (kd := 5) (by decide) hI.c5).2 (m_X5_line (xl C) E.tr (xD C) (xy C) e0 hI) (fun v S' hP => by rcases hP with ⟨_, _, _, _, _, hv, _⟩ <;> exact ⟨_, hv⟩) (fun _ _ h => h.elim (fun h => Or.inl h.1) (fun h => h.elim (fun h => Or.inr (Or.inl h.1)) (fun h => Or.inr (Or.inr h.1))))).frameRN (mW (xy C) ma s)) gL_law_L_line rfl rfl rfl (by decide +kernel) ⟨Nat.le_of_ble_eq_true rfl, Nat.le_of_ble_eq_true rfl⟩ rfl rfl (Nat.le_of_ble_eq_true rfl) dL_law_246 ⟨by exact Nat.le_trans (Nat.add_le_add_left (Nat.le_of_ble_eq_true rfl) _) hmc, by exact Nat.le_trans (Nat.add_le_add_left (Nat.le_of_ble_eq_true rfl) _) hms⟩ (fun v w h9 => ?_)
  obtain ⟨w1, rfl, h9⟩ := h9
  rcases h9 with ⟨S', vv, x, rfl, rfl, hP, hcv⟩ | ⟨S', X, k, rfl, rfl, hXP, hec⟩
  · obtain ⟨c', ad', i', j', p', r', hI', hA', hn⟩ := nx_line hI h hP
    show G C ((cW (xy C) S' ++ [oE (xy C) ob (vp_updL o 0 x)]) ++ mW (xy C) ma s) (mc + 5) (ms + 1040) 249 [(4, .int (nI q)), (3, .ref ob), (2, .ref (ma 0)), (1, .ref (ad 5 0)), (0, .ref b)] [.int 0]
    refine g_istore (L' := [(5, .int 0), (4, .int (nI q)), (3, .ref ob), (2, .ref (ma 0)), (1, .ref (ad 5 0)), (0, .ref b)]) E dL_law_249 (by decide) rfl ?_
    refine g_aload_n E dL_law_251 rfl 3 rfl ?_
    refine g_aload_n E dL_law_252 rfl 5 rfl ?_
    refine g_iload E dL_law_253 1 rfl ?_
    refine g_iconst (v := nI 1) E dL_law_255 (by decide) ?_
    refine g_iadd E dL_law_256 ?_
    refine g_sld E hX hbl hbA hL (q + 1) (nI_add q 1) (by omega) dL_law_257 ?_
    refine g_aload_n E dL_law_258 rfl 5 rfl ?_
    refine g_iload E dL_law_259 1 rfl ?_
    refine g_iconst (v := nI 2) E dL_law_261 (by decide) ?_
    refine g_iadd E dL_law_262 ?_
    refine g_sld E hX hbl hbA hL (q + 2) (nI_add q 2) (by omega) dL_law_263 ?_
    refine g_invV (rm' := rm_X6_line) (mc' := 0) (ms' := 0) (As := [.int (xv (q + 1)), .int (xv (q + 2))]) (rest := []) (n := 2) E (gMet.frameL (m_X6_line (xl C) E.tr (xD C) (xy C) e0 h.1.2.2.2.1 h.b.1) (cW (xy C) S' ++ [oE (xy C) ob (vp_updL o 0 x)])) gL_law_X6_line rfl rfl rfl (by decide +kernel) ⟨Nat.le_of_ble_eq_true rfl, Nat.le_of_ble_eq_true rfl⟩ _ 7 rfl rfl (app_r (k := 0) rfl) rfl rfl (Nat.le_of_ble_eq_true rfl) dL_law_264 ⟨Nat.le_trans (show mc + 5 + 0 ≤ mc + 10 from Nat.add_le_add_left (Nat.le_of_ble_eq_true rfl) mc) hmc, Nat.le_trans (show ms + 1040 + 0 ≤ ms + 4000 from Nat.add_le_add_left (Nat.le_of_ble_eq_true rfl) ms) hms⟩ (fun X9 w h9 => by obtain ⟨_, _, h9⟩ := h9; exact h9.elim) (fun v w h9 => ?_)
    obtain ⟨w1, rfl, s', rfl, hQ⟩ := h9
    obtain ⟨z, rfl⟩ := sh_line hQ
    obtain ⟨h0, hv, hR⟩ := hn _ _ hQ
    show G C ((cW (xy C) S' ++ [oE (xy C) ob (vp_updL o 0 x)]) ++ mW (xy C) ma s') (mc + 5) (ms + 1040) 267 [(5, .int 0), (4, .int (nI q)), (3, .ref ob), (2, .ref (ma 0)), (1, .ref (ad 5 0)), (0, .ref b)] [.int z]
    refine g_istore (L' := [(6, .int z), (5, .int 0), (4, .int (nI q)), (3, .ref ob), (2, .ref (ma 0)), (1, .ref (ad 5 0)), (0, .ref b)]) E dL_law_267 (by decide) rfl ?_
    refine g_aload_n E dL_law_269 rfl 4 rfl ?_
    refine g_invV (rm' := rm_X6_thrown) (mc' := 0) (ms' := 0) (As := []) (rest := []) (n := 0) E (gMet.frameL (m_X6_thrown (xl C) E.tr (xD C) (xy C) e0 (ma := ma) (s := s')) (cW (xy C) S' ++ [oE (xy C) ob (vp_updL o 0 x)])) gL_law_X6_thrown rfl rfl rfl (by decide +kernel) ⟨Nat.le_of_ble_eq_true rfl, Nat.le_of_ble_eq_true rfl⟩ _ 7 rfl rfl (app_r (k := 0) rfl) rfl rfl (Nat.le_of_ble_eq_true rfl) dL_law_270 ⟨Nat.le_trans (show mc + 5 + 0 ≤ mc + 10 from Nat.add_le_add_left (Nat.le_of_ble_eq_true rfl) mc) hmc, Nat.le_trans (show ms + 1040 + 0 ≤ ms + 4000 from Nat.add_le_add_left (Nat.le_of_ble_eq_true rfl) ms) hms⟩ (fun X9 w h9 => by obtain ⟨_, _, h9⟩ := h9; exact h9.elim) (fun v w h9 => ?_)
    obtain ⟨w1, rfl, s9, rfl, rfl, rfl⟩ := h9
    show G C ((cW (xy C) S' ++ [oE (xy C) ob (vp_updL o 0 x)]) ++ mW (xy C) ma s9) (mc + 5) (ms + 1040) 273 [(6, .int z), (5, .int 0), (4, .int (nI q)), (3, .ref ob), (2, .ref (ma 0)), (1, .ref (ad 5 0)), (0, .ref b)] [.int (mi s9 0)]
    refine g_iload E dL_law_273 1 rfl ?_
    refine g_icmp_eq (tgt := 280) E dL_law_275 (by decide) (fun _ => ?_) (fun hz => absurd h0 hz)
    refine g_iload E dL_law_280 1 rfl ?_
    refine g_if_ne (tgt := 297) E dL_law_282 (by decide) (fun hz => absurd rfl hz) (fun _ => ?_)
    refine g_aload_n E dL_law_285 rfl 3 rfl ?_
    refine g_iconst (v := 0) E dL_law_286 (by decide) ?_
    refine g_outld E dL_law_287 ?_
    show G C ((cW (xy C) S' ++ [oE (xy C) ob (vp_updL o 0 x)]) ++ mW (xy C) ma s9) (mc + 5) (ms + 1040) 288 [(6, .int z), (5, .int 0), (4, .int (nI q)), (3, .ref ob), (2, .ref (ma 0)), (1, .ref (ad 5 0)), (0, .ref b)] [.long x]
    refine g_iload E dL_law_288 0 rfl ?_
    refine g_i2l E dL_law_290 ?_
    have hxz : x = z.toInt64 := by obtain ⟨z0, h4, h6⟩ := hcv; have h5 := hv.trans h4; injection h5 with h5; injection h5 with h5; rw [h6, h5]
    refine g_lcmp E dL_law_291 ?_
    refine g_if_eq (tgt := 297) E dL_law_292 (by decide) (fun _ => ?_) (fun hz => absurd ((lg_cmp_eq _ _).mpr hxz) hz)
    refine g_goto (tgt := 1647) E dL_law_297 (by decide) ?_
    refine g_widen (mc' := mc + 10) (ms' := ms + 4000) (Nat.add_le_add_left (Nat.le_of_ble_eq_true rfl) _) (Nat.add_le_add_left (Nat.le_of_ble_eq_true rfl) _) ?_
    refine g_locals [(4, .int (nI q)), (3, .ref ob), (2, .ref (ma 0)), (1, .ref (ad 5 0)), (0, .ref b)] [2, 3, 4, 5, 6] rfl ?_
    exact kk _ ⟨S', _, _, c', ad', i', j', p', r', rfl, hI', hA', hR⟩
  · obtain ⟨hk0, c', ad', i', j', p', r', hI', hA', hn⟩ := xx_line hI h hXP hec
    show G C ((cW (xy C) S' ++ [oE (xy C) ob o]) ++ mW (xy C) ma s) (mc + 5) (ms + 1040) 249 [(4, .int (nI q)), (3, .ref ob), (2, .ref (ma 0)), (1, .ref (ad 5 0)), (0, .ref b)] [.int k]
    refine g_istore (L' := [(5, .int k), (4, .int (nI q)), (3, .ref ob), (2, .ref (ma 0)), (1, .ref (ad 5 0)), (0, .ref b)]) E dL_law_249 (by decide) rfl ?_
    refine g_aload_n E dL_law_251 rfl 3 rfl ?_
    refine g_aload_n E dL_law_252 rfl 5 rfl ?_
    refine g_iload E dL_law_253 1 rfl ?_
    refine g_iconst (v := nI 1) E dL_law_255 (by decide) ?_
    refine g_iadd E dL_law_256 ?_
    refine g_sld E hX hbl hbA hL (q + 1) (nI_add q 1) (by omega) dL_law_257 ?_
    refine g_aload_n E dL_law_258 rfl 5 rfl ?_
    refine g_iload E dL_law_259 1 rfl ?_
    refine g_iconst (v := nI 2) E dL_law_261 (by decide) ?_
    refine g_iadd E dL_law_262 ?_
    refine g_sld E hX hbl hbA hL (q + 2) (nI_add q 2) (by omega) dL_law_263 ?_
    refine g_invV (rm' := rm_X6_line) (mc' := 0) (ms' := 0) (As := [.int (xv (q + 1)), .int (xv (q + 2))]) (rest := []) (n := 2) E (gMet.frameL (m_X6_line (xl C) E.tr (xD C) (xy C) e0 h.1.2.2.2.1 h.b.1) (cW (xy C) S' ++ [oE (xy C) ob o])) gL_law_X6_line rfl rfl rfl (by decide +kernel) ⟨Nat.le_of_ble_eq_true rfl, Nat.le_of_ble_eq_true rfl⟩ _ 7 rfl rfl (app_r (k := 0) rfl) rfl rfl (Nat.le_of_ble_eq_true rfl) dL_law_264 ⟨Nat.le_trans (show mc + 5 + 0 ≤ mc + 10 from Nat.add_le_add_left (Nat.le_of_ble_eq_true rfl) mc) hmc, Nat.le_trans (show ms + 1040 + 0 ≤ ms + 4000 from Nat.add_le_add_left (Nat.le_of_ble_eq_true rfl) ms) hms⟩ (fun X9 w h9 => by obtain ⟨_, _, h9⟩ := h9; exact h9.elim) (fun v w h9 => ?_)
    obtain ⟨w1, rfl, s', rfl, hQ⟩ := h9
    obtain ⟨z, rfl⟩ := sh_line hQ
    obtain ⟨h0, hR⟩ := hn _ _ hQ
    show G C ((cW (xy C) S' ++ [oE (xy C) ob o]) ++ mW (xy C) ma s') (mc + 5) (ms + 1040) 267 [(5, .int k), (4, .int (nI q)), (3, .ref ob), (2, .ref (ma 0)), (1, .ref (ad 5 0)), (0, .ref b)] [.int z]
    refine g_istore (L' := [(6, .int z), (5, .int k), (4, .int (nI q)), (3, .ref ob), (2, .ref (ma 0)), (1, .ref (ad 5 0)), (0, .ref b)]) E dL_law_267 (by decide) rfl ?_
    refine g_aload_n E dL_law_269 rfl 4 rfl ?_
    refine g_invV (rm' := rm_X6_thrown) (mc' := 0) (ms' := 0) (As := []) (rest := []) (n := 0) E (gMet.frameL (m_X6_thrown (xl C) E.tr (xD C) (xy C) e0 (ma := ma) (s := s')) (cW (xy C) S' ++ [oE (xy C) ob o])) gL_law_X6_thrown rfl rfl rfl (by decide +kernel) ⟨Nat.le_of_ble_eq_true rfl, Nat.le_of_ble_eq_true rfl⟩ _ 7 rfl rfl (app_r (k := 0) rfl) rfl rfl (Nat.le_of_ble_eq_true rfl) dL_law_270 ⟨Nat.le_trans (show mc + 5 + 0 ≤ mc + 10 from Nat.add_le_add_left (Nat.le_of_ble_eq_true rfl) mc) hmc, Nat.le_trans (show ms + 1040 + 0 ≤ ms + 4000 from Nat.add_le_add_left (Nat.le_of_ble_eq_true rfl) ms) hms⟩ (fun X9 w h9 => by obtain ⟨_, _, h9⟩ := h9; exact h9.elim) (fun v w h9 => ?_)
    obtain ⟨w1, rfl, s9, rfl, rfl, rfl⟩ := h9
    show G C ((cW (xy C) S' ++ [oE (xy C) ob o]) ++ mW (xy C) ma s9) (mc + 5) (ms + 1040) 273 [(6, .int z), (5, .int k), (4, .int (nI q)), (3, .ref ob), (2, .ref (ma 0)), (1, .ref (ad 5 0)), (0, .ref b)] [.int (mi s9 0)]
    refine g_iload E dL_law_273 1 rfl ?_
    refine g_icmp_eq (tgt := 280) E dL_law_275 (by decide) (fun _ => ?_) (fun hz => absurd h0 hz)
    refine g_iload E dL_law_280 1 rfl ?_
    refine g_if_ne (tgt := 297) E dL_law_282 (by decide) (fun _ => ?_) (fun hz => absurd hz hk0)
    refine g_goto (tgt := 1647) E dL_law_297 (by decide) ?_
    refine g_widen (mc' := mc + 10) (ms' := ms + 4000) (Nat.add_le_add_left (Nat.le_of_ble_eq_true rfl) _) (Nat.add_le_add_left (Nat.le_of_ble_eq_true rfl) _) ?_
    refine g_locals [(4, .int (nI q)), (3, .ref ob), (2, .ref (ma 0)), (1, .ref (ad 5 0)), (0, .ref b)] [2, 3, 4, 5, 6] rfl ?_
    exact kk _ ⟨S', _, _, c', ad', i', j', p', r', rfl, hI', hA', hR⟩
set_option maxHeartbeats 4000000 in
set_option maxRecDepth 100000 in
theorem cs_stop (E : gOk C cL_law 8 wsL_law RL e0 room_1) (hX : va_X b Ln xv (xs C) (xs C).heap) (hbl : b < (xs C).heap.size) (hbA : ¬ xA C b) (hL : Ln ≤ 3584) (hq : q + 7 ≤ Ln) (hW : LV C e0 a ob ma W) (hmc : mc + 10 ≤ 601024) (hms : ms + 4000 ≤ 7293034) (kk : ∀ W', LV C e0 a ob ma W' → G C W' (mc + 10) (ms + 4000) 1647 [(4, .int (nI q)), (3, .ref ob), (2, .ref (ma 0)), (1, .ref a), (0, .ref b)] []) : G C W mc ms 300 [(4, .int (nI q)), (3, .ref ob), (2, .ref (ma 0)), (1, .ref a), (0, .ref b)] [] := by
  obtain ⟨S, o, s, c, ad, i, j, p, r, rfl, hI, hA, M, N, h⟩ := hW
  subst hA
  refine g_aload_n E dL_law_300 rfl 3 rfl ?_
  refine g_aload_n E dL_law_301 rfl 4 rfl ?_
  refine g_iload E dL_law_302 0 rfl ?_
  refine g_iconst (v := nI 1) E dL_law_304 (by decide) ?_
  refine g_iadd E dL_law_305 ?_
  refine g_sld E hX hbl hbA hL (q + 1) (nI_add q 1) (by omega) dL_law_306 ?_
  refine g_aload_n E dL_law_307 rfl 4 rfl ?_
  refine g_iload E dL_law_308 0 rfl ?_
  refine g_iconst (v := nI 2) E dL_law_310 (by decide) ?_
  refine g_iadd E dL_law_311 ?_
  refine g_sld E hX hbl hbA hL (q + 2) (nI_add q 2) (by omega) dL_law_312 ?_
  refine g_aload_n E dL_law_313 rfl 1 rfl ?_
  refine g_invSW (rm' := rm_L_stop) (mc' := 3) (ms' := 18) (As := [.ref (ad 5 0), .int (xv (q + 1)), .int (xv (q + 2)), .ref ob]) (rest := []) (n := 4) E ((w_stop (xl C) E.tr (xD C) (xy C) e0 (hI.obj (kd := 5) (by decide) hI.c5).1 (hI.obj (kd := 5) (by decide) hI.c5).2 (m_X5_stop (xl C) E.tr (xD C) (xy C) e0 hI h.1.1 h.b.2.2.2.1 h.ln.lns h.wv h.li.li) (fun v S' hP => by rcases hP with ⟨_, _, _, _, _, _, _, _, _, _, _, ⟨_, _, _, _, hv, _⟩⟩ <;> exact ⟨_, hv⟩) (fun _ _ h => h.elim (fun h => Or.inl h.1) (fun h => h.elim (fun h => Or.inr (Or.inl h.1)) (fun h => Or.inr (Or.inr h.1))))).frameRN (mW (xy C) ma s)) gL_law_L_stop rfl rfl rfl (by decide +kernel) ⟨Nat.le_of_ble_eq_true rfl, Nat.le_of_ble_eq_true rfl⟩ rfl rfl (Nat.le_of_ble_eq_true rfl) dL_law_314 ⟨by exact Nat.le_trans (Nat.add_le_add_left (Nat.le_of_ble_eq_true rfl) _) hmc, by exact Nat.le_trans (Nat.add_le_add_left (Nat.le_of_ble_eq_true rfl) _) hms⟩ (fun v w h9 => ?_)
  obtain ⟨w1, rfl, h9⟩ := h9
  rcases h9 with ⟨S', vv, x, rfl, rfl, hP, hcv⟩ | ⟨S', X, k, rfl, rfl, hXP, hec⟩
  · obtain ⟨c', ad', i', j', p', r', hI', hA', hn⟩ := nx_stop hI h hP
    show G C ((cW (xy C) S' ++ [oE (xy C) ob (vp_updL o 0 x)]) ++ mW (xy C) ma s) (mc + 3) (ms + 18) 317 [(4, .int (nI q)), (3, .ref ob), (2, .ref (ma 0)), (1, .ref (ad 5 0)), (0, .ref b)] [.int 0]
    refine g_istore (L' := [(5, .int 0), (4, .int (nI q)), (3, .ref ob), (2, .ref (ma 0)), (1, .ref (ad 5 0)), (0, .ref b)]) E dL_law_317 (by decide) rfl ?_
    refine g_aload_n E dL_law_319 rfl 3 rfl ?_
    refine g_aload_n E dL_law_320 rfl 5 rfl ?_
    refine g_iload E dL_law_321 1 rfl ?_
    refine g_iconst (v := nI 1) E dL_law_323 (by decide) ?_
    refine g_iadd E dL_law_324 ?_
    refine g_sld E hX hbl hbA hL (q + 1) (nI_add q 1) (by omega) dL_law_325 ?_
    refine g_aload_n E dL_law_326 rfl 5 rfl ?_
    refine g_iload E dL_law_327 1 rfl ?_
    refine g_iconst (v := nI 2) E dL_law_329 (by decide) ?_
    refine g_iadd E dL_law_330 ?_
    refine g_sld E hX hbl hbA hL (q + 2) (nI_add q 2) (by omega) dL_law_331 ?_
    refine g_invV (rm' := rm_X6_stop) (mc' := 0) (ms' := 0) (As := [.int (xv (q + 1)), .int (xv (q + 2))]) (rest := []) (n := 2) E (gMet.frameL (m_X6_stop (xl C) E.tr (xD C) (xy C) e0 h.1.2.1 h.b.2.2.2.1 h.ln.mln h.1.2.2.2.1 h.b.1 h.li.mli) (cW (xy C) S' ++ [oE (xy C) ob (vp_updL o 0 x)])) gL_law_X6_stop rfl rfl rfl (by decide +kernel) ⟨Nat.le_of_ble_eq_true rfl, Nat.le_of_ble_eq_true rfl⟩ _ 7 rfl rfl (app_r (k := 0) rfl) rfl rfl (Nat.le_of_ble_eq_true rfl) dL_law_332 ⟨Nat.le_trans (show mc + 3 + 0 ≤ mc + 10 from Nat.add_le_add_left (Nat.le_of_ble_eq_true rfl) mc) hmc, Nat.le_trans (show ms + 18 + 0 ≤ ms + 4000 from Nat.add_le_add_left (Nat.le_of_ble_eq_true rfl) ms) hms⟩ (fun X9 w h9 => by obtain ⟨_, _, h9⟩ := h9; exact h9.elim) (fun v w h9 => ?_)
    obtain ⟨w1, rfl, s', rfl, hQ⟩ := h9
    obtain ⟨z, rfl⟩ := sh_stop hQ
    obtain ⟨h0, hv, hR⟩ := hn _ _ hQ
    show G C ((cW (xy C) S' ++ [oE (xy C) ob (vp_updL o 0 x)]) ++ mW (xy C) ma s') (mc + 3) (ms + 18) 335 [(5, .int 0), (4, .int (nI q)), (3, .ref ob), (2, .ref (ma 0)), (1, .ref (ad 5 0)), (0, .ref b)] [.int z]
    refine g_istore (L' := [(6, .int z), (5, .int 0), (4, .int (nI q)), (3, .ref ob), (2, .ref (ma 0)), (1, .ref (ad 5 0)), (0, .ref b)]) E dL_law_335 (by decide) rfl ?_
    refine g_aload_n E dL_law_337 rfl 4 rfl ?_
    refine g_invV (rm' := rm_X6_thrown) (mc' := 0) (ms' := 0) (As := []) (rest := []) (n := 0) E (gMet.frameL (m_X6_thrown (xl C) E.tr (xD C) (xy C) e0 (ma := ma) (s := s')) (cW (xy C) S' ++ [oE (xy C) ob (vp_updL o 0 x)])) gL_law_X6_thrown rfl rfl rfl (by decide +kernel) ⟨Nat.le_of_ble_eq_true rfl, Nat.le_of_ble_eq_true rfl⟩ _ 7 rfl rfl (app_r (k := 0) rfl) rfl rfl (Nat.le_of_ble_eq_true rfl) dL_law_338 ⟨Nat.le_trans (show mc + 3 + 0 ≤ mc + 10 from Nat.add_le_add_left (Nat.le_of_ble_eq_true rfl) mc) hmc, Nat.le_trans (show ms + 18 + 0 ≤ ms + 4000 from Nat.add_le_add_left (Nat.le_of_ble_eq_true rfl) ms) hms⟩ (fun X9 w h9 => by obtain ⟨_, _, h9⟩ := h9; exact h9.elim) (fun v w h9 => ?_)
    obtain ⟨w1, rfl, s9, rfl, rfl, rfl⟩ := h9
    show G C ((cW (xy C) S' ++ [oE (xy C) ob (vp_updL o 0 x)]) ++ mW (xy C) ma s9) (mc + 3) (ms + 18) 341 [(6, .int z), (5, .int 0), (4, .int (nI q)), (3, .ref ob), (2, .ref (ma 0)), (1, .ref (ad 5 0)), (0, .ref b)] [.int (mi s9 0)]
    refine g_iload E dL_law_341 1 rfl ?_
    refine g_icmp_eq (tgt := 348) E dL_law_343 (by decide) (fun _ => ?_) (fun hz => absurd h0 hz)
    refine g_iload E dL_law_348 1 rfl ?_
    refine g_if_ne (tgt := 365) E dL_law_350 (by decide) (fun hz => absurd rfl hz) (fun _ => ?_)
    refine g_aload_n E dL_law_353 rfl 3 rfl ?_
    refine g_iconst (v := 0) E dL_law_354 (by decide) ?_
    refine g_outld E dL_law_355 ?_
    show G C ((cW (xy C) S' ++ [oE (xy C) ob (vp_updL o 0 x)]) ++ mW (xy C) ma s9) (mc + 3) (ms + 18) 356 [(6, .int z), (5, .int 0), (4, .int (nI q)), (3, .ref ob), (2, .ref (ma 0)), (1, .ref (ad 5 0)), (0, .ref b)] [.long x]
    refine g_iload E dL_law_356 0 rfl ?_
    refine g_i2l E dL_law_358 ?_
    have hxz : x = z.toInt64 := by obtain ⟨z0, h4, h6⟩ := hcv; have h5 := hv.trans h4; injection h5 with h5; injection h5 with h5; rw [h6, h5]
    refine g_lcmp E dL_law_359 ?_
    refine g_if_eq (tgt := 365) E dL_law_360 (by decide) (fun _ => ?_) (fun hz => absurd ((lg_cmp_eq _ _).mpr hxz) hz)
    refine g_goto (tgt := 1647) E dL_law_365 (by decide) ?_
    refine g_widen (mc' := mc + 10) (ms' := ms + 4000) (Nat.add_le_add_left (Nat.le_of_ble_eq_true rfl) _) (Nat.add_le_add_left (Nat.le_of_ble_eq_true rfl) _) ?_
    refine g_locals [(4, .int (nI q)), (3, .ref ob), (2, .ref (ma 0)), (1, .ref (ad 5 0)), (0, .ref b)] [2, 3, 4, 5, 6] rfl ?_
    exact kk _ ⟨S', _, _, c', ad', i', j', p', r', rfl, hI', hA', hR⟩
  · obtain ⟨hk0, c', ad', i', j', p', r', hI', hA', hn⟩ := xx_stop hI h hXP hec
    show G C ((cW (xy C) S' ++ [oE (xy C) ob o]) ++ mW (xy C) ma s) (mc + 3) (ms + 18) 317 [(4, .int (nI q)), (3, .ref ob), (2, .ref (ma 0)), (1, .ref (ad 5 0)), (0, .ref b)] [.int k]
    refine g_istore (L' := [(5, .int k), (4, .int (nI q)), (3, .ref ob), (2, .ref (ma 0)), (1, .ref (ad 5 0)), (0, .ref b)]) E dL_law_317 (by decide) rfl ?_
    refine g_aload_n E dL_law_319 rfl 3 rfl ?_
    refine g_aload_n E dL_law_320 rfl 5 rfl ?_
    refine g_iload E dL_law_321 1 rfl ?_
    refine g_iconst (v := nI 1) E dL_law_323 (by decide) ?_
    refine g_iadd E dL_law_324 ?_
    refine g_sld E hX hbl hbA hL (q + 1) (nI_add q 1) (by omega) dL_law_325 ?_
    refine g_aload_n E dL_law_326 rfl 5 rfl ?_
    refine g_iload E dL_law_327 1 rfl ?_
    refine g_iconst (v := nI 2) E dL_law_329 (by decide) ?_
    refine g_iadd E dL_law_330 ?_
    refine g_sld E hX hbl hbA hL (q + 2) (nI_add q 2) (by omega) dL_law_331 ?_
    refine g_invV (rm' := rm_X6_stop) (mc' := 0) (ms' := 0) (As := [.int (xv (q + 1)), .int (xv (q + 2))]) (rest := []) (n := 2) E (gMet.frameL (m_X6_stop (xl C) E.tr (xD C) (xy C) e0 h.1.2.1 h.b.2.2.2.1 h.ln.mln h.1.2.2.2.1 h.b.1 h.li.mli) (cW (xy C) S' ++ [oE (xy C) ob o])) gL_law_X6_stop rfl rfl rfl (by decide +kernel) ⟨Nat.le_of_ble_eq_true rfl, Nat.le_of_ble_eq_true rfl⟩ _ 7 rfl rfl (app_r (k := 0) rfl) rfl rfl (Nat.le_of_ble_eq_true rfl) dL_law_332 ⟨Nat.le_trans (show mc + 3 + 0 ≤ mc + 10 from Nat.add_le_add_left (Nat.le_of_ble_eq_true rfl) mc) hmc, Nat.le_trans (show ms + 18 + 0 ≤ ms + 4000 from Nat.add_le_add_left (Nat.le_of_ble_eq_true rfl) ms) hms⟩ (fun X9 w h9 => by obtain ⟨_, _, h9⟩ := h9; exact h9.elim) (fun v w h9 => ?_)
    obtain ⟨w1, rfl, s', rfl, hQ⟩ := h9
    obtain ⟨z, rfl⟩ := sh_stop hQ
    obtain ⟨h0, hR⟩ := hn _ _ hQ
    show G C ((cW (xy C) S' ++ [oE (xy C) ob o]) ++ mW (xy C) ma s') (mc + 3) (ms + 18) 335 [(5, .int k), (4, .int (nI q)), (3, .ref ob), (2, .ref (ma 0)), (1, .ref (ad 5 0)), (0, .ref b)] [.int z]
    refine g_istore (L' := [(6, .int z), (5, .int k), (4, .int (nI q)), (3, .ref ob), (2, .ref (ma 0)), (1, .ref (ad 5 0)), (0, .ref b)]) E dL_law_335 (by decide) rfl ?_
    refine g_aload_n E dL_law_337 rfl 4 rfl ?_
    refine g_invV (rm' := rm_X6_thrown) (mc' := 0) (ms' := 0) (As := []) (rest := []) (n := 0) E (gMet.frameL (m_X6_thrown (xl C) E.tr (xD C) (xy C) e0 (ma := ma) (s := s')) (cW (xy C) S' ++ [oE (xy C) ob o])) gL_law_X6_thrown rfl rfl rfl (by decide +kernel) ⟨Nat.le_of_ble_eq_true rfl, Nat.le_of_ble_eq_true rfl⟩ _ 7 rfl rfl (app_r (k := 0) rfl) rfl rfl (Nat.le_of_ble_eq_true rfl) dL_law_338 ⟨Nat.le_trans (show mc + 3 + 0 ≤ mc + 10 from Nat.add_le_add_left (Nat.le_of_ble_eq_true rfl) mc) hmc, Nat.le_trans (show ms + 18 + 0 ≤ ms + 4000 from Nat.add_le_add_left (Nat.le_of_ble_eq_true rfl) ms) hms⟩ (fun X9 w h9 => by obtain ⟨_, _, h9⟩ := h9; exact h9.elim) (fun v w h9 => ?_)
    obtain ⟨w1, rfl, s9, rfl, rfl, rfl⟩ := h9
    show G C ((cW (xy C) S' ++ [oE (xy C) ob o]) ++ mW (xy C) ma s9) (mc + 3) (ms + 18) 341 [(6, .int z), (5, .int k), (4, .int (nI q)), (3, .ref ob), (2, .ref (ma 0)), (1, .ref (ad 5 0)), (0, .ref b)] [.int (mi s9 0)]
    refine g_iload E dL_law_341 1 rfl ?_
    refine g_icmp_eq (tgt := 348) E dL_law_343 (by decide) (fun _ => ?_) (fun hz => absurd h0 hz)
    refine g_iload E dL_law_348 1 rfl ?_
    refine g_if_ne (tgt := 365) E dL_law_350 (by decide) (fun _ => ?_) (fun hz => absurd hz hk0)
    refine g_goto (tgt := 1647) E dL_law_365 (by decide) ?_
    refine g_widen (mc' := mc + 10) (ms' := ms + 4000) (Nat.add_le_add_left (Nat.le_of_ble_eq_true rfl) _) (Nat.add_le_add_left (Nat.le_of_ble_eq_true rfl) _) ?_
    refine g_locals [(4, .int (nI q)), (3, .ref ob), (2, .ref (ma 0)), (1, .ref (ad 5 0)), (0, .ref b)] [2, 3, 4, 5, 6] rfl ?_
    exact kk _ ⟨S', _, _, c', ad', i', j', p', r', rfl, hI', hA', hR⟩
set_option maxHeartbeats 4000000 in
set_option maxRecDepth 100000 in
theorem cs_way (E : gOk C cL_law 8 wsL_law RL e0 room_1) (hX : va_X b Ln xv (xs C) (xs C).heap) (hbl : b < (xs C).heap.size) (hbA : ¬ xA C b) (hL : Ln ≤ 3584) (hq : q + 7 ≤ Ln) (hW : LV C e0 a ob ma W) (hmc : mc + 10 ≤ 601024) (hms : ms + 4000 ≤ 7293034) (kk : ∀ W', LV C e0 a ob ma W' → G C W' (mc + 10) (ms + 4000) 1647 [(4, .int (nI q)), (3, .ref ob), (2, .ref (ma 0)), (1, .ref a), (0, .ref b)] []) : G C W mc ms 368 [(4, .int (nI q)), (3, .ref ob), (2, .ref (ma 0)), (1, .ref a), (0, .ref b)] [] := by
  obtain ⟨S, o, s, c, ad, i, j, p, r, rfl, hI, hA, M, N, h⟩ := hW
  subst hA
  refine g_aload_n E dL_law_368 rfl 3 rfl ?_
  refine g_aload_n E dL_law_369 rfl 4 rfl ?_
  refine g_iload E dL_law_370 0 rfl ?_
  refine g_iconst (v := nI 1) E dL_law_372 (by decide) ?_
  refine g_iadd E dL_law_373 ?_
  refine g_sld E hX hbl hbA hL (q + 1) (nI_add q 1) (by omega) dL_law_374 ?_
  refine g_aload_n E dL_law_375 rfl 4 rfl ?_
  refine g_iload E dL_law_376 0 rfl ?_
  refine g_iconst (v := nI 2) E dL_law_378 (by decide) ?_
  refine g_iadd E dL_law_379 ?_
  refine g_sld E hX hbl hbA hL (q + 2) (nI_add q 2) (by omega) dL_law_380 ?_
  refine g_aload_n E dL_law_381 rfl 1 rfl ?_
  refine g_invSW (rm' := rm_L_way) (mc' := 2) (ms' := 12) (As := [.ref (ad 5 0), .int (xv (q + 1)), .int (xv (q + 2)), .ref ob]) (rest := []) (n := 4) E ((w_way (xl C) E.tr (xD C) (xy C) e0 (hI.obj (kd := 5) (by decide) hI.c5).1 (hI.obj (kd := 5) (by decide) hI.c5).2 (m_X5_way (xl C) E.tr (xD C) (xy C) e0 hI h.1.1 h.b.2.2.2.1 h.ln.lns h.wv) (fun v S' hP => by rcases hP with ⟨_, _, _, _, _, _, ⟨_, _, _, _, _, hv⟩⟩ <;> exact ⟨_, hv⟩) (fun _ _ h => h.1)).frameRN (mW (xy C) ma s)) gL_law_L_way rfl rfl rfl (by decide +kernel) ⟨Nat.le_of_ble_eq_true rfl, Nat.le_of_ble_eq_true rfl⟩ rfl rfl (Nat.le_of_ble_eq_true rfl) dL_law_382 ⟨by exact Nat.le_trans (Nat.add_le_add_left (Nat.le_of_ble_eq_true rfl) _) hmc, by exact Nat.le_trans (Nat.add_le_add_left (Nat.le_of_ble_eq_true rfl) _) hms⟩ (fun v w h9 => ?_)
  obtain ⟨w1, rfl, h9⟩ := h9
  rcases h9 with ⟨S', vv, x, rfl, rfl, hP, hcv⟩ | ⟨S', X, k, rfl, rfl, hXP, hec⟩
  · obtain ⟨c', ad', i', j', p', r', hI', hA', hn⟩ := nx_way hI h hP
    show G C ((cW (xy C) S' ++ [oE (xy C) ob (vp_updL o 0 x)]) ++ mW (xy C) ma s) (mc + 2) (ms + 12) 385 [(4, .int (nI q)), (3, .ref ob), (2, .ref (ma 0)), (1, .ref (ad 5 0)), (0, .ref b)] [.int 0]
    refine g_istore (L' := [(5, .int 0), (4, .int (nI q)), (3, .ref ob), (2, .ref (ma 0)), (1, .ref (ad 5 0)), (0, .ref b)]) E dL_law_385 (by decide) rfl ?_
    refine g_aload_n E dL_law_387 rfl 3 rfl ?_
    refine g_aload_n E dL_law_388 rfl 5 rfl ?_
    refine g_iload E dL_law_389 1 rfl ?_
    refine g_iconst (v := nI 1) E dL_law_391 (by decide) ?_
    refine g_iadd E dL_law_392 ?_
    refine g_sld E hX hbl hbA hL (q + 1) (nI_add q 1) (by omega) dL_law_393 ?_
    refine g_aload_n E dL_law_394 rfl 5 rfl ?_
    refine g_iload E dL_law_395 1 rfl ?_
    refine g_iconst (v := nI 2) E dL_law_397 (by decide) ?_
    refine g_iadd E dL_law_398 ?_
    refine g_sld E hX hbl hbA hL (q + 2) (nI_add q 2) (by omega) dL_law_399 ?_
    refine g_invV (rm' := rm_X6_way) (mc' := 0) (ms' := 0) (As := [.int (xv (q + 1)), .int (xv (q + 2))]) (rest := []) (n := 2) E (gMet.frameL (m_X6_way (xl C) E.tr (xD C) (xy C) e0 h.1.2.2.2.2.2.1 h.b.2.1 h.1.2.1 h.b.2.2.2.1 h.ln.mln) (cW (xy C) S' ++ [oE (xy C) ob (vp_updL o 0 x)])) gL_law_X6_way rfl rfl rfl (by decide +kernel) ⟨Nat.le_of_ble_eq_true rfl, Nat.le_of_ble_eq_true rfl⟩ _ 7 rfl rfl (app_r (k := 0) rfl) rfl rfl (Nat.le_of_ble_eq_true rfl) dL_law_400 ⟨Nat.le_trans (show mc + 2 + 0 ≤ mc + 10 from Nat.add_le_add_left (Nat.le_of_ble_eq_true rfl) mc) hmc, Nat.le_trans (show ms + 12 + 0 ≤ ms + 4000 from Nat.add_le_add_left (Nat.le_of_ble_eq_true rfl) ms) hms⟩ (fun X9 w h9 => by obtain ⟨_, _, h9⟩ := h9; exact h9.elim) (fun v w h9 => ?_)
    obtain ⟨w1, rfl, s', rfl, hQ⟩ := h9
    obtain ⟨z, rfl⟩ := sh_way hQ
    obtain ⟨h0, hv, hR⟩ := hn _ _ hQ
    show G C ((cW (xy C) S' ++ [oE (xy C) ob (vp_updL o 0 x)]) ++ mW (xy C) ma s') (mc + 2) (ms + 12) 403 [(5, .int 0), (4, .int (nI q)), (3, .ref ob), (2, .ref (ma 0)), (1, .ref (ad 5 0)), (0, .ref b)] [.int z]
    refine g_istore (L' := [(6, .int z), (5, .int 0), (4, .int (nI q)), (3, .ref ob), (2, .ref (ma 0)), (1, .ref (ad 5 0)), (0, .ref b)]) E dL_law_403 (by decide) rfl ?_
    refine g_aload_n E dL_law_405 rfl 4 rfl ?_
    refine g_invV (rm' := rm_X6_thrown) (mc' := 0) (ms' := 0) (As := []) (rest := []) (n := 0) E (gMet.frameL (m_X6_thrown (xl C) E.tr (xD C) (xy C) e0 (ma := ma) (s := s')) (cW (xy C) S' ++ [oE (xy C) ob (vp_updL o 0 x)])) gL_law_X6_thrown rfl rfl rfl (by decide +kernel) ⟨Nat.le_of_ble_eq_true rfl, Nat.le_of_ble_eq_true rfl⟩ _ 7 rfl rfl (app_r (k := 0) rfl) rfl rfl (Nat.le_of_ble_eq_true rfl) dL_law_406 ⟨Nat.le_trans (show mc + 2 + 0 ≤ mc + 10 from Nat.add_le_add_left (Nat.le_of_ble_eq_true rfl) mc) hmc, Nat.le_trans (show ms + 12 + 0 ≤ ms + 4000 from Nat.add_le_add_left (Nat.le_of_ble_eq_true rfl) ms) hms⟩ (fun X9 w h9 => by obtain ⟨_, _, h9⟩ := h9; exact h9.elim) (fun v w h9 => ?_)
    obtain ⟨w1, rfl, s9, rfl, rfl, rfl⟩ := h9
    show G C ((cW (xy C) S' ++ [oE (xy C) ob (vp_updL o 0 x)]) ++ mW (xy C) ma s9) (mc + 2) (ms + 12) 409 [(6, .int z), (5, .int 0), (4, .int (nI q)), (3, .ref ob), (2, .ref (ma 0)), (1, .ref (ad 5 0)), (0, .ref b)] [.int (mi s9 0)]
    refine g_iload E dL_law_409 1 rfl ?_
    refine g_icmp_eq (tgt := 416) E dL_law_411 (by decide) (fun _ => ?_) (fun hz => absurd h0 hz)
    refine g_iload E dL_law_416 1 rfl ?_
    refine g_if_ne (tgt := 433) E dL_law_418 (by decide) (fun hz => absurd rfl hz) (fun _ => ?_)
    refine g_aload_n E dL_law_421 rfl 3 rfl ?_
    refine g_iconst (v := 0) E dL_law_422 (by decide) ?_
    refine g_outld E dL_law_423 ?_
    show G C ((cW (xy C) S' ++ [oE (xy C) ob (vp_updL o 0 x)]) ++ mW (xy C) ma s9) (mc + 2) (ms + 12) 424 [(6, .int z), (5, .int 0), (4, .int (nI q)), (3, .ref ob), (2, .ref (ma 0)), (1, .ref (ad 5 0)), (0, .ref b)] [.long x]
    refine g_iload E dL_law_424 0 rfl ?_
    refine g_i2l E dL_law_426 ?_
    have hxz : x = z.toInt64 := by obtain ⟨z0, h4, h6⟩ := hcv; have h5 := hv.trans h4; injection h5 with h5; injection h5 with h5; rw [h6, h5]
    refine g_lcmp E dL_law_427 ?_
    refine g_if_eq (tgt := 433) E dL_law_428 (by decide) (fun _ => ?_) (fun hz => absurd ((lg_cmp_eq _ _).mpr hxz) hz)
    refine g_goto (tgt := 1647) E dL_law_433 (by decide) ?_
    refine g_widen (mc' := mc + 10) (ms' := ms + 4000) (Nat.add_le_add_left (Nat.le_of_ble_eq_true rfl) _) (Nat.add_le_add_left (Nat.le_of_ble_eq_true rfl) _) ?_
    refine g_locals [(4, .int (nI q)), (3, .ref ob), (2, .ref (ma 0)), (1, .ref (ad 5 0)), (0, .ref b)] [2, 3, 4, 5, 6] rfl ?_
    exact kk _ ⟨S', _, _, c', ad', i', j', p', r', rfl, hI', hA', hR⟩
  · obtain ⟨hk0, c', ad', i', j', p', r', hI', hA', hn⟩ := xx_way hI h hXP hec
    show G C ((cW (xy C) S' ++ [oE (xy C) ob o]) ++ mW (xy C) ma s) (mc + 2) (ms + 12) 385 [(4, .int (nI q)), (3, .ref ob), (2, .ref (ma 0)), (1, .ref (ad 5 0)), (0, .ref b)] [.int k]
    refine g_istore (L' := [(5, .int k), (4, .int (nI q)), (3, .ref ob), (2, .ref (ma 0)), (1, .ref (ad 5 0)), (0, .ref b)]) E dL_law_385 (by decide) rfl ?_
    refine g_aload_n E dL_law_387 rfl 3 rfl ?_
    refine g_aload_n E dL_law_388 rfl 5 rfl ?_
    refine g_iload E dL_law_389 1 rfl ?_
    refine g_iconst (v := nI 1) E dL_law_391 (by decide) ?_
    refine g_iadd E dL_law_392 ?_
    refine g_sld E hX hbl hbA hL (q + 1) (nI_add q 1) (by omega) dL_law_393 ?_
    refine g_aload_n E dL_law_394 rfl 5 rfl ?_
    refine g_iload E dL_law_395 1 rfl ?_
    refine g_iconst (v := nI 2) E dL_law_397 (by decide) ?_
    refine g_iadd E dL_law_398 ?_
    refine g_sld E hX hbl hbA hL (q + 2) (nI_add q 2) (by omega) dL_law_399 ?_
    refine g_invV (rm' := rm_X6_way) (mc' := 0) (ms' := 0) (As := [.int (xv (q + 1)), .int (xv (q + 2))]) (rest := []) (n := 2) E (gMet.frameL (m_X6_way (xl C) E.tr (xD C) (xy C) e0 h.1.2.2.2.2.2.1 h.b.2.1 h.1.2.1 h.b.2.2.2.1 h.ln.mln) (cW (xy C) S' ++ [oE (xy C) ob o])) gL_law_X6_way rfl rfl rfl (by decide +kernel) ⟨Nat.le_of_ble_eq_true rfl, Nat.le_of_ble_eq_true rfl⟩ _ 7 rfl rfl (app_r (k := 0) rfl) rfl rfl (Nat.le_of_ble_eq_true rfl) dL_law_400 ⟨Nat.le_trans (show mc + 2 + 0 ≤ mc + 10 from Nat.add_le_add_left (Nat.le_of_ble_eq_true rfl) mc) hmc, Nat.le_trans (show ms + 12 + 0 ≤ ms + 4000 from Nat.add_le_add_left (Nat.le_of_ble_eq_true rfl) ms) hms⟩ (fun X9 w h9 => by obtain ⟨_, _, h9⟩ := h9; exact h9.elim) (fun v w h9 => ?_)
    obtain ⟨w1, rfl, s', rfl, hQ⟩ := h9
    obtain ⟨z, rfl⟩ := sh_way hQ
    obtain ⟨h0, hR⟩ := hn _ _ hQ
    show G C ((cW (xy C) S' ++ [oE (xy C) ob o]) ++ mW (xy C) ma s') (mc + 2) (ms + 12) 403 [(5, .int k), (4, .int (nI q)), (3, .ref ob), (2, .ref (ma 0)), (1, .ref (ad 5 0)), (0, .ref b)] [.int z]
    refine g_istore (L' := [(6, .int z), (5, .int k), (4, .int (nI q)), (3, .ref ob), (2, .ref (ma 0)), (1, .ref (ad 5 0)), (0, .ref b)]) E dL_law_403 (by decide) rfl ?_
    refine g_aload_n E dL_law_405 rfl 4 rfl ?_
    refine g_invV (rm' := rm_X6_thrown) (mc' := 0) (ms' := 0) (As := []) (rest := []) (n := 0) E (gMet.frameL (m_X6_thrown (xl C) E.tr (xD C) (xy C) e0 (ma := ma) (s := s')) (cW (xy C) S' ++ [oE (xy C) ob o])) gL_law_X6_thrown rfl rfl rfl (by decide +kernel) ⟨Nat.le_of_ble_eq_true rfl, Nat.le_of_ble_eq_true rfl⟩ _ 7 rfl rfl (app_r (k := 0) rfl) rfl rfl (Nat.le_of_ble_eq_true rfl) dL_law_406 ⟨Nat.le_trans (show mc + 2 + 0 ≤ mc + 10 from Nat.add_le_add_left (Nat.le_of_ble_eq_true rfl) mc) hmc, Nat.le_trans (show ms + 12 + 0 ≤ ms + 4000 from Nat.add_le_add_left (Nat.le_of_ble_eq_true rfl) ms) hms⟩ (fun X9 w h9 => by obtain ⟨_, _, h9⟩ := h9; exact h9.elim) (fun v w h9 => ?_)
    obtain ⟨w1, rfl, s9, rfl, rfl, rfl⟩ := h9
    show G C ((cW (xy C) S' ++ [oE (xy C) ob o]) ++ mW (xy C) ma s9) (mc + 2) (ms + 12) 409 [(6, .int z), (5, .int k), (4, .int (nI q)), (3, .ref ob), (2, .ref (ma 0)), (1, .ref (ad 5 0)), (0, .ref b)] [.int (mi s9 0)]
    refine g_iload E dL_law_409 1 rfl ?_
    refine g_icmp_eq (tgt := 416) E dL_law_411 (by decide) (fun _ => ?_) (fun hz => absurd h0 hz)
    refine g_iload E dL_law_416 1 rfl ?_
    refine g_if_ne (tgt := 433) E dL_law_418 (by decide) (fun _ => ?_) (fun hz => absurd hz hk0)
    refine g_goto (tgt := 1647) E dL_law_433 (by decide) ?_
    refine g_widen (mc' := mc + 10) (ms' := ms + 4000) (Nat.add_le_add_left (Nat.le_of_ble_eq_true rfl) _) (Nat.add_le_add_left (Nat.le_of_ble_eq_true rfl) _) ?_
    refine g_locals [(4, .int (nI q)), (3, .ref ob), (2, .ref (ma 0)), (1, .ref (ad 5 0)), (0, .ref b)] [2, 3, 4, 5, 6] rfl ?_
    exact kk _ ⟨S', _, _, c', ad', i', j', p', r', rfl, hI', hA', hR⟩
set_option maxHeartbeats 4000000 in
set_option maxRecDepth 100000 in
theorem cs_isClosed (E : gOk C cL_law 8 wsL_law RL e0 room_1) (hX : va_X b Ln xv (xs C) (xs C).heap) (hbl : b < (xs C).heap.size) (hbA : ¬ xA C b) (hL : Ln ≤ 3584) (hq : q + 7 ≤ Ln) (hW : LV C e0 a ob ma W) (hmc : mc + 10 ≤ 601024) (hms : ms + 4000 ≤ 7293034) (kk : ∀ W', LV C e0 a ob ma W' → G C W' (mc + 10) (ms + 4000) 1647 [(4, .int (nI q)), (3, .ref ob), (2, .ref (ma 0)), (1, .ref a), (0, .ref b)] []) : G C W mc ms 436 [(4, .int (nI q)), (3, .ref ob), (2, .ref (ma 0)), (1, .ref a), (0, .ref b)] [] := by
  obtain ⟨S, o, s, c, ad, i, j, p, r, rfl, hI, hA, M, N, h⟩ := hW
  subst hA
  refine g_aload_n E dL_law_436 rfl 3 rfl ?_
  refine g_aload_n E dL_law_437 rfl 4 rfl ?_
  refine g_iload E dL_law_438 0 rfl ?_
  refine g_iconst (v := nI 1) E dL_law_440 (by decide) ?_
  refine g_iadd E dL_law_441 ?_
  refine g_sld E hX hbl hbA hL (q + 1) (nI_add q 1) (by omega) dL_law_442 ?_
  refine g_aload_n E dL_law_443 rfl 1 rfl ?_
  refine g_invSW (rm' := rm_L_isClosed) (mc' := 1) (ms' := 6) (As := [.ref (ad 5 0), .int (xv (q + 1)), .ref ob]) (rest := []) (n := 3) E ((w_isClosed (xl C) E.tr (xD C) (xy C) e0 (hI.obj (kd := 5) (by decide) hI.c5).1 (hI.obj (kd := 5) (by decide) hI.c5).2 (m_X5_isClosed (xl C) E.tr (xD C) (xy C) e0 hI h.1.1 h.b.2.2.2.1) (fun v S' hP => by rcases hP with ⟨_, ⟨_, _, _, hv⟩⟩ <;> exact ⟨_, hv⟩) (fun _ _ h => h.1)).frameRN (mW (xy C) ma s)) gL_law_L_isClosed rfl rfl rfl (by decide +kernel) ⟨Nat.le_of_ble_eq_true rfl, Nat.le_of_ble_eq_true rfl⟩ rfl rfl (Nat.le_of_ble_eq_true rfl) dL_law_444 ⟨by exact Nat.le_trans (Nat.add_le_add_left (Nat.le_of_ble_eq_true rfl) _) hmc, by exact Nat.le_trans (Nat.add_le_add_left (Nat.le_of_ble_eq_true rfl) _) hms⟩ (fun v w h9 => ?_)
  obtain ⟨w1, rfl, h9⟩ := h9
  rcases h9 with ⟨S', vv, x, rfl, rfl, hP, hcv⟩ | ⟨S', X, k, rfl, rfl, hXP, hec⟩
  · obtain ⟨c', ad', i', j', p', r', hI', hA', hn⟩ := nx_isClosed hI h hP
    show G C ((cW (xy C) S' ++ [oE (xy C) ob (vp_updL o 0 x)]) ++ mW (xy C) ma s) (mc + 1) (ms + 6) 447 [(4, .int (nI q)), (3, .ref ob), (2, .ref (ma 0)), (1, .ref (ad 5 0)), (0, .ref b)] [.int 0]
    refine g_istore (L' := [(5, .int 0), (4, .int (nI q)), (3, .ref ob), (2, .ref (ma 0)), (1, .ref (ad 5 0)), (0, .ref b)]) E dL_law_447 (by decide) rfl ?_
    refine g_aload_n E dL_law_449 rfl 3 rfl ?_
    refine g_aload_n E dL_law_450 rfl 5 rfl ?_
    refine g_iload E dL_law_451 1 rfl ?_
    refine g_iconst (v := nI 1) E dL_law_453 (by decide) ?_
    refine g_iadd E dL_law_454 ?_
    refine g_sld E hX hbl hbA hL (q + 1) (nI_add q 1) (by omega) dL_law_455 ?_
    refine g_invV (rm' := rm_X6_isClosed) (mc' := 0) (ms' := 0) (As := [.int (xv (q + 1))]) (rest := []) (n := 1) E (gMet.frameL (m_X6_isClosed (xl C) E.tr (xD C) (xy C) e0 h.1.2.2.2.2.2.1 h.b.2.1 h.1.2.1 h.b.2.2.2.1) (cW (xy C) S' ++ [oE (xy C) ob (vp_updL o 0 x)])) gL_law_X6_isClosed rfl rfl rfl (by decide +kernel) ⟨Nat.le_of_ble_eq_true rfl, Nat.le_of_ble_eq_true rfl⟩ _ 7 rfl rfl (app_r (k := 0) rfl) rfl rfl (Nat.le_of_ble_eq_true rfl) dL_law_456 ⟨Nat.le_trans (show mc + 1 + 0 ≤ mc + 10 from Nat.add_le_add_left (Nat.le_of_ble_eq_true rfl) mc) hmc, Nat.le_trans (show ms + 6 + 0 ≤ ms + 4000 from Nat.add_le_add_left (Nat.le_of_ble_eq_true rfl) ms) hms⟩ (fun X9 w h9 => by obtain ⟨_, _, h9⟩ := h9; exact h9.elim) (fun v w h9 => ?_)
    obtain ⟨w1, rfl, s', rfl, hQ⟩ := h9
    obtain ⟨z, rfl⟩ := sh_isClosed hQ
    obtain ⟨h0, hv, hR⟩ := hn _ _ hQ
    show G C ((cW (xy C) S' ++ [oE (xy C) ob (vp_updL o 0 x)]) ++ mW (xy C) ma s') (mc + 1) (ms + 6) 459 [(5, .int 0), (4, .int (nI q)), (3, .ref ob), (2, .ref (ma 0)), (1, .ref (ad 5 0)), (0, .ref b)] [.int z]
    refine g_istore (L' := [(6, .int z), (5, .int 0), (4, .int (nI q)), (3, .ref ob), (2, .ref (ma 0)), (1, .ref (ad 5 0)), (0, .ref b)]) E dL_law_459 (by decide) rfl ?_
    refine g_aload_n E dL_law_461 rfl 4 rfl ?_
    refine g_invV (rm' := rm_X6_thrown) (mc' := 0) (ms' := 0) (As := []) (rest := []) (n := 0) E (gMet.frameL (m_X6_thrown (xl C) E.tr (xD C) (xy C) e0 (ma := ma) (s := s')) (cW (xy C) S' ++ [oE (xy C) ob (vp_updL o 0 x)])) gL_law_X6_thrown rfl rfl rfl (by decide +kernel) ⟨Nat.le_of_ble_eq_true rfl, Nat.le_of_ble_eq_true rfl⟩ _ 7 rfl rfl (app_r (k := 0) rfl) rfl rfl (Nat.le_of_ble_eq_true rfl) dL_law_462 ⟨Nat.le_trans (show mc + 1 + 0 ≤ mc + 10 from Nat.add_le_add_left (Nat.le_of_ble_eq_true rfl) mc) hmc, Nat.le_trans (show ms + 6 + 0 ≤ ms + 4000 from Nat.add_le_add_left (Nat.le_of_ble_eq_true rfl) ms) hms⟩ (fun X9 w h9 => by obtain ⟨_, _, h9⟩ := h9; exact h9.elim) (fun v w h9 => ?_)
    obtain ⟨w1, rfl, s9, rfl, rfl, rfl⟩ := h9
    show G C ((cW (xy C) S' ++ [oE (xy C) ob (vp_updL o 0 x)]) ++ mW (xy C) ma s9) (mc + 1) (ms + 6) 465 [(6, .int z), (5, .int 0), (4, .int (nI q)), (3, .ref ob), (2, .ref (ma 0)), (1, .ref (ad 5 0)), (0, .ref b)] [.int (mi s9 0)]
    refine g_iload E dL_law_465 1 rfl ?_
    refine g_icmp_eq (tgt := 472) E dL_law_467 (by decide) (fun _ => ?_) (fun hz => absurd h0 hz)
    refine g_iload E dL_law_472 1 rfl ?_
    refine g_if_ne (tgt := 496) E dL_law_474 (by decide) (fun hz => absurd rfl hz) (fun _ => ?_)
    refine g_aload_n E dL_law_477 rfl 3 rfl ?_
    refine g_iconst (v := 0) E dL_law_478 (by decide) ?_
    refine g_outld E dL_law_479 ?_
    show G C ((cW (xy C) S' ++ [oE (xy C) ob (vp_updL o 0 x)]) ++ mW (xy C) ma s9) (mc + 1) (ms + 6) 480 [(6, .int z), (5, .int 0), (4, .int (nI q)), (3, .ref ob), (2, .ref (ma 0)), (1, .ref (ad 5 0)), (0, .ref b)] [.long x]
    refine g_iload E dL_law_480 0 rfl ?_
    have hxz : x = if z = 0 then 0 else 1 := by obtain ⟨z0, h4, h6⟩ := hcv; have h5 := hv.trans h4; injection h5 with h5; injection h5 with h5; rw [h6, h5]
    have key490 : G C ((cW (xy C) S' ++ [oE (xy C) ob (vp_updL o 0 x)]) ++ mW (xy C) ma s9) (mc + 1) (ms + 6) 490 [(6, .int z), (5, .int 0), (4, .int (nI q)), (3, .ref ob), (2, .ref (ma 0)), (1, .ref (ad 5 0)), (0, .ref b)] [.long x, .long x] := by
      refine g_lcmp E dL_law_490 ?_
      refine g_if_eq (tgt := 496) E dL_law_491 (by decide) (fun _ => ?_) (fun hz => absurd ((lg_cmp_eq _ _).mpr rfl) hz)
      refine g_goto (tgt := 1647) E dL_law_496 (by decide) ?_
      refine g_widen (mc' := mc + 10) (ms' := ms + 4000) (Nat.add_le_add_left (Nat.le_of_ble_eq_true rfl) _) (Nat.add_le_add_left (Nat.le_of_ble_eq_true rfl) _) ?_
      refine g_locals [(4, .int (nI q)), (3, .ref ob), (2, .ref (ma 0)), (1, .ref (ad 5 0)), (0, .ref b)] [2, 3, 4, 5, 6] rfl ?_
      exact kk _ ⟨S', _, _, c', ad', i', j', p', r', rfl, hI', hA', hR⟩
    refine g_if_eq (tgt := 489) E dL_law_482 (by decide) (fun hz => ?_) (fun hz => ?_)
    · refine g_lconst (v := x) E dL_law_489 (by rw [hxz, if_pos hz]; decide) ?_
      exact key490
    · refine g_lconst (v := x) E dL_law_485 (by rw [hxz, if_neg hz]; decide) ?_
      refine g_goto (tgt := 490) E dL_law_486 (by decide) ?_
      exact key490
  · obtain ⟨hk0, c', ad', i', j', p', r', hI', hA', hn⟩ := xx_isClosed hI h hXP hec
    show G C ((cW (xy C) S' ++ [oE (xy C) ob o]) ++ mW (xy C) ma s) (mc + 1) (ms + 6) 447 [(4, .int (nI q)), (3, .ref ob), (2, .ref (ma 0)), (1, .ref (ad 5 0)), (0, .ref b)] [.int k]
    refine g_istore (L' := [(5, .int k), (4, .int (nI q)), (3, .ref ob), (2, .ref (ma 0)), (1, .ref (ad 5 0)), (0, .ref b)]) E dL_law_447 (by decide) rfl ?_
    refine g_aload_n E dL_law_449 rfl 3 rfl ?_
    refine g_aload_n E dL_law_450 rfl 5 rfl ?_
    refine g_iload E dL_law_451 1 rfl ?_
    refine g_iconst (v := nI 1) E dL_law_453 (by decide) ?_
    refine g_iadd E dL_law_454 ?_
    refine g_sld E hX hbl hbA hL (q + 1) (nI_add q 1) (by omega) dL_law_455 ?_
    refine g_invV (rm' := rm_X6_isClosed) (mc' := 0) (ms' := 0) (As := [.int (xv (q + 1))]) (rest := []) (n := 1) E (gMet.frameL (m_X6_isClosed (xl C) E.tr (xD C) (xy C) e0 h.1.2.2.2.2.2.1 h.b.2.1 h.1.2.1 h.b.2.2.2.1) (cW (xy C) S' ++ [oE (xy C) ob o])) gL_law_X6_isClosed rfl rfl rfl (by decide +kernel) ⟨Nat.le_of_ble_eq_true rfl, Nat.le_of_ble_eq_true rfl⟩ _ 7 rfl rfl (app_r (k := 0) rfl) rfl rfl (Nat.le_of_ble_eq_true rfl) dL_law_456 ⟨Nat.le_trans (show mc + 1 + 0 ≤ mc + 10 from Nat.add_le_add_left (Nat.le_of_ble_eq_true rfl) mc) hmc, Nat.le_trans (show ms + 6 + 0 ≤ ms + 4000 from Nat.add_le_add_left (Nat.le_of_ble_eq_true rfl) ms) hms⟩ (fun X9 w h9 => by obtain ⟨_, _, h9⟩ := h9; exact h9.elim) (fun v w h9 => ?_)
    obtain ⟨w1, rfl, s', rfl, hQ⟩ := h9
    obtain ⟨z, rfl⟩ := sh_isClosed hQ
    obtain ⟨h0, hR⟩ := hn _ _ hQ
    show G C ((cW (xy C) S' ++ [oE (xy C) ob o]) ++ mW (xy C) ma s') (mc + 1) (ms + 6) 459 [(5, .int k), (4, .int (nI q)), (3, .ref ob), (2, .ref (ma 0)), (1, .ref (ad 5 0)), (0, .ref b)] [.int z]
    refine g_istore (L' := [(6, .int z), (5, .int k), (4, .int (nI q)), (3, .ref ob), (2, .ref (ma 0)), (1, .ref (ad 5 0)), (0, .ref b)]) E dL_law_459 (by decide) rfl ?_
    refine g_aload_n E dL_law_461 rfl 4 rfl ?_
    refine g_invV (rm' := rm_X6_thrown) (mc' := 0) (ms' := 0) (As := []) (rest := []) (n := 0) E (gMet.frameL (m_X6_thrown (xl C) E.tr (xD C) (xy C) e0 (ma := ma) (s := s')) (cW (xy C) S' ++ [oE (xy C) ob o])) gL_law_X6_thrown rfl rfl rfl (by decide +kernel) ⟨Nat.le_of_ble_eq_true rfl, Nat.le_of_ble_eq_true rfl⟩ _ 7 rfl rfl (app_r (k := 0) rfl) rfl rfl (Nat.le_of_ble_eq_true rfl) dL_law_462 ⟨Nat.le_trans (show mc + 1 + 0 ≤ mc + 10 from Nat.add_le_add_left (Nat.le_of_ble_eq_true rfl) mc) hmc, Nat.le_trans (show ms + 6 + 0 ≤ ms + 4000 from Nat.add_le_add_left (Nat.le_of_ble_eq_true rfl) ms) hms⟩ (fun X9 w h9 => by obtain ⟨_, _, h9⟩ := h9; exact h9.elim) (fun v w h9 => ?_)
    obtain ⟨w1, rfl, s9, rfl, rfl, rfl⟩ := h9
    show G C ((cW (xy C) S' ++ [oE (xy C) ob o]) ++ mW (xy C) ma s9) (mc + 1) (ms + 6) 465 [(6, .int z), (5, .int k), (4, .int (nI q)), (3, .ref ob), (2, .ref (ma 0)), (1, .ref (ad 5 0)), (0, .ref b)] [.int (mi s9 0)]
    refine g_iload E dL_law_465 1 rfl ?_
    refine g_icmp_eq (tgt := 472) E dL_law_467 (by decide) (fun _ => ?_) (fun hz => absurd h0 hz)
    refine g_iload E dL_law_472 1 rfl ?_
    refine g_if_ne (tgt := 496) E dL_law_474 (by decide) (fun _ => ?_) (fun hz => absurd hz hk0)
    refine g_goto (tgt := 1647) E dL_law_496 (by decide) ?_
    refine g_widen (mc' := mc + 10) (ms' := ms + 4000) (Nat.add_le_add_left (Nat.le_of_ble_eq_true rfl) _) (Nat.add_le_add_left (Nat.le_of_ble_eq_true rfl) _) ?_
    refine g_locals [(4, .int (nI q)), (3, .ref ob), (2, .ref (ma 0)), (1, .ref (ad 5 0)), (0, .ref b)] [2, 3, 4, 5, 6] rfl ?_
    exact kk _ ⟨S', _, _, c', ad', i', j', p', r', rfl, hI', hA', hR⟩
set_option maxHeartbeats 4000000 in
set_option maxRecDepth 100000 in
theorem cs_detour (E : gOk C cL_law 8 wsL_law RL e0 room_1) (hX : va_X b Ln xv (xs C) (xs C).heap) (hbl : b < (xs C).heap.size) (hbA : ¬ xA C b) (hL : Ln ≤ 3584) (hq : q + 7 ≤ Ln) (hW : LV C e0 a ob ma W) (hmc : mc + 10 ≤ 601024) (hms : ms + 4000 ≤ 7293034) (kk : ∀ W', LV C e0 a ob ma W' → G C W' (mc + 10) (ms + 4000) 1647 [(4, .int (nI q)), (3, .ref ob), (2, .ref (ma 0)), (1, .ref a), (0, .ref b)] []) : G C W mc ms 499 [(4, .int (nI q)), (3, .ref ob), (2, .ref (ma 0)), (1, .ref a), (0, .ref b)] [] := by
  obtain ⟨S, o, s, c, ad, i, j, p, r, rfl, hI, hA, M, N, h⟩ := hW
  subst hA
  refine g_aload_n E dL_law_499 rfl 3 rfl ?_
  refine g_aload_n E dL_law_500 rfl 4 rfl ?_
  refine g_iload E dL_law_501 0 rfl ?_
  refine g_iconst (v := nI 1) E dL_law_503 (by decide) ?_
  refine g_iadd E dL_law_504 ?_
  refine g_sld E hX hbl hbA hL (q + 1) (nI_add q 1) (by omega) dL_law_505 ?_
  refine g_aload_n E dL_law_506 rfl 1 rfl ?_
  refine g_invSW (rm' := rm_L_detour) (mc' := 1) (ms' := 6) (As := [.ref (ad 5 0), .int (xv (q + 1)), .ref ob]) (rest := []) (n := 3) E ((w_detour (xl C) E.tr (xD C) (xy C) e0 (hI.obj (kd := 5) (by decide) hI.c5).1 (hI.obj (kd := 5) (by decide) hI.c5).2 (m_X5_detour (xl C) E.tr (xD C) (xy C) e0 hI h.1.1 h.b.2.2.2.1 h.ln.lns h.wv h.li.li) (fun v S' hP => by rcases hP with ⟨_, _, _, ⟨_, _, _, _, _, hv⟩⟩ <;> exact ⟨_, hv⟩) (fun _ _ h => h.1)).frameRN (mW (xy C) ma s)) gL_law_L_detour rfl rfl rfl (by decide +kernel) ⟨Nat.le_of_ble_eq_true rfl, Nat.le_of_ble_eq_true rfl⟩ rfl rfl (Nat.le_of_ble_eq_true rfl) dL_law_507 ⟨by exact Nat.le_trans (Nat.add_le_add_left (Nat.le_of_ble_eq_true rfl) _) hmc, by exact Nat.le_trans (Nat.add_le_add_left (Nat.le_of_ble_eq_true rfl) _) hms⟩ (fun v w h9 => ?_)
  obtain ⟨w1, rfl, h9⟩ := h9
  rcases h9 with ⟨S', vv, x, rfl, rfl, hP, hcv⟩ | ⟨S', X, k, rfl, rfl, hXP, hec⟩
  · obtain ⟨c', ad', i', j', p', r', hI', hA', hn⟩ := nx_detour hI h hP
    show G C ((cW (xy C) S' ++ [oE (xy C) ob (vp_updL o 0 x)]) ++ mW (xy C) ma s) (mc + 1) (ms + 6) 510 [(4, .int (nI q)), (3, .ref ob), (2, .ref (ma 0)), (1, .ref (ad 5 0)), (0, .ref b)] [.int 0]
    refine g_istore (L' := [(5, .int 0), (4, .int (nI q)), (3, .ref ob), (2, .ref (ma 0)), (1, .ref (ad 5 0)), (0, .ref b)]) E dL_law_510 (by decide) rfl ?_
    refine g_aload_n E dL_law_512 rfl 3 rfl ?_
    refine g_aload_n E dL_law_513 rfl 5 rfl ?_
    refine g_iload E dL_law_514 1 rfl ?_
    refine g_iconst (v := nI 1) E dL_law_516 (by decide) ?_
    refine g_iadd E dL_law_517 ?_
    refine g_sld E hX hbl hbA hL (q + 1) (nI_add q 1) (by omega) dL_law_518 ?_
    refine g_invV (rm' := rm_X6_detour) (mc' := 0) (ms' := 0) (As := [.int (xv (q + 1))]) (rest := []) (n := 1) E (gMet.frameL (m_X6_detour (xl C) E.tr (xD C) (xy C) e0 h.1.2.2.2.2.2.1 h.b.2.1 h.1.2.1 h.b.2.2.2.1 h.ln.mln h.1.2.2.2.1 h.b.1 h.li.mli) (cW (xy C) S' ++ [oE (xy C) ob (vp_updL o 0 x)])) gL_law_X6_detour rfl rfl rfl (by decide +kernel) ⟨Nat.le_of_ble_eq_true rfl, Nat.le_of_ble_eq_true rfl⟩ _ 7 rfl rfl (app_r (k := 0) rfl) rfl rfl (Nat.le_of_ble_eq_true rfl) dL_law_519 ⟨Nat.le_trans (show mc + 1 + 0 ≤ mc + 10 from Nat.add_le_add_left (Nat.le_of_ble_eq_true rfl) mc) hmc, Nat.le_trans (show ms + 6 + 0 ≤ ms + 4000 from Nat.add_le_add_left (Nat.le_of_ble_eq_true rfl) ms) hms⟩ (fun X9 w h9 => by obtain ⟨_, _, h9⟩ := h9; exact h9.elim) (fun v w h9 => ?_)
    obtain ⟨w1, rfl, s', rfl, hQ⟩ := h9
    obtain ⟨z, rfl⟩ := sh_detour hQ
    obtain ⟨h0, hv, hR⟩ := hn _ _ hQ
    show G C ((cW (xy C) S' ++ [oE (xy C) ob (vp_updL o 0 x)]) ++ mW (xy C) ma s') (mc + 1) (ms + 6) 522 [(5, .int 0), (4, .int (nI q)), (3, .ref ob), (2, .ref (ma 0)), (1, .ref (ad 5 0)), (0, .ref b)] [.int z]
    refine g_istore (L' := [(6, .int z), (5, .int 0), (4, .int (nI q)), (3, .ref ob), (2, .ref (ma 0)), (1, .ref (ad 5 0)), (0, .ref b)]) E dL_law_522 (by decide) rfl ?_
    refine g_aload_n E dL_law_524 rfl 4 rfl ?_
    refine g_invV (rm' := rm_X6_thrown) (mc' := 0) (ms' := 0) (As := []) (rest := []) (n := 0) E (gMet.frameL (m_X6_thrown (xl C) E.tr (xD C) (xy C) e0 (ma := ma) (s := s')) (cW (xy C) S' ++ [oE (xy C) ob (vp_updL o 0 x)])) gL_law_X6_thrown rfl rfl rfl (by decide +kernel) ⟨Nat.le_of_ble_eq_true rfl, Nat.le_of_ble_eq_true rfl⟩ _ 7 rfl rfl (app_r (k := 0) rfl) rfl rfl (Nat.le_of_ble_eq_true rfl) dL_law_525 ⟨Nat.le_trans (show mc + 1 + 0 ≤ mc + 10 from Nat.add_le_add_left (Nat.le_of_ble_eq_true rfl) mc) hmc, Nat.le_trans (show ms + 6 + 0 ≤ ms + 4000 from Nat.add_le_add_left (Nat.le_of_ble_eq_true rfl) ms) hms⟩ (fun X9 w h9 => by obtain ⟨_, _, h9⟩ := h9; exact h9.elim) (fun v w h9 => ?_)
    obtain ⟨w1, rfl, s9, rfl, rfl, rfl⟩ := h9
    show G C ((cW (xy C) S' ++ [oE (xy C) ob (vp_updL o 0 x)]) ++ mW (xy C) ma s9) (mc + 1) (ms + 6) 528 [(6, .int z), (5, .int 0), (4, .int (nI q)), (3, .ref ob), (2, .ref (ma 0)), (1, .ref (ad 5 0)), (0, .ref b)] [.int (mi s9 0)]
    refine g_iload E dL_law_528 1 rfl ?_
    refine g_icmp_eq (tgt := 535) E dL_law_530 (by decide) (fun _ => ?_) (fun hz => absurd h0 hz)
    refine g_iload E dL_law_535 1 rfl ?_
    refine g_if_ne (tgt := 552) E dL_law_537 (by decide) (fun hz => absurd rfl hz) (fun _ => ?_)
    refine g_aload_n E dL_law_540 rfl 3 rfl ?_
    refine g_iconst (v := 0) E dL_law_541 (by decide) ?_
    refine g_outld E dL_law_542 ?_
    show G C ((cW (xy C) S' ++ [oE (xy C) ob (vp_updL o 0 x)]) ++ mW (xy C) ma s9) (mc + 1) (ms + 6) 543 [(6, .int z), (5, .int 0), (4, .int (nI q)), (3, .ref ob), (2, .ref (ma 0)), (1, .ref (ad 5 0)), (0, .ref b)] [.long x]
    refine g_iload E dL_law_543 0 rfl ?_
    refine g_i2l E dL_law_545 ?_
    have hxz : x = z.toInt64 := by obtain ⟨z0, h4, h6⟩ := hcv; have h5 := hv.trans h4; injection h5 with h5; injection h5 with h5; rw [h6, h5]
    refine g_lcmp E dL_law_546 ?_
    refine g_if_eq (tgt := 552) E dL_law_547 (by decide) (fun _ => ?_) (fun hz => absurd ((lg_cmp_eq _ _).mpr hxz) hz)
    refine g_goto (tgt := 1647) E dL_law_552 (by decide) ?_
    refine g_widen (mc' := mc + 10) (ms' := ms + 4000) (Nat.add_le_add_left (Nat.le_of_ble_eq_true rfl) _) (Nat.add_le_add_left (Nat.le_of_ble_eq_true rfl) _) ?_
    refine g_locals [(4, .int (nI q)), (3, .ref ob), (2, .ref (ma 0)), (1, .ref (ad 5 0)), (0, .ref b)] [2, 3, 4, 5, 6] rfl ?_
    exact kk _ ⟨S', _, _, c', ad', i', j', p', r', rfl, hI', hA', hR⟩
  · obtain ⟨hk0, c', ad', i', j', p', r', hI', hA', hn⟩ := xx_detour hI h hXP hec
    show G C ((cW (xy C) S' ++ [oE (xy C) ob o]) ++ mW (xy C) ma s) (mc + 1) (ms + 6) 510 [(4, .int (nI q)), (3, .ref ob), (2, .ref (ma 0)), (1, .ref (ad 5 0)), (0, .ref b)] [.int k]
    refine g_istore (L' := [(5, .int k), (4, .int (nI q)), (3, .ref ob), (2, .ref (ma 0)), (1, .ref (ad 5 0)), (0, .ref b)]) E dL_law_510 (by decide) rfl ?_
    refine g_aload_n E dL_law_512 rfl 3 rfl ?_
    refine g_aload_n E dL_law_513 rfl 5 rfl ?_
    refine g_iload E dL_law_514 1 rfl ?_
    refine g_iconst (v := nI 1) E dL_law_516 (by decide) ?_
    refine g_iadd E dL_law_517 ?_
    refine g_sld E hX hbl hbA hL (q + 1) (nI_add q 1) (by omega) dL_law_518 ?_
    refine g_invV (rm' := rm_X6_detour) (mc' := 0) (ms' := 0) (As := [.int (xv (q + 1))]) (rest := []) (n := 1) E (gMet.frameL (m_X6_detour (xl C) E.tr (xD C) (xy C) e0 h.1.2.2.2.2.2.1 h.b.2.1 h.1.2.1 h.b.2.2.2.1 h.ln.mln h.1.2.2.2.1 h.b.1 h.li.mli) (cW (xy C) S' ++ [oE (xy C) ob o])) gL_law_X6_detour rfl rfl rfl (by decide +kernel) ⟨Nat.le_of_ble_eq_true rfl, Nat.le_of_ble_eq_true rfl⟩ _ 7 rfl rfl (app_r (k := 0) rfl) rfl rfl (Nat.le_of_ble_eq_true rfl) dL_law_519 ⟨Nat.le_trans (show mc + 1 + 0 ≤ mc + 10 from Nat.add_le_add_left (Nat.le_of_ble_eq_true rfl) mc) hmc, Nat.le_trans (show ms + 6 + 0 ≤ ms + 4000 from Nat.add_le_add_left (Nat.le_of_ble_eq_true rfl) ms) hms⟩ (fun X9 w h9 => by obtain ⟨_, _, h9⟩ := h9; exact h9.elim) (fun v w h9 => ?_)
    obtain ⟨w1, rfl, s', rfl, hQ⟩ := h9
    obtain ⟨z, rfl⟩ := sh_detour hQ
    obtain ⟨h0, hR⟩ := hn _ _ hQ
    show G C ((cW (xy C) S' ++ [oE (xy C) ob o]) ++ mW (xy C) ma s') (mc + 1) (ms + 6) 522 [(5, .int k), (4, .int (nI q)), (3, .ref ob), (2, .ref (ma 0)), (1, .ref (ad 5 0)), (0, .ref b)] [.int z]
    refine g_istore (L' := [(6, .int z), (5, .int k), (4, .int (nI q)), (3, .ref ob), (2, .ref (ma 0)), (1, .ref (ad 5 0)), (0, .ref b)]) E dL_law_522 (by decide) rfl ?_
    refine g_aload_n E dL_law_524 rfl 4 rfl ?_
    refine g_invV (rm' := rm_X6_thrown) (mc' := 0) (ms' := 0) (As := []) (rest := []) (n := 0) E (gMet.frameL (m_X6_thrown (xl C) E.tr (xD C) (xy C) e0 (ma := ma) (s := s')) (cW (xy C) S' ++ [oE (xy C) ob o])) gL_law_X6_thrown rfl rfl rfl (by decide +kernel) ⟨Nat.le_of_ble_eq_true rfl, Nat.le_of_ble_eq_true rfl⟩ _ 7 rfl rfl (app_r (k := 0) rfl) rfl rfl (Nat.le_of_ble_eq_true rfl) dL_law_525 ⟨Nat.le_trans (show mc + 1 + 0 ≤ mc + 10 from Nat.add_le_add_left (Nat.le_of_ble_eq_true rfl) mc) hmc, Nat.le_trans (show ms + 6 + 0 ≤ ms + 4000 from Nat.add_le_add_left (Nat.le_of_ble_eq_true rfl) ms) hms⟩ (fun X9 w h9 => by obtain ⟨_, _, h9⟩ := h9; exact h9.elim) (fun v w h9 => ?_)
    obtain ⟨w1, rfl, s9, rfl, rfl, rfl⟩ := h9
    show G C ((cW (xy C) S' ++ [oE (xy C) ob o]) ++ mW (xy C) ma s9) (mc + 1) (ms + 6) 528 [(6, .int z), (5, .int k), (4, .int (nI q)), (3, .ref ob), (2, .ref (ma 0)), (1, .ref (ad 5 0)), (0, .ref b)] [.int (mi s9 0)]
    refine g_iload E dL_law_528 1 rfl ?_
    refine g_icmp_eq (tgt := 535) E dL_law_530 (by decide) (fun _ => ?_) (fun hz => absurd h0 hz)
    refine g_iload E dL_law_535 1 rfl ?_
    refine g_if_ne (tgt := 552) E dL_law_537 (by decide) (fun _ => ?_) (fun hz => absurd hz hk0)
    refine g_goto (tgt := 1647) E dL_law_552 (by decide) ?_
    refine g_widen (mc' := mc + 10) (ms' := ms + 4000) (Nat.add_le_add_left (Nat.le_of_ble_eq_true rfl) _) (Nat.add_le_add_left (Nat.le_of_ble_eq_true rfl) _) ?_
    refine g_locals [(4, .int (nI q)), (3, .ref ob), (2, .ref (ma 0)), (1, .ref (ad 5 0)), (0, .ref b)] [2, 3, 4, 5, 6] rfl ?_
    exact kk _ ⟨S', _, _, c', ad', i', j', p', r', rfl, hI', hA', hR⟩
end CS
