section CS
variable {C : gT} {e0 a ob b Ln q mc ms : Nat} {ma : Nat → Nat} {xv : Nat → Int32} {W : va_W}
set_option maxHeartbeats 4000000 in
set_option maxRecDepth 100000 in
theorem cs_lane (E : gOk C cL_law 8 wsL_law RL e0 room_1) (hX : va_X b Ln xv (xs C) (xs C).heap) (hbl : b < (xs C).heap.size) (hbA : ¬ xA C b) (hL : Ln ≤ 3584) (hq : q + 7 ≤ Ln) (hW : LV C e0 a ob ma W) (hmc : mc + 10 ≤ 601024) (hms : ms + 4000 ≤ 7293034) (kk : ∀ W', LV C e0 a ob ma W' → G C W' (mc + 10) (ms + 4000) 1647 [(4, .int (nI q)), (3, .ref ob), (2, .ref (ma 0)), (1, .ref a), (0, .ref b)] []) : G C W mc ms 152 [(4, .int (nI q)), (3, .ref ob), (2, .ref (ma 0)), (1, .ref a), (0, .ref b)] [] := by
  obtain ⟨S, o, s, c, ad, i, j, p, r, rfl, hI, hA, M, N, h⟩ := hW
  subst hA
  refine g_aload_n E dL_law_152 rfl 3 rfl ?_
  refine g_aload_n E dL_law_153 rfl 4 rfl ?_
  refine g_iload E dL_law_154 0 rfl ?_
  refine g_iconst (v := nI 1) E dL_law_156 (by decide) ?_
  refine g_iadd E dL_law_157 ?_
  refine g_sld E hX hbl hbA hL (q + 1) (nI_add q 1) (by omega) dL_law_158 ?_
  refine g_aload_n E dL_law_159 rfl 4 rfl ?_
  refine g_iload E dL_law_160 0 rfl ?_
  refine g_iconst (v := nI 2) E dL_law_162 (by decide) ?_
  refine g_iadd E dL_law_163 ?_
  refine g_sld E hX hbl hbA hL (q + 2) (nI_add q 2) (by omega) dL_law_164 ?_
  refine g_aload_n E dL_law_165 rfl 4 rfl ?_
  refine g_iload E dL_law_166 0 rfl ?_
  refine g_iconst (v := nI 3) E dL_law_168 (by decide) ?_
  refine g_iadd E dL_law_169 ?_
  refine g_sld E hX hbl hbA hL (q + 3) (nI_add q 3) (by omega) dL_law_170 ?_
  refine g_aload_n E dL_law_171 rfl 1 rfl ?_
  refine g_invSW (As := [.ref (ad 5 0), .int (xv (q + 1)), .int (xv (q + 2)), .int (xv (q + 3)), .ref ob]) (rest := []) (n := 5) E ((w_lane (xl C) E.tr (xD C) (xy C) e0 (hI.obj (kd := 5) (by decide) hI.c5).1 (hI.obj (kd := 5) (by decide) hI.c5).2 (m_X5_lane (xl C) E.tr (xD C) (xy C) e0 hI h.1.1 h.b.2.2.2.1) (fun v S' hP => by rcases hP with ⟨_, _, _, _, _, _, _, _, hv, _⟩ <;> exact ⟨_, hv⟩) (fun _ _ h => h.elim (fun h => Or.inl h.1) (fun h => h.elim (fun h => Or.inr (Or.inl h.1)) (fun h => Or.inr (Or.inr h.1))))).frameR (mW (xy C) ma s)) gL_law_L_lane rfl rfl rfl (by decide +kernel) ⟨Nat.le_of_ble_eq_true rfl, Nat.le_of_ble_eq_true rfl⟩ rfl rfl (Nat.le_of_ble_eq_true rfl) dL_law_172 ⟨by exact Nat.le_trans (Nat.add_le_add_left (Nat.le_of_ble_eq_true rfl) _) hmc, by exact Nat.le_trans (Nat.add_le_add_left (Nat.le_of_ble_eq_true rfl) _) hms⟩ (fun v w h9 => ?_)
  obtain ⟨w1, rfl, h9⟩ := h9
  rcases h9 with ⟨S', vv, x, rfl, rfl, hP, hcv⟩ | ⟨S', X, k, rfl, rfl, hXP, hec⟩
  · obtain ⟨c', ad', i', j', p', r', hI', hA', hn⟩ := nx_lane hI h hP
    show G C ((cW (xy C) S' ++ [oE (xy C) ob (vp_updL o 0 x)]) ++ mW (xy C) ma s) (mc + 4) (ms + 24) 175 [(4, .int (nI q)), (3, .ref ob), (2, .ref (ma 0)), (1, .ref (ad 5 0)), (0, .ref b)] [.int 0]
    refine g_istore (L' := [(5, .int 0), (4, .int (nI q)), (3, .ref ob), (2, .ref (ma 0)), (1, .ref (ad 5 0)), (0, .ref b)]) E dL_law_175 (by decide) rfl ?_
    refine g_aload_n E dL_law_177 rfl 3 rfl ?_
    refine g_aload_n E dL_law_178 rfl 5 rfl ?_
    refine g_iload E dL_law_179 1 rfl ?_
    refine g_iconst (v := nI 1) E dL_law_181 (by decide) ?_
    refine g_iadd E dL_law_182 ?_
    refine g_sld E hX hbl hbA hL (q + 1) (nI_add q 1) (by omega) dL_law_183 ?_
    refine g_aload_n E dL_law_184 rfl 5 rfl ?_
    refine g_iload E dL_law_185 1 rfl ?_
    refine g_iconst (v := nI 2) E dL_law_187 (by decide) ?_
    refine g_iadd E dL_law_188 ?_
    refine g_sld E hX hbl hbA hL (q + 2) (nI_add q 2) (by omega) dL_law_189 ?_
    refine g_aload_n E dL_law_190 rfl 5 rfl ?_
    refine g_iload E dL_law_191 1 rfl ?_
    refine g_iconst (v := nI 3) E dL_law_193 (by decide) ?_
    refine g_iadd E dL_law_194 ?_
    refine g_sld E hX hbl hbA hL (q + 3) (nI_add q 3) (by omega) dL_law_195 ?_
    refine g_invV (As := [.int (xv (q + 1)), .int (xv (q + 2)), .int (xv (q + 3))]) (rest := []) (n := 3) E (gMet.frameL (m_X6_lane (xl C) E.tr (xD C) (xy C) e0 h.1.2.1 h.b.2.2.2.1) (cW (xy C) S' ++ [oE (xy C) ob (vp_updL o 0 x)])) gL_law_X6_lane rfl rfl rfl (by decide +kernel) ⟨Nat.le_of_ble_eq_true rfl, Nat.le_of_ble_eq_true rfl⟩ _ 7 rfl rfl (app_r (k := 0) rfl) rfl rfl (Nat.le_of_ble_eq_true rfl) dL_law_196 ⟨by exact Nat.le_trans (Nat.add_le_add_left (Nat.le_of_ble_eq_true rfl) _) hmc, by exact Nat.le_trans (Nat.add_le_add_left (Nat.le_of_ble_eq_true rfl) _) hms⟩ (fun X9 w h9 => by obtain ⟨_, _, h9⟩ := h9; exact h9.elim) (fun v w h9 => ?_)
    obtain ⟨w1, rfl, s', rfl, hQ⟩ := h9
    obtain ⟨z, rfl⟩ := sh_lane hQ
    obtain ⟨h0, hv, hR⟩ := hn _ _ hQ
    show G C ((cW (xy C) S' ++ [oE (xy C) ob (vp_updL o 0 x)]) ++ mW (xy C) ma s') (mc + 4) (ms + 24) 199 [(5, .int 0), (4, .int (nI q)), (3, .ref ob), (2, .ref (ma 0)), (1, .ref (ad 5 0)), (0, .ref b)] [.int z]
    refine g_istore (L' := [(6, .int z), (5, .int 0), (4, .int (nI q)), (3, .ref ob), (2, .ref (ma 0)), (1, .ref (ad 5 0)), (0, .ref b)]) E dL_law_199 (by decide) rfl ?_
    refine g_aload_n E dL_law_201 rfl 4 rfl ?_
    refine g_invV (As := []) (rest := []) (n := 0) E (gMet.frameL (m_X6_thrown (xl C) E.tr (xD C) (xy C) e0 (ma := ma) (s := s')) (cW (xy C) S' ++ [oE (xy C) ob (vp_updL o 0 x)])) gL_law_X6_thrown rfl rfl rfl (by decide +kernel) ⟨Nat.le_of_ble_eq_true rfl, Nat.le_of_ble_eq_true rfl⟩ _ 7 rfl rfl (app_r (k := 0) rfl) rfl rfl (Nat.le_of_ble_eq_true rfl) dL_law_202 ⟨by exact Nat.le_trans (Nat.add_le_add_left (Nat.le_of_ble_eq_true rfl) _) hmc, by exact Nat.le_trans (Nat.add_le_add_left (Nat.le_of_ble_eq_true rfl) _) hms⟩ (fun X9 w h9 => by obtain ⟨_, _, h9⟩ := h9; exact h9.elim) (fun v w h9 => ?_)
    obtain ⟨w1, rfl, s9, rfl, rfl, rfl⟩ := h9
    show G C ((cW (xy C) S' ++ [oE (xy C) ob (vp_updL o 0 x)]) ++ mW (xy C) ma s9) (mc + 4) (ms + 24) 205 [(6, .int z), (5, .int 0), (4, .int (nI q)), (3, .ref ob), (2, .ref (ma 0)), (1, .ref (ad 5 0)), (0, .ref b)] [.int (mi s9 0)]
    refine g_iload E dL_law_205 1 rfl ?_
    refine g_icmp_eq (tgt := 212) E dL_law_207 (by decide) (fun _ => ?_) (fun hz => absurd h0 hz)
    refine g_iload E dL_law_212 1 rfl ?_
    refine g_if_ne (tgt := 229) E dL_law_214 (by decide) (fun hz => absurd rfl hz) (fun _ => ?_)
    refine g_aload_n E dL_law_217 rfl 3 rfl ?_
    refine g_iconst (v := 0) E dL_law_218 (by decide) ?_
    refine g_outld E dL_law_219 ?_
    show G C ((cW (xy C) S' ++ [oE (xy C) ob (vp_updL o 0 x)]) ++ mW (xy C) ma s9) (mc + 4) (ms + 24) 220 [(6, .int z), (5, .int 0), (4, .int (nI q)), (3, .ref ob), (2, .ref (ma 0)), (1, .ref (ad 5 0)), (0, .ref b)] [.long x]
    refine g_iload E dL_law_220 0 rfl ?_
    refine g_i2l E dL_law_222 ?_
    have hxz : x = z.toInt64 := by obtain ⟨z0, h4, h6⟩ := hcv; have h5 := hv.trans h4; injection h5 with h5; injection h5 with h5; rw [h6, h5]
    refine g_lcmp E dL_law_223 ?_
    refine g_if_eq (tgt := 229) E dL_law_224 (by decide) (fun _ => ?_) (fun hz => absurd ((lg_cmp_eq _ _).mpr hxz) hz)
    refine g_goto (tgt := 1647) E dL_law_229 (by decide) ?_
    refine g_widen (mc' := mc + 10) (ms' := ms + 4000) (Nat.add_le_add_left (Nat.le_of_ble_eq_true rfl) _) (Nat.add_le_add_left (Nat.le_of_ble_eq_true rfl) _) ?_
    refine g_locals [(4, .int (nI q)), (3, .ref ob), (2, .ref (ma 0)), (1, .ref (ad 5 0)), (0, .ref b)] [2, 3, 4, 5, 6] rfl ?_
    exact kk _ ⟨S', _, _, c', ad', i', j', p', r', rfl, hI', hA', hR⟩
  · obtain ⟨hk0, c', ad', i', j', p', r', hI', hA', hn⟩ := xx_lane hI h hXP hec
    show G C ((cW (xy C) S' ++ [oE (xy C) ob o]) ++ mW (xy C) ma s) (mc + 4) (ms + 24) 175 [(4, .int (nI q)), (3, .ref ob), (2, .ref (ma 0)), (1, .ref (ad 5 0)), (0, .ref b)] [.int k]
    refine g_istore (L' := [(5, .int k), (4, .int (nI q)), (3, .ref ob), (2, .ref (ma 0)), (1, .ref (ad 5 0)), (0, .ref b)]) E dL_law_175 (by decide) rfl ?_
    refine g_aload_n E dL_law_177 rfl 3 rfl ?_
    refine g_aload_n E dL_law_178 rfl 5 rfl ?_
    refine g_iload E dL_law_179 1 rfl ?_
    refine g_iconst (v := nI 1) E dL_law_181 (by decide) ?_
    refine g_iadd E dL_law_182 ?_
    refine g_sld E hX hbl hbA hL (q + 1) (nI_add q 1) (by omega) dL_law_183 ?_
    refine g_aload_n E dL_law_184 rfl 5 rfl ?_
    refine g_iload E dL_law_185 1 rfl ?_
    refine g_iconst (v := nI 2) E dL_law_187 (by decide) ?_
    refine g_iadd E dL_law_188 ?_
    refine g_sld E hX hbl hbA hL (q + 2) (nI_add q 2) (by omega) dL_law_189 ?_
    refine g_aload_n E dL_law_190 rfl 5 rfl ?_
    refine g_iload E dL_law_191 1 rfl ?_
    refine g_iconst (v := nI 3) E dL_law_193 (by decide) ?_
    refine g_iadd E dL_law_194 ?_
    refine g_sld E hX hbl hbA hL (q + 3) (nI_add q 3) (by omega) dL_law_195 ?_
    refine g_invV (As := [.int (xv (q + 1)), .int (xv (q + 2)), .int (xv (q + 3))]) (rest := []) (n := 3) E (gMet.frameL (m_X6_lane (xl C) E.tr (xD C) (xy C) e0 h.1.2.1 h.b.2.2.2.1) (cW (xy C) S' ++ [oE (xy C) ob o])) gL_law_X6_lane rfl rfl rfl (by decide +kernel) ⟨Nat.le_of_ble_eq_true rfl, Nat.le_of_ble_eq_true rfl⟩ _ 7 rfl rfl (app_r (k := 0) rfl) rfl rfl (Nat.le_of_ble_eq_true rfl) dL_law_196 ⟨by exact Nat.le_trans (Nat.add_le_add_left (Nat.le_of_ble_eq_true rfl) _) hmc, by exact Nat.le_trans (Nat.add_le_add_left (Nat.le_of_ble_eq_true rfl) _) hms⟩ (fun X9 w h9 => by obtain ⟨_, _, h9⟩ := h9; exact h9.elim) (fun v w h9 => ?_)
    obtain ⟨w1, rfl, s', rfl, hQ⟩ := h9
    obtain ⟨z, rfl⟩ := sh_lane hQ
    obtain ⟨h0, hR⟩ := hn _ _ hQ
    show G C ((cW (xy C) S' ++ [oE (xy C) ob o]) ++ mW (xy C) ma s') (mc + 4) (ms + 24) 199 [(5, .int k), (4, .int (nI q)), (3, .ref ob), (2, .ref (ma 0)), (1, .ref (ad 5 0)), (0, .ref b)] [.int z]
    refine g_istore (L' := [(6, .int z), (5, .int k), (4, .int (nI q)), (3, .ref ob), (2, .ref (ma 0)), (1, .ref (ad 5 0)), (0, .ref b)]) E dL_law_199 (by decide) rfl ?_
    refine g_aload_n E dL_law_201 rfl 4 rfl ?_
    refine g_invV (As := []) (rest := []) (n := 0) E (gMet.frameL (m_X6_thrown (xl C) E.tr (xD C) (xy C) e0 (ma := ma) (s := s')) (cW (xy C) S' ++ [oE (xy C) ob o])) gL_law_X6_thrown rfl rfl rfl (by decide +kernel) ⟨Nat.le_of_ble_eq_true rfl, Nat.le_of_ble_eq_true rfl⟩ _ 7 rfl rfl (app_r (k := 0) rfl) rfl rfl (Nat.le_of_ble_eq_true rfl) dL_law_202 ⟨by exact Nat.le_trans (Nat.add_le_add_left (Nat.le_of_ble_eq_true rfl) _) hmc, by exact Nat.le_trans (Nat.add_le_add_left (Nat.le_of_ble_eq_true rfl) _) hms⟩ (fun X9 w h9 => by obtain ⟨_, _, h9⟩ := h9; exact h9.elim) (fun v w h9 => ?_)
    obtain ⟨w1, rfl, s9, rfl, rfl, rfl⟩ := h9
    show G C ((cW (xy C) S' ++ [oE (xy C) ob o]) ++ mW (xy C) ma s9) (mc + 4) (ms + 24) 205 [(6, .int z), (5, .int k), (4, .int (nI q)), (3, .ref ob), (2, .ref (ma 0)), (1, .ref (ad 5 0)), (0, .ref b)] [.int (mi s9 0)]
    refine g_iload E dL_law_205 1 rfl ?_
    refine g_icmp_eq (tgt := 212) E dL_law_207 (by decide) (fun _ => ?_) (fun hz => absurd h0 hz)
    refine g_iload E dL_law_212 1 rfl ?_
    refine g_if_ne (tgt := 229) E dL_law_214 (by decide) (fun _ => ?_) (fun hz => absurd hz hk0)
    refine g_goto (tgt := 1647) E dL_law_229 (by decide) ?_
    refine g_widen (mc' := mc + 10) (ms' := ms + 4000) (Nat.add_le_add_left (Nat.le_of_ble_eq_true rfl) _) (Nat.add_le_add_left (Nat.le_of_ble_eq_true rfl) _) ?_
    refine g_locals [(4, .int (nI q)), (3, .ref ob), (2, .ref (ma 0)), (1, .ref (ad 5 0)), (0, .ref b)] [2, 3, 4, 5, 6] rfl ?_
    exact kk _ ⟨S', _, _, c', ad', i', j', p', r', rfl, hI', hA', hR⟩
end CS
