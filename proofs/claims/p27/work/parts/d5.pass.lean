/-! the law: hours pass -/
section LZ
variable {C : gT} {e0 a b : Nat} {aa : Nat → Nat} {av : Nat → Nat → Int32} {c : Nat → Nat} {i : Nat → Nat → Int32} {j : Nat → Nat → Int64} {p : Nat → Nat → Option Nat} {r : Nat → Nat → Int32} {N : Nat} {W : va_W} {mc ms Y D pN ln t T : Nat}
theorem mul3 (x y z w : Int64) : w + z * y * x = w + x * y * z := by
  rw [Int64.mul_comm z y, Int64.mul_assoc, Int64.mul_comm z x, ← Int64.mul_assoc, Int64.mul_comm y x]
set_option maxHeartbeats 4000000 in
set_option maxRecDepth 100000 in
theorem z_pass2 (E : gOk C cL_law 27 wsL_law RL e0 room_1) (hW : LW (xy C) e0 a aa av c i j p r 14 W) (hK : KN c i j p r 14 N) (hA : LA c i p r av) (h4 : c 0 = 4) (hln : ln < 4) (hY : Y < 2 ^ 28) (hmc : mc + 1000 ≤ 646545) (hms : ms + 8000 ≤ 7162134) (hN : N ≤ 4000) (hpN : pN < c 2 ∨ (c 2 = 0 ∧ pN = 0)) {H d o m0 s0 : Nat} {F : Int64} (hH1 : 1 ≤ H) (hH : H ≤ 20) (hd : exL i r (clM (fun k => i 11 k) (fun k => i 7 k) none (c 2)) 14 ln = nI d) (hd9 : d ≤ 6000006) (ho : (o = 1 ∧ i 11 pN = 2) ∨ (o = 0 ∧ (c 2 = 0 ∨ (pN < c 2 ∧ ¬ i 11 pN = 2 ∧ F = 2 * j 2 pN)))) (hm0 : m0 ≤ mc + 10) (hs0 : s0 ≤ ms + 100) (kk : ∀ (av : Nat → Nat → Int32) (c : Nat → Nat) (i : Nat → Nat → Int32) (j : Nat → Nat → Int64) (p : Nat → Nat → Option Nat) (r : Nat → Nat → Int32) (N' : Nat) (W : va_W), LW (xy C) e0 a aa av c i j p r 14 W → KN c i j p r 14 N' → LA c i p r av → c 0 = 4 → N' ≤ N + 20 → (pN < c 2 ∨ c 2 = 0) → G C W (mc + 150) (ms + 3000) 1435 [(12, .int (nI 1)), (19, .int (nI ln)), (18, .int (nI pN)), (16, .int (nI Y)), (14, .int (nI t)), (13, .int (nI T)), (11, .int (nI (c 2))), (10, .int (nI 4)), (0, .ref b), (1, .ref a), (2, .ref (aa 0)), (3, .ref (aa 1)), (4, .ref (aa 2)), (5, .ref (aa 3)), (6, .ref (aa 4)), (7, .ref (aa 5)), (8, .ref (aa 6)), (9, .ref (aa 7))] []) : G C W m0 s0 1230 [(24, .long F), (22, .long (j 0 ln)), (21, .int (nI d)), (20, .int (nI H)), (19, .int (nI ln)), (18, .int (nI pN)), (17, .int (nI D)), (16, .int (nI Y)), (14, .int (nI t)), (13, .int (nI T)), (12, .int (nI 1)), (11, .int (nI (c 2))), (10, .int (nI 4)), (0, .ref b), (1, .ref a), (2, .ref (aa 0)), (3, .ref (aa 1)), (4, .ref (aa 2)), (5, .ref (aa 3)), (6, .ref (aa 4)), (7, .ref (aa 5)), (8, .ref (aa 6)), (9, .ref (aa 7))] [.int (nI o)] := by
  have hb := hK.b
  refine g_istore (L' := [(26, .int (nI o)), (24, .long F), (22, .long (j 0 ln)), (21, .int (nI d)), (20, .int (nI H)), (19, .int (nI ln)), (18, .int (nI pN)), (17, .int (nI D)), (16, .int (nI Y)), (14, .int (nI t)), (13, .int (nI T)), (12, .int (nI 1)), (11, .int (nI (c 2))), (10, .int (nI 4)), (0, .ref b), (1, .ref a), (2, .ref (aa 0)), (3, .ref (aa 1)), (4, .ref (aa 2)), (5, .ref (aa 3)), (6, .ref (aa 4)), (7, .ref (aa 5)), (8, .ref (aa 6)), (9, .ref (aa 7))]) E dL_law_1230 (by decide) rfl ?_
  refine g_aload_n E dL_law_1232 rfl 15 rfl ?_
  refine g_iconst (v := nI 4) E dL_law_1233 (by decide) ?_
  refine g_iload E dL_law_1234 4 rfl ?_
  refine g_iconst (v := nI 0) E dL_law_1236 (by decide) ?_
  refine k_on_pass E hW hK (H := H) hH1 (by omega) (by omega) gL_law_L_on ⟨Nat.le_of_ble_eq_true rfl, Nat.le_of_ble_eq_true rfl⟩ (Nat.le_of_ble_eq_true rfl) dL_law_1237 ⟨by show _ ≤ 646545; omega, by show _ ≤ 7162134; omega⟩ (fun i2 j2 R W hK2 hi2 hr2 hj0 hj2 hW => ?_)
  have eo : ∀ f, f < 15 → i2 f = i f := fun f hf => hi2 f (by omega) (by omega) (by omega)
  have ed : exL i2 R (clM (fun k => i2 11 k) (fun k => i2 7 k) none (c 2)) 14 ln = nI d := by
    rw [eo 11 (by decide), eo 7 (by decide), exL_same (eo 0 (by decide)) (hr2 0 (by decide) (by omega)) (hr2 1 (by decide) (by omega)) (hr2 2 (by decide) (by omega)) (hr2 (24 + ln) (by omega) (by omega))]
    exact hd
  have hA2 : LA c i2 p R av := by
    refine ⟨fun e he => ?_, fun l hl => ?_, fun k hk => ?_⟩
    · rw [hr2 0 (by decide) (by omega), hr2 1 (by decide) (by omega), hr2 2 (by decide) (by omega)]; exact hA.1 e he
    · rw [eo 1 (by decide)]; exact hA.2.1 l hl
    · rw [eo 7 (by decide), eo 10 (by decide), eo 6 (by decide)]; exact hA.2.2 k hk
  have emin : j2 0 ln = j 0 ln + (nI d).toInt64 * (av 3 ln).toInt64 * (nI H).toInt64 := by
    rw [hj0 ln (by omega), hd, hA.2.1 ln (by omega), nI_l (n := H) (by omega)]
    exact mul3 _ _ _ _
  have j1310 : ∀ W, LW (xy C) e0 a aa av c i2 j2 p R 14 W → ∀ m s, m ≤ mc + 20 → s ≤ ms + 200 → G C W m s 1310 [(26, .int (nI o)), (24, .long F), (22, .long (j 0 ln)), (21, .int (nI d)), (20, .int (nI H)), (19, .int (nI ln)), (18, .int (nI pN)), (17, .int (nI D)), (16, .int (nI Y)), (14, .int (nI t)), (13, .int (nI T)), (12, .int (nI 1)), (11, .int (nI (c 2))), (10, .int (nI 4)), (0, .ref b), (1, .ref a), (2, .ref (aa 0)), (3, .ref (aa 1)), (4, .ref (aa 2)), (5, .ref (aa 3)), (6, .ref (aa 4)), (7, .ref (aa 5)), (8, .ref (aa 6)), (9, .ref (aa 7))] [] := by
    intro W hW m s hm hs
    refine g_iconst (v := nI 1) E dL_law_1310 (by decide) ?_
    refine g_goto (tgt := 1315) E dL_law_1311 (by decide) ?_
    refine g_istore (L' := [(12, .int (nI 1)), (26, .int (nI o)), (24, .long F), (22, .long (j 0 ln)), (21, .int (nI d)), (20, .int (nI H)), (19, .int (nI ln)), (18, .int (nI pN)), (17, .int (nI D)), (16, .int (nI Y)), (14, .int (nI t)), (13, .int (nI T)), (11, .int (nI (c 2))), (10, .int (nI 4)), (0, .ref b), (1, .ref a), (2, .ref (aa 0)), (3, .ref (aa 1)), (4, .ref (aa 2)), (5, .ref (aa 3)), (6, .ref (aa 4)), (7, .ref (aa 5)), (8, .ref (aa 6)), (9, .ref (aa 7))]) E dL_law_1315 (by decide) rfl ?_
    refine g_goto (tgt := 1435) E dL_law_1317 (by decide) ?_
    refine g_locals [(12, .int (nI 1)), (19, .int (nI ln)), (18, .int (nI pN)), (16, .int (nI Y)), (14, .int (nI t)), (13, .int (nI T)), (11, .int (nI (c 2))), (10, .int (nI 4)), (0, .ref b), (1, .ref a), (2, .ref (aa 0)), (3, .ref (aa 1)), (4, .ref (aa 2)), (5, .ref (aa 3)), (6, .ref (aa 4)), (7, .ref (aa 5)), (8, .ref (aa 6)), (9, .ref (aa 7))] [0, 6, 7, 9, 10, 11, 12, 13, 14, 15, 16, 17, 18, 19, 20, 21, 22, 23] rfl ?_
    exact g_widen (by omega) (by omega) (kk av c i2 j2 p R (N + H) W hW hK2 hA2 h4 (by omega) (hpN.elim Or.inl (fun z => Or.inr z.1)))
  refine g_lconst (v := 0) E dL_law_1240 (by decide) ?_
  refine g_lcmp E dL_law_1241 ?_
  refine g_if_le (tgt := 1314) E dL_law_1242 (by decide) (fun z => absurd ((lg_cmp_le _ _).mp z) (by rw [show (0 : Int64) = lN 0 from rfl, lN_le (by omega) (by decide)]; omega)) (fun c_1242 => ?_)
  refine g_aload_n E dL_law_1245 rfl 15 rfl ?_
  refine g_iload E dL_law_1246 5 rfl ?_
  refine k_detour E hW hK2 (k := ln) (by omega) gL_law_X5_detour ⟨Nat.le_of_ble_eq_true rfl, Nat.le_of_ble_eq_true rfl⟩ (Nat.le_of_ble_eq_true rfl) dL_law_1248 ⟨by show _ ≤ 646545; omega, by show _ ≤ 7162134; omega⟩ (fun W hW => ?_)
  rw [ed]
  refine g_iload E dL_law_1251 3 rfl ?_
  refine n_icmp_ne (tgt := 1314) E (by omega) (by omega) dL_law_1253 (by decide) (fun z => absurd rfl z) (fun c_1253 => ?_)
  refine g_aload_n E dL_law_1256 rfl 15 rfl ?_
  refine g_iload E dL_law_1257 5 rfl ?_
  refine k_minutes E hW hK2 (k := ln) (by omega) gL_law_X5_minutes ⟨Nat.le_of_ble_eq_true rfl, Nat.le_of_ble_eq_true rfl⟩ (Nat.le_of_ble_eq_true rfl) dL_law_1259 ⟨by show _ ≤ 646545; omega, by show _ ≤ 7162134; omega⟩ (fun W hW => ?_)
  refine g_lload E dL_law_1262 2 rfl ?_
  refine g_iload E dL_law_1264 3 rfl ?_
  refine g_i2l E dL_law_1266 ?_
  refine g_aload E dL_law_1267 19 rfl ?_
  refine g_iload E dL_law_1269 5 rfl ?_
  refine l_ald E hW 3 ln (by decide) (by show _ < 6; omega) dL_law_1271 ?_
  refine g_i2l E dL_law_1272 ?_
  refine g_lmul E dL_law_1273 ?_
  refine g_iload E dL_law_1274 4 rfl ?_
  refine g_i2l E dL_law_1276 ?_
  refine g_lmul E dL_law_1277 ?_
  refine g_ladd E dL_law_1278 ?_
  refine g_lcmp E dL_law_1279 ?_
  refine g_if_ne (tgt := 1314) E dL_law_1280 (by decide) (fun z => absurd ((lg_cmp_eq _ _).mpr emin) z) (fun c_1280 => ?_)
  refine g_iload E dL_law_1283 3 rfl ?_
  refine g_if_lt (tgt := 1314) E dL_law_1285 (by decide) (fun z => absurd z (nI_pos (by omega))) (fun c_1285 => ?_)
  refine g_iload E dL_law_1288 12 rfl ?_
  rcases ho with ⟨ho, ho2⟩ | ⟨ho, ho2⟩
  · have hp : pN < c 2 ∨ c 2 = 0 := hpN.elim Or.inl (fun z => Or.inr z.1)
    by_cases h0 : c 2 = 0
    · refine g_if_eq (tgt := 1310) E dL_law_1290 (by decide) (fun c_1290 => ?_) (fun z => absurd (by rw [h0]; rfl) z)
      exact j1310 W hW _ _ (by omega) (by omega)
    · refine g_if_eq (tgt := 1310) E dL_law_1290 (by decide) (fun z => absurd z (nI_ne0 (by omega) (by omega))) (fun c_1290 => ?_)
      refine g_iload E dL_law_1293 0 rfl ?_
      refine g_if_ne (tgt := 1310) E dL_law_1295 (by decide) (fun c_1295 => ?_) (fun z => absurd z (by rw [ho]; decide))
      exact j1310 W hW _ _ (by omega) (by omega)
  · rcases ho2 with h0 | ⟨hp, h2, hF⟩
    · refine g_if_eq (tgt := 1310) E dL_law_1290 (by decide) (fun c_1290 => ?_) (fun z => absurd (by rw [h0]; rfl) z)
      exact j1310 W hW _ _ (by omega) (by omega)
    · refine g_if_eq (tgt := 1310) E dL_law_1290 (by decide) (fun z => absurd z (nI_ne0 (by omega) (by omega))) (fun c_1290 => ?_)
      refine g_iload E dL_law_1293 0 rfl ?_
      refine g_if_ne (tgt := 1310) E dL_law_1295 (by decide) (fun z => absurd (by rw [ho]; rfl) z) (fun c_1295 => ?_)
      refine g_aload_n E dL_law_1298 rfl 15 rfl ?_
      refine g_iload E dL_law_1299 6 rfl ?_
      refine k_fine E hW hK2 (k := pN) hp gL_law_X5_fine ⟨Nat.le_of_ble_eq_true rfl, Nat.le_of_ble_eq_true rfl⟩ (Nat.le_of_ble_eq_true rfl) dL_law_1301 ⟨by show _ ≤ 646545; omega, by show _ ≤ 7162134; omega⟩ (fun W hW => ?_)
      refine g_lload E dL_law_1304 1 rfl ?_
      refine g_lcmp E dL_law_1306 ?_
      refine g_if_ne (tgt := 1314) E dL_law_1307 (by decide) (fun z => absurd ((lg_cmp_eq _ _).mpr (by rw [hj2 pN h2, hF])) z) (fun c_1307 => ?_)
      exact j1310 W hW _ _ (by omega) (by omega)
set_option maxHeartbeats 4000000 in
set_option maxRecDepth 100000 in
theorem z_pass (E : gOk C cL_law 27 wsL_law RL e0 room_1) (hW : LW (xy C) e0 a aa av c i j p r 14 W) (hK : KN c i j p r 14 N) (hA : LA c i p r av) (h4 : c 0 = 4) (hln : ln < 4) (hY : Y < 2 ^ 28) (hmc : mc + 1000 ≤ 646545) (hms : ms + 8000 ≤ 7162134) (hN : N ≤ 4000) (hpN : pN < c 2 ∨ (c 2 = 0 ∧ pN = 0)) (kk : ∀ (av : Nat → Nat → Int32) (c : Nat → Nat) (i : Nat → Nat → Int32) (j : Nat → Nat → Int64) (p : Nat → Nat → Option Nat) (r : Nat → Nat → Int32) (N' : Nat) (W : va_W), LW (xy C) e0 a aa av c i j p r 14 W → KN c i j p r 14 N' → LA c i p r av → c 0 = 4 → N' ≤ N + 20 → (pN < c 2 ∨ c 2 = 0) → G C W (mc + 150) (ms + 3000) 1435 [(12, .int (nI 1)), (19, .int (nI ln)), (18, .int (nI pN)), (16, .int (nI Y)), (14, .int (nI t)), (13, .int (nI T)), (11, .int (nI (c 2))), (10, .int (nI 4)), (0, .ref b), (1, .ref a), (2, .ref (aa 0)), (3, .ref (aa 1)), (4, .ref (aa 2)), (5, .ref (aa 3)), (6, .ref (aa 4)), (7, .ref (aa 5)), (8, .ref (aa 6)), (9, .ref (aa 7))] []) : G C W mc ms 1154 [(19, .int (nI ln)), (18, .int (nI pN)), (17, .int (nI D)), (16, .int (nI Y)), (14, .int (nI t)), (13, .int (nI T)), (12, .int (nI 1)), (11, .int (nI (c 2))), (10, .int (nI 4)), (0, .ref b), (1, .ref a), (2, .ref (aa 0)), (3, .ref (aa 1)), (4, .ref (aa 2)), (5, .ref (aa 3)), (6, .ref (aa 4)), (7, .ref (aa 5)), (8, .ref (aa 6)), (9, .ref (aa 7))] [] := by
  have hb := hK.b
  obtain ⟨d, hd9, hd⟩ := hK.ex_pos (l := ln) (by omega) (cl := clM (fun k => i 11 k) (fun k => i 7 k) none (c 2))
  have k1173 : ∀ q : Nat, (q = 20 ∨ q = 6) → G C W mc ms 1173 [(19, .int (nI ln)), (18, .int (nI pN)), (17, .int (nI D)), (16, .int (nI Y)), (14, .int (nI t)), (13, .int (nI T)), (12, .int (nI 1)), (11, .int (nI (c 2))), (10, .int (nI 4)), (0, .ref b), (1, .ref a), (2, .ref (aa 0)), (3, .ref (aa 1)), (4, .ref (aa 2)), (5, .ref (aa 3)), (6, .ref (aa 4)), (7, .ref (aa 5)), (8, .ref (aa 6)), (9, .ref (aa 7))] [.int (nI q), .int (nI (Y / 2 ^ 2)), .int (nI 1)] := by
    intro q hq
    refine n_irem E (by omega) (by omega) (by omega) dL_law_1173 ?_
    refine n_iadd E dL_law_1174 ?_
    have hq20 : Y / 2 ^ 2 % q < 20 := by
      have := Nat.mod_lt (Y / 2 ^ 2) (show 0 < q by omega)
      omega
    obtain ⟨H, hH⟩ : ∃ H, H = 1 + Y / 2 ^ 2 % q := ⟨_, rfl⟩
    rw [← hH]
    refine g_istore (L' := [(20, .int (nI H)), (19, .int (nI ln)), (18, .int (nI pN)), (17, .int (nI D)), (16, .int (nI Y)), (14, .int (nI t)), (13, .int (nI T)), (12, .int (nI 1)), (11, .int (nI (c 2))), (10, .int (nI 4)), (0, .ref b), (1, .ref a), (2, .ref (aa 0)), (3, .ref (aa 1)), (4, .ref (aa 2)), (5, .ref (aa 3)), (6, .ref (aa 4)), (7, .ref (aa 5)), (8, .ref (aa 6)), (9, .ref (aa 7))]) E dL_law_1175 (by decide) rfl ?_
    refine g_aload_n E dL_law_1177 rfl 11 rfl ?_
    refine g_iload E dL_law_1178 1 rfl ?_
    refine k_detour E hW hK (k := ln) (by omega) gL_law_X5_detour ⟨Nat.le_of_ble_eq_true rfl, Nat.le_of_ble_eq_true rfl⟩ (Nat.le_of_ble_eq_true rfl) dL_law_1180 ⟨by show _ ≤ 646545; omega, by show _ ≤ 7162134; omega⟩ (fun W hW => ?_)
    rw [hd]
    refine g_istore (L' := [(21, .int (nI d)), (20, .int (nI H)), (19, .int (nI ln)), (18, .int (nI pN)), (17, .int (nI D)), (16, .int (nI Y)), (14, .int (nI t)), (13, .int (nI T)), (12, .int (nI 1)), (11, .int (nI (c 2))), (10, .int (nI 4)), (0, .ref b), (1, .ref a), (2, .ref (aa 0)), (3, .ref (aa 1)), (4, .ref (aa 2)), (5, .ref (aa 3)), (6, .ref (aa 4)), (7, .ref (aa 5)), (8, .ref (aa 6)), (9, .ref (aa 7))]) E dL_law_1183 (by decide) rfl ?_
    refine g_aload_n E dL_law_1185 rfl 12 rfl ?_
    refine g_iload E dL_law_1186 2 rfl ?_
    refine k_minutes E hW hK (k := ln) (by omega) gL_law_X5_minutes ⟨Nat.le_of_ble_eq_true rfl, Nat.le_of_ble_eq_true rfl⟩ (Nat.le_of_ble_eq_true rfl) dL_law_1188 ⟨by show _ ≤ 646545; omega, by show _ ≤ 7162134; omega⟩ (fun W hW => ?_)
    refine g_lstore (L' := [(22, .long (j 0 ln)), (21, .int (nI d)), (20, .int (nI H)), (19, .int (nI ln)), (18, .int (nI pN)), (17, .int (nI D)), (16, .int (nI Y)), (14, .int (nI t)), (13, .int (nI T)), (12, .int (nI 1)), (11, .int (nI (c 2))), (10, .int (nI 4)), (0, .ref b), (1, .ref a), (2, .ref (aa 0)), (3, .ref (aa 1)), (4, .ref (aa 2)), (5, .ref (aa 3)), (6, .ref (aa 4)), (7, .ref (aa 5)), (8, .ref (aa 6)), (9, .ref (aa 7))]) E dL_law_1191 (by decide) rfl ?_
    refine g_iload E dL_law_1193 10 rfl ?_
    by_cases h0 : c 2 = 0
    · refine g_if_ne (tgt := 1202) E dL_law_1195 (by decide) (fun z => absurd (by rw [h0]; rfl) z) (fun c_1195 => ?_)
      refine g_lconst (v := 0) E dL_law_1198 (by decide) ?_
      refine g_goto (tgt := 1208) E dL_law_1199 (by decide) ?_
      refine g_lstore (L' := [(24, .long 0), (22, .long (j 0 ln)), (21, .int (nI d)), (20, .int (nI H)), (19, .int (nI ln)), (18, .int (nI pN)), (17, .int (nI D)), (16, .int (nI Y)), (14, .int (nI t)), (13, .int (nI T)), (12, .int (nI 1)), (11, .int (nI (c 2))), (10, .int (nI 4)), (0, .ref b), (1, .ref a), (2, .ref (aa 0)), (3, .ref (aa 1)), (4, .ref (aa 2)), (5, .ref (aa 3)), (6, .ref (aa 4)), (7, .ref (aa 5)), (8, .ref (aa 6)), (9, .ref (aa 7))]) E dL_law_1208 (by decide) rfl ?_
      refine g_iload E dL_law_1210 11 rfl ?_
      refine g_if_le (tgt := 1229) E dL_law_1212 (by decide) (fun c_1212 => ?_) (fun z => absurd (by rw [h0]; decide) z)
      refine g_iconst (v := nI 0) E dL_law_1229 (by decide) ?_
      refine g_locals [(24, .long 0), (22, .long (j 0 ln)), (21, .int (nI d)), (20, .int (nI H)), (19, .int (nI ln)), (18, .int (nI pN)), (17, .int (nI D)), (16, .int (nI Y)), (14, .int (nI t)), (13, .int (nI T)), (12, .int (nI 1)), (11, .int (nI (c 2))), (10, .int (nI 4)), (0, .ref b), (1, .ref a), (2, .ref (aa 0)), (3, .ref (aa 1)), (4, .ref (aa 2)), (5, .ref (aa 3)), (6, .ref (aa 4)), (7, .ref (aa 5)), (8, .ref (aa 6)), (9, .ref (aa 7))] [0, 1, 2, 3, 4, 5, 6, 7, 8, 9, 10, 11, 12, 13, 14, 15, 16, 17, 18, 19, 20, 21, 22] rfl ?_
      exact z_pass2 (mc := mc) (ms := ms) (o := 0) E hW hK hA h4 hln hY hmc hms hN hpN (by omega) (by omega) hd hd9 (Or.inr ⟨rfl, Or.inl h0⟩) (by omega) (by omega) kk
    · have hp : pN < c 2 := hpN.elim id (fun z => absurd z.1 h0)
      refine g_if_ne (tgt := 1202) E dL_law_1195 (by decide) (fun c_1195 => ?_) (fun z => absurd z (nI_ne0 (by omega) (by omega)))
      refine g_aload_n E dL_law_1202 rfl 13 rfl ?_
      refine g_iload E dL_law_1203 4 rfl ?_
      refine k_fine E hW hK (k := pN) hp gL_law_X5_fine ⟨Nat.le_of_ble_eq_true rfl, Nat.le_of_ble_eq_true rfl⟩ (Nat.le_of_ble_eq_true rfl) dL_law_1205 ⟨by show _ ≤ 646545; omega, by show _ ≤ 7162134; omega⟩ (fun W hW => ?_)
      refine g_lstore (L' := [(24, .long (2 * j 2 pN)), (22, .long (j 0 ln)), (21, .int (nI d)), (20, .int (nI H)), (19, .int (nI ln)), (18, .int (nI pN)), (17, .int (nI D)), (16, .int (nI Y)), (14, .int (nI t)), (13, .int (nI T)), (12, .int (nI 1)), (11, .int (nI (c 2))), (10, .int (nI 4)), (0, .ref b), (1, .ref a), (2, .ref (aa 0)), (3, .ref (aa 1)), (4, .ref (aa 2)), (5, .ref (aa 3)), (6, .ref (aa 4)), (7, .ref (aa 5)), (8, .ref (aa 6)), (9, .ref (aa 7))]) E dL_law_1208 (by decide) rfl ?_
      refine g_iload E dL_law_1210 11 rfl ?_
      refine g_if_le (tgt := 1229) E dL_law_1212 (by decide) (fun z => absurd z (nI_nle (by omega) (by omega))) (fun c_1212 => ?_)
      refine g_aload_n E dL_law_1215 rfl 14 rfl ?_
      refine g_iload E dL_law_1216 5 rfl ?_
      refine k_state E hW hK (k := pN) hp gL_law_X5_state ⟨Nat.le_of_ble_eq_true rfl, Nat.le_of_ble_eq_true rfl⟩ (Nat.le_of_ble_eq_true rfl) dL_law_1218 ⟨by show _ ≤ 646545; omega, by show _ ≤ 7162134; omega⟩ (fun W hW => ?_)
      refine g_iconst (v := nI 2) E dL_law_1221 (by decide) ?_
      by_cases h2 : i 11 pN = nI 2
      · refine g_icmp_ne (tgt := 1229) E dL_law_1222 (by decide) (fun z => absurd h2 z) (fun c_1222 => ?_)
        refine g_iconst (v := nI 1) E dL_law_1225 (by decide) ?_
        refine g_goto (tgt := 1230) E dL_law_1226 (by decide) ?_
        refine g_locals [(24, .long (2 * j 2 pN)), (22, .long (j 0 ln)), (21, .int (nI d)), (20, .int (nI H)), (19, .int (nI ln)), (18, .int (nI pN)), (17, .int (nI D)), (16, .int (nI Y)), (14, .int (nI t)), (13, .int (nI T)), (12, .int (nI 1)), (11, .int (nI (c 2))), (10, .int (nI 4)), (0, .ref b), (1, .ref a), (2, .ref (aa 0)), (3, .ref (aa 1)), (4, .ref (aa 2)), (5, .ref (aa 3)), (6, .ref (aa 4)), (7, .ref (aa 5)), (8, .ref (aa 6)), (9, .ref (aa 7))] [0, 1, 2, 3, 4, 5, 6, 7, 8, 9, 10, 11, 12, 13, 14, 15, 16, 17, 18, 19, 20, 21, 22] rfl ?_
        exact z_pass2 (mc := mc) (ms := ms) (o := 1) E hW hK hA h4 hln hY hmc hms hN hpN (by omega) (by omega) hd hd9 (Or.inl ⟨rfl, h2⟩) (by omega) (by omega) kk
      · refine g_icmp_ne (tgt := 1229) E dL_law_1222 (by decide) (fun c_1222 => ?_) (fun z => absurd z h2)
        refine g_iconst (v := nI 0) E dL_law_1229 (by decide) ?_
        refine g_locals [(24, .long (2 * j 2 pN)), (22, .long (j 0 ln)), (21, .int (nI d)), (20, .int (nI H)), (19, .int (nI ln)), (18, .int (nI pN)), (17, .int (nI D)), (16, .int (nI Y)), (14, .int (nI t)), (13, .int (nI T)), (12, .int (nI 1)), (11, .int (nI (c 2))), (10, .int (nI 4)), (0, .ref b), (1, .ref a), (2, .ref (aa 0)), (3, .ref (aa 1)), (4, .ref (aa 2)), (5, .ref (aa 3)), (6, .ref (aa 4)), (7, .ref (aa 5)), (8, .ref (aa 6)), (9, .ref (aa 7))] [0, 1, 2, 3, 4, 5, 6, 7, 8, 9, 10, 11, 12, 13, 14, 15, 16, 17, 18, 19, 20, 21, 22] rfl ?_
        exact z_pass2 (mc := mc) (ms := ms) (o := 0) E hW hK hA h4 hln hY hmc hms hN hpN (by omega) (by omega) hd hd9 (Or.inr ⟨rfl, Or.inr ⟨hp, h2, rfl⟩⟩) (by omega) (by omega) kk
  refine g_iconst (v := nI 1) E dL_law_1154 (by decide) ?_
  refine g_iload E dL_law_1155 3 rfl ?_
  refine g_iconst (v := nI 2) E dL_law_1157 (by decide) ?_
  refine n_ishr E (by omega) (by decide) dL_law_1158 ?_
  refine g_iload E dL_law_1159 3 rfl ?_
  refine g_iconst (v := nI 3) E dL_law_1161 (by decide) ?_
  refine g_iand E dL_law_1162 ?_
  rw [pk_andN (n := Y) (by omega) 2 rfl]
  by_cases hz : Y % 2 ^ 2 = 0
  · refine g_if_ne (tgt := 1171) E dL_law_1163 (by decide) (fun z => absurd (by rw [hz]; rfl) z) (fun c_1163 => ?_)
    refine g_bipush (v := nI 20) E dL_law_1166 (by decide) ?_
    refine g_goto (tgt := 1173) E dL_law_1168 (by decide) ?_
    exact k1173 20 (Or.inl rfl)
  · refine g_if_ne (tgt := 1171) E dL_law_1163 (by decide) (fun c_1163 => ?_) (fun z => absurd z (nI_ne0 (by omega) (by omega)))
    refine g_bipush (v := nI 6) E dL_law_1171 (by decide) ?_
    exact k1173 6 (Or.inr rfl)
end LZ
