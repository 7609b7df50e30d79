/-! the fresh class -/
def RdF (S : wS) (R : Nat) (A W Gd : Nat → Nat) : Prop := R ∈ sL S ∧ sK S R = 3 ∧ sI S 15 R = 0 ∧ (∀ k, k < 24 → k ≠ 3 → Ar S (A k) (alen k)) ∧ (∀ w, w < 2 → Wy S (W w) (Gd w) ∧ Gr S (Gd w) (fun b => A (4 + 10 * w + b))) ∧ sP S 3 R = some (A 0) ∧ sP S 4 R = some (A 1) ∧ sP S 5 R = some (A 2) ∧ sP S 6 R = some (W 0) ∧ sP S 7 R = some (W 1)
theorem RdF.fr {S S' : wS} {X : Nat → Prop} {R : Nat} {A W Gd : Nat → Nat} (h : RdF S R A W Gd) (hF : FR S S' X) (h1 : ¬ X R) (h2 : ∀ k, k < 24 → k ≠ 3 → ¬ X (A k)) (h3 : ∀ w, w < 2 → ¬ X (W w) ∧ ¬ X (Gd w)) : RdF S' R A W Gd := by
  obtain ⟨a1, a2, a3, a4, a5, a6, a7, a8, a9, a10⟩ := h
  obtain ⟨g1, g2, g3, g4, g5, g6, g7⟩ := hF.2 R a1 h1
  exact ⟨hF.1 _ a1, g1.trans a2, (g2 15).trans a3, fun k hk h3 => (a4 k hk h3).fr hF (h2 k hk h3), fun w hw => ⟨(a5 w hw).1.fr hF (h3 w hw).1, (a5 w hw).2.fr hF (h3 w hw).2⟩, (g4 3).trans a6, (g4 4).trans a7, (g4 5).trans a8, (g4 6).trans a9, (g4 7).trans a10⟩
theorem RdF.fr0 {S S' : wS} {R : Nat} {A W Gd : Nat → Nat} (h : RdF S R A W Gd) (hF : FR S S' (fun _ => False)) : RdF S' R A W Gd := h.fr hF (fun h => h) (fun _ _ _ h => h) (fun _ _ => ⟨fun h => h, fun h => h⟩)
/-- z is none of them -/
def RdN (z R : Nat) (A W Gd : Nat → Nat) : Prop := R ≠ z ∧ (∀ k, k < 24 → k ≠ 3 → A k ≠ z) ∧ ∀ w, w < 2 → W w ≠ z ∧ Gd w ≠ z
theorem RdF.frz {S S' : wS} {z R : Nat} {A W Gd : Nat → Nat} (h : RdF S R A W Gd) (hF : FR S S' (fun x => x = z)) (hz : RdN z R A W Gd) : RdF S' R A W Gd := h.fr hF hz.1 hz.2.1 hz.2.2
theorem RdF.ne {S : wS} {z R : Nat} {A W Gd : Nat → Nat} (h : RdF S R A W Gd) (hz : z ∉ sL S) : RdN z R A W Gd := ⟨fun e => hz (e ▸ h.1), fun k h1 h2 e => hz (e ▸ (h.2.2.2.1 k h1 h2).1), fun w hw => ⟨fun e => hz (e ▸ (h.2.2.2.2.1 w hw).1.1), fun e => hz (e ▸ (h.2.2.2.2.1 w hw).2.1)⟩⟩
def LsF (e0 : Nat) (S : wS) (l : Nat) : Prop := l ∈ sL S ∧ sK S l = 6 ∧ sI S 20 l = 0 ∧ sP S 14 l = some e0
theorem LsF.fr {e0 : Nat} {S S' : wS} {X : Nat → Prop} {l : Nat} (h : LsF e0 S l) (hF : FR S S' X) (hx : ¬ X l) : LsF e0 S' l := by
  obtain ⟨g1, g2, g3, g4, -⟩ := hF.2 l h.1 hx
  exact ⟨hF.1 _ h.1, g1.trans h.2.1, (g2 20).trans h.2.2.1, (g4 14).trans h.2.2.2⟩
def c00 (kd : Nat) : Nat := if kd = 3 then 1 else if kd = 4 then 2 else if kd = 5 then 1 else if kd = 6 then 3 else if kd = 7 then 24 else 0
def ad00 (e0 R a P l0 l1 l2 : Nat) (A W Gd : Nat → Nat) (kd k : Nat) : Nat := if kd = 3 then R else if kd = 4 then W k else if kd = 5 then a else if kd = 6 then (if k = 0 then l0 else if k = 1 then l1 else l2) else if kd = 7 then (if k = 3 then P else A k) else if kd = 9 then Gd k else e0
def i00 (f _k : Nat) : Int32 := if f = 16 then -1 else 0
theorem ci_new {e0 : Nat} {S : wS} {R a P l0 l1 l2 : Nat} {A W Gd : Nat → Nat} (hR : RdF S R A W Gd) (hinj : ∀ k k', k < 24 → k' < 24 → k ≠ 3 → k' ≠ 3 → A k = A k' → k = k') (hW : W 0 ≠ W 1) (h0 : LsF e0 S l0) (h1 : LsF e0 S l1) (h2 : LsF e0 S l2) (d01 : l0 ≠ l1) (d02 : l0 ≠ l2) (d12 : l1 ≠ l2) (hP : Ar S P 6) (hPA : ∀ k, k < 24 → k ≠ 3 → A k ≠ P)
    (ha : a ∈ sL S) (hak : sK S a = 5) (hai : sI S 18 a = 0) (p9 : sP S 9 a = some R) (p10 : sP S 10 a = some l0) (p11 : sP S 11 a = some l1) (p12 : sP S 12 a = some l2) (p13 : sP S 13 a = some P) (he : e0 ∉ sL S) :
    CI e0 S c00 (ad00 e0 R a P l0 l1 l2 A W Gd) i00 (fun _ _ => 0) (fun _ _ => none) (fun _ _ => 0) := by
  obtain ⟨a1, a2, a3, a4, a5, a6, a7, a8, a9, a10⟩ := hR
  have okl : ∀ {l : Nat} (e : Nat → Nat), LsF e0 S l → okL e0 S l e0 0 e := fun e h => ⟨h.1, h.2.1, h.2.2.1.trans nI_0.symm, Nat.zero_le _, h.2.2.2, Or.inl ⟨rfl, rfl⟩⟩
  have kds : ∀ kd k, k < c00 kd → (kd = 3 ∧ k = 0) ∨ (kd = 4 ∧ k < 2) ∨ (kd = 5 ∧ k = 0) ∨ (kd = 6 ∧ k < 3) ∨ (kd = 7 ∧ k < 24) := by
    intro kd k h
    unfold c00 at h
    by_cases g3 : kd = 3
    · rw [if_pos g3] at h; exact Or.inl ⟨g3, by omega⟩
    rw [if_neg g3] at h
    by_cases g4 : kd = 4
    · rw [if_pos g4] at h; exact Or.inr (Or.inl ⟨g4, h⟩)
    rw [if_neg g4] at h
    by_cases g5 : kd = 5
    · rw [if_pos g5] at h; exact Or.inr (Or.inr (Or.inl ⟨g5, by omega⟩))
    rw [if_neg g5] at h
    by_cases g6 : kd = 6
    · rw [if_pos g6] at h; exact Or.inr (Or.inr (Or.inr (Or.inl ⟨g6, h⟩)))
    rw [if_neg g6] at h
    by_cases g7 : kd = 7
    · rw [if_pos g7] at h; exact Or.inr (Or.inr (Or.inr (Or.inr ⟨g7, h⟩)))
    rw [if_neg g7] at h
    omega
  have A7 : ∀ k, k ≠ 3 → ad00 e0 R a P l0 l1 l2 A W Gd 7 k = A k := fun k h => if_neg h
  have P7 : ad00 e0 R a P l0 l1 l2 A W Gd 7 3 = P := rfl
  have arr : ∀ k, k < 24 → Ar S (ad00 e0 R a P l0 l1 l2 A W Gd 7 k) (alen k) := by
    intro k hk
    by_cases h3 : k = 3
    · subst h3; exact hP
    · rw [A7 k h3]; exact a4 k hk h3
  refine ⟨fun kd k hkd hk => ?_, fun kd k k' hkd hk hk' e => ?_, fun f k hf hk => ?_, fun f k hk => ?_, fun k hk => ?_, ⟨rfl, rfl, rfl, rfl, rfl, by decide, by decide, by decide⟩, ⟨p9, p10, p11, p12, p13⟩, ⟨a6, a7, a8, a9, a10⟩, fun w hw => ?_, fun k hk => absurd hk (Nat.not_lt_zero _), fun k hk => absurd hk (Nat.not_lt_zero _), ⟨okl _ h0, okl _ h1, okl _ h2⟩, fun t t' ht ht' hm => ?_, he⟩
  · rcases kds kd k hk with ⟨rfl, rfl⟩ | ⟨rfl, h⟩ | ⟨rfl, rfl⟩ | ⟨rfl, h⟩ | ⟨rfl, h⟩
    · exact ⟨a1, a2⟩
    · exact ⟨(a5 k h).1.1, (a5 k h).1.2.1⟩
    · exact ⟨ha, hak⟩
    · rcases (show k = 0 ∨ k = 1 ∨ k = 2 by omega) with rfl | rfl | rfl
      · exact ⟨h0.1, h0.2.1⟩
      · exact ⟨h1.1, h1.2.1⟩
      · exact ⟨h2.1, h2.2.1⟩
    · exact ⟨(arr k h).1, (arr k h).2.1⟩
  · rcases kds kd k hk with ⟨rfl, rfl⟩ | ⟨rfl, h⟩ | ⟨rfl, rfl⟩ | ⟨rfl, h⟩ | ⟨rfl, h⟩ <;> rcases kds _ k' hk' with ⟨g1, g⟩ | ⟨g1, g⟩ | ⟨g1, g⟩ | ⟨g1, g⟩ | ⟨g1, g⟩ <;> first | omega | skip
    · have e2 : W k = W k' := e
      rcases (show k = 0 ∨ k = 1 by omega) with rfl | rfl <;> rcases (show k' = 0 ∨ k' = 1 by omega) with rfl | rfl
      · rfl
      · exact absurd e2 hW
      · exact absurd e2.symm hW
      · rfl
    · rcases (show k = 0 ∨ k = 1 ∨ k = 2 by omega) with rfl | rfl | rfl <;> rcases (show k' = 0 ∨ k' = 1 ∨ k' = 2 by omega) with rfl | rfl | rfl
      · rfl
      · exact absurd (show l0 = l1 from e) d01
      · exact absurd (show l0 = l2 from e) d02
      · exact absurd (show l1 = l0 from e).symm d01
      · rfl
      · exact absurd (show l1 = l2 from e) d12
      · exact absurd (show l2 = l0 from e).symm d02
      · exact absurd (show l2 = l1 from e).symm d12
      · rfl
    · by_cases q : k = 3 <;> by_cases q' : k' = 3
      · omega
      · rw [q, P7, A7 k' q'] at e; exact absurd e.symm (hPA k' g q')
      · rw [q', P7, A7 k q] at e; exact absurd e (hPA k h q)
      · rw [A7 k q, A7 k' q'] at e; exact hinj k k' h g q q' e
  · have hk' := kds (kf f) k hk
    have f15 : 15 ≤ f := by
      by_cases q : f < 15
      · exfalso
        have : kf f = 0 ∨ kf f = 1 ∨ kf f = 2 := by
          by_cases q0 : f < 2
          · exact Or.inl (if_pos q0)
          · by_cases q1 : f < 5
            · exact Or.inr (Or.inl ((if_neg q0).trans (if_pos q1)))
            · exact Or.inr (Or.inr (kf_2 (by omega) q))
        omega
      · omega
    rcases (show f = 15 ∨ f = 16 ∨ f = 17 ∨ f = 18 by omega) with rfl | rfl | rfl | rfl
    · exact a3
    · rcases hk' with ⟨q, -⟩ | ⟨q, h⟩ | ⟨q, -⟩ | ⟨q, -⟩ | ⟨q, -⟩
      · exact absurd q (by decide)
      · exact (a5 k h).1.2.2.1
      · exact absurd q (by decide)
      · exact absurd q (by decide)
      · exact absurd q (by decide)
    · rcases hk' with ⟨q, -⟩ | ⟨q, h⟩ | ⟨q, -⟩ | ⟨q, -⟩ | ⟨q, -⟩
      · exact absurd q (by decide)
      · exact (a5 k h).1.2.2.2.1
      · exact absurd q (by decide)
      · exact absurd q (by decide)
      · exact absurd q (by decide)
    · exact hai
  · have hk' := kds (kj f) k hk
    have : kj f = 0 ∨ kj f = 1 ∨ kj f = 2 := by unfold kj; split; exact Or.inl rfl; split; exact Or.inr (Or.inl rfl); exact Or.inr (Or.inr rfl)
    omega
  · have h := arr k hk
    exact ⟨h.2.2.1, fun b _ => h.2.2.2 b⟩
  · obtain ⟨g1, g2⟩ := a5 w hw
    refine ⟨g1.2.2.2.2, g2.1, g2.2.1, g2.2.2.1, fun b hb => ?_⟩
    rw [A7 (4 + 10 * w + b) (by omega)]
    exact g2.2.2.2 b hb
  · exact absurd (show e0 ∈ sL S from hm) he

abbrev rm_X5_init : Room := { frames := 4, cells := 32, slots := 320, locals := 90 }
set_option maxHeartbeats 4000000 in
set_option maxRecDepth 100000 in
theorem m_X5_init (l : Launch) (hl : l.stackTraces = false) (D : va_G) (cy : Nat → ClassId) (e0 : Nat) {S : wS}  {a : Nat} (ham : a ∈ sL S) (hak : sK S a = 5) (hi18 : sI S 18 a = 0) : cMet l yX5_init wsX5_init rm_X5_init D cy e0 [.ref (a)] S (fun v S' => v = none ∧ FR S S' (fun x => x = a) ∧ ∃ ad, CI e0 S' c00 ad i00 (fun _ _ => 0) (fun _ _ => none) (fun _ _ => 0) ∧ ad 5 0 = a) (fun _ _ => False) 32 320 := by
  refine gMet.of (cc := cX5_init) (maxL := 1) (ret := none) hl (by decide) rfl (Nat.le_of_ble_eq_true rfl) ?_
  intro C E h1 h2 h3 hr hnm hT hE
  subst h1; subst h2; subst h3
  have E : gOk C cX5_init 1 wsX5_init RX5 e0 rm_X5_init := E
  have hin : (xh C).name = "<init>" := hnm
  show G C (cW (xy C) S) 0 0 0 [(0, .ref (a))] []
  have h0 : FR S S (fun x => x = a) := FR.rf
  refine g_aload_n E dX5_init_0 rfl 0 rfl ?_
  refine g_objInit (rest := []) E (List.mem_cons_of_mem _ (List.mem_append_left _ (List.mem_append_left _ (List.mem_append_left _ (List.mem_append_left _ (List.mem_append_left _ (List.mem_of_getElem? (i := 0) rfl))))))) (List.mem_cons_of_mem _ (List.mem_append_left _ (List.mem_append_left _ (List.mem_append_left _ (List.mem_append_left _ (List.mem_append_left _ (List.mem_of_getElem? (i := 1) rfl))))))) (List.mem_cons_of_mem _ (List.mem_append_left _ (List.mem_append_left _ (List.mem_append_left _ (List.mem_append_left _ (List.mem_append_left _ (List.mem_of_getElem? (i := 2) rfl))))))) dX5_init_1 (Nat.le_of_ble_eq_true rfl) (Nat.le_of_ble_eq_true rfl) ?_
  refine g_aload_n E dX5_init_4 rfl 0 rfl ?_
  refine p_new_Roads E (fun _ h => (List.mem_cons_of_mem _ (List.mem_append_left _ (List.mem_append_left _ (List.mem_append_left _ (List.mem_append_right _ h)))))) (List.mem_cons_of_mem _ (List.mem_append_left _ (List.mem_append_left _ (List.mem_append_left _ (List.mem_append_left _ (List.mem_append_left _ (List.mem_of_getElem? (i := 3) rfl))))))) (List.mem_cons_of_mem _ (List.mem_append_left _ (List.mem_append_left _ (List.mem_append_left _ (List.mem_append_left _ (List.mem_append_left _ (List.mem_of_getElem? (i := 4) rfl))))))) (List.mem_cons_of_mem _ (List.mem_append_left _ (List.mem_append_left _ (List.mem_append_left _ (List.mem_append_left _ (List.mem_append_left _ (List.mem_of_getElem? (i := 5) rfl))))))) (Nat.le_of_ble_eq_true rfl) (Nat.le_of_ble_eq_true rfl) dX5_init_5 (fun q_5 hq_5 => ?_)
  have hn_q_5 : q_5 ∉ sL S := fun h => hq_5 (h0.1 _ h)
  have hne_q_5 : q_5 ≠ a := fun e => hq_5 (e ▸ ham)
  have hT_1 : ∃ T, T = nw S q_5 3 0 := ⟨_, rfl⟩
  obtain ⟨T_1, hT_1⟩ := hT_1
  rw [← hT_1]
  have hF_1 : FR S T_1 (fun _ => False) := by rw [hT_1]; exact FR.nw hq_5
  have hi18 := ((hF_1.2 a ham (fun h => h)).2.1 18).trans hi18
  have hak := (hF_1.2 a ham (fun h => h)).1.trans hak
  have h0 : FR S T_1 (fun x => x = a) := h0.tr hF_1 (fun _ _ h => h) (fun _ _ h => h.elim)
  have ham := hF_1.1 a ham
  have m_q_5 : q_5 ∈ sL T_1 := by rw [hT_1]; exact nw_own
  have k_q_5 : sK T_1 q_5 = 3 := by rw [hT_1]; exact nw_Ko
  have z_q_5 : ∀ f, sI T_1 f q_5 = 0 := fun f => by rw [hT_1]; exact nw_Io
  show G C (cW (xy C) T_1) 1 6 8 [(0, .ref (a))] [.ref (q_5), .ref (a)]
  refine g_dup E dX5_init_8 rfl ?_
  refine c_invIN (n := 0) (host := "PermitWeave") (rest := [.ref (q_5), .ref (a)]) E (m_X3_init (xl C) E.tr (xD C) (xy C) e0 (S := T_1) m_q_5 k_q_5) gX5_init_X3_init_n9 rfl rfl rfl (List.mem_cons_of_mem _ (List.mem_append_left _ (List.mem_append_left _ (List.mem_append_left _ (List.mem_append_left _ (List.mem_append_left _ (List.mem_of_getElem? (i := 5) rfl))))))) tbM_RX5_9 (List.mem_cons_of_mem _ (List.mem_append_left _ (List.mem_append_left _ (List.mem_append_left _ (List.mem_append_left _ (List.mem_append_left _ (List.mem_of_getElem? (i := 15) rfl))))))) rfl (by decide +kernel) ⟨Nat.le_of_ble_eq_true rfl, Nat.le_of_ble_eq_true rfl⟩ rfl rfl (Nat.le_of_ble_eq_true rfl) dX5_init_9 ⟨Nat.le_of_ble_eq_true rfl, Nat.le_of_ble_eq_true rfl⟩ (fun _ _ h9 => h9.elim) (fun v9 S9_9 h9 => ?_)
  obtain ⟨hv9, hFw, hwk, hw15, A, W, Gd, hA, hinjA, hWs, hW01, hw3, hw4, hw5, hw6, hw7⟩ := h9
  rw [hv9]
  have hN_a : RdN a q_5 A W Gd := ⟨hne_q_5, fun k h1 h3 e => (hA k h1 h3).1 (e ▸ ham), fun w hw => ⟨fun e => (hWs w hw).1 (e ▸ ham), fun e => (hWs w hw).2.2.1 (e ▸ ham)⟩⟩
  have hF_2 : FR T_1 S9_9 (fun x => x = q_5) := hFw
  have hi18 := ((hF_2.2 a ham (fun e => hne_q_5 e.symm)).2.1 18).trans hi18
  have hak := (hF_2.2 a ham (fun e => hne_q_5 e.symm)).1.trans hak
  have h0 : FR S S9_9 (fun x => x = a) := h0.tr hF_2 (fun _ _ h => h) (fun x hx h => absurd hx (h ▸ hn_q_5))
  have ham := hF_2.1 a ham
  have hRd : RdF S9_9 q_5 A W Gd := ⟨hF_2.1 _ m_q_5, hwk.trans k_q_5, hw15.trans (z_q_5 15), fun k h1 h3 => (hA k h1 h3).2, fun w hw => ⟨(hWs w hw).2.1, (hWs w hw).2.2.2⟩, hw3, hw4, hw5, hw6, hw7⟩
  show G C (cW (xy C) S9_9) 28 304 12 [(0, .ref (a))] [.ref (q_5), .ref (a)]
  refine p_put_PW_roads (S := S9_9) (v := some q_5) E ham hak (fun _ h => (List.mem_cons_of_mem _ (List.mem_append_left _ (List.mem_append_left _ (List.mem_append_right _ h))))) hin rfl (List.mem_cons_of_mem _ (List.mem_append_left _ (List.mem_append_left _ (List.mem_append_left _ (List.mem_append_left _ (List.mem_append_left _ (List.mem_of_getElem? (i := 6) rfl))))))) rfl dX5_init_12 ?_
  have hT_3 : ∃ T, T = uP S9_9 9 a (some q_5) := ⟨_, rfl⟩
  obtain ⟨T_3, hT_3⟩ := hT_3
  rw [← hT_3]
  have hF_3 : FR S9_9 T_3 (fun x => x = a) := by rw [hT_3]; exact FR.uP
  have hRd := hRd.frz hF_3 hN_a
  have h0 : FR S T_3 (fun x => x = a) := h0.tr hF_3 (fun _ _ h => h) (fun _ _ h => h)
  have ham := hF_3.1 a ham
  have hi18 : sI T_3 18 a = 0 := by rw [hT_3]; exact hi18
  have hak : sK T_3 a = 5 := by rw [hT_3, sk_uP]; exact hak
  have hP9 : sP T_3 9 a = some q_5 := by rw [hT_3]; exact up2_self _ _ _ _
  show G C (cW (xy C) T_3) 28 304 15 [(0, .ref (a))] []
  refine g_aload_n E dX5_init_15 rfl 0 rfl ?_
  refine p_new_AL E (fun _ h => (List.mem_cons_of_mem _ (List.mem_append_left _ (List.mem_append_right _ h)))) (List.mem_cons_of_mem _ (List.mem_append_left _ (List.mem_append_left _ (List.mem_append_left _ (List.mem_append_left _ (List.mem_append_left _ (List.mem_of_getElem? (i := 7) rfl))))))) (List.mem_cons_of_mem _ (List.mem_append_left _ (List.mem_append_left _ (List.mem_append_left _ (List.mem_append_left _ (List.mem_append_left _ (List.mem_of_getElem? (i := 8) rfl))))))) (List.mem_cons_of_mem _ (List.mem_append_left _ (List.mem_append_left _ (List.mem_append_left _ (List.mem_append_left _ (List.mem_append_left _ (List.mem_of_getElem? (i := 9) rfl))))))) (Nat.le_of_ble_eq_true rfl) (Nat.le_of_ble_eq_true rfl) dX5_init_16 (fun q_16 hq_16 => ?_)
  have hn_q_16 : q_16 ∉ sL S := fun h => hq_16 (h0.1 _ h)
  have hne_q_16 : q_16 ≠ a := fun e => hq_16 (e ▸ ham)
  have hN_q_16 := hRd.ne hq_16
  have hT_4 : ∃ T, T = nw T_3 q_16 6 0 := ⟨_, rfl⟩
  obtain ⟨T_4, hT_4⟩ := hT_4
  rw [← hT_4]
  have hF_4 : FR T_3 T_4 (fun _ => False) := by rw [hT_4]; exact FR.nw hq_16
  have hRd := hRd.fr0 hF_4
  have hP9 := ((hF_4.2 a ham (fun h => h)).2.2.2.1 9).trans hP9
  have hi18 := ((hF_4.2 a ham (fun h => h)).2.1 18).trans hi18
  have hak := (hF_4.2 a ham (fun h => h)).1.trans hak
  have h0 : FR S T_4 (fun x => x = a) := h0.tr hF_4 (fun _ _ h => h) (fun _ _ h => h.elim)
  have ham := hF_4.1 a ham
  have m_q_16 : q_16 ∈ sL T_4 := by rw [hT_4]; exact nw_own
  have k_q_16 : sK T_4 q_16 = 6 := by rw [hT_4]; exact nw_Ko
  have z_q_16 : ∀ f, sI T_4 f q_16 = 0 := fun f => by rw [hT_4]; exact nw_Io
  show G C (cW (xy C) T_4) 29 307 19 [(0, .ref (a))] [.ref (q_16), .ref (a)]
  refine g_dup E dX5_init_19 rfl ?_
  refine c_invI (n := 0) (rest := [.ref (q_16), .ref (a)]) E (m_Jx4a65c_init_da8c8 (xl C) E.tr (xD C) (xy C) e0 (S := T_4) m_q_16 k_q_16) gX5_init_Jx4a65c_init_da8c8 rfl rfl rfl (List.mem_cons_of_mem _ (List.mem_append_left _ (List.mem_append_left _ (List.mem_append_left _ (List.mem_append_left _ (List.mem_append_left _ (List.mem_of_getElem? (i := 9) rfl))))))) (List.mem_cons_of_mem _ (List.mem_append_left _ (List.mem_append_left _ (List.mem_append_left _ (List.mem_append_left _ (List.mem_append_right _ (List.mem_of_getElem? (i := 8) rfl))))))) (List.mem_cons_of_mem _ (List.mem_append_left _ (List.mem_append_left _ (List.mem_append_left _ (List.mem_append_left _ (List.mem_append_right _ (List.mem_of_getElem? (i := 9) rfl))))))) rfl (by decide +kernel) ⟨Nat.le_of_ble_eq_true rfl, Nat.le_of_ble_eq_true rfl⟩ rfl rfl (Nat.le_of_ble_eq_true rfl) dX5_init_20 ⟨Nat.le_of_ble_eq_true rfl, Nat.le_of_ble_eq_true rfl⟩ (fun _ _ h9 => h9.elim) (fun v9 S9_20 h9 => ?_)
  obtain ⟨hv9, hS9⟩ := h9
  rw [hv9, hS9]
  have hT_5 : ∃ T, T = uP (uI T_4 19 q_16 0) 14 q_16 (some e0) := ⟨_, rfl⟩
  obtain ⟨T_5, hT_5⟩ := hT_5
  rw [← hT_5]
  have hF_5 : FR T_4 T_5 (fun x => x = q_16) := by rw [hT_5]; exact FR.tr (FR.uI (a := q_16)) (FR.uP (a := q_16)) (fun _ _ h => h) (fun _ _ h => h)
  have hRd := hRd.frz hF_5 hN_q_16
  have hP9 := ((hF_5.2 a ham (fun e => hne_q_16 e.symm)).2.2.2.1 9).trans hP9
  have hi18 := ((hF_5.2 a ham (fun e => hne_q_16 e.symm)).2.1 18).trans hi18
  have hak := (hF_5.2 a ham (fun e => hne_q_16 e.symm)).1.trans hak
  have h0 : FR S T_5 (fun x => x = a) := h0.tr hF_5 (fun _ _ h => h) (fun x hx h => absurd hx (h ▸ hn_q_16))
  have ham := hF_5.1 a ham
  have L_q_16 : LsF e0 T_5 q_16 := ⟨hF_5.1 _ m_q_16, by rw [hT_5, sk_uP, sk_uI]; exact k_q_16, by rw [hT_5]; show up2 T_4.2.2.1 19 q_16 0 20 q_16 = 0; rw [up2_nf (by decide)]; exact z_q_16 20, by rw [hT_5]; exact up2_self _ _ _ _⟩
  show G C (cW (xy C) T_5) 29 307 23 [(0, .ref (a))] [.ref (q_16), .ref (a)]
  refine p_put_PW_lines (S := T_5) (v := some q_16) E ham hak (fun _ h => (List.mem_cons_of_mem _ (List.mem_append_left _ (List.mem_append_left _ (List.mem_append_right _ h))))) hin rfl (List.mem_cons_of_mem _ (List.mem_append_left _ (List.mem_append_left _ (List.mem_append_left _ (List.mem_append_left _ (List.mem_append_left _ (List.mem_of_getElem? (i := 10) rfl))))))) rfl dX5_init_23 ?_
  have hT_6 : ∃ T, T = uP T_5 10 a (some q_16) := ⟨_, rfl⟩
  obtain ⟨T_6, hT_6⟩ := hT_6
  rw [← hT_6]
  have hF_6 : FR T_5 T_6 (fun x => x = a) := by rw [hT_6]; exact FR.uP
  have L_q_16 := L_q_16.fr hF_6 (hne_q_16)
  have hRd := hRd.frz hF_6 hN_a
  have h0 : FR S T_6 (fun x => x = a) := h0.tr hF_6 (fun _ _ h => h) (fun _ _ h => h)
  have ham := hF_6.1 a ham
  have hP9 : sP T_6 9 a = some q_5 := by rw [hT_6]; show up2 T_5.2.2.2.2.1 10 a (some q_16) 9 a = _; rw [up2_nf (by decide)]; exact hP9
  have hi18 : sI T_6 18 a = 0 := by rw [hT_6]; exact hi18
  have hak : sK T_6 a = 5 := by rw [hT_6, sk_uP]; exact hak
  have hP10 : sP T_6 10 a = some q_16 := by rw [hT_6]; exact up2_self _ _ _ _
  show G C (cW (xy C) T_6) 29 307 26 [(0, .ref (a))] []
  refine g_aload_n E dX5_init_26 rfl 0 rfl ?_
  refine p_new_AL E (fun _ h => (List.mem_cons_of_mem _ (List.mem_append_left _ (List.mem_append_right _ h)))) (List.mem_cons_of_mem _ (List.mem_append_left _ (List.mem_append_left _ (List.mem_append_left _ (List.mem_append_left _ (List.mem_append_left _ (List.mem_of_getElem? (i := 7) rfl))))))) (List.mem_cons_of_mem _ (List.mem_append_left _ (List.mem_append_left _ (List.mem_append_left _ (List.mem_append_left _ (List.mem_append_left _ (List.mem_of_getElem? (i := 8) rfl))))))) (List.mem_cons_of_mem _ (List.mem_append_left _ (List.mem_append_left _ (List.mem_append_left _ (List.mem_append_left _ (List.mem_append_left _ (List.mem_of_getElem? (i := 9) rfl))))))) (Nat.le_of_ble_eq_true rfl) (Nat.le_of_ble_eq_true rfl) dX5_init_27 (fun q_27 hq_27 => ?_)
  have hn_q_27 : q_27 ∉ sL S := fun h => hq_27 (h0.1 _ h)
  have hne_q_27 : q_27 ≠ a := fun e => hq_27 (e ▸ ham)
  have hd_q_16_q_27 : q_16 ≠ q_27 := fun e => hq_27 (e ▸ L_q_16.1)
  have hN_q_27 := hRd.ne hq_27
  have hT_7 : ∃ T, T = nw T_6 q_27 6 0 := ⟨_, rfl⟩
  obtain ⟨T_7, hT_7⟩ := hT_7
  rw [← hT_7]
  have hF_7 : FR T_6 T_7 (fun _ => False) := by rw [hT_7]; exact FR.nw hq_27
  have L_q_16 := L_q_16.fr hF_7 (fun h => h)
  have hRd := hRd.fr0 hF_7
  have hP9 := ((hF_7.2 a ham (fun h => h)).2.2.2.1 9).trans hP9
  have hP10 := ((hF_7.2 a ham (fun h => h)).2.2.2.1 10).trans hP10
  have hi18 := ((hF_7.2 a ham (fun h => h)).2.1 18).trans hi18
  have hak := (hF_7.2 a ham (fun h => h)).1.trans hak
  have h0 : FR S T_7 (fun x => x = a) := h0.tr hF_7 (fun _ _ h => h) (fun _ _ h => h.elim)
  have ham := hF_7.1 a ham
  have m_q_27 : q_27 ∈ sL T_7 := by rw [hT_7]; exact nw_own
  have k_q_27 : sK T_7 q_27 = 6 := by rw [hT_7]; exact nw_Ko
  have z_q_27 : ∀ f, sI T_7 f q_27 = 0 := fun f => by rw [hT_7]; exact nw_Io
  show G C (cW (xy C) T_7) 30 310 30 [(0, .ref (a))] [.ref (q_27), .ref (a)]
  refine g_dup E dX5_init_30 rfl ?_
  refine c_invI (n := 0) (rest := [.ref (q_27), .ref (a)]) E (m_Jx4a65c_init_da8c8 (xl C) E.tr (xD C) (xy C) e0 (S := T_7) m_q_27 k_q_27) gX5_init_Jx4a65c_init_da8c8 rfl rfl rfl (List.mem_cons_of_mem _ (List.mem_append_left _ (List.mem_append_left _ (List.mem_append_left _ (List.mem_append_left _ (List.mem_append_left _ (List.mem_of_getElem? (i := 9) rfl))))))) (List.mem_cons_of_mem _ (List.mem_append_left _ (List.mem_append_left _ (List.mem_append_left _ (List.mem_append_left _ (List.mem_append_right _ (List.mem_of_getElem? (i := 8) rfl))))))) (List.mem_cons_of_mem _ (List.mem_append_left _ (List.mem_append_left _ (List.mem_append_left _ (List.mem_append_left _ (List.mem_append_right _ (List.mem_of_getElem? (i := 9) rfl))))))) rfl (by decide +kernel) ⟨Nat.le_of_ble_eq_true rfl, Nat.le_of_ble_eq_true rfl⟩ rfl rfl (Nat.le_of_ble_eq_true rfl) dX5_init_31 ⟨Nat.le_of_ble_eq_true rfl, Nat.le_of_ble_eq_true rfl⟩ (fun _ _ h9 => h9.elim) (fun v9 S9_31 h9 => ?_)
  obtain ⟨hv9, hS9⟩ := h9
  rw [hv9, hS9]
  have hT_8 : ∃ T, T = uP (uI T_7 19 q_27 0) 14 q_27 (some e0) := ⟨_, rfl⟩
  obtain ⟨T_8, hT_8⟩ := hT_8
  rw [← hT_8]
  have hF_8 : FR T_7 T_8 (fun x => x = q_27) := by rw [hT_8]; exact FR.tr (FR.uI (a := q_27)) (FR.uP (a := q_27)) (fun _ _ h => h) (fun _ _ h => h)
  have L_q_16 := L_q_16.fr hF_8 (hd_q_16_q_27)
  have hRd := hRd.frz hF_8 hN_q_27
  have hP9 := ((hF_8.2 a ham (fun e => hne_q_27 e.symm)).2.2.2.1 9).trans hP9
  have hP10 := ((hF_8.2 a ham (fun e => hne_q_27 e.symm)).2.2.2.1 10).trans hP10
  have hi18 := ((hF_8.2 a ham (fun e => hne_q_27 e.symm)).2.1 18).trans hi18
  have hak := (hF_8.2 a ham (fun e => hne_q_27 e.symm)).1.trans hak
  have h0 : FR S T_8 (fun x => x = a) := h0.tr hF_8 (fun _ _ h => h) (fun x hx h => absurd hx (h ▸ hn_q_27))
  have ham := hF_8.1 a ham
  have L_q_27 : LsF e0 T_8 q_27 := ⟨hF_8.1 _ m_q_27, by rw [hT_8, sk_uP, sk_uI]; exact k_q_27, by rw [hT_8]; show up2 T_7.2.2.1 19 q_27 0 20 q_27 = 0; rw [up2_nf (by decide)]; exact z_q_27 20, by rw [hT_8]; exact up2_self _ _ _ _⟩
  show G C (cW (xy C) T_8) 30 310 34 [(0, .ref (a))] [.ref (q_27), .ref (a)]
  refine p_put_PW_permits (S := T_8) (v := some q_27) E ham hak (fun _ h => (List.mem_cons_of_mem _ (List.mem_append_left _ (List.mem_append_left _ (List.mem_append_right _ h))))) hin rfl (List.mem_cons_of_mem _ (List.mem_append_left _ (List.mem_append_left _ (List.mem_append_left _ (List.mem_append_left _ (List.mem_append_left _ (List.mem_of_getElem? (i := 11) rfl))))))) rfl dX5_init_34 ?_
  have hT_9 : ∃ T, T = uP T_8 11 a (some q_27) := ⟨_, rfl⟩
  obtain ⟨T_9, hT_9⟩ := hT_9
  rw [← hT_9]
  have hF_9 : FR T_8 T_9 (fun x => x = a) := by rw [hT_9]; exact FR.uP
  have L_q_16 := L_q_16.fr hF_9 (hne_q_16)
  have L_q_27 := L_q_27.fr hF_9 (hne_q_27)
  have hRd := hRd.frz hF_9 hN_a
  have h0 : FR S T_9 (fun x => x = a) := h0.tr hF_9 (fun _ _ h => h) (fun _ _ h => h)
  have ham := hF_9.1 a ham
  have hP9 : sP T_9 9 a = some q_5 := by rw [hT_9]; show up2 T_8.2.2.2.2.1 11 a (some q_27) 9 a = _; rw [up2_nf (by decide)]; exact hP9
  have hP10 : sP T_9 10 a = some q_16 := by rw [hT_9]; show up2 T_8.2.2.2.2.1 11 a (some q_27) 10 a = _; rw [up2_nf (by decide)]; exact hP10
  have hi18 : sI T_9 18 a = 0 := by rw [hT_9]; exact hi18
  have hak : sK T_9 a = 5 := by rw [hT_9, sk_uP]; exact hak
  have hP11 : sP T_9 11 a = some q_27 := by rw [hT_9]; exact up2_self _ _ _ _
  show G C (cW (xy C) T_9) 30 310 37 [(0, .ref (a))] []
  refine g_aload_n E dX5_init_37 rfl 0 rfl ?_
  refine p_new_AL E (fun _ h => (List.mem_cons_of_mem _ (List.mem_append_left _ (List.mem_append_right _ h)))) (List.mem_cons_of_mem _ (List.mem_append_left _ (List.mem_append_left _ (List.mem_append_left _ (List.mem_append_left _ (List.mem_append_left _ (List.mem_of_getElem? (i := 7) rfl))))))) (List.mem_cons_of_mem _ (List.mem_append_left _ (List.mem_append_left _ (List.mem_append_left _ (List.mem_append_left _ (List.mem_append_left _ (List.mem_of_getElem? (i := 8) rfl))))))) (List.mem_cons_of_mem _ (List.mem_append_left _ (List.mem_append_left _ (List.mem_append_left _ (List.mem_append_left _ (List.mem_append_left _ (List.mem_of_getElem? (i := 9) rfl))))))) (Nat.le_of_ble_eq_true rfl) (Nat.le_of_ble_eq_true rfl) dX5_init_38 (fun q_38 hq_38 => ?_)
  have hn_q_38 : q_38 ∉ sL S := fun h => hq_38 (h0.1 _ h)
  have hne_q_38 : q_38 ≠ a := fun e => hq_38 (e ▸ ham)
  have hd_q_16_q_38 : q_16 ≠ q_38 := fun e => hq_38 (e ▸ L_q_16.1)
  have hd_q_27_q_38 : q_27 ≠ q_38 := fun e => hq_38 (e ▸ L_q_27.1)
  have hN_q_38 := hRd.ne hq_38
  have hT_10 : ∃ T, T = nw T_9 q_38 6 0 := ⟨_, rfl⟩
  obtain ⟨T_10, hT_10⟩ := hT_10
  rw [← hT_10]
  have hF_10 : FR T_9 T_10 (fun _ => False) := by rw [hT_10]; exact FR.nw hq_38
  have L_q_16 := L_q_16.fr hF_10 (fun h => h)
  have L_q_27 := L_q_27.fr hF_10 (fun h => h)
  have hRd := hRd.fr0 hF_10
  have hP9 := ((hF_10.2 a ham (fun h => h)).2.2.2.1 9).trans hP9
  have hP10 := ((hF_10.2 a ham (fun h => h)).2.2.2.1 10).trans hP10
  have hP11 := ((hF_10.2 a ham (fun h => h)).2.2.2.1 11).trans hP11
  have hi18 := ((hF_10.2 a ham (fun h => h)).2.1 18).trans hi18
  have hak := (hF_10.2 a ham (fun h => h)).1.trans hak
  have h0 : FR S T_10 (fun x => x = a) := h0.tr hF_10 (fun _ _ h => h) (fun _ _ h => h.elim)
  have ham := hF_10.1 a ham
  have m_q_38 : q_38 ∈ sL T_10 := by rw [hT_10]; exact nw_own
  have k_q_38 : sK T_10 q_38 = 6 := by rw [hT_10]; exact nw_Ko
  have z_q_38 : ∀ f, sI T_10 f q_38 = 0 := fun f => by rw [hT_10]; exact nw_Io
  show G C (cW (xy C) T_10) 31 313 41 [(0, .ref (a))] [.ref (q_38), .ref (a)]
  refine g_dup E dX5_init_41 rfl ?_
  refine c_invI (n := 0) (rest := [.ref (q_38), .ref (a)]) E (m_Jx4a65c_init_da8c8 (xl C) E.tr (xD C) (xy C) e0 (S := T_10) m_q_38 k_q_38) gX5_init_Jx4a65c_init_da8c8 rfl rfl rfl (List.mem_cons_of_mem _ (List.mem_append_left _ (List.mem_append_left _ (List.mem_append_left _ (List.mem_append_left _ (List.mem_append_left _ (List.mem_of_getElem? (i := 9) rfl))))))) (List.mem_cons_of_mem _ (List.mem_append_left _ (List.mem_append_left _ (List.mem_append_left _ (List.mem_append_left _ (List.mem_append_right _ (List.mem_of_getElem? (i := 8) rfl))))))) (List.mem_cons_of_mem _ (List.mem_append_left _ (List.mem_append_left _ (List.mem_append_left _ (List.mem_append_left _ (List.mem_append_right _ (List.mem_of_getElem? (i := 9) rfl))))))) rfl (by decide +kernel) ⟨Nat.le_of_ble_eq_true rfl, Nat.le_of_ble_eq_true rfl⟩ rfl rfl (Nat.le_of_ble_eq_true rfl) dX5_init_42 ⟨Nat.le_of_ble_eq_true rfl, Nat.le_of_ble_eq_true rfl⟩ (fun _ _ h9 => h9.elim) (fun v9 S9_42 h9 => ?_)
  obtain ⟨hv9, hS9⟩ := h9
  rw [hv9, hS9]
  have hT_11 : ∃ T, T = uP (uI T_10 19 q_38 0) 14 q_38 (some e0) := ⟨_, rfl⟩
  obtain ⟨T_11, hT_11⟩ := hT_11
  rw [← hT_11]
  have hF_11 : FR T_10 T_11 (fun x => x = q_38) := by rw [hT_11]; exact FR.tr (FR.uI (a := q_38)) (FR.uP (a := q_38)) (fun _ _ h => h) (fun _ _ h => h)
  have L_q_16 := L_q_16.fr hF_11 (hd_q_16_q_38)
  have L_q_27 := L_q_27.fr hF_11 (hd_q_27_q_38)
  have hRd := hRd.frz hF_11 hN_q_38
  have hP9 := ((hF_11.2 a ham (fun e => hne_q_38 e.symm)).2.2.2.1 9).trans hP9
  have hP10 := ((hF_11.2 a ham (fun e => hne_q_38 e.symm)).2.2.2.1 10).trans hP10
  have hP11 := ((hF_11.2 a ham (fun e => hne_q_38 e.symm)).2.2.2.1 11).trans hP11
  have hi18 := ((hF_11.2 a ham (fun e => hne_q_38 e.symm)).2.1 18).trans hi18
  have hak := (hF_11.2 a ham (fun e => hne_q_38 e.symm)).1.trans hak
  have h0 : FR S T_11 (fun x => x = a) := h0.tr hF_11 (fun _ _ h => h) (fun x hx h => absurd hx (h ▸ hn_q_38))
  have ham := hF_11.1 a ham
  have L_q_38 : LsF e0 T_11 q_38 := ⟨hF_11.1 _ m_q_38, by rw [hT_11, sk_uP, sk_uI]; exact k_q_38, by rw [hT_11]; show up2 T_10.2.2.1 19 q_38 0 20 q_38 = 0; rw [up2_nf (by decide)]; exact z_q_38 20, by rw [hT_11]; exact up2_self _ _ _ _⟩
  show G C (cW (xy C) T_11) 31 313 45 [(0, .ref (a))] [.ref (q_38), .ref (a)]
  refine p_put_PW_allOpenings (S := T_11) (v := some q_38) E ham hak (fun _ h => (List.mem_cons_of_mem _ (List.mem_append_left _ (List.mem_append_left _ (List.mem_append_right _ h))))) hin rfl (List.mem_cons_of_mem _ (List.mem_append_left _ (List.mem_append_left _ (List.mem_append_left _ (List.mem_append_left _ (List.mem_append_left _ (List.mem_of_getElem? (i := 12) rfl))))))) rfl dX5_init_45 ?_
  have hT_12 : ∃ T, T = uP T_11 12 a (some q_38) := ⟨_, rfl⟩
  obtain ⟨T_12, hT_12⟩ := hT_12
  rw [← hT_12]
  have hF_12 : FR T_11 T_12 (fun x => x = a) := by rw [hT_12]; exact FR.uP
  have L_q_16 := L_q_16.fr hF_12 (hne_q_16)
  have L_q_27 := L_q_27.fr hF_12 (hne_q_27)
  have L_q_38 := L_q_38.fr hF_12 (hne_q_38)
  have hRd := hRd.frz hF_12 hN_a
  have h0 : FR S T_12 (fun x => x = a) := h0.tr hF_12 (fun _ _ h => h) (fun _ _ h => h)
  have ham := hF_12.1 a ham
  have hP9 : sP T_12 9 a = some q_5 := by rw [hT_12]; show up2 T_11.2.2.2.2.1 12 a (some q_38) 9 a = _; rw [up2_nf (by decide)]; exact hP9
  have hP10 : sP T_12 10 a = some q_16 := by rw [hT_12]; show up2 T_11.2.2.2.2.1 12 a (some q_38) 10 a = _; rw [up2_nf (by decide)]; exact hP10
  have hP11 : sP T_12 11 a = some q_27 := by rw [hT_12]; show up2 T_11.2.2.2.2.1 12 a (some q_38) 11 a = _; rw [up2_nf (by decide)]; exact hP11
  have hi18 : sI T_12 18 a = 0 := by rw [hT_12]; exact hi18
  have hak : sK T_12 a = 5 := by rw [hT_12, sk_uP]; exact hak
  have hP12 : sP T_12 12 a = some q_38 := by rw [hT_12]; exact up2_self _ _ _ _
  show G C (cW (xy C) T_12) 31 313 48 [(0, .ref (a))] []
  refine g_aload_n E dX5_init_48 rfl 0 rfl ?_
  refine g_bipush (v := 6) E dX5_init_49 (by decide) ?_
  refine p_newa (S := T_12) E (List.mem_cons_of_mem _ (List.mem_append_left _ (List.mem_append_left _ (List.mem_append_left _ (List.mem_append_left _ (List.mem_append_left _ (List.mem_of_getElem? (i := 13) rfl))))))) 6 rfl (by decide) (Nat.le_of_ble_eq_true rfl) (Nat.le_of_ble_eq_true rfl) dX5_init_51 (fun qp h_qp => ?_)
  have hn_qp : qp ∉ sL S := fun h => h_qp (h0.1 _ h)
  have hne_qp : qp ≠ a := fun e => h_qp (e ▸ ham)
  have hd_q_16_qp : q_16 ≠ qp := fun e => h_qp (e ▸ L_q_16.1)
  have hd_q_27_qp : q_27 ≠ qp := fun e => h_qp (e ▸ L_q_27.1)
  have hd_q_38_qp : q_38 ≠ qp := fun e => h_qp (e ▸ L_q_38.1)
  have hN_qp := hRd.ne h_qp
  have hT_13 : ∃ T, T = nw T_12 qp 7 6 := ⟨_, rfl⟩
  obtain ⟨T_13, hT_13⟩ := hT_13
  rw [← hT_13]
  have hF_13 : FR T_12 T_13 (fun _ => False) := by rw [hT_13]; exact FR.nw h_qp
  have L_q_16 := L_q_16.fr hF_13 (fun h => h)
  have L_q_27 := L_q_27.fr hF_13 (fun h => h)
  have L_q_38 := L_q_38.fr hF_13 (fun h => h)
  have hRd := hRd.fr0 hF_13
  have hP9 := ((hF_13.2 a ham (fun h => h)).2.2.2.1 9).trans hP9
  have hP10 := ((hF_13.2 a ham (fun h => h)).2.2.2.1 10).trans hP10
  have hP11 := ((hF_13.2 a ham (fun h => h)).2.2.2.1 11).trans hP11
  have hP12 := ((hF_13.2 a ham (fun h => h)).2.2.2.1 12).trans hP12
  have hi18 := ((hF_13.2 a ham (fun h => h)).2.1 18).trans hi18
  have hak := (hF_13.2 a ham (fun h => h)).1.trans hak
  have h0 : FR S T_13 (fun x => x = a) := h0.tr hF_13 (fun _ _ h => h) (fun _ _ h => h.elim)
  have ham := hF_13.1 a ham
  have A_qp : Ar T_13 qp 6 := by rw [hT_13]; exact Ar.new
  have hApp := hN_qp.2.1
  show G C (cW (xy C) T_13) 32 319 53 [(0, .ref (a))] [.ref (qp), .ref (a)]
  refine p_put_PW_points (S := T_13) (v := some qp) E ham hak (fun _ h => (List.mem_cons_of_mem _ (List.mem_append_left _ (List.mem_append_left _ (List.mem_append_right _ h))))) hin rfl (List.mem_cons_of_mem _ (List.mem_append_left _ (List.mem_append_left _ (List.mem_append_left _ (List.mem_append_left _ (List.mem_append_left _ (List.mem_of_getElem? (i := 14) rfl))))))) rfl dX5_init_53 ?_
  have hT_14 : ∃ T, T = uP T_13 13 a (some qp) := ⟨_, rfl⟩
  obtain ⟨T_14, hT_14⟩ := hT_14
  rw [← hT_14]
  have hF_14 : FR T_13 T_14 (fun x => x = a) := by rw [hT_14]; exact FR.uP
  have L_q_16 := L_q_16.fr hF_14 (hne_q_16)
  have L_q_27 := L_q_27.fr hF_14 (hne_q_27)
  have L_q_38 := L_q_38.fr hF_14 (hne_q_38)
  have A_qp := A_qp.fr hF_14 (hne_qp)
  have hRd := hRd.frz hF_14 hN_a
  have h0 : FR S T_14 (fun x => x = a) := h0.tr hF_14 (fun _ _ h => h) (fun _ _ h => h)
  have ham := hF_14.1 a ham
  have hP9 : sP T_14 9 a = some q_5 := by rw [hT_14]; show up2 T_13.2.2.2.2.1 13 a (some qp) 9 a = _; rw [up2_nf (by decide)]; exact hP9
  have hP10 : sP T_14 10 a = some q_16 := by rw [hT_14]; show up2 T_13.2.2.2.2.1 13 a (some qp) 10 a = _; rw [up2_nf (by decide)]; exact hP10
  have hP11 : sP T_14 11 a = some q_27 := by rw [hT_14]; show up2 T_13.2.2.2.2.1 13 a (some qp) 11 a = _; rw [up2_nf (by decide)]; exact hP11
  have hP12 : sP T_14 12 a = some q_38 := by rw [hT_14]; show up2 T_13.2.2.2.2.1 13 a (some qp) 12 a = _; rw [up2_nf (by decide)]; exact hP12
  have hi18 : sI T_14 18 a = 0 := by rw [hT_14]; exact hi18
  have hak : sK T_14 a = 5 := by rw [hT_14, sk_uP]; exact hak
  have hP13 : sP T_14 13 a = some qp := by rw [hT_14]; exact up2_self _ _ _ _
  show G C (cW (xy C) T_14) 32 319 56 [(0, .ref (a))] []
  refine g_e0 E (fun he9 => ?_)
  exact g_vret E hE hr dX5_init_56 (Nat.le_of_ble_eq_true rfl) (Nat.le_of_ble_eq_true rfl) ⟨T_14, rfl, rfl, h0, _, ci_new hRd hinjA hW01 L_q_16 L_q_27 L_q_38 hd_q_16_q_27 hd_q_16_q_38 hd_q_27_q_38 A_qp hApp ham hak hi18 hP9 hP10 hP11 hP12 hP13 he9, rfl⟩
