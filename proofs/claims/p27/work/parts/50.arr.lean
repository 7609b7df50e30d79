/-! arrays of objects -/
section PAR
variable {C : gT} {cc : ByteArray} {nL : Nat} {Ts : List Cond} {own : String} {e0 : Nat} {rm : Room} {S : wS} {mc ms pc : Nat} {L : List (Nat × Value)} {st : List Value} {a idx : Nat}
theorem g_alen0 {ws : va_W} (E : gOk C cc nL Ts own e0 rm) (d : decode cc pc = .ok (.arraylength, 1)) (kk : G C ws mc ms (pc + 1) L (.int 0 :: st)) : G C ws mc ms pc L (.ref e0 :: st) := fun H locs ls hP hD hS hL =>
  va_tlen (N := 0) E.exec E.code E.ev.2.2.2.2.2.1 hS rfl d (kk H locs ls hP hD hS hL)
theorem g_gets0 {ws : va_W} (E : gOk C cc nL Ts own e0 rm) (hlk : Cond.fieldLink own idx "java/util/ArrayList" "DEFAULTCAPACITY_EMPTY_ELEMENTDATA" "[Ljava/lang/Object;" ∈ Ts) (d : decode cc pc = .ok (.getstatic idx, 3)) (kk : G C ws mc ms (pc + 3) L (.ref e0 :: st)) : G C ws mc ms pc L st := fun H locs ls hP hD hS hL =>
  va_gets E.exec E.code E.ev.2.2.2.2.1 hS E.ow (E.ts _ hlk) (fun _ h => h) d (kk H locs ls hP hD hS hL)
theorem p_anewO (E : gOk C cc nL Ts own e0 rm) (hlk : Cond.classLink own idx "java/lang/Object" ∈ Ts) {n : Int32} (N : Nat) (hn : n = nI N) (hN : N ≤ 1000) (hc : mc + 1 ≤ rm.cells) (hs : ms + N ≤ rm.slots) (d : decode cc pc = .ok (.anewarray idx, 3)) (kk : ∀ q : Nat, q ∉ sL S → G C (cW (xy C) (nw S q 8 N)) (mc + 1) (ms + N) (pc + 3) L (.ref q :: st)) : G C (cW (xy C) S) mc ms pc L (.int n :: st) := by
  intro H locs ls hP hD hS hL
  refine va_newq (N' := N) E.exec E.code E.ow (E.ts _ hlk) E.ev.2.2.2.2.2.2.1 E.K hP hD hS E.A (by rw [hn]; exact Int32.not_lt.mpr (nI_pos' (by omega))) (by rw [hn]; exact nI_clamp (by omega)) (by omega) (by rw [E.room]; exact hc) (by rw [E.room]; exact hs) d (fun q cA H1 h0 h1 h2 h3 => ?_)
  have hcA : cA = xy C 3 := by
    have e1 := (h0.2 5 _ rfl).2
    have e2 := (E.K.2 3 _ rfl).2
    exact Option.some.inj ((va_nmO e1 rfl).symm.trans (va_nmO e2 rfl))
  subst hcA
  have hq : q ∉ sL S := va_pl_fresh2 (X := []) h2
  rw [cW_new (S' := nw S q 8 N) hq rfl ((wF_objs (va_up_self _ _ _)).trans (by simp [nw, sN, sQ, va_up_self])) (fun b h => wF_nw b h)] at h1 h2
  exact kk q hq H1 locs ls h1 h2 h3 hL
theorem up2_va {f : Nat → Nat → Option Nat} {a j : Nat} {v : Option Nat} : up2 f a j v a = va_up (f a) j v := by funext b; simp [up2, va_up]
theorem p_aast (E : gOk C cc nL Ts own e0 rm) (ha : a ∈ sL S) (hK : sK S a = 8) (hN : sN S a < 2 ^ 31) {b : Nat} (hb : b ∈ sL S) {ci : Nat} {q : vw_C} {fs : List Value} (hF : wF (xy C) S b = .inr (ci, fs)) (hq : vwCl[ci]? = some q) (hca : Cond.castable q.1 "java/lang/Object" ∈ lw_tbl) {i : Int32} (j : Nat) (hi : i = nI j) (hj : j < sN S a) (d : decode cc pc = .ok (.aastore, 1)) (kk : G C (cW (xy C) (uQ S a j (some b))) mc ms (pc + 1) L st) : G C (cW (xy C) S) mc ms pc L (.ref b :: .int i :: .ref a :: st) := by
  intro H locs ls hP hD hS hL
  obtain ⟨q0, hq0⟩ := cW_get (cy := xy C) ha
  obtain ⟨qk, hqk⟩ := cW_get (cy := xy C) hb
  obtain ⟨h1, h2⟩ := nI_at hi hj hN
  have hw := cW_put (S' := uQ S a j (some b)) (e := .inl (xy C 3, sN S a, .inr (.inr (.inr (.inr (va_up (sQ S a) j (some b))))))) hD ha hq0 rfl ((wF_objs (S := uQ S a j (some b)) hK).trans (by simp only [uQ, sN, sQ]; rw [up2_va])) (fun b h => wF_uQ b h)
  rw [wF_objs hK] at hq0
  rw [hF] at hqk
  refine va_astqO E.exec E.code E.K hP hD hS q0 3 qk ci hq0 rfl (E.ev.1 _ hca rfl) hqk hq h1 d (fun H1 locs1 g1 g2 g3 => ?_)
  rw [h2, hw] at g1 g2
  exact kk H1 locs1 ls g1 g2 g3 hL
theorem p_getC (E : gOk C cc nL Ts own e0 rm) (ha : a ∈ sL S) (hK : sK S a = 8) (hlk : Cond.methodLink own idx ⟨"java/lang/Object", "getClass", "()Ljava/lang/Class;"⟩ ∈ Ts) (hsel : Cond.selects "[Ljava/lang/Object;" ⟨"java/lang/Object", "getClass", "()Ljava/lang/Class;"⟩ ⟨"java/lang/Object", "getClass", "()Ljava/lang/Class;"⟩ ∈ Ts) (hin : Cond.instanceMethod ⟨"java/lang/Object", "getClass", "()Ljava/lang/Class;"⟩ ∈ Ts) (hna : Cond.native ⟨"java/lang/Object", "getClass", "()Ljava/lang/Class;"⟩ ∈ Ts)
    (hf : 1 ≤ rm.frames) (hlo : (st.map fun v => v.category).sum + 14 ≤ rm.locals) (d : decode cc pc = .ok (.invokevirtual idx, 3)) (kk : G C (cW (xy C) S) mc ms (pc + 3) L (.ref (xy C 9) :: st)) : G C (cW (xy C) S) mc ms pc L (.ref a :: st) := by
  intro H locs ls hP hD hS hL
  obtain ⟨q0, hq⟩ := cW_get (cy := xy C) ha
  rw [wF_objs hK] at hq
  refine va_getC E.exec E.code hL.1.symm E.ow (E.ts _ hlk) (va_Nw.use rfl E.ev.2.2.2.2.2.2.2.2.1) (E.ts _ hsel) (E.ts _ hin) (E.ts _ hna) E.Mi ⟨_, hP q0 _ hq, rfl, va_nmO (E.K.2 3 _ rfl).2 rfl⟩ (by rw [E.room]; exact hf) (by rw [E.room]; exact hlo) d (kk H locs ls hP hD hS hL)
theorem g_ldcM {ws : va_W} (E : gOk C cc nL Ts own e0 rm) (hlk : Cond.classLink own idx "[Ljava/lang/Object;" ∈ Ts) (d : decode cc pc = .ok (.ldc idx, 2)) (kk : G C ws mc ms (pc + 2) L (.ref (xy C 9) :: st)) : G C ws mc ms pc L st := fun H locs ls hP hD hS hL =>
  va_ldcM E.exec E.code E.ow (E.ts _ hlk) E.Mi d (kk H locs ls hP hD hS hL)
theorem p_copy (E : gOk C cc nL Ts own e0 rm) {b : Nat} (ha : a ∈ sL S) (hK : sK S a = 8) (hb : b ∈ sL S) (hKb : sK S b = 8) (hlk : Cond.methodLink own idx arraycopyName ∈ Ts) (hna : Cond.native arraycopyName ∈ Ts) (hsta : Cond.static arraycopyName ∈ Ts) (hini : Cond.initialized "java/lang/System" ∈ Ts)
    {ci : Nat} {qc : vw_C} (hq : vwCl[ci]? = some qc) (hca : Cond.castable qc.1 "java/lang/Object" ∈ lw_tbl) {n : Int32} (N : Nat) (hn : n = nI N) (hN : N ≤ 1000) (h0 : N ≤ sN S a) (h1 : N ≤ sN S b) (hel : ∀ k, k < N → ∀ y, sQ S a k = some y → y ∈ sL S ∧ ∃ fs, wF (xy C) S y = .inr (ci, fs))
    (hf : 1 ≤ rm.frames) (hlo : (st.map fun v => v.category).sum + (nativeFrameWords "java/lang/System" "arraycopy" 5 + 11) ≤ rm.locals) (d : decode cc pc = .ok (.invokestatic idx, 3)) (kk : G C (cW (xy C) (uQr S b (va_cpy (sQ S a) (sQ S b) 0 0 N))) mc ms (pc + 3) L st) : G C (cW (xy C) S) mc ms pc L (.int n :: .int 0 :: .ref b :: .int 0 :: .ref a :: st) := by
  intro H locs ls hP hD hS hL
  obtain ⟨q0, hq0⟩ := cW_get (cy := xy C) ha
  obtain ⟨q1, hq1⟩ := cW_get (cy := xy C) hb
  have hnc : n.toNatClampNeg = N := by rw [hn]; exact nI_clamp (by omega)
  have hw := cW_put (S' := uQr S b (va_cpy (sQ S a) (sQ S b) 0 0 N)) (e := .inl (xy C 3, sN S b, .inr (.inr (.inr (.inr (va_cpy (sQ S a) (sQ S b) 0 0 N)))))) hD hb hq1 rfl ((wF_objs (S := uQr S b (va_cpy (sQ S a) (sQ S b) 0 0 N)) hKb).trans (by simp [uQr, sN, sQ, va_up_self])) (fun b h => wF_uQr b h)
  rw [wF_objs hK] at hq0
  rw [wF_objs hKb] at hq1
  refine va_copyq (C := qc.1) E.exec E.code hL.1.symm E.ow (E.ts _ hlk) (E.ts _ hna) (E.ts _ hsta) (E.ts _ hini) E.K hP hD hS q0 q1 3 3 hq0 hq1 rfl rfl (by decide) (by decide) (by rw [hn]; exact nI_pos (by omega)) (by rw [hnc]; show 0 + N ≤ _; omega) (by rw [hnc]; show 0 + N ≤ _; omega) (fun k hk y hy => ?_) (vb_asgC (E.ev.1 _ hca rfl)) (by rw [E.room]; exact hf) (by rw [E.room]; exact hlo) d (fun H1 locs1 g1 g2 g3 => ?_)
  · rw [hnc] at hk
    obtain ⟨e1, fs, e2⟩ := hel k hk y (by have e := hy; rw [show (0 : Int32).toNatClampNeg + k = k from Nat.zero_add k] at e; exact e)
    obtain ⟨qy, hqy⟩ := cW_get (cy := xy C) e1
    rw [e2] at hqy
    exact va_recv E.K hP hq hqy
  · rw [hnc] at g1 g2
    rw [show ((0 : Int32).toNatClampNeg) = 0 from rfl, hw] at g1 g2
    exact kk H1 locs1 ls g1 g2 g3 hL
end PAR
theorem nI_shr1 : ∀ n : Fin 101, nI n.val >>> ((1 : Int32) &&& 31) = nI (n.val / 2) := by decide +kernel
theorem nI_half {n : Nat} (h : n ≤ 100) : nI n >>> ((1 : Int32) &&& 31) = nI (n / 2) := nI_shr1 ⟨n, by omega⟩
