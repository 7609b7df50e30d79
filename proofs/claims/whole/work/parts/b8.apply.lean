section ST
variable {c c' : Nat → Nat} {i i' : Nat → Nat → Int32} {j j' : Nat → Nat → Int64} {p p' : Nat → Nat → Option Nat} {r : Nat → Nat → Int32} {s s' : mS} {M N : Nat} {v' : Option Value}
theorem ix_ex {x : Int32} {n : Nat} (hn : n ≤ 1000) : ¬ isIx x n = 0 ↔ ∃ k, k < n ∧ x = nI k := by
  constructor
  · intro h; obtain ⟨k, hk, e⟩ := isIx_t hn h; exact ⟨k, hk, e⟩
  · rintro ⟨k, hk, rfl⟩ h; exact isIx_f hn h k hk rfl
theorem are_eq (h : RELn c i j p r s M N) {ap ln nd : Int32} : mARE M (c 2) ap ln nd ↔ ((∃ a, a < 6 ∧ ap = nI a) ∧ (∃ l, l < M ∧ ln = nI l) ∧ (nd = -1 ∨ ∃ z, z < c 2 ∧ nd = nI z)) := by
  have hb := h.b
  unfold mARE
  rw [ix_ex (by decide), ix_ex (by omega), ix_ex (by omega)]
theorem oks_eq (h : RELn c i j p r s M N) {fr hs : Int32} : mOKS s fr hs ↔ (¬ fr < 0 ∧ ¬ 4900 < fr ∧ ¬ hs < 1 ∧ ¬ 40 < hs ∧ ¬ fr < i 18 0) := by
  have hN := h.1.2.2.2.2.2.2.2.2.2.2.1
  have hN' := h.1.2.2.2.2.2.2.2.2.2.2.2.1
  unfold mOKS
  rw [hN, hN', show (0 ≤ fr ∧ fr ≤ 4900) ↔ (¬ fr < 0 ∧ ¬ 4900 < fr) from rngI (a := 0) (b := 4900) (by decide) (by decide), show (1 ≤ hs ∧ hs ≤ 40) ↔ (¬ hs < 1 ∧ ¬ 40 < hs) from rngI (a := 1) (b := 40) (by decide) (by decide), ← Int32.not_lt]
  exact ⟨fun z => ⟨z.1.1, z.1.2, z.2.1.1, z.2.1.2, z.2.2⟩, fun z => ⟨⟨z.1, z.2.1⟩, ⟨z.2.2.1, z.2.2.2.1⟩, z.2.2.2.2⟩⟩
theorem OPS_eq {I : Nat → Nat → Int32} {J : Nat → Nat → Int64} {k : Nat} {a b d : Int32} {e : Int64} (h : OPS I J k = (a, b, d, e)) : I 2 k = a ∧ I 3 k = b ∧ I 4 k = d ∧ J 1 k = e := by
  unfold OPS at h
  simp only [Prod.mk.injEq] at h
  exact h
theorem muI0 {s : mS} : (∀ f, f ≠ 0 → mi (muI s 0 0) f = mi s f) ∧ (∀ f, mr (muI s 0 0) f = mr s f) ∧ ∀ f, ml (muI s 0 0) f = ml s f := ⟨fun _ h => va_up_ne _ _ h, fun _ => rfl, fun _ => rfl⟩
theorem mNew_is {s : mS} {no : Nat} {fr en : Int32} : (∀ f, f ≠ 0 → f ≠ 24 → mi (mNew s no fr en) f = mi s f) ∧ mi (mNew s no fr en) 24 = nI no + 1 ∧ mi (mNew s no fr en) 0 = 0 ∧ (∀ f, f ≠ 22 → f ≠ 23 → mr (mNew s no fr en) f = mr s f) ∧ mr (mNew s no fr en) 22 = upd (mr s 22) no fr ∧ mr (mNew s no fr en) 23 = upd (mr s 23) no en ∧ ∀ f, ml (mNew s no fr en) f = ml s f := by
  refine ⟨fun f h0 h5 => ?_, rfl, rfl, fun f h6 h7 => ?_, rfl, rfl, fun _ => rfl⟩
  · show va_up (va_up s.1 0 0) 24 _ f = _
    rw [va_up_ne _ _ h5, va_up_ne _ _ h0]
  · show va_up (va_up s.2.1 22 _) 23 _ f = _
    rw [va_up_ne _ _ h7, va_up_ne _ _ h6]
theorem mOld_is {s : mS} {o : Nat} {fr en : Int32} : (∀ f, f ≠ 0 → mi (mOld s o fr en) f = mi s f) ∧ mi (mOld s o fr en) 0 = 0 ∧ (∀ f, f ≠ 22 → f ≠ 23 → mr (mOld s o fr en) f = mr s f) ∧ mr (mOld s o fr en) 22 = upd (mr s 22) o (if fr < mr s 22 o then fr else mr s 22 o) ∧ mr (mOld s o fr en) 23 = upd (mr s 23) o (if mr s 23 o < en then en else mr s 23 o) ∧ ∀ f, ml (mOld s o fr en) f = ml s f := by
  refine ⟨fun f h0 => va_up_ne _ _ h0, rfl, fun f h6 h7 => ?_, rfl, rfl, fun _ => rfl⟩
  show va_up (va_up s.2.1 22 _) 23 _ f = _
  rw [va_up_ne _ _ h7, va_up_ne _ _ h6]
theorem mAp_mi0 {s2 : mS} {np : Nat} {ap ln fr en nd ur st w o : Int32} : mi (mAp s2 np ap ln fr en nd ur st w o) 0 = mi s2 0 := mAp_is.1 0 (by decide)
theorem st_apply (h : RELn c i j p r s M N) {ap ln fr hs nd ur : Int32} (hQ : (∃ a BK w st o s2, mNUM M (c 2) ap ln nd a BK s fr ∧ mOKS s fr hs ∧ (c 2) < 40 ∧ WHY s (c 2) a ln fr (fr + hs) ur BK w ∧ mAPP s (c 2) (c 1) ln fr (fr + hs) ur w st o s2 ∧ v' = some (.int (nI (c 2))) ∧ s' = mAp s2 (c 2) ap ln fr (fr + hs) nd ur st w o) ∨ (∃ cc : Int32, v' = some (.int 0) ∧ s' = muI s 0 cc ∧ ((cc = 1 ∧ ¬ mARE M (c 2) ap ln nd) ∨ (cc = 2 ∧ mARE M (c 2) ap ln nd ∧ ¬ mOKS s fr hs) ∨ (cc = 3 ∧ mARE M (c 2) ap ln nd ∧ mOKS s fr hs ∧ (c 2) = 40)))) {a l : Nat} {pn : Option Nat} (ha : a < 6) (hap : ap = nI a) (hl : l < M) (hln : ln = nI l) (hnd : (nd = -1 ∧ pn = none) ∨ ∃ z, z < c 2 ∧ nd = nI z ∧ pn = some z) (hok : (¬ fr < 0 ∧ ¬ 4900 < fr ∧ ¬ hs < 1 ∧ ¬ 40 < hs ∧ ¬ fr < i 18 0)) (hc : c 2 < 40) {o : Option Nat} {cz : Int32} (ho : o = metO i p ln fr (fr + hs) ur (c 2)) (hcz : cz = cauV i r j p a ln fr (fr + hs) ur (c 1) pn o) (hAR : AR c i j p c' i' j' p' o pn cz ap ln fr (fr + hs) ur) : mi s' 0 = 0 ∧ v' = some (.int (nI (c 2))) ∧ RELn c' i' j' p' r s' M N := by
  have hB := h.b
  rcases hQ with ⟨a', BK, w, st, ow, s2, hNUM, -, -, hW, hAPP, hv, hs'⟩ | ⟨cc, -, -, z⟩
  · obtain ⟨ha', hap', -, hnd'⟩ := hNUM
    have ea : a' = a := nI_inj (by omega) (by omega) (hap'.symm.trans hap)
    rw [ea] at hW
    have hbk : (pn = none ∧ BK = False) ∨ ∃ z, z < c 2 ∧ pn = some z ∧ BK = BKz s z fr := by
      rcases hnd with ⟨e1, e2⟩ | ⟨z, z1, z2, z3⟩ <;> rcases hnd' with ⟨y1, y2⟩ | ⟨y, y1, y2, y3⟩
      · exact Or.inl ⟨e2, y2⟩
      · exact absurd (e1.symm.trans y2) (nI_nm1 (by omega))
      · exact absurd (y1.symm.trans z2) (nI_nm1 (by omega))
      · have e := nI_inj (by omega) (by omega) (y2.symm.trans z2)
        exact Or.inr ⟨z, z1, z3, by rw [y3, e]⟩
    have hcw : cz = w := by rw [hcz, ho]; exact cau_eq h ha hbk hW
    obtain ⟨f, hf, efr⟩ := inN (b := 4900) (by decide) hok.1 hok.2.1
    obtain ⟨g, hg, ehs⟩ := inN (x := hs) (b := 40) (by decide) (fun z => hok.2.2.1 (Int32.lt_trans z (by decide))) hok.2.2.2.1
    have hg1 : 1 ≤ g := by
      have := hok.2.2.1
      rw [ehs, show (1 : Int32) = nI 1 from rfl, nI_ltI (by omega) (by decide)] at this
      omega
    have een : fr + hs = nI (f + g) := by rw [efr, ehs, nI_add]
    rw [een] at hAPP ho hAR hs'
    obtain ⟨a1, a2, a3, a4, a5, ⟨b5, b6, b7, b8, b9, b10, b11, b12, b13, b14, bj, -, bp⟩, hOP⟩ := hAR
    rw [hap] at b6
    rw [hln] at b7
    have hN24 := h.1.2.2.2.2.2.2.2.1
    refine ⟨?_, hv, ?_⟩
    · rw [hs', mAp_mi0]
      rcases hAPP with ⟨-, -, -, e⟩ | ⟨-, -, -, -, e⟩ | ⟨-, -, q, -, -, -, -, -, -, e⟩
      · rw [e]; exact mi0_mu
      · rw [e]; exact mNew_is.2.2.1
      · rw [e]; exact mOld_is.2.1
    · rw [hs', hap, hln]
      rw [hcw] at b11 b12 hOP
      rcases hAPP with ⟨w1, w2, w3, w4⟩ | ⟨w1, w2, w3, w4, w5⟩ | ⟨w1, w2, q, q1, q2, q3, q4, q5, w4, w5⟩
      · -- refused
        rcases hOP with ⟨-, z2, z3, z4⟩ | ⟨z, -⟩ | ⟨z, -⟩
        · rw [if_neg w1] at b11
          rw [w2, w3, w4]
          refine h.apply hc ha hl hnd a1 a2 a3 a4 a5 b5 b6 b7 b8 b9 b10 b11 b12 b13 b14 bj bp (Or.inr rfl) (by omega) (by omega) (fun k hk => (OPS_eq (z4 k hk)).1) (fun f h0 _ => muI0.1 f h0) ((muI0.1 24 (by decide)).trans (by rw [z2]; exact hN24)) (fun f _ _ => muI0.2.1 f) muI0.2.2 (Or.inl ⟨rfl, z3⟩) (fun y hy => ?_)
          rw [z2] at hy
          obtain ⟨o1, o2, o3, o4⟩ := OPS_eq (z4 y hy)
          obtain ⟨p1, p2, -, p4⟩ := h.op y hy
          rw [muI0.2.1, muI0.2.1]
          exact ⟨o2.trans p1, o3.trans p2, p4, Or.inl ⟨fun z => absurd z.1 (by decide), hy, o4⟩⟩
        · exact absurd z w1
        · exact absurd z w1
      · -- an opening by itself
        have hO := own_eq h w3
        have hon : o = none := by
          rcases hO with ⟨e, -⟩ | ⟨y, hy, -, e, -⟩
          · rw [ho]; exact e
          · exact absurd e (nI_nm1 (by omega))
        rcases hOP with ⟨z, -⟩ | ⟨-, y, z, -⟩ | ⟨-, -, z3, z4, z5, z6⟩
        · exact absurd w1 z
        · rw [hon] at z; cases z
        · rw [if_pos w1] at b11
          obtain ⟨n1, n2, -, n4, n5, n6, n7⟩ := mNew_is (s := s) (no := c 1) (fr := fr) (en := nI (f + g))
          obtain ⟨o1, o2, o3, o4⟩ := OPS_eq z5
          rw [w2, w4, w5]
          refine h.apply hc ha hl hnd a1 a2 a3 a4 a5 b5 b6 b7 b8 b9 b10 b11 b12 b13 b14 bj bp (Or.inl rfl) (by omega) (by omega) (fun k hk => (OPS_eq (z6 k hk)).1) n1 (by rw [n2, z4, nI_1]) n4 n7 (Or.inr ⟨by decide, c 1, by omega, z3, rfl, by rw [o1, hln]⟩) (fun y hy => ?_)
          rw [n5, n6]
          by_cases e : y = c 1
          · rw [e, upd_at', upd_at', o2, o3]
            unfold mnI mxI
            rw [ite_self, ite_self]
            exact ⟨rfl, rfl, ⟨f, f + g, efr, rfl, by omega, by omega⟩, Or.inr (Or.inr ⟨rfl, rfl, rfl, o4⟩)⟩
          · rw [upd_ne' e, upd_ne' e]
            have hy1 : y < c 1 := by omega
            obtain ⟨x1, x2, x3, x4⟩ := OPS_eq (z6 y hy1)
            obtain ⟨p1, p2, -, p4⟩ := h.op y hy1
            exact ⟨x2.trans p1, x3.trans p2, p4, Or.inl ⟨fun z => e (nI_inj (by omega) (by omega) z.2).symm, hy1, x4⟩⟩
      · -- put together
        have hO := own_eq h (ln := ln) (fr := fr) (en := nI (f + g)) (ur := ur) (own := mr s 19 q) (Or.inr ⟨q3, Or.inl ⟨q, q1, q4, q5, rfl⟩⟩)
        obtain ⟨y, hy, ey, e19⟩ : ∃ y, y < c 1 ∧ o = some y ∧ mr s 19 q = nI y := by
          rcases hO with ⟨-, e⟩ | ⟨y, y1, y2, y3, -⟩
          · exact absurd (e.symm.trans q2) (nI_nm1 (by have := (h.pm.hop hB.2.2.1 hB.2.1 q q1 q4.1.1).2; omega))
          · exact ⟨y, y1, by rw [ho]; exact y2, y3⟩
        rcases hOP with ⟨z, -⟩ | ⟨-, y', z, z2, z3, z4, z5, z6⟩ | ⟨-, z, -⟩
        · exact absurd w1 z
        · rw [ey] at z
          cases z
          rw [if_pos w1] at b11
          rw [e19, tn_nI (by omega)] at w5
          obtain ⟨n1, -, n4, n5, n6, n7⟩ := mOld_is (s := s) (o := y) (fr := fr) (en := nI (f + g))
          obtain ⟨o1, o2, o3, o4⟩ := OPS_eq z5
          obtain ⟨p1, p2, -, f0, e0, p4, p5, p6, p7⟩ := h.op y hy
          rw [w2, w4, w5, e19]
          have hlane : i 2 y = ln := by
            have hq := (h.pm q q1).2.2.2.2.1
            rcases hq with ⟨x, -⟩ | ⟨-, o2, x1, -, x3, x4⟩
            · exact absurd x q4.1.1
            · have : o2 = y := nI_inj (by omega) (by omega) (x3.symm.trans e19)
              rw [← this]; exact x4.trans q4.2.2.1
          refine h.apply hc ha hl hnd a1 a2 a3 a4 a5 b5 b6 b7 b8 b9 b10 b11 b12 b13 b14 bj bp (Or.inl rfl) (by omega) (by omega) (fun k hk => ?_) (fun f h0 _ => n1 f h0) ((n1 24 (by decide)).trans (by rw [z4]; exact hN24)) n4 n7 (Or.inr ⟨by decide, y, by omega, z3, rfl, by rw [o1, hlane, hln]⟩) (fun k hk => ?_)
          · by_cases e : k = y
            · rw [e]; exact o1
            · exact (OPS_eq (z6 k hk e)).1
          · rw [z4] at hk
            rw [n5, n6]
            by_cases e : k = y
            · rw [e, upd_at', upd_at', o2, o3, p1, p2]
              refine ⟨rfl, rfl, ?_, Or.inr (Or.inl ⟨rfl, rfl, hy, o4⟩)⟩
              rw [p4, p5, efr]
              have e1 : (if nI f < nI f0 then nI f else nI f0) = nI (if f < f0 then f else f0) := by
                by_cases z : f < f0
                · rw [if_pos z, if_pos ((nI_ltI (by omega) (by omega)).mpr z)]
                · rw [if_neg z, if_neg (fun y => z ((nI_ltI (by omega) (by omega)).mp y))]
              have e2 : (if nI e0 < nI (f + g) then nI (f + g) else nI e0) = nI (if e0 < f + g then f + g else e0) := by
                by_cases z : e0 < f + g
                · rw [if_pos z, if_pos ((nI_ltI (by omega) (by omega)).mpr z)]
                · rw [if_neg z, if_neg (fun y => z ((nI_ltI (by omega) (by omega)).mp y))]
              refine ⟨_, _, e1, e2, ?_, ?_⟩
              · split <;> split <;> omega
              · split <;> omega
            · rw [upd_ne' e, upd_ne' e]
              obtain ⟨x1, x2, x3, x4⟩ := OPS_eq (z6 k hk e)
              obtain ⟨p1, p2, -, p4⟩ := h.op k hk
              exact ⟨x2.trans p1, x3.trans p2, p4, Or.inl ⟨fun z => e (nI_inj (by omega) (by omega) z.2).symm, hk, x4⟩⟩
        · rw [ey] at z; cases z
  · exfalso
    have hare : mARE M (c 2) ap ln nd := (are_eq h).mpr ⟨⟨a, ha, hap⟩, ⟨l, hl, hln⟩, hnd.elim (fun z => Or.inl z.1) (fun z => z.elim fun z y => Or.inr ⟨z, y.1, y.2.1⟩)⟩
    rcases z with ⟨-, z⟩ | ⟨-, -, z⟩ | ⟨-, -, -, z⟩
    · exact z hare
    · exact z ((oks_eq h).mpr hok)
    · omega
theorem stx_apply (h : RELn c i j p r s M N) {ap ln fr hs nd ur : Int32} (hQ : (∃ a BK w st o s2, mNUM M (c 2) ap ln nd a BK s fr ∧ mOKS s fr hs ∧ (c 2) < 40 ∧ WHY s (c 2) a ln fr (fr + hs) ur BK w ∧ mAPP s (c 2) (c 1) ln fr (fr + hs) ur w st o s2 ∧ v' = some (.int (nI (c 2))) ∧ s' = mAp s2 (c 2) ap ln fr (fr + hs) nd ur st w o) ∨ (∃ cc : Int32, v' = some (.int 0) ∧ s' = muI s 0 cc ∧ ((cc = 1 ∧ ¬ mARE M (c 2) ap ln nd) ∨ (cc = 2 ∧ mARE M (c 2) ap ln nd ∧ ¬ mOKS s fr hs) ∨ (cc = 3 ∧ mARE M (c 2) ap ln nd ∧ mOKS s fr hs ∧ (c 2) = 40)))) {X : Int32} (hX : (X = 1 ∧ ¬ ((∃ a, a < 6 ∧ ap = nI a) ∧ (∃ l, l < M ∧ ln = nI l) ∧ (nd = -1 ∨ ∃ z, z < c 2 ∧ nd = nI z))) ∨ (X = 2 ∧ ((∃ a, a < 6 ∧ ap = nI a) ∧ (∃ l, l < M ∧ ln = nI l) ∧ (nd = -1 ∨ ∃ z, z < c 2 ∧ nd = nI z)) ∧ ¬ (¬ fr < 0 ∧ ¬ 4900 < fr ∧ ¬ hs < 1 ∧ ¬ 40 < hs ∧ ¬ fr < i 18 0)) ∨ (X = 3 ∧ ((∃ a, a < 6 ∧ ap = nI a) ∧ (∃ l, l < M ∧ ln = nI l) ∧ (nd = -1 ∨ ∃ z, z < c 2 ∧ nd = nI z)) ∧ (¬ fr < 0 ∧ ¬ 4900 < fr ∧ ¬ hs < 1 ∧ ¬ 40 < hs ∧ ¬ fr < i 18 0) ∧ ¬ c 2 < 40)) : mi s' 0 = X ∧ RELn c i j p r s' M N := by
  have hB := h.b
  rw [← are_eq h, ← oks_eq h] at hX
  rcases hQ with ⟨a', BK, w, st, ow, s2, hNUM, hOK, hnp, -⟩ | ⟨cc, -, hs, z⟩
  · exfalso
    obtain ⟨ha', hap', hl', hnd'⟩ := hNUM
    have hare : mARE M (c 2) ap ln nd := (are_eq h).mpr ⟨⟨a', ha', hap'⟩, hl', hnd'.elim (fun z => Or.inl z.1) (fun z => z.elim fun z y => Or.inr ⟨z, y.1, y.2.1⟩)⟩
    rcases hX with ⟨-, z⟩ | ⟨-, -, z⟩ | ⟨-, -, -, z⟩
    · exact z hare
    · exact z hOK
    · exact z hnp
  · have e : cc = X := by
      rcases z with ⟨e, z⟩ | ⟨e, z1, z⟩ | ⟨e, z1, z2, z⟩ <;> rcases hX with ⟨E, y⟩ | ⟨E, y1, y⟩ | ⟨E, y1, y3, y⟩
      · rw [e, E]
      · exact absurd y1 z
      · exact absurd y1 z
      · exact absurd z1 y
      · rw [e, E]
      · exact absurd y3 z
      · exact absurd z1 y
      · exact absurd z2 y
      · rw [e, E]
    rw [hs, ← e]
    exact ⟨mi0_mu, h.mu cc⟩
end ST
