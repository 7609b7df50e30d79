/-! the office's calls in the law's world -/
/-- what the law's rows say of the office -/
def LA (c : Nat → Nat) (i : Nat → Nat → Int32) (p : Nat → Nat → Option Nat) (r : Nat → Nat → Int32) (av : Nat → Nat → Int32) : Prop :=
  (∀ e, e < 14 → av 0 e = r 0 e ∧ av 1 e = r 1 e ∧ av 2 e = r 2 e) ∧ (∀ l, l < c 0 → av 3 l = i 1 l) ∧ ∀ k, k < c 2 → av 4 k = i 7 k ∧ av 5 k = i 10 k ∧ av 6 k = i 6 k ∧ ((p 1 k = none ∧ av 7 k = -1) ∨ ∃ z, z < k ∧ p 1 k = some z ∧ av 7 k = nI z)
section SCX
variable {c : Nat → Nat} {i i' : Nat → Nat → Int32} {j : Nat → Nat → Int64} {p : Nat → Nat → Option Nat} {r r' : Nat → Nat → Int32} {M N : Nat}
theorem sc_up2 (h : SC i r i' r') {f k : Nat} {v : Int32} (h1 : f ≠ 16) (h2 : f ≠ 17) : SC (up2 i f k v) r (up2 i' f k v) r' := by
  refine ⟨fun g g1 g2 => ?_, h.2⟩
  funext x
  unfold up2
  split
  · rfl
  · rw [h.1 g g1 g2]
theorem sc_bl (h : SC i r i' r') {l n2 n : Nat} : blM i' r' M l n2 n = blM i r M l n2 n := by
  unfold blM
  rw [h.1 6 (by decide) (by decide)]
  apply orM_congr
  intro k _
  rw [h.1 11 (by decide) (by decide), h.1 7 (by decide) (by decide), sc_ex h, sc_ex h]
theorem sc_pt (h : SC i r i' r') {b : Int32} : SC i (ptR r b 6) i' (ptR r' b 6) := by
  refine ⟨h.1, fun k hk => ?_⟩
  funext x
  unfold ptR
  rw [h.2 k hk]
/-- shifts of an office's view -/
def vup (i : Nat → Nat → Int32) (f : Nat) (g : Nat → Int32) : Nat → Nat → Int32 := fun x => if x = f then g else i x
theorem vup_at {f : Nat} {g : Nat → Int32} : vup i f g f = g := if_pos rfl
theorem vup_ne {f x : Nat} {g : Nat → Int32} (h : x ≠ f) : vup i f g x = i x := if_neg h
theorem kw_view (h : SC i r i' r') {m : Nat} {ii : Nat → Nat → Int32} {jj : Nat → Nat → Int64} (hW : KW c i' j p m ii jj) : KW c i j p m (vup i 11 (ii 11)) jj ∧ SC (vup i 11 (ii 11)) r ii r' := by
  obtain ⟨w1, w2, w3, w4, w5⟩ := hW
  refine ⟨⟨fun f hf => vup_ne hf, w2, fun q hq => ?_, fun o ho b hb => ?_, fun q hq z hz => ?_⟩, fun f h1 h2 => ?_, h.2⟩
  · rw [vup_at]
    have := w3 q hq
    rw [h.1 11 (by decide) (by decide)] at this
    exact this
  · rw [vup_at]; exact w4 o ho b hb
  · rw [vup_at]; exact w5 q hq z hz
  · by_cases e : f = 11
    · rw [e, vup_at]
    · rw [vup_ne e, w1 f e, h.1 f h1 h2]
end SCX
section LC
variable {C : gT} {cc : ByteArray} {nL : Nat} {Ts : List Cond} {own : String} {e0 a : Nat} {rm : Room} {W : va_W} {mc ms pc : Nat} {L : List (Nat × Value)} {st rest : List Value} {idx : Nat}
variable {aa : Nat → Nat} {av : Nat → Nat → Int32} {c : Nat → Nat} {i : Nat → Nat → Int32} {j : Nat → Nat → Int64} {p : Nat → Nat → Option Nat} {r : Nat → Nat → Int32} {M N : Nat}
theorem k_state (E : gOk C cc nL Ts own e0 rm) (hW : LW (xy C) e0 a aa av c i j p r M W) (hK : KN c i j p r M N) {k : Nat} (hk : k < c 2) (hG : GoodIn Ts (wsV own idx RX5 yX5_state wsX5_state)) (hR : 7 + 1 ≤ rm.frames ∧ 8 + (2 + 11) + 121 ≤ rm.locals) (hcat : (rest.map fun v => v.category).sum ≤ 8) (d : decode cc pc = .ok (.invokevirtual idx, 3)) (hf : mc + 1 ≤ rm.cells ∧ ms + 6 ≤ rm.slots) (kk : ∀ W', LW (xy C) e0 a aa av c i j p r M W' → G C W' (mc + 1) (ms + 6) (pc + 3) L (.int (i 11 k) :: rest)) : G C W mc ms pc L (.int (nI k) :: .ref a :: rest) := by
  obtain ⟨S, ad, i', r', rfl, hI, rfl, hS, hV⟩ := hW
  have hK' := hK.sc hS hV
  have hb := hK.b
  refine l_invV (W9 := 8) (n := 1) (As := [.int (nI k)]) E (m_X5_state (xl C) E.tr (xD C) (xy C) e0 hI) (hI.obj (kd := 5) (k := 0) (by omega) hI.c5).1 (hI.obj (kd := 5) (k := 0) (by omega) hI.c5).2 hG rfl rfl rfl (by decide +kernel) hR rfl rfl hcat d hf (fun X S' h => absurd rfl (h.2.1 k hk)) (fun v S' h => ?_)
  obtain ⟨rfl, k', hk', hx, rfl⟩ := h
  have ek : k' = k := nI_inj (by omega) (by omega) hx.symm
  subst ek
  rw [hS.1 11 (by decide) (by decide)]
  exact kk _ ⟨S', ad, i', r', rfl, hI, rfl, hS, hV⟩
theorem k_cause (E : gOk C cc nL Ts own e0 rm) (hW : LW (xy C) e0 a aa av c i j p r M W) (hK : KN c i j p r M N) {k : Nat} (hk : k < c 2) (hG : GoodIn Ts (wsV own idx RX5 yX5_cause wsX5_cause)) (hR : 7 + 1 ≤ rm.frames ∧ 8 + (2 + 11) + 121 ≤ rm.locals) (hcat : (rest.map fun v => v.category).sum ≤ 8) (d : decode cc pc = .ok (.invokevirtual idx, 3)) (hf : mc + 1 ≤ rm.cells ∧ ms + 6 ≤ rm.slots) (kk : ∀ W', LW (xy C) e0 a aa av c i j p r M W' → G C W' (mc + 1) (ms + 6) (pc + 3) L (.int (i 12 k) :: rest)) : G C W mc ms pc L (.int (nI k) :: .ref a :: rest) := by
  obtain ⟨S, ad, i', r', rfl, hI, rfl, hS, hV⟩ := hW
  have hK' := hK.sc hS hV
  have hb := hK.b
  refine l_invV (W9 := 8) (n := 1) (As := [.int (nI k)]) E (m_X5_cause (xl C) E.tr (xD C) (xy C) e0 hI) (hI.obj (kd := 5) (k := 0) (by omega) hI.c5).1 (hI.obj (kd := 5) (k := 0) (by omega) hI.c5).2 hG rfl rfl rfl (by decide +kernel) hR rfl rfl hcat d hf (fun X S' h => absurd rfl (h.2.1 k hk)) (fun v S' h => ?_)
  obtain ⟨rfl, k', hk', hx, rfl⟩ := h
  have ek : k' = k := nI_inj (by omega) (by omega) hx.symm
  subst ek
  rw [hS.1 12 (by decide) (by decide)]
  exact kk _ ⟨S', ad, i', r', rfl, hI, rfl, hS, hV⟩
theorem k_from (E : gOk C cc nL Ts own e0 rm) (hW : LW (xy C) e0 a aa av c i j p r M W) (hK : KN c i j p r M N) {k : Nat} (hk : k < c 2) (hG : GoodIn Ts (wsV own idx RX5 yX5_from wsX5_from)) (hR : 7 + 1 ≤ rm.frames ∧ 8 + (2 + 11) + 121 ≤ rm.locals) (hcat : (rest.map fun v => v.category).sum ≤ 8) (d : decode cc pc = .ok (.invokevirtual idx, 3)) (hf : mc + 1 ≤ rm.cells ∧ ms + 6 ≤ rm.slots) (kk : ∀ W', LW (xy C) e0 a aa av c i j p r M W' → G C W' (mc + 1) (ms + 6) (pc + 3) L (.int (froV i p k) :: rest)) : G C W mc ms pc L (.int (nI k) :: .ref a :: rest) := by
  obtain ⟨S, ad, i', r', rfl, hI, rfl, hS, hV⟩ := hW
  have hK' := hK.sc hS hV
  have hb := hK.b
  refine l_invV (W9 := 8) (n := 1) (As := [.int (nI k)]) E (m_X5_from (xl C) E.tr (xD C) (xy C) e0 hI) (hI.obj (kd := 5) (k := 0) (by omega) hI.c5).1 (hI.obj (kd := 5) (k := 0) (by omega) hI.c5).2 hG rfl rfl rfl (by decide +kernel) hR rfl rfl hcat d hf (fun X S' h => absurd rfl (h.2.1 k hk)) (fun v S' h => ?_)
  obtain ⟨rfl, k', hk', hx, rfl⟩ := h
  have ek : k' = k := nI_inj (by omega) (by omega) hx.symm
  subst ek
  rw [hS.1 8 (by decide) (by decide), hS.1 3 (by decide) (by decide)]
  exact kk _ ⟨S', ad, i', r', rfl, hI, rfl, hS, hV⟩
theorem k_end (E : gOk C cc nL Ts own e0 rm) (hW : LW (xy C) e0 a aa av c i j p r M W) (hK : KN c i j p r M N) {k : Nat} (hk : k < c 2) (hG : GoodIn Ts (wsV own idx RX5 yX5_end wsX5_end)) (hR : 7 + 1 ≤ rm.frames ∧ 8 + (2 + 11) + 121 ≤ rm.locals) (hcat : (rest.map fun v => v.category).sum ≤ 8) (d : decode cc pc = .ok (.invokevirtual idx, 3)) (hf : mc + 1 ≤ rm.cells ∧ ms + 6 ≤ rm.slots) (kk : ∀ W', LW (xy C) e0 a aa av c i j p r M W' → G C W' (mc + 1) (ms + 6) (pc + 3) L (.int (endV i p k) :: rest)) : G C W mc ms pc L (.int (nI k) :: .ref a :: rest) := by
  obtain ⟨S, ad, i', r', rfl, hI, rfl, hS, hV⟩ := hW
  have hK' := hK.sc hS hV
  have hb := hK.b
  refine l_invV (W9 := 8) (n := 1) (As := [.int (nI k)]) E (m_X5_end (xl C) E.tr (xD C) (xy C) e0 hI) (hI.obj (kd := 5) (k := 0) (by omega) hI.c5).1 (hI.obj (kd := 5) (k := 0) (by omega) hI.c5).2 hG rfl rfl rfl (by decide +kernel) hR rfl rfl hcat d hf (fun X S' h => absurd rfl (h.2.1 k hk)) (fun v S' h => ?_)
  obtain ⟨rfl, k', hk', hx, rfl⟩ := h
  have ek : k' = k := nI_inj (by omega) (by omega) hx.symm
  subst ek
  rw [hS.1 9 (by decide) (by decide), hS.1 4 (by decide) (by decide)]
  exact kk _ ⟨S', ad, i', r', rfl, hI, rfl, hS, hV⟩
theorem k_together (E : gOk C cc nL Ts own e0 rm) (hW : LW (xy C) e0 a aa av c i j p r M W) (hK : KN c i j p r M N) {k : Nat} (hk : k < c 2) (hG : GoodIn Ts (wsV own idx RX5 yX5_together wsX5_together)) (hR : 7 + 1 ≤ rm.frames ∧ 8 + (3 + 11) + 121 ≤ rm.locals) (hcat : (rest.map fun v => v.category).sum ≤ 8) (d : decode cc pc = .ok (.invokevirtual idx, 3)) (hf : mc + 1 ≤ rm.cells ∧ ms + 6 ≤ rm.slots) (kk : ∀ W', LW (xy C) e0 a aa av c i j p r M W' → G C W' (mc + 1) (ms + 6) (pc + 3) L (.long (togV j p k) :: rest)) : G C W mc ms pc L (.int (nI k) :: .ref a :: rest) := by
  obtain ⟨S, ad, i', r', rfl, hI, rfl, hS, hV⟩ := hW
  have hK' := hK.sc hS hV
  have hb := hK.b
  refine l_invV (W9 := 8) (n := 1) (As := [.int (nI k)]) E (m_X5_together (xl C) E.tr (xD C) (xy C) e0 hI) (hI.obj (kd := 5) (k := 0) (by omega) hI.c5).1 (hI.obj (kd := 5) (k := 0) (by omega) hI.c5).2 hG rfl rfl rfl (by decide +kernel) hR rfl rfl hcat d hf (fun X S' h => absurd rfl (h.2.1 k hk)) (fun v S' h => ?_)
  obtain ⟨rfl, k', hk', hx, rfl⟩ := h
  have ek : k' = k := nI_inj (by omega) (by omega) hx.symm
  subst ek
  exact kk _ ⟨S', ad, i', r', rfl, hI, rfl, hS, hV⟩
theorem k_fee (E : gOk C cc nL Ts own e0 rm) (hW : LW (xy C) e0 a aa av c i j p r M W) (hK : KN c i j p r M N) {k : Nat} (hk : k < c 2) (hG : GoodIn Ts (wsV own idx RX5 yX5_fee wsX5_fee)) (hR : 7 + 1 ≤ rm.frames ∧ 8 + (3 + 11) + 121 ≤ rm.locals) (hcat : (rest.map fun v => v.category).sum ≤ 8) (d : decode cc pc = .ok (.invokevirtual idx, 3)) (hf : mc + 1 ≤ rm.cells ∧ ms + 6 ≤ rm.slots) (kk : ∀ W', LW (xy C) e0 a aa av c i j p r M W' → G C W' (mc + 1) (ms + 6) (pc + 3) L (.int (feV i j p k) :: rest)) : G C W mc ms pc L (.int (nI k) :: .ref a :: rest) := by
  obtain ⟨S, ad, i', r', rfl, hI, rfl, hS, hV⟩ := hW
  have hK' := hK.sc hS hV
  have hb := hK.b
  refine l_invV (W9 := 8) (n := 1) (As := [.int (nI k)]) E (m_X5_fee (xl C) E.tr (xD C) (xy C) e0 hI) (hI.obj (kd := 5) (k := 0) (by omega) hI.c5).1 (hI.obj (kd := 5) (k := 0) (by omega) hI.c5).2 hG rfl rfl rfl (by decide +kernel) hR rfl rfl hcat d hf (fun X S' h => absurd rfl (h.2.1 k hk)) (fun v S' h => ?_)
  obtain ⟨rfl, k', hk', hx, rfl⟩ := h
  have ek : k' = k := nI_inj (by omega) (by omega) hx.symm
  subst ek
  rw [hS.1 11 (by decide) (by decide), hS.1 3 (by decide) (by decide), hS.1 4 (by decide) (by decide), hS.1 5 (by decide) (by decide)]
  exact kk _ ⟨S', ad, i', r', rfl, hI, rfl, hS, hV⟩
theorem k_fine (E : gOk C cc nL Ts own e0 rm) (hW : LW (xy C) e0 a aa av c i j p r M W) (hK : KN c i j p r M N) {k : Nat} (hk : k < c 2) (hG : GoodIn Ts (wsV own idx RX5 yX5_fine wsX5_fine)) (hR : 7 + 1 ≤ rm.frames ∧ 8 + (2 + 11) + 121 ≤ rm.locals) (hcat : (rest.map fun v => v.category).sum ≤ 8) (d : decode cc pc = .ok (.invokevirtual idx, 3)) (hf : mc + 1 ≤ rm.cells ∧ ms + 6 ≤ rm.slots) (kk : ∀ W', LW (xy C) e0 a aa av c i j p r M W' → G C W' (mc + 1) (ms + 6) (pc + 3) L (.long (2 * j 2 k) :: rest)) : G C W mc ms pc L (.int (nI k) :: .ref a :: rest) := by
  obtain ⟨S, ad, i', r', rfl, hI, rfl, hS, hV⟩ := hW
  have hK' := hK.sc hS hV
  have hb := hK.b
  refine l_invV (W9 := 8) (n := 1) (As := [.int (nI k)]) E (m_X5_fine (xl C) E.tr (xD C) (xy C) e0 hI) (hI.obj (kd := 5) (k := 0) (by omega) hI.c5).1 (hI.obj (kd := 5) (k := 0) (by omega) hI.c5).2 hG rfl rfl rfl (by decide +kernel) hR rfl rfl hcat d hf (fun X S' h => absurd rfl (h.2.1 k hk)) (fun v S' h => ?_)
  obtain ⟨rfl, k', hk', hx, rfl⟩ := h
  have ek : k' = k := nI_inj (by omega) (by omega) hx.symm
  subst ek
  exact kk _ ⟨S', ad, i', r', rfl, hI, rfl, hS, hV⟩
theorem k_minutes (E : gOk C cc nL Ts own e0 rm) (hW : LW (xy C) e0 a aa av c i j p r M W) (hK : KN c i j p r M N) {k : Nat} (hk : k < c 0) (hG : GoodIn Ts (wsV own idx RX5 yX5_minutes wsX5_minutes)) (hR : 7 + 1 ≤ rm.frames ∧ 8 + (2 + 11) + 121 ≤ rm.locals) (hcat : (rest.map fun v => v.category).sum ≤ 8) (d : decode cc pc = .ok (.invokevirtual idx, 3)) (hf : mc + 1 ≤ rm.cells ∧ ms + 6 ≤ rm.slots) (kk : ∀ W', LW (xy C) e0 a aa av c i j p r M W' → G C W' (mc + 1) (ms + 6) (pc + 3) L (.long (j 0 k) :: rest)) : G C W mc ms pc L (.int (nI k) :: .ref a :: rest) := by
  obtain ⟨S, ad, i', r', rfl, hI, rfl, hS, hV⟩ := hW
  have hK' := hK.sc hS hV
  have hb := hK.b
  refine l_invV (W9 := 8) (n := 1) (As := [.int (nI k)]) E (m_X5_minutes (xl C) E.tr (xD C) (xy C) e0 hI) (hI.obj (kd := 5) (k := 0) (by omega) hI.c5).1 (hI.obj (kd := 5) (k := 0) (by omega) hI.c5).2 hG rfl rfl rfl (by decide +kernel) hR rfl rfl hcat d hf (fun X S' h => absurd rfl (h.2.1 k hk)) (fun v S' h => ?_)
  obtain ⟨rfl, k', hk', hx, rfl⟩ := h
  have ek : k' = k := nI_inj (by omega) (by omega) hx.symm
  subst ek
  exact kk _ ⟨S', ad, i', r', rfl, hI, rfl, hS, hV⟩
theorem k_points (E : gOk C cc nL Ts own e0 rm) (hW : LW (xy C) e0 a aa av c i j p r M W) (hK : KN c i j p r M N) {k : Nat} (hk : k < 6) (hG : GoodIn Ts (wsV own idx RX5 yX5_points wsX5_points)) (hR : 7 + 1 ≤ rm.frames ∧ 8 + (2 + 11) + 120 ≤ rm.locals) (hcat : (rest.map fun v => v.category).sum ≤ 8) (d : decode cc pc = .ok (.invokevirtual idx, 3)) (hf : mc + 1 ≤ rm.cells ∧ ms + 6 ≤ rm.slots) (kk : ∀ W', LW (xy C) e0 a aa av c i j p r M W' → G C W' (mc + 1) (ms + 6) (pc + 3) L (.int (r 3 k) :: rest)) : G C W mc ms pc L (.int (nI k) :: .ref a :: rest) := by
  obtain ⟨S, ad, i', r', rfl, hI, rfl, hS, hV⟩ := hW
  have hK' := hK.sc hS hV
  have hb := hK.b
  refine l_invV (W9 := 8) (n := 1) (As := [.int (nI k)]) E (m_X5_points (xl C) E.tr (xD C) (xy C) e0 hI) (hI.obj (kd := 5) (k := 0) (by omega) hI.c5).1 (hI.obj (kd := 5) (k := 0) (by omega) hI.c5).2 hG rfl rfl rfl (by decide +kernel) hR rfl rfl hcat d hf (fun X S' h => absurd rfl (h.2.1 k hk)) (fun v S' h => ?_)
  obtain ⟨rfl, k', hk', hx, rfl⟩ := h
  have ek : k' = k := nI_inj (by omega) (by omega) hx.symm
  subst ek
  rw [hS.2 3 (by omega)]
  exact kk _ ⟨S', ad, i', r', rfl, hI, rfl, hS, hV⟩
theorem k_isClosed (E : gOk C cc nL Ts own e0 rm) (hW : LW (xy C) e0 a aa av c i j p r M W) (hK : KN c i j p r M N) {k : Nat} (hk : k < M) (hG : GoodIn Ts (wsV own idx RX5 yX5_isClosed wsX5_isClosed)) (hR : 7 + 1 ≤ rm.frames ∧ 8 + (2 + 11) + 121 ≤ rm.locals) (hcat : (rest.map fun v => v.category).sum ≤ 8) (d : decode cc pc = .ok (.invokevirtual idx, 3)) (hf : mc + 1 ≤ rm.cells ∧ ms + 6 ≤ rm.slots) (kk : ∀ W', LW (xy C) e0 a aa av c i j p r M W' → G C W' (mc + 1) (ms + 6) (pc + 3) L (.int (bI (¬ (clM (fun k => i 11 k) (fun k => i 7 k) none (c 2)) &&& ((1 : Int32) <<< (nI k &&& 31)) = 0)) :: rest)) : G C W mc ms pc L (.int (nI k) :: .ref a :: rest) := by
  obtain ⟨S, ad, i', r', rfl, hI, rfl, hS, hV⟩ := hW
  have hK' := hK.sc hS hV
  have hb := hK.b
  refine l_invV (W9 := 8) (n := 1) (As := [.int (nI k)]) E (m_X5_isClosed (xl C) E.tr (xD C) (xy C) e0 hI hK'.m hb.2.2.2.1) (hI.obj (kd := 5) (k := 0) (by omega) hI.c5).1 (hI.obj (kd := 5) (k := 0) (by omega) hI.c5).2 hG rfl rfl rfl (by decide +kernel) hR rfl rfl hcat d hf (fun X S' h => absurd rfl (h.2.1 k hk)) (fun v S' h => ?_)
  obtain ⟨rfl, k', hk', hx, rfl⟩ := h
  have ek : k' = k := nI_inj (by omega) (by omega) hx.symm
  subst ek
  rw [hS.1 11 (by decide) (by decide), hS.1 7 (by decide) (by decide)]
  exact kk _ ⟨S', ad, i', r', rfl, hI, rfl, hS, hV⟩
theorem k_openings (E : gOk C cc nL Ts own e0 rm) (hW : LW (xy C) e0 a aa av c i j p r M W) (hK : KN c i j p r M N) {k s : Nat} (hk : k < M) (hs : s ≤ 10) (hG : GoodIn Ts (wsV own idx RX5 yX5_openings wsX5_openings)) (hR : 7 + 1 ≤ rm.frames ∧ 8 + (3 + 11) + 121 ≤ rm.locals) (hcat : (rest.map fun v => v.category).sum ≤ 8) (d : decode cc pc = .ok (.invokevirtual idx, 3)) (hf : mc + 2 ≤ rm.cells ∧ ms + 12 ≤ rm.slots) (kk : ∀ W', LW (xy C) e0 a aa av c i j p r M W' → G C W' (mc + 2) (ms + 12) (pc + 3) L (.int (cntI (fun y => none ≠ some y ∧ i 2 y = nI k ∧ ¬ j 1 y = 0 ∧ i 3 y / 500 = nI s) (c 1)) :: rest)) : G C W mc ms pc L (.int (nI s) :: .int (nI k) :: .ref a :: rest) := by
  obtain ⟨S, ad, i', r', rfl, hI, rfl, hS, hV⟩ := hW
  have hK' := hK.sc hS hV
  have hb := hK.b
  refine l_invV (W9 := 8) (n := 2) (As := [.int (nI k), .int (nI s)]) E (m_X5_openings (xl C) E.tr (xD C) (xy C) e0 hI hK'.m hb.2.2.2.1) (hI.obj (kd := 5) (k := 0) (by omega) hI.c5).1 (hI.obj (kd := 5) (k := 0) (by omega) hI.c5).2 hG rfl rfl rfl (by decide +kernel) hR rfl rfl hcat d hf (fun X S' h => by
    rcases h with ⟨-, h, -⟩ | ⟨-, ⟨k', -, -, h⟩, -⟩
    · exact absurd rfl (h k hk)
    · rcases h with h | h
      · exact absurd h (nI_pos (by omega))
      · exact absurd h (by rw [show (10 : Int32) = nI 10 from rfl, nI_ltI (by decide) (by omega)]; omega)) (fun v S' h => ?_)
  obtain ⟨rfl, k', hk', hx, -, -, rfl⟩ := h
  have ek : k' = k := nI_inj (by omega) (by omega) hx.symm
  subst ek
  rw [hS.1 2 (by decide) (by decide), hS.1 3 (by decide) (by decide)]
  exact kk _ ⟨S', ad, i', r', rfl, hI, rfl, hS, hV⟩
theorem k_fines (E : gOk C cc nL Ts own e0 rm) (hW : LW (xy C) e0 a aa av c i j p r M W) (hK : KN c i j p r M N) {k : Nat} (hk : k < 6) (hG : GoodIn Ts (wsV own idx RX5 yX5_fines wsX5_fines)) (hR : 7 + 1 ≤ rm.frames ∧ 8 + (6 + 11) + 120 ≤ rm.locals) (hcat : (rest.map fun v => v.category).sum ≤ 8) (d : decode cc pc = .ok (.invokevirtual idx, 3)) (hf : mc + 1 ≤ rm.cells ∧ ms + 6 ≤ rm.slots) (kk : ∀ W', LW (xy C) e0 a aa av c i j p r M W' → G C W' (mc + 1) (ms + 6) (pc + 3) L (.long (fnJ i j (nI k) (c 2)) :: rest)) : G C W mc ms pc L (.int (nI k) :: .ref a :: rest) := by
  obtain ⟨S, ad, i', r', rfl, hI, rfl, hS, hV⟩ := hW
  have hK' := hK.sc hS hV
  have hb := hK.b
  refine l_invV (W9 := 8) (n := 1) (As := [.int (nI k)]) E (m_X5_fines (xl C) E.tr (xD C) (xy C) e0 hI) (hI.obj (kd := 5) (k := 0) (by omega) hI.c5).1 (hI.obj (kd := 5) (k := 0) (by omega) hI.c5).2 hG rfl rfl rfl (by decide +kernel) hR rfl rfl hcat d hf (fun X S' h => absurd rfl (h.2.1 k hk)) (fun v S' h => ?_)
  obtain ⟨rfl, k', hk', hx, rfl⟩ := h
  have ek : k' = k := nI_inj (by omega) (by omega) hx.symm
  subst ek
  have ef : ∀ n, fnJ i' j (nI k') n = fnJ i j (nI k') n := by
    intro n
    induction n with
    | zero => rfl
    | succ n ih =>
      show (if i' 6 n = nI k' then _ else _) = (if i 6 n = nI k' then _ else _)
      rw [hS.1 6 (by decide) (by decide), ih]
  rw [ef]
  exact kk _ ⟨S', ad, i', r', rfl, hI, rfl, hS, hV⟩
theorem k_way (E : gOk C cc nL Ts own e0 rm) (hW : LW (xy C) e0 a aa av c i j p r M W) (hK : KN c i j p r M N) {x y : Nat} (hx : x < 10) (hy : y < 10) (hG : GoodIn Ts (wsV own idx RX5 yX5_way wsX5_way)) (hR : 7 + 1 ≤ rm.frames ∧ 8 + (3 + 11) + 120 ≤ rm.locals) (hcat : (rest.map fun v => v.category).sum ≤ 8) (d : decode cc pc = .ok (.invokevirtual idx, 3)) (hf : mc + 2 ≤ rm.cells ∧ ms + 12 ≤ rm.slots) (kk : ∀ W', LW (xy C) e0 a aa av c i j p r M W' → G C W' (mc + 2) (ms + 12) (pc + 3) L (.int (wy (Ed (r 0) (r 1) (r 2) (clM (fun k => i 11 k) (fun k => i 7 k) none (c 2)) M) x y) :: rest)) : G C W mc ms pc L (.int (nI y) :: .int (nI x) :: .ref a :: rest) := by
  obtain ⟨S, ad, i', r', rfl, hI, rfl, hS, hV⟩ := hW
  have hK' := hK.sc hS hV
  have hb := hK.b
  refine l_invV (W9 := 8) (n := 2) (As := [.int (nI x), .int (nI y)]) E (m_X5_way (xl C) E.tr (xD C) (xy C) e0 hI hK'.m hb.2.2.2.1 hK'.lns hV) (hI.obj (kd := 5) (k := 0) (by omega) hI.c5).1 (hI.obj (kd := 5) (k := 0) (by omega) hI.c5).2 hG rfl rfl rfl (by decide +kernel) hR rfl rfl hcat d hf (fun X S' h => absurd ⟨⟨x, hx, rfl⟩, ⟨y, hy, rfl⟩⟩ h.2.1) (fun v S' h => ?_)
  obtain ⟨x', y', h1, h2, h3, h4, i2, r2, hI2, hS2, hV2, rfl⟩ := h
  have ex : x' = x := nI_inj (by omega) (by omega) h3.symm
  have ey : y' = y := nI_inj (by omega) (by omega) h4.symm
  subst ex
  subst ey
  rw [hS.1 11 (by decide) (by decide), hS.1 7 (by decide) (by decide), hS.2 0 (by omega), hS.2 1 (by omega), hS.2 2 (by omega)]
  exact kk _ ⟨S', ad, i2, r2, rfl, hI2, rfl, hS.tr hS2, hV2⟩
theorem k_detour (E : gOk C cc nL Ts own e0 rm) (hW : LW (xy C) e0 a aa av c i j p r M W) (hK : KN c i j p r M N) {k : Nat} (hk : k < c 0) (hG : GoodIn Ts (wsV own idx RX5 yX5_detour wsX5_detour)) (hR : 7 + 1 ≤ rm.frames ∧ 8 + (2 + 11) + 121 ≤ rm.locals) (hcat : (rest.map fun v => v.category).sum ≤ 8) (d : decode cc pc = .ok (.invokevirtual idx, 3)) (hf : mc + 1 ≤ rm.cells ∧ ms + 6 ≤ rm.slots) (kk : ∀ W', LW (xy C) e0 a aa av c i j p r M W' → G C W' (mc + 1) (ms + 6) (pc + 3) L (.int (exL i r (clM (fun k => i 11 k) (fun k => i 7 k) none (c 2)) M k) :: rest)) : G C W mc ms pc L (.int (nI k) :: .ref a :: rest) := by
  obtain ⟨S, ad, i', r', rfl, hI, rfl, hS, hV⟩ := hW
  have hK' := hK.sc hS hV
  have hb := hK.b
  refine l_invV (W9 := 8) (n := 1) (As := [.int (nI k)]) E (m_X5_detour (xl C) E.tr (xD C) (xy C) e0 hI hK'.m hb.2.2.2.1 hK'.lns hV hK'.lii) (hI.obj (kd := 5) (k := 0) (by omega) hI.c5).1 (hI.obj (kd := 5) (k := 0) (by omega) hI.c5).2 hG rfl rfl rfl (by decide +kernel) hR rfl rfl hcat d hf (fun X S' h => absurd rfl (h.2.1 k hk)) (fun v S' h => ?_)
  obtain ⟨k', hk', hx, i2, r2, hI2, hS2, hV2, rfl⟩ := h
  have ek : k' = k := nI_inj (by omega) (by omega) hx.symm
  subst ek
  rw [hS.1 11 (by decide) (by decide), hS.1 7 (by decide) (by decide), sc_ex hS]
  exact kk _ ⟨S', ad, i2, r2, rfl, hI2, rfl, hS.tr hS2, hV2⟩
theorem k_minutesAnew (E : gOk C cc nL Ts own e0 rm) (hW : LW (xy C) e0 a aa av c i j p r M W) (hK : KN c i j p r M N) {k : Nat} (hk : k < c 0) (hG : GoodIn Ts (wsV own idx RX5 yX5_minutesAnew wsX5_minutesAnew)) (hR : 7 + 1 ≤ rm.frames ∧ 8 + (8 + 11) + 121 ≤ rm.locals) (hcat : (rest.map fun v => v.category).sum ≤ 8) (d : decode cc pc = .ok (.invokevirtual idx, 3)) (hf : mc + 1 ≤ rm.cells ∧ ms + 6 ≤ rm.slots) (kk : ∀ W', LW (xy C) e0 a aa av c i j p r M W' → G C W' (mc + 1) (ms + 6) (pc + 3) L (.long (j 0 k) :: rest)) : G C W mc ms pc L (.int (nI k) :: .ref a :: rest) := by
  obtain ⟨S, ad, i', r', rfl, hI, rfl, hS, hV⟩ := hW
  have hK' := hK.sc hS hV
  have hb := hK.b
  refine l_invV (W9 := 8) (n := 1) (As := [.int (nI k)]) E (m_X5_minutesAnew (xl C) E.tr (xD C) (xy C) e0 hI hK'.m hb.2.2.2.1 hK'.lns hV hK'.lii) (hI.obj (kd := 5) (k := 0) (by omega) hI.c5).1 (hI.obj (kd := 5) (k := 0) (by omega) hI.c5).2 hG rfl rfl rfl (by decide +kernel) hR rfl rfl hcat d hf (fun X S' h => absurd rfl (h.2.1 k hk)) (fun v S' h => ?_)
  obtain ⟨k', hk', hx, n, -, hend, hlt, i2, r2, hI2, hS2, hV2, rfl⟩ := h
  have ek : k' = k := nI_inj (by omega) (by omega) hx.symm
  subst ek
  rw [hK'.anew hk' hend hlt]
  exact kk _ ⟨S', ad, i2, r2, rfl, hI2, rfl, hS.tr hS2, hV2⟩
theorem k_complain (E : gOk C cc nL Ts own e0 rm) (hW : LW (xy C) e0 a aa av c i j p r M W) (hK : KN c i j p r M N) {k : Nat} (hk : k < c 0) (hG : GoodIn Ts (wsV own idx RX5 yX5_complain wsX5_complain)) (hR : 7 + 1 ≤ rm.frames ∧ 8 + (7 + 11) + 121 ≤ rm.locals) (hcat : (rest.map fun v => v.category).sum ≤ 8) (d : decode cc pc = .ok (.invokevirtual idx, 3)) (hf : mc + 1 ≤ rm.cells ∧ ms + 6 ≤ rm.slots) (kk : ∀ (d : Nat) (R : Nat → Nat → Int32) (W' : va_W), d < 7 → (∀ x, x ≠ 3 → R x = r x) → ptS R 6 = ptS r 6 + nI d → (¬ 0 < exL i r (clM (fun k => i 11 k) (fun k => i 7 k) none (c 2)) M k → d = 0) → LW (xy C) e0 a aa av c i j p R M W' → G C W' (mc + 1) (ms + 6) (pc + 3) L (.int (nI d) :: rest)) : G C W mc ms pc L (.int (nI k) :: .ref a :: rest) := by
  obtain ⟨S, ad, i', r', rfl, hI, rfl, hS, hV⟩ := hW
  have hK' := hK.sc hS hV
  have hb := hK.b
  refine l_invV (W9 := 8) (n := 1) (As := [.int (nI k)]) E (m_X5_complain (xl C) E.tr (xD C) (xy C) e0 hI hK'.m hb.2.2.2.1 hK'.lns hV hK'.lii) (hI.obj (kd := 5) (k := 0) (by omega) hI.c5).1 (hI.obj (kd := 5) (k := 0) (by omega) hI.c5).2 hG rfl rfl rfl (by decide +kernel) hR rfl rfl hcat d hf (fun X S' h => absurd rfl (h.2.1 k hk)) (fun v S' h => ?_)
  obtain ⟨k', hk', hx, i2, r2, hI2, hS2, hV2, rfl⟩ := h
  have ek : k' = k := nI_inj (by omega) (by omega) hx.symm
  subst ek
  obtain ⟨d, hd, e1, e2, e3⟩ := hK.blame hk' (k := k')
  rw [sc_bl hS] at hI2 ⊢
  rw [e1]
  have hS3 := sc_pt (b := blM i r M k' (c 2) (c 2)) (hS.tr hS2)
  refine kk d (ptR r (blM i r M k' (c 2) (c 2)) 6) _ hd (fun x hx => ?_) e2 e3 ⟨S', ad, i2, _, rfl, hI2, rfl, hS3, WV_3 (fun x hx => ?_) hV2⟩
  · funext y
    exact if_neg (fun z => hx z.1)
  · funext y
    exact if_neg (fun z => hx z.1)
theorem k_lane (E : gOk C cc nL Ts own e0 rm) (hW : LW (xy C) e0 a aa av c i j p r M W) (hK : KN c i j p r M N) {x y t : Nat} (hx : x < 10) (hy : y < 10) (hxy : x ≠ y) (ht1 : 1 ≤ t) (ht : t ≤ 30) (hM : M < 24) (hN : N = 0) (hc2 : c 2 = 0) (hG : GoodIn Ts (wsV own idx RX5 yX5_lane wsX5_lane)) (hR : 7 + 1 ≤ rm.frames ∧ 8 + (4 + 11) + 120 ≤ rm.locals) (hcat : (rest.map fun v => v.category).sum ≤ 8) (d : decode cc pc = .ok (.invokevirtual idx, 3)) (hf : mc + 4 ≤ rm.cells ∧ ms + 24 ≤ rm.slots) (kk : ∀ (i2 R : Nat → Nat → Int32) (W' : va_W), KN c i2 j p R (M + 1) N → (∀ f, f < 15 → i2 f = i f) → ((∀ e, e ≠ M → R 0 e = r 0 e ∧ R 1 e = r 1 e ∧ R 2 e = r 2 e) ∧ R 0 M = nI x ∧ R 1 M = nI y ∧ R 2 M = nI t ∧ ∀ k, 3 ≤ k → ¬ (4 ≤ k ∧ k < 24) → R k = r k) → LW (xy C) e0 a aa av c i2 j p R (M + 1) W' → G C W' (mc + 4) (ms + 24) (pc + 3) L (.int (nI M) :: rest)) : G C W mc ms pc L (.int (nI t) :: .int (nI y) :: .int (nI x) :: .ref a :: rest) := by
  obtain ⟨S, ad, i', r', rfl, hI, rfl, hS, hV⟩ := hW
  have hK' := hK.sc hS hV
  have hb := hK.b
  refine l_invV (W9 := 8) (n := 3) (As := [.int (nI x), .int (nI y), .int (nI t)]) E (m_X5_lane (xl C) E.tr (xD C) (xy C) e0 hI hK'.m hb.2.2.2.1) (hI.obj (kd := 5) (k := 0) (by omega) hI.c5).1 (hI.obj (kd := 5) (k := 0) (by omega) hI.c5).2 hG rfl rfl rfl (by decide +kernel) hR rfl rfl hcat d hf (fun X S' h => by
    have hn : i' 18 0 = 0 := by rw [hK'.now, hN]; rfl
    have ht' : ¬ nI t < 1 ∧ ¬ 30 < nI t := by
      rw [show (1 : Int32) = nI 1 from rfl, show (30 : Int32) = nI 30 from rfl, nI_ltI (by omega) (by decide), nI_ltI (by decide) (by omega)]
      omega
    have hne : ¬ nI x = nI y := fun z => hxy (nI_inj (by omega) (by omega) z)
    rcases h with ⟨-, h, -⟩ | ⟨-, ⟨-, -, h⟩, -⟩ | ⟨-, ⟨-, -, -, h⟩, -⟩
    · exact absurd ⟨⟨x, hx, rfl⟩, ⟨y, hy, rfl⟩⟩ h
    · exact absurd ⟨hne, ht'⟩ h
    · exact absurd ⟨hM, hn⟩ h) (fun v S' h => ?_)
  obtain ⟨x', y', h1, h2, h3, h4, -, -, rfl, hI2⟩ := h
  have ex : x' = x := nI_inj (by omega) (by omega) h3.symm
  have ey : y' = y := nI_inj (by omega) (by omega) h4.symm
  subst ex
  subst ey
  have hK2 := hK'.addLane hN hM hc2 hx hy hxy ht1 ht
  refine kk (up2 i' 15 0 (nI M + 1)) (up2 (up2 (up2 r' 0 M (nI x')) 1 M (nI y')) 2 M (nI t)) _ hK2 (fun f hf => ?_) ?_ ⟨S', ad, _, _, rfl, hI2, rfl, SC.rf, hK2.wv⟩
  · rw [up2_nf (by omega)]
    exact hS.1 f (by omega) (by omega)
  · obtain ⟨u3, ue, u0, u1, u2⟩ := up2_3 (r := r') (M := M) (x := nI x') (y := nI y') (t := nI t)
    refine ⟨fun e he => ⟨?_, ?_, ?_⟩, u0, u1, u2, fun k h1 h2 => ?_⟩
    · rw [ue 0 e he, hS.2 0 (by omega)]
    · rw [ue 1 e he, hS.2 1 (by omega)]
    · rw [ue 2 e he, hS.2 2 (by omega)]
    · rw [u3 k h1]; exact hS.2 k h2
theorem k_line (E : gOk C cc nL Ts own e0 rm) (hW : LW (xy C) e0 a aa av c i j p r M W) (hK : KN c i j p r M N) {x y : Nat} (hx : x < 10) (hy : y ≤ 500) (hc0 : c 0 < 6) (hN : N = 0) (hG : GoodIn Ts (wsV own idx RX5 yX5_line wsX5_line)) (hR : 8 + 1 ≤ rm.frames ∧ 8 + (3 + 11) + 387 ≤ rm.locals) (hcat : (rest.map fun v => v.category).sum ≤ 8) (d : decode cc pc = .ok (.invokevirtual idx, 3)) (hf : mc + 5 ≤ rm.cells ∧ ms + 1040 ≤ rm.slots) (kk : ∀ (c2 : Nat → Nat) (i2 : Nat → Nat → Int32) (j2 : Nat → Nat → Int64) (R : Nat → Nat → Int32) (W' : va_W), KN c2 i2 j2 p R M N → c2 2 = c 2 → c2 0 = c 0 + 1 → (∀ f k, f ≠ 16 → f ≠ 17 → ¬ (f < 2 ∧ k = c 0) → i2 f k = i f k) → i2 1 (c 0) = nI y → (R (24 + c 0) 0 = nI x ∧ i2 0 (c 0) = 1) → (∀ k, k ≠ 24 + c 0 → ¬ (4 ≤ k ∧ k < 24) → R k = r k) → LW (xy C) e0 a aa av c2 i2 j2 p R M W' → G C W' (mc + 5) (ms + 1040) (pc + 3) L (.int (nI (c 0)) :: rest)) : G C W mc ms pc L (.int (nI y) :: .int (nI x) :: .ref a :: rest) := by
  obtain ⟨S, ad, i', r', rfl, hI, rfl, hS, hV⟩ := hW
  have hK' := hK.sc hS hV
  have hb := hK.b
  refine l_invV (W9 := 8) (n := 2) (As := [.int (nI x), .int (nI y)]) E (m_X5_line (xl C) E.tr (xD C) (xy C) e0 hI) (hI.obj (kd := 5) (k := 0) (by omega) hI.c5).1 (hI.obj (kd := 5) (k := 0) (by omega) hI.c5).2 hG rfl rfl rfl (by decide +kernel) hR rfl rfl hcat d hf (fun X S' h => by
    have hn : i' 18 0 = 0 := by rw [hK'.now, hN]; rfl
    have hy' : ¬ nI y < 0 ∧ ¬ 500 < nI y := by
      rw [show (500 : Int32) = nI 500 from rfl, nI_ltI (by decide) (by omega)]
      exact ⟨nI_pos (by omega), by omega⟩
    rcases h with ⟨-, h, -⟩ | ⟨-, ⟨-, h⟩, -⟩ | ⟨-, ⟨-, -, h⟩, -⟩
    · exact absurd ⟨x, hx, rfl⟩ h
    · exact absurd hy' h
    · exact absurd ⟨hc0, hn⟩ h) (fun v S' h => ?_)
  obtain ⟨x', h1, h3, -, -, rfl, c2, ad2, i2, j2, r2, hI2, ea, hR⟩ := h
  have ex : x' = x := nI_inj (by omega) (by omega) h3.symm
  subst ex
  have hK2 := hK'.addLine hN hc0 hx hR
  obtain ⟨l1, l2, l3, l4, l5, l6, l7, l8, l9⟩ := hR
  refine kk c2 i2 j2 r2 _ hK2 (l1 2 (by decide) (by decide)) l2 (fun f k h1 h2 hf => (l3 f k hf).trans (by rw [hS.1 f h1 h2])) l5 ⟨l9, l4⟩ (fun k h1 h2 => (l8 k h1).trans (hS.2 k h2)) ⟨S', ad2, _, _, rfl, hI2, ea, SC.rf, hK2.wv⟩
theorem k_apply (E : gOk C cc nL Ts own e0 rm) (hW : LW (xy C) e0 a aa av c i j p r M W) (hK : KN c i j p r M N) {ap ln f g : Nat} {nd ur : Int32} {pn : Option Nat} (hap : ap < 6) (hln : ln < M) (hf1 : N ≤ f) (hf2 : f ≤ 4900) (hh1 : 1 ≤ g) (hh2 : g ≤ 40) (hnd : (nd = -1 ∧ pn = none) ∨ ∃ z, z < c 2 ∧ nd = nI z ∧ pn = some z) (hur : ur = 0 ∨ ur = 1) (hc40 : c 2 < 40) (hG : GoodIn Ts (wsV own idx RX5 yX5_apply wsX5_apply)) (hR : 9 + 1 ≤ rm.frames ∧ 0 + (9 + 11) + 410 ≤ rm.locals) (hcat : (rest.map fun v => v.category).sum ≤ 0) (d : decode cc pc = .ok (.invokevirtual idx, 3)) (hf : mc + 10 ≤ rm.cells ∧ ms + 2100 ≤ rm.slots) (kk : ∀ (c2 : Nat → Nat) (i2 : Nat → Nat → Int32) (j2 : Nat → Nat → Int64) (p2 : Nat → Nat → Option Nat) (R : Nat → Nat → Int32) (W' : va_W), KN c2 i2 j2 p2 R M N → NP c i2 j2 p2 f (f + g) → c2 0 = c 0 → c2 2 = c 2 + 1 → (∀ k, i2 1 k = i 1 k) → ((∀ k, k ≠ c 2 → i2 7 k = i 7 k ∧ i2 10 k = i 10 k ∧ i2 6 k = i 6 k ∧ p2 1 k = p 1 k) ∧ i2 7 (c 2) = nI ln ∧ i2 10 (c 2) = ur ∧ i2 6 (c 2) = nI ap ∧ p2 1 (c 2) = pn) → (∀ k, ¬ (4 ≤ k ∧ k < 24) → R k = r k) → LW (xy C) e0 a aa av c2 i2 j2 p2 R M W' → G C W' (mc + 10) (ms + 2100) (pc + 3) L (.int (nI (c 2)) :: rest)) : G C W mc ms pc L (.int ur :: .int nd :: .int (nI g) :: .int (nI f) :: .int (nI ln) :: .int (nI ap) :: .ref a :: rest) := by
  obtain ⟨S, ad, i', r', rfl, hI, rfl, hS, hV⟩ := hW
  have hK' := hK.sc hS hV
  have hb := hK.b
  refine l_invV (W9 := 0) (n := 6) (As := [.int (nI ap), .int (nI ln), .int (nI f), .int (nI g), .int nd, .int ur]) E (m_X5_apply (xl C) E.tr (xD C) (xy C) e0 hI hur hK'.m hb.2.2.2.1 (by omega)) (hI.obj (kd := 5) (k := 0) (by omega) hI.c5).1 (hI.obj (kd := 5) (k := 0) (by omega) hI.c5).2 hG rfl rfl rfl (by decide +kernel) hR rfl rfl hcat d hf (fun X S' h => by
    have hn := hK'.now
    have hok : ¬ nI f < 0 ∧ ¬ 4900 < nI f ∧ ¬ nI g < 1 ∧ ¬ 40 < nI g ∧ ¬ nI f < i' 18 0 := by
      rw [hn, show (4900 : Int32) = nI 4900 from rfl, show (1 : Int32) = nI 1 from rfl, show (40 : Int32) = nI 40 from rfl, nI_ltI (by decide) (by omega), nI_ltI (by omega) (by decide), nI_ltI (by decide) (by omega), nI_ltI (by omega) (by omega)]
      exact ⟨nI_pos (by omega), by omega, by omega, by omega, by omega⟩
    have hare : (∃ a, a < 6 ∧ nI ap = nI a) ∧ (∃ l, l < M ∧ nI ln = nI l) ∧ (nd = -1 ∨ ∃ z, z < c 2 ∧ nd = nI z) := ⟨⟨ap, hap, rfl⟩, ⟨ln, hln, rfl⟩, hnd.elim (fun z => Or.inl z.1) (fun ⟨z, z1, z2, _⟩ => Or.inr ⟨z, z1, z2⟩)⟩
    rcases h with ⟨-, h, -⟩ | ⟨-, ⟨-, -, -, h⟩, -⟩ | ⟨-, ⟨-, -, -, -, h⟩, -⟩
    · exact absurd hare h
    · exact absurd hok h
    · exact absurd hc40 h) (fun v S' h => ?_)
  obtain ⟨ap', ln', pn', h1, h2, h3, h4, h5, -, -, rfl, o, cz, ho, hcz, c2, ad2, i2, j2, p2, hI2, ea, hR⟩ := h
  have ex : ap' = ap := nI_inj (by omega) (by omega) h2.symm
  have ey : ln' = ln := nI_inj (by omega) (by omega) h4.symm
  subst ex
  subst ey
  have ep : pn' = pn := by
    rcases hnd with ⟨z1, z2⟩ | ⟨z, z1, z2, z3⟩ <;> rcases h5 with ⟨y1, y2⟩ | ⟨y, y1, y2, y3⟩
    · rw [z2, y2]
    · exact absurd (z1.symm.trans y2) (nI_nm1 (by omega))
    · exact absurd (y1.symm.trans z2) (nI_nm1 (by omega))
    · rw [z3, y3, nI_inj (by omega) (by omega) (z2.symm.trans y2)]
  subst ep
  have een : nI f + nI g = nI (f + g) := nI_add f g
  obtain ⟨hK2, hN2⟩ := hK'.apply hc40 hap rfl hln rfl rfl een (by omega) (by omega) (by omega) hur (hnd.elim (fun z => Or.inl z.2) (fun ⟨z, z1, z2, z3⟩ => Or.inr ⟨z, z1, z3⟩)) ho hcz hR
  obtain ⟨a1, a2, a3, a4, a5, ⟨b5, b6, b7, b8, b9, b10, b11, b12, b13, b14, bj, -, bp⟩, -⟩ := hR
  refine kk c2 i2 j2 p2 r' _ hK2 hN2 (a1 0 (by decide) (by decide)) a2 (fun k => ?_) ⟨fun k hk => ?_, b7, b10, b6, bp⟩ (fun k hk => hS.2 k hk) ⟨S', ad2, _, _, rfl, hI2, ea, SC.rf, hK2.wv⟩
  · rw [a3 1 k (by decide) (fun z => absurd z.1 (by decide)), hS.1 1 (by decide) (by decide)]
  · have hik : ∀ f, 5 ≤ f → f < 15 → i2 f k = i f k := fun f h1 h2 => by rw [a3 f k (by rw [kf_2 h1 h2]; decide) (fun z => hk z.2), hS.1 f (by omega) (by omega)]
    exact ⟨hik 7 (by decide) (by decide), hik 10 (by decide) (by decide), hik 6 (by decide) (by decide), a5 1 k hk⟩
end LC
