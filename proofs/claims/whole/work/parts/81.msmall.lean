/-! contracts over the model's world -/
abbrev mMet (l : Launch) (y : MethodName) (wds : List Cond) (rm : Room) (D : va_G) (cy : Nat → ClassId) (e0 : Nat) (av : List Value) (ma : Nat → Nat) (s : mS) (post : Option Value → mS → Prop) : Prop := gMet l y wds rm D cy e0 av (mW cy ma s) (fun v w => ∃ s', w = mW cy ma s' ∧ post v s') (fun _ _ => False) 0 0
section KC
variable {C : gT} {cc : ByteArray} {nL : Nat} {Ts : List Cond} {own : String} {e0 : Nat} {rm : Room} {s : mS} {ma : Nat → Nat} {mc ms pc : Nat} {L : List (Nat × Value)} {st : List Value} {idx : Nat}
variable {yy : MethodName} {wds ws'' : List Cond} {rm' : Room} {n maxL' : Nat} {bytes : ByteArray} {ret' : Option FieldType} {As rest : List Value} {post : Option Value → mS → Prop}
theorem k_invV (E : gOk C cc nL Ts own e0 rm) (hM : mMet (xl C) yy wds rm' (xD C) (xy C) e0 (.ref (ma 0) :: As) ma s post) (hG : GoodIn Ts (wsV own idx RX6 yy wds)) (hw : wds = Cond.code yy bytes maxL' ret' :: ws'') (hrc : rm'.cells = 0) (hrs : rm'.slots = 0)
    (hd : yy.cls = RX6 ∧ yy.cls ≠ "java/lang/invoke/MethodHandle" ∧ yy.cls ≠ "java/lang/invoke/VarHandle" ∧ (parseMethodDescriptor yy.desc).map (fun d => d.parameters.length) = some n) (hR : rm'.frames + 1 ≤ rm.frames ∧ 8 + (maxL' + 11) + rm'.locals ≤ rm.locals)
    (hn : As.length = n) (hst : st = As.reverse ++ .ref (ma 0) :: rest) (hcat : (rest.map fun v => v.category).sum ≤ 8) (d : decode cc pc = .ok (.invokevirtual idx, 3)) (hf : mc + 0 ≤ rm.cells ∧ ms + 0 ≤ rm.slots)
    (kk : ∀ (v : Option Value) (s' : mS), post v s' → G C (mW (xy C) ma s') mc ms (pc + 3) L (v.toList ++ rest)) : G C (mW (xy C) ma s) mc ms pc L st :=
  g_invV E hM hG hw hrc hrs hd hR 0 7 rfl rfl rfl hn hst hcat d hf (fun X w h => h.elim) (fun v w h => by obtain ⟨s', rfl, h⟩ := h; exact kk v s' h)
theorem k_invS (E : gOk C cc nL Ts own e0 rm) (hM : mMet (xl C) yy wds rm' (xD C) (xy C) e0 As ma s post) (hG : GoodIn Ts (va_wsS own idx yy wds)) (hw : wds = Cond.code yy bytes maxL' ret' :: ws'') (hrc : rm'.cells = 0) (hrs : rm'.slots = 0)
    (hd : yy.cls ≠ "java/lang/invoke/MethodHandle" ∧ yy.cls ≠ "java/lang/invoke/VarHandle" ∧ (parseMethodDescriptor yy.desc).map (fun d => d.parameters.length) = some n) (hR : rm'.frames + 1 ≤ rm.frames ∧ 8 + (maxL' + 11) + rm'.locals ≤ rm.locals)
    (hn : As.length = n) (hst : st = As.reverse ++ rest) (hcat : (rest.map fun v => v.category).sum ≤ 8) (d : decode cc pc = .ok (.invokestatic idx, 3)) (hf : mc + 0 ≤ rm.cells ∧ ms + 0 ≤ rm.slots)
    (kk : ∀ (v : Option Value) (s' : mS), post v s' → G C (mW (xy C) ma s') mc ms (pc + 3) L (v.toList ++ rest)) : G C (mW (xy C) ma s) mc ms pc L st :=
  g_invS E hM hG hw hrc hrs hd hR hn hst hcat d hf (fun X w h => h.elim) (fun v w h => by obtain ⟨s', rfl, h⟩ := h; exact kk v s' h)
end KC
theorem inM {x : Int32} {n : Nat} (hn : n ≤ 1000) : (0 ≤ x ∧ x ≤ nI n - 1) ↔ ∃ k, k < n ∧ x = nI k := by
  constructor
  · rintro ⟨h0, h1⟩
    cases n with
    | zero => exact absurd (Int32.le_trans h0 h1) (by rw [nI_0]; decide)
    | succ n =>
      rw [nI_pred] at h1
      exact nI_in2 (by omega) (Int32.not_lt.mpr h0) (Int32.lt_of_le_of_lt h1 (nI_lt (Nat.lt_succ_self n) (by omega)))
  · rintro ⟨k, hk, rfl⟩
    cases n with
    | zero => omega
    | succ n => rw [nI_pred]; exact ⟨nI_pos' (by omega), nI_le (by omega) (by omega)⟩
def isIx (x : Int32) (n : Nat) : Int32 := bI (0 ≤ x ∧ x ≤ nI n - 1)
theorem isIx_t {x : Int32} {n : Nat} (hn : n ≤ 1000) (h : ¬ isIx x n = 0) : ∃ k, k < n ∧ x = nI k := (inM hn).mp (bI_ne0.mp h)
theorem isIx_f {x : Int32} {n : Nat} (hn : n ≤ 1000) (h : isIx x n = 0) : ∀ k, k < n → x ≠ nI k := fun k hk e => bI_eq0.mp h ((inM hn).mpr ⟨k, hk, e⟩)
theorem isIx_01 {x : Int32} {n : Nat} : isIx x n = 0 ∨ isIx x n = 1 := bI_01

abbrev rm_X6_isIn : Room := { frames := 0, cells := 0, slots := 0, locals := 0 }
set_option maxHeartbeats 4000000 in
set_option maxRecDepth 100000 in
theorem m_X6_isIn (l : Launch) (hl : l.stackTraces = false) (D : va_G) (cy : Nat → ClassId) (e0 : Nat) {ma : Nat → Nat} {s : mS} {x a b : Int32} : mMet l yX6_isIn wsX6_isIn rm_X6_isIn D cy e0 [.int (x), .int (a), .int (b)] ma s (fun v s' => v = some (.int (bI (a ≤ x ∧ x ≤ b))) ∧ s' = s) := by
  refine gMet.of (cc := cX6_isIn) (maxL := 3) (ret := (some .boolean)) hl (by decide) rfl (Nat.le_of_ble_eq_true rfl) ?_
  intro C E h1 h2 h3 hr hnm hT hE
  subst h1; subst h2; subst h3
  have E : gOk C cX6_isIn 3 wsX6_isIn RX6 e0 rm_X6_isIn := E
  show G C (mW (xy C) ma s) 0 0 0 [(0, .int (x)), (1, .int (a)), (2, .int (b))] []
  refine g_iload_n E dX6_isIn_0 rfl 0 rfl ?_
  refine g_iload_n E dX6_isIn_1 rfl 1 rfl ?_
  refine g_icmp_lt (tgt := 14) E dX6_isIn_2 (by decide) (fun c_2 => ?_) (fun c_2 => ?_)
  · refine g_iconst (v := 0) E dX6_isIn_14 (by decide) ?_
    exact g_zret E hE hr (Or.inl rfl) dX6_isIn_15 (Nat.le_of_ble_eq_true rfl) (Nat.le_of_ble_eq_true rfl) ⟨s, rfl, by rw [bI_f (fun q => Int32.not_lt.mpr q.1 c_2)], rfl⟩
  · refine g_iload_n E dX6_isIn_5 rfl 0 rfl ?_
    refine g_iload_n E dX6_isIn_6 rfl 2 rfl ?_
    refine g_icmp_gt (tgt := 14) E dX6_isIn_7 (by decide) (fun c_7 => ?_) (fun c_7 => ?_)
    · refine g_iconst (v := 0) E dX6_isIn_14 (by decide) ?_
      exact g_zret E hE hr (Or.inl rfl) dX6_isIn_15 (Nat.le_of_ble_eq_true rfl) (Nat.le_of_ble_eq_true rfl) ⟨s, rfl, by rw [bI_f (fun q => Int32.not_lt.mpr q.2 c_7)], rfl⟩
    · refine g_iconst (v := 1) E dX6_isIn_10 (by decide) ?_
      refine g_goto (tgt := 15) E dX6_isIn_11 (by decide) ?_
      exact g_zret E hE hr (Or.inr rfl) dX6_isIn_15 (Nat.le_of_ble_eq_true rfl) (Nat.le_of_ble_eq_true rfl) ⟨s, rfl, by rw [bI_t ⟨Int32.not_lt.mp c_2, Int32.not_lt.mp c_7⟩], rfl⟩
abbrev rm_X6_isJunction : Room := { frames := 1, cells := 0, slots := 0, locals := 22 }
set_option maxHeartbeats 4000000 in
set_option maxRecDepth 100000 in
theorem m_X6_isJunction (l : Launch) (hl : l.stackTraces = false) (D : va_G) (cy : Nat → ClassId) (e0 : Nat) {ma : Nat → Nat} {s : mS}  {x : Int32} : mMet l yX6_isJunction wsX6_isJunction rm_X6_isJunction D cy e0 [.int (x)] ma s (fun v s' => v = some (.int (isIx x 10)) ∧ s' = s) := by
  refine gMet.of (cc := cX6_isJunction) (maxL := 1) (ret := (some .boolean)) hl (by decide) rfl (Nat.le_of_ble_eq_true rfl) ?_
  intro C E h1 h2 h3 hr hnm hT hE
  subst h1; subst h2; subst h3
  have E : gOk C cX6_isJunction 1 wsX6_isJunction RX6 e0 rm_X6_isJunction := E
  show G C (mW (xy C) ma s) 0 0 0 [(0, .int (x))] []
  refine g_iload_n E dX6_isJunction_0 rfl 0 rfl ?_
  refine g_iconst (v := 0) E dX6_isJunction_1 (by decide) ?_
  refine g_bipush (v := 9) E dX6_isJunction_2 (by decide) ?_
  refine k_invS (n := 3) (rest := []) E (m_X6_isIn (xl C) E.tr (xD C) (xy C) e0 (x := x) (a := 0) (b := 9)) gX6_isJunction_X6_isIn rfl rfl rfl (by decide +kernel) ⟨Nat.le_of_ble_eq_true rfl, Nat.le_of_ble_eq_true rfl⟩ rfl rfl (Nat.le_of_ble_eq_true rfl) dX6_isJunction_4 ⟨Nat.le_of_ble_eq_true rfl, Nat.le_of_ble_eq_true rfl⟩ (fun v9 s9_4 h9 => ?_)
  obtain ⟨hv9, hS9⟩ := h9
  rw [hv9, hS9]
  show G C (mW (xy C) ma s) 0 0 7 [(0, .int (x))] [.int ((bI (0 ≤ x ∧ x ≤ 9)))]
  exact g_zret E hE hr (bI_01) dX6_isJunction_7 (Nat.le_of_ble_eq_true rfl) (Nat.le_of_ble_eq_true rfl) ⟨s, rfl, rfl, rfl⟩
abbrev rm_X6_isApplicant : Room := { frames := 1, cells := 0, slots := 0, locals := 22 }
set_option maxHeartbeats 4000000 in
set_option maxRecDepth 100000 in
theorem m_X6_isApplicant (l : Launch) (hl : l.stackTraces = false) (D : va_G) (cy : Nat → ClassId) (e0 : Nat) {ma : Nat → Nat} {s : mS}  {x : Int32} : mMet l yX6_isApplicant wsX6_isApplicant rm_X6_isApplicant D cy e0 [.int (x)] ma s (fun v s' => v = some (.int (isIx x 6)) ∧ s' = s) := by
  refine gMet.of (cc := cX6_isApplicant) (maxL := 1) (ret := (some .boolean)) hl (by decide) rfl (Nat.le_of_ble_eq_true rfl) ?_
  intro C E h1 h2 h3 hr hnm hT hE
  subst h1; subst h2; subst h3
  have E : gOk C cX6_isApplicant 1 wsX6_isApplicant RX6 e0 rm_X6_isApplicant := E
  show G C (mW (xy C) ma s) 0 0 0 [(0, .int (x))] []
  refine g_iload_n E dX6_isApplicant_0 rfl 0 rfl ?_
  refine g_iconst (v := 0) E dX6_isApplicant_1 (by decide) ?_
  refine g_iconst (v := 5) E dX6_isApplicant_2 (by decide) ?_
  refine k_invS (n := 3) (rest := []) E (m_X6_isIn (xl C) E.tr (xD C) (xy C) e0 (x := x) (a := 0) (b := 5)) gX6_isApplicant_X6_isIn rfl rfl rfl (by decide +kernel) ⟨Nat.le_of_ble_eq_true rfl, Nat.le_of_ble_eq_true rfl⟩ rfl rfl (Nat.le_of_ble_eq_true rfl) dX6_isApplicant_3 ⟨Nat.le_of_ble_eq_true rfl, Nat.le_of_ble_eq_true rfl⟩ (fun v9 s9_3 h9 => ?_)
  obtain ⟨hv9, hS9⟩ := h9
  rw [hv9, hS9]
  show G C (mW (xy C) ma s) 0 0 6 [(0, .int (x))] [.int ((bI (0 ≤ x ∧ x ≤ 5)))]
  exact g_zret E hE hr (bI_01) dX6_isApplicant_6 (Nat.le_of_ble_eq_true rfl) (Nat.le_of_ble_eq_true rfl) ⟨s, rfl, rfl, rfl⟩
abbrev rm_X6_isLane : Room := { frames := 1, cells := 0, slots := 0, locals := 22 }
set_option maxHeartbeats 4000000 in
set_option maxRecDepth 100000 in
theorem m_X6_isLane (l : Launch) (hl : l.stackTraces = false) (D : va_G) (cy : Nat → ClassId) (e0 : Nat) {ma : Nat → Nat} {s : mS} {M : Nat} (hM : mi s 5 = nI M) {x : Int32} : mMet l yX6_isLane wsX6_isLane rm_X6_isLane D cy e0 [.ref (ma 0), .int (x)] ma s (fun v s' => v = some (.int (isIx x M)) ∧ s' = s) := by
  refine gMet.of (cc := cX6_isLane) (maxL := 2) (ret := (some .boolean)) hl (by decide) rfl (Nat.le_of_ble_eq_true rfl) ?_
  intro C E h1 h2 h3 hr hnm hT hE
  subst h1; subst h2; subst h3
  have E : gOk C cX6_isLane 2 wsX6_isLane RX6 e0 rm_X6_isLane := E
  show G C (mW (xy C) ma s) 0 0 0 [(0, .ref (ma 0)), (1, .int (x))] []
  refine g_iload_n E dX6_isLane_0 rfl 1 rfl ?_
  refine g_iconst (v := 0) E dX6_isLane_1 (by decide) ?_
  refine g_aload_n E dX6_isLane_2 rfl 0 rfl ?_
  refine k_get_lanes (s := s) E (fun _ h => (List.mem_cons_of_mem _ (List.mem_append_right _ h))) (List.mem_cons_of_mem _ (List.mem_append_left _ (List.mem_of_getElem? (i := 0) rfl))) dX6_isLane_3 ?_
  rw [show mi s 5 = nI M from hM]
  show G C (mW (xy C) ma s) 0 0 6 [(0, .ref (ma 0)), (1, .int (x))] [.int (nI M), .int (0), .int (x)]
  refine g_iconst (v := 1) E dX6_isLane_6 (by decide) ?_
  refine g_isub E dX6_isLane_7 ?_
  refine k_invS (n := 3) (rest := []) E (m_X6_isIn (xl C) E.tr (xD C) (xy C) e0 (x := x) (a := 0) (b := (nI M - 1))) gX6_isLane_X6_isIn rfl rfl rfl (by decide +kernel) ⟨Nat.le_of_ble_eq_true rfl, Nat.le_of_ble_eq_true rfl⟩ rfl rfl (Nat.le_of_ble_eq_true rfl) dX6_isLane_8 ⟨Nat.le_of_ble_eq_true rfl, Nat.le_of_ble_eq_true rfl⟩ (fun v9 s9_8 h9 => ?_)
  obtain ⟨hv9, hS9⟩ := h9
  rw [hv9, hS9]
  show G C (mW (xy C) ma s) 0 0 11 [(0, .ref (ma 0)), (1, .int (x))] [.int ((bI (0 ≤ x ∧ x ≤ (nI M - 1))))]
  exact g_zret E hE hr (bI_01) dX6_isLane_11 (Nat.le_of_ble_eq_true rfl) (Nat.le_of_ble_eq_true rfl) ⟨s, rfl, rfl, rfl⟩
abbrev rm_X6_isLine : Room := { frames := 1, cells := 0, slots := 0, locals := 22 }
set_option maxHeartbeats 4000000 in
set_option maxRecDepth 100000 in
theorem m_X6_isLine (l : Launch) (hl : l.stackTraces = false) (D : va_G) (cy : Nat → ClassId) (e0 : Nat) {ma : Nat → Nat} {s : mS} {nl : Nat} (hl0 : mi s 10 = nI nl) {x : Int32} : mMet l yX6_isLine wsX6_isLine rm_X6_isLine D cy e0 [.ref (ma 0), .int (x)] ma s (fun v s' => v = some (.int (isIx x nl)) ∧ s' = s) := by
  refine gMet.of (cc := cX6_isLine) (maxL := 2) (ret := (some .boolean)) hl (by decide) rfl (Nat.le_of_ble_eq_true rfl) ?_
  intro C E h1 h2 h3 hr hnm hT hE
  subst h1; subst h2; subst h3
  have E : gOk C cX6_isLine 2 wsX6_isLine RX6 e0 rm_X6_isLine := E
  show G C (mW (xy C) ma s) 0 0 0 [(0, .ref (ma 0)), (1, .int (x))] []
  refine g_iload_n E dX6_isLine_0 rfl 1 rfl ?_
  refine g_iconst (v := 0) E dX6_isLine_1 (by decide) ?_
  refine g_aload_n E dX6_isLine_2 rfl 0 rfl ?_
  refine k_get_lines (s := s) E (fun _ h => (List.mem_cons_of_mem _ (List.mem_append_right _ h))) (List.mem_cons_of_mem _ (List.mem_append_left _ (List.mem_of_getElem? (i := 0) rfl))) dX6_isLine_3 ?_
  rw [show mi s 10 = nI nl from hl0]
  show G C (mW (xy C) ma s) 0 0 6 [(0, .ref (ma 0)), (1, .int (x))] [.int (nI nl), .int (0), .int (x)]
  refine g_iconst (v := 1) E dX6_isLine_6 (by decide) ?_
  refine g_isub E dX6_isLine_7 ?_
  refine k_invS (n := 3) (rest := []) E (m_X6_isIn (xl C) E.tr (xD C) (xy C) e0 (x := x) (a := 0) (b := (nI nl - 1))) gX6_isLine_X6_isIn rfl rfl rfl (by decide +kernel) ⟨Nat.le_of_ble_eq_true rfl, Nat.le_of_ble_eq_true rfl⟩ rfl rfl (Nat.le_of_ble_eq_true rfl) dX6_isLine_8 ⟨Nat.le_of_ble_eq_true rfl, Nat.le_of_ble_eq_true rfl⟩ (fun v9 s9_8 h9 => ?_)
  obtain ⟨hv9, hS9⟩ := h9
  rw [hv9, hS9]
  show G C (mW (xy C) ma s) 0 0 11 [(0, .ref (ma 0)), (1, .int (x))] [.int ((bI (0 ≤ x ∧ x ≤ (nI nl - 1))))]
  exact g_zret E hE hr (bI_01) dX6_isLine_11 (Nat.le_of_ble_eq_true rfl) (Nat.le_of_ble_eq_true rfl) ⟨s, rfl, rfl, rfl⟩
abbrev rm_X6_isPermit : Room := { frames := 1, cells := 0, slots := 0, locals := 22 }
set_option maxHeartbeats 4000000 in
set_option maxRecDepth 100000 in
theorem m_X6_isPermit (l : Launch) (hl : l.stackTraces = false) (D : va_G) (cy : Nat → ClassId) (e0 : Nat) {ma : Nat → Nat} {s : mS} {np : Nat} (hp0 : mi s 21 = nI np) {x : Int32} : mMet l yX6_isPermit wsX6_isPermit rm_X6_isPermit D cy e0 [.ref (ma 0), .int (x)] ma s (fun v s' => v = some (.int (isIx x np)) ∧ s' = s) := by
  refine gMet.of (cc := cX6_isPermit) (maxL := 2) (ret := (some .boolean)) hl (by decide) rfl (Nat.le_of_ble_eq_true rfl) ?_
  intro C E h1 h2 h3 hr hnm hT hE
  subst h1; subst h2; subst h3
  have E : gOk C cX6_isPermit 2 wsX6_isPermit RX6 e0 rm_X6_isPermit := E
  show G C (mW (xy C) ma s) 0 0 0 [(0, .ref (ma 0)), (1, .int (x))] []
  refine g_iload_n E dX6_isPermit_0 rfl 1 rfl ?_
  refine g_iconst (v := 0) E dX6_isPermit_1 (by decide) ?_
  refine g_aload_n E dX6_isPermit_2 rfl 0 rfl ?_
  refine k_get_permits (s := s) E (fun _ h => (List.mem_cons_of_mem _ (List.mem_append_right _ h))) (List.mem_cons_of_mem _ (List.mem_append_left _ (List.mem_of_getElem? (i := 0) rfl))) dX6_isPermit_3 ?_
  rw [show mi s 21 = nI np from hp0]
  show G C (mW (xy C) ma s) 0 0 6 [(0, .ref (ma 0)), (1, .int (x))] [.int (nI np), .int (0), .int (x)]
  refine g_iconst (v := 1) E dX6_isPermit_6 (by decide) ?_
  refine g_isub E dX6_isPermit_7 ?_
  refine k_invS (n := 3) (rest := []) E (m_X6_isIn (xl C) E.tr (xD C) (xy C) e0 (x := x) (a := 0) (b := (nI np - 1))) gX6_isPermit_X6_isIn rfl rfl rfl (by decide +kernel) ⟨Nat.le_of_ble_eq_true rfl, Nat.le_of_ble_eq_true rfl⟩ rfl rfl (Nat.le_of_ble_eq_true rfl) dX6_isPermit_8 ⟨Nat.le_of_ble_eq_true rfl, Nat.le_of_ble_eq_true rfl⟩ (fun v9 s9_8 h9 => ?_)
  obtain ⟨hv9, hS9⟩ := h9
  rw [hv9, hS9]
  show G C (mW (xy C) ma s) 0 0 11 [(0, .ref (ma 0)), (1, .int (x))] [.int ((bI (0 ≤ x ∧ x ≤ (nI np - 1))))]
  exact g_zret E hE hr (bI_01) dX6_isPermit_11 (Nat.le_of_ble_eq_true rfl) (Nat.le_of_ble_eq_true rfl) ⟨s, rfl, rfl, rfl⟩
abbrev rm_X6_isFine : Room := { frames := 0, cells := 0, slots := 0, locals := 0 }
set_option maxHeartbeats 4000000 in
set_option maxRecDepth 100000 in
theorem m_X6_isFine (l : Launch) (hl : l.stackTraces = false) (D : va_G) (cy : Nat → ClassId) (e0 : Nat) {ma : Nat → Nat} {s : mS} {x : Int32} : mMet l yX6_isFine wsX6_isFine rm_X6_isFine D cy e0 [.ref (ma 0), .int (x)] ma s (fun v s' => v = some (.int (bI (x = 0))) ∧ s' = muI s 0 x) := by
  refine gMet.of (cc := cX6_isFine) (maxL := 2) (ret := (some .boolean)) hl (by decide) rfl (Nat.le_of_ble_eq_true rfl) ?_
  intro C E h1 h2 h3 hr hnm hT hE
  subst h1; subst h2; subst h3
  have E : gOk C cX6_isFine 2 wsX6_isFine RX6 e0 rm_X6_isFine := E
  show G C (mW (xy C) ma s) 0 0 0 [(0, .ref (ma 0)), (1, .int (x))] []
  refine g_aload_n E dX6_isFine_0 rfl 0 rfl ?_
  refine g_iload_n E dX6_isFine_1 rfl 1 rfl ?_
  refine k_put_thrown (s := s) E (fun _ h => (List.mem_cons_of_mem _ (List.mem_append_right _ h))) (List.mem_cons_of_mem _ (List.mem_append_left _ (List.mem_of_getElem? (i := 0) rfl))) dX6_isFine_2 ?_
  refine g_iload_n E dX6_isFine_5 rfl 1 rfl ?_
  refine g_if_ne (tgt := 13) E dX6_isFine_6 (by decide) (fun c_6 => ?_) (fun c_6 => ?_)
  · refine g_iconst (v := 0) E dX6_isFine_13 (by decide) ?_
    exact g_zret E hE hr (Or.inl rfl) dX6_isFine_14 (Nat.le_of_ble_eq_true rfl) (Nat.le_of_ble_eq_true rfl) ⟨(muI s 0 (x)), rfl, by rw [bI_f c_6], rfl⟩
  · refine g_iconst (v := 1) E dX6_isFine_9 (by decide) ?_
    refine g_goto (tgt := 14) E dX6_isFine_10 (by decide) ?_
    exact g_zret E hE hr (Or.inr rfl) dX6_isFine_14 (Nat.le_of_ble_eq_true rfl) (Nat.le_of_ble_eq_true rfl) ⟨(muI s 0 (x)), rfl, by rw [bI_t c_6], rfl⟩
abbrev rm_X6_thrown : Room := { frames := 0, cells := 0, slots := 0, locals := 0 }
set_option maxHeartbeats 4000000 in
set_option maxRecDepth 100000 in
theorem m_X6_thrown (l : Launch) (hl : l.stackTraces = false) (D : va_G) (cy : Nat → ClassId) (e0 : Nat) {ma : Nat → Nat} {s : mS}  : mMet l yX6_thrown wsX6_thrown rm_X6_thrown D cy e0 [.ref (ma 0)] ma s (fun v s' => v = some (.int (mi s 0)) ∧ s' = s) := by
  refine gMet.of (cc := cX6_thrown) (maxL := 1) (ret := (some .int)) hl (by decide) rfl (Nat.le_of_ble_eq_true rfl) ?_
  intro C E h1 h2 h3 hr hnm hT hE
  subst h1; subst h2; subst h3
  have E : gOk C cX6_thrown 1 wsX6_thrown RX6 e0 rm_X6_thrown := E
  show G C (mW (xy C) ma s) 0 0 0 [(0, .ref (ma 0))] []
  refine g_aload_n E dX6_thrown_0 rfl 0 rfl ?_
  refine k_get_thrown (s := s) E (fun _ h => (List.mem_cons_of_mem _ (List.mem_append_right _ h))) (List.mem_cons_of_mem _ (List.mem_append_left _ (List.mem_of_getElem? (i := 0) rfl))) dX6_thrown_1 ?_
  exact g_iret E hE hr dX6_thrown_4 (Nat.le_of_ble_eq_true rfl) (Nat.le_of_ble_eq_true rfl) ⟨s, rfl, rfl, rfl⟩
abbrev rm_X6_lesser : Room := { frames := 0, cells := 0, slots := 0, locals := 0 }
set_option maxHeartbeats 4000000 in
set_option maxRecDepth 100000 in
theorem m_X6_lesser (l : Launch) (hl : l.stackTraces = false) (D : va_G) (cy : Nat → ClassId) (e0 : Nat) {ma : Nat → Nat} {s : mS} {x y : Int32} : mMet l yX6_lesser wsX6_lesser rm_X6_lesser D cy e0 [.int (x), .int (y)] ma s (fun v s' => v = some (.int (if x < y then x else y)) ∧ s' = s) := by
  refine gMet.of (cc := cX6_lesser) (maxL := 2) (ret := (some .int)) hl (by decide) rfl (Nat.le_of_ble_eq_true rfl) ?_
  intro C E h1 h2 h3 hr hnm hT hE
  subst h1; subst h2; subst h3
  have E : gOk C cX6_lesser 2 wsX6_lesser RX6 e0 rm_X6_lesser := E
  show G C (mW (xy C) ma s) 0 0 0 [(0, .int (x)), (1, .int (y))] []
  refine g_iload_n E dX6_lesser_0 rfl 0 rfl ?_
  refine g_iload_n E dX6_lesser_1 rfl 1 rfl ?_
  refine g_icmp_ge (tgt := 9) E dX6_lesser_2 (by decide) (fun c_2 => ?_) (fun c_2 => ?_)
  · refine g_iload_n E dX6_lesser_9 rfl 1 rfl ?_
    exact g_iret E hE hr dX6_lesser_10 (Nat.le_of_ble_eq_true rfl) (Nat.le_of_ble_eq_true rfl) ⟨s, rfl, by rw [if_neg (Int32.not_lt.mpr c_2)], rfl⟩
  · refine g_iload_n E dX6_lesser_5 rfl 0 rfl ?_
    refine g_goto (tgt := 10) E dX6_lesser_6 (by decide) ?_
    exact g_iret E hE hr dX6_lesser_10 (Nat.le_of_ble_eq_true rfl) (Nat.le_of_ble_eq_true rfl) ⟨s, rfl, by rw [if_pos (Int32.not_le.mp c_2)], rfl⟩
abbrev rm_X6_greater : Room := { frames := 0, cells := 0, slots := 0, locals := 0 }
set_option maxHeartbeats 4000000 in
set_option maxRecDepth 100000 in
theorem m_X6_greater (l : Launch) (hl : l.stackTraces = false) (D : va_G) (cy : Nat → ClassId) (e0 : Nat) {ma : Nat → Nat} {s : mS} {x y : Int32} : mMet l yX6_greater wsX6_greater rm_X6_greater D cy e0 [.int (x), .int (y)] ma s (fun v s' => v = some (.int (if y < x then x else y)) ∧ s' = s) := by
  refine gMet.of (cc := cX6_greater) (maxL := 2) (ret := (some .int)) hl (by decide) rfl (Nat.le_of_ble_eq_true rfl) ?_
  intro C E h1 h2 h3 hr hnm hT hE
  subst h1; subst h2; subst h3
  have E : gOk C cX6_greater 2 wsX6_greater RX6 e0 rm_X6_greater := E
  show G C (mW (xy C) ma s) 0 0 0 [(0, .int (x)), (1, .int (y))] []
  refine g_iload_n E dX6_greater_0 rfl 0 rfl ?_
  refine g_iload_n E dX6_greater_1 rfl 1 rfl ?_
  refine g_icmp_le (tgt := 9) E dX6_greater_2 (by decide) (fun c_2 => ?_) (fun c_2 => ?_)
  · refine g_iload_n E dX6_greater_9 rfl 1 rfl ?_
    exact g_iret E hE hr dX6_greater_10 (Nat.le_of_ble_eq_true rfl) (Nat.le_of_ble_eq_true rfl) ⟨s, rfl, by rw [if_neg (Int32.not_lt.mpr c_2)], rfl⟩
  · refine g_iload_n E dX6_greater_5 rfl 0 rfl ?_
    refine g_goto (tgt := 10) E dX6_greater_6 (by decide) ?_
    exact g_iret E hE hr dX6_greater_10 (Nat.le_of_ble_eq_true rfl) (Nat.le_of_ble_eq_true rfl) ⟨s, rfl, by rw [if_pos (Int32.not_le.mp c_2)], rfl⟩
abbrev rm_X6_state : Room := { frames := 2, cells := 0, slots := 0, locals := 43 }
set_option maxHeartbeats 4000000 in
set_option maxRecDepth 100000 in
theorem m_X6_state (l : Launch) (hl : l.stackTraces = false) (D : va_G) (cy : Nat → ClassId) (e0 : Nat) {ma : Nat → Nat} {s : mS} {np : Nat} (hp0 : mi s 21 = nI np) (hp1 : np ≤ 40) {x : Int32} : mMet l yX6_state wsX6_state rm_X6_state D cy e0 [.ref (ma 0), .int (x)] ma s (fun v s' => (∃ k, k < np ∧ x = nI k ∧ v = some (.int (mr s 17 k)) ∧ s' = muI s 0 0) ∨ ((∀ k, k < np → x ≠ nI k) ∧ v = some (.int 0) ∧ s' = muI s 0 1)) := by
  refine gMet.of (cc := cX6_state) (maxL := 2) (ret := (some .int)) hl (by decide) rfl (Nat.le_of_ble_eq_true rfl) ?_
  intro C E h1 h2 h3 hr hnm hT hE
  subst h1; subst h2; subst h3
  have E : gOk C cX6_state 2 wsX6_state RX6 e0 rm_X6_state := E
  show G C (mW (xy C) ma s) 0 0 0 [(0, .ref (ma 0)), (1, .int (x))] []
  refine g_aload_n E dX6_state_0 rfl 0 rfl ?_
  refine g_aload_n E dX6_state_1 rfl 0 rfl ?_
  refine g_iload_n E dX6_state_2 rfl 1 rfl ?_
  refine k_invV (n := 1) (rest := [.ref (ma 0)]) E (m_X6_isPermit (xl C) E.tr (xD C) (xy C) e0 hp0) gX6_state_X6_isPermit rfl rfl rfl (by decide +kernel) ⟨Nat.le_of_ble_eq_true rfl, Nat.le_of_ble_eq_true rfl⟩ rfl rfl (Nat.le_of_ble_eq_true rfl) dX6_state_3 ⟨Nat.le_of_ble_eq_true rfl, Nat.le_of_ble_eq_true rfl⟩ (fun v9 s9_3 h9 => ?_)
  obtain ⟨hv9, hS9⟩ := h9
  rw [hv9, hS9]
  show G C (mW (xy C) ma s) 0 0 6 [(0, .ref (ma 0)), (1, .int (x))] [.int ((isIx (x) np)), .ref (ma 0)]
  refine g_if_eq (tgt := 13) E dX6_state_6 (by decide) (fun c_6 => ?_) (fun c_6 => ?_)
  · have hbad := isIx_f (by omega) c_6
    refine g_iconst (v := 1) E dX6_state_13 (by decide) ?_
    refine k_invV (n := 1) (rest := []) E (m_X6_isFine (xl C) E.tr (xD C) (xy C) e0 (s := s) (x := 1)) gX6_state_X6_isFine rfl rfl rfl (by decide +kernel) ⟨Nat.le_of_ble_eq_true rfl, Nat.le_of_ble_eq_true rfl⟩ rfl rfl (Nat.le_of_ble_eq_true rfl) dX6_state_14 ⟨Nat.le_of_ble_eq_true rfl, Nat.le_of_ble_eq_true rfl⟩ (fun v9 s9_14 h9 => ?_)
    obtain ⟨hv9, hS9⟩ := h9
    rw [hv9, hS9]
    rw [show bI ((1 : Int32) = 0) = 0 by decide]
    show G C (mW (xy C) ma (muI s 0 (1))) 0 0 17 [(0, .ref (ma 0)), (1, .int (x))] [.int (0)]
    refine g_if_eq (tgt := 29) E dX6_state_17 (by decide) (fun c_17 => ?_) (fun c_17 => ?_)
    · refine g_iconst (v := 0) E dX6_state_29 (by decide) ?_
      exact g_iret E hE hr dX6_state_30 (Nat.le_of_ble_eq_true rfl) (Nat.le_of_ble_eq_true rfl) ⟨(muI s 0 (1)), rfl, Or.inr ⟨hbad, rfl, rfl⟩⟩
    · exact absurd c_17 (by decide)
  · obtain ⟨k, hk, hx⟩ := isIx_t (by omega) c_6
    subst hx
    show G C (mW (xy C) ma s) 0 0 9 [(0, .ref (ma 0)), (1, .int (nI k))] [.ref (ma 0)]
    refine g_iconst (v := 0) E dX6_state_9 (by decide) ?_
    refine g_goto (tgt := 14) E dX6_state_10 (by decide) ?_
    refine k_invV (n := 1) (rest := []) E (m_X6_isFine (xl C) E.tr (xD C) (xy C) e0 (s := s) (x := 0)) gX6_state_X6_isFine rfl rfl rfl (by decide +kernel) ⟨Nat.le_of_ble_eq_true rfl, Nat.le_of_ble_eq_true rfl⟩ rfl rfl (Nat.le_of_ble_eq_true rfl) dX6_state_14 ⟨Nat.le_of_ble_eq_true rfl, Nat.le_of_ble_eq_true rfl⟩ (fun v9 s9_14 h9 => ?_)
    obtain ⟨hv9, hS9⟩ := h9
    rw [hv9, hS9]
    rw [show bI ((0 : Int32) = 0) = 1 by decide]
    show G C (mW (xy C) ma (muI s 0 (0))) 0 0 17 [(0, .ref (ma 0)), (1, .int (nI k))] [.int (1)]
    refine g_if_eq (tgt := 29) E dX6_state_17 (by decide) (fun c_17 => ?_) (fun c_17 => ?_)
    · exact absurd c_17 (by decide)
    · refine g_aload_n E dX6_state_20 rfl 0 rfl ?_
      refine k_get_state (s := (muI s 0 (0))) E (fun _ h => (List.mem_cons_of_mem _ (List.mem_append_right _ h))) (List.mem_cons_of_mem _ (List.mem_append_left _ (List.mem_of_getElem? (i := 0) rfl))) dX6_state_21 ?_
      refine g_iload_n E dX6_state_24 rfl 1 rfl ?_
      refine k_ald_state (s := (muI s 0 (0))) E k rfl (by omega) dX6_state_25 ?_
      refine g_goto (tgt := 30) E dX6_state_26 (by decide) ?_
      exact g_iret E hE hr dX6_state_30 (Nat.le_of_ble_eq_true rfl) (Nat.le_of_ble_eq_true rfl) ⟨(muI s 0 (0)), rfl, Or.inl ⟨k, hk, rfl, rfl, rfl⟩⟩
abbrev rm_X6_cause : Room := { frames := 2, cells := 0, slots := 0, locals := 43 }
set_option maxHeartbeats 4000000 in
set_option maxRecDepth 100000 in
theorem m_X6_cause (l : Launch) (hl : l.stackTraces = false) (D : va_G) (cy : Nat → ClassId) (e0 : Nat) {ma : Nat → Nat} {s : mS} {np : Nat} (hp0 : mi s 21 = nI np) (hp1 : np ≤ 40) {x : Int32} : mMet l yX6_cause wsX6_cause rm_X6_cause D cy e0 [.ref (ma 0), .int (x)] ma s (fun v s' => (∃ k, k < np ∧ x = nI k ∧ v = some (.int (mr s 18 k)) ∧ s' = muI s 0 0) ∨ ((∀ k, k < np → x ≠ nI k) ∧ v = some (.int 0) ∧ s' = muI s 0 1)) := by
  refine gMet.of (cc := cX6_cause) (maxL := 2) (ret := (some .int)) hl (by decide) rfl (Nat.le_of_ble_eq_true rfl) ?_
  intro C E h1 h2 h3 hr hnm hT hE
  subst h1; subst h2; subst h3
  have E : gOk C cX6_cause 2 wsX6_cause RX6 e0 rm_X6_cause := E
  show G C (mW (xy C) ma s) 0 0 0 [(0, .ref (ma 0)), (1, .int (x))] []
  refine g_aload_n E dX6_cause_0 rfl 0 rfl ?_
  refine g_aload_n E dX6_cause_1 rfl 0 rfl ?_
  refine g_iload_n E dX6_cause_2 rfl 1 rfl ?_
  refine k_invV (n := 1) (rest := [.ref (ma 0)]) E (m_X6_isPermit (xl C) E.tr (xD C) (xy C) e0 hp0) gX6_cause_X6_isPermit rfl rfl rfl (by decide +kernel) ⟨Nat.le_of_ble_eq_true rfl, Nat.le_of_ble_eq_true rfl⟩ rfl rfl (Nat.le_of_ble_eq_true rfl) dX6_cause_3 ⟨Nat.le_of_ble_eq_true rfl, Nat.le_of_ble_eq_true rfl⟩ (fun v9 s9_3 h9 => ?_)
  obtain ⟨hv9, hS9⟩ := h9
  rw [hv9, hS9]
  show G C (mW (xy C) ma s) 0 0 6 [(0, .ref (ma 0)), (1, .int (x))] [.int ((isIx (x) np)), .ref (ma 0)]
  refine g_if_eq (tgt := 13) E dX6_cause_6 (by decide) (fun c_6 => ?_) (fun c_6 => ?_)
  · have hbad := isIx_f (by omega) c_6
    refine g_iconst (v := 1) E dX6_cause_13 (by decide) ?_
    refine k_invV (n := 1) (rest := []) E (m_X6_isFine (xl C) E.tr (xD C) (xy C) e0 (s := s) (x := 1)) gX6_cause_X6_isFine rfl rfl rfl (by decide +kernel) ⟨Nat.le_of_ble_eq_true rfl, Nat.le_of_ble_eq_true rfl⟩ rfl rfl (Nat.le_of_ble_eq_true rfl) dX6_cause_14 ⟨Nat.le_of_ble_eq_true rfl, Nat.le_of_ble_eq_true rfl⟩ (fun v9 s9_14 h9 => ?_)
    obtain ⟨hv9, hS9⟩ := h9
    rw [hv9, hS9]
    rw [show bI ((1 : Int32) = 0) = 0 by decide]
    show G C (mW (xy C) ma (muI s 0 (1))) 0 0 17 [(0, .ref (ma 0)), (1, .int (x))] [.int (0)]
    refine g_if_eq (tgt := 29) E dX6_cause_17 (by decide) (fun c_17 => ?_) (fun c_17 => ?_)
    · refine g_iconst (v := 0) E dX6_cause_29 (by decide) ?_
      exact g_iret E hE hr dX6_cause_30 (Nat.le_of_ble_eq_true rfl) (Nat.le_of_ble_eq_true rfl) ⟨(muI s 0 (1)), rfl, Or.inr ⟨hbad, rfl, rfl⟩⟩
    · exact absurd c_17 (by decide)
  · obtain ⟨k, hk, hx⟩ := isIx_t (by omega) c_6
    subst hx
    show G C (mW (xy C) ma s) 0 0 9 [(0, .ref (ma 0)), (1, .int (nI k))] [.ref (ma 0)]
    refine g_iconst (v := 0) E dX6_cause_9 (by decide) ?_
    refine g_goto (tgt := 14) E dX6_cause_10 (by decide) ?_
    refine k_invV (n := 1) (rest := []) E (m_X6_isFine (xl C) E.tr (xD C) (xy C) e0 (s := s) (x := 0)) gX6_cause_X6_isFine rfl rfl rfl (by decide +kernel) ⟨Nat.le_of_ble_eq_true rfl, Nat.le_of_ble_eq_true rfl⟩ rfl rfl (Nat.le_of_ble_eq_true rfl) dX6_cause_14 ⟨Nat.le_of_ble_eq_true rfl, Nat.le_of_ble_eq_true rfl⟩ (fun v9 s9_14 h9 => ?_)
    obtain ⟨hv9, hS9⟩ := h9
    rw [hv9, hS9]
    rw [show bI ((0 : Int32) = 0) = 1 by decide]
    show G C (mW (xy C) ma (muI s 0 (0))) 0 0 17 [(0, .ref (ma 0)), (1, .int (nI k))] [.int (1)]
    refine g_if_eq (tgt := 29) E dX6_cause_17 (by decide) (fun c_17 => ?_) (fun c_17 => ?_)
    · exact absurd c_17 (by decide)
    · refine g_aload_n E dX6_cause_20 rfl 0 rfl ?_
      refine k_get_cause (s := (muI s 0 (0))) E (fun _ h => (List.mem_cons_of_mem _ (List.mem_append_right _ h))) (List.mem_cons_of_mem _ (List.mem_append_left _ (List.mem_of_getElem? (i := 0) rfl))) dX6_cause_21 ?_
      refine g_iload_n E dX6_cause_24 rfl 1 rfl ?_
      refine k_ald_cause (s := (muI s 0 (0))) E k rfl (by omega) dX6_cause_25 ?_
      refine g_goto (tgt := 30) E dX6_cause_26 (by decide) ?_
      exact g_iret E hE hr dX6_cause_30 (Nat.le_of_ble_eq_true rfl) (Nat.le_of_ble_eq_true rfl) ⟨(muI s 0 (0)), rfl, Or.inl ⟨k, hk, rfl, rfl, rfl⟩⟩
abbrev rm_X6_points : Room := { frames := 2, cells := 0, slots := 0, locals := 42 }
set_option maxHeartbeats 4000000 in
set_option maxRecDepth 100000 in
theorem m_X6_points (l : Launch) (hl : l.stackTraces = false) (D : va_G) (cy : Nat → ClassId) (e0 : Nat) {ma : Nat → Nat} {s : mS}  {x : Int32} : mMet l yX6_points wsX6_points rm_X6_points D cy e0 [.ref (ma 0), .int (x)] ma s (fun v s' => (∃ k, k < 6 ∧ x = nI k ∧ v = some (.int (mr s 25 k)) ∧ s' = muI s 0 0) ∨ ((∀ k, k < 6 → x ≠ nI k) ∧ v = some (.int 0) ∧ s' = muI s 0 1)) := by
  refine gMet.of (cc := cX6_points) (maxL := 2) (ret := (some .int)) hl (by decide) rfl (Nat.le_of_ble_eq_true rfl) ?_
  intro C E h1 h2 h3 hr hnm hT hE
  subst h1; subst h2; subst h3
  have E : gOk C cX6_points 2 wsX6_points RX6 e0 rm_X6_points := E
  show G C (mW (xy C) ma s) 0 0 0 [(0, .ref (ma 0)), (1, .int (x))] []
  refine g_aload_n E dX6_points_0 rfl 0 rfl ?_
  refine g_iload_n E dX6_points_1 rfl 1 rfl ?_
  refine k_invS (n := 1) (rest := [.ref (ma 0)]) E (m_X6_isApplicant (xl C) E.tr (xD C) (xy C) e0 ) gX6_points_X6_isApplicant rfl rfl rfl (by decide +kernel) ⟨Nat.le_of_ble_eq_true rfl, Nat.le_of_ble_eq_true rfl⟩ rfl rfl (Nat.le_of_ble_eq_true rfl) dX6_points_2 ⟨Nat.le_of_ble_eq_true rfl, Nat.le_of_ble_eq_true rfl⟩ (fun v9 s9_2 h9 => ?_)
  obtain ⟨hv9, hS9⟩ := h9
  rw [hv9, hS9]
  show G C (mW (xy C) ma s) 0 0 5 [(0, .ref (ma 0)), (1, .int (x))] [.int ((isIx (x) 6)), .ref (ma 0)]
  refine g_if_eq (tgt := 12) E dX6_points_5 (by decide) (fun c_5 => ?_) (fun c_5 => ?_)
  · have hbad := isIx_f (by omega) c_5
    refine g_iconst (v := 1) E dX6_points_12 (by decide) ?_
    refine k_invV (n := 1) (rest := []) E (m_X6_isFine (xl C) E.tr (xD C) (xy C) e0 (s := s) (x := 1)) gX6_points_X6_isFine rfl rfl rfl (by decide +kernel) ⟨Nat.le_of_ble_eq_true rfl, Nat.le_of_ble_eq_true rfl⟩ rfl rfl (Nat.le_of_ble_eq_true rfl) dX6_points_13 ⟨Nat.le_of_ble_eq_true rfl, Nat.le_of_ble_eq_true rfl⟩ (fun v9 s9_13 h9 => ?_)
    obtain ⟨hv9, hS9⟩ := h9
    rw [hv9, hS9]
    rw [show bI ((1 : Int32) = 0) = 0 by decide]
    show G C (mW (xy C) ma (muI s 0 (1))) 0 0 16 [(0, .ref (ma 0)), (1, .int (x))] [.int (0)]
    refine g_if_eq (tgt := 28) E dX6_points_16 (by decide) (fun c_16 => ?_) (fun c_16 => ?_)
    · refine g_iconst (v := 0) E dX6_points_28 (by decide) ?_
      exact g_iret E hE hr dX6_points_29 (Nat.le_of_ble_eq_true rfl) (Nat.le_of_ble_eq_true rfl) ⟨(muI s 0 (1)), rfl, Or.inr ⟨hbad, rfl, rfl⟩⟩
    · exact absurd c_16 (by decide)
  · obtain ⟨k, hk, hx⟩ := isIx_t (by omega) c_5
    subst hx
    show G C (mW (xy C) ma s) 0 0 8 [(0, .ref (ma 0)), (1, .int (nI k))] [.ref (ma 0)]
    refine g_iconst (v := 0) E dX6_points_8 (by decide) ?_
    refine g_goto (tgt := 13) E dX6_points_9 (by decide) ?_
    refine k_invV (n := 1) (rest := []) E (m_X6_isFine (xl C) E.tr (xD C) (xy C) e0 (s := s) (x := 0)) gX6_points_X6_isFine rfl rfl rfl (by decide +kernel) ⟨Nat.le_of_ble_eq_true rfl, Nat.le_of_ble_eq_true rfl⟩ rfl rfl (Nat.le_of_ble_eq_true rfl) dX6_points_13 ⟨Nat.le_of_ble_eq_true rfl, Nat.le_of_ble_eq_true rfl⟩ (fun v9 s9_13 h9 => ?_)
    obtain ⟨hv9, hS9⟩ := h9
    rw [hv9, hS9]
    rw [show bI ((0 : Int32) = 0) = 1 by decide]
    show G C (mW (xy C) ma (muI s 0 (0))) 0 0 16 [(0, .ref (ma 0)), (1, .int (nI k))] [.int (1)]
    refine g_if_eq (tgt := 28) E dX6_points_16 (by decide) (fun c_16 => ?_) (fun c_16 => ?_)
    · exact absurd c_16 (by decide)
    · refine g_aload_n E dX6_points_19 rfl 0 rfl ?_
      refine k_get_points (s := (muI s 0 (0))) E (fun _ h => (List.mem_cons_of_mem _ (List.mem_append_right _ h))) (List.mem_cons_of_mem _ (List.mem_append_left _ (List.mem_of_getElem? (i := 0) rfl))) dX6_points_20 ?_
      refine g_iload_n E dX6_points_23 rfl 1 rfl ?_
      refine k_ald_points (s := (muI s 0 (0))) E k rfl (by omega) dX6_points_24 ?_
      refine g_goto (tgt := 29) E dX6_points_25 (by decide) ?_
      exact g_iret E hE hr dX6_points_29 (Nat.le_of_ble_eq_true rfl) (Nat.le_of_ble_eq_true rfl) ⟨(muI s 0 (0)), rfl, Or.inl ⟨k, hk, rfl, rfl, rfl⟩⟩
abbrev rm_X6_fine : Room := { frames := 2, cells := 0, slots := 0, locals := 43 }
set_option maxHeartbeats 4000000 in
set_option maxRecDepth 100000 in
theorem m_X6_fine (l : Launch) (hl : l.stackTraces = false) (D : va_G) (cy : Nat → ClassId) (e0 : Nat) {ma : Nat → Nat} {s : mS} {np : Nat} (hp0 : mi s 21 = nI np) (hp1 : np ≤ 40) {x : Int32} : mMet l yX6_fine wsX6_fine rm_X6_fine D cy e0 [.ref (ma 0), .int (x)] ma s (fun v s' => (∃ k, k < np ∧ x = nI k ∧ v = some (.long (2 * ml s 20 k)) ∧ s' = muI s 0 0) ∨ ((∀ k, k < np → x ≠ nI k) ∧ v = some (.long 0) ∧ s' = muI s 0 1)) := by
  refine gMet.of (cc := cX6_fine) (maxL := 2) (ret := (some .long)) hl (by decide) rfl (Nat.le_of_ble_eq_true rfl) ?_
  intro C E h1 h2 h3 hr hnm hT hE
  subst h1; subst h2; subst h3
  have E : gOk C cX6_fine 2 wsX6_fine RX6 e0 rm_X6_fine := E
  show G C (mW (xy C) ma s) 0 0 0 [(0, .ref (ma 0)), (1, .int (x))] []
  refine g_aload_n E dX6_fine_0 rfl 0 rfl ?_
  refine g_aload_n E dX6_fine_1 rfl 0 rfl ?_
  refine g_iload_n E dX6_fine_2 rfl 1 rfl ?_
  refine k_invV (n := 1) (rest := [.ref (ma 0)]) E (m_X6_isPermit (xl C) E.tr (xD C) (xy C) e0 hp0) gX6_fine_X6_isPermit rfl rfl rfl (by decide +kernel) ⟨Nat.le_of_ble_eq_true rfl, Nat.le_of_ble_eq_true rfl⟩ rfl rfl (Nat.le_of_ble_eq_true rfl) dX6_fine_3 ⟨Nat.le_of_ble_eq_true rfl, Nat.le_of_ble_eq_true rfl⟩ (fun v9 s9_3 h9 => ?_)
  obtain ⟨hv9, hS9⟩ := h9
  rw [hv9, hS9]
  show G C (mW (xy C) ma s) 0 0 6 [(0, .ref (ma 0)), (1, .int (x))] [.int ((isIx (x) np)), .ref (ma 0)]
  refine g_if_eq (tgt := 13) E dX6_fine_6 (by decide) (fun c_6 => ?_) (fun c_6 => ?_)
  · have hbad := isIx_f (by omega) c_6
    refine g_iconst (v := 1) E dX6_fine_13 (by decide) ?_
    refine k_invV (n := 1) (rest := []) E (m_X6_isFine (xl C) E.tr (xD C) (xy C) e0 (s := s) (x := 1)) gX6_fine_X6_isFine rfl rfl rfl (by decide +kernel) ⟨Nat.le_of_ble_eq_true rfl, Nat.le_of_ble_eq_true rfl⟩ rfl rfl (Nat.le_of_ble_eq_true rfl) dX6_fine_14 ⟨Nat.le_of_ble_eq_true rfl, Nat.le_of_ble_eq_true rfl⟩ (fun v9 s9_14 h9 => ?_)
    obtain ⟨hv9, hS9⟩ := h9
    rw [hv9, hS9]
    rw [show bI ((1 : Int32) = 0) = 0 by decide]
    show G C (mW (xy C) ma (muI s 0 (1))) 0 0 17 [(0, .ref (ma 0)), (1, .int (x))] [.int (0)]
    refine g_if_eq (tgt := 33) E dX6_fine_17 (by decide) (fun c_17 => ?_) (fun c_17 => ?_)
    · refine g_lconst (v := 0) E dX6_fine_33 (by decide) ?_
      exact g_lret E hE hr dX6_fine_34 (Nat.le_of_ble_eq_true rfl) (Nat.le_of_ble_eq_true rfl) ⟨(muI s 0 (1)), rfl, Or.inr ⟨hbad, rfl, rfl⟩⟩
    · exact absurd c_17 (by decide)
  · obtain ⟨k, hk, hx⟩ := isIx_t (by omega) c_6
    subst hx
    show G C (mW (xy C) ma s) 0 0 9 [(0, .ref (ma 0)), (1, .int (nI k))] [.ref (ma 0)]
    refine g_iconst (v := 0) E dX6_fine_9 (by decide) ?_
    refine g_goto (tgt := 14) E dX6_fine_10 (by decide) ?_
    refine k_invV (n := 1) (rest := []) E (m_X6_isFine (xl C) E.tr (xD C) (xy C) e0 (s := s) (x := 0)) gX6_fine_X6_isFine rfl rfl rfl (by decide +kernel) ⟨Nat.le_of_ble_eq_true rfl, Nat.le_of_ble_eq_true rfl⟩ rfl rfl (Nat.le_of_ble_eq_true rfl) dX6_fine_14 ⟨Nat.le_of_ble_eq_true rfl, Nat.le_of_ble_eq_true rfl⟩ (fun v9 s9_14 h9 => ?_)
    obtain ⟨hv9, hS9⟩ := h9
    rw [hv9, hS9]
    rw [show bI ((0 : Int32) = 0) = 1 by decide]
    show G C (mW (xy C) ma (muI s 0 (0))) 0 0 17 [(0, .ref (ma 0)), (1, .int (nI k))] [.int (1)]
    refine g_if_eq (tgt := 33) E dX6_fine_17 (by decide) (fun c_17 => ?_) (fun c_17 => ?_)
    · exact absurd c_17 (by decide)
    · refine g_ldc2 E (List.mem_cons_of_mem _ (List.mem_append_left _ (List.mem_of_getElem? (i := 0) rfl))) dX6_fine_20 ?_
      refine g_aload_n E dX6_fine_23 rfl 0 rfl ?_
      refine k_get_damage (s := (muI s 0 (0))) E (fun _ h => (List.mem_cons_of_mem _ (List.mem_append_right _ h))) (List.mem_cons_of_mem _ (List.mem_append_left _ (List.mem_of_getElem? (i := 1) rfl))) dX6_fine_24 ?_
      refine g_iload_n E dX6_fine_27 rfl 1 rfl ?_
      refine k_ald_damage (s := (muI s 0 (0))) E k rfl (by omega) dX6_fine_28 ?_
      refine g_lmul E dX6_fine_29 ?_
      refine g_goto (tgt := 34) E dX6_fine_30 (by decide) ?_
      exact g_lret E hE hr dX6_fine_34 (Nat.le_of_ble_eq_true rfl) (Nat.le_of_ble_eq_true rfl) ⟨(muI s 0 (0)), rfl, Or.inl ⟨k, hk, rfl, rfl, rfl⟩⟩
abbrev rm_X6_minutesNow : Room := { frames := 2, cells := 0, slots := 0, locals := 43 }
set_option maxHeartbeats 4000000 in
set_option maxRecDepth 100000 in
theorem m_X6_minutesNow (l : Launch) (hl : l.stackTraces = false) (D : va_G) (cy : Nat → ClassId) (e0 : Nat) {ma : Nat → Nat} {s : mS} {nl : Nat} (hl0 : mi s 10 = nI nl) (hl1 : nl ≤ 6) {x : Int32} : mMet l yX6_minutesNow wsX6_minutesNow rm_X6_minutesNow D cy e0 [.ref (ma 0), .int (x)] ma s (fun v s' => (∃ k, k < nl ∧ x = nI k ∧ v = some (.long (ml s 9 k)) ∧ s' = muI s 0 0) ∨ ((∀ k, k < nl → x ≠ nI k) ∧ v = some (.long 0) ∧ s' = muI s 0 1)) := by
  refine gMet.of (cc := cX6_minutesNow) (maxL := 2) (ret := (some .long)) hl (by decide) rfl (Nat.le_of_ble_eq_true rfl) ?_
  intro C E h1 h2 h3 hr hnm hT hE
  subst h1; subst h2; subst h3
  have E : gOk C cX6_minutesNow 2 wsX6_minutesNow RX6 e0 rm_X6_minutesNow := E
  show G C (mW (xy C) ma s) 0 0 0 [(0, .ref (ma 0)), (1, .int (x))] []
  refine g_aload_n E dX6_minutesNow_0 rfl 0 rfl ?_
  refine g_aload_n E dX6_minutesNow_1 rfl 0 rfl ?_
  refine g_iload_n E dX6_minutesNow_2 rfl 1 rfl ?_
  refine k_invV (n := 1) (rest := [.ref (ma 0)]) E (m_X6_isLine (xl C) E.tr (xD C) (xy C) e0 hl0) gX6_minutesNow_X6_isLine rfl rfl rfl (by decide +kernel) ⟨Nat.le_of_ble_eq_true rfl, Nat.le_of_ble_eq_true rfl⟩ rfl rfl (Nat.le_of_ble_eq_true rfl) dX6_minutesNow_3 ⟨Nat.le_of_ble_eq_true rfl, Nat.le_of_ble_eq_true rfl⟩ (fun v9 s9_3 h9 => ?_)
  obtain ⟨hv9, hS9⟩ := h9
  rw [hv9, hS9]
  show G C (mW (xy C) ma s) 0 0 6 [(0, .ref (ma 0)), (1, .int (x))] [.int ((isIx (x) nl)), .ref (ma 0)]
  refine g_if_eq (tgt := 13) E dX6_minutesNow_6 (by decide) (fun c_6 => ?_) (fun c_6 => ?_)
  · have hbad := isIx_f (by omega) c_6
    refine g_iconst (v := 1) E dX6_minutesNow_13 (by decide) ?_
    refine k_invV (n := 1) (rest := []) E (m_X6_isFine (xl C) E.tr (xD C) (xy C) e0 (s := s) (x := 1)) gX6_minutesNow_X6_isFine rfl rfl rfl (by decide +kernel) ⟨Nat.le_of_ble_eq_true rfl, Nat.le_of_ble_eq_true rfl⟩ rfl rfl (Nat.le_of_ble_eq_true rfl) dX6_minutesNow_14 ⟨Nat.le_of_ble_eq_true rfl, Nat.le_of_ble_eq_true rfl⟩ (fun v9 s9_14 h9 => ?_)
    obtain ⟨hv9, hS9⟩ := h9
    rw [hv9, hS9]
    rw [show bI ((1 : Int32) = 0) = 0 by decide]
    show G C (mW (xy C) ma (muI s 0 (1))) 0 0 17 [(0, .ref (ma 0)), (1, .int (x))] [.int (0)]
    refine g_if_eq (tgt := 29) E dX6_minutesNow_17 (by decide) (fun c_17 => ?_) (fun c_17 => ?_)
    · refine g_lconst (v := 0) E dX6_minutesNow_29 (by decide) ?_
      exact g_lret E hE hr dX6_minutesNow_30 (Nat.le_of_ble_eq_true rfl) (Nat.le_of_ble_eq_true rfl) ⟨(muI s 0 (1)), rfl, Or.inr ⟨hbad, rfl, rfl⟩⟩
    · exact absurd c_17 (by decide)
  · obtain ⟨k, hk, hx⟩ := isIx_t (by omega) c_6
    subst hx
    show G C (mW (xy C) ma s) 0 0 9 [(0, .ref (ma 0)), (1, .int (nI k))] [.ref (ma 0)]
    refine g_iconst (v := 0) E dX6_minutesNow_9 (by decide) ?_
    refine g_goto (tgt := 14) E dX6_minutesNow_10 (by decide) ?_
    refine k_invV (n := 1) (rest := []) E (m_X6_isFine (xl C) E.tr (xD C) (xy C) e0 (s := s) (x := 0)) gX6_minutesNow_X6_isFine rfl rfl rfl (by decide +kernel) ⟨Nat.le_of_ble_eq_true rfl, Nat.le_of_ble_eq_true rfl⟩ rfl rfl (Nat.le_of_ble_eq_true rfl) dX6_minutesNow_14 ⟨Nat.le_of_ble_eq_true rfl, Nat.le_of_ble_eq_true rfl⟩ (fun v9 s9_14 h9 => ?_)
    obtain ⟨hv9, hS9⟩ := h9
    rw [hv9, hS9]
    rw [show bI ((0 : Int32) = 0) = 1 by decide]
    show G C (mW (xy C) ma (muI s 0 (0))) 0 0 17 [(0, .ref (ma 0)), (1, .int (nI k))] [.int (1)]
    refine g_if_eq (tgt := 29) E dX6_minutesNow_17 (by decide) (fun c_17 => ?_) (fun c_17 => ?_)
    · exact absurd c_17 (by decide)
    · refine g_aload_n E dX6_minutesNow_20 rfl 0 rfl ?_
      refine k_get_minutes (s := (muI s 0 (0))) E (fun _ h => (List.mem_cons_of_mem _ (List.mem_append_right _ h))) (List.mem_cons_of_mem _ (List.mem_append_left _ (List.mem_of_getElem? (i := 0) rfl))) dX6_minutesNow_21 ?_
      refine g_iload_n E dX6_minutesNow_24 rfl 1 rfl ?_
      refine k_ald_minutes (s := (muI s 0 (0))) E k rfl (by omega) dX6_minutesNow_25 ?_
      refine g_goto (tgt := 30) E dX6_minutesNow_26 (by decide) ?_
      exact g_lret E hE hr dX6_minutesNow_30 (Nat.le_of_ble_eq_true rfl) (Nat.le_of_ble_eq_true rfl) ⟨(muI s 0 (0)), rfl, Or.inl ⟨k, hk, rfl, rfl, rfl⟩⟩
