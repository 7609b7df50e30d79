/-! what stays where it was -/
def FR (S S' : wS) (X : Nat → Prop) : Prop := (∀ x, x ∈ sL S → x ∈ sL S') ∧ ∀ x, x ∈ sL S → ¬ X x → sK S' x = sK S x ∧ (∀ f, sI S' f x = sI S f x) ∧ (∀ f, sJ S' f x = sJ S f x) ∧ (∀ f, sP S' f x = sP S f x) ∧ sN S' x = sN S x ∧ sR S' x = sR S x ∧ sQ S' x = sQ S x
theorem FR.rf {S : wS} {X : Nat → Prop} : FR S S X := ⟨fun _ h => h, fun _ _ _ => ⟨rfl, fun _ => rfl, fun _ => rfl, fun _ => rfl, rfl, rfl, rfl⟩⟩
theorem FR.tr {S S' S'' : wS} {X Y Z : Nat → Prop} (h : FR S S' X) (h' : FR S' S'' Y) (hX : ∀ x, x ∈ sL S → X x → Z x) (hY : ∀ x, x ∈ sL S → Y x → Z x) : FR S S'' Z := by
  refine ⟨fun x q => h'.1 x (h.1 x q), fun x q hz => ?_⟩
  obtain ⟨a1, a2, a3, a4, a5, a6, a7⟩ := h.2 x q (fun g => hz (hX x q g))
  obtain ⟨b1, b2, b3, b4, b5, b6, b7⟩ := h'.2 x (h.1 x q) (fun g => hz (hY x q g))
  exact ⟨b1.trans a1, fun f => (b2 f).trans (a2 f), fun f => (b3 f).trans (a3 f), fun f => (b4 f).trans (a4 f), b5.trans a5, b6.trans a6, b7.trans a7⟩
theorem FR.nw {S : wS} {q k n : Nat} (hq : q ∉ sL S) : FR S (nw S q k n) (fun _ => False) := ⟨fun _ h => nw_mem h, fun x h _ => by
  have e := ne_of_new h hq
  exact ⟨nw_K e, fun _ => nw_I e, fun _ => nw_J e, fun _ => nw_P e, nw_N e, nw_R e, nw_Q e⟩⟩
theorem FR.uI {S : wS} {f a : Nat} {v : Int32} : FR S (uI S f a v) (fun x => x = a) := ⟨fun _ h => h, fun x _ h => ⟨rfl, fun _ => up2_na h, fun _ => rfl, fun _ => rfl, rfl, rfl, rfl⟩⟩
theorem FR.uJ {S : wS} {f a : Nat} {v : Int64} : FR S (uJ S f a v) (fun x => x = a) := ⟨fun _ h => h, fun x _ h => ⟨rfl, fun _ => rfl, fun _ => up2_na h, fun _ => rfl, rfl, rfl, rfl⟩⟩
theorem FR.uP {S : wS} {f a : Nat} {v : Option Nat} : FR S (uP S f a v) (fun x => x = a) := ⟨fun _ h => h, fun x _ h => ⟨rfl, fun _ => rfl, fun _ => rfl, fun _ => up2_na h, rfl, rfl, rfl⟩⟩
theorem FR.uQ {S : wS} {a k : Nat} {v : Option Nat} : FR S (uQ S a k v) (fun x => x = a) := ⟨fun _ h => h, fun x _ h => ⟨rfl, fun _ => rfl, fun _ => rfl, fun _ => rfl, rfl, rfl, up2_nf h⟩⟩
theorem FR.uR {S : wS} {a k : Nat} {v : Int32} : FR S (uR S a k v) (fun x => x = a) := ⟨fun _ h => h, fun x _ h => ⟨rfl, fun _ => rfl, fun _ => rfl, fun _ => rfl, rfl, up2_nf h, rfl⟩⟩
theorem FR.uQr {S : wS} {a : Nat} {g : Nat → Option Nat} : FR S (uQr S a g) (fun x => x = a) := ⟨fun _ h => h, fun x _ h => ⟨rfl, fun _ => rfl, fun _ => rfl, fun _ => rfl, rfl, rfl, va_up_ne _ _ h⟩⟩
theorem grw_mem {S : wS} {a q N x : Nat} (h : x ∈ sL S) : x ∈ sL (grw S a q N) := nw_mem (k := 8) (n := N) h
theorem grw_K {S : wS} {a q N x : Nat} (h : x ≠ q) : sK (grw S a q N) x = sK S x := nw_K (k := 8) (n := N) h
theorem grw_N {S : wS} {a q N x : Nat} (h : x ≠ q) : sN (grw S a q N) x = sN S x := nw_N (k := 8) (n := N) h
theorem grw_own {S : wS} {a q N : Nat} : q ∈ sL (grw S a q N) := nw_own (k := 8) (n := N)
theorem grw_Ko {S : wS} {a q N : Nat} : sK (grw S a q N) q = 8 := nw_Ko (n := N)
theorem grw_No {S : wS} {a q N : Nat} : sN (grw S a q N) q = N := nw_No (k := 8)
theorem grw_Qo {S : wS} {a q N : Nat} : sQ (grw S a q N) q = va_cpy (sQ S a) (fun _ => none) 0 0 (sN S a) := va_up_self _ _ _
theorem FR.grw {S : wS} {a q N : Nat} (hq : q ∉ sL S) : FR S (grw S a q N) (fun _ => False) := (FR.nw hq).tr (FR.uQr (a := q)) (fun _ _ h => h) (fun x h e => hq (e ▸ h))
theorem gMet.imp {l : Launch} {y : MethodName} {wds : List Cond} {rm : Room} {D : va_G} {cy : Nat → ClassId} {e0 : Nat} {av : List Value} {w0 : va_W} {post post' : Option Value → va_W → Prop} {xpost : String → va_W → Prop} {mc ms : Nat} (h : gMet l y wds rm D cy e0 av w0 post xpost mc ms) (hp : ∀ v w, post v w → post' v w) : gMet l y wds rm D cy e0 av w0 post' xpost mc ms :=
  fun sz => MetFree.imp (h sz) (fun a s o t q => q.imp (fun q => ⟨⟨q.1.1.elim fun v g => g.elim fun w g => ⟨v, w, g.1, hp v w g.2.1, g.2.2⟩, q.1.2⟩, q.2⟩) id)
theorem cMet.imp {l : Launch} {y : MethodName} {wds : List Cond} {rm : Room} {D : va_G} {cy : Nat → ClassId} {e0 : Nat} {av : List Value} {S : wS} {post post' : Option Value → wS → Prop} {xpost : String → wS → Prop} {mc ms : Nat} (h : cMet l y wds rm D cy e0 av S post xpost mc ms) (hp : ∀ v S', post v S' → post' v S') : cMet l y wds rm D cy e0 av S post' xpost mc ms :=
  gMet.imp h (fun v w q => q.elim fun S' g => ⟨S', g.1, hp v S' g.2⟩)
theorem nI_d1 (n : Nat) : nI (n + 1) - nI n = 1 := by rw [nI_succ, Int32.add_comm]; exact Int32.add_sub_cancel _ _
abbrev rm_Jx4a65c_grow_92f84 : Room := { frames := 4, cells := 1, slots := 1000, locals := 300 }
set_option maxHeartbeats 4000000 in
set_option maxRecDepth 100000 in
theorem m_grow_A (l : Launch) (hl : l.stackTraces = false) (D : va_G) (cy : Nat → ClassId) (e0 : Nat) {S : wS}  {lq : Nat} (hlq : lq ∈ sL S) (hlk : sK S lq = 6) (hd : sP S 14 lq = some e0) : cMet l yJx4a65c_grow_92f84 wsJx4a65c_grow_92f84 rm_Jx4a65c_grow_92f84 D cy e0 [.ref (lq), .int (1)] S (fun v S' => ∃ q, q ∉ sL S ∧ v = some (.ref q) ∧ S' = uP (nw S q 8 10) 14 lq (some q)) (fun _ _ => False) 1 1000 := by
  refine gMet.of (cc := cJx4a65c_grow_92f84) (maxL := 4) (ret := (some (.array (.object "java/lang/Object")))) hl (by decide) rfl (Nat.le_of_ble_eq_true rfl) ?_
  intro C E h1 h2 h3 hr hnm hT hE
  subst h1; subst h2; subst h3
  have E : gOk C cJx4a65c_grow_92f84 4 wsJx4a65c_grow_92f84 RJx4a65c e0 rm_Jx4a65c_grow_92f84 := E
  show G C (cW (xy C) S) 0 0 0 [(0, .ref (lq)), (1, .int (1))] []
  refine g_aload_n E dJx4a65c_grow_92f84_0 rfl 0 rfl ?_
  refine p_get_AL_elementData (S := S) E hlq hlk (fun _ h => (List.mem_cons_of_mem _ (List.mem_append_right _ h))) (List.mem_cons_of_mem _ (List.mem_append_left _ (List.mem_append_left _ (List.mem_of_getElem? (i := 0) rfl)))) dJx4a65c_grow_92f84_1 ?_
  rw [hd]
  show G C (cW (xy C) S) 0 0 4 [(0, .ref (lq)), (1, .int (1))] [.ref (e0)]
  refine g_alen0 E dJx4a65c_grow_92f84_4 ?_
  refine g_istore_n (L' := [(2, .int (0)), (0, .ref (lq)), (1, .int (1))]) E dJx4a65c_grow_92f84_5 rfl (by decide) rfl ?_
  refine g_iload_n E dJx4a65c_grow_92f84_6 rfl 0 rfl ?_
  refine g_if_gt (tgt := 20) E dJx4a65c_grow_92f84_7 (by decide) (fun c_7 => ?_) (fun c_7 => ?_)
  · exact absurd c_7 (by decide)
  · refine g_aload_n E dJx4a65c_grow_92f84_10 rfl 1 rfl ?_
    refine p_get_AL_elementData (S := S) E hlq hlk (fun _ h => (List.mem_cons_of_mem _ (List.mem_append_right _ h))) (List.mem_cons_of_mem _ (List.mem_append_left _ (List.mem_append_left _ (List.mem_of_getElem? (i := 0) rfl)))) dJx4a65c_grow_92f84_11 ?_
    rw [hd]
    show G C (cW (xy C) S) 0 0 14 [(2, .int (0)), (0, .ref (lq)), (1, .int (1))] [.ref (e0)]
    refine g_gets0 E (List.mem_cons_of_mem _ (List.mem_append_left _ (List.mem_append_left _ (List.mem_of_getElem? (i := 1) rfl)))) dJx4a65c_grow_92f84_14 ?_
    refine g_acmp_eq (rx := (some (e0))) (ry := (some (e0))) (hvx := rfl) (hvy := rfl) (tgt := 45) E dJx4a65c_grow_92f84_17 (by decide) (fun c_17 => ?_) (fun c_17 => ?_)
    · refine g_aload_n E dJx4a65c_grow_92f84_45 rfl 1 rfl ?_
      refine g_bipush (v := 10) E dJx4a65c_grow_92f84_46 (by decide) ?_
      refine g_iload_n E dJx4a65c_grow_92f84_48 rfl 2 rfl ?_
      refine g_mmax (rest := [.ref (lq)]) E (List.mem_cons_of_mem _ (List.mem_append_left _ (List.mem_append_left _ (List.mem_of_getElem? (i := 2) rfl)))) (List.mem_cons_of_mem _ (List.mem_append_left _ (List.mem_append_left _ (List.mem_of_getElem? (i := 3) rfl)))) (List.mem_cons_of_mem _ (List.mem_append_left _ (List.mem_append_left _ (List.mem_of_getElem? (i := 4) rfl)))) (List.mem_cons_of_mem _ (List.mem_append_left _ (List.mem_append_left _ (List.mem_of_getElem? (i := 5) rfl)))) dJx4a65c_grow_92f84_49 (Nat.le_of_ble_eq_true rfl) (Nat.le_of_ble_eq_true rfl) (Nat.le_of_ble_eq_true rfl) (Nat.le_of_ble_eq_true rfl) ?_
      rw [show mxI (10 : Int32) 1 = 10 by decide]
      show G C (cW (xy C) S) 0 0 52 [(2, .int (0)), (0, .ref (lq)), (1, .int (1))] [.int (10), .ref (lq)]
      refine p_anewO (S := S) E (List.mem_cons_of_mem _ (List.mem_append_left _ (List.mem_append_left _ (List.mem_of_getElem? (i := 6) rfl)))) 10 rfl (by decide) (Nat.le_of_ble_eq_true rfl) (Nat.le_of_ble_eq_true rfl) dJx4a65c_grow_92f84_52 (fun q hq => ?_)
      have hql := ne_of_new hlq hq
      refine g_dup_x1 E dJx4a65c_grow_92f84_55 rfl rfl ?_
      refine p_put_AL_elementData (S := (nw S q 8 10)) (v := some q) E (nw_mem hlq) ((nw_K hql).trans hlk) (fun _ h => (List.mem_cons_of_mem _ (List.mem_append_right _ h))) (List.mem_cons_of_mem _ (List.mem_append_left _ (List.mem_append_left _ (List.mem_of_getElem? (i := 0) rfl)))) rfl dJx4a65c_grow_92f84_56 ?_
      exact g_aret E hE hr (by first | exact Or.inl ⟨_, rfl⟩ | exact Or.inr ⟨_, rfl⟩) (by first | exact Or.inl rfl | exact Or.inr ⟨_, rfl⟩) dJx4a65c_grow_92f84_59 (Nat.le_of_ble_eq_true rfl) (Nat.le_of_ble_eq_true rfl) ⟨(uP (nw S q 8 10) 14 lq (some q)), rfl, q, hq, rfl, rfl⟩
    · exact absurd rfl c_17
set_option maxHeartbeats 4000000 in
set_option maxRecDepth 100000 in
theorem m_grow_B (l : Launch) (hl : l.stackTraces = false) (D : va_G) (cy : Nat → ClassId) (e0 : Nat) {S : wS}  {lq : Nat} (hlq : lq ∈ sL S) (hlk : sK S lq = 6) {a n : Nat} (hd : sP S 14 lq = some a) (ha : a ∈ sL S) (hK : sK S a = 8) (hN : sN S a = n) (hn10 : 10 ≤ n) (hn100 : n ≤ 100) {ci : Nat} {qc : vw_C} (hqc : vwCl[ci]? = some qc) (hca : Cond.castable qc.1 "java/lang/Object" ∈ lw_tbl) (hel : ∀ k, k < sN S a → ∀ y, sQ S a k = some y → y ∈ sL S ∧ ∃ fs, wF cy S y = .inr (ci, fs)) : cMet l yJx4a65c_grow_92f84 wsJx4a65c_grow_92f84 rm_Jx4a65c_grow_92f84 D cy e0 [.ref (lq), .int (nI (n + 1))] S (fun v S' => ∃ q, q ∉ sL S ∧ v = some (.ref q) ∧ S' = uP (grw S a q (n + n / 2)) 14 lq (some q)) (fun _ _ => False) 1 1000 := by
  refine gMet.of (cc := cJx4a65c_grow_92f84) (maxL := 4) (ret := (some (.array (.object "java/lang/Object")))) hl (by decide) rfl (Nat.le_of_ble_eq_true rfl) ?_
  intro C E h1 h2 h3 hr hnm hT hE
  subst h1; subst h2; subst h3
  have E : gOk C cJx4a65c_grow_92f84 4 wsJx4a65c_grow_92f84 RJx4a65c e0 rm_Jx4a65c_grow_92f84 := E
  show G C (cW (xy C) S) 0 0 0 [(0, .ref (lq)), (1, .int (nI (n + 1)))] []
  refine g_aload_n E dJx4a65c_grow_92f84_0 rfl 0 rfl ?_
  refine p_get_AL_elementData (S := S) E hlq hlk (fun _ h => (List.mem_cons_of_mem _ (List.mem_append_right _ h))) (List.mem_cons_of_mem _ (List.mem_append_left _ (List.mem_append_left _ (List.mem_of_getElem? (i := 0) rfl)))) dJx4a65c_grow_92f84_1 ?_
  rw [hd]
  show G C (cW (xy C) S) 0 0 4 [(0, .ref (lq)), (1, .int (nI (n + 1)))] [.ref (a)]
  refine p_alen (S := S) E ha (Or.inr hK) rfl dJx4a65c_grow_92f84_4 ?_
  rw [hN]
  show G C (cW (xy C) S) 0 0 5 [(0, .ref (lq)), (1, .int (nI (n + 1)))] [.int (nI n)]
  refine g_istore_n (L' := [(2, .int (nI n)), (0, .ref (lq)), (1, .int (nI (n + 1)))]) E dJx4a65c_grow_92f84_5 rfl (by decide) rfl ?_
  refine g_iload_n E dJx4a65c_grow_92f84_6 rfl 0 rfl ?_
  refine g_if_gt (tgt := 20) E dJx4a65c_grow_92f84_7 (by decide) (fun c_7 => ?_) (fun c_7 => ?_)
  · refine g_iload_n E dJx4a65c_grow_92f84_20 rfl 0 rfl ?_
    refine g_iload_n E dJx4a65c_grow_92f84_21 rfl 2 rfl ?_
    refine g_iload_n E dJx4a65c_grow_92f84_22 rfl 0 rfl ?_
    refine g_isub E dJx4a65c_grow_92f84_23 ?_
    rw [nI_d1]
    show G C (cW (xy C) S) 0 0 24 [(2, .int (nI n)), (0, .ref (lq)), (1, .int (nI (n + 1)))] [.int (1), .int (nI n)]
    refine g_iload_n E dJx4a65c_grow_92f84_24 rfl 0 rfl ?_
    refine g_iconst (v := 1) E dJx4a65c_grow_92f84_25 (by decide) ?_
    refine g_ishr E dJx4a65c_grow_92f84_26 ?_
    rw [nI_half hn100]
    show G C (cW (xy C) S) 0 0 27 [(2, .int (nI n)), (0, .ref (lq)), (1, .int (nI (n + 1)))] [.int (nI (n / 2)), .int (1), .int (nI n)]
    refine c_invS (n := 3) (rest := []) E (m_J8_newLength_cabcc (xl C) E.tr (xD C) (xy C) e0 (S := S) hn10 hn100) gJx4a65c_grow_92f84_J8_newLength_cabcc rfl rfl rfl (by decide +kernel) ⟨Nat.le_of_ble_eq_true rfl, Nat.le_of_ble_eq_true rfl⟩ rfl rfl (Nat.le_of_ble_eq_true rfl) dJx4a65c_grow_92f84_27 ⟨Nat.le_of_ble_eq_true rfl, Nat.le_of_ble_eq_true rfl⟩ (fun _ _ h9 => h9.elim) (fun v9 S9_27 h9 => ?_)
    obtain ⟨hv9, hS9⟩ := h9
    rw [hv9, hS9]
    show G C (cW (xy C) S) 0 0 30 [(2, .int (nI n)), (0, .ref (lq)), (1, .int (nI (n + 1)))] [.int (nI (n + n / 2))]
    refine g_istore_n (L' := [(3, .int (nI (n + n / 2))), (2, .int (nI n)), (0, .ref (lq)), (1, .int (nI (n + 1)))]) E dJx4a65c_grow_92f84_30 rfl (by decide) rfl ?_
    refine g_aload_n E dJx4a65c_grow_92f84_31 rfl 2 rfl ?_
    refine g_aload_n E dJx4a65c_grow_92f84_32 rfl 2 rfl ?_
    refine p_get_AL_elementData (S := S) E hlq hlk (fun _ h => (List.mem_cons_of_mem _ (List.mem_append_right _ h))) (List.mem_cons_of_mem _ (List.mem_append_left _ (List.mem_append_left _ (List.mem_of_getElem? (i := 0) rfl)))) dJx4a65c_grow_92f84_33 ?_
    rw [hd]
    show G C (cW (xy C) S) 0 0 36 [(3, .int (nI (n + n / 2))), (2, .int (nI n)), (0, .ref (lq)), (1, .int (nI (n + 1)))] [.ref (a), .ref (lq)]
    refine g_iload_n E dJx4a65c_grow_92f84_36 rfl 0 rfl ?_
    refine c_invS (n := 2) (rest := [.ref (lq)]) E (m_J7_copyOf_1904c (xl C) E.tr (xD C) (xy C) e0 (N := n + n / 2) ha hK (by omega) (by omega) hqc hca hel) gJx4a65c_grow_92f84_J7_copyOf_1904c rfl rfl rfl (by decide +kernel) ⟨Nat.le_of_ble_eq_true rfl, Nat.le_of_ble_eq_true rfl⟩ rfl rfl (Nat.le_of_ble_eq_true rfl) dJx4a65c_grow_92f84_37 ⟨Nat.le_of_ble_eq_true rfl, Nat.le_of_ble_eq_true rfl⟩ (fun _ _ h9 => h9.elim) (fun v9 S9_37 h9 => ?_)
    obtain ⟨q, hq, hv9, hS9⟩ := h9
    have hql := ne_of_new hlq hq
    rw [hv9, hS9]
    show G C (cW (xy C) (grw S a q (n + n / 2))) 1 1000 40 [(3, .int (nI (n + n / 2))), (2, .int (nI n)), (0, .ref (lq)), (1, .int (nI (n + 1)))] [.ref (q), .ref (lq)]
    refine g_dup_x1 E dJx4a65c_grow_92f84_40 rfl rfl ?_
    refine p_put_AL_elementData (S := (grw S a q (n + n / 2))) (v := some q) E (grw_mem hlq) ((grw_K hql).trans hlk) (fun _ h => (List.mem_cons_of_mem _ (List.mem_append_right _ h))) (List.mem_cons_of_mem _ (List.mem_append_left _ (List.mem_append_left _ (List.mem_of_getElem? (i := 0) rfl)))) rfl dJx4a65c_grow_92f84_41 ?_
    exact g_aret E hE hr (by first | exact Or.inl ⟨_, rfl⟩ | exact Or.inr ⟨_, rfl⟩) (by first | exact Or.inl rfl | exact Or.inr ⟨_, rfl⟩) dJx4a65c_grow_92f84_44 (Nat.le_of_ble_eq_true rfl) (Nat.le_of_ble_eq_true rfl) ⟨(uP (grw S a q (n + n / 2)) 14 lq (some q)), rfl, q, hq, rfl, rfl⟩
  · exact absurd (nI_lt (a := 0) (b := n) (by omega) (by omega)) c_7
abbrev rm_Jx4a65c_grow_d5877 : Room := { frames := 5, cells := 1, slots := 1000, locals := 323 }
set_option maxHeartbeats 4000000 in
set_option maxRecDepth 100000 in
theorem m_grow0_A (l : Launch) (hl : l.stackTraces = false) (D : va_G) (cy : Nat → ClassId) (e0 : Nat) {S : wS}  {lq : Nat} (hlq : lq ∈ sL S) (hlk : sK S lq = 6) (hd : sP S 14 lq = some e0) (hsz : sI S 20 lq = 0) : cMet l yJx4a65c_grow_d5877 wsJx4a65c_grow_d5877 rm_Jx4a65c_grow_d5877 D cy e0 [.ref (lq)] S (fun v S' => ∃ q, q ∉ sL S ∧ v = some (.ref q) ∧ S' = uP (nw S q 8 10) 14 lq (some q)) (fun _ _ => False) 1 1000 := by
  refine gMet.of (cc := cJx4a65c_grow_d5877) (maxL := 1) (ret := (some (.array (.object "java/lang/Object")))) hl (by decide) rfl (Nat.le_of_ble_eq_true rfl) ?_
  intro C E h1 h2 h3 hr hnm hT hE
  subst h1; subst h2; subst h3
  have E : gOk C cJx4a65c_grow_d5877 1 wsJx4a65c_grow_d5877 RJx4a65c e0 rm_Jx4a65c_grow_d5877 := E
  show G C (cW (xy C) S) 0 0 0 [(0, .ref (lq))] []
  refine g_aload_n E dJx4a65c_grow_d5877_0 rfl 0 rfl ?_
  refine g_aload_n E dJx4a65c_grow_d5877_1 rfl 0 rfl ?_
  refine p_get_AL_size (S := S) E hlq hlk (fun _ h => (List.mem_cons_of_mem _ (List.mem_append_right _ h))) (List.mem_cons_of_mem _ (List.mem_append_left _ (List.mem_append_left _ (List.mem_of_getElem? (i := 0) rfl)))) dJx4a65c_grow_d5877_2 ?_
  rw [hsz]
  show G C (cW (xy C) S) 0 0 5 [(0, .ref (lq))] [.int (0), .ref (lq)]
  refine g_iconst (v := 1) E dJx4a65c_grow_d5877_5 (by decide) ?_
  refine g_iadd E dJx4a65c_grow_d5877_6 ?_
  rw [show (0 : Int32) + 1 = 1 by decide]
  show G C (cW (xy C) S) 0 0 7 [(0, .ref (lq))] [.int (1), .ref (lq)]
  refine c_invV (n := 1) (rest := []) E (m_grow_A (xl C) E.tr (xD C) (xy C) e0 hlq hlk hd) hlq gJx4a65c_grow_d5877_Jx4a65c_grow_92f84 rfl rfl rfl (by decide +kernel) ⟨Nat.le_of_ble_eq_true rfl, Nat.le_of_ble_eq_true rfl⟩ (wF_AL hlk) rfl rfl rfl rfl (Nat.le_of_ble_eq_true rfl) dJx4a65c_grow_d5877_7 ⟨Nat.le_of_ble_eq_true rfl, Nat.le_of_ble_eq_true rfl⟩ (fun _ _ h9 => h9.elim) (fun v9 S9_7 h9 => ?_)
  obtain ⟨q, hq, hv9, hS9⟩ := h9
  rw [hv9, hS9]
  show G C (cW (xy C) (uP (nw S q 8 10) 14 lq (some q))) 1 1000 10 [(0, .ref (lq))] [.ref (q)]
  exact g_aret E hE hr (by first | exact Or.inl ⟨_, rfl⟩ | exact Or.inr ⟨_, rfl⟩) (by first | exact Or.inl rfl | exact Or.inr ⟨_, rfl⟩) dJx4a65c_grow_d5877_10 (Nat.le_of_ble_eq_true rfl) (Nat.le_of_ble_eq_true rfl) ⟨(uP (nw S q 8 10) 14 lq (some q)), rfl, q, hq, rfl, rfl⟩
set_option maxHeartbeats 4000000 in
set_option maxRecDepth 100000 in
theorem m_grow0_B (l : Launch) (hl : l.stackTraces = false) (D : va_G) (cy : Nat → ClassId) (e0 : Nat) {S : wS}  {lq : Nat} (hlq : lq ∈ sL S) (hlk : sK S lq = 6) {a n : Nat} (hd : sP S 14 lq = some a) (ha : a ∈ sL S) (hK : sK S a = 8) (hN : sN S a = n) (hn10 : 10 ≤ n) (hn100 : n ≤ 100) {ci : Nat} {qc : vw_C} (hqc : vwCl[ci]? = some qc) (hca : Cond.castable qc.1 "java/lang/Object" ∈ lw_tbl) (hel : ∀ k, k < sN S a → ∀ y, sQ S a k = some y → y ∈ sL S ∧ ∃ fs, wF cy S y = .inr (ci, fs)) (hsz : sI S 20 lq = nI n) : cMet l yJx4a65c_grow_d5877 wsJx4a65c_grow_d5877 rm_Jx4a65c_grow_d5877 D cy e0 [.ref (lq)] S (fun v S' => ∃ q, q ∉ sL S ∧ v = some (.ref q) ∧ S' = uP (grw S a q (n + n / 2)) 14 lq (some q)) (fun _ _ => False) 1 1000 := by
  refine gMet.of (cc := cJx4a65c_grow_d5877) (maxL := 1) (ret := (some (.array (.object "java/lang/Object")))) hl (by decide) rfl (Nat.le_of_ble_eq_true rfl) ?_
  intro C E h1 h2 h3 hr hnm hT hE
  subst h1; subst h2; subst h3
  have E : gOk C cJx4a65c_grow_d5877 1 wsJx4a65c_grow_d5877 RJx4a65c e0 rm_Jx4a65c_grow_d5877 := E
  show G C (cW (xy C) S) 0 0 0 [(0, .ref (lq))] []
  refine g_aload_n E dJx4a65c_grow_d5877_0 rfl 0 rfl ?_
  refine g_aload_n E dJx4a65c_grow_d5877_1 rfl 0 rfl ?_
  refine p_get_AL_size (S := S) E hlq hlk (fun _ h => (List.mem_cons_of_mem _ (List.mem_append_right _ h))) (List.mem_cons_of_mem _ (List.mem_append_left _ (List.mem_append_left _ (List.mem_of_getElem? (i := 0) rfl)))) dJx4a65c_grow_d5877_2 ?_
  rw [hsz]
  show G C (cW (xy C) S) 0 0 5 [(0, .ref (lq))] [.int (nI n), .ref (lq)]
  refine g_iconst (v := 1) E dJx4a65c_grow_d5877_5 (by decide) ?_
  refine g_iadd E dJx4a65c_grow_d5877_6 ?_
  rw [nI_1]
  show G C (cW (xy C) S) 0 0 7 [(0, .ref (lq))] [.int (nI (n + 1)), .ref (lq)]
  refine c_invV (n := 1) (rest := []) E (m_grow_B (xl C) E.tr (xD C) (xy C) e0 hlq hlk hd ha hK hN hn10 hn100 hqc hca hel) hlq gJx4a65c_grow_d5877_Jx4a65c_grow_92f84 rfl rfl rfl (by decide +kernel) ⟨Nat.le_of_ble_eq_true rfl, Nat.le_of_ble_eq_true rfl⟩ (wF_AL hlk) rfl rfl rfl rfl (Nat.le_of_ble_eq_true rfl) dJx4a65c_grow_d5877_7 ⟨Nat.le_of_ble_eq_true rfl, Nat.le_of_ble_eq_true rfl⟩ (fun _ _ h9 => h9.elim) (fun v9 S9_7 h9 => ?_)
  obtain ⟨q, hq, hv9, hS9⟩ := h9
  rw [hv9, hS9]
  show G C (cW (xy C) (uP (grw S a q (n + n / 2)) 14 lq (some q))) 1 1000 10 [(0, .ref (lq))] [.ref (q)]
  exact g_aret E hE hr (by first | exact Or.inl ⟨_, rfl⟩ | exact Or.inr ⟨_, rfl⟩) (by first | exact Or.inl rfl | exact Or.inr ⟨_, rfl⟩) dJx4a65c_grow_d5877_10 (Nat.le_of_ble_eq_true rfl) (Nat.le_of_ble_eq_true rfl) ⟨(uP (grw S a q (n + n / 2)) 14 lq (some q)), rfl, q, hq, rfl, rfl⟩
abbrev rm_Jx4a65c_add_72be8 : Room := { frames := 6, cells := 1, slots := 1000, locals := 343 }
set_option maxHeartbeats 4000000 in
set_option maxRecDepth 100000 in
theorem m_add3_A (l : Launch) (hl : l.stackTraces = false) (D : va_G) (cy : Nat → ClassId) (e0 : Nat) {S : wS}  {lq : Nat} (hlq : lq ∈ sL S) (hlk : sK S lq = 6) {b : Nat} (hb : b ∈ sL S) {fb : List Value} {ci : Nat} {qc : vw_C} (hbF : wF cy S b = .inr (ci, fb)) (hqc : vwCl[ci]? = some qc) (hca : Cond.castable qc.1 "java/lang/Object" ∈ lw_tbl) (hd : sP S 14 lq = some e0) (hsz : sI S 20 lq = 0) (hbl : b ≠ lq) : cMet l yJx4a65c_add_72be8 wsJx4a65c_add_72be8 rm_Jx4a65c_add_72be8 D cy e0 [.ref (lq), .ref (b), .ref (e0), .int (nI 0)] S (fun v S' => v = none ∧ ∃ q, q ∉ sL S ∧ S' = uI (uQ (uP (nw S q 8 10) 14 lq (some q)) q 0 (some b)) 20 lq (nI (0 + 1))) (fun _ _ => False) 1 1000 := by
  refine gMet.of (cc := cJx4a65c_add_72be8) (maxL := 4) (ret := none) hl (by decide) rfl (Nat.le_of_ble_eq_true rfl) ?_
  intro C E h1 h2 h3 hr hnm hT hE
  subst h1; subst h2; subst h3
  have E : gOk C cJx4a65c_add_72be8 4 wsJx4a65c_add_72be8 RJx4a65c e0 rm_Jx4a65c_add_72be8 := E
  show G C (cW (xy C) S) 0 0 0 [(0, .ref (lq)), (1, .ref (b)), (2, .ref (e0)), (3, .int (nI 0))] []
  refine g_iload_n E dJx4a65c_add_72be8_0 rfl 3 rfl ?_
  refine g_aload_n E dJx4a65c_add_72be8_1 rfl 2 rfl ?_
  refine g_alen0 E dJx4a65c_add_72be8_2 ?_
  refine g_icmp_ne (tgt := 11) E dJx4a65c_add_72be8_3 (by decide) (fun c_3 => ?_) (fun c_3 => ?_)
  · exact absurd rfl c_3
  · refine g_aload_n E dJx4a65c_add_72be8_6 rfl 0 rfl ?_
    refine c_invV (n := 0) (rest := []) E (m_grow0_A (xl C) E.tr (xD C) (xy C) e0 hlq hlk hd hsz) hlq gJx4a65c_add_72be8_Jx4a65c_grow_d5877 rfl rfl rfl (by decide +kernel) ⟨Nat.le_of_ble_eq_true rfl, Nat.le_of_ble_eq_true rfl⟩ (wF_AL hlk) rfl rfl rfl rfl (Nat.le_of_ble_eq_true rfl) dJx4a65c_add_72be8_7 ⟨Nat.le_of_ble_eq_true rfl, Nat.le_of_ble_eq_true rfl⟩ (fun _ _ h9 => h9.elim) (fun v9 S9_7 h9 => ?_)
    obtain ⟨q, hq, hv9, hS9⟩ := h9
    rw [hv9, hS9]
    show G C (cW (xy C) (uP (nw S q 8 10) 14 lq (some q))) 1 1000 10 [(0, .ref (lq)), (1, .ref (b)), (2, .ref (e0)), (3, .int (nI 0))] [.ref (q)]
    refine g_astore_n (L' := [(2, .ref (q)), (0, .ref (lq)), (1, .ref (b)), (3, .int (nI 0))]) E dJx4a65c_add_72be8_10 rfl (by decide) rfl ?_
    refine g_aload_n E dJx4a65c_add_72be8_11 rfl 0 rfl ?_
    refine g_iload_n E dJx4a65c_add_72be8_12 rfl 3 rfl ?_
    refine g_aload_n E dJx4a65c_add_72be8_13 rfl 2 rfl ?_
    refine p_aast (S := uP (nw S q 8 10) 14 lq (some q)) (a := q) (b := b) E (nw_own (k := 8) (n := 10)) (nw_Ko (k := 8) (n := 10)) (by rw [show sN (uP (nw S q 8 10) 14 lq (some q)) q = 10 from nw_No (k := 8)]; omega) (nw_mem (k := 8) (n := 10) hb) (show wF (xy C) (uP (nw S q 8 10) 14 lq (some q)) b = _ from (wF_uP b hbl).trans ((wF_nw b (ne_of_new hb hq)).trans hbF)) hqc hca (0) rfl (by rw [show sN (uP (nw S q 8 10) 14 lq (some q)) q = 10 from nw_No (k := 8)]; omega) dJx4a65c_add_72be8_14 ?_
    show G C (cW (xy C) (uQ (uP (nw S q 8 10) 14 lq (some q)) q 0 (some b))) 1 1000 15 [(2, .ref (q)), (0, .ref (lq)), (1, .ref (b)), (3, .int (nI 0))] []
    refine g_aload_n E dJx4a65c_add_72be8_15 rfl 1 rfl ?_
    refine g_iload_n E dJx4a65c_add_72be8_16 rfl 3 rfl ?_
    refine g_iconst (v := 1) E dJx4a65c_add_72be8_17 (by decide) ?_
    refine g_iadd E dJx4a65c_add_72be8_18 ?_
    rw [nI_1]
    show G C (cW (xy C) (uQ (uP (nw S q 8 10) 14 lq (some q)) q 0 (some b))) 1 1000 19 [(2, .ref (q)), (0, .ref (lq)), (1, .ref (b)), (3, .int (nI 0))] [.int (nI (0 + 1)), .ref (lq)]
    refine p_put_AL_size (S := (uQ (uP (nw S q 8 10) 14 lq (some q)) q 0 (some b))) (v := nI (0 + 1)) E (show lq ∈ sL (uQ (uP (nw S q 8 10) 14 lq (some q)) q 0 (some b)) from nw_mem (k := 8) (n := 10) hlq) (show sK (uQ (uP (nw S q 8 10) 14 lq (some q)) q 0 (some b)) lq = 6 from (nw_K (k := 8) (n := 10) (ne_of_new hlq hq)).trans hlk) (fun _ h => (List.mem_cons_of_mem _ (List.mem_append_right _ h))) (List.mem_cons_of_mem _ (List.mem_append_left _ (List.mem_append_left _ (List.mem_of_getElem? (i := 0) rfl)))) rfl dJx4a65c_add_72be8_19 ?_
    exact g_vret E hE hr dJx4a65c_add_72be8_22 (Nat.le_of_ble_eq_true rfl) (Nat.le_of_ble_eq_true rfl) ⟨(uI (uQ (uP (nw S q 8 10) 14 lq (some q)) q 0 (some b)) 20 lq (nI (0 + 1))), rfl, rfl, q, hq, rfl⟩
set_option maxHeartbeats 4000000 in
set_option maxRecDepth 100000 in
theorem m_add3_B (l : Launch) (hl : l.stackTraces = false) (D : va_G) (cy : Nat → ClassId) (e0 : Nat) {S : wS}  {lq : Nat} (hlq : lq ∈ sL S) (hlk : sK S lq = 6) {b : Nat} (hb : b ∈ sL S) {fb : List Value} {ci : Nat} {qc : vw_C} (hbF : wF cy S b = .inr (ci, fb)) (hqc : vwCl[ci]? = some qc) (hca : Cond.castable qc.1 "java/lang/Object" ∈ lw_tbl) {a n : Nat} (ha : a ∈ sL S) (hK : sK S a = 8) (hN : n < sN S a) (hN1 : sN S a ≤ 100) : cMet l yJx4a65c_add_72be8 wsJx4a65c_add_72be8 rm_Jx4a65c_add_72be8 D cy e0 [.ref (lq), .ref (b), .ref (a), .int (nI n)] S (fun v S' => v = none ∧ S' = uI (uQ S a n (some b)) 20 lq (nI (n + 1))) (fun _ _ => False) 1 1000 := by
  refine gMet.of (cc := cJx4a65c_add_72be8) (maxL := 4) (ret := none) hl (by decide) rfl (Nat.le_of_ble_eq_true rfl) ?_
  intro C E h1 h2 h3 hr hnm hT hE
  subst h1; subst h2; subst h3
  have E : gOk C cJx4a65c_add_72be8 4 wsJx4a65c_add_72be8 RJx4a65c e0 rm_Jx4a65c_add_72be8 := E
  show G C (cW (xy C) S) 0 0 0 [(0, .ref (lq)), (1, .ref (b)), (2, .ref (a)), (3, .int (nI n))] []
  refine g_iload_n E dJx4a65c_add_72be8_0 rfl 3 rfl ?_
  refine g_aload_n E dJx4a65c_add_72be8_1 rfl 2 rfl ?_
  refine p_alen (S := S) E ha (Or.inr hK) rfl dJx4a65c_add_72be8_2 ?_
  show G C (cW (xy C) S) 0 0 3 [(0, .ref (lq)), (1, .ref (b)), (2, .ref (a)), (3, .int (nI n))] [.int (nI (sN S a)), .int (nI n)]
  refine g_icmp_ne (tgt := 11) E dJx4a65c_add_72be8_3 (by decide) (fun c_3 => ?_) (fun c_3 => ?_)
  · refine g_aload_n E dJx4a65c_add_72be8_11 rfl 2 rfl ?_
    refine g_iload_n E dJx4a65c_add_72be8_12 rfl 3 rfl ?_
    refine g_aload_n E dJx4a65c_add_72be8_13 rfl 1 rfl ?_
    refine p_aast (S := S) (a := a) (b := b) E ha hK (by rw [show sN S a = sN S a from rfl]; omega) hb hbF hqc hca (n) rfl (by rw [show sN S a = sN S a from rfl]; omega) dJx4a65c_add_72be8_14 ?_
    show G C (cW (xy C) (uQ S a n (some b))) 0 0 15 [(0, .ref (lq)), (1, .ref (b)), (2, .ref (a)), (3, .int (nI n))] []
    refine g_aload_n E dJx4a65c_add_72be8_15 rfl 0 rfl ?_
    refine g_iload_n E dJx4a65c_add_72be8_16 rfl 3 rfl ?_
    refine g_iconst (v := 1) E dJx4a65c_add_72be8_17 (by decide) ?_
    refine g_iadd E dJx4a65c_add_72be8_18 ?_
    rw [nI_1]
    show G C (cW (xy C) (uQ S a n (some b))) 0 0 19 [(0, .ref (lq)), (1, .ref (b)), (2, .ref (a)), (3, .int (nI n))] [.int (nI (n + 1)), .ref (lq)]
    refine p_put_AL_size (S := (uQ S a n (some b))) (v := nI (n + 1)) E hlq hlk (fun _ h => (List.mem_cons_of_mem _ (List.mem_append_right _ h))) (List.mem_cons_of_mem _ (List.mem_append_left _ (List.mem_append_left _ (List.mem_of_getElem? (i := 0) rfl)))) rfl dJx4a65c_add_72be8_19 ?_
    exact g_vret E hE hr dJx4a65c_add_72be8_22 (Nat.le_of_ble_eq_true rfl) (Nat.le_of_ble_eq_true rfl) ⟨(uI (uQ S a n (some b)) 20 lq (nI (n + 1))), rfl, rfl, rfl⟩
  · exact absurd (nI_inj (by omega) (by omega) c_3) (by omega)
set_option maxHeartbeats 4000000 in
set_option maxRecDepth 100000 in
theorem m_add3_C (l : Launch) (hl : l.stackTraces = false) (D : va_G) (cy : Nat → ClassId) (e0 : Nat) {S : wS}  {lq : Nat} (hlq : lq ∈ sL S) (hlk : sK S lq = 6) {b : Nat} (hb : b ∈ sL S) {fb : List Value} {ci : Nat} {qc : vw_C} (hbF : wF cy S b = .inr (ci, fb)) (hqc : vwCl[ci]? = some qc) (hca : Cond.castable qc.1 "java/lang/Object" ∈ lw_tbl) {a n : Nat} (hd : sP S 14 lq = some a) (ha : a ∈ sL S) (hK : sK S a = 8) (hN : sN S a = n) (hn10 : 10 ≤ n) (hn100 : n ≤ 100) (hel : ∀ k, k < sN S a → ∀ y, sQ S a k = some y → y ∈ sL S ∧ ∃ fs, wF cy S y = .inr (ci, fs)) (hsz : sI S 20 lq = nI n) (hbl : b ≠ lq) : cMet l yJx4a65c_add_72be8 wsJx4a65c_add_72be8 rm_Jx4a65c_add_72be8 D cy e0 [.ref (lq), .ref (b), .ref (a), .int (nI n)] S (fun v S' => v = none ∧ ∃ q, q ∉ sL S ∧ S' = uI (uQ (uP (grw S a q (n + n / 2)) 14 lq (some q)) q n (some b)) 20 lq (nI (n + 1))) (fun _ _ => False) 1 1000 := by
  refine gMet.of (cc := cJx4a65c_add_72be8) (maxL := 4) (ret := none) hl (by decide) rfl (Nat.le_of_ble_eq_true rfl) ?_
  intro C E h1 h2 h3 hr hnm hT hE
  subst h1; subst h2; subst h3
  have E : gOk C cJx4a65c_add_72be8 4 wsJx4a65c_add_72be8 RJx4a65c e0 rm_Jx4a65c_add_72be8 := E
  show G C (cW (xy C) S) 0 0 0 [(0, .ref (lq)), (1, .ref (b)), (2, .ref (a)), (3, .int (nI n))] []
  refine g_iload_n E dJx4a65c_add_72be8_0 rfl 3 rfl ?_
  refine g_aload_n E dJx4a65c_add_72be8_1 rfl 2 rfl ?_
  refine p_alen (S := S) E ha (Or.inr hK) rfl dJx4a65c_add_72be8_2 ?_
  rw [hN]
  show G C (cW (xy C) S) 0 0 3 [(0, .ref (lq)), (1, .ref (b)), (2, .ref (a)), (3, .int (nI n))] [.int (nI n), .int (nI n)]
  refine g_icmp_ne (tgt := 11) E dJx4a65c_add_72be8_3 (by decide) (fun c_3 => ?_) (fun c_3 => ?_)
  · exact absurd rfl c_3
  · refine g_aload_n E dJx4a65c_add_72be8_6 rfl 0 rfl ?_
    refine c_invV (n := 0) (rest := []) E (m_grow0_B (xl C) E.tr (xD C) (xy C) e0 hlq hlk hd ha hK hN hn10 hn100 hqc hca hel hsz) hlq gJx4a65c_add_72be8_Jx4a65c_grow_d5877 rfl rfl rfl (by decide +kernel) ⟨Nat.le_of_ble_eq_true rfl, Nat.le_of_ble_eq_true rfl⟩ (wF_AL hlk) rfl rfl rfl rfl (Nat.le_of_ble_eq_true rfl) dJx4a65c_add_72be8_7 ⟨Nat.le_of_ble_eq_true rfl, Nat.le_of_ble_eq_true rfl⟩ (fun _ _ h9 => h9.elim) (fun v9 S9_7 h9 => ?_)
    obtain ⟨q, hq, hv9, hS9⟩ := h9
    rw [hv9, hS9]
    show G C (cW (xy C) (uP (grw S a q (n + n / 2)) 14 lq (some q))) 1 1000 10 [(0, .ref (lq)), (1, .ref (b)), (2, .ref (a)), (3, .int (nI n))] [.ref (q)]
    refine g_astore_n (L' := [(2, .ref (q)), (0, .ref (lq)), (1, .ref (b)), (3, .int (nI n))]) E dJx4a65c_add_72be8_10 rfl (by decide) rfl ?_
    refine g_aload_n E dJx4a65c_add_72be8_11 rfl 0 rfl ?_
    refine g_iload_n E dJx4a65c_add_72be8_12 rfl 3 rfl ?_
    refine g_aload_n E dJx4a65c_add_72be8_13 rfl 2 rfl ?_
    refine p_aast (S := uP (grw S a q (n + n / 2)) 14 lq (some q)) (a := q) (b := b) E (grw_own (a := a) (N := n + n / 2)) (grw_Ko (a := a) (N := n + n / 2)) (by rw [show sN (uP (grw S a q (n + n / 2)) 14 lq (some q)) q = n + n / 2 from grw_No]; omega) (grw_mem (a := a) (N := n + n / 2) hb) (show wF (xy C) (uP (grw S a q (n + n / 2)) 14 lq (some q)) b = _ from (wF_uP b hbl).trans (((wF_uQr b (ne_of_new hb hq)).trans (wF_nw b (ne_of_new hb hq))).trans hbF)) hqc hca (n) rfl (by rw [show sN (uP (grw S a q (n + n / 2)) 14 lq (some q)) q = n + n / 2 from grw_No]; omega) dJx4a65c_add_72be8_14 ?_
    show G C (cW (xy C) (uQ (uP (grw S a q (n + n / 2)) 14 lq (some q)) q n (some b))) 1 1000 15 [(2, .ref (q)), (0, .ref (lq)), (1, .ref (b)), (3, .int (nI n))] []
    refine g_aload_n E dJx4a65c_add_72be8_15 rfl 1 rfl ?_
    refine g_iload_n E dJx4a65c_add_72be8_16 rfl 3 rfl ?_
    refine g_iconst (v := 1) E dJx4a65c_add_72be8_17 (by decide) ?_
    refine g_iadd E dJx4a65c_add_72be8_18 ?_
    rw [nI_1]
    show G C (cW (xy C) (uQ (uP (grw S a q (n + n / 2)) 14 lq (some q)) q n (some b))) 1 1000 19 [(2, .ref (q)), (0, .ref (lq)), (1, .ref (b)), (3, .int (nI n))] [.int (nI (n + 1)), .ref (lq)]
    refine p_put_AL_size (S := (uQ (uP (grw S a q (n + n / 2)) 14 lq (some q)) q n (some b))) (v := nI (n + 1)) E (show lq ∈ sL (uQ (uP (grw S a q (n + n / 2)) 14 lq (some q)) q n (some b)) from grw_mem (a := a) (N := n + n / 2) hlq) (show sK (uQ (uP (grw S a q (n + n / 2)) 14 lq (some q)) q n (some b)) lq = 6 from (grw_K (a := a) (N := n + n / 2) (ne_of_new hlq hq)).trans hlk) (fun _ h => (List.mem_cons_of_mem _ (List.mem_append_right _ h))) (List.mem_cons_of_mem _ (List.mem_append_left _ (List.mem_append_left _ (List.mem_of_getElem? (i := 0) rfl)))) rfl dJx4a65c_add_72be8_19 ?_
    exact g_vret E hE hr dJx4a65c_add_72be8_22 (Nat.le_of_ble_eq_true rfl) (Nat.le_of_ble_eq_true rfl) ⟨(uI (uQ (uP (grw S a q (n + n / 2)) 14 lq (some q)) q n (some b)) 20 lq (nI (n + 1))), rfl, rfl, q, hq, rfl⟩
abbrev rm_Jx4a65c_add_9ea2d : Room := { frames := 7, cells := 1, slots := 1000, locals := 366 }
set_option maxHeartbeats 4000000 in
set_option maxRecDepth 100000 in
theorem m_add_A (l : Launch) (hl : l.stackTraces = false) (D : va_G) (cy : Nat → ClassId) (e0 : Nat) {S : wS}  {lq : Nat} (hlq : lq ∈ sL S) (hlk : sK S lq = 6) {b : Nat} (hb : b ∈ sL S) {fb : List Value} {ci : Nat} {qc : vw_C} (hbF : wF cy S b = .inr (ci, fb)) (hqc : vwCl[ci]? = some qc) (hca : Cond.castable qc.1 "java/lang/Object" ∈ lw_tbl) (hd : sP S 14 lq = some e0) (hsz : sI S 20 lq = 0) (hbl : b ≠ lq) : cMet l yJx4a65c_add_9ea2d wsJx4a65c_add_9ea2d rm_Jx4a65c_add_9ea2d D cy e0 [.ref (lq), .ref (b)] S (fun v S' => v = some (.int 1) ∧ ∃ q, q ∉ sL S ∧ S' = uI (uQ (uP (nw (uI S 19 lq (sI S 19 lq + 1)) q 8 10) 14 lq (some q)) q 0 (some b)) 20 lq (nI (0 + 1))) (fun _ _ => False) 1 1000 := by
  refine gMet.of (cc := cJx4a65c_add_9ea2d) (maxL := 2) (ret := (some .boolean)) hl (by decide) rfl (Nat.le_of_ble_eq_true rfl) ?_
  intro C E h1 h2 h3 hr hnm hT hE
  subst h1; subst h2; subst h3
  have E : gOk C cJx4a65c_add_9ea2d 2 wsJx4a65c_add_9ea2d RJx4a65c e0 rm_Jx4a65c_add_9ea2d := E
  show G C (cW (xy C) S) 0 0 0 [(0, .ref (lq)), (1, .ref (b))] []
  refine g_aload_n E dJx4a65c_add_9ea2d_0 rfl 0 rfl ?_
  refine g_dup E dJx4a65c_add_9ea2d_1 rfl ?_
  refine p_get_AL_modCount (S := S) E hlq hlk (fun _ h => (List.mem_cons_of_mem _ (List.mem_append_right _ h))) (List.mem_cons_of_mem _ (List.mem_append_left _ (List.mem_append_left _ (List.mem_of_getElem? (i := 0) rfl)))) (List.mem_cons_of_mem _ (List.mem_append_left _ (List.mem_append_left _ (List.mem_of_getElem? (i := 1) rfl)))) dJx4a65c_add_9ea2d_2 ?_
  refine g_iconst (v := 1) E dJx4a65c_add_9ea2d_5 (by decide) ?_
  refine g_iadd E dJx4a65c_add_9ea2d_6 ?_
  refine p_put_AL_modCount (S := S) (v := sI S 19 lq + 1) E hlq hlk (fun _ h => (List.mem_cons_of_mem _ (List.mem_append_right _ h))) (List.mem_cons_of_mem _ (List.mem_append_left _ (List.mem_append_left _ (List.mem_of_getElem? (i := 0) rfl)))) (List.mem_cons_of_mem _ (List.mem_append_left _ (List.mem_append_left _ (List.mem_of_getElem? (i := 1) rfl)))) rfl dJx4a65c_add_9ea2d_7 ?_
  show G C (cW (xy C) (uI S 19 lq (sI S 19 lq + 1))) 0 0 10 [(0, .ref (lq)), (1, .ref (b))] []
  refine g_aload_n E dJx4a65c_add_9ea2d_10 rfl 0 rfl ?_
  refine g_aload_n E dJx4a65c_add_9ea2d_11 rfl 1 rfl ?_
  refine g_aload_n E dJx4a65c_add_9ea2d_12 rfl 0 rfl ?_
  refine p_get_AL_elementData (S := (uI S 19 lq (sI S 19 lq + 1))) E hlq hlk (fun _ h => (List.mem_cons_of_mem _ (List.mem_append_right _ h))) (List.mem_cons_of_mem _ (List.mem_append_left _ (List.mem_append_left _ (List.mem_of_getElem? (i := 2) rfl)))) dJx4a65c_add_9ea2d_13 ?_
  rw [show sP (uI S 19 lq (sI S 19 lq + 1)) 14 lq = _ from hd]
  show G C (cW (xy C) (uI S 19 lq (sI S 19 lq + 1))) 0 0 16 [(0, .ref (lq)), (1, .ref (b))] [.ref (e0), .ref (b), .ref (lq)]
  refine g_aload_n E dJx4a65c_add_9ea2d_16 rfl 0 rfl ?_
  refine p_get_AL_size (S := (uI S 19 lq (sI S 19 lq + 1))) E hlq hlk (fun _ h => (List.mem_cons_of_mem _ (List.mem_append_right _ h))) (List.mem_cons_of_mem _ (List.mem_append_left _ (List.mem_append_left _ (List.mem_of_getElem? (i := 3) rfl)))) dJx4a65c_add_9ea2d_17 ?_
  rw [show sI (uI S 19 lq (sI S 19 lq + 1)) 20 lq = nI 0 from hsz.trans nI_0.symm]
  show G C (cW (xy C) (uI S 19 lq (sI S 19 lq + 1))) 0 0 20 [(0, .ref (lq)), (1, .ref (b))] [.int (nI 0), .ref (e0), .ref (b), .ref (lq)]
  refine c_invV (n := 3) (rest := []) E (m_add3_A (xl C) E.tr (xD C) (xy C) e0 (S := (uI S 19 lq (sI S 19 lq + 1))) hlq hlk hb ((wF_uI b hbl).trans hbF) hqc hca hd hsz hbl) hlq gJx4a65c_add_9ea2d_Jx4a65c_add_72be8 rfl rfl rfl (by decide +kernel) ⟨Nat.le_of_ble_eq_true rfl, Nat.le_of_ble_eq_true rfl⟩ (wF_AL hlk) rfl rfl rfl rfl (Nat.le_of_ble_eq_true rfl) dJx4a65c_add_9ea2d_20 ⟨Nat.le_of_ble_eq_true rfl, Nat.le_of_ble_eq_true rfl⟩ (fun _ _ h9 => h9.elim) (fun v9 S9_20 h9 => ?_)
  obtain ⟨hv9, q, hq, hS9⟩ := h9
  rw [hv9, hS9]
  show G C (cW (xy C) (uI (uQ (uP (nw (uI S 19 lq (sI S 19 lq + 1)) q 8 10) 14 lq (some q)) q 0 (some b)) 20 lq (nI (0 + 1)))) 1 1000 23 [(0, .ref (lq)), (1, .ref (b))] []
  refine g_iconst (v := 1) E dJx4a65c_add_9ea2d_23 (by decide) ?_
  exact g_zret E hE hr (Or.inr rfl) dJx4a65c_add_9ea2d_24 (Nat.le_of_ble_eq_true rfl) (Nat.le_of_ble_eq_true rfl) ⟨(uI (uQ (uP (nw (uI S 19 lq (sI S 19 lq + 1)) q 8 10) 14 lq (some q)) q 0 (some b)) 20 lq (nI (0 + 1))), rfl, rfl, q, hq, rfl⟩
set_option maxHeartbeats 4000000 in
set_option maxRecDepth 100000 in
theorem m_add_B (l : Launch) (hl : l.stackTraces = false) (D : va_G) (cy : Nat → ClassId) (e0 : Nat) {S : wS}  {lq : Nat} (hlq : lq ∈ sL S) (hlk : sK S lq = 6) {b : Nat} (hb : b ∈ sL S) {fb : List Value} {ci : Nat} {qc : vw_C} (hbF : wF cy S b = .inr (ci, fb)) (hqc : vwCl[ci]? = some qc) (hca : Cond.castable qc.1 "java/lang/Object" ∈ lw_tbl) {a n : Nat} (hd : sP S 14 lq = some a) (ha : a ∈ sL S) (hK : sK S a = 8) (hN : n < sN S a) (hN1 : sN S a ≤ 100) (hsz : sI S 20 lq = nI n) (hbl : b ≠ lq) : cMet l yJx4a65c_add_9ea2d wsJx4a65c_add_9ea2d rm_Jx4a65c_add_9ea2d D cy e0 [.ref (lq), .ref (b)] S (fun v S' => v = some (.int 1) ∧ S' = uI (uQ (uI S 19 lq (sI S 19 lq + 1)) a n (some b)) 20 lq (nI (n + 1))) (fun _ _ => False) 1 1000 := by
  refine gMet.of (cc := cJx4a65c_add_9ea2d) (maxL := 2) (ret := (some .boolean)) hl (by decide) rfl (Nat.le_of_ble_eq_true rfl) ?_
  intro C E h1 h2 h3 hr hnm hT hE
  subst h1; subst h2; subst h3
  have E : gOk C cJx4a65c_add_9ea2d 2 wsJx4a65c_add_9ea2d RJx4a65c e0 rm_Jx4a65c_add_9ea2d := E
  show G C (cW (xy C) S) 0 0 0 [(0, .ref (lq)), (1, .ref (b))] []
  refine g_aload_n E dJx4a65c_add_9ea2d_0 rfl 0 rfl ?_
  refine g_dup E dJx4a65c_add_9ea2d_1 rfl ?_
  refine p_get_AL_modCount (S := S) E hlq hlk (fun _ h => (List.mem_cons_of_mem _ (List.mem_append_right _ h))) (List.mem_cons_of_mem _ (List.mem_append_left _ (List.mem_append_left _ (List.mem_of_getElem? (i := 0) rfl)))) (List.mem_cons_of_mem _ (List.mem_append_left _ (List.mem_append_left _ (List.mem_of_getElem? (i := 1) rfl)))) dJx4a65c_add_9ea2d_2 ?_
  refine g_iconst (v := 1) E dJx4a65c_add_9ea2d_5 (by decide) ?_
  refine g_iadd E dJx4a65c_add_9ea2d_6 ?_
  refine p_put_AL_modCount (S := S) (v := sI S 19 lq + 1) E hlq hlk (fun _ h => (List.mem_cons_of_mem _ (List.mem_append_right _ h))) (List.mem_cons_of_mem _ (List.mem_append_left _ (List.mem_append_left _ (List.mem_of_getElem? (i := 0) rfl)))) (List.mem_cons_of_mem _ (List.mem_append_left _ (List.mem_append_left _ (List.mem_of_getElem? (i := 1) rfl)))) rfl dJx4a65c_add_9ea2d_7 ?_
  show G C (cW (xy C) (uI S 19 lq (sI S 19 lq + 1))) 0 0 10 [(0, .ref (lq)), (1, .ref (b))] []
  refine g_aload_n E dJx4a65c_add_9ea2d_10 rfl 0 rfl ?_
  refine g_aload_n E dJx4a65c_add_9ea2d_11 rfl 1 rfl ?_
  refine g_aload_n E dJx4a65c_add_9ea2d_12 rfl 0 rfl ?_
  refine p_get_AL_elementData (S := (uI S 19 lq (sI S 19 lq + 1))) E hlq hlk (fun _ h => (List.mem_cons_of_mem _ (List.mem_append_right _ h))) (List.mem_cons_of_mem _ (List.mem_append_left _ (List.mem_append_left _ (List.mem_of_getElem? (i := 2) rfl)))) dJx4a65c_add_9ea2d_13 ?_
  rw [show sP (uI S 19 lq (sI S 19 lq + 1)) 14 lq = _ from hd]
  show G C (cW (xy C) (uI S 19 lq (sI S 19 lq + 1))) 0 0 16 [(0, .ref (lq)), (1, .ref (b))] [.ref (a), .ref (b), .ref (lq)]
  refine g_aload_n E dJx4a65c_add_9ea2d_16 rfl 0 rfl ?_
  refine p_get_AL_size (S := (uI S 19 lq (sI S 19 lq + 1))) E hlq hlk (fun _ h => (List.mem_cons_of_mem _ (List.mem_append_right _ h))) (List.mem_cons_of_mem _ (List.mem_append_left _ (List.mem_append_left _ (List.mem_of_getElem? (i := 3) rfl)))) dJx4a65c_add_9ea2d_17 ?_
  rw [show sI (uI S 19 lq (sI S 19 lq + 1)) 20 lq = nI n from hsz]
  show G C (cW (xy C) (uI S 19 lq (sI S 19 lq + 1))) 0 0 20 [(0, .ref (lq)), (1, .ref (b))] [.int (nI n), .ref (a), .ref (b), .ref (lq)]
  refine c_invV (n := 3) (rest := []) E (m_add3_B (xl C) E.tr (xD C) (xy C) e0 (S := (uI S 19 lq (sI S 19 lq + 1))) hlq hlk hb ((wF_uI b hbl).trans hbF) hqc hca ha hK hN hN1) hlq gJx4a65c_add_9ea2d_Jx4a65c_add_72be8 rfl rfl rfl (by decide +kernel) ⟨Nat.le_of_ble_eq_true rfl, Nat.le_of_ble_eq_true rfl⟩ (wF_AL hlk) rfl rfl rfl rfl (Nat.le_of_ble_eq_true rfl) dJx4a65c_add_9ea2d_20 ⟨Nat.le_of_ble_eq_true rfl, Nat.le_of_ble_eq_true rfl⟩ (fun _ _ h9 => h9.elim) (fun v9 S9_20 h9 => ?_)
  obtain ⟨hv9, hS9⟩ := h9
  rw [hv9, hS9]
  show G C (cW (xy C) (uI (uQ (uI S 19 lq (sI S 19 lq + 1)) a n (some b)) 20 lq (nI (n + 1)))) 1 1000 23 [(0, .ref (lq)), (1, .ref (b))] []
  refine g_iconst (v := 1) E dJx4a65c_add_9ea2d_23 (by decide) ?_
  exact g_zret E hE hr (Or.inr rfl) dJx4a65c_add_9ea2d_24 (Nat.le_of_ble_eq_true rfl) (Nat.le_of_ble_eq_true rfl) ⟨(uI (uQ (uI S 19 lq (sI S 19 lq + 1)) a n (some b)) 20 lq (nI (n + 1))), rfl, rfl, rfl⟩
set_option maxHeartbeats 4000000 in
set_option maxRecDepth 100000 in
theorem m_add_C (l : Launch) (hl : l.stackTraces = false) (D : va_G) (cy : Nat → ClassId) (e0 : Nat) {S : wS}  {lq : Nat} (hlq : lq ∈ sL S) (hlk : sK S lq = 6) {b : Nat} (hb : b ∈ sL S) {fb : List Value} {ci : Nat} {qc : vw_C} (hbF : wF cy S b = .inr (ci, fb)) (hqc : vwCl[ci]? = some qc) (hca : Cond.castable qc.1 "java/lang/Object" ∈ lw_tbl) {a n : Nat} (hd : sP S 14 lq = some a) (ha : a ∈ sL S) (hK : sK S a = 8) (hN : sN S a = n) (hn10 : 10 ≤ n) (hn100 : n ≤ 100) (hel : ∀ k, k < sN S a → ∀ y, sQ S a k = some y → y ∈ sL S ∧ ∃ fs, wF cy S y = .inr (ci, fs)) (hsz : sI S 20 lq = nI n) (hbl : b ≠ lq) (hal : ∀ k, k < sN S a → ∀ y, sQ S a k = some y → y ≠ lq) : cMet l yJx4a65c_add_9ea2d wsJx4a65c_add_9ea2d rm_Jx4a65c_add_9ea2d D cy e0 [.ref (lq), .ref (b)] S (fun v S' => v = some (.int 1) ∧ ∃ q, q ∉ sL S ∧ S' = uI (uQ (uP (grw (uI S 19 lq (sI S 19 lq + 1)) a q (n + n / 2)) 14 lq (some q)) q n (some b)) 20 lq (nI (n + 1))) (fun _ _ => False) 1 1000 := by
  refine gMet.of (cc := cJx4a65c_add_9ea2d) (maxL := 2) (ret := (some .boolean)) hl (by decide) rfl (Nat.le_of_ble_eq_true rfl) ?_
  intro C E h1 h2 h3 hr hnm hT hE
  subst h1; subst h2; subst h3
  have E : gOk C cJx4a65c_add_9ea2d 2 wsJx4a65c_add_9ea2d RJx4a65c e0 rm_Jx4a65c_add_9ea2d := E
  show G C (cW (xy C) S) 0 0 0 [(0, .ref (lq)), (1, .ref (b))] []
  refine g_aload_n E dJx4a65c_add_9ea2d_0 rfl 0 rfl ?_
  refine g_dup E dJx4a65c_add_9ea2d_1 rfl ?_
  refine p_get_AL_modCount (S := S) E hlq hlk (fun _ h => (List.mem_cons_of_mem _ (List.mem_append_right _ h))) (List.mem_cons_of_mem _ (List.mem_append_left _ (List.mem_append_left _ (List.mem_of_getElem? (i := 0) rfl)))) (List.mem_cons_of_mem _ (List.mem_append_left _ (List.mem_append_left _ (List.mem_of_getElem? (i := 1) rfl)))) dJx4a65c_add_9ea2d_2 ?_
  refine g_iconst (v := 1) E dJx4a65c_add_9ea2d_5 (by decide) ?_
  refine g_iadd E dJx4a65c_add_9ea2d_6 ?_
  refine p_put_AL_modCount (S := S) (v := sI S 19 lq + 1) E hlq hlk (fun _ h => (List.mem_cons_of_mem _ (List.mem_append_right _ h))) (List.mem_cons_of_mem _ (List.mem_append_left _ (List.mem_append_left _ (List.mem_of_getElem? (i := 0) rfl)))) (List.mem_cons_of_mem _ (List.mem_append_left _ (List.mem_append_left _ (List.mem_of_getElem? (i := 1) rfl)))) rfl dJx4a65c_add_9ea2d_7 ?_
  show G C (cW (xy C) (uI S 19 lq (sI S 19 lq + 1))) 0 0 10 [(0, .ref (lq)), (1, .ref (b))] []
  refine g_aload_n E dJx4a65c_add_9ea2d_10 rfl 0 rfl ?_
  refine g_aload_n E dJx4a65c_add_9ea2d_11 rfl 1 rfl ?_
  refine g_aload_n E dJx4a65c_add_9ea2d_12 rfl 0 rfl ?_
  refine p_get_AL_elementData (S := (uI S 19 lq (sI S 19 lq + 1))) E hlq hlk (fun _ h => (List.mem_cons_of_mem _ (List.mem_append_right _ h))) (List.mem_cons_of_mem _ (List.mem_append_left _ (List.mem_append_left _ (List.mem_of_getElem? (i := 2) rfl)))) dJx4a65c_add_9ea2d_13 ?_
  rw [show sP (uI S 19 lq (sI S 19 lq + 1)) 14 lq = _ from hd]
  show G C (cW (xy C) (uI S 19 lq (sI S 19 lq + 1))) 0 0 16 [(0, .ref (lq)), (1, .ref (b))] [.ref (a), .ref (b), .ref (lq)]
  refine g_aload_n E dJx4a65c_add_9ea2d_16 rfl 0 rfl ?_
  refine p_get_AL_size (S := (uI S 19 lq (sI S 19 lq + 1))) E hlq hlk (fun _ h => (List.mem_cons_of_mem _ (List.mem_append_right _ h))) (List.mem_cons_of_mem _ (List.mem_append_left _ (List.mem_append_left _ (List.mem_of_getElem? (i := 3) rfl)))) dJx4a65c_add_9ea2d_17 ?_
  rw [show sI (uI S 19 lq (sI S 19 lq + 1)) 20 lq = nI n from hsz]
  show G C (cW (xy C) (uI S 19 lq (sI S 19 lq + 1))) 0 0 20 [(0, .ref (lq)), (1, .ref (b))] [.int (nI n), .ref (a), .ref (b), .ref (lq)]
  refine c_invV (n := 3) (rest := []) E (m_add3_C (xl C) E.tr (xD C) (xy C) e0 (S := (uI S 19 lq (sI S 19 lq + 1))) hlq hlk hb ((wF_uI b hbl).trans hbF) hqc hca hd ha hK hN hn10 hn100 (fun k hk y hy => (hel k hk y hy).imp id (fun q => q.imp fun fs e => (wF_uI y (hal k hk y hy)).trans e)) hsz hbl) hlq gJx4a65c_add_9ea2d_Jx4a65c_add_72be8 rfl rfl rfl (by decide +kernel) ⟨Nat.le_of_ble_eq_true rfl, Nat.le_of_ble_eq_true rfl⟩ (wF_AL hlk) rfl rfl rfl rfl (Nat.le_of_ble_eq_true rfl) dJx4a65c_add_9ea2d_20 ⟨Nat.le_of_ble_eq_true rfl, Nat.le_of_ble_eq_true rfl⟩ (fun _ _ h9 => h9.elim) (fun v9 S9_20 h9 => ?_)
  obtain ⟨hv9, q, hq, hS9⟩ := h9
  rw [hv9, hS9]
  show G C (cW (xy C) (uI (uQ (uP (grw (uI S 19 lq (sI S 19 lq + 1)) a q (n + n / 2)) 14 lq (some q)) q n (some b)) 20 lq (nI (n + 1)))) 1 1000 23 [(0, .ref (lq)), (1, .ref (b))] []
  refine g_iconst (v := 1) E dJx4a65c_add_9ea2d_23 (by decide) ?_
  exact g_zret E hE hr (Or.inr rfl) dJx4a65c_add_9ea2d_24 (Nat.le_of_ble_eq_true rfl) (Nat.le_of_ble_eq_true rfl) ⟨(uI (uQ (uP (grw (uI S 19 lq (sI S 19 lq + 1)) a q (n + n / 2)) 14 lq (some q)) q n (some b)) 20 lq (nI (n + 1))), rfl, rfl, q, hq, rfl⟩
