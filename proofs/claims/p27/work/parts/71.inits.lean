/-! what constructors leave -/
theorem p_put_AL_mc2 {C : gT} {cc : ByteArray} {nL : Nat} {Ts : List Cond} {own : String} {e0 : Nat} {rm : Room} {S : wS} {mc ms pc a idx : Nat} {L : List (Nat × Value)} {st : List Value} (E : gOk C cc nL Ts own e0 rm) (ha : a ∈ sL S) (hK : sK S a = 6) (hin : ∀ w ∈ wsJx4a65c0, w ∈ Ts) (hlk : Cond.fieldLink own idx "java/util/AbstractList" "modCount" "I" ∈ Ts) {v : Int32} (d : decode cc pc = .ok (.putfield idx, 3)) (kk : G C (cW (xy C) (uI S 19 a v)) mc ms (pc + 3) L st) : G C (cW (xy C) S) mc ms pc L (.int v :: .ref a :: st) :=
  p_put (S' := uI S 19 a v) E ha tyJx4a65c_ok nmJx4a65c (wF_AL hK) rfl 0 (by decide) hin hlk (fun x9 h9 => h9) rfl (tyJx4a65c_ok 0 (by decide)) rfl rfl (Nat.le_of_ble_eq_true rfl) d rfl ((wF_AL (S := uI S 19 a v) hK).trans (by simp [uI, sI, sJ, sP, up2, List.set])) (fun b h => wF_uI b h) kk
theorem nwG_mem {S : wS} {q : Nat} {r : Nat → Nat} {x : Nat} (h : x ∈ sL S) : x ∈ sL (nwG S q r) := List.mem_cons_of_mem _ (List.mem_append_left _ h)
theorem nwG_q {S : wS} {q : Nat} {r : Nat → Nat} : q ∈ sL (nwG S q r) := List.mem_cons_self
theorem nwG_r {S : wS} {q : Nat} {r : Nat → Nat} {i : Nat} (h : i < 10) : r i ∈ sL (nwG S q r) := List.mem_cons_of_mem _ (List.mem_append_right _ (rws_mem.mpr ⟨i, h, rfl⟩))
theorem nwG_K {S : wS} {q : Nat} {r : Nat → Nat} {x : Nat} (h : x ≠ q) (h2 : x ∉ rws r) : sK (nwG S q r) x = sK S x := (if_neg h).trans (if_neg h2)
theorem FR.nwG {S : wS} {q : Nat} {r : Nat → Nat} (hq : q ∉ sL S) (hr : ∀ i, i < 10 → r i ∉ sL S) : FR S (nwG S q r) (fun _ => False) := ⟨fun _ h => nwG_mem h, fun x hx _ => by
  have h1 : x ≠ q := fun e => hq (e ▸ hx)
  have h2 : x ∉ rws r := fun h => by
    obtain ⟨i, hi, e⟩ := rws_mem.mp h
    exact hr i hi (e ▸ hx)
  exact ⟨nwG_K h1 h2, fun _ => rfl, fun _ => rfl, fun _ => rfl, (if_neg h1).trans (if_neg h2), if_neg h2, if_neg h1⟩⟩
/-- a new table of ways at a -/
def pWy (S S' : wS) (a : Nat) : Prop := FR S S' (fun x => x = a) ∧ sI S' 16 a = -1 ∧ sI S' 17 a = sI S 17 a ∧ sK S' a = sK S a ∧ ∃ (q : Nat) (r : Nat → Nat), q ∉ sL S ∧ q ∈ sL S' ∧ sK S' q = 9 ∧ sN S' q = 10 ∧ sP S' 8 a = some q ∧ (∀ i, i < 10 → sQ S' q i = some (r i)) ∧ (∀ i j, i < 10 → j < 10 → r i = r j → i = j) ∧
  ∀ i, i < 10 → r i ∉ sL S ∧ r i ∈ sL S' ∧ sK S' (r i) = 7 ∧ sN S' (r i) = 10 ∧ ∀ b, sR S' (r i) b = 0
theorem pWy_of {S : wS} {a q : Nat} {r : Nat → Nat} (ha : a ∈ sL S) (hq : q ∉ sL S) (hqr : q ∉ rws r) (hr : ∀ i, i < 10 → r i ∉ sL S) (hi : ∀ i j, i < 10 → j < 10 → r i = r j → i = j) : pWy S (uI (uP (nwG S q r) 8 a (some q)) 16 a (-1)) a := by
  have haq : a ≠ q := fun e => hq (e ▸ ha)
  have har : a ∉ rws r := fun h => by
    obtain ⟨i, hi, e⟩ := rws_mem.mp h
    exact hr i hi (e ▸ ha)
  have hrq : ∀ i, i < 10 → r i ≠ q := fun i hi e => hqr (rws_mem.mpr ⟨i, hi, e⟩)
  refine ⟨FR.tr (FR.tr (FR.nwG hq hr) (FR.uP (a := a)) (fun _ _ h => h.elim) (fun _ _ h => h)) (FR.uI (a := a)) (fun _ _ h => h) (fun _ _ h => h), up2_self _ _ _ _, ?_, ?_, q, r, hq, ?_, ?_, ?_, up2_self _ _ _ _, fun i h => ?_, hi, fun i h => ⟨hr i h, ?_, ?_, ?_, fun b => ?_⟩⟩
  · show up2 (nwG S q r).2.2.1 16 a (-1) 17 a = S.2.2.1 17 a
    rw [up2_nf (by decide)]; rfl
  · rw [sk_uI, sk_uP]; exact nwG_K haq har
  · rw [sl_uI, sl_uP]; exact nwG_q
  · rw [sk_uI, sk_uP]; exact if_pos rfl
  · exact if_pos rfl
  · exact (congrFun (show sQ (nwG S q r) q = (fun i => if i < 10 then some (r i) else none) from if_pos rfl) i).trans (if_pos h)
  · rw [sl_uI, sl_uP]; exact nwG_r h
  · rw [sk_uI, sk_uP]; exact (if_neg (hrq i h)).trans (if_pos (rws_mem.mpr ⟨i, h, rfl⟩))
  · exact (if_neg (hrq i h)).trans (if_pos (rws_mem.mpr ⟨i, h, rfl⟩))
  · exact congrFun (if_pos (rws_mem.mpr ⟨i, h, rfl⟩)) b
abbrev rm_X4_init : Room := { frames := 1, cells := 11, slots := 110, locals := 30 }
set_option maxHeartbeats 4000000 in
set_option maxRecDepth 100000 in
theorem m_X4_init (l : Launch) (hl : l.stackTraces = false) (D : va_G) (cy : Nat → ClassId) (e0 : Nat) {S : wS}  {a : Nat} (ham : a ∈ sL S) (hak : sK S a = 4) : cMet l yX4_init wsX4_init rm_X4_init D cy e0 [.ref (a)] S (fun v S' => v = none ∧ pWy S S' a) (fun _ _ => False) 11 110 := by
  refine gMet.of (cc := cX4_init) (maxL := 1) (ret := none) hl (by decide) rfl (Nat.le_of_ble_eq_true rfl) ?_
  intro C E h1 h2 h3 hr hnm hT hE
  subst h1; subst h2; subst h3
  have E : gOk C cX4_init 1 wsX4_init RX4 e0 rm_X4_init := E
  have hin : (xh C).name = "<init>" := hnm
  show G C (cW (xy C) S) 0 0 0 [(0, .ref (a))] []
  refine g_aload_n E dX4_init_0 rfl 0 rfl ?_
  refine g_objInit (rest := []) E (List.mem_cons_of_mem _ (List.mem_append_left _ (List.mem_of_getElem? (i := 0) rfl))) (List.mem_cons_of_mem _ (List.mem_append_left _ (List.mem_of_getElem? (i := 1) rfl))) (List.mem_cons_of_mem _ (List.mem_append_left _ (List.mem_of_getElem? (i := 2) rfl))) dX4_init_1 (Nat.le_of_ble_eq_true rfl) (Nat.le_of_ble_eq_true rfl) ?_
  refine g_aload_n E dX4_init_4 rfl 0 rfl ?_
  refine g_bipush (v := 10) E dX4_init_5 (by decide) ?_
  refine g_bipush (v := 10) E dX4_init_7 (by decide) ?_
  refine p_mna (S := S) E (List.mem_cons_of_mem _ (List.mem_append_left _ (List.mem_of_getElem? (i := 3) rfl))) (List.mem_cons_of_mem _ (List.mem_append_left _ (List.mem_of_getElem? (i := 4) rfl))) (Nat.le_of_ble_eq_true rfl) (Nat.le_of_ble_eq_true rfl) dX4_init_9 (fun q r hinj hrn hqn hqr => ?_)
  have haq : a ≠ q := fun e => hqn (e ▸ ham)
  have har : a ∉ rws r := fun h => (rws_mem.mp h).elim fun i g => hrn i g.1 (g.2 ▸ ham)
  refine p_put_Ways_shortest (S := (nwG S q r)) (v := (some (q))) E (nwG_mem ham) ((nwG_K haq har).trans hak) (fun _ h => (List.mem_cons_of_mem _ (List.mem_append_right _ h))) hin rfl (List.mem_cons_of_mem _ (List.mem_append_left _ (List.mem_of_getElem? (i := 5) rfl))) rfl dX4_init_13 ?_
  refine g_aload_n E dX4_init_16 rfl 0 rfl ?_
  refine g_iconst (v := (-1)) E dX4_init_17 (by decide) ?_
  refine p_put_Ways_foundLanes (S := (uP (nwG S q r) 8 (a) ((some (q))))) (v := (-1)) E (show a ∈ sL (uP (nwG S q r) 8 a (some q)) by rw [sl_uP]; exact nwG_mem ham) (show sK (uP (nwG S q r) 8 a (some q)) a = 4 by rw [sk_uP]; exact (nwG_K haq har).trans hak) (fun _ h => (List.mem_cons_of_mem _ (List.mem_append_right _ h))) (List.mem_cons_of_mem _ (List.mem_append_left _ (List.mem_of_getElem? (i := 6) rfl))) rfl dX4_init_18 ?_
  exact g_vret E hE hr dX4_init_21 (Nat.le_of_ble_eq_true rfl) (Nat.le_of_ble_eq_true rfl) ⟨(uI (uP (nwG S q r) 8 (a) ((some (q)))) 16 (a) ((-1))), rfl, rfl, pWy_of ham hqn hqr hrn hinj⟩
abbrev rm_Jxa1e45_init_da8c8 : Room := { frames := 1, cells := 0, slots := 0, locals := 30 }
set_option maxHeartbeats 4000000 in
set_option maxRecDepth 100000 in
theorem m_Jxa1e45_init_da8c8 (l : Launch) (hl : l.stackTraces = false) (D : va_G) (cy : Nat → ClassId) (e0 : Nat) {S : wS}  {lq : Nat} : cMet l yJxa1e45_init_da8c8 wsJxa1e45_init_da8c8 rm_Jxa1e45_init_da8c8 D cy e0 [.ref (lq)] S (fun v S' => v = none ∧ S' = S) (fun _ _ => False) 0 0 := by
  refine gMet.of (cc := cJxa1e45_init_da8c8) (maxL := 1) (ret := none) hl (by decide) rfl (Nat.le_of_ble_eq_true rfl) ?_
  intro C E h1 h2 h3 hr hnm hT hE
  subst h1; subst h2; subst h3
  have E : gOk C cJxa1e45_init_da8c8 1 wsJxa1e45_init_da8c8 RJxa1e45 e0 rm_Jxa1e45_init_da8c8 := E
  show G C (cW (xy C) S) 0 0 0 [(0, .ref (lq))] []
  refine g_aload_n E dJxa1e45_init_da8c8_0 rfl 0 rfl ?_
  refine g_objInit (rest := []) E (List.mem_cons_of_mem _ (List.mem_of_getElem? (i := 0) rfl)) (List.mem_cons_of_mem _ (List.mem_of_getElem? (i := 1) rfl)) (List.mem_cons_of_mem _ (List.mem_of_getElem? (i := 2) rfl)) dJxa1e45_init_da8c8_1 (Nat.le_of_ble_eq_true rfl) (Nat.le_of_ble_eq_true rfl) ?_
  exact g_vret E hE hr dJxa1e45_init_da8c8_4 (Nat.le_of_ble_eq_true rfl) (Nat.le_of_ble_eq_true rfl) ⟨S, rfl, rfl, rfl⟩
abbrev rm_Jxc12de_init_da8c8 : Room := { frames := 2, cells := 0, slots := 0, locals := 50 }
set_option maxHeartbeats 4000000 in
set_option maxRecDepth 100000 in
theorem m_Jxc12de_init_da8c8 (l : Launch) (hl : l.stackTraces = false) (D : va_G) (cy : Nat → ClassId) (e0 : Nat) {S : wS}  {lq : Nat} (hlq : lq ∈ sL S) (hlk : sK S lq = 6) : cMet l yJxc12de_init_da8c8 wsJxc12de_init_da8c8 rm_Jxc12de_init_da8c8 D cy e0 [.ref (lq)] S (fun v S' => v = none ∧ S' = uI S 19 lq 0) (fun _ _ => False) 0 0 := by
  refine gMet.of (cc := cJxc12de_init_da8c8) (maxL := 1) (ret := none) hl (by decide) rfl (Nat.le_of_ble_eq_true rfl) ?_
  intro C E h1 h2 h3 hr hnm hT hE
  subst h1; subst h2; subst h3
  have E : gOk C cJxc12de_init_da8c8 1 wsJxc12de_init_da8c8 RJxc12de e0 rm_Jxc12de_init_da8c8 := E
  show G C (cW (xy C) S) 0 0 0 [(0, .ref (lq))] []
  refine g_aload_n E dJxc12de_init_da8c8_0 rfl 0 rfl ?_
  refine c_invI (n := 0) (rest := []) E (m_Jxa1e45_init_da8c8 (xl C) E.tr (xD C) (xy C) e0 (S := S) (lq := lq)) gJxc12de_init_da8c8_Jxa1e45_init_da8c8 rfl rfl rfl (List.mem_cons_of_mem _ (List.mem_append_left _ (List.mem_of_getElem? (i := 3) rfl))) (List.mem_cons_of_mem _ (List.mem_append_left _ (List.mem_of_getElem? (i := 1) rfl))) (List.mem_cons_of_mem _ (List.mem_append_left _ (List.mem_of_getElem? (i := 2) rfl))) rfl (by decide +kernel) ⟨Nat.le_of_ble_eq_true rfl, Nat.le_of_ble_eq_true rfl⟩ rfl rfl (Nat.le_of_ble_eq_true rfl) dJxc12de_init_da8c8_1 ⟨Nat.le_of_ble_eq_true rfl, Nat.le_of_ble_eq_true rfl⟩ (fun _ _ h9 => h9.elim) (fun v9 S9_1 h9 => ?_)
  obtain ⟨hv9, hS9⟩ := h9
  rw [hv9, hS9]
  show G C (cW (xy C) S) 0 0 4 [(0, .ref (lq))] []
  refine g_aload_n E dJxc12de_init_da8c8_4 rfl 0 rfl ?_
  refine g_iconst (v := 0) E dJxc12de_init_da8c8_5 (by decide) ?_
  refine p_put_AL_mc2 (S := S) (v := 0) E hlq hlk (fun _ h => (List.mem_cons_of_mem _ (List.mem_append_right _ h))) (List.mem_cons_of_mem _ (List.mem_append_left _ (List.mem_of_getElem? (i := 0) rfl))) dJxc12de_init_da8c8_6 ?_
  exact g_vret E hE hr dJxc12de_init_da8c8_9 (Nat.le_of_ble_eq_true rfl) (Nat.le_of_ble_eq_true rfl) ⟨(uI S 19 lq 0), rfl, rfl, rfl⟩
abbrev rm_Jx4a65c_init_da8c8 : Room := { frames := 3, cells := 0, slots := 0, locals := 70 }
set_option maxHeartbeats 4000000 in
set_option maxRecDepth 100000 in
theorem m_Jx4a65c_init_da8c8 (l : Launch) (hl : l.stackTraces = false) (D : va_G) (cy : Nat → ClassId) (e0 : Nat) {S : wS}  {lq : Nat} (hlq : lq ∈ sL S) (hlk : sK S lq = 6) : cMet l yJx4a65c_init_da8c8 wsJx4a65c_init_da8c8 rm_Jx4a65c_init_da8c8 D cy e0 [.ref (lq)] S (fun v S' => v = none ∧ S' = uP (uI S 19 lq 0) 14 lq (some e0)) (fun _ _ => False) 0 0 := by
  refine gMet.of (cc := cJx4a65c_init_da8c8) (maxL := 1) (ret := none) hl (by decide) rfl (Nat.le_of_ble_eq_true rfl) ?_
  intro C E h1 h2 h3 hr hnm hT hE
  subst h1; subst h2; subst h3
  have E : gOk C cJx4a65c_init_da8c8 1 wsJx4a65c_init_da8c8 RJx4a65c e0 rm_Jx4a65c_init_da8c8 := E
  show G C (cW (xy C) S) 0 0 0 [(0, .ref (lq))] []
  refine g_aload_n E dJx4a65c_init_da8c8_0 rfl 0 rfl ?_
  refine c_invI (n := 0) (rest := []) E (m_Jxc12de_init_da8c8 (xl C) E.tr (xD C) (xy C) e0 (S := S) hlq hlk) gJx4a65c_init_da8c8_Jxc12de_init_da8c8 rfl rfl rfl (List.mem_cons_of_mem _ (List.mem_append_left _ (List.mem_of_getElem? (i := 4) rfl))) (List.mem_cons_of_mem _ (List.mem_append_left _ (List.mem_of_getElem? (i := 2) rfl))) (List.mem_cons_of_mem _ (List.mem_append_left _ (List.mem_of_getElem? (i := 3) rfl))) rfl (by decide +kernel) ⟨Nat.le_of_ble_eq_true rfl, Nat.le_of_ble_eq_true rfl⟩ rfl rfl (Nat.le_of_ble_eq_true rfl) dJx4a65c_init_da8c8_1 ⟨Nat.le_of_ble_eq_true rfl, Nat.le_of_ble_eq_true rfl⟩ (fun _ _ h9 => h9.elim) (fun v9 S9_1 h9 => ?_)
  obtain ⟨hv9, hS9⟩ := h9
  rw [hv9, hS9]
  show G C (cW (xy C) (uI S 19 lq 0)) 0 0 4 [(0, .ref (lq))] []
  refine g_aload_n E dJx4a65c_init_da8c8_4 rfl 0 rfl ?_
  refine g_gets0 E (List.mem_cons_of_mem _ (List.mem_append_left _ (List.mem_of_getElem? (i := 0) rfl))) dJx4a65c_init_da8c8_5 ?_
  refine p_put_AL_elementData (S := (uI S 19 lq 0)) (v := some e0) E hlq hlk (fun _ h => (List.mem_cons_of_mem _ (List.mem_append_right _ h))) (List.mem_cons_of_mem _ (List.mem_append_left _ (List.mem_of_getElem? (i := 1) rfl))) rfl dJx4a65c_init_da8c8_8 ?_
  exact g_vret E hE hr dJx4a65c_init_da8c8_11 (Nat.le_of_ble_eq_true rfl) (Nat.le_of_ble_eq_true rfl) ⟨(uP (uI S 19 lq 0) 14 lq (some e0)), rfl, rfl, rfl⟩
