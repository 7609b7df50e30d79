/-! a table of rows is made -/
def rws (r : Nat → Nat) : List Nat := (List.range 10).map r
theorem rws_mem {r : Nat → Nat} {x : Nat} : x ∈ rws r ↔ ∃ i, i < 10 ∧ r i = x := by
  unfold rws
  rw [List.mem_map]
  exact ⟨fun ⟨i, h1, h2⟩ => ⟨i, List.mem_range.mp h1, h2⟩, fun ⟨i, h1, h2⟩ => ⟨i, List.mem_range.mpr h1, h2⟩⟩
def nwG (S : wS) (q : Nat) (r : Nat → Nat) : wS := (q :: (S.1 ++ rws r), (fun x => if x = q then 9 else if x ∈ rws r then 7 else S.2.1 x), S.2.2.1, S.2.2.2.1, S.2.2.2.2.1, (fun x => if x = q then 10 else if x ∈ rws r then 10 else S.2.2.2.2.2.1 x), (fun x => if x ∈ rws r then fun _ => 0 else S.2.2.2.2.2.2.1 x), (fun x => if x = q then (fun i => if i < 10 then some (r i) else none) else S.2.2.2.2.2.2.2 x))
theorem nwG_W {cy : Nat → ClassId} {S : wS} {q : Nat} {r : Nat → Nat} (hq : q ∉ S.1 ++ rws r) : ([] ++ [(q, (Sum.inl (cy 4, 10, .inr (.inr (.inr (.inr (fun i => if i < 10 then some (r i) else none))))) : va_E))]) ++ va_pl (S.1 ++ rws r) (vr_up (wF cy S) (rws r) (.inl (cy 0, 10, .inl (fun _ => 0)))) = cW cy (nwG S q r) := by
  have e1 : wF cy (nwG S q r) q = .inl (cy 4, 10, .inr (.inr (.inr (.inr (fun i => if i < 10 then some (r i) else none))))) := by
    rw [wF_rows (S := nwG S q r) (a := q) (if_pos rfl)]
    rw [show sN (nwG S q r) q = 10 from if_pos rfl, show sQ (nwG S q r) q = (fun i => if i < 10 then some (r i) else none) from if_pos rfl]
  show (q, _) :: va_pl (S.1 ++ rws r) _ = (q, wF cy (nwG S q r) q) :: (S.1 ++ rws r).map (fun a => (a, wF cy (nwG S q r) a))
  rw [e1]
  refine congrArg (List.cons _) (List.map_congr_left (fun b hb => ?_))
  have hbq : b ≠ q := fun e => hq (e ▸ hb)
  by_cases h : b ∈ rws r
  · rw [show vr_up (wF cy S) (rws r) (Sum.inl (cy 0, 10, .inl (fun _ => 0))) b = .inl (cy 0, 10, .inl (fun _ => 0)) from if_pos h]
    rw [wF_ints (S := nwG S q r) (a := b) ((if_neg hbq).trans (if_pos h))]
    rw [show sN (nwG S q r) b = 10 from (if_neg hbq).trans (if_pos h), show sR (nwG S q r) b = (fun _ => 0) from if_pos h]
  · rw [show vr_up (wF cy S) (rws r) (Sum.inl (cy 0, 10, .inl (fun _ => 0))) b = wF cy S b from if_neg h]
    rw [wF_at (S := S) (S' := nwG S q r) (b := b) ((if_neg hbq).trans (if_neg h)) (fun _ => rfl) (fun _ => rfl) (fun _ => rfl) ((if_neg hbq).trans (if_neg h)) (if_neg h) (if_neg hbq)]
theorem va_nmAA {s : State} {cA : ClassId} (h : va_RA s cA (.array .int)) : s.vm.findClass "[[I" = some cA := by
  have e : "[" ++ (FieldType.array FieldType.int).toString = "[[I" := by decide +kernel
  rw [← e]
  exact h
theorem p_mna {C : gT} {cc : ByteArray} {nL : Nat} {Ts : List Cond} {own : String} {e0 : Nat} {rm : Room} {S : wS} {mc ms pc idx : Nat} {L : List (Nat × Value)} {st : List Value} (E : gOk C cc nL Ts own e0 rm) (hlk : Cond.classLink own idx "[[I" ∈ Ts) (harr : Cond.arrayClass .int ∈ Ts) (hc : mc + 11 ≤ rm.cells) (hs : ms + 110 ≤ rm.slots) (d : decode cc pc = .ok (.multianewarray idx 2, 4))
    (kk : ∀ (q : Nat) (r : Nat → Nat), (∀ i j, i < 10 → j < 10 → r i = r j → i = j) → (∀ i, i < 10 → r i ∉ sL S) → q ∉ sL S → q ∉ rws r → G C (cW (xy C) (nwG S q r)) (mc + 11) (ms + 110) (pc + 4) L (.ref q :: st)) : G C (cW (xy C) S) mc ms pc L (.int 10 :: .int 10 :: st) := by
  intro H locs ls hP hD hS hL
  refine va_mna (X := []) (L := sL S) (f := wF (xy C) S) (ty := .int) (cy := xy C 0) (N' := 10) (K' := 10) (z := (10, .inl (fun _ => 0))) E.exec E.code E.ow (by rw [show "[" ++ (FieldType.array FieldType.int).toString = "[[I" by decide +kernel]; exact E.ts _ hlk) E.ev.2.2.2.2.2.2.2.1 (E.ts _ harr) (by rw [show (FieldType.array FieldType.int).toString = "[I" by decide +kernel]; exact va_nm_int (E.K.2 0 _ rfl).2) E.K hP hD hS E.A (by decide) (by decide) (by decide) (by decide) (by decide) (by decide) (by decide) (by decide) (by decide) (by rw [E.room]; exact hc) (by rw [E.room]; exact hs) (fun _ => rfl) d (fun q r cA H1 h1 h2 h3 h4 h5 h6 => ?_)
  have hcA : cA = xy C 4 := by
    have e1 := (h3.2 5 _ rfl).2
    have e2 := (E.K.2 4 _ rfl).2
    exact Option.some.inj ((va_nmAA e1).symm.trans (va_nmAA e2))
  subst hcA
  have hq : q ∉ (sL S) ++ rws r := fun h => by
    have h0 : (([] ++ [(q, (Sum.inl (xy C 4, 10, .inr (.inr (.inr (.inr (fun i => if i < 10 then some (r i) else none))))) : va_E))]) ++ va_pl ((sL S) ++ rws r) (vr_up (wF (xy C) S) (rws r) (.inl (xy C 0, 10, .inl (fun _ => 0)))))[0]? = some (q, Sum.inl (xy C 4, 10, .inr (.inr (.inr (.inr (fun i => if i < 10 then some (r i) else none)))))) := rfl
    obtain ⟨k5, hk5⟩ := va_pl_get (X := []) (f := vr_up (wF (xy C) S) (rws r) (.inl (xy C 0, 10, .inl (fun _ => 0)))) h
    have hk4 : (([] ++ [(q, (Sum.inl (xy C 4, 10, .inr (.inr (.inr (.inr (fun i => if i < 10 then some (r i) else none))))) : va_E))]) ++ va_pl ((sL S) ++ rws r) (vr_up (wF (xy C) S) (rws r) (.inl (xy C 0, 10, .inl (fun _ => 0)))))[k5 + 1]? = some (q, vr_up (wF (xy C) S) (rws r) (.inl (xy C 0, 10, .inl (fun _ => 0))) q) := hk5
    have e9 := h5.1 0 (k5 + 1) _ _ h0 hk4 rfl
    omega
  rw [show sL S = S.1 from rfl] at hq
  have hW := nwG_W (cy := xy C) (S := S) (q := q) (r := r) hq
  have h4' : va_P (xD C) vwCl (cW (xy C) (nwG S q r)) H1 := by rw [← hW]; exact h4
  have h5' : va_D (xA C) (cW (xy C) (nwG S q r)) := by rw [← hW]; exact h5
  exact kk q r h1 h2 (fun z => hq (List.mem_append_left _ z)) (fun z => hq (List.mem_append_right _ z)) H1 locs ls h4' h5' h6 hL
