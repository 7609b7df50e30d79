/-! the table of the ways, as the class holds it -/
def TW (w : Nat) (d : Nat → Nat → Nat) (r : Nat → Nat → Int32) : Prop := ∀ a b, a < 10 → b < 10 → r (4 + 10 * w + a) b = nI (d a b)
/-- all arrays but the rows of w are as they were -/
def SM (w : Nat) (r r' : Nat → Nat → Int32) : Prop := ∀ k, ¬ (4 + 10 * w ≤ k ∧ k < 14 + 10 * w) → r' k = r k
theorem SM.rf {w : Nat} {r : Nat → Nat → Int32} : SM w r r := fun _ _ => rfl
theorem SM.tr {w : Nat} {r r' r'' : Nat → Nat → Int32} (h : SM w r r') (h' : SM w r' r'') : SM w r r'' := fun k hk => (h' k hk).trans (h k hk)
theorem SM.put {w a b : Nat} {r r' : Nat → Nat → Int32} {v : Int32} (h : SM w r r') (ha : a < 10) : SM w r (up2 r' (4 + 10 * w + a) b v) := fun k hk => by rw [up2_nf (by omega)]; exact h k hk
theorem TW.put {w a b v : Nat} {d : Nat → Nat → Nat} {r : Nat → Nat → Int32} (h : TW w d r) : TW w (up2 d a b v) (up2 r (4 + 10 * w + a) b (nI v)) := by
  intro a' b' ha hb
  unfold up2
  by_cases e : a' = a ∧ b' = b
  · rw [if_pos (by omega), if_pos e]
  · rw [if_neg (by omega), if_neg e]; exact h a' b' ha hb
theorem TW.cg {w : Nat} {d d' : Nat → Nat → Nat} {r : Nat → Nat → Int32} (h : TW w d r) (e : ∀ a b, a < 10 → b < 10 → d a b = d' a b) : TW w d' r := fun a b ha hb => by rw [← e a b ha hb]; exact h a b ha hb
/-- the lanes are as the document has them -/
def LNS (r : Nat → Nat → Int32) (M : Nat) : Prop := ∀ e, e < M → ∃ x y t : Nat, r 0 e = nI x ∧ r 1 e = nI y ∧ r 2 e = nI t ∧ x < 10 ∧ y < 10 ∧ x ≠ y ∧ t ≤ 30
def d00 (a b : Nat) : Nat := if a = b then 0 else FAR
/-- rows below a, and below b in row a, stand already -/
def mixd (d d' : Nat → Nat → Nat) (a b a' b' : Nat) : Nat := if a' < a ∨ (a' = a ∧ b' < b) then d' a' b' else d a' b'
theorem mixd_0 (d d' : Nat → Nat → Nat) : mixd d d' 0 0 = d := by funext a b; exact if_neg (by omega)
theorem mixd_row (d d' : Nat → Nat → Nat) (a : Nat) {a' b' : Nat} (hb : b' < 10) : mixd d d' a 10 a' b' = mixd d d' (a + 1) 0 a' b' := by
  unfold mixd
  by_cases h : a' < a ∨ (a' = a ∧ b' < 10)
  · rw [if_pos h, if_pos (by omega)]
  · rw [if_neg h, if_neg (by omega)]
theorem mixd_end (d d' : Nat → Nat → Nat) {a' b' : Nat} (ha : a' < 10) : mixd d d' 10 0 a' b' = d' a' b' := if_pos (Or.inl ha)
theorem mixd_put (d d' : Nat → Nat → Nat) (a b : Nat) : mixd d d' a (b + 1) = up2 (mixd d d' a b) a b (d' a b) := by
  funext a' b'
  by_cases e : a' = a ∧ b' = b
  · show (if a' < a ∨ (a' = a ∧ b' < b + 1) then d' a' b' else d a' b') = (if a' = a ∧ b' = b then d' a b else mixd d d' a b a' b')
    rw [if_pos e, if_pos (by omega), e.1, e.2]
  · show (if a' < a ∨ (a' = a ∧ b' < b + 1) then d' a' b' else d a' b') = (if a' = a ∧ b' = b then d' a b else (if a' < a ∨ (a' = a ∧ b' < b) then d' a' b' else d a' b'))
    rw [if_neg e]
    by_cases h : a' < a ∨ (a' = a ∧ b' < b)
    · rw [if_pos h, if_pos (by omega)]
    · rw [if_neg h, if_neg (by omega)]
theorem mixd_keep {d d' : Nat → Nat → Nat} {a b : Nat} (h : d' a b = d a b) : mixd d d' a (b + 1) = mixd d d' a b := by
  funext a' b'
  unfold mixd
  by_cases e : a' = a ∧ b' = b
  · rw [if_pos (by omega), if_neg (by omega), e.1, e.2, h]
  · by_cases h : a' < a ∨ (a' = a ∧ b' < b)
    · rw [if_pos h, if_pos (by omega)]
    · rw [if_neg h, if_neg (by omega)]
theorem mixd_at (d d' : Nat → Nat → Nat) (a b b' : Nat) (h : b ≤ b') : mixd d d' a b a b' = d a b' := if_neg (by omega)
theorem nI_ltn {a b : Nat} (ha : a < 2 ^ 31) (hb : b < 2 ^ 31) (h : ¬ nI b ≤ nI a) : a < b := nI_nge_nat hb ha h
/-- the cache of w speaks of the first m lanes, or of none -/
def WC (w : Nat) (i : Nat → Nat → Int32) (r : Nat → Nat → Int32) (M : Nat) : Prop := i 16 w = -1 ∨ ∃ m, m ≤ M ∧ i 16 w = nI m ∧ TW w (dst (Ed (r 0) (r 1) (r 2) (i 17 w) m)) r
def WV (i r : Nat → Nat → Int32) (M : Nat) : Prop := WC 0 i r M ∧ WC 1 i r M
/-- all but the caches is as it was -/
def SC (i r i' r' : Nat → Nat → Int32) : Prop := (∀ f, f ≠ 16 → f ≠ 17 → i' f = i f) ∧ ∀ k, ¬ (4 ≤ k ∧ k < 24) → r' k = r k
theorem SC.rf {i r : Nat → Nat → Int32} : SC i r i r := ⟨fun _ _ _ => rfl, fun _ _ => rfl⟩
theorem SC.tr {i r i' r' i'' r'' : Nat → Nat → Int32} (h : SC i r i' r') (h' : SC i' r' i'' r'') : SC i r i'' r'' := ⟨fun f h1 h2 => (h'.1 f h1 h2).trans (h.1 f h1 h2), fun k hk => (h'.2 k hk).trans (h.2 k hk)⟩
/-- the minutes of a way, or -1 -/
noncomputable def wy (E : Nat → Nat → Nat → Prop) (a b : Nat) : Int32 := if dst E a b < FAR then nI (dst E a b) else -1
theorem wy_lt {E : Nat → Nat → Nat → Prop} {a b : Nat} (h : ¬ nI FAR ≤ nI (dst E a b)) : wy E a b = nI (dst E a b) := if_pos (nI_nge_nat (by decide) (Nat.lt_of_le_of_lt (dst_le E a b) (by decide)) h)
theorem wy_ge {E : Nat → Nat → Nat → Prop} {a b : Nat} (h : nI FAR ≤ nI (dst E a b)) : wy E a b = -1 := if_neg (Nat.not_lt.mpr (nI_ge_nat (by decide) (Nat.lt_of_le_of_lt (dst_le E a b) (by decide)) h))
/-- a row whose way to the middle is wanting stays -/
theorem mixd_skip {d : Nat → Nat → Nat} {m a : Nat} (hle : ∀ a b, a < 10 → b < 10 → d a b ≤ FAR) (ha : a < 10) (hF : d a m = FAR) (x y : Nat) (hx : x < 10) (hy : y < 10) : mixd d (fwS m d) a 0 x y = mixd d (fwS m d) a 10 x y := by
  unfold mixd
  by_cases h : x < a
  · rw [if_pos (Or.inl h), if_pos (Or.inl h)]
  · rw [if_neg (by omega)]
    by_cases e : x = a
    · subst e
      rw [if_pos (by omega)]
      unfold fwS
      have := hle x y hx hy
      rw [if_neg (by omega)]
    · rw [if_neg (by omega)]
/-- the middle's row is the same, whatever of it stands already -/
theorem mixd_mid {d : Nat → Nat → Nat} {m : Nat} (hd : d m m = 0) (a b y : Nat) : mixd d (fwS m d) a b m y = d m y := by
  unfold mixd
  split
  · exact fwS_row hd y
  · rfl
abbrev rm_X4_leadOver : Room := { frames := 0, cells := 0, slots := 0, locals := 0 }
set_option maxHeartbeats 4000000 in
set_option maxRecDepth 100000 in
theorem m_X4_leadOver (l : Launch) (hl : l.stackTraces = false) (D : va_G) (cy : Nat → ClassId) (e0 : Nat) {S : wS} {c : Nat → Nat} {ad : Nat → Nat → Nat} {i : Nat → Nat → Int32} {j : Nat → Nat → Int64} {p : Nat → Nat → Option Nat} {r : Nat → Nat → Int32} (hI : CI e0 S c ad i j p r) {w : Nat} (hw : w < 2) {m : Nat} (hm : m < 10) {d : Nat → Nat → Nat} (hTw : TW w d r) (hd : d m m = 0) (hle : ∀ a b, a < 10 → b < 10 → d a b ≤ FAR) : cMet l yX4_leadOver wsX4_leadOver rm_X4_leadOver D cy e0 [.ref (ad 4 w), .int (nI m)] S (fun v S' => v = none ∧ ∃ r', CI e0 S' c ad i j p r' ∧ SM w r r' ∧ TW w (fwS m d) r') (fun _ _ => False) 0 0 := by
  refine gMet.of (cc := cX4_leadOver) (maxL := 6) (ret := none) hl (by decide) rfl (Nat.le_of_ble_eq_true rfl) ?_
  intro C E h1 h2 h3 hr hnm hT hE
  subst h1; subst h2; subst h3
  have E : gOk C cX4_leadOver 6 wsX4_leadOver RX4 e0 rm_X4_leadOver := E
  show G C (cW (xy C) S) 0 0 0 [(0, .ref (ad 4 w)), (1, .int (nI m))] []
  have hc := hI.cnt
  have hr0 : ∃ r0, r0 = r := ⟨r, rfl⟩
  obtain ⟨r0, hr0⟩ := hr0
  rw [← hr0] at hE
  refine g_iconst (v := 0) E dX4_leadOver_0 (by decide) ?_
  refine g_istore_n (L' := [(2, .int (0)), (0, .ref (ad 4 w)), (1, .int (nI m))]) E dX4_leadOver_1 rfl (by decide) rfl ?_
  refine g_locals [(0, .ref (ad 4 w)), (1, .int (nI m)), (2, .int (0))] [1, 2, 0] rfl ?_
  have loop_2 : ∀ (n_2 a : Nat) (S : wS) (r : Nat → Nat → Int32), (CI e0 S c ad i j p r) → (SM w r0 r) → (TW w (mixd d (fwS m d) a 0) r) → a ≤ 10 → 10 < n_2 + a → G C (cW (xy C) S) 0 0 2 [(0, .ref (ad 4 w)), (1, .int (nI m)), (2, .int (nI a))] [] := by
    intro n_2
    induction n_2 with
    | zero => intro a S r hI hM hTw g1 g2; exact absurd g2 (by omega)
    | succ n_2 ih_2 =>
      intro a S r hI hM hTw h1_2 h2_2
      have hc := hI.cnt
      refine g_iload_n E dX4_leadOver_2 rfl 2 rfl ?_
      refine g_bipush (v := 10) E dX4_leadOver_3 (by decide) ?_
      refine g_icmp_ge (tgt := 86) E dX4_leadOver_5 (by decide) (fun c_5 => ?_) (fun c_5 => ?_)
      · have e_a : a = 10 := Nat.le_antisymm h1_2 (nI_ge_nat (b := 10) (by decide) (by omega) c_5)
        exact g_vret E hE hr dX4_leadOver_86 (Nat.le_of_ble_eq_true rfl) (Nat.le_of_ble_eq_true rfl) ⟨S, rfl, rfl, _, hI, hM, hTw.cg (fun x y hx hy => by rw [e_a]; exact mixd_end d _ hx)⟩
      · have hk10 : a < 10 := nI_nge_nat (b := 10) (by decide) (by omega) c_5
        refine g_aload_n E dX4_leadOver_8 rfl 0 rfl ?_
        refine q_get_Ways_shortest E hI (hI.c4 hw) (fun _ h => (List.mem_cons_of_mem _ (List.mem_append_right _ h))) (List.mem_cons_of_mem _ (List.mem_append_left _ (List.mem_of_getElem? (i := 0) rfl))) dX4_leadOver_9 ?_
        refine g_iload_n E dX4_leadOver_12 rfl 2 rfl ?_
        refine q_row E hI (k := w) (by omega) a rfl (by first | omega | (rw [alen_w (by omega) (by omega)]; omega) | (rw [alen_s]; omega) | (show _ < 24; omega) | (show _ < 6; omega)) dX4_leadOver_13 ?_
        refine g_iload_n E dX4_leadOver_14 rfl 1 rfl ?_
        refine q_iald E hI (hI.c7 (by omega)) m rfl (by first | omega | (rw [alen_w (by omega) (by omega)]; omega) | (rw [alen_s]; omega) | (show _ < 24; omega) | (show _ < 6; omega)) dX4_leadOver_15 ?_
        have e_f : r (4 + 10 * w + a) m = nI (d a m) := by rw [hTw a m hk10 hm, mixd_at d _ a 0 m (Nat.zero_le m)]
        rw [e_f]
        show G C (cW (xy C) S) 0 0 16 [(0, .ref (ad 4 w)), (1, .int (nI m)), (2, .int (nI a))] [.int (nI (d a m))]
        refine g_istore_n (L' := [(3, .int (nI (d a m))), (0, .ref (ad 4 w)), (1, .int (nI m)), (2, .int (nI a))]) E dX4_leadOver_16 rfl (by decide) rfl ?_
        refine g_iload_n E dX4_leadOver_17 rfl 0 rfl ?_
        refine g_ldc E (List.mem_cons_of_mem _ (List.mem_append_left _ (List.mem_of_getElem? (i := 1) rfl))) dX4_leadOver_18 ?_
        refine g_icmp_ne (tgt := 26) E dX4_leadOver_20 (by decide) (fun c_20 => ?_) (fun c_20 => ?_)
        · have l1 := hle a m hk10 hm
          have hF : ¬ d a m = FAR := fun q => c_20 (congrArg nI q)
          refine g_iconst (v := 0) E dX4_leadOver_26 (by decide) ?_
          refine g_istore (L' := [(4, .int (0)), (3, .int (nI (d a m))), (0, .ref (ad 4 w)), (1, .int (nI m)), (2, .int (nI a))]) E dX4_leadOver_27 (by decide) rfl ?_
          refine g_locals [(0, .ref (ad 4 w)), (1, .int (nI m)), (2, .int (nI a)), (3, .int (nI (d a m))), (4, .int (0))] [2, 3, 4, 1, 0] rfl ?_
          have loop_29 : ∀ (n_29 b : Nat) (S : wS) (r : Nat → Nat → Int32), (CI e0 S c ad i j p r) → (SM w r0 r) → (TW w (mixd d (fwS m d) a b) r) → b ≤ 10 → 10 < n_29 + b → G C (cW (xy C) S) 0 0 29 [(0, .ref (ad 4 w)), (1, .int (nI m)), (2, .int (nI a)), (3, .int (nI (d a m))), (4, .int (nI b))] [] := by
            intro n_29
            induction n_29 with
            | zero => intro b S r hI hM hTw g1 g2; exact absurd g2 (by omega)
            | succ n_29 ih_29 =>
              intro b S r hI hM hTw h1_29 h2_29
              have hc := hI.cnt
              refine g_iload E dX4_leadOver_29 4 rfl ?_
              refine g_bipush (v := 10) E dX4_leadOver_31 (by decide) ?_
              refine g_icmp_ge (tgt := 80) E dX4_leadOver_33 (by decide) (fun c_33 => ?_) (fun c_33 => ?_)
              · have e_b : b = 10 := Nat.le_antisymm h1_29 (nI_ge_nat (b := 10) (by decide) (by omega) c_33)
                refine g_iinc (v := nI (a + 1)) (L' := [(2, .int (nI (a + 1))), (0, .ref (ad 4 w)), (1, .int (nI m)), (3, .int (nI (d a m))), (4, .int (nI b))]) E dX4_leadOver_80 2 rfl (nI_1 a) (by decide) rfl ?_
                refine g_goto (tgt := 2) E dX4_leadOver_83 (by decide) ?_
                refine g_locals [(0, .ref (ad 4 w)), (1, .int (nI m)), (2, .int (nI (a + 1)))] [1, 2, 0] rfl ?_
                refine g_L (L' := [(0, .ref (ad 4 w)), (1, .int (nI m)), (2, .int (nI (a + 1)))]) (by rfl) (ih_2 (a + 1) (S) (r) (hI) (hM) (hTw.cg (fun x y hx hy => by rw [e_b]; exact mixd_row d _ a hy)) (by omega) (by omega))
              · have hb10 : b < 10 := nI_nge_nat (b := 10) (by decide) (by omega) c_33
                refine g_iload_n E dX4_leadOver_36 rfl 3 rfl ?_
                refine g_aload_n E dX4_leadOver_37 rfl 0 rfl ?_
                refine q_get_Ways_shortest E hI (hI.c4 hw) (fun _ h => (List.mem_cons_of_mem _ (List.mem_append_right _ h))) (List.mem_cons_of_mem _ (List.mem_append_left _ (List.mem_of_getElem? (i := 0) rfl))) dX4_leadOver_38 ?_
                refine g_iload_n E dX4_leadOver_41 rfl 1 rfl ?_
                refine q_row E hI (k := w) (by omega) m rfl (by first | omega | (rw [alen_w (by omega) (by omega)]; omega) | (rw [alen_s]; omega) | (show _ < 24; omega) | (show _ < 6; omega)) dX4_leadOver_42 ?_
                refine g_iload E dX4_leadOver_43 4 rfl ?_
                refine q_iald E hI (hI.c7 (by omega)) b rfl (by first | omega | (rw [alen_w (by omega) (by omega)]; omega) | (rw [alen_s]; omega) | (show _ < 24; omega) | (show _ < 6; omega)) dX4_leadOver_45 ?_
                have e_m : r (4 + 10 * w + m) b = nI (d m b) := by rw [hTw m b hm hb10, mixd_mid hd]
                rw [e_m]
                show G C (cW (xy C) S) 0 0 46 [(0, .ref (ad 4 w)), (1, .int (nI m)), (2, .int (nI a)), (3, .int (nI (d a m))), (4, .int (nI b))] [.int (nI (d m b)), .int (nI (d a m))]
                refine g_iadd E dX4_leadOver_46 ?_
                rw [nI_add]
                show G C (cW (xy C) S) 0 0 47 [(0, .ref (ad 4 w)), (1, .int (nI m)), (2, .int (nI a)), (3, .int (nI (d a m))), (4, .int (nI b))] [.int (nI (d a m + d m b))]
                refine g_istore (L' := [(5, .int (nI (d a m + d m b))), (0, .ref (ad 4 w)), (1, .int (nI m)), (2, .int (nI a)), (3, .int (nI (d a m))), (4, .int (nI b))]) E dX4_leadOver_47 (by decide) rfl ?_
                refine g_iload E dX4_leadOver_49 0 rfl ?_
                refine g_aload_n E dX4_leadOver_51 rfl 1 rfl ?_
                refine q_get_Ways_shortest E hI (hI.c4 hw) (fun _ h => (List.mem_cons_of_mem _ (List.mem_append_right _ h))) (List.mem_cons_of_mem _ (List.mem_append_left _ (List.mem_of_getElem? (i := 0) rfl))) dX4_leadOver_52 ?_
                refine g_iload_n E dX4_leadOver_55 rfl 3 rfl ?_
                refine q_row E hI (k := w) (by omega) a rfl (by first | omega | (rw [alen_w (by omega) (by omega)]; omega) | (rw [alen_s]; omega) | (show _ < 24; omega) | (show _ < 6; omega)) dX4_leadOver_56 ?_
                refine g_iload E dX4_leadOver_57 5 rfl ?_
                refine q_iald E hI (hI.c7 (by omega)) b rfl (by first | omega | (rw [alen_w (by omega) (by omega)]; omega) | (rw [alen_s]; omega) | (show _ < 24; omega) | (show _ < 6; omega)) dX4_leadOver_59 ?_
                have e_b2 : r (4 + 10 * w + a) b = nI (d a b) := by rw [hTw a b hk10 hb10, mixd_at d _ a b b (Nat.le_refl b)]
                rw [e_b2]
                show G C (cW (xy C) S) 0 0 60 [(5, .int (nI (d a m + d m b))), (0, .ref (ad 4 w)), (1, .int (nI m)), (2, .int (nI a)), (3, .int (nI (d a m))), (4, .int (nI b))] [.int (nI (d a b)), .int (nI (d a m + d m b))]
                refine g_icmp_ge (tgt := 74) E dX4_leadOver_60 (by decide) (fun c_60 => ?_) (fun c_60 => ?_)
                · refine g_iinc (v := nI (b + 1)) (L' := [(4, .int (nI (b + 1))), (5, .int (nI (d a m + d m b))), (0, .ref (ad 4 w)), (1, .int (nI m)), (2, .int (nI a)), (3, .int (nI (d a m)))]) E dX4_leadOver_74 5 rfl (nI_1 b) (by decide) rfl ?_
                  refine g_goto (tgt := 29) E dX4_leadOver_77 (by decide) ?_
                  refine g_locals [(0, .ref (ad 4 w)), (1, .int (nI m)), (2, .int (nI a)), (3, .int (nI (d a m))), (4, .int (nI (b + 1)))] [2, 3, 4, 5, 0] rfl ?_
                  have l1 := hle a m hk10 hm
                  have l2 := hle m b hm hb10
                  have l3 := hle a b hk10 hb10
                  unfold FAR at l1 l2 l3
                  have l4 : d a b ≤ d a m + d m b := nI_ge_nat (by omega) (by omega) c_60
                  refine g_L (L' := [(0, .ref (ad 4 w)), (1, .int (nI m)), (2, .int (nI a)), (3, .int (nI (d a m))), (4, .int (nI (b + 1)))]) (by rfl) (ih_29 (b + 1) (S) (r) (hI) (hM) (by rw [mixd_keep (show fwS m d a b = d a b from if_neg (by omega))]; exact hTw) (by omega) (by omega))
                · refine g_aload_n E dX4_leadOver_63 rfl 1 rfl ?_
                  refine q_get_Ways_shortest E hI (hI.c4 hw) (fun _ h => (List.mem_cons_of_mem _ (List.mem_append_right _ h))) (List.mem_cons_of_mem _ (List.mem_append_left _ (List.mem_of_getElem? (i := 0) rfl))) dX4_leadOver_64 ?_
                  refine g_iload_n E dX4_leadOver_67 rfl 3 rfl ?_
                  refine q_row E hI (k := w) (by omega) a rfl (by first | omega | (rw [alen_w (by omega) (by omega)]; omega) | (rw [alen_s]; omega) | (show _ < 24; omega) | (show _ < 6; omega)) dX4_leadOver_68 ?_
                  refine g_iload E dX4_leadOver_69 5 rfl ?_
                  refine g_iload E dX4_leadOver_71 0 rfl ?_
                  refine q_iast E hI (hI.c7 (by omega)) b rfl (by first | omega | (rw [alen_w (by omega) (by omega)]; omega) | (rw [alen_s]; omega) | (show _ < 24; omega) | (show _ < 6; omega)) dX4_leadOver_73 (fun S hI => ?_)
                  refine g_iinc (v := nI (b + 1)) (L' := [(4, .int (nI (b + 1))), (5, .int (nI (d a m + d m b))), (0, .ref (ad 4 w)), (1, .int (nI m)), (2, .int (nI a)), (3, .int (nI (d a m)))]) E dX4_leadOver_74 5 rfl (nI_1 b) (by decide) rfl ?_
                  refine g_goto (tgt := 29) E dX4_leadOver_77 (by decide) ?_
                  refine g_locals [(0, .ref (ad 4 w)), (1, .int (nI m)), (2, .int (nI a)), (3, .int (nI (d a m))), (4, .int (nI (b + 1)))] [2, 3, 4, 5, 0] rfl ?_
                  have l1 := hle a m hk10 hm
                  have l2 := hle m b hm hb10
                  have l3 := hle a b hk10 hb10
                  unfold FAR at l1 l2 l3
                  have l4 : d a m + d m b < d a b := nI_ltn (by omega) (by omega) c_60
                  refine g_L (L' := [(0, .ref (ad 4 w)), (1, .int (nI m)), (2, .int (nI a)), (3, .int (nI (d a m))), (4, .int (nI (b + 1)))]) (by rfl) (ih_29 (b + 1) (_) (_) (hI) (hM.put hk10) (by rw [mixd_put, show fwS m d a b = d a m + d m b from if_pos l4]; exact hTw.put) (by omega) (by omega))
          exact loop_29 (10 + 1) 0 (_) (_) (hI) (hM) (hTw) (by omega) (by omega)
        · have l1 := hle a m hk10 hm
          have hF : d a m = FAR := nI_inj (by unfold FAR at l1; omega) (by decide) c_20
          refine g_goto (tgt := 80) E dX4_leadOver_23 (by decide) ?_
          refine g_iinc (v := nI (a + 1)) (L' := [(2, .int (nI (a + 1))), (3, .int (nI (d a m))), (0, .ref (ad 4 w)), (1, .int (nI m))]) E dX4_leadOver_80 3 rfl (nI_1 a) (by decide) rfl ?_
          refine g_goto (tgt := 2) E dX4_leadOver_83 (by decide) ?_
          refine g_locals [(0, .ref (ad 4 w)), (1, .int (nI m)), (2, .int (nI (a + 1)))] [2, 3, 0] rfl ?_
          refine g_L (L' := [(0, .ref (ad 4 w)), (1, .int (nI m)), (2, .int (nI (a + 1)))]) (by rfl) (ih_2 (a + 1) (S) (r) (hI) (hM) (hTw.cg (fun x y hx hy => by rw [← mixd_row d _ a hy]; exact mixd_skip hle hk10 hF x y hx hy)) (by omega) (by omega))
  exact loop_2 (10 + 1) 0 (_) (_) (hI) (hr0 ▸ SM.rf) (by rw [mixd_0]; exact hTw) (by omega) (by omega)
