theorem g_ldcw {C : gT} {cc : ByteArray} {nL : Nat} {Ts : List Cond} {own : String} {e0 : Nat} {rm : Room} {ws : va_W} {mc ms pc : Nat} {L : List (Nat × Value)} {st : List Value} (E : gOk C cc nL Ts own e0 rm) {ix : Nat} {v : Int32} (hc : Cond.constant own ix v ∈ Ts) (d : decode cc pc = .ok (.ldc_w ix, 3)) (kk : G C ws mc ms (pc + 3) L (.int v :: st)) : G C ws mc ms pc L st := fun H locs ls hP hD hS hL => lv_ldcw E.exec E.code E.ow (E.ts _ hc) d (kk H locs ls hP hD hS hL)
/-! hours -/
def nwI (i : Nat → Nat → Int32) (n : Nat) : Nat → Nat → Int32 := up2 i 18 0 (i 18 0 + nI n)
theorem nwI_0 {i : Nat → Nat → Int32} : nwI i 0 = i := by
  funext f k
  unfold nwI up2
  by_cases e : f = 18 ∧ k = 0
  · rw [if_pos e, nI_0, Int32.add_zero, e.1, e.2]
  · exact if_neg e
theorem nwI_now {i : Nat → Nat → Int32} {n : Nat} : nwI i n 18 0 = i 18 0 + nI n := up2_self _ _ _ _
theorem nwI_s {i : Nat → Nat → Int32} {n : Nat} : up2 (nwI i n) 18 0 (nwI i n 18 0 + 1) = nwI i (n + 1) := by
  funext f k
  by_cases e : f = 18 ∧ k = 0
  · obtain ⟨rfl, rfl⟩ := e
    rw [up2_self, nwI_now, nwI_now, nI_succ, Int32.add_assoc]
  · have e1 : ∀ v, up2 (nwI i n) 18 0 v f k = nwI i n f k := fun v => if_neg e
    rw [e1]
    unfold nwI
    exact (if_neg e).trans (if_neg e).symm
theorem nwI_o {i : Nat → Nat → Int32} {n f : Nat} (h : f ≠ 18) : nwI i n f = i f := up2_nf h
noncomputable def hrS (i : Nat → Nat → Int32) (p : Nat → Nat → Option Nat) (n2 : Nat) (s : (Nat → Nat → Int64) × (Nat → Nat → Int32)) : Nat → (Nat → Nat → Int64) × (Nat → Nat → Int32)
  | 0 => s
  | n + 1 => (phJ (nwI i n) (hrS i p n2 s n).1 p n2, phE (nwI i n) (hrS i p n2 s n).1 p (hrS i p n2 s n).2 (nwI i n 18 0 + 1) n2)
def ptR (r : Nat → Nat → Int32) (bl : Int32) (n : Nat) : Nat → Nat → Int32 := fun k a => if k = 3 ∧ a < n then r k a + ((bl >>> (nI a &&& 31)) &&& 1) else r k a
theorem ptR_0 {r : Nat → Nat → Int32} {bl : Int32} : ptR r bl 0 = r := by funext k a; exact if_neg (by omega)
theorem ptR_at {r : Nat → Nat → Int32} {bl : Int32} {n : Nat} : ptR r bl n 3 n = r 3 n := if_neg (by omega)
theorem ptR_s {r : Nat → Nat → Int32} {bl : Int32} {n : Nat} : up2 (ptR r bl n) 3 n (r 3 n + ((bl >>> (nI n &&& 31)) &&& 1)) = ptR r bl (n + 1) := by
  funext k a
  by_cases e : k = 3 ∧ a = n
  · obtain ⟨rfl, rfl⟩ := e
    rw [up2_self]
    exact (if_pos ⟨rfl, Nat.lt_succ_self _⟩).symm
  · have e1 : ∀ v, up2 (ptR r bl n) 3 n v k a = ptR r bl n k a := fun v => if_neg e
    rw [e1]
    unfold ptR
    by_cases g : k = 3 ∧ a < n
    · rw [if_pos g, if_pos ⟨g.1, by omega⟩]
    · rw [if_neg g, if_neg (fun z => g ⟨z.1, by have := z.2; by_cases q : a = n; exact absurd ⟨z.1, q⟩ e; omega⟩)]
/-- bits of an int, as the library counts them -/
def bdA (x : Int32) : Int32 := x - ((x.toUInt32 >>> ((1 : Int32).toUInt32 &&& Int32.toUInt32 31)).toInt32 &&& 1431655765)
def bdB (x : Int32) : Int32 := (x &&& 858993459) + ((x.toUInt32 >>> ((2 : Int32).toUInt32 &&& Int32.toUInt32 31)).toInt32 &&& 858993459)
def bdC (x : Int32) : Int32 := (x + (x.toUInt32 >>> ((4 : Int32).toUInt32 &&& Int32.toUInt32 31)).toInt32) &&& 252645135
def bdD (s x : Int32) : Int32 := x + (x.toUInt32 >>> (s.toUInt32 &&& Int32.toUInt32 31)).toInt32
def bdI (x : Int32) : Int32 := bdD 16 (bdD 8 (bdC (bdB (bdA x)))) &&& 63
/-- the applicants that are to blame, as bits -/
noncomputable def blM (i r : Nat → Nat → Int32) (M ln n2 : Nat) (n : Nat) : Int32 := orM (fun k => i 11 k = 2 ∧ exL i r (clM (fun k => i 11 k) (fun k => i 7 k) (some k) n2) M ln < exL i r (clM (fun k => i 11 k) (fun k => i 7 k) none n2) M ln) (i 6) n
theorem SC.i6 {i r i' r' : Nat → Nat → Int32} (h : SC i r i' r') {k : Nat} : i' 6 k = i 6 k := congrFun (h.1 6 (by decide) (by decide)) k
abbrev rm_J6_bitCount_0f7a4 : Room := { frames := 0, cells := 0, slots := 0, locals := 0 }
set_option maxHeartbeats 4000000 in
set_option maxRecDepth 100000 in
theorem m_J6_bitCount_0f7a4 (l : Launch) (hl : l.stackTraces = false) (D : va_G) (cy : Nat → ClassId) (e0 : Nat) {S : wS}  {x : Int32} : cMet l yJ6_bitCount_0f7a4 wsJ6_bitCount_0f7a4 rm_J6_bitCount_0f7a4 D cy e0 [.int (x)] S (fun v S' => v = some (.int (bdI x)) ∧ S' = S) (fun _ _ => False) 0 0 := by
  refine gMet.of (cc := cJ6_bitCount_0f7a4) (maxL := 1) (ret := (some .int)) hl (by decide) rfl (Nat.le_of_ble_eq_true rfl) ?_
  intro C E h1 h2 h3 hr hnm hT hE
  subst h1; subst h2; subst h3
  have E : gOk C cJ6_bitCount_0f7a4 1 wsJ6_bitCount_0f7a4 RJ6 e0 rm_J6_bitCount_0f7a4 := E
  show G C (cW (xy C) S) 0 0 0 [(0, .int (x))] []
  refine g_iload_n E dJ6_bitCount_0f7a4_0 rfl 0 rfl ?_
  refine g_iload_n E dJ6_bitCount_0f7a4_1 rfl 0 rfl ?_
  refine g_iconst (v := 1) E dJ6_bitCount_0f7a4_2 (by decide) ?_
  refine g_iushr E dJ6_bitCount_0f7a4_3 rfl ?_
  refine g_ldcw E (List.mem_cons_of_mem _ (List.mem_of_getElem? (i := 0) rfl)) dJ6_bitCount_0f7a4_4 ?_
  refine g_iand E dJ6_bitCount_0f7a4_7 ?_
  refine g_isub E dJ6_bitCount_0f7a4_8 ?_
  refine g_istore_n (L' := [(0, .int ((x - (((x : Int32).toUInt32 >>> ((1 : Int32).toUInt32 &&& Int32.toUInt32 31)).toInt32 &&& (1431655765)))))]) E dJ6_bitCount_0f7a4_9 rfl (by decide) rfl ?_
  refine g_iload_n E dJ6_bitCount_0f7a4_10 rfl 0 rfl ?_
  refine g_ldcw E (List.mem_cons_of_mem _ (List.mem_of_getElem? (i := 1) rfl)) dJ6_bitCount_0f7a4_11 ?_
  refine g_iand E dJ6_bitCount_0f7a4_14 ?_
  refine g_iload_n E dJ6_bitCount_0f7a4_15 rfl 0 rfl ?_
  refine g_iconst (v := 2) E dJ6_bitCount_0f7a4_16 (by decide) ?_
  refine g_iushr E dJ6_bitCount_0f7a4_17 rfl ?_
  refine g_ldcw E (List.mem_cons_of_mem _ (List.mem_of_getElem? (i := 1) rfl)) dJ6_bitCount_0f7a4_18 ?_
  refine g_iand E dJ6_bitCount_0f7a4_21 ?_
  refine g_iadd E dJ6_bitCount_0f7a4_22 ?_
  refine g_istore_n (L' := [(0, .int ((((x - (((x : Int32).toUInt32 >>> ((1 : Int32).toUInt32 &&& Int32.toUInt32 31)).toInt32 &&& (1431655765))) &&& (858993459)) + ((((x - (((x : Int32).toUInt32 >>> ((1 : Int32).toUInt32 &&& Int32.toUInt32 31)).toInt32 &&& (1431655765))) : Int32).toUInt32 >>> ((2 : Int32).toUInt32 &&& Int32.toUInt32 31)).toInt32 &&& (858993459)))))]) E dJ6_bitCount_0f7a4_23 rfl (by decide) rfl ?_
  refine g_iload_n E dJ6_bitCount_0f7a4_24 rfl 0 rfl ?_
  refine g_iload_n E dJ6_bitCount_0f7a4_25 rfl 0 rfl ?_
  refine g_iconst (v := 4) E dJ6_bitCount_0f7a4_26 (by decide) ?_
  refine g_iushr E dJ6_bitCount_0f7a4_27 rfl ?_
  refine g_iadd E dJ6_bitCount_0f7a4_28 ?_
  refine g_ldcw E (List.mem_cons_of_mem _ (List.mem_of_getElem? (i := 2) rfl)) dJ6_bitCount_0f7a4_29 ?_
  refine g_iand E dJ6_bitCount_0f7a4_32 ?_
  refine g_istore_n (L' := [(0, .int ((((((x - (((x : Int32).toUInt32 >>> ((1 : Int32).toUInt32 &&& Int32.toUInt32 31)).toInt32 &&& (1431655765))) &&& (858993459)) + ((((x - (((x : Int32).toUInt32 >>> ((1 : Int32).toUInt32 &&& Int32.toUInt32 31)).toInt32 &&& (1431655765))) : Int32).toUInt32 >>> ((2 : Int32).toUInt32 &&& Int32.toUInt32 31)).toInt32 &&& (858993459))) + (((((x - (((x : Int32).toUInt32 >>> ((1 : Int32).toUInt32 &&& Int32.toUInt32 31)).toInt32 &&& (1431655765))) &&& (858993459)) + ((((x - (((x : Int32).toUInt32 >>> ((1 : Int32).toUInt32 &&& Int32.toUInt32 31)).toInt32 &&& (1431655765))) : Int32).toUInt32 >>> ((2 : Int32).toUInt32 &&& Int32.toUInt32 31)).toInt32 &&& (858993459))) : Int32).toUInt32 >>> ((4 : Int32).toUInt32 &&& Int32.toUInt32 31)).toInt32) &&& (252645135))))]) E dJ6_bitCount_0f7a4_33 rfl (by decide) rfl ?_
  refine g_iload_n E dJ6_bitCount_0f7a4_34 rfl 0 rfl ?_
  refine g_iload_n E dJ6_bitCount_0f7a4_35 rfl 0 rfl ?_
  refine g_bipush (v := 8) E dJ6_bitCount_0f7a4_36 (by decide) ?_
  refine g_iushr E dJ6_bitCount_0f7a4_38 rfl ?_
  refine g_iadd E dJ6_bitCount_0f7a4_39 ?_
  refine g_istore_n (L' := [(0, .int (((((((x - (((x : Int32).toUInt32 >>> ((1 : Int32).toUInt32 &&& Int32.toUInt32 31)).toInt32 &&& (1431655765))) &&& (858993459)) + ((((x - (((x : Int32).toUInt32 >>> ((1 : Int32).toUInt32 &&& Int32.toUInt32 31)).toInt32 &&& (1431655765))) : Int32).toUInt32 >>> ((2 : Int32).toUInt32 &&& Int32.toUInt32 31)).toInt32 &&& (858993459))) + (((((x - (((x : Int32).toUInt32 >>> ((1 : Int32).toUInt32 &&& Int32.toUInt32 31)).toInt32 &&& (1431655765))) &&& (858993459)) + ((((x - (((x : Int32).toUInt32 >>> ((1 : Int32).toUInt32 &&& Int32.toUInt32 31)).toInt32 &&& (1431655765))) : Int32).toUInt32 >>> ((2 : Int32).toUInt32 &&& Int32.toUInt32 31)).toInt32 &&& (858993459))) : Int32).toUInt32 >>> ((4 : Int32).toUInt32 &&& Int32.toUInt32 31)).toInt32) &&& (252645135)) + (((((((x - (((x : Int32).toUInt32 >>> ((1 : Int32).toUInt32 &&& Int32.toUInt32 31)).toInt32 &&& (1431655765))) &&& (858993459)) + ((((x - (((x : Int32).toUInt32 >>> ((1 : Int32).toUInt32 &&& Int32.toUInt32 31)).toInt32 &&& (1431655765))) : Int32).toUInt32 >>> ((2 : Int32).toUInt32 &&& Int32.toUInt32 31)).toInt32 &&& (858993459))) + (((((x - (((x : Int32).toUInt32 >>> ((1 : Int32).toUInt32 &&& Int32.toUInt32 31)).toInt32 &&& (1431655765))) &&& (858993459)) + ((((x - (((x : Int32).toUInt32 >>> ((1 : Int32).toUInt32 &&& Int32.toUInt32 31)).toInt32 &&& (1431655765))) : Int32).toUInt32 >>> ((2 : Int32).toUInt32 &&& Int32.toUInt32 31)).toInt32 &&& (858993459))) : Int32).toUInt32 >>> ((4 : Int32).toUInt32 &&& Int32.toUInt32 31)).toInt32) &&& (252645135)) : Int32).toUInt32 >>> ((8 : Int32).toUInt32 &&& Int32.toUInt32 31)).toInt32)))]) E dJ6_bitCount_0f7a4_40 rfl (by decide) rfl ?_
  refine g_iload_n E dJ6_bitCount_0f7a4_41 rfl 0 rfl ?_
  refine g_iload_n E dJ6_bitCount_0f7a4_42 rfl 0 rfl ?_
  refine g_bipush (v := 16) E dJ6_bitCount_0f7a4_43 (by decide) ?_
  refine g_iushr E dJ6_bitCount_0f7a4_45 rfl ?_
  refine g_iadd E dJ6_bitCount_0f7a4_46 ?_
  refine g_istore_n (L' := [(0, .int ((((((((x - (((x : Int32).toUInt32 >>> ((1 : Int32).toUInt32 &&& Int32.toUInt32 31)).toInt32 &&& (1431655765))) &&& (858993459)) + ((((x - (((x : Int32).toUInt32 >>> ((1 : Int32).toUInt32 &&& Int32.toUInt32 31)).toInt32 &&& (1431655765))) : Int32).toUInt32 >>> ((2 : Int32).toUInt32 &&& Int32.toUInt32 31)).toInt32 &&& (858993459))) + (((((x - (((x : Int32).toUInt32 >>> ((1 : Int32).toUInt32 &&& Int32.toUInt32 31)).toInt32 &&& (1431655765))) &&& (858993459)) + ((((x - (((x : Int32).toUInt32 >>> ((1 : Int32).toUInt32 &&& Int32.toUInt32 31)).toInt32 &&& (1431655765))) : Int32).toUInt32 >>> ((2 : Int32).toUInt32 &&& Int32.toUInt32 31)).toInt32 &&& (858993459))) : Int32).toUInt32 >>> ((4 : Int32).toUInt32 &&& Int32.toUInt32 31)).toInt32) &&& (252645135)) + (((((((x - (((x : Int32).toUInt32 >>> ((1 : Int32).toUInt32 &&& Int32.toUInt32 31)).toInt32 &&& (1431655765))) &&& (858993459)) + ((((x - (((x : Int32).toUInt32 >>> ((1 : Int32).toUInt32 &&& Int32.toUInt32 31)).toInt32 &&& (1431655765))) : Int32).toUInt32 >>> ((2 : Int32).toUInt32 &&& Int32.toUInt32 31)).toInt32 &&& (858993459))) + (((((x - (((x : Int32).toUInt32 >>> ((1 : Int32).toUInt32 &&& Int32.toUInt32 31)).toInt32 &&& (1431655765))) &&& (858993459)) + ((((x - (((x : Int32).toUInt32 >>> ((1 : Int32).toUInt32 &&& Int32.toUInt32 31)).toInt32 &&& (1431655765))) : Int32).toUInt32 >>> ((2 : Int32).toUInt32 &&& Int32.toUInt32 31)).toInt32 &&& (858993459))) : Int32).toUInt32 >>> ((4 : Int32).toUInt32 &&& Int32.toUInt32 31)).toInt32) &&& (252645135)) : Int32).toUInt32 >>> ((8 : Int32).toUInt32 &&& Int32.toUInt32 31)).toInt32) + ((((((((x - (((x : Int32).toUInt32 >>> ((1 : Int32).toUInt32 &&& Int32.toUInt32 31)).toInt32 &&& (1431655765))) &&& (858993459)) + ((((x - (((x : Int32).toUInt32 >>> ((1 : Int32).toUInt32 &&& Int32.toUInt32 31)).toInt32 &&& (1431655765))) : Int32).toUInt32 >>> ((2 : Int32).toUInt32 &&& Int32.toUInt32 31)).toInt32 &&& (858993459))) + (((((x - (((x : Int32).toUInt32 >>> ((1 : Int32).toUInt32 &&& Int32.toUInt32 31)).toInt32 &&& (1431655765))) &&& (858993459)) + ((((x - (((x : Int32).toUInt32 >>> ((1 : Int32).toUInt32 &&& Int32.toUInt32 31)).toInt32 &&& (1431655765))) : Int32).toUInt32 >>> ((2 : Int32).toUInt32 &&& Int32.toUInt32 31)).toInt32 &&& (858993459))) : Int32).toUInt32 >>> ((4 : Int32).toUInt32 &&& Int32.toUInt32 31)).toInt32) &&& (252645135)) + (((((((x - (((x : Int32).toUInt32 >>> ((1 : Int32).toUInt32 &&& Int32.toUInt32 31)).toInt32 &&& (1431655765))) &&& (858993459)) + ((((x - (((x : Int32).toUInt32 >>> ((1 : Int32).toUInt32 &&& Int32.toUInt32 31)).toInt32 &&& (1431655765))) : Int32).toUInt32 >>> ((2 : Int32).toUInt32 &&& Int32.toUInt32 31)).toInt32 &&& (858993459))) + (((((x - (((x : Int32).toUInt32 >>> ((1 : Int32).toUInt32 &&& Int32.toUInt32 31)).toInt32 &&& (1431655765))) &&& (858993459)) + ((((x - (((x : Int32).toUInt32 >>> ((1 : Int32).toUInt32 &&& Int32.toUInt32 31)).toInt32 &&& (1431655765))) : Int32).toUInt32 >>> ((2 : Int32).toUInt32 &&& Int32.toUInt32 31)).toInt32 &&& (858993459))) : Int32).toUInt32 >>> ((4 : Int32).toUInt32 &&& Int32.toUInt32 31)).toInt32) &&& (252645135)) : Int32).toUInt32 >>> ((8 : Int32).toUInt32 &&& Int32.toUInt32 31)).toInt32) : Int32).toUInt32 >>> ((16 : Int32).toUInt32 &&& Int32.toUInt32 31)).toInt32)))]) E dJ6_bitCount_0f7a4_47 rfl (by decide) rfl ?_
  refine g_iload_n E dJ6_bitCount_0f7a4_48 rfl 0 rfl ?_
  refine g_bipush (v := 63) E dJ6_bitCount_0f7a4_49 (by decide) ?_
  refine g_iand E dJ6_bitCount_0f7a4_51 ?_
  exact g_iret E hE hr dJ6_bitCount_0f7a4_52 (Nat.le_of_ble_eq_true rfl) (Nat.le_of_ble_eq_true rfl) ⟨S, rfl, rfl, rfl⟩
abbrev rm_X5_complain : Room := { frames := 7, cells := 1, slots := 6, locals := 121 }
set_option maxHeartbeats 4000000 in
set_option maxRecDepth 100000 in
theorem m_X5_complain (l : Launch) (hl : l.stackTraces = false) (D : va_G) (cy : Nat → ClassId) (e0 : Nat) {S : wS} {c : Nat → Nat} {ad : Nat → Nat → Nat} {i : Nat → Nat → Int32} {j : Nat → Nat → Int64} {p : Nat → Nat → Option Nat} {r : Nat → Nat → Int32} (hI : CI e0 S c ad i j p r) {x : Int32} {M : Nat} (hm : i 15 0 = nI M) (hm2 : M ≤ 24) (hln : LNS r M) (hV : WV i r M) (hLI : LI i r (c 0)) : cMet l yX5_complain wsX5_complain rm_X5_complain D cy e0 [.ref (ad 5 0), .int (x)] S (fun v S' => ∃ k, k < c 0 ∧ x = nI k ∧ ∃ i' r', CI e0 S' c ad i' j p (ptR r' (blM i r M k (c 2) (c 2)) 6) ∧ SC i r i' r' ∧ WV i' r' M ∧ v = some (.int (bdI (blM i r M k (c 2) (c 2))))) (fun X S' => X = "java/lang/IndexOutOfBoundsException" ∧ (∀ k, k < c 0 → x ≠ nI k) ∧ S' = S) 1 6 := by
  refine gMet.of (cc := cX5_complain) (maxL := 7) (ret := (some .int)) hl (by decide) rfl (Nat.le_of_ble_eq_true rfl) ?_
  intro C E h1 h2 h3 hr hnm hT hE
  subst h1; subst h2; subst h3
  have E : gOk C cX5_complain 7 wsX5_complain RX5 e0 rm_X5_complain := E
  show G C (cW (xy C) S) 0 0 0 [(0, .ref (ad 5 0)), (1, .int (x))] []
  have hc := hI.cnt
  have hr0 : ∃ r0, r0 = r := ⟨r, rfl⟩
  obtain ⟨r0, hr0⟩ := hr0
  have hi0 : ∃ i0, i0 = i := ⟨i, rfl⟩
  obtain ⟨i0, hi0⟩ := hi0
  have hS : SC i0 r0 i r := by rw [hi0, hr0]; exact SC.rf
  rw [← hr0, ← hi0] at hE hLI
  rw [← hi0] at hm
  rw [← hr0] at hln
  refine g_aload_n E dX5_complain_0 rfl 0 rfl ?_
  refine g_iload_n E dX5_complain_1 rfl 1 rfl ?_
  refine c_invV (n := 1) (rest := []) E (m_X5_lineOf (xl C) E.tr (xD C) (xy C) e0 hI) (hI.obj (kd := 5) (k := 0) (by omega) hI.c5).1 gX5_complain_X5_lineOf rfl rfl rfl (by decide +kernel) ⟨Nat.le_of_ble_eq_true rfl, Nat.le_of_ble_eq_true rfl⟩ (wF_PW (hI.obj (kd := 5) (k := 0) (by omega) hI.c5).2) rfl rfl rfl rfl (Nat.le_of_ble_eq_true rfl) dX5_complain_2 ⟨Nat.le_of_ble_eq_true rfl, Nat.le_of_ble_eq_true rfl⟩ (fun X9 S9 h9 => by obtain ⟨hX9, hx9, hS9⟩ := h9; rw [hX9, hS9]; exact gx_out E hE hT (Nat.le_of_ble_eq_true rfl) (Nat.le_of_ble_eq_true rfl) ⟨S, rfl, ⟨rfl, hx9, rfl⟩⟩) (fun v9 S9_2 h9 => ?_)
  obtain ⟨hS9, k_2, hk_2, hx_2, hv9⟩ := h9
  rw [hv9, hS9]
  subst hx_2
  show G C (cW (xy C) S) 1 6 5 [(0, .ref (ad 5 0)), (1, .int (nI k_2))] [.ref (ad 0 k_2)]
  refine g_astore_n (L' := [(2, .ref (ad 0 k_2)), (0, .ref (ad 5 0)), (1, .int (nI k_2))]) E dX5_complain_5 rfl (by decide) rfl ?_
  refine g_aload_n E dX5_complain_6 rfl 0 rfl ?_
  refine g_aload_n E dX5_complain_7 rfl 1 rfl ?_
  refine q_get_PW_roads E hI (fun _ h => (List.mem_cons_of_mem _ (List.mem_append_left _ (List.mem_append_left _ (List.mem_append_left _ (List.mem_append_left _ (List.mem_append_left _ (List.mem_append_left _ (List.mem_append_right _ h))))))))) (List.mem_cons_of_mem _ (List.mem_append_left _ (List.mem_append_left _ (List.mem_append_left _ (List.mem_append_left _ (List.mem_append_left _ (List.mem_append_left _ (List.mem_append_left _ (List.mem_append_left _ (List.mem_of_getElem? (i := 0) rfl)))))))))) dX5_complain_8 ?_
  refine g_aload_n E dX5_complain_11 rfl 1 rfl ?_
  refine c_invV (n := 0) (rest := [.ref (ad 3 0), .ref (ad 0 k_2)]) E (m_X5_closedNow (xl C) E.tr (xD C) (xy C) e0 hI) (hI.obj (kd := 5) (k := 0) (by omega) hI.c5).1 gX5_complain_X5_closedNow rfl rfl rfl (by decide +kernel) ⟨Nat.le_of_ble_eq_true rfl, Nat.le_of_ble_eq_true rfl⟩ (wF_PW (hI.obj (kd := 5) (k := 0) (by omega) hI.c5).2) rfl rfl rfl rfl (Nat.le_of_ble_eq_true rfl) dX5_complain_12 ⟨Nat.le_of_ble_eq_true rfl, Nat.le_of_ble_eq_true rfl⟩ (fun _ _ h9 => h9.elim) (fun v9 S9_12 h9 => ?_)
  obtain ⟨hv9, hS9⟩ := h9
  rw [hv9, hS9, hS.clM]
  show G C (cW (xy C) S) 1 6 15 [(2, .ref (ad 0 k_2)), (0, .ref (ad 5 0)), (1, .int (nI k_2))] [.int ((clM (fun k => i0 11 k) (fun k => i0 7 k) none (c 2))), .ref (ad 3 0), .ref (ad 0 k_2)]
  obtain ⟨n_15, hn2_15, hn_15, hst_15⟩ := hLI k_2 hk_2
  refine c_invV (n := 2) (rest := []) E (m_X0_extraMinutes (xl C) E.tr (xD C) (xy C) e0 (cl := (clM (fun k => i0 11 k) (fun k => i0 7 k) none (c 2))) hI hk_2 ((congrFun (hS.1 0 (by decide) (by decide)) _).trans hn_15) hn2_15 (hS.stp hst_15) ((congrFun (hS.1 15 (by decide) (by decide)) _).trans hm) hm2 (hS.lns hln) hV) (hI.obj (kd := 0) (k := k_2) (by omega) hk_2).1 gX5_complain_X0_extraMinutes rfl rfl rfl (by decide +kernel) ⟨Nat.le_of_ble_eq_true rfl, Nat.le_of_ble_eq_true rfl⟩ (wF_Line (hI.obj (kd := 0) (k := k_2) (by omega) hk_2).2) rfl rfl rfl rfl (Nat.le_of_ble_eq_true rfl) dX5_complain_15 ⟨Nat.le_of_ble_eq_true rfl, Nat.le_of_ble_eq_true rfl⟩ (fun _ _ h9 => h9.elim) (fun v9 S9_15 h9 => ?_)
  obtain ⟨i', r', hI, hS9, hV, hv9⟩ := h9
  rw [hv9, hS.exL hn_15 hn2_15]
  have hS := hS.tr hS9
  show G C (cW (xy C) S9_15) 1 6 18 [(2, .ref (ad 0 k_2)), (0, .ref (ad 5 0)), (1, .int (nI k_2))] [.int ((exL i0 r0 (clM (fun k => i0 11 k) (fun k => i0 7 k) none (c 2)) M k_2))]
  refine g_istore_n (L' := [(3, .int ((exL i0 r0 (clM (fun k => i0 11 k) (fun k => i0 7 k) none (c 2)) M k_2))), (2, .ref (ad 0 k_2)), (0, .ref (ad 5 0)), (1, .int (nI k_2))]) E dX5_complain_18 rfl (by decide) rfl ?_
  refine g_iconst (v := 0) E dX5_complain_19 (by decide) ?_
  refine g_istore (L' := [(4, .int (0)), (3, .int ((exL i0 r0 (clM (fun k => i0 11 k) (fun k => i0 7 k) none (c 2)) M k_2))), (2, .ref (ad 0 k_2)), (0, .ref (ad 5 0)), (1, .int (nI k_2))]) E dX5_complain_20 (by decide) rfl ?_
  refine g_iconst (v := 0) E dX5_complain_22 (by decide) ?_
  refine g_istore (L' := [(5, .int (0)), (4, .int (0)), (3, .int ((exL i0 r0 (clM (fun k => i0 11 k) (fun k => i0 7 k) none (c 2)) M k_2))), (2, .ref (ad 0 k_2)), (0, .ref (ad 5 0)), (1, .int (nI k_2))]) E dX5_complain_23 (by decide) rfl ?_
  refine g_locals [(0, .ref (ad 5 0)), (1, .int (nI k_2)), (2, .ref (ad 0 k_2)), (3, .int ((exL i0 r0 (clM (fun k => i0 11 k) (fun k => i0 7 k) none (c 2)) M k_2))), (4, .int (0)), (5, .int (0))] [4, 5, 3, 2, 1, 0] rfl ?_
  have loop_25 : ∀ (n_25 k : Nat) (S : wS) (i : Nat → Nat → Int32) (r : Nat → Nat → Int32), (CI e0 S c ad i j p r) → (SC i0 r0 i r) → (WV i r M) → k ≤ c 2 → c 2 < n_25 + k → G C (cW (xy C) S) 1 6 25 [(0, .ref (ad 5 0)), (1, .int (nI k_2)), (2, .ref (ad 0 k_2)), (3, .int ((exL i0 r0 (clM (fun k => i0 11 k) (fun k => i0 7 k) none (c 2)) M k_2))), (4, .int ((blM i0 r0 M k_2 (c 2) k))), (5, .int (nI k))] [] := by
    intro n_25
    induction n_25 with
    | zero => intro k S i r hI hS hV g1 g2; exact absurd g2 (by omega)
    | succ n_25 ih_25 =>
      intro k S i r hI hS hV h1_25 h2_25
      have hc := hI.cnt
      refine g_iload E dX5_complain_25 5 rfl ?_
      refine g_aload_n E dX5_complain_27 rfl 0 rfl ?_
      refine q_get_PW_permits E hI (fun _ h => (List.mem_cons_of_mem _ (List.mem_append_left _ (List.mem_append_left _ (List.mem_append_left _ (List.mem_append_left _ (List.mem_append_left _ (List.mem_append_left _ (List.mem_append_right _ h))))))))) (List.mem_cons_of_mem _ (List.mem_append_left _ (List.mem_append_left _ (List.mem_append_left _ (List.mem_append_left _ (List.mem_append_left _ (List.mem_append_left _ (List.mem_append_left _ (List.mem_append_left _ (List.mem_of_getElem? (i := 1) rfl)))))))))) dX5_complain_28 ?_
      refine c_invV (n := 0) (rest := [.int (nI k)]) E (m_Jx4a65c_size_8abf5 (xl C) E.tr (xD C) (xy C) e0 hI.lists.2.1) (hI.obj (kd := 6) (k := 1) (by omega) (by have := hI.cnt; omega)).1 gX5_complain_Jx4a65c_size_8abf5 rfl rfl rfl (by decide +kernel) ⟨Nat.le_of_ble_eq_true rfl, Nat.le_of_ble_eq_true rfl⟩ (wF_AL (hI.obj (kd := 6) (k := 1) (by omega) (by have := hI.cnt; omega)).2) rfl rfl rfl rfl (Nat.le_of_ble_eq_true rfl) dX5_complain_31 ⟨Nat.le_of_ble_eq_true rfl, Nat.le_of_ble_eq_true rfl⟩ (fun _ _ h9 => h9.elim) (fun v9 S9_31 h9 => ?_)
      obtain ⟨hv9, hS9⟩ := h9
      rw [hv9, hS9]
      show G C (cW (xy C) S) 1 6 34 [(0, .ref (ad 5 0)), (1, .int (nI k_2)), (2, .ref (ad 0 k_2)), (3, .int ((exL i0 r0 (clM (fun k => i0 11 k) (fun k => i0 7 k) none (c 2)) M k_2))), (4, .int ((blM i0 r0 M k_2 (c 2) k))), (5, .int (nI k))] [.int (nI (c 2)), .int (nI k)]
      refine g_icmp_ge (tgt := 96) E dX5_complain_34 (by decide) (fun c_34 => ?_) (fun c_34 => ?_)
      · have e_k : k = c 2 := Nat.le_antisymm h1_25 (nI_ge_nat (by omega) (by omega) c_34)
        refine g_iconst (v := 0) E dX5_complain_96 (by decide) ?_
        refine g_istore (L' := [(5, .int (0)), (0, .ref (ad 5 0)), (1, .int (nI k_2)), (2, .ref (ad 0 k_2)), (3, .int ((exL i0 r0 (clM (fun k => i0 11 k) (fun k => i0 7 k) none (c 2)) M k_2))), (4, .int ((blM i0 r0 M k_2 (c 2) k)))]) E dX5_complain_97 (by decide) rfl ?_
        refine g_locals [(0, .ref (ad 5 0)), (4, .int ((blM i0 r0 M k_2 (c 2) k))), (5, .int (0))] [1, 5, 0] rfl ?_
        have loop_99 : ∀ (n_99 a : Nat) (S : wS), (CI e0 S c ad i j p (ptR r (blM i0 r0 M k_2 (c 2) k) a)) → a ≤ 6 → 6 < n_99 + a → G C (cW (xy C) S) 1 6 99 [(0, .ref (ad 5 0)), (4, .int ((blM i0 r0 M k_2 (c 2) k))), (5, .int (nI a))] [] := by
          intro n_99
          induction n_99 with
          | zero => intro a S hI g1 g2; exact absurd g2 (by omega)
          | succ n_99 ih_99 =>
            intro a S hI h1_99 h2_99
            have hc := hI.cnt
            refine g_iload E dX5_complain_99 2 rfl ?_
            refine g_bipush (v := 6) E dX5_complain_101 (by decide) ?_
            refine g_icmp_ge (tgt := 129) E dX5_complain_103 (by decide) (fun c_103 => ?_) (fun c_103 => ?_)
            · have e_a : a = 6 := Nat.le_antisymm h1_99 (nI_ge_nat (b := 6) (by decide) (by omega) c_103)
              refine g_iload E dX5_complain_129 1 rfl ?_
              refine c_invS (n := 1) (rest := []) E (m_J6_bitCount_0f7a4 (xl C) E.tr (xD C) (xy C) e0 (S := S)) gX5_complain_J6_bitCount_0f7a4 rfl rfl rfl (by decide +kernel) ⟨Nat.le_of_ble_eq_true rfl, Nat.le_of_ble_eq_true rfl⟩ rfl rfl (Nat.le_of_ble_eq_true rfl) dX5_complain_131 ⟨Nat.le_of_ble_eq_true rfl, Nat.le_of_ble_eq_true rfl⟩ (fun _ _ h9 => h9.elim) (fun v9 S9_131 h9 => ?_)
              obtain ⟨hv9, hS9⟩ := h9
              rw [hv9, hS9]
              show G C (cW (xy C) S) 1 6 134 [(0, .ref (ad 5 0)), (4, .int ((blM i0 r0 M k_2 (c 2) k))), (5, .int (nI a))] [.int ((bdI ((blM i0 r0 M k_2 (c 2) k))))]
              exact g_iret E hE hr dX5_complain_134 (Nat.le_of_ble_eq_true rfl) (Nat.le_of_ble_eq_true rfl) ⟨S, rfl, k_2, hk_2, rfl, i, r, by rw [e_a, e_k] at hI; exact hI, hS, hV, by rw [e_k]⟩
            · have hk6 : a < 6 := nI_nge_nat (b := 6) (by decide) (by omega) c_103
              refine g_aload_n E dX5_complain_106 rfl 0 rfl ?_
              refine q_get_PW_points E hI (fun _ h => (List.mem_cons_of_mem _ (List.mem_append_left _ (List.mem_append_left _ (List.mem_append_left _ (List.mem_append_left _ (List.mem_append_left _ (List.mem_append_left _ (List.mem_append_right _ h))))))))) (List.mem_cons_of_mem _ (List.mem_append_left _ (List.mem_append_left _ (List.mem_append_left _ (List.mem_append_left _ (List.mem_append_left _ (List.mem_append_left _ (List.mem_append_left _ (List.mem_append_left _ (List.mem_of_getElem? (i := 3) rfl)))))))))) dX5_complain_107 ?_
              refine g_iload E dX5_complain_110 2 rfl ?_
              refine g_dup2_11 E dX5_complain_112 rfl rfl ?_
              refine q_iald E hI (hI.c7 (by omega)) a rfl (by first | omega | (rw [alen_w (by omega) (by omega)]; omega) | (rw [alen_s]; omega) | (show _ < 24; omega) | (show _ < 6; omega)) dX5_complain_113 ?_
              have e_r : (ptR r (blM i0 r0 M k_2 (c 2) k) a) 3 a = r 3 a := ptR_at
              rw [e_r]
              show G C (cW (xy C) S) 1 6 114 [(0, .ref (ad 5 0)), (4, .int ((blM i0 r0 M k_2 (c 2) k))), (5, .int (nI a))] [.int (r 3 a), .int (nI a), .ref (ad 7 3)]
              refine g_iload E dX5_complain_114 1 rfl ?_
              refine g_iload E dX5_complain_116 2 rfl ?_
              refine g_ishr E dX5_complain_118 ?_
              refine g_iconst (v := 1) E dX5_complain_119 (by decide) ?_
              refine g_iand E dX5_complain_120 ?_
              refine g_iadd E dX5_complain_121 ?_
              refine q_iast E hI (hI.c7 (by omega)) a rfl (by first | omega | (rw [alen_w (by omega) (by omega)]; omega) | (rw [alen_s]; omega) | (show _ < 24; omega) | (show _ < 6; omega)) dX5_complain_122 (fun S hI => ?_)
              refine g_iinc (v := nI (a + 1)) (L' := [(5, .int (nI (a + 1))), (0, .ref (ad 5 0)), (4, .int ((blM i0 r0 M k_2 (c 2) k)))]) E dX5_complain_123 2 rfl (nI_1 a) (by decide) rfl ?_
              refine g_goto (tgt := 99) E dX5_complain_126 (by decide) ?_
              refine g_locals [(0, .ref (ad 5 0)), (4, .int ((blM i0 r0 M k_2 (c 2) k))), (5, .int (nI (a + 1)))] [1, 2, 0] rfl ?_
              refine g_L (L' := [(0, .ref (ad 5 0)), (4, .int ((blM i0 r0 M k_2 (c 2) k))), (5, .int (nI (a + 1)))]) (by rfl) (ih_99 (a + 1) (_) (by rw [← ptR_s]; exact hI) (by omega) (by omega))
        exact loop_99 (6 + 1) 0 (_) (by rw [ptR_0]; exact hI) (by omega) (by omega)
      · have hk_k : k < c 2 := nI_nge_nat (by omega) (by omega) c_34
        refine g_aload_n E dX5_complain_37 rfl 0 rfl ?_
        refine q_get_PW_permits E hI (fun _ h => (List.mem_cons_of_mem _ (List.mem_append_left _ (List.mem_append_left _ (List.mem_append_left _ (List.mem_append_left _ (List.mem_append_left _ (List.mem_append_left _ (List.mem_append_right _ h))))))))) (List.mem_cons_of_mem _ (List.mem_append_left _ (List.mem_append_left _ (List.mem_append_left _ (List.mem_append_left _ (List.mem_append_left _ (List.mem_append_left _ (List.mem_append_left _ (List.mem_append_left _ (List.mem_of_getElem? (i := 1) rfl)))))))))) dX5_complain_38 ?_
        refine g_iload E dX5_complain_41 5 rfl ?_
        refine c_invV (n := 1) (rest := []) E (m_Jx4a65c_get_915e3 (xl C) E.tr (xD C) (xy C) e0 hI.lists.2.1 (k := k) hk_k) (hI.obj (kd := 6) (k := 1) (by omega) (by have := hI.cnt; omega)).1 gX5_complain_Jx4a65c_get_915e3 rfl rfl rfl (by decide +kernel) ⟨Nat.le_of_ble_eq_true rfl, Nat.le_of_ble_eq_true rfl⟩ (wF_AL (hI.obj (kd := 6) (k := 1) (by omega) (by have := hI.cnt; omega)).2) rfl rfl rfl rfl (Nat.le_of_ble_eq_true rfl) dX5_complain_43 ⟨Nat.le_of_ble_eq_true rfl, Nat.le_of_ble_eq_true rfl⟩ (fun _ _ h9 => h9.elim) (fun v9 S9_43 h9 => ?_)
        obtain ⟨hv9, hS9⟩ := h9
        rw [hv9, hS9]
        show G C (cW (xy C) S) 1 6 46 [(0, .ref (ad 5 0)), (1, .int (nI k_2)), (2, .ref (ad 0 k_2)), (3, .int ((exL i0 r0 (clM (fun k => i0 11 k) (fun k => i0 7 k) none (c 2)) M k_2))), (4, .int ((blM i0 r0 M k_2 (c 2) k))), (5, .int (nI k))] [.ref (ad 2 k)]
        refine p_cast E (List.mem_cons_of_mem _ (List.mem_append_left _ (List.mem_append_left _ (List.mem_append_left _ (List.mem_append_left _ (List.mem_append_left _ (List.mem_append_left _ (List.mem_append_left _ (List.mem_append_left _ (List.mem_of_getElem? (i := 2) rfl)))))))))) (hI.obj (kd := 2) (k := k) (by omega) hk_k).1 (wF_Permit (hI.obj (kd := 2) (k := k) (by omega) hk_k).2) rfl rfl dX5_complain_46 ?_
        refine g_astore (L' := [(6, .ref (ad 2 k)), (0, .ref (ad 5 0)), (1, .int (nI k_2)), (2, .ref (ad 0 k_2)), (3, .int ((exL i0 r0 (clM (fun k => i0 11 k) (fun k => i0 7 k) none (c 2)) M k_2))), (4, .int ((blM i0 r0 M k_2 (c 2) k))), (5, .int (nI k))]) E dX5_complain_49 (by decide) rfl ?_
        refine g_aload E dX5_complain_51 0 rfl ?_
        refine q_getN_Permit_state E hI hk_k (fun _ h => (List.mem_cons_of_mem _ (List.mem_append_left _ (List.mem_append_left _ (List.mem_append_left _ (List.mem_append_left _ (List.mem_append_left _ (List.mem_append_right _ h)))))))) tbF_RX5_146 dX5_complain_53 ?_
        rw [show i 11 k = i0 11 k by rw [hS.1 11 (by decide) (by decide)]]
        show G C (cW (xy C) S) 1 6 56 [(6, .ref (ad 2 k)), (0, .ref (ad 5 0)), (1, .int (nI k_2)), (2, .ref (ad 0 k_2)), (3, .int ((exL i0 r0 (clM (fun k => i0 11 k) (fun k => i0 7 k) none (c 2)) M k_2))), (4, .int ((blM i0 r0 M k_2 (c 2) k))), (5, .int (nI k))] [.int (i0 11 k)]
        refine g_iconst (v := 2) E dX5_complain_56 (by decide) ?_
        refine g_icmp_ne (tgt := 90) E dX5_complain_57 (by decide) (fun c_57 => ?_) (fun c_57 => ?_)
        · refine g_iinc (v := nI (k + 1)) (L' := [(5, .int (nI (k + 1))), (6, .ref (ad 2 k)), (0, .ref (ad 5 0)), (1, .int (nI k_2)), (2, .ref (ad 0 k_2)), (3, .int ((exL i0 r0 (clM (fun k => i0 11 k) (fun k => i0 7 k) none (c 2)) M k_2))), (4, .int ((blM i0 r0 M k_2 (c 2) k)))]) E dX5_complain_90 6 rfl (nI_1 k) (by decide) rfl ?_
          refine g_goto (tgt := 25) E dX5_complain_93 (by decide) ?_
          refine g_locals [(0, .ref (ad 5 0)), (1, .int (nI k_2)), (2, .ref (ad 0 k_2)), (3, .int ((exL i0 r0 (clM (fun k => i0 11 k) (fun k => i0 7 k) none (c 2)) M k_2))), (4, .int ((blM i0 r0 M k_2 (c 2) k))), (5, .int (nI (k + 1)))] [2, 3, 4, 5, 6, 0] rfl ?_
          refine g_L (L' := [(0, .ref (ad 5 0)), (1, .int (nI k_2)), (2, .ref (ad 0 k_2)), (3, .int ((exL i0 r0 (clM (fun k => i0 11 k) (fun k => i0 7 k) none (c 2)) M k_2))), (4, .int ((blM i0 r0 M k_2 (c 2) (k + 1)))), (5, .int (nI (k + 1)))]) (by rw [show blM i0 r0 M k_2 (c 2) (k + 1) = blM i0 r0 M k_2 (c 2) k from orM_f (fun q => c_57 q.1)]) (ih_25 (k + 1) (_) (_) (_) (hI) (hS) (hV) (by omega) (by omega))
        · refine g_iload_n E dX5_complain_60 rfl 4 rfl ?_
          refine g_aload_n E dX5_complain_61 rfl 3 rfl ?_
          refine g_aload_n E dX5_complain_62 rfl 1 rfl ?_
          refine q_get_PW_roads E hI (fun _ h => (List.mem_cons_of_mem _ (List.mem_append_left _ (List.mem_append_left _ (List.mem_append_left _ (List.mem_append_left _ (List.mem_append_left _ (List.mem_append_left _ (List.mem_append_right _ h))))))))) (List.mem_cons_of_mem _ (List.mem_append_left _ (List.mem_append_left _ (List.mem_append_left _ (List.mem_append_left _ (List.mem_append_left _ (List.mem_append_left _ (List.mem_append_left _ (List.mem_append_left _ (List.mem_of_getElem? (i := 0) rfl)))))))))) dX5_complain_63 ?_
          refine g_aload_n E dX5_complain_66 rfl 1 rfl ?_
          refine g_aload E dX5_complain_67 0 rfl ?_
          refine c_invV (n := 1) (rest := [.ref (ad 3 0), .ref (ad 0 k_2), .int ((exL i0 r0 (clM (fun k => i0 11 k) (fun k => i0 7 k) none (c 2)) M k_2))]) E (m_X5_closedBut (xl C) E.tr (xD C) (xy C) e0 hI hk_k) (hI.obj (kd := 5) (k := 0) (by omega) hI.c5).1 gX5_complain_X5_closedBut rfl rfl rfl (by decide +kernel) ⟨Nat.le_of_ble_eq_true rfl, Nat.le_of_ble_eq_true rfl⟩ (wF_PW (hI.obj (kd := 5) (k := 0) (by omega) hI.c5).2) rfl rfl rfl rfl (Nat.le_of_ble_eq_true rfl) dX5_complain_69 ⟨Nat.le_of_ble_eq_true rfl, Nat.le_of_ble_eq_true rfl⟩ (fun _ _ h9 => h9.elim) (fun v9 S9_69 h9 => ?_)
          obtain ⟨hv9, hS9⟩ := h9
          rw [hv9, hS9, hS.clM]
          show G C (cW (xy C) S) 1 6 72 [(6, .ref (ad 2 k)), (0, .ref (ad 5 0)), (1, .int (nI k_2)), (2, .ref (ad 0 k_2)), (3, .int ((exL i0 r0 (clM (fun k => i0 11 k) (fun k => i0 7 k) none (c 2)) M k_2))), (4, .int ((blM i0 r0 M k_2 (c 2) k))), (5, .int (nI k))] [.int ((clM (fun k => i0 11 k) (fun k => i0 7 k) (some k) (c 2))), .ref (ad 3 0), .ref (ad 0 k_2), .int ((exL i0 r0 (clM (fun k => i0 11 k) (fun k => i0 7 k) none (c 2)) M k_2))]
          obtain ⟨n_72, hn2_72, hn_72, hst_72⟩ := hLI k_2 hk_2
          refine c_invV (n := 2) (rest := [.int ((exL i0 r0 (clM (fun k => i0 11 k) (fun k => i0 7 k) none (c 2)) M k_2))]) E (m_X0_extraMinutes (xl C) E.tr (xD C) (xy C) e0 (cl := (clM (fun k => i0 11 k) (fun k => i0 7 k) (some k) (c 2))) hI hk_2 ((congrFun (hS.1 0 (by decide) (by decide)) _).trans hn_72) hn2_72 (hS.stp hst_72) ((congrFun (hS.1 15 (by decide) (by decide)) _).trans hm) hm2 (hS.lns hln) hV) (hI.obj (kd := 0) (k := k_2) (by omega) hk_2).1 gX5_complain_X0_extraMinutes rfl rfl rfl (by decide +kernel) ⟨Nat.le_of_ble_eq_true rfl, Nat.le_of_ble_eq_true rfl⟩ (wF_Line (hI.obj (kd := 0) (k := k_2) (by omega) hk_2).2) rfl rfl rfl rfl (Nat.le_of_ble_eq_true rfl) dX5_complain_72 ⟨Nat.le_of_ble_eq_true rfl, Nat.le_of_ble_eq_true rfl⟩ (fun _ _ h9 => h9.elim) (fun v9 S9_72 h9 => ?_)
          obtain ⟨i', r', hI, hS9, hV, hv9⟩ := h9
          rw [hv9, hS.exL hn_72 hn2_72]
          have hS := hS.tr hS9
          show G C (cW (xy C) S9_72) 1 6 75 [(6, .ref (ad 2 k)), (0, .ref (ad 5 0)), (1, .int (nI k_2)), (2, .ref (ad 0 k_2)), (3, .int ((exL i0 r0 (clM (fun k => i0 11 k) (fun k => i0 7 k) none (c 2)) M k_2))), (4, .int ((blM i0 r0 M k_2 (c 2) k))), (5, .int (nI k))] [.int ((exL i0 r0 (clM (fun k => i0 11 k) (fun k => i0 7 k) (some k) (c 2)) M k_2)), .int ((exL i0 r0 (clM (fun k => i0 11 k) (fun k => i0 7 k) none (c 2)) M k_2))]
          refine g_icmp_le (tgt := 90) E dX5_complain_75 (by decide) (fun c_75 => ?_) (fun c_75 => ?_)
          · refine g_iinc (v := nI (k + 1)) (L' := [(5, .int (nI (k + 1))), (6, .ref (ad 2 k)), (0, .ref (ad 5 0)), (1, .int (nI k_2)), (2, .ref (ad 0 k_2)), (3, .int ((exL i0 r0 (clM (fun k => i0 11 k) (fun k => i0 7 k) none (c 2)) M k_2))), (4, .int ((blM i0 r0 M k_2 (c 2) k)))]) E dX5_complain_90 6 rfl (nI_1 k) (by decide) rfl ?_
            refine g_goto (tgt := 25) E dX5_complain_93 (by decide) ?_
            refine g_locals [(0, .ref (ad 5 0)), (1, .int (nI k_2)), (2, .ref (ad 0 k_2)), (3, .int ((exL i0 r0 (clM (fun k => i0 11 k) (fun k => i0 7 k) none (c 2)) M k_2))), (4, .int ((blM i0 r0 M k_2 (c 2) k))), (5, .int (nI (k + 1)))] [2, 3, 4, 5, 6, 0] rfl ?_
            refine g_L (L' := [(0, .ref (ad 5 0)), (1, .int (nI k_2)), (2, .ref (ad 0 k_2)), (3, .int ((exL i0 r0 (clM (fun k => i0 11 k) (fun k => i0 7 k) none (c 2)) M k_2))), (4, .int ((blM i0 r0 M k_2 (c 2) (k + 1)))), (5, .int (nI (k + 1)))]) (by rw [show blM i0 r0 M k_2 (c 2) (k + 1) = blM i0 r0 M k_2 (c 2) k from orM_f (fun q => Int32.not_lt.mpr c_75 q.2)]) (ih_25 (k + 1) (_) (_) (_) (hI) (hS) (hV) (by omega) (by omega))
          · refine g_iload E dX5_complain_78 5 rfl ?_
            refine g_iconst (v := 1) E dX5_complain_80 (by decide) ?_
            refine g_aload E dX5_complain_81 0 rfl ?_
            refine q_getN_Permit_applicant E hI hk_k (fun _ h => (List.mem_cons_of_mem _ (List.mem_append_left _ (List.mem_append_left _ (List.mem_append_left _ (List.mem_append_left _ (List.mem_append_left _ (List.mem_append_right _ h)))))))) tbF_RX5_220 dX5_complain_83 ?_
            rw [show i' 6 k = i0 6 k by rw [hS.1 6 (by decide) (by decide)]]
            show G C (cW (xy C) S9_72) 1 6 86 [(6, .ref (ad 2 k)), (0, .ref (ad 5 0)), (1, .int (nI k_2)), (2, .ref (ad 0 k_2)), (3, .int ((exL i0 r0 (clM (fun k => i0 11 k) (fun k => i0 7 k) none (c 2)) M k_2))), (4, .int ((blM i0 r0 M k_2 (c 2) k))), (5, .int (nI k))] [.int (i0 6 k), .int (1), .int ((blM i0 r0 M k_2 (c 2) k))]
            refine g_ishl E dX5_complain_86 ?_
            refine g_ior E dX5_complain_87 ?_
            refine g_istore (L' := [(4, .int (((blM i0 r0 M k_2 (c 2) k) ||| (1 <<< (i0 6 k &&& 31))))), (6, .ref (ad 2 k)), (0, .ref (ad 5 0)), (1, .int (nI k_2)), (2, .ref (ad 0 k_2)), (3, .int ((exL i0 r0 (clM (fun k => i0 11 k) (fun k => i0 7 k) none (c 2)) M k_2))), (5, .int (nI k))]) E dX5_complain_88 (by decide) rfl ?_
            refine g_iinc (v := nI (k + 1)) (L' := [(5, .int (nI (k + 1))), (4, .int (((blM i0 r0 M k_2 (c 2) k) ||| (1 <<< (i0 6 k &&& 31))))), (6, .ref (ad 2 k)), (0, .ref (ad 5 0)), (1, .int (nI k_2)), (2, .ref (ad 0 k_2)), (3, .int ((exL i0 r0 (clM (fun k => i0 11 k) (fun k => i0 7 k) none (c 2)) M k_2)))]) E dX5_complain_90 6 rfl (nI_1 k) (by decide) rfl ?_
            refine g_goto (tgt := 25) E dX5_complain_93 (by decide) ?_
            refine g_locals [(0, .ref (ad 5 0)), (1, .int (nI k_2)), (2, .ref (ad 0 k_2)), (3, .int ((exL i0 r0 (clM (fun k => i0 11 k) (fun k => i0 7 k) none (c 2)) M k_2))), (4, .int (((blM i0 r0 M k_2 (c 2) k) ||| (1 <<< (i0 6 k &&& 31))))), (5, .int (nI (k + 1)))] [3, 4, 5, 6, 1, 0] rfl ?_
            refine g_L (L' := [(0, .ref (ad 5 0)), (1, .int (nI k_2)), (2, .ref (ad 0 k_2)), (3, .int ((exL i0 r0 (clM (fun k => i0 11 k) (fun k => i0 7 k) none (c 2)) M k_2))), (4, .int ((blM i0 r0 M k_2 (c 2) (k + 1)))), (5, .int (nI (k + 1)))]) (by rw [show blM i0 r0 M k_2 (c 2) (k + 1) = blM i0 r0 M k_2 (c 2) k ||| ((1 : Int32) <<< (i0 6 k &&& 31)) from orM_t ⟨c_57, Int32.not_le.mp c_75⟩]) (ih_25 (k + 1) (_) (_) (_) (hI) (hS) (hV) (by omega) (by omega))
  exact loop_25 (c 2 + 1) 0 (_) (_) (_) (hI) (hS) (hV) (by omega) (by omega)
abbrev rm_X5_pass : Room := { frames := 6, cells := 1, slots := 6, locals := 146 }
set_option maxHeartbeats 4000000 in
set_option maxRecDepth 100000 in
theorem m_X5_pass (l : Launch) (hl : l.stackTraces = false) (D : va_G) (cy : Nat → ClassId) (e0 : Nat) {S : wS} {c : Nat → Nat} {ad : Nat → Nat → Nat} {i : Nat → Nat → Int32} {j : Nat → Nat → Int64} {p : Nat → Nat → Option Nat} {r : Nat → Nat → Int32} (hI : CI e0 S c ad i j p r) {h : Int32} {M : Nat} (hm : i 15 0 = nI M) (hm2 : M ≤ 24) (hln : LNS r M) (hV : WV i r M) (hLI : LI i r (c 0)) (hap : ∀ k, k < c 2 → ∃ a, a < 6 ∧ i 6 k = nI a) : cMet l yX5_pass wsX5_pass rm_X5_pass D cy e0 [.ref (ad 5 0), .int (h)] S (fun v S' => ∃ H, 1 ≤ H ∧ H ≤ 200 ∧ h = nI H ∧ ¬ (5000 : Int32) < i 18 0 + nI H ∧ ∃ i1 r1 i2 r2, SC i r i1 r1 ∧ SC i r i2 r2 ∧ WV i2 r2 M ∧ ∃ s, s = hrS i2 p (c 2) (wgJ i1 (cmJ i j r (clM (fun k => i 11 k) (fun k => i 7 k) none (c 2)) (nI H) M (c 0)) r1 (clM (fun k => i 11 k) (fun k => i 7 k) none (c 2)) M (c 0) (c 2) (c 2), r2) H ∧ CI e0 S' c ad (nwI i2 H) s.1 p s.2 ∧ v = some (.int (i 18 0 + nI H))) (fun X S' => (X = "java/lang/IllegalArgumentException" ∧ ¬ (¬ h < 1 ∧ ¬ 200 < h) ∧ S' = S) ∨ (X = "java/lang/IllegalStateException" ∧ ((¬ h < 1 ∧ ¬ 200 < h) ∧ (5000 : Int32) < i 18 0 + h) ∧ S' = S)) 1 6 := by
  refine gMet.of (cc := cX5_pass) (maxL := 4) (ret := (some .int)) hl (by decide) rfl (Nat.le_of_ble_eq_true rfl) ?_
  intro C E h1 h2 h3 hr hnm hT hE
  subst h1; subst h2; subst h3
  have E : gOk C cX5_pass 4 wsX5_pass RX5 e0 rm_X5_pass := E
  show G C (cW (xy C) S) 0 0 0 [(0, .ref (ad 5 0)), (1, .int (h))] []
  have hc := hI.cnt
  refine g_iload_n E dX5_pass_0 rfl 1 rfl ?_
  refine g_iconst (v := 1) E dX5_pass_1 (by decide) ?_
  refine g_icmp_lt (tgt := 12) E dX5_pass_2 (by decide) (fun c_2 => ?_) (fun c_2 => ?_)
  · exact g_throwS E hE hT "java/lang/IllegalArgumentException" "1 to 200 hours pass" ["java/lang/RuntimeException", "java/lang/Exception"] 37 203 41 (by decide) (by decide) (List.mem_cons_of_mem _ (List.mem_append_left _ (List.mem_append_left _ (List.mem_append_left _ (List.mem_append_left _ (List.mem_append_left _ (List.mem_append_left _ (List.mem_append_left _ (List.mem_append_left _ (List.mem_append_left _ (List.mem_append_left _ (List.mem_of_getElem? (i := 0) rfl)))))))))))) (List.mem_cons_of_mem _ (List.mem_append_left _ (List.mem_append_left _ (List.mem_append_left _ (List.mem_append_left _ (List.mem_append_left _ (List.mem_append_left _ (List.mem_append_left _ (List.mem_append_left _ (List.mem_append_left _ (List.mem_append_left _ (List.mem_of_getElem? (i := 1) rfl)))))))))))) tbS_RX5_203 (fun _ h => (List.mem_cons_of_mem _ (List.mem_append_left _ (List.mem_append_right _ h)))) tbX_IAE tbG_IAE dX5_pass_12 dX5_pass_15 dX5_pass_16 dX5_pass_18 dX5_pass_21 (Nat.le_of_ble_eq_true rfl) (Nat.le_of_ble_eq_true rfl) (Nat.le_of_ble_eq_true rfl) (Nat.le_of_ble_eq_true rfl) (Nat.le_of_ble_eq_true rfl) (Nat.le_of_ble_eq_true rfl) ⟨S, rfl, Or.inl ⟨rfl, (fun q => q.1 c_2), rfl⟩⟩
  · refine g_iload_n E dX5_pass_5 rfl 1 rfl ?_
    refine g_sipush (v := 200) E dX5_pass_6 (by decide) ?_
    refine g_icmp_le (tgt := 22) E dX5_pass_9 (by decide) (fun c_9 => ?_) (fun c_9 => ?_)
    · refine g_aload_n E dX5_pass_22 rfl 0 rfl ?_
      refine q_get_PW_now E hI hI.c5 (fun _ h => (List.mem_cons_of_mem _ (List.mem_append_left _ (List.mem_append_left _ (List.mem_append_left _ (List.mem_append_left _ (List.mem_append_left _ (List.mem_append_left _ (List.mem_append_left _ (List.mem_append_left _ (List.mem_append_right _ h))))))))))) (List.mem_cons_of_mem _ (List.mem_append_left _ (List.mem_append_left _ (List.mem_append_left _ (List.mem_append_left _ (List.mem_append_left _ (List.mem_append_left _ (List.mem_append_left _ (List.mem_append_left _ (List.mem_append_left _ (List.mem_append_left _ (List.mem_of_getElem? (i := 4) rfl)))))))))))) dX5_pass_23 ?_
      refine g_iload_n E dX5_pass_26 rfl 1 rfl ?_
      refine g_iadd E dX5_pass_27 ?_
      refine g_sipush (v := 5000) E dX5_pass_28 (by decide) ?_
      refine g_icmp_le (tgt := 44) E dX5_pass_31 (by decide) (fun c_31 => ?_) (fun c_31 => ?_)
      · have hH : ∃ H, 1 ≤ H ∧ H ≤ 200 ∧ h = nI H := by
          obtain ⟨H, h1, h2⟩ := nI_in2 (x := h) (n := 201) (by decide) (fun q => c_2 (Int32.lt_trans q (by decide))) (Int32.lt_of_le_of_lt c_9 (by decide))
          refine ⟨H, ?_, by omega, h2⟩
          by_cases q : H = 0
          · exact absurd (show h < 1 by rw [h2, q]; decide) c_2
          · omega
        obtain ⟨H, hH1, hH2, hHe⟩ := hH
        subst hHe
        show G C (cW (xy C) S) 0 0 44 [(0, .ref (ad 5 0)), (1, .int ((nI H)))] []
        refine g_aload_n E dX5_pass_44 rfl 0 rfl ?_
        refine c_invV (n := 0) (rest := []) E (m_X5_closedNow (xl C) E.tr (xD C) (xy C) e0 hI) (hI.obj (kd := 5) (k := 0) (by omega) hI.c5).1 gX5_pass_X5_closedNow rfl rfl rfl (by decide +kernel) ⟨Nat.le_of_ble_eq_true rfl, Nat.le_of_ble_eq_true rfl⟩ (wF_PW (hI.obj (kd := 5) (k := 0) (by omega) hI.c5).2) rfl rfl rfl rfl (Nat.le_of_ble_eq_true rfl) dX5_pass_45 ⟨Nat.le_of_ble_eq_true rfl, Nat.le_of_ble_eq_true rfl⟩ (fun _ _ h9 => h9.elim) (fun v9 S9_45 h9 => ?_)
        obtain ⟨hv9, hS9⟩ := h9
        rw [hv9, hS9]
        show G C (cW (xy C) S) 0 0 48 [(0, .ref (ad 5 0)), (1, .int ((nI H)))] [.int ((clM (fun k => i 11 k) (fun k => i 7 k) none (c 2)))]
        refine g_istore_n (L' := [(2, .int ((clM (fun k => i 11 k) (fun k => i 7 k) none (c 2)))), (0, .ref (ad 5 0)), (1, .int ((nI H)))]) E dX5_pass_48 rfl (by decide) rfl ?_
        refine g_aload_n E dX5_pass_49 rfl 1 rfl ?_
        refine g_iload_n E dX5_pass_50 rfl 0 rfl ?_
        refine g_iload_n E dX5_pass_51 rfl 2 rfl ?_
        refine c_invV (n := 2) (rest := []) E (m_X5_countMinutes (xl C) E.tr (xD C) (xy C) e0 (cl := (clM (fun k => i 11 k) (fun k => i 7 k) none (c 2))) (h := (nI H)) hI hm hm2 hln hV hLI) (hI.obj (kd := 5) (k := 0) (by omega) hI.c5).1 gX5_pass_X5_countMinutes rfl rfl rfl (by decide +kernel) ⟨Nat.le_of_ble_eq_true rfl, Nat.le_of_ble_eq_true rfl⟩ (wF_PW (hI.obj (kd := 5) (k := 0) (by omega) hI.c5).2) rfl rfl rfl rfl (Nat.le_of_ble_eq_true rfl) dX5_pass_52 ⟨Nat.le_of_ble_eq_true rfl, Nat.le_of_ble_eq_true rfl⟩ (fun _ _ h9 => h9.elim) (fun v9 S9_52 h9 => ?_)
        obtain ⟨hv9, i1, r1, hI, hS1, hV⟩ := h9
        have hS := hS1
        rw [hv9]
        show G C (cW (xy C) S9_52) 0 0 55 [(2, .int ((clM (fun k => i 11 k) (fun k => i 7 k) none (c 2)))), (0, .ref (ad 5 0)), (1, .int ((nI H)))] []
        refine g_aload_n E dX5_pass_55 rfl 1 rfl ?_
        refine g_iload_n E dX5_pass_56 rfl 0 rfl ?_
        refine c_invV (n := 1) (rest := []) E (m_X5_weighDigs (xl C) E.tr (xD C) (xy C) e0 (cl := (clM (fun k => i 11 k) (fun k => i 7 k) none (c 2))) hI ((congrFun (hS.1 15 (by decide) (by decide)) _).trans hm) hm2 (hS.lns hln) hV (hS.li hLI)) (hI.obj (kd := 5) (k := 0) (by omega) hI.c5).1 gX5_pass_X5_weighDigs rfl rfl rfl (by decide +kernel) ⟨Nat.le_of_ble_eq_true rfl, Nat.le_of_ble_eq_true rfl⟩ (wF_PW (hI.obj (kd := 5) (k := 0) (by omega) hI.c5).2) rfl rfl rfl rfl (Nat.le_of_ble_eq_true rfl) dX5_pass_57 ⟨Nat.le_of_ble_eq_true rfl, Nat.le_of_ble_eq_true rfl⟩ (fun _ _ h9 => h9.elim) (fun v9 S9_57 h9 => ?_)
        obtain ⟨hv9, i2, r2, hI, hS2, hV⟩ := h9
        have hS := hS.tr hS2
        rw [hv9]
        have hs0 : ∃ s0, s0 = (wgJ i1 (cmJ i j r (clM (fun k => i 11 k) (fun k => i 7 k) none (c 2)) (nI H) M (c 0)) r1 (clM (fun k => i 11 k) (fun k => i 7 k) none (c 2)) M (c 0) (c 2) (c 2), r2) := ⟨_, rfl⟩
        obtain ⟨s0, hs0⟩ := hs0
        have hI : CI e0 S9_57 c ad (nwI i2 0) (hrS i2 p (c 2) s0 0).1 p (hrS i2 p (c 2) s0 0).2 := by rw [nwI_0, hs0]; exact hI
        show G C (cW (xy C) S9_57) 0 0 60 [(2, .int ((clM (fun k => i 11 k) (fun k => i 7 k) none (c 2)))), (0, .ref (ad 5 0)), (1, .int ((nI H)))] []
        refine g_iconst (v := 0) E dX5_pass_60 (by decide) ?_
        refine g_istore_n (L' := [(3, .int (0)), (2, .int ((clM (fun k => i 11 k) (fun k => i 7 k) none (c 2)))), (0, .ref (ad 5 0)), (1, .int ((nI H)))]) E dX5_pass_61 rfl (by decide) rfl ?_
        refine g_locals [(0, .ref (ad 5 0)), (1, .int ((nI H))), (3, .int (0))] [2, 3, 0] rfl ?_
        have loop_62 : ∀ (n_62 n : Nat) (S : wS), (CI e0 S c ad (nwI i2 n) (hrS i2 p (c 2) s0 n).1 p (hrS i2 p (c 2) s0 n).2) → n ≤ H → H < n_62 + n → G C (cW (xy C) S) 0 0 62 [(0, .ref (ad 5 0)), (1, .int (nI H)), (3, .int (nI n))] [] := by
          intro n_62
          induction n_62 with
          | zero => intro n S hI g1 g2; exact absurd g2 (by omega)
          | succ n_62 ih_62 =>
            intro n S hI h1_62 h2_62
            have hc := hI.cnt
            refine g_iload_n E dX5_pass_62 rfl 2 rfl ?_
            refine g_iload_n E dX5_pass_63 rfl 1 rfl ?_
            refine g_icmp_ge (tgt := 77) E dX5_pass_64 (by decide) (fun c_64 => ?_) (fun c_64 => ?_)
            · have e_n : n = H := Nat.le_antisymm h1_62 (nI_ge_nat (by omega) (by omega) c_64)
              refine g_aload_n E dX5_pass_77 rfl 0 rfl ?_
              refine q_get_PW_now E hI hI.c5 (fun _ h => (List.mem_cons_of_mem _ (List.mem_append_left _ (List.mem_append_left _ (List.mem_append_left _ (List.mem_append_left _ (List.mem_append_left _ (List.mem_append_left _ (List.mem_append_left _ (List.mem_append_left _ (List.mem_append_right _ h))))))))))) (List.mem_cons_of_mem _ (List.mem_append_left _ (List.mem_append_left _ (List.mem_append_left _ (List.mem_append_left _ (List.mem_append_left _ (List.mem_append_left _ (List.mem_append_left _ (List.mem_append_left _ (List.mem_append_left _ (List.mem_append_left _ (List.mem_of_getElem? (i := 4) rfl)))))))))))) dX5_pass_78 ?_
              rw [nwI_now, e_n, show i2 18 0 = i 18 0 from congrFun (hS.1 18 (by decide) (by decide)) 0]
              show G C (cW (xy C) S) 0 0 81 [(0, .ref (ad 5 0)), (1, .int (nI H)), (3, .int (nI H))] [.int ((i 18 0 + nI H))]
              exact g_iret E hE hr dX5_pass_81 (Nat.le_of_ble_eq_true rfl) (Nat.le_of_ble_eq_true rfl) ⟨S, rfl, H, hH1, hH2, rfl, Int32.not_lt.mpr c_31, i1, r1, i2, r2, hS1, hS, hV, _, rfl, by rw [← hs0, ← e_n]; exact hI, rfl⟩
            · have hn_k : n < H := nI_nge_nat (by omega) (by omega) c_64
              refine g_aload_n E dX5_pass_67 rfl 0 rfl ?_
              refine c_invV (n := 0) (rest := []) E (m_X5_passHour (xl C) E.tr (xD C) (xy C) e0 hI (fun k hk => (hap k hk).imp fun a q => ⟨q.1, by rw [nwI_o (by decide)]; exact (congrFun (hS.1 6 (by decide) (by decide)) k).trans q.2⟩)) (hI.obj (kd := 5) (k := 0) (by omega) hI.c5).1 gX5_pass_X5_passHour rfl rfl rfl (by decide +kernel) ⟨Nat.le_of_ble_eq_true rfl, Nat.le_of_ble_eq_true rfl⟩ (wF_PW (hI.obj (kd := 5) (k := 0) (by omega) hI.c5).2) rfl rfl rfl rfl (Nat.le_of_ble_eq_true rfl) dX5_pass_68 ⟨Nat.le_of_ble_eq_true rfl, Nat.le_of_ble_eq_true rfl⟩ (fun _ _ h9 => h9.elim) (fun v9 S9_68 h9 => ?_)
              obtain ⟨hv9, hI⟩ := h9
              rw [hv9]
              show G C (cW (xy C) S9_68) 0 0 71 [(0, .ref (ad 5 0)), (1, .int (nI H)), (3, .int (nI n))] []
              refine g_iinc (v := nI (n + 1)) (L' := [(3, .int (nI (n + 1))), (0, .ref (ad 5 0)), (1, .int (nI H))]) E dX5_pass_71 2 rfl (nI_1 n) (by decide) rfl ?_
              refine g_goto (tgt := 62) E dX5_pass_74 (by decide) ?_
              refine g_locals [(0, .ref (ad 5 0)), (1, .int (nI H)), (3, .int (nI (n + 1)))] [1, 2, 0] rfl ?_
              refine g_L (L' := [(0, .ref (ad 5 0)), (1, .int (nI H)), (3, .int (nI (n + 1)))]) (by rfl) (ih_62 (n + 1) (_) (by rw [← nwI_s]; exact hI) (by omega) (by omega))
        exact loop_62 (H + 1) 0 (_) (hI) (by omega) (by omega)
      · exact g_throwS E hE hT "java/lang/IllegalStateException" "now would be above 5000" ["java/lang/RuntimeException", "java/lang/Exception"] 51 205 55 (by decide) (by decide) (List.mem_cons_of_mem _ (List.mem_append_left _ (List.mem_append_left _ (List.mem_append_left _ (List.mem_append_left _ (List.mem_append_left _ (List.mem_append_left _ (List.mem_append_left _ (List.mem_append_left _ (List.mem_append_left _ (List.mem_append_left _ (List.mem_of_getElem? (i := 2) rfl)))))))))))) (List.mem_cons_of_mem _ (List.mem_append_left _ (List.mem_append_left _ (List.mem_append_left _ (List.mem_append_left _ (List.mem_append_left _ (List.mem_append_left _ (List.mem_append_left _ (List.mem_append_left _ (List.mem_append_left _ (List.mem_append_left _ (List.mem_of_getElem? (i := 3) rfl)))))))))))) tbS_RX5_205 (fun _ h => (List.mem_cons_of_mem _ (List.mem_append_right _ h))) tbX_ISE tbG_ISE dX5_pass_34 dX5_pass_37 dX5_pass_38 dX5_pass_40 dX5_pass_43 (Nat.le_of_ble_eq_true rfl) (Nat.le_of_ble_eq_true rfl) (Nat.le_of_ble_eq_true rfl) (Nat.le_of_ble_eq_true rfl) (Nat.le_of_ble_eq_true rfl) (Nat.le_of_ble_eq_true rfl) ⟨S, rfl, Or.inr (⟨rfl, ⟨⟨c_2, Int32.not_lt.mpr c_9⟩, Int32.not_le.mp c_31⟩, rfl⟩)⟩
    · exact g_throwS E hE hT "java/lang/IllegalArgumentException" "1 to 200 hours pass" ["java/lang/RuntimeException", "java/lang/Exception"] 37 203 41 (by decide) (by decide) (List.mem_cons_of_mem _ (List.mem_append_left _ (List.mem_append_left _ (List.mem_append_left _ (List.mem_append_left _ (List.mem_append_left _ (List.mem_append_left _ (List.mem_append_left _ (List.mem_append_left _ (List.mem_append_left _ (List.mem_append_left _ (List.mem_of_getElem? (i := 0) rfl)))))))))))) (List.mem_cons_of_mem _ (List.mem_append_left _ (List.mem_append_left _ (List.mem_append_left _ (List.mem_append_left _ (List.mem_append_left _ (List.mem_append_left _ (List.mem_append_left _ (List.mem_append_left _ (List.mem_append_left _ (List.mem_append_left _ (List.mem_of_getElem? (i := 1) rfl)))))))))))) tbS_RX5_203 (fun _ h => (List.mem_cons_of_mem _ (List.mem_append_left _ (List.mem_append_right _ h)))) tbX_IAE tbG_IAE dX5_pass_12 dX5_pass_15 dX5_pass_16 dX5_pass_18 dX5_pass_21 (Nat.le_of_ble_eq_true rfl) (Nat.le_of_ble_eq_true rfl) (Nat.le_of_ble_eq_true rfl) (Nat.le_of_ble_eq_true rfl) (Nat.le_of_ble_eq_true rfl) (Nat.le_of_ble_eq_true rfl) ⟨S, rfl, Or.inl ⟨rfl, (fun q => q.2 (Int32.not_le.mp c_9)), rfl⟩⟩
