/-! the model's shortest way: relaxing edges until nothing moves -/
def sm10 (F : Nat → Nat) : Nat := F 0 + F 1 + F 2 + F 3 + F 4 + F 5 + F 6 + F 7 + F 8 + F 9
theorem sm10_le {F G : Nat → Nat} (h : ∀ b, b < 10 → G b ≤ F b) : sm10 G ≤ sm10 F := by
  have h0 := h 0 (by omega); have h1 := h 1 (by omega); have h2 := h 2 (by omega); have h3 := h 3 (by omega); have h4 := h 4 (by omega)
  have h5 := h 5 (by omega); have h6 := h 6 (by omega); have h7 := h 7 (by omega); have h8 := h 8 (by omega); have h9 := h 9 (by omega)
  unfold sm10; omega
theorem sm10_lt {F G : Nat → Nat} (h : ∀ b, b < 10 → G b ≤ F b) {y : Nat} (hy : y < 10) (hlt : G y < F y) : sm10 G < sm10 F := by
  have h0 := h 0 (by omega); have h1 := h 1 (by omega); have h2 := h 2 (by omega); have h3 := h 3 (by omega); have h4 := h 4 (by omega)
  have h5 := h 5 (by omega); have h6 := h 6 (by omega); have h7 := h 7 (by omega); have h8 := h 8 (by omega); have h9 := h 9 (by omega)
  unfold sm10
  rcases (show y = 0 ∨ y = 1 ∨ y = 2 ∨ y = 3 ∨ y = 4 ∨ y = 5 ∨ y = 6 ∨ y = 7 ∨ y = 8 ∨ y = 9 by omega) with rfl | rfl | rfl | rfl | rfl | rfl | rfl | rfl | rfl | rfl <;> omega
def bfI (E : Nat → Nat → Nat → Prop) (a : Nat) (F : Nat → Nat) : Prop := F a = 0 ∧ (∀ b, b < 10 → F b ≤ FAR) ∧ ∀ b, b < 10 → F b < FAR → Rch E a b (F b)
theorem bfI_0 {E : Nat → Nat → Nat → Prop} {a : Nat} : bfI E a (fun b => if b = a then 0 else FAR) := by
  refine ⟨if_pos rfl, fun b _ => ?_, fun b _ h => ?_⟩
  · show (if b = a then 0 else FAR) ≤ FAR; split <;> omega
  · by_cases e : b = a
    · subst e; show Rch E b b (if b = b then 0 else FAR); rw [if_pos rfl]; exact Rch.rf
    · exact absurd h (by show ¬ (if b = a then 0 else FAR) < FAR; rw [if_neg e]; omega)
/-- y is reached over x, if that is nearer -/
def rlx1 (F : Nat → Nat) (x y t : Nat) : Nat → Nat := fun b => if b = y then (if F x + t < F y then F x + t else F y) else F b
theorem rlx1_le {F : Nat → Nat} {x y t : Nat} (b : Nat) : rlx1 F x y t b ≤ F b := by
  unfold rlx1
  by_cases e : b = y
  · subst e; rw [if_pos rfl]; split <;> omega
  · rw [if_neg e]; omega
theorem rlx1_y {F : Nat → Nat} {x y t : Nat} : rlx1 F x y t y = if F x + t < F y then F x + t else F y := if_pos rfl
theorem rlx1_o {F : Nat → Nat} {x y t b : Nat} (h : b ≠ y) : rlx1 F x y t b = F b := if_neg h
theorem bfI_rlx {E : Nat → Nat → Nat → Prop} {a : Nat} {F : Nat → Nat} {x y t v : Nat} (h : bfI E a F) (hx : x < 10) (hy : y < 10) (e : E x y t) (hv : v = F x + t) (hlt : v < F y) : bfI E a (fun b => if b = y then v else F b) := by
  obtain ⟨h1, h2, h3⟩ := h
  have hya : y ≠ a := fun q => by rw [q, h1] at hlt; omega
  refine ⟨?_, fun b hb => ?_, fun b hb hl => ?_⟩
  · show (if a = y then v else F a) = 0
    rw [if_neg (fun q => hya q.symm)]; exact h1
  · show (if b = y then v else F b) ≤ FAR
    split
    · have := h2 y hy; omega
    · exact h2 b hb
  · by_cases q : b = y
    · subst q
      show Rch E a b (if b = b then v else F b)
      rw [if_pos rfl, hv]
      exact (h3 x hx (by have := h2 b hb; omega)).step e
    · have hl' : (if b = y then v else F b) < FAR := hl
      rw [if_neg q] at hl'
      show Rch E a b (if b = y then v else F b)
      rw [if_neg q]
      exact h3 b hb hl'
theorem bf_end {on ot tk : Nat → Int32} {cl : Int32} {M a : Nat} {F : Nat → Nat} (hE : bfI (Ed on ot tk cl M) a F) (hln : ∀ e, e < M → ∃ x y t : Nat, on e = nI x ∧ ot e = nI y ∧ tk e = nI t ∧ x < 10 ∧ y < 10 ∧ x ≠ y ∧ t ≤ 30)
    (hr : ∀ e, e < M → opn cl e → ∀ x y t : Nat, on e = nI x → ot e = nI y → tk e = nI t → x < 10 → y < 10 → t ≤ 30 → F y ≤ F x + t ∧ F x ≤ F y + t) {b : Nat} (hb : b < 10) : F b = dst (Ed on ot tk cl M) a b := by
  refine dst_eq (isD_of (f := F) hE.1 (fun m b t h => ?_) (hE.2.2 b hb) (hE.2.1 b hb))
  obtain ⟨e, he, ho, ht, ht30, hm10, hb10, hh⟩ := h
  rcases hh with ⟨q1, q2⟩ | ⟨q1, q2⟩
  · exact (hr e he ho m b t q1 q2 ht hm10 hb10 ht30).1
  · exact (hr e he ho b m t q1 q2 ht hb10 hm10 ht30).2
/-- the far table alone is another -/
def mFar (s : mS) (g : Nat → Int32) : mS := (s.1, va_up s.2.1 26 g, s.2.2)
theorem mFar_id (s : mS) : mFar s (mr s 26) = s := by
  have e : va_up s.2.1 26 (s.2.1 26) = s.2.1 := by
    funext k
    by_cases q : k = 26
    · subst q; exact va_up_self _ _ _
    · exact va_up_ne _ _ q
  show (s.1, va_up s.2.1 26 (s.2.1 26), s.2.2) = s
  rw [e]
theorem mFar_put (s : mS) (g : Nat → Int32) (b : Nat) (v : Int32) : muR (mFar s g) 26 b v = mFar s (upd g b v) := by
  have e : va_up (va_up s.2.1 26 g) 26 (upd (va_up s.2.1 26 g 26) b v) = va_up s.2.1 26 (upd g b v) := by
    funext k
    by_cases q : k = 26
    · subst q; rw [va_up_self, va_up_self, va_up_self]
    · rw [va_up_ne _ _ q, va_up_ne _ _ q, va_up_ne _ _ q]
  show (s.1, va_up (va_up s.2.1 26 g) 26 (upd (va_up s.2.1 26 g 26) b v), s.2.2) = (s.1, va_up s.2.1 26 (upd g b v), s.2.2)
  rw [e]
theorem mFar_far (s : mS) (g : Nat → Int32) : mr (mFar s g) 26 = g := by
  show va_up s.2.1 26 g 26 = g
  rw [va_up_self]
theorem mFar_oth {s : mS} {g : Nat → Int32} {k : Nat} (h : k ≠ 26) : mr (mFar s g) k = mr s k := by
  show va_up s.2.1 26 g k = s.2.1 k
  rw [va_up_ne _ _ h]
theorem mFar_mFar (s : mS) (g g' : Nat → Int32) : mFar (mFar s g) g' = mFar s g' := by
  have e : va_up (va_up s.2.1 26 g) 26 g' = va_up s.2.1 26 g' := by
    funext k
    by_cases q : k = 26
    · subst q; rw [va_up_self, va_up_self]
    · rw [va_up_ne _ _ q, va_up_ne _ _ q, va_up_ne _ _ q]
  show (s.1, va_up (va_up s.2.1 26 g) 26 g', s.2.2) = _
  rw [e]
  rfl
theorem bv_sh (x : BitVec 32) (e : Nat) (he : e < 32) : (x.sshiftRight e).getLsbD 0 = x.getLsbD e := by
  rw [BitVec.getLsbD_sshiftRight]
  simp [he]
theorem bv_l (x : BitVec 32) (e : Nat) (he : e < 32) : x.sshiftRight e &&& 1#32 = 0#32 ↔ x.getLsbD e = false := by
  constructor
  · intro h
    have h2 : ((x.sshiftRight e) &&& 1#32).getLsbD 0 = (0#32).getLsbD 0 := by rw [h]
    rw [BitVec.getLsbD_and, bv_sh x e he, show (1#32).getLsbD 0 = true from rfl, show (0#32).getLsbD 0 = false from rfl, Bool.and_true] at h2
    exact h2
  · intro h
    apply BitVec.eq_of_getLsbD_eq
    intro i hi
    by_cases q : i = 0
    · subst q
      rw [BitVec.getLsbD_and, bv_sh x e he, h]
      rfl
    · simp [BitVec.getLsbD_one, q]
theorem bv_r (x : BitVec 32) (e : Nat) (he : e < 32) : x &&& (1#32 <<< e) = 0#32 ↔ x.getLsbD e = false := by
  constructor
  · intro h
    have := congrArg (fun z => z.getLsbD e) h
    simpa [he] using this
  · intro h
    apply BitVec.eq_of_getLsbD_eq
    intro i hi
    by_cases q : i = e
    · subst q
      simp [h]
    · simp [BitVec.getLsbD_one, hi]
      intro _ h2
      omega
theorem nI_sh : ∀ e : Fin 24, (nI e.val &&& 31).toBitVec.smod 32 = BitVec.ofNat 32 e.val := by decide +kernel
/-- the bit of a lane, asked two ways -/
theorem opn_bit {cl : Int32} {e : Nat} (he : e < 24) : (cl >>> (nI e &&& 31)) &&& 1 = 0 ↔ opn cl e := by
  have h1 := nI_sh ⟨e, he⟩
  have h1' : (nI e &&& 31).toBitVec.smod 32 = BitVec.ofNat 32 e := h1
  have hnat : (BitVec.ofNat 32 e).toNat = e := by rw [BitVec.toNat_ofNat]; omega
  unfold opn
  rw [← Int32.toBitVec_inj, ← Int32.toBitVec_inj, Int32.toBitVec_and, Int32.toBitVec_and, Int32.toBitVec_shiftRight, Int32.toBitVec_shiftLeft]
  rw [h1']
  show cl.toBitVec.sshiftRight (BitVec.ofNat 32 e).toNat &&& 1#32 = 0#32 ↔ cl.toBitVec &&& 1#32 <<< (BitVec.ofNat 32 e).toNat = 0#32
  rw [hnat]
  exact (bv_l _ e (by omega)).trans (bv_r _ e (by omega)).symm
