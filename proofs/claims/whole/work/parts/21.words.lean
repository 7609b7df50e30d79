/-! small words -/
def mnI (x y : Int32) : Int32 := if x ≤ y then x else y
def mxI (x y : Int32) : Int32 := if y ≤ x then x else y
theorem mnI_t {x y : Int32} (h : x ≤ y) : mnI x y = x := if_pos h
theorem mnI_f {x y : Int32} (h : ¬ x ≤ y) : mnI x y = y := if_neg h
theorem mxI_t {x y : Int32} (h : y ≤ x) : mxI x y = x := if_pos h
theorem mxI_f {x y : Int32} (h : ¬ y ≤ x) : mxI x y = y := if_neg h
def bI (P : Prop) [Decidable P] : Int32 := if P then 1 else 0
theorem bI_01 {P : Prop} [Decidable P] : bI P = 0 ∨ bI P = 1 := by unfold bI; split <;> simp
theorem bI_t {P : Prop} [Decidable P] (h : P) : bI P = 1 := if_pos h
theorem bI_f {P : Prop} [Decidable P] (h : ¬ P) : bI P = 0 := if_neg h
theorem bI_eq0 {P : Prop} [Decidable P] : bI P = 0 ↔ ¬ P := by unfold bI; split <;> simp_all
theorem bI_ne0 {P : Prop} [Decidable P] : ¬ bI P = 0 ↔ P := by unfold bI; split <;> simp_all
theorem bI_congr {P Q : Prop} [Decidable P] [Decidable Q] (h : P ↔ Q) : bI P = bI Q := by by_cases hp : P; rw [bI_t hp, bI_t (h.mp hp)]; rw [bI_f hp, bI_f (fun q => hp (h.mpr q))]
theorem nI_ge_nat {a b : Nat} (hb : b < 2 ^ 31) (ha : a < 2 ^ 31) (h : nI b ≤ nI a) : b ≤ a := (nI_leI hb ha).mp h
theorem nI_nge_nat {a b : Nat} (hb : b < 2 ^ 31) (ha : a < 2 ^ 31) (h : ¬ nI b ≤ nI a) : a < b := Nat.not_le.mp fun q => h ((nI_leI hb ha).mpr q)
/-- an int between 0 and n is a number below n -/
theorem nI_in2 {x : Int32} {n : Nat} (hn : n < 2 ^ 31) (h0 : ¬ x < 0) (h1 : x < nI n) : ∃ k, k < n ∧ x = nI k := by
  refine ⟨x.toInt.toNat, ?_, ?_⟩
  · have h2 := Int32.lt_iff_toInt_lt.mp h1
    have h3 : ¬ x.toInt < (0 : Int32).toInt := fun q => h0 (Int32.lt_iff_toInt_lt.mpr q)
    have h4 : (nI n).toInt = n := nI_toInt hn
    have h5 : (0 : Int32).toInt = 0 := rfl
    omega
  · have h3 : ¬ x.toInt < (0 : Int32).toInt := fun q => h0 (Int32.lt_iff_toInt_lt.mpr q)
    have h5 : (0 : Int32).toInt = 0 := rfl
    have h4 : x.toInt < 2 ^ 31 := Int32.toInt_lt x
    apply Int32.toInt_inj.mp
    rw [nI_toInt (by omega)]
    omega
theorem nI_not {x : Int32} {n : Nat} (hn : n < 2 ^ 31) (h : x < 0 ∨ ¬ x < nI n) : ∀ k, k < n → x ≠ nI k := by
  rintro k hk rfl
  rcases h with h | h
  · exact nI_pos (by omega) h
  · exact h ((nI_ltI (by omega) hn).mpr hk)
