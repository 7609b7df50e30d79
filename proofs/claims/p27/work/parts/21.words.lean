/-! small words -/
def mnI (x y : Int32) : Int32 := if y < x then y else x
def mxI (x y : Int32) : Int32 := if x < y then y else x
theorem mnI_t {x y : Int32} (h : y < x) : mnI x y = y := if_pos h
theorem mnI_f {x y : Int32} (h : ¬ y < x) : mnI x y = x := if_neg h
theorem mxI_t {x y : Int32} (h : x < y) : mxI x y = y := if_pos h
theorem mxI_f {x y : Int32} (h : ¬ x < y) : mxI x y = x := if_neg h
section GMM
variable {C : gT} {cc : ByteArray} {nL : Nat} {Ts : List Cond} {own : String} {e0 : Nat} {rm : Room} {ws : va_W} {mc ms pc idx : Nat} {L : List (Nat × Value)} {rest : List Value}
theorem g_mmax (E : gOk C cc nL Ts own e0 rm) (hlk : Cond.methodLink own idx Lib.Math.max.name ∈ Ts) (hst : Cond.static Lib.Math.max.name ∈ Ts) (hin : Cond.initialized "java/lang/Math" ∈ Ts) (hco : Cond.code Lib.Math.max.name Lib.Math.max.code 2 (some .int) ∈ Ts) {x y : Int32} (d : decode cc pc = .ok (.invokestatic idx, 3)) (hf : 1 ≤ rm.frames) (hlo : (rest.map fun v => v.category).sum + 13 ≤ rm.locals) (h1 : mc ≤ rm.cells) (h2 : ms ≤ rm.slots) (k : G C ws mc ms (pc + 3) L (.int (mxI x y) :: rest)) : G C ws mc ms pc L (.int y :: .int x :: rest) := fun H locs ls hP hD hS hL =>
  va_mmax E.exec E.code hL.1.symm E.ow (E.ts _ hlk) (E.ts _ hst) (E.ts _ hin) (E.ts _ hco) (by rw [E.room]; exact hf) (by rw [E.room]; exact hlo) (by rw [E.room]; exact h1) (by rw [E.room]; exact h2) d (k H locs ls hP hD hS hL)
theorem g_mmin (E : gOk C cc nL Ts own e0 rm) (hlk : Cond.methodLink own idx Lib.Math.min.name ∈ Ts) (hst : Cond.static Lib.Math.min.name ∈ Ts) (hin : Cond.initialized "java/lang/Math" ∈ Ts) (hco : Cond.code Lib.Math.min.name Lib.Math.min.code 2 (some .int) ∈ Ts) {x y : Int32} (d : decode cc pc = .ok (.invokestatic idx, 3)) (hf : 1 ≤ rm.frames) (hlo : (rest.map fun v => v.category).sum + 13 ≤ rm.locals) (h1 : mc ≤ rm.cells) (h2 : ms ≤ rm.slots) (k : G C ws mc ms (pc + 3) L (.int (mnI x y) :: rest)) : G C ws mc ms pc L (.int y :: .int x :: rest) := fun H locs ls hP hD hS hL =>
  va_mmin E.exec E.code hL.1.symm E.ow (E.ts _ hlk) (E.ts _ hst) (E.ts _ hin) (E.ts _ hco) (by rw [E.room]; exact hf) (by rw [E.room]; exact hlo) (by rw [E.room]; exact h1) (by rw [E.room]; exact h2) d (k H locs ls hP hD hS hL)
end GMM
def bI (P : Prop) [Decidable P] : Int32 := if P then 1 else 0
theorem bI_01 {P : Prop} [Decidable P] : bI P = 0 ∨ bI P = 1 := by unfold bI; split <;> simp
theorem bI_t {P : Prop} [Decidable P] (h : P) : bI P = 1 := if_pos h
theorem bI_f {P : Prop} [Decidable P] (h : ¬ P) : bI P = 0 := if_neg h
theorem bI_eq0 {P : Prop} [Decidable P] : bI P = 0 ↔ ¬ P := by unfold bI; split <;> simp_all
theorem bI_ne0 {P : Prop} [Decidable P] : ¬ bI P = 0 ↔ P := by unfold bI; split <;> simp_all
theorem bI_congr {P Q : Prop} [Decidable P] [Decidable Q] (h : P ↔ Q) : bI P = bI Q := by by_cases hp : P; rw [bI_t hp, bI_t (h.mp hp)]; rw [bI_f hp, bI_f (fun q => hp (h.mpr q))]
theorem nI_ge_nat {a b : Nat} (hb : b < 2 ^ 31) (ha : a < 2 ^ 31) (h : nI b ≤ nI a) : b ≤ a := (nI_leI hb ha).mp h
theorem nI_nge_nat {a b : Nat} (hb : b < 2 ^ 31) (ha : a < 2 ^ 31) (h : ¬ nI b ≤ nI a) : a < b := Nat.not_le.mp fun q => h ((nI_leI hb ha).mpr q)
/-- an int between 0 and n is a number below n -/
theorem nI_in2 {x : Int32} {n : Nat} (hn : n < 2 ^ 31) (h0 : ¬ x < 0) (h1 : x < nI n) : ∃ k, k < n ∧ x = nI k := by
  refine ⟨x.toInt.toNat, ?_, ?_⟩
  · have h2 := Int32.lt_iff_toInt_lt.mp h1
    have h3 : ¬ x.toInt < (0 : Int32).toInt := fun q => h0 (Int32.lt_iff_toInt_lt.mpr q)
    have h4 : (nI n).toInt = n := nI_toInt hn
    have h5 : (0 : Int32).toInt = 0 := rfl
    omega
  · have h3 : ¬ x.toInt < (0 : Int32).toInt := fun q => h0 (Int32.lt_iff_toInt_lt.mpr q)
    have h5 : (0 : Int32).toInt = 0 := rfl
    have h4 : x.toInt < 2 ^ 31 := Int32.toInt_lt x
    apply Int32.toInt_inj.mp
    rw [nI_toInt (by omega)]
    omega
theorem nI_not {x : Int32} {n : Nat} (hn : n < 2 ^ 31) (h : x < 0 ∨ ¬ x < nI n) : ∀ k, k < n → x ≠ nI k := by
  rintro k hk rfl
  rcases h with h | h
  · exact nI_pos (by omega) h
  · exact h ((nI_ltI (by omega) hn).mpr hk)
