section ST
variable {c : Nat → Nat} {i : Nat → Nat → Int32} {j : Nat → Nat → Int64} {p : Nat → Nat → Option Nat} {r : Nat → Nat → Int32} {s s' : mS} {M N : Nat} {v' : Option Value}
theorem sh_lane {x y t : Int32} (hQ : ((¬ isIx x 10 = 0 ∧ ¬ isIx y 10 = 0) ∧ (¬ x = y ∧ 1 ≤ t ∧ t ≤ 30) ∧ M < 24 ∧ ¬ 0 < mi s 1 ∧ v' = some (.int (nI M)) ∧ s' = muI (muR (muR (muR (muI s 0 0) 2 M x) 3 M y) 4 M t) 5 (nI M + 1)) ∨ (∃ cc : Int32, v' = some (.int 0) ∧ s' = muI s 0 cc ∧ ((cc = 1 ∧ ¬ (¬ isIx x 10 = 0 ∧ ¬ isIx y 10 = 0)) ∨ (cc = 2 ∧ (¬ isIx x 10 = 0 ∧ ¬ isIx y 10 = 0) ∧ ¬ (¬ x = y ∧ 1 ≤ t ∧ t ≤ 30)) ∨ (cc = 3 ∧ (¬ isIx x 10 = 0 ∧ ¬ isIx y 10 = 0) ∧ (¬ x = y ∧ 1 ≤ t ∧ t ≤ 30) ∧ (M = 24 ∨ 0 < mi s 1))))) : ∃ z : Int32, v' = some (.int z) := by
  rcases hQ with ⟨_, _, _, _, hv, _⟩ | ⟨_, hv, _⟩
  · exact ⟨_, hv⟩
  · exact ⟨_, hv⟩
theorem sh_line {x y : Int32} (hQ : (¬ isIx x 10 = 0 ∧ (0 ≤ y ∧ y ≤ 500) ∧ (c 0) < 6 ∧ ¬ 0 < mi s 1 ∧ v' = some (.int (nI (c 0))) ∧ s' = muI (muR (muR (muR (muI s 0 0) 7 (6 * (c 0)) x) 8 (c 0) 1) 6 (c 0) y) 10 (nI (c 0) + 1)) ∨ (∃ cc : Int32, v' = some (.int 0) ∧ s' = muI s 0 cc ∧ ((cc = 1 ∧ isIx x 10 = 0) ∨ (cc = 2 ∧ ¬ isIx x 10 = 0 ∧ ¬ (0 ≤ y ∧ y ≤ 500)) ∨ (cc = 3 ∧ ¬ isIx x 10 = 0 ∧ (0 ≤ y ∧ y ≤ 500) ∧ ((c 0) = 6 ∨ 0 < mi s 1))))) : ∃ z : Int32, v' = some (.int z) := by
  rcases hQ with ⟨_, _, _, _, hv, _⟩ | ⟨_, hv, _⟩
  · exact ⟨_, hv⟩
  · exact ⟨_, hv⟩
theorem sh_stop {x y : Int32} (hQ : (∃ k b n, k < (c 0) ∧ x = nI k ∧ b < 10 ∧ y = nI b ∧ n < 6 ∧ mr s 8 k = nI (n + 1) ∧ ¬ mst s k n = b ∧ (n + 1 < 6 ∧ mi s 1 = 0 ∧ ¬ (1000000 : Int32) ≤ mds s 0 M (mst s k n) b) ∧ v' = some (.int (nI (n + 2))) ∧ ∃ g, s' = muR (muR (muI (mFar s g) 0 0) 7 (6 * k + (n + 1)) (nI b)) 8 k (nI (n + 2))) ∨ (¬ ((∃ k, k < (c 0) ∧ x = nI k) ∧ JN y) ∧ v' = some (.int 0) ∧ s' = muI s 0 1) ∨ (∃ k b n, k < (c 0) ∧ x = nI k ∧ b < 10 ∧ y = nI b ∧ n < 6 ∧ mr s 8 k = nI (n + 1) ∧ mst s k n = b ∧ v' = some (.int 0) ∧ ∃ g, s' = muI (mFar s g) 0 2) ∨ (∃ k b n, k < (c 0) ∧ x = nI k ∧ b < 10 ∧ y = nI b ∧ n < 6 ∧ mr s 8 k = nI (n + 1) ∧ ¬ mst s k n = b ∧ ¬ (n + 1 < 6 ∧ mi s 1 = 0 ∧ ¬ (1000000 : Int32) ≤ mds s 0 M (mst s k n) b) ∧ v' = some (.int 0) ∧ ∃ g, s' = muI (mFar s g) 0 3)) : ∃ z : Int32, v' = some (.int z) := by
  rcases hQ with ⟨_, _, _, _, _, _, _, _, _, _, _, hv, _⟩ | ⟨_, hv, _⟩ | ⟨_, _, _, _, _, _, _, _, _, _, hv, _⟩ | ⟨_, _, _, _, _, _, _, _, _, _, _, hv, _⟩
  · exact ⟨_, hv⟩
  · exact ⟨_, hv⟩
  · exact ⟨_, hv⟩
  · exact ⟨_, hv⟩
theorem sh_way {x y : Int32} (hQ : (∃ a b, a < 10 ∧ b < 10 ∧ x = nI a ∧ y = nI b ∧ v' = some (.int (if mds s (mcl s (c 2) M) M a b = 1000000 then -1 else mds s (mcl s (c 2) M) M a b)) ∧ ∃ g, s' = mFar (muI s 0 0) g) ∨ (¬ (JN x ∧ JN y) ∧ v' = some (.int 0) ∧ s' = muI s 0 1)) : ∃ z : Int32, v' = some (.int z) := by
  rcases hQ with ⟨_, _, _, _, _, _, hv, _⟩ | ⟨_, hv, _⟩
  · exact ⟨_, hv⟩
  · exact ⟨_, hv⟩
theorem sh_isClosed {x : Int32} (hQ : (∃ k, k < M ∧ x = nI k ∧ v' = some (.int (bI (0 < opC s (c 2) (nI k)))) ∧ s' = muI s 0 0) ∨ ((∀ k, k < M → x ≠ nI k) ∧ v' = some (.int 0) ∧ s' = muI s 0 1)) : ∃ z : Int32, v' = some (.int z) := by
  rcases hQ with ⟨_, _, _, hv, _⟩ | ⟨_, hv, _⟩
  · exact ⟨_, hv⟩
  · exact ⟨_, hv⟩
theorem sh_detour {x : Int32} (hQ : (∃ k, k < (c 0) ∧ x = nI k ∧ v' = some (.int (mdL s (mcl s (c 2) M) M k)) ∧ ∃ g, s' = mFar (muI s 0 0) g) ∨ ((∀ k, k < (c 0) → x ≠ nI k) ∧ v' = some (.int 0) ∧ s' = muI s 0 1)) : ∃ z : Int32, v' = some (.int z) := by
  rcases hQ with ⟨_, _, _, hv, _⟩ | ⟨_, hv, _⟩
  · exact ⟨_, hv⟩
  · exact ⟨_, hv⟩
theorem sh_minutes {x : Int32} (hQ : (∃ k, k < (c 0) ∧ x = nI k ∧ v' = some (.long (ml s 9 k)) ∧ s' = muI s 0 0) ∨ ((∀ k, k < (c 0) → x ≠ nI k) ∧ v' = some (.long 0) ∧ s' = muI s 0 1)) : ∃ z : Int64, v' = some (.long z) := by
  rcases hQ with ⟨_, _, _, hv, _⟩ | ⟨_, hv, _⟩
  · exact ⟨_, hv⟩
  · exact ⟨_, hv⟩
theorem sh_minutesAnew {x : Int32} (hQ : (∃ k, k < (c 0) ∧ x = nI k ∧ v' = some (.long (ml s 9 k)) ∧ s' = muI s 0 0) ∨ ((∀ k, k < (c 0) → x ≠ nI k) ∧ v' = some (.long 0) ∧ s' = muI s 0 1)) : ∃ z : Int64, v' = some (.long z) := by
  rcases hQ with ⟨_, _, _, hv, _⟩ | ⟨_, hv, _⟩
  · exact ⟨_, hv⟩
  · exact ⟨_, hv⟩
theorem sh_apply {ap ln fr hs nd ur : Int32} (hQ : (∃ a BK w st o s2, mNUM M (c 2) ap ln nd a BK s fr ∧ mOKS s fr hs ∧ (c 2) < 40 ∧ WHY s (c 2) a ln fr (fr + hs) ur BK w ∧ mAPP s (c 2) (c 1) ln fr (fr + hs) ur w st o s2 ∧ v' = some (.int (nI (c 2))) ∧ s' = mAp s2 (c 2) ap ln fr (fr + hs) nd ur st w o) ∨ (∃ cc : Int32, v' = some (.int 0) ∧ s' = muI s 0 cc ∧ ((cc = 1 ∧ ¬ mARE M (c 2) ap ln nd) ∨ (cc = 2 ∧ mARE M (c 2) ap ln nd ∧ ¬ mOKS s fr hs) ∨ (cc = 3 ∧ mARE M (c 2) ap ln nd ∧ mOKS s fr hs ∧ (c 2) = 40)))) : ∃ z : Int32, v' = some (.int z) := by
  rcases hQ with ⟨_, _, _, _, _, _, _, _, _, _, _, hv, _⟩ | ⟨_, hv, _⟩
  · exact ⟨_, hv⟩
  · exact ⟨_, hv⟩
theorem sh_withdraw {x : Int32} (hQ : (∃ k, k < (c 2) ∧ x = nI k ∧ mr s 17 k = 0 ∧ v' = some (.int (mwn (muR (muI s 0 0) 17 k 4) (k + 1) ((c 2) - (k + 1))).2) ∧ s' = (mwn (muR (muI s 0 0) 17 k 4) (k + 1) ((c 2) - (k + 1))).1) ∨ (∃ k, k < (c 2) ∧ x = nI k ∧ ¬ mr s 17 k = 0 ∧ v' = some (.int 0) ∧ s' = muI s 0 2) ∨ ((∀ k, k < (c 2) → x ≠ nI k) ∧ v' = some (.int 0) ∧ s' = muI s 0 1)) : ∃ z : Int32, v' = some (.int z) := by
  rcases hQ with ⟨_, _, _, _, hv, _⟩ | ⟨_, _, _, _, hv, _⟩ | ⟨_, hv, _⟩
  · exact ⟨_, hv⟩
  · exact ⟨_, hv⟩
  · exact ⟨_, hv⟩
theorem sh_begin {x : Int32} (hQ : (∃ k, k < (c 2) ∧ x = nI k ∧ (mr s 17 k = 0 ∧ (mr s 15 k = -1 ∨ mr s 17 (tn (mr s 15 k)) = 3)) ∧ v' = some (.int (mr s 22 (tn (mr s 19 k)) - mi s 1)) ∧ s' = muR (muI s 0 0) 17 k 2) ∨ (∃ k, k < (c 2) ∧ x = nI k ∧ ¬ (mr s 17 k = 0 ∧ (mr s 15 k = -1 ∨ mr s 17 (tn (mr s 15 k)) = 3)) ∧ v' = some (.int 0) ∧ s' = muI s 0 2) ∨ ((∀ k, k < (c 2) → x ≠ nI k) ∧ v' = some (.int 0) ∧ s' = muI s 0 1)) : ∃ z : Int32, v' = some (.int z) := by
  rcases hQ with ⟨_, _, _, _, hv, _⟩ | ⟨_, _, _, _, hv, _⟩ | ⟨_, hv, _⟩
  · exact ⟨_, hv⟩
  · exact ⟨_, hv⟩
  · exact ⟨_, hv⟩
theorem sh_finish {x : Int32} (hQ : (∃ k, k < (c 2) ∧ x = nI k ∧ mr s 17 k = 2 ∧ v' = some (.long (2 * ml s 20 k)) ∧ s' = muR (muI s 0 0) 17 k 3) ∨ (∃ k, k < (c 2) ∧ x = nI k ∧ ¬ mr s 17 k = 2 ∧ v' = some (.long 0) ∧ s' = muI s 0 2) ∨ ((∀ k, k < (c 2) → x ≠ nI k) ∧ v' = some (.long 0) ∧ s' = muI s 0 1)) : ∃ z : Int64, v' = some (.long z) := by
  rcases hQ with ⟨_, _, _, _, hv, _⟩ | ⟨_, _, _, _, hv, _⟩ | ⟨_, hv, _⟩
  · exact ⟨_, hv⟩
  · exact ⟨_, hv⟩
  · exact ⟨_, hv⟩
theorem sh_state {x : Int32} (hQ : (∃ k, k < (c 2) ∧ x = nI k ∧ v' = some (.int (mr s 17 k)) ∧ s' = muI s 0 0) ∨ ((∀ k, k < (c 2) → x ≠ nI k) ∧ v' = some (.int 0) ∧ s' = muI s 0 1)) : ∃ z : Int32, v' = some (.int z) := by
  rcases hQ with ⟨_, _, _, hv, _⟩ | ⟨_, hv, _⟩
  · exact ⟨_, hv⟩
  · exact ⟨_, hv⟩
theorem sh_cause {x : Int32} (hQ : (∃ k, k < (c 2) ∧ x = nI k ∧ v' = some (.int (mr s 18 k)) ∧ s' = muI s 0 0) ∨ ((∀ k, k < (c 2) → x ≠ nI k) ∧ v' = some (.int 0) ∧ s' = muI s 0 1)) : ∃ z : Int32, v' = some (.int z) := by
  rcases hQ with ⟨_, _, _, hv, _⟩ | ⟨_, hv, _⟩
  · exact ⟨_, hv⟩
  · exact ⟨_, hv⟩
theorem sh_from {x : Int32} (hQ : (∃ k, k < (c 2) ∧ x = nI k ∧ v' = some (.int (if mr s 17 k = 1 then mr s 13 k else mr s 22 (tn (mr s 19 k)))) ∧ s' = muI s 0 0) ∨ ((∀ k, k < (c 2) → x ≠ nI k) ∧ v' = some (.int 0) ∧ s' = muI s 0 1)) : ∃ z : Int32, v' = some (.int z) := by
  rcases hQ with ⟨_, _, _, hv, _⟩ | ⟨_, hv, _⟩
  · exact ⟨_, hv⟩
  · exact ⟨_, hv⟩
theorem sh_end {x : Int32} (hQ : (∃ k, k < (c 2) ∧ x = nI k ∧ v' = some (.int (if mr s 17 k = 1 then mr s 14 k else mr s 23 (tn (mr s 19 k)))) ∧ s' = muI s 0 0) ∨ ((∀ k, k < (c 2) → x ≠ nI k) ∧ v' = some (.int 0) ∧ s' = muI s 0 1)) : ∃ z : Int32, v' = some (.int z) := by
  rcases hQ with ⟨_, _, _, hv, _⟩ | ⟨_, hv, _⟩
  · exact ⟨_, hv⟩
  · exact ⟨_, hv⟩
theorem sh_together {x : Int32} (hQ : (∃ k, k < (c 2) ∧ x = nI k ∧ v' = some (.long (if mr s 17 k = 1 then 0 else mtg s (mr s 19 k) (c 2))) ∧ s' = muI s 0 0) ∨ ((∀ k, k < (c 2) → x ≠ nI k) ∧ v' = some (.long 0) ∧ s' = muI s 0 1)) : ∃ z : Int64, v' = some (.long z) := by
  rcases hQ with ⟨_, _, _, hv, _⟩ | ⟨_, hv, _⟩
  · exact ⟨_, hv⟩
  · exact ⟨_, hv⟩
theorem sh_openings {x se : Int32} (hQ : (∃ k, k < M ∧ x = nI k ∧ (0 ≤ se ∧ se ≤ 10) ∧ v' = some (.int (mcO s (c 2) (nI k) se (c 1))) ∧ s' = muI s 0 0) ∨ ((∀ k, k < M → x ≠ nI k) ∧ v' = some (.int 0) ∧ s' = muI s 0 1) ∨ (∃ k, k < M ∧ x = nI k ∧ ¬ (0 ≤ se ∧ se ≤ 10) ∧ v' = some (.int 0) ∧ s' = muI s 0 2)) : ∃ z : Int32, v' = some (.int z) := by
  rcases hQ with ⟨_, _, _, _, hv, _⟩ | ⟨_, hv, _⟩ | ⟨_, _, _, _, hv, _⟩
  · exact ⟨_, hv⟩
  · exact ⟨_, hv⟩
  · exact ⟨_, hv⟩
theorem sh_fee {x : Int32} (hQ : (∃ k, k < (c 2) ∧ x = nI k ∧ v' = some (.int (if ¬ mr s 17 k = 1 ∧ ¬ mr s 17 k = 4 then mfee s (c 2) k else 0)) ∧ s' = muI s 0 0) ∨ ((∀ k, k < (c 2) → x ≠ nI k) ∧ v' = some (.int 0) ∧ s' = muI s 0 1)) : ∃ z : Int32, v' = some (.int z) := by
  rcases hQ with ⟨_, _, _, hv, _⟩ | ⟨_, hv, _⟩
  · exact ⟨_, hv⟩
  · exact ⟨_, hv⟩
theorem sh_pass {x : Int32} (hQ : (∃ H, 1 ≤ H ∧ H ≤ 200 ∧ x = nI H ∧ ¬ (5000 : Int32) < mi s 1 + nI H ∧ v' = some (.int (mi s 1 + nI H)) ∧ ∃ g, s' = mHn (mFar (mC2 (mD1 (muI s 0 0) (mcl s (c 2) M) M (c 0)) (c 2) (mcl s (c 2) M) M (c 0) (c 2)) g) (c 0) (c 2) H) ∨ (¬ (1 ≤ x ∧ x ≤ 200) ∧ v' = some (.int 0) ∧ s' = muI s 0 1) ∨ (∃ H, 1 ≤ H ∧ H ≤ 200 ∧ x = nI H ∧ (5000 : Int32) < mi s 1 + nI H ∧ v' = some (.int 0) ∧ s' = muI s 0 2)) : ∃ z : Int32, v' = some (.int z) := by
  rcases hQ with ⟨_, _, _, _, _, hv, _⟩ | ⟨_, hv, _⟩ | ⟨_, _, _, _, _, hv, _⟩
  · exact ⟨_, hv⟩
  · exact ⟨_, hv⟩
  · exact ⟨_, hv⟩
theorem sh_complain {x : Int32} (hQ : (∃ k, k < (c 0) ∧ x = nI k ∧ ∃ g, v' = some (.int (mGc (mFar (mG1 (muI s 0 0) (c 2) (mcl s (c 2) M) M k (c 2)) g) 6)) ∧ s' = mG2 (mFar (mG1 (muI s 0 0) (c 2) (mcl s (c 2) M) M k (c 2)) g) 6) ∨ ((∀ k, k < (c 0) → x ≠ nI k) ∧ v' = some (.int 0) ∧ s' = muI s 0 1)) : ∃ z : Int32, v' = some (.int z) := by
  rcases hQ with ⟨_, _, _, ⟨_, hv, _⟩⟩ | ⟨_, hv, _⟩
  · exact ⟨_, hv⟩
  · exact ⟨_, hv⟩
theorem sh_points {x : Int32} (hQ : (∃ k, k < 6 ∧ x = nI k ∧ v' = some (.int (mr s 25 k)) ∧ s' = muI s 0 0) ∨ ((∀ k, k < 6 → x ≠ nI k) ∧ v' = some (.int 0) ∧ s' = muI s 0 1)) : ∃ z : Int32, v' = some (.int z) := by
  rcases hQ with ⟨_, _, _, hv, _⟩ | ⟨_, hv, _⟩
  · exact ⟨_, hv⟩
  · exact ⟨_, hv⟩
theorem sh_fine {x : Int32} (hQ : (∃ k, k < (c 2) ∧ x = nI k ∧ v' = some (.long (2 * ml s 20 k)) ∧ s' = muI s 0 0) ∨ ((∀ k, k < (c 2) → x ≠ nI k) ∧ v' = some (.long 0) ∧ s' = muI s 0 1)) : ∃ z : Int64, v' = some (.long z) := by
  rcases hQ with ⟨_, _, _, hv, _⟩ | ⟨_, hv, _⟩
  · exact ⟨_, hv⟩
  · exact ⟨_, hv⟩
theorem sh_fines {x : Int32} (hQ : (∃ k, k < 6 ∧ x = nI k ∧ v' = some (.long (mfn s (nI k) (c 2))) ∧ s' = muI s 0 0) ∨ ((∀ k, k < 6 → x ≠ nI k) ∧ v' = some (.long 0) ∧ s' = muI s 0 1)) : ∃ z : Int64, v' = some (.long z) := by
  rcases hQ with ⟨_, _, _, hv, _⟩ | ⟨_, hv, _⟩
  · exact ⟨_, hv⟩
  · exact ⟨_, hv⟩
end ST
/-! the law's own rules -/
section LW
variable {C : gT} {cc : ByteArray} {nL : Nat} {Ts : List Cond} {own : String} {e0 : Nat} {rm : Room} {ws : va_W} {mc ms pc : Nat} {L : List (Nat × Value)} {st : List Value}
theorem g_sld (E : gOk C cc nL Ts own e0 rm) {b Ln : Nat} {xv : Nat → Int32} (hX : va_X b Ln xv (xs C) (xs C).heap) (hbl : b < (xs C).heap.size) (hbA : ¬ xA C b) (hL : Ln ≤ 3584) {ix : Int32} (k : Nat) (hi : ix = nI k) (hk : k < Ln) (d : decode cc pc = .ok (.iaload, 1)) (kk : G C ws mc ms (pc + 1) L (.int (xv k) :: st)) : G C ws mc ms pc L (.int ix :: .ref b :: st) := fun H locs ls hP hD hS hL9 => by
  have h2 : ix.toNatClampNeg = k := by rw [hi]; exact nI_clamp (by omega)
  have h1 : vp_in ix Ln := by
    unfold vp_in
    rw [h2, hi]
    rintro (z | z)
    · exact nI_pos (by omega) z
    · omega
  refine va_sld E.exec E.code hX hbl hbA hS h1 d ?_
  rw [h2]
  exact kk H locs ls hP hD hS hL9
theorem g_slen (E : gOk C cc nL Ts own e0 rm) {b Ln : Nat} {xv : Nat → Int32} (hX : va_X b Ln xv (xs C) (xs C).heap) (hbl : b < (xs C).heap.size) (hbA : ¬ xA C b) (d : decode cc pc = .ok (.arraylength, 1)) (kk : G C ws mc ms (pc + 1) L (.int (nI Ln) :: st)) : G C ws mc ms pc L (.ref b :: st) := fun H locs ls hP hD hS hL9 =>
  va_slen E.exec E.code hX hbl hbA hS d (kk H locs ls hP hD hS hL9)
theorem g_tabIn (E : gOk C cc nL Ts own e0 rm) {dflt lo hi : Int} {offs : Array Int} {len : Nat} {x : Int32} {off : Int} {tgt : Nat} (d : decode cc pc = .ok (.tableswitch dflt lo hi offs, len)) (h1 : ¬ x.toInt < lo) (h2 : ¬ hi < x.toInt) (ho : offs[(x.toInt - lo).toNat]? = some off) (ht : (pc : Int) + off = (tgt : Int)) (kk : G C ws mc ms tgt L st) : G C ws mc ms pc L (.int x :: st) := fun H locs ls hP hD hS hL9 =>
  lv_tableIn E.exec E.code d h1 h2 ho ht (kk H locs ls hP hD hS hL9)
theorem g_tabOut (E : gOk C cc nL Ts own e0 rm) {dflt lo hi : Int} {offs : Array Int} {len : Nat} {x : Int32} {tgt : Nat} (d : decode cc pc = .ok (.tableswitch dflt lo hi offs, len)) (h : x.toInt < lo ∨ hi < x.toInt) (ht : (pc : Int) + dflt = (tgt : Int)) (kk : G C ws mc ms tgt L st) : G C ws mc ms pc L (.int x :: st) := fun H locs ls hP hD hS hL9 =>
  lv_tableOut E.exec E.code d h ht (kk H locs ls hP hD hS hL9)
theorem out_at {wl wr : va_W} {x : Nat × va_E} : ((wl ++ [x]) ++ wr)[wl.length]? = some x := by
  rw [List.getElem?_append_left (by simp), List.getElem?_append_right (Nat.le_refl _), Nat.sub_self]
  rfl
theorem g_outld (E : gOk C cc nL Ts own e0 rm) {wl wr : va_W} {ob : Nat} {o : Nat → Int64} (d : decode cc pc = .ok (.laload, 1)) (kk : G C ((wl ++ [oE (xy C) ob o]) ++ wr) mc ms (pc + 1) L (.long (o 0) :: st)) : G C ((wl ++ [oE (xy C) ob o]) ++ wr) mc ms pc L (.int 0 :: .ref ob :: st) := fun H locs ls hP hD hS hL9 => by
  obtain ⟨h1, h2⟩ := nI_at (show (0 : Int32) = nI 0 from rfl) (by decide : 0 < 1) (by decide)
  refine va_lald E.exec E.code E.K hP wl.length 1 (show ((wl ++ [oE (xy C) ob o]) ++ wr)[wl.length]? = some (ob, .inl (xy C 1, 1, .inr (.inl o))) from out_at) rfl h1 d ?_
  rw [h2]
  exact kk H locs ls hP hD hS hL9
theorem mW_at {cy : Nat → ClassId} {ma : Nat → Nat} {s : mS} {wl : va_W} : (wl ++ mW cy ma s)[wl.length + 0]? = some ((mW cy ma s).head (by unfold mW; simp)) := by
  rw [List.getElem?_append_right (by omega)]
  simp [mW]
end LW
/-- the place of an exception -/
theorem ec3 {X : String} {k : Int32} (h : (X, k) ∈ [("java/lang/IndexOutOfBoundsException", (1 : Int32)), ("java/lang/IllegalArgumentException", 2), ("java/lang/IllegalStateException", 3)]) : (X = "java/lang/IndexOutOfBoundsException" → k = 1) ∧ (X = "java/lang/IllegalArgumentException" → k = 2) ∧ (X = "java/lang/IllegalStateException" → k = 3) := by
  simp only [List.mem_cons, Prod.mk.injEq, List.not_mem_nil, or_false] at h
  rcases h with ⟨rfl, rfl⟩ | ⟨rfl, rfl⟩ | ⟨rfl, rfl⟩
  · exact ⟨fun _ => rfl, fun e => absurd e (by decide), fun e => absurd e (by decide)⟩
  · exact ⟨fun e => absurd e (by decide), fun _ => rfl, fun e => absurd e (by decide)⟩
  · exact ⟨fun e => absurd e (by decide), fun e => absurd e (by decide), fun _ => rfl⟩
theorem ec1 {X : String} {k : Int32} (h : (X, k) ∈ [("java/lang/IndexOutOfBoundsException", (1 : Int32))]) : k = 1 := by
  simp only [List.mem_cons, Prod.mk.injEq, List.not_mem_nil, or_false] at h
  exact h.2
theorem ec2s {X : String} {k : Int32} (h : (X, k) ∈ [("java/lang/IndexOutOfBoundsException", (1 : Int32)), ("java/lang/IllegalStateException", 2)]) : (X = "java/lang/IndexOutOfBoundsException" → k = 1) ∧ (X = "java/lang/IllegalStateException" → k = 2) := by
  simp only [List.mem_cons, Prod.mk.injEq, List.not_mem_nil, or_false] at h
  rcases h with ⟨rfl, rfl⟩ | ⟨rfl, rfl⟩
  · exact ⟨fun _ => rfl, fun e => absurd e (by decide)⟩
  · exact ⟨fun e => absurd e (by decide), fun _ => rfl⟩
theorem ec2a {X : String} {k : Int32} (h : (X, k) ∈ [("java/lang/IndexOutOfBoundsException", (1 : Int32)), ("java/lang/IllegalArgumentException", 2)]) : (X = "java/lang/IndexOutOfBoundsException" → k = 1) ∧ (X = "java/lang/IllegalArgumentException" → k = 2) := by
  simp only [List.mem_cons, Prod.mk.injEq, List.not_mem_nil, or_false] at h
  rcases h with ⟨rfl, rfl⟩ | ⟨rfl, rfl⟩
  · exact ⟨fun _ => rfl, fun e => absurd e (by decide)⟩
  · exact ⟨fun e => absurd e (by decide), fun _ => rfl⟩
theorem ec2p {X : String} {k : Int32} (h : (X, k) ∈ [("java/lang/IllegalArgumentException", (1 : Int32)), ("java/lang/IllegalStateException", 2)]) : (X = "java/lang/IllegalArgumentException" → k = 1) ∧ (X = "java/lang/IllegalStateException" → k = 2) := by
  simp only [List.mem_cons, Prod.mk.injEq, List.not_mem_nil, or_false] at h
  rcases h with ⟨rfl, rfl⟩ | ⟨rfl, rfl⟩
  · exact ⟨fun _ => rfl, fun e => absurd e (by decide)⟩
  · exact ⟨fun e => absurd e (by decide), fun _ => rfl⟩
theorem gMet.frameRN {l : Launch} {y : MethodName} {wds : List Cond} {rm : Room} {D : va_G} {cy : Nat → ClassId} {e0 : Nat} {av : List Value} {w0 : va_W} {post : Option Value → va_W → Prop} {mc ms : Nat} (h : gMet l y wds rm D cy e0 av w0 post (fun _ _ => False) mc ms) (wr : va_W) : gMet l y wds rm D cy e0 av (w0 ++ wr) (fun v w => ∃ w1, w = w1 ++ wr ∧ post v w1) (fun _ _ => False) mc ms := by
  have e : (fun (_ : String) (w : va_W) => ∃ w1, w = w1 ++ wr ∧ False) = fun _ _ => False := by
    funext X w
    simp
  have h2 : gMet l y wds rm D cy e0 av (w0 ++ wr) (fun v w => ∃ w1, w = w1 ++ wr ∧ post v w1) (fun (_ : String) (w : va_W) => ∃ w1, w = w1 ++ wr ∧ False) mc ms := h.frameR wr
  rw [e] at h2
  exact h2
/-- the law's world between two rows of the script -/
def LV (C : gT) (e0 a ob : Nat) (ma : Nat → Nat) (W : va_W) : Prop := ∃ S o s c ad i j p r, W = (cW (xy C) S ++ [oE (xy C) ob o]) ++ mW (xy C) ma s ∧ CI e0 S c ad i j p r ∧ ad 5 0 = a ∧ REL c i j p r s
