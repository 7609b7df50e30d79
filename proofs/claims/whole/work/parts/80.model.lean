/-! the model's world: its object at ma 0, its array of the field f at ma f; ints mi f, int and boolean arrays mr f, long arrays ml f -/
abbrev mS : Type := (Nat → Int32) × (Nat → Nat → Int32) × (Nat → Nat → Int64)
abbrev mi (s : mS) : Nat → Int32 := s.1
abbrev mr (s : mS) : Nat → Nat → Int32 := s.2.1
abbrev ml (s : mS) : Nat → Nat → Int64 := s.2.2
def muI (s : mS) (f : Nat) (v : Int32) : mS := (va_up s.1 f v, s.2)
def muR (s : mS) (f b : Nat) (v : Int32) : mS := (s.1, va_up s.2.1 f (upd (s.2.1 f) b v), s.2.2)
def muL (s : mS) (f b : Nat) (v : Int64) : mS := (s.1, s.2.1, va_up s.2.2 f (vp_updL (s.2.2 f) b v))
def mW (cy : Nat → ClassId) (ma : Nat → Nat) (s : mS) : va_W := [(ma 0, .inr (7, [.int (mi s 0), .int (mi s 1), .ref (ma 2), .ref (ma 3), .ref (ma 4), .int (mi s 5), .ref (ma 6), .ref (ma 7), .ref (ma 8), .ref (ma 9), .int (mi s 10), .ref (ma 11), .ref (ma 12), .ref (ma 13), .ref (ma 14), .ref (ma 15), .ref (ma 16), .ref (ma 17), .ref (ma 18), .ref (ma 19), .ref (ma 20), .int (mi s 21), .ref (ma 22), .ref (ma 23), .int (mi s 24), .ref (ma 25), .ref (ma 26), .ref (ma 27), .ref (ma 28), .ref (ma 29)])), (ma 2, .inl (cy 0, 24, .inl (mr s 2))), (ma 3, .inl (cy 0, 24, .inl (mr s 3))), (ma 4, .inl (cy 0, 24, .inl (mr s 4))), (ma 6, .inl (cy 0, 6, .inl (mr s 6))), (ma 7, .inl (cy 0, 36, .inl (mr s 7))), (ma 8, .inl (cy 0, 6, .inl (mr s 8))), (ma 9, .inl (cy 1, 6, .inr (.inl (ml s 9)))), (ma 11, .inl (cy 0, 40, .inl (mr s 11))), (ma 12, .inl (cy 0, 40, .inl (mr s 12))), (ma 13, .inl (cy 0, 40, .inl (mr s 13))), (ma 14, .inl (cy 0, 40, .inl (mr s 14))), (ma 15, .inl (cy 0, 40, .inl (mr s 15))), (ma 16, .inl (cy 2, 40, .inl (mr s 16))), (ma 17, .inl (cy 0, 40, .inl (mr s 17))), (ma 18, .inl (cy 0, 40, .inl (mr s 18))), (ma 19, .inl (cy 0, 40, .inl (mr s 19))), (ma 20, .inl (cy 1, 40, .inr (.inl (ml s 20)))), (ma 22, .inl (cy 0, 40, .inl (mr s 22))), (ma 23, .inl (cy 0, 40, .inl (mr s 23))), (ma 25, .inl (cy 0, 6, .inl (mr s 25))), (ma 26, .inl (cy 0, 10, .inl (mr s 26))), (ma 27, .inl (cy 1, 40, .inr (.inl (ml s 27)))), (ma 28, .inl (cy 0, 6, .inl (mr s 28))), (ma 29, .inl (cy 2, 6, .inl (mr s 29)))]
section MW
variable {C : gT} {cc : ByteArray} {nL : Nat} {Ts : List Cond} {own : String} {e0 : Nat} {rm : Room} {s : mS} {ma : Nat → Nat} {mc ms pc : Nat} {L : List (Nat × Value)} {st : List Value} {idx : Nat}
theorem k_get_thrown (E : gOk C cc nL Ts own e0 rm) (hin : ∀ w ∈ wsX60, w ∈ Ts) (hlk : Cond.fieldLink own idx "PermitWeaveModel" "thrown" "I" ∈ Ts) (d : decode cc pc = .ok (.getfield idx, 3)) (kk : G C (mW (xy C) ma s) mc ms (pc + 3) L (.int (mi s 0) :: st)) : G C (mW (xy C) ma s) mc ms pc L (.ref (ma 0) :: st) := fun H locs ls hP hD hS hL =>
  va_get E.exec E.code E.ts hin E.ow E.K hP 0 rfl rfl 0 (by decide) (E.ts _ hlk) (fun _ h => h) rfl d (kk H locs ls hP hD hS hL)
theorem k_put_thrown (E : gOk C cc nL Ts own e0 rm) (hin : ∀ w ∈ wsX60, w ∈ Ts) (hlk : Cond.fieldLink own idx "PermitWeaveModel" "thrown" "I" ∈ Ts) {v : Int32} (d : decode cc pc = .ok (.putfield idx, 3)) (kk : G C (mW (xy C) ma (muI s 0 v)) mc ms (pc + 3) L st) : G C (mW (xy C) ma s) mc ms pc L (.int v :: .ref (ma 0) :: st) := fun H locs ls hP hD hS hL =>
  va_put E.exec E.code E.ts hin tyX6 tyX6_ok nmX6 E.ow E.K hP hD hS 0 rfl rfl 0 (by decide) (E.ts _ hlk) (fun _ h => h) rfl (tyX6_ok 0 (by decide)) rfl rfl (Nat.le_of_ble_eq_true rfl) d (fun H1 locs1 h1 h2 h3 => kk H1 locs1 ls h1 h2 h3 hL)
theorem k_get_now (E : gOk C cc nL Ts own e0 rm) (hin : ∀ w ∈ wsX60, w ∈ Ts) (hlk : Cond.fieldLink own idx "PermitWeaveModel" "now" "I" ∈ Ts) (d : decode cc pc = .ok (.getfield idx, 3)) (kk : G C (mW (xy C) ma s) mc ms (pc + 3) L (.int (mi s 1) :: st)) : G C (mW (xy C) ma s) mc ms pc L (.ref (ma 0) :: st) := fun H locs ls hP hD hS hL =>
  va_get E.exec E.code E.ts hin E.ow E.K hP 0 rfl rfl 1 (by decide) (E.ts _ hlk) (fun _ h => h) rfl d (kk H locs ls hP hD hS hL)
theorem k_put_now (E : gOk C cc nL Ts own e0 rm) (hin : ∀ w ∈ wsX60, w ∈ Ts) (hlk : Cond.fieldLink own idx "PermitWeaveModel" "now" "I" ∈ Ts) {v : Int32} (d : decode cc pc = .ok (.putfield idx, 3)) (kk : G C (mW (xy C) ma (muI s 1 v)) mc ms (pc + 3) L st) : G C (mW (xy C) ma s) mc ms pc L (.int v :: .ref (ma 0) :: st) := fun H locs ls hP hD hS hL =>
  va_put E.exec E.code E.ts hin tyX6 tyX6_ok nmX6 E.ow E.K hP hD hS 0 rfl rfl 1 (by decide) (E.ts _ hlk) (fun _ h => h) rfl (tyX6_ok 1 (by decide)) rfl rfl (Nat.le_of_ble_eq_true rfl) d (fun H1 locs1 h1 h2 h3 => kk H1 locs1 ls h1 h2 h3 hL)
theorem k_get_one (E : gOk C cc nL Ts own e0 rm) (hin : ∀ w ∈ wsX60, w ∈ Ts) (hlk : Cond.fieldLink own idx "PermitWeaveModel" "one" "[I" ∈ Ts) (d : decode cc pc = .ok (.getfield idx, 3)) (kk : G C (mW (xy C) ma s) mc ms (pc + 3) L (.ref (ma 2) :: st)) : G C (mW (xy C) ma s) mc ms pc L (.ref (ma 0) :: st) := fun H locs ls hP hD hS hL =>
  va_get E.exec E.code E.ts hin E.ow E.K hP 0 rfl rfl 2 (by decide) (E.ts _ hlk) (fun _ h => h) rfl d (kk H locs ls hP hD hS hL)
theorem k_get_other (E : gOk C cc nL Ts own e0 rm) (hin : ∀ w ∈ wsX60, w ∈ Ts) (hlk : Cond.fieldLink own idx "PermitWeaveModel" "other" "[I" ∈ Ts) (d : decode cc pc = .ok (.getfield idx, 3)) (kk : G C (mW (xy C) ma s) mc ms (pc + 3) L (.ref (ma 3) :: st)) : G C (mW (xy C) ma s) mc ms pc L (.ref (ma 0) :: st) := fun H locs ls hP hD hS hL =>
  va_get E.exec E.code E.ts hin E.ow E.K hP 0 rfl rfl 3 (by decide) (E.ts _ hlk) (fun _ h => h) rfl d (kk H locs ls hP hD hS hL)
theorem k_get_takes (E : gOk C cc nL Ts own e0 rm) (hin : ∀ w ∈ wsX60, w ∈ Ts) (hlk : Cond.fieldLink own idx "PermitWeaveModel" "takes" "[I" ∈ Ts) (d : decode cc pc = .ok (.getfield idx, 3)) (kk : G C (mW (xy C) ma s) mc ms (pc + 3) L (.ref (ma 4) :: st)) : G C (mW (xy C) ma s) mc ms pc L (.ref (ma 0) :: st) := fun H locs ls hP hD hS hL =>
  va_get E.exec E.code E.ts hin E.ow E.K hP 0 rfl rfl 4 (by decide) (E.ts _ hlk) (fun _ h => h) rfl d (kk H locs ls hP hD hS hL)
theorem k_get_lanes (E : gOk C cc nL Ts own e0 rm) (hin : ∀ w ∈ wsX60, w ∈ Ts) (hlk : Cond.fieldLink own idx "PermitWeaveModel" "lanes" "I" ∈ Ts) (d : decode cc pc = .ok (.getfield idx, 3)) (kk : G C (mW (xy C) ma s) mc ms (pc + 3) L (.int (mi s 5) :: st)) : G C (mW (xy C) ma s) mc ms pc L (.ref (ma 0) :: st) := fun H locs ls hP hD hS hL =>
  va_get E.exec E.code E.ts hin E.ow E.K hP 0 rfl rfl 5 (by decide) (E.ts _ hlk) (fun _ h => h) rfl d (kk H locs ls hP hD hS hL)
theorem k_put_lanes (E : gOk C cc nL Ts own e0 rm) (hin : ∀ w ∈ wsX60, w ∈ Ts) (hlk : Cond.fieldLink own idx "PermitWeaveModel" "lanes" "I" ∈ Ts) {v : Int32} (d : decode cc pc = .ok (.putfield idx, 3)) (kk : G C (mW (xy C) ma (muI s 5 v)) mc ms (pc + 3) L st) : G C (mW (xy C) ma s) mc ms pc L (.int v :: .ref (ma 0) :: st) := fun H locs ls hP hD hS hL =>
  va_put E.exec E.code E.ts hin tyX6 tyX6_ok nmX6 E.ow E.K hP hD hS 0 rfl rfl 5 (by decide) (E.ts _ hlk) (fun _ h => h) rfl (tyX6_ok 5 (by decide)) rfl rfl (Nat.le_of_ble_eq_true rfl) d (fun H1 locs1 h1 h2 h3 => kk H1 locs1 ls h1 h2 h3 hL)
theorem k_get_passengers (E : gOk C cc nL Ts own e0 rm) (hin : ∀ w ∈ wsX60, w ∈ Ts) (hlk : Cond.fieldLink own idx "PermitWeaveModel" "passengers" "[I" ∈ Ts) (d : decode cc pc = .ok (.getfield idx, 3)) (kk : G C (mW (xy C) ma s) mc ms (pc + 3) L (.ref (ma 6) :: st)) : G C (mW (xy C) ma s) mc ms pc L (.ref (ma 0) :: st) := fun H locs ls hP hD hS hL =>
  va_get E.exec E.code E.ts hin E.ow E.K hP 0 rfl rfl 6 (by decide) (E.ts _ hlk) (fun _ h => h) rfl d (kk H locs ls hP hD hS hL)
theorem k_get_stop (E : gOk C cc nL Ts own e0 rm) (hin : ∀ w ∈ wsX60, w ∈ Ts) (hlk : Cond.fieldLink own idx "PermitWeaveModel" "stop" "[I" ∈ Ts) (d : decode cc pc = .ok (.getfield idx, 3)) (kk : G C (mW (xy C) ma s) mc ms (pc + 3) L (.ref (ma 7) :: st)) : G C (mW (xy C) ma s) mc ms pc L (.ref (ma 0) :: st) := fun H locs ls hP hD hS hL =>
  va_get E.exec E.code E.ts hin E.ow E.K hP 0 rfl rfl 7 (by decide) (E.ts _ hlk) (fun _ h => h) rfl d (kk H locs ls hP hD hS hL)
theorem k_get_stops (E : gOk C cc nL Ts own e0 rm) (hin : ∀ w ∈ wsX60, w ∈ Ts) (hlk : Cond.fieldLink own idx "PermitWeaveModel" "stops" "[I" ∈ Ts) (d : decode cc pc = .ok (.getfield idx, 3)) (kk : G C (mW (xy C) ma s) mc ms (pc + 3) L (.ref (ma 8) :: st)) : G C (mW (xy C) ma s) mc ms pc L (.ref (ma 0) :: st) := fun H locs ls hP hD hS hL =>
  va_get E.exec E.code E.ts hin E.ow E.K hP 0 rfl rfl 8 (by decide) (E.ts _ hlk) (fun _ h => h) rfl d (kk H locs ls hP hD hS hL)
theorem k_get_minutes (E : gOk C cc nL Ts own e0 rm) (hin : ∀ w ∈ wsX60, w ∈ Ts) (hlk : Cond.fieldLink own idx "PermitWeaveModel" "minutes" "[J" ∈ Ts) (d : decode cc pc = .ok (.getfield idx, 3)) (kk : G C (mW (xy C) ma s) mc ms (pc + 3) L (.ref (ma 9) :: st)) : G C (mW (xy C) ma s) mc ms pc L (.ref (ma 0) :: st) := fun H locs ls hP hD hS hL =>
  va_get E.exec E.code E.ts hin E.ow E.K hP 0 rfl rfl 9 (by decide) (E.ts _ hlk) (fun _ h => h) rfl d (kk H locs ls hP hD hS hL)
theorem k_get_lines (E : gOk C cc nL Ts own e0 rm) (hin : ∀ w ∈ wsX60, w ∈ Ts) (hlk : Cond.fieldLink own idx "PermitWeaveModel" "lines" "I" ∈ Ts) (d : decode cc pc = .ok (.getfield idx, 3)) (kk : G C (mW (xy C) ma s) mc ms (pc + 3) L (.int (mi s 10) :: st)) : G C (mW (xy C) ma s) mc ms pc L (.ref (ma 0) :: st) := fun H locs ls hP hD hS hL =>
  va_get E.exec E.code E.ts hin E.ow E.K hP 0 rfl rfl 10 (by decide) (E.ts _ hlk) (fun _ h => h) rfl d (kk H locs ls hP hD hS hL)
theorem k_put_lines (E : gOk C cc nL Ts own e0 rm) (hin : ∀ w ∈ wsX60, w ∈ Ts) (hlk : Cond.fieldLink own idx "PermitWeaveModel" "lines" "I" ∈ Ts) {v : Int32} (d : decode cc pc = .ok (.putfield idx, 3)) (kk : G C (mW (xy C) ma (muI s 10 v)) mc ms (pc + 3) L st) : G C (mW (xy C) ma s) mc ms pc L (.int v :: .ref (ma 0) :: st) := fun H locs ls hP hD hS hL =>
  va_put E.exec E.code E.ts hin tyX6 tyX6_ok nmX6 E.ow E.K hP hD hS 0 rfl rfl 10 (by decide) (E.ts _ hlk) (fun _ h => h) rfl (tyX6_ok 10 (by decide)) rfl rfl (Nat.le_of_ble_eq_true rfl) d (fun H1 locs1 h1 h2 h3 => kk H1 locs1 ls h1 h2 h3 hL)
theorem k_get_applicant (E : gOk C cc nL Ts own e0 rm) (hin : ∀ w ∈ wsX60, w ∈ Ts) (hlk : Cond.fieldLink own idx "PermitWeaveModel" "applicant" "[I" ∈ Ts) (d : decode cc pc = .ok (.getfield idx, 3)) (kk : G C (mW (xy C) ma s) mc ms (pc + 3) L (.ref (ma 11) :: st)) : G C (mW (xy C) ma s) mc ms pc L (.ref (ma 0) :: st) := fun H locs ls hP hD hS hL =>
  va_get E.exec E.code E.ts hin E.ow E.K hP 0 rfl rfl 11 (by decide) (E.ts _ hlk) (fun _ h => h) rfl d (kk H locs ls hP hD hS hL)
theorem k_get_lane (E : gOk C cc nL Ts own e0 rm) (hin : ∀ w ∈ wsX60, w ∈ Ts) (hlk : Cond.fieldLink own idx "PermitWeaveModel" "lane" "[I" ∈ Ts) (d : decode cc pc = .ok (.getfield idx, 3)) (kk : G C (mW (xy C) ma s) mc ms (pc + 3) L (.ref (ma 12) :: st)) : G C (mW (xy C) ma s) mc ms pc L (.ref (ma 0) :: st) := fun H locs ls hP hD hS hL =>
  va_get E.exec E.code E.ts hin E.ow E.K hP 0 rfl rfl 12 (by decide) (E.ts _ hlk) (fun _ h => h) rfl d (kk H locs ls hP hD hS hL)
theorem k_get_from (E : gOk C cc nL Ts own e0 rm) (hin : ∀ w ∈ wsX60, w ∈ Ts) (hlk : Cond.fieldLink own idx "PermitWeaveModel" "from" "[I" ∈ Ts) (d : decode cc pc = .ok (.getfield idx, 3)) (kk : G C (mW (xy C) ma s) mc ms (pc + 3) L (.ref (ma 13) :: st)) : G C (mW (xy C) ma s) mc ms pc L (.ref (ma 0) :: st) := fun H locs ls hP hD hS hL =>
  va_get E.exec E.code E.ts hin E.ow E.K hP 0 rfl rfl 13 (by decide) (E.ts _ hlk) (fun _ h => h) rfl d (kk H locs ls hP hD hS hL)
theorem k_get_end (E : gOk C cc nL Ts own e0 rm) (hin : ∀ w ∈ wsX60, w ∈ Ts) (hlk : Cond.fieldLink own idx "PermitWeaveModel" "end" "[I" ∈ Ts) (d : decode cc pc = .ok (.getfield idx, 3)) (kk : G C (mW (xy C) ma s) mc ms (pc + 3) L (.ref (ma 14) :: st)) : G C (mW (xy C) ma s) mc ms pc L (.ref (ma 0) :: st) := fun H locs ls hP hD hS hL =>
  va_get E.exec E.code E.ts hin E.ow E.K hP 0 rfl rfl 14 (by decide) (E.ts _ hlk) (fun _ h => h) rfl d (kk H locs ls hP hD hS hL)
theorem k_get_needs (E : gOk C cc nL Ts own e0 rm) (hin : ∀ w ∈ wsX60, w ∈ Ts) (hlk : Cond.fieldLink own idx "PermitWeaveModel" "needs" "[I" ∈ Ts) (d : decode cc pc = .ok (.getfield idx, 3)) (kk : G C (mW (xy C) ma s) mc ms (pc + 3) L (.ref (ma 15) :: st)) : G C (mW (xy C) ma s) mc ms pc L (.ref (ma 0) :: st) := fun H locs ls hP hD hS hL =>
  va_get E.exec E.code E.ts hin E.ow E.K hP 0 rfl rfl 15 (by decide) (E.ts _ hlk) (fun _ h => h) rfl d (kk H locs ls hP hD hS hL)
theorem k_get_isUrgent (E : gOk C cc nL Ts own e0 rm) (hin : ∀ w ∈ wsX60, w ∈ Ts) (hlk : Cond.fieldLink own idx "PermitWeaveModel" "isUrgent" "[Z" ∈ Ts) (d : decode cc pc = .ok (.getfield idx, 3)) (kk : G C (mW (xy C) ma s) mc ms (pc + 3) L (.ref (ma 16) :: st)) : G C (mW (xy C) ma s) mc ms pc L (.ref (ma 0) :: st) := fun H locs ls hP hD hS hL =>
  va_get E.exec E.code E.ts hin E.ow E.K hP 0 rfl rfl 16 (by decide) (E.ts _ hlk) (fun _ h => h) rfl d (kk H locs ls hP hD hS hL)
theorem k_get_state (E : gOk C cc nL Ts own e0 rm) (hin : ∀ w ∈ wsX60, w ∈ Ts) (hlk : Cond.fieldLink own idx "PermitWeaveModel" "state" "[I" ∈ Ts) (d : decode cc pc = .ok (.getfield idx, 3)) (kk : G C (mW (xy C) ma s) mc ms (pc + 3) L (.ref (ma 17) :: st)) : G C (mW (xy C) ma s) mc ms pc L (.ref (ma 0) :: st) := fun H locs ls hP hD hS hL =>
  va_get E.exec E.code E.ts hin E.ow E.K hP 0 rfl rfl 17 (by decide) (E.ts _ hlk) (fun _ h => h) rfl d (kk H locs ls hP hD hS hL)
theorem k_get_cause (E : gOk C cc nL Ts own e0 rm) (hin : ∀ w ∈ wsX60, w ∈ Ts) (hlk : Cond.fieldLink own idx "PermitWeaveModel" "cause" "[I" ∈ Ts) (d : decode cc pc = .ok (.getfield idx, 3)) (kk : G C (mW (xy C) ma s) mc ms (pc + 3) L (.ref (ma 18) :: st)) : G C (mW (xy C) ma s) mc ms pc L (.ref (ma 0) :: st) := fun H locs ls hP hD hS hL =>
  va_get E.exec E.code E.ts hin E.ow E.K hP 0 rfl rfl 18 (by decide) (E.ts _ hlk) (fun _ h => h) rfl d (kk H locs ls hP hD hS hL)
theorem k_get_opening (E : gOk C cc nL Ts own e0 rm) (hin : ∀ w ∈ wsX60, w ∈ Ts) (hlk : Cond.fieldLink own idx "PermitWeaveModel" "opening" "[I" ∈ Ts) (d : decode cc pc = .ok (.getfield idx, 3)) (kk : G C (mW (xy C) ma s) mc ms (pc + 3) L (.ref (ma 19) :: st)) : G C (mW (xy C) ma s) mc ms pc L (.ref (ma 0) :: st) := fun H locs ls hP hD hS hL =>
  va_get E.exec E.code E.ts hin E.ow E.K hP 0 rfl rfl 19 (by decide) (E.ts _ hlk) (fun _ h => h) rfl d (kk H locs ls hP hD hS hL)
theorem k_get_damage (E : gOk C cc nL Ts own e0 rm) (hin : ∀ w ∈ wsX60, w ∈ Ts) (hlk : Cond.fieldLink own idx "PermitWeaveModel" "damage" "[J" ∈ Ts) (d : decode cc pc = .ok (.getfield idx, 3)) (kk : G C (mW (xy C) ma s) mc ms (pc + 3) L (.ref (ma 20) :: st)) : G C (mW (xy C) ma s) mc ms pc L (.ref (ma 0) :: st) := fun H locs ls hP hD hS hL =>
  va_get E.exec E.code E.ts hin E.ow E.K hP 0 rfl rfl 20 (by decide) (E.ts _ hlk) (fun _ h => h) rfl d (kk H locs ls hP hD hS hL)
theorem k_get_permits (E : gOk C cc nL Ts own e0 rm) (hin : ∀ w ∈ wsX60, w ∈ Ts) (hlk : Cond.fieldLink own idx "PermitWeaveModel" "permits" "I" ∈ Ts) (d : decode cc pc = .ok (.getfield idx, 3)) (kk : G C (mW (xy C) ma s) mc ms (pc + 3) L (.int (mi s 21) :: st)) : G C (mW (xy C) ma s) mc ms pc L (.ref (ma 0) :: st) := fun H locs ls hP hD hS hL =>
  va_get E.exec E.code E.ts hin E.ow E.K hP 0 rfl rfl 21 (by decide) (E.ts _ hlk) (fun _ h => h) rfl d (kk H locs ls hP hD hS hL)
theorem k_put_permits (E : gOk C cc nL Ts own e0 rm) (hin : ∀ w ∈ wsX60, w ∈ Ts) (hlk : Cond.fieldLink own idx "PermitWeaveModel" "permits" "I" ∈ Ts) {v : Int32} (d : decode cc pc = .ok (.putfield idx, 3)) (kk : G C (mW (xy C) ma (muI s 21 v)) mc ms (pc + 3) L st) : G C (mW (xy C) ma s) mc ms pc L (.int v :: .ref (ma 0) :: st) := fun H locs ls hP hD hS hL =>
  va_put E.exec E.code E.ts hin tyX6 tyX6_ok nmX6 E.ow E.K hP hD hS 0 rfl rfl 21 (by decide) (E.ts _ hlk) (fun _ h => h) rfl (tyX6_ok 21 (by decide)) rfl rfl (Nat.le_of_ble_eq_true rfl) d (fun H1 locs1 h1 h2 h3 => kk H1 locs1 ls h1 h2 h3 hL)
theorem k_get_first (E : gOk C cc nL Ts own e0 rm) (hin : ∀ w ∈ wsX60, w ∈ Ts) (hlk : Cond.fieldLink own idx "PermitWeaveModel" "first" "[I" ∈ Ts) (d : decode cc pc = .ok (.getfield idx, 3)) (kk : G C (mW (xy C) ma s) mc ms (pc + 3) L (.ref (ma 22) :: st)) : G C (mW (xy C) ma s) mc ms pc L (.ref (ma 0) :: st) := fun H locs ls hP hD hS hL =>
  va_get E.exec E.code E.ts hin E.ow E.K hP 0 rfl rfl 22 (by decide) (E.ts _ hlk) (fun _ h => h) rfl d (kk H locs ls hP hD hS hL)
theorem k_get_behind (E : gOk C cc nL Ts own e0 rm) (hin : ∀ w ∈ wsX60, w ∈ Ts) (hlk : Cond.fieldLink own idx "PermitWeaveModel" "behind" "[I" ∈ Ts) (d : decode cc pc = .ok (.getfield idx, 3)) (kk : G C (mW (xy C) ma s) mc ms (pc + 3) L (.ref (ma 23) :: st)) : G C (mW (xy C) ma s) mc ms pc L (.ref (ma 0) :: st) := fun H locs ls hP hD hS hL =>
  va_get E.exec E.code E.ts hin E.ow E.K hP 0 rfl rfl 23 (by decide) (E.ts _ hlk) (fun _ h => h) rfl d (kk H locs ls hP hD hS hL)
theorem k_get_openings (E : gOk C cc nL Ts own e0 rm) (hin : ∀ w ∈ wsX60, w ∈ Ts) (hlk : Cond.fieldLink own idx "PermitWeaveModel" "openings" "I" ∈ Ts) (d : decode cc pc = .ok (.getfield idx, 3)) (kk : G C (mW (xy C) ma s) mc ms (pc + 3) L (.int (mi s 24) :: st)) : G C (mW (xy C) ma s) mc ms pc L (.ref (ma 0) :: st) := fun H locs ls hP hD hS hL =>
  va_get E.exec E.code E.ts hin E.ow E.K hP 0 rfl rfl 24 (by decide) (E.ts _ hlk) (fun _ h => h) rfl d (kk H locs ls hP hD hS hL)
theorem k_put_openings (E : gOk C cc nL Ts own e0 rm) (hin : ∀ w ∈ wsX60, w ∈ Ts) (hlk : Cond.fieldLink own idx "PermitWeaveModel" "openings" "I" ∈ Ts) {v : Int32} (d : decode cc pc = .ok (.putfield idx, 3)) (kk : G C (mW (xy C) ma (muI s 24 v)) mc ms (pc + 3) L st) : G C (mW (xy C) ma s) mc ms pc L (.int v :: .ref (ma 0) :: st) := fun H locs ls hP hD hS hL =>
  va_put E.exec E.code E.ts hin tyX6 tyX6_ok nmX6 E.ow E.K hP hD hS 0 rfl rfl 24 (by decide) (E.ts _ hlk) (fun _ h => h) rfl (tyX6_ok 24 (by decide)) rfl rfl (Nat.le_of_ble_eq_true rfl) d (fun H1 locs1 h1 h2 h3 => kk H1 locs1 ls h1 h2 h3 hL)
theorem k_get_points (E : gOk C cc nL Ts own e0 rm) (hin : ∀ w ∈ wsX60, w ∈ Ts) (hlk : Cond.fieldLink own idx "PermitWeaveModel" "points" "[I" ∈ Ts) (d : decode cc pc = .ok (.getfield idx, 3)) (kk : G C (mW (xy C) ma s) mc ms (pc + 3) L (.ref (ma 25) :: st)) : G C (mW (xy C) ma s) mc ms pc L (.ref (ma 0) :: st) := fun H locs ls hP hD hS hL =>
  va_get E.exec E.code E.ts hin E.ow E.K hP 0 rfl rfl 25 (by decide) (E.ts _ hlk) (fun _ h => h) rfl d (kk H locs ls hP hD hS hL)
theorem k_get_far (E : gOk C cc nL Ts own e0 rm) (hin : ∀ w ∈ wsX60, w ∈ Ts) (hlk : Cond.fieldLink own idx "PermitWeaveModel" "far" "[I" ∈ Ts) (d : decode cc pc = .ok (.getfield idx, 3)) (kk : G C (mW (xy C) ma s) mc ms (pc + 3) L (.ref (ma 26) :: st)) : G C (mW (xy C) ma s) mc ms pc L (.ref (ma 0) :: st) := fun H locs ls hP hD hS hL =>
  va_get E.exec E.code E.ts hin E.ow E.K hP 0 rfl rfl 26 (by decide) (E.ts _ hlk) (fun _ h => h) rfl d (kk H locs ls hP hD hS hL)
theorem k_get_costs (E : gOk C cc nL Ts own e0 rm) (hin : ∀ w ∈ wsX60, w ∈ Ts) (hlk : Cond.fieldLink own idx "PermitWeaveModel" "costs" "[J" ∈ Ts) (d : decode cc pc = .ok (.getfield idx, 3)) (kk : G C (mW (xy C) ma s) mc ms (pc + 3) L (.ref (ma 27) :: st)) : G C (mW (xy C) ma s) mc ms pc L (.ref (ma 0) :: st) := fun H locs ls hP hD hS hL =>
  va_get E.exec E.code E.ts hin E.ow E.K hP 0 rfl rfl 27 (by decide) (E.ts _ hlk) (fun _ h => h) rfl d (kk H locs ls hP hD hS hL)
theorem k_get_detours (E : gOk C cc nL Ts own e0 rm) (hin : ∀ w ∈ wsX60, w ∈ Ts) (hlk : Cond.fieldLink own idx "PermitWeaveModel" "detours" "[I" ∈ Ts) (d : decode cc pc = .ok (.getfield idx, 3)) (kk : G C (mW (xy C) ma s) mc ms (pc + 3) L (.ref (ma 28) :: st)) : G C (mW (xy C) ma s) mc ms pc L (.ref (ma 0) :: st) := fun H locs ls hP hD hS hL =>
  va_get E.exec E.code E.ts hin E.ow E.K hP 0 rfl rfl 28 (by decide) (E.ts _ hlk) (fun _ h => h) rfl d (kk H locs ls hP hD hS hL)
theorem k_get_gets (E : gOk C cc nL Ts own e0 rm) (hin : ∀ w ∈ wsX60, w ∈ Ts) (hlk : Cond.fieldLink own idx "PermitWeaveModel" "gets" "[Z" ∈ Ts) (d : decode cc pc = .ok (.getfield idx, 3)) (kk : G C (mW (xy C) ma s) mc ms (pc + 3) L (.ref (ma 29) :: st)) : G C (mW (xy C) ma s) mc ms pc L (.ref (ma 0) :: st) := fun H locs ls hP hD hS hL =>
  va_get E.exec E.code E.ts hin E.ow E.K hP 0 rfl rfl 29 (by decide) (E.ts _ hlk) (fun _ h => h) rfl d (kk H locs ls hP hD hS hL)
theorem k_ald_one (E : gOk C cc nL Ts own e0 rm) {ix : Int32} (b : Nat) (hi : ix = nI b) (hb : b < 24) (d : decode cc pc = .ok (.iaload, 1)) (kk : G C (mW (xy C) ma s) mc ms (pc + 1) L (.int (mr s 2 b) :: st)) : G C (mW (xy C) ma s) mc ms pc L (.int ix :: .ref (ma 2) :: st) := fun H locs ls hP hD hS hL => by
  obtain ⟨h1, h2⟩ := nI_at hi hb (by decide)
  refine va_iald E.exec E.code E.K hP 1 0 rfl rfl h1 d ?_
  rw [h2]
  exact kk H locs ls hP hD hS hL
theorem k_ast_one (E : gOk C cc nL Ts own e0 rm) {ix : Int32} {v : Int32} (b : Nat) (hi : ix = nI b) (hb : b < 24) (d : decode cc pc = .ok (.iastore, 1)) (kk : G C (mW (xy C) ma (muR s 2 b v)) mc ms (pc + 1) L st) : G C (mW (xy C) ma s) mc ms pc L (.int v :: .int ix :: .ref (ma 2) :: st) := fun H locs ls hP hD hS hL => by
  obtain ⟨h1, h2⟩ := nI_at hi hb (by decide)
  refine va_iast E.exec E.code E.K hP hD hS 1 0 rfl rfl h1 d (fun H1 locs1 g1 g2 g3 => ?_)
  rw [h2] at g1 g2
  exact kk H1 locs1 ls g1 g2 g3 hL
theorem k_ald_other (E : gOk C cc nL Ts own e0 rm) {ix : Int32} (b : Nat) (hi : ix = nI b) (hb : b < 24) (d : decode cc pc = .ok (.iaload, 1)) (kk : G C (mW (xy C) ma s) mc ms (pc + 1) L (.int (mr s 3 b) :: st)) : G C (mW (xy C) ma s) mc ms pc L (.int ix :: .ref (ma 3) :: st) := fun H locs ls hP hD hS hL => by
  obtain ⟨h1, h2⟩ := nI_at hi hb (by decide)
  refine va_iald E.exec E.code E.K hP 2 0 rfl rfl h1 d ?_
  rw [h2]
  exact kk H locs ls hP hD hS hL
theorem k_ast_other (E : gOk C cc nL Ts own e0 rm) {ix : Int32} {v : Int32} (b : Nat) (hi : ix = nI b) (hb : b < 24) (d : decode cc pc = .ok (.iastore, 1)) (kk : G C (mW (xy C) ma (muR s 3 b v)) mc ms (pc + 1) L st) : G C (mW (xy C) ma s) mc ms pc L (.int v :: .int ix :: .ref (ma 3) :: st) := fun H locs ls hP hD hS hL => by
  obtain ⟨h1, h2⟩ := nI_at hi hb (by decide)
  refine va_iast E.exec E.code E.K hP hD hS 2 0 rfl rfl h1 d (fun H1 locs1 g1 g2 g3 => ?_)
  rw [h2] at g1 g2
  exact kk H1 locs1 ls g1 g2 g3 hL
theorem k_ald_takes (E : gOk C cc nL Ts own e0 rm) {ix : Int32} (b : Nat) (hi : ix = nI b) (hb : b < 24) (d : decode cc pc = .ok (.iaload, 1)) (kk : G C (mW (xy C) ma s) mc ms (pc + 1) L (.int (mr s 4 b) :: st)) : G C (mW (xy C) ma s) mc ms pc L (.int ix :: .ref (ma 4) :: st) := fun H locs ls hP hD hS hL => by
  obtain ⟨h1, h2⟩ := nI_at hi hb (by decide)
  refine va_iald E.exec E.code E.K hP 3 0 rfl rfl h1 d ?_
  rw [h2]
  exact kk H locs ls hP hD hS hL
theorem k_ast_takes (E : gOk C cc nL Ts own e0 rm) {ix : Int32} {v : Int32} (b : Nat) (hi : ix = nI b) (hb : b < 24) (d : decode cc pc = .ok (.iastore, 1)) (kk : G C (mW (xy C) ma (muR s 4 b v)) mc ms (pc + 1) L st) : G C (mW (xy C) ma s) mc ms pc L (.int v :: .int ix :: .ref (ma 4) :: st) := fun H locs ls hP hD hS hL => by
  obtain ⟨h1, h2⟩ := nI_at hi hb (by decide)
  refine va_iast E.exec E.code E.K hP hD hS 3 0 rfl rfl h1 d (fun H1 locs1 g1 g2 g3 => ?_)
  rw [h2] at g1 g2
  exact kk H1 locs1 ls g1 g2 g3 hL
theorem k_ald_passengers (E : gOk C cc nL Ts own e0 rm) {ix : Int32} (b : Nat) (hi : ix = nI b) (hb : b < 6) (d : decode cc pc = .ok (.iaload, 1)) (kk : G C (mW (xy C) ma s) mc ms (pc + 1) L (.int (mr s 6 b) :: st)) : G C (mW (xy C) ma s) mc ms pc L (.int ix :: .ref (ma 6) :: st) := fun H locs ls hP hD hS hL => by
  obtain ⟨h1, h2⟩ := nI_at hi hb (by decide)
  refine va_iald E.exec E.code E.K hP 4 0 rfl rfl h1 d ?_
  rw [h2]
  exact kk H locs ls hP hD hS hL
theorem k_ast_passengers (E : gOk C cc nL Ts own e0 rm) {ix : Int32} {v : Int32} (b : Nat) (hi : ix = nI b) (hb : b < 6) (d : decode cc pc = .ok (.iastore, 1)) (kk : G C (mW (xy C) ma (muR s 6 b v)) mc ms (pc + 1) L st) : G C (mW (xy C) ma s) mc ms pc L (.int v :: .int ix :: .ref (ma 6) :: st) := fun H locs ls hP hD hS hL => by
  obtain ⟨h1, h2⟩ := nI_at hi hb (by decide)
  refine va_iast E.exec E.code E.K hP hD hS 4 0 rfl rfl h1 d (fun H1 locs1 g1 g2 g3 => ?_)
  rw [h2] at g1 g2
  exact kk H1 locs1 ls g1 g2 g3 hL
theorem k_ald_stop (E : gOk C cc nL Ts own e0 rm) {ix : Int32} (b : Nat) (hi : ix = nI b) (hb : b < 36) (d : decode cc pc = .ok (.iaload, 1)) (kk : G C (mW (xy C) ma s) mc ms (pc + 1) L (.int (mr s 7 b) :: st)) : G C (mW (xy C) ma s) mc ms pc L (.int ix :: .ref (ma 7) :: st) := fun H locs ls hP hD hS hL => by
  obtain ⟨h1, h2⟩ := nI_at hi hb (by decide)
  refine va_iald E.exec E.code E.K hP 5 0 rfl rfl h1 d ?_
  rw [h2]
  exact kk H locs ls hP hD hS hL
theorem k_ast_stop (E : gOk C cc nL Ts own e0 rm) {ix : Int32} {v : Int32} (b : Nat) (hi : ix = nI b) (hb : b < 36) (d : decode cc pc = .ok (.iastore, 1)) (kk : G C (mW (xy C) ma (muR s 7 b v)) mc ms (pc + 1) L st) : G C (mW (xy C) ma s) mc ms pc L (.int v :: .int ix :: .ref (ma 7) :: st) := fun H locs ls hP hD hS hL => by
  obtain ⟨h1, h2⟩ := nI_at hi hb (by decide)
  refine va_iast E.exec E.code E.K hP hD hS 5 0 rfl rfl h1 d (fun H1 locs1 g1 g2 g3 => ?_)
  rw [h2] at g1 g2
  exact kk H1 locs1 ls g1 g2 g3 hL
theorem k_ald_stops (E : gOk C cc nL Ts own e0 rm) {ix : Int32} (b : Nat) (hi : ix = nI b) (hb : b < 6) (d : decode cc pc = .ok (.iaload, 1)) (kk : G C (mW (xy C) ma s) mc ms (pc + 1) L (.int (mr s 8 b) :: st)) : G C (mW (xy C) ma s) mc ms pc L (.int ix :: .ref (ma 8) :: st) := fun H locs ls hP hD hS hL => by
  obtain ⟨h1, h2⟩ := nI_at hi hb (by decide)
  refine va_iald E.exec E.code E.K hP 6 0 rfl rfl h1 d ?_
  rw [h2]
  exact kk H locs ls hP hD hS hL
theorem k_ast_stops (E : gOk C cc nL Ts own e0 rm) {ix : Int32} {v : Int32} (b : Nat) (hi : ix = nI b) (hb : b < 6) (d : decode cc pc = .ok (.iastore, 1)) (kk : G C (mW (xy C) ma (muR s 8 b v)) mc ms (pc + 1) L st) : G C (mW (xy C) ma s) mc ms pc L (.int v :: .int ix :: .ref (ma 8) :: st) := fun H locs ls hP hD hS hL => by
  obtain ⟨h1, h2⟩ := nI_at hi hb (by decide)
  refine va_iast E.exec E.code E.K hP hD hS 6 0 rfl rfl h1 d (fun H1 locs1 g1 g2 g3 => ?_)
  rw [h2] at g1 g2
  exact kk H1 locs1 ls g1 g2 g3 hL
theorem k_ald_minutes (E : gOk C cc nL Ts own e0 rm) {ix : Int32} (b : Nat) (hi : ix = nI b) (hb : b < 6) (d : decode cc pc = .ok (.laload, 1)) (kk : G C (mW (xy C) ma s) mc ms (pc + 1) L (.long (ml s 9 b) :: st)) : G C (mW (xy C) ma s) mc ms pc L (.int ix :: .ref (ma 9) :: st) := fun H locs ls hP hD hS hL => by
  obtain ⟨h1, h2⟩ := nI_at hi hb (by decide)
  refine va_lald E.exec E.code E.K hP 7 1 rfl rfl h1 d ?_
  rw [h2]
  exact kk H locs ls hP hD hS hL
theorem k_ast_minutes (E : gOk C cc nL Ts own e0 rm) {ix : Int32} {v : Int64} (b : Nat) (hi : ix = nI b) (hb : b < 6) (d : decode cc pc = .ok (.lastore, 1)) (kk : G C (mW (xy C) ma (muL s 9 b v)) mc ms (pc + 1) L st) : G C (mW (xy C) ma s) mc ms pc L (.long v :: .int ix :: .ref (ma 9) :: st) := fun H locs ls hP hD hS hL => by
  obtain ⟨h1, h2⟩ := nI_at hi hb (by decide)
  refine va_last E.exec E.code E.K hP hD hS 7 1 rfl rfl h1 d (fun H1 locs1 g1 g2 g3 => ?_)
  rw [h2] at g1 g2
  exact kk H1 locs1 ls g1 g2 g3 hL
theorem k_ald_applicant (E : gOk C cc nL Ts own e0 rm) {ix : Int32} (b : Nat) (hi : ix = nI b) (hb : b < 40) (d : decode cc pc = .ok (.iaload, 1)) (kk : G C (mW (xy C) ma s) mc ms (pc + 1) L (.int (mr s 11 b) :: st)) : G C (mW (xy C) ma s) mc ms pc L (.int ix :: .ref (ma 11) :: st) := fun H locs ls hP hD hS hL => by
  obtain ⟨h1, h2⟩ := nI_at hi hb (by decide)
  refine va_iald E.exec E.code E.K hP 8 0 rfl rfl h1 d ?_
  rw [h2]
  exact kk H locs ls hP hD hS hL
theorem k_ast_applicant (E : gOk C cc nL Ts own e0 rm) {ix : Int32} {v : Int32} (b : Nat) (hi : ix = nI b) (hb : b < 40) (d : decode cc pc = .ok (.iastore, 1)) (kk : G C (mW (xy C) ma (muR s 11 b v)) mc ms (pc + 1) L st) : G C (mW (xy C) ma s) mc ms pc L (.int v :: .int ix :: .ref (ma 11) :: st) := fun H locs ls hP hD hS hL => by
  obtain ⟨h1, h2⟩ := nI_at hi hb (by decide)
  refine va_iast E.exec E.code E.K hP hD hS 8 0 rfl rfl h1 d (fun H1 locs1 g1 g2 g3 => ?_)
  rw [h2] at g1 g2
  exact kk H1 locs1 ls g1 g2 g3 hL
theorem k_ald_lane (E : gOk C cc nL Ts own e0 rm) {ix : Int32} (b : Nat) (hi : ix = nI b) (hb : b < 40) (d : decode cc pc = .ok (.iaload, 1)) (kk : G C (mW (xy C) ma s) mc ms (pc + 1) L (.int (mr s 12 b) :: st)) : G C (mW (xy C) ma s) mc ms pc L (.int ix :: .ref (ma 12) :: st) := fun H locs ls hP hD hS hL => by
  obtain ⟨h1, h2⟩ := nI_at hi hb (by decide)
  refine va_iald E.exec E.code E.K hP 9 0 rfl rfl h1 d ?_
  rw [h2]
  exact kk H locs ls hP hD hS hL
theorem k_ast_lane (E : gOk C cc nL Ts own e0 rm) {ix : Int32} {v : Int32} (b : Nat) (hi : ix = nI b) (hb : b < 40) (d : decode cc pc = .ok (.iastore, 1)) (kk : G C (mW (xy C) ma (muR s 12 b v)) mc ms (pc + 1) L st) : G C (mW (xy C) ma s) mc ms pc L (.int v :: .int ix :: .ref (ma 12) :: st) := fun H locs ls hP hD hS hL => by
  obtain ⟨h1, h2⟩ := nI_at hi hb (by decide)
  refine va_iast E.exec E.code E.K hP hD hS 9 0 rfl rfl h1 d (fun H1 locs1 g1 g2 g3 => ?_)
  rw [h2] at g1 g2
  exact kk H1 locs1 ls g1 g2 g3 hL
theorem k_ald_from (E : gOk C cc nL Ts own e0 rm) {ix : Int32} (b : Nat) (hi : ix = nI b) (hb : b < 40) (d : decode cc pc = .ok (.iaload, 1)) (kk : G C (mW (xy C) ma s) mc ms (pc + 1) L (.int (mr s 13 b) :: st)) : G C (mW (xy C) ma s) mc ms pc L (.int ix :: .ref (ma 13) :: st) := fun H locs ls hP hD hS hL => by
  obtain ⟨h1, h2⟩ := nI_at hi hb (by decide)
  refine va_iald E.exec E.code E.K hP 10 0 rfl rfl h1 d ?_
  rw [h2]
  exact kk H locs ls hP hD hS hL
theorem k_ast_from (E : gOk C cc nL Ts own e0 rm) {ix : Int32} {v : Int32} (b : Nat) (hi : ix = nI b) (hb : b < 40) (d : decode cc pc = .ok (.iastore, 1)) (kk : G C (mW (xy C) ma (muR s 13 b v)) mc ms (pc + 1) L st) : G C (mW (xy C) ma s) mc ms pc L (.int v :: .int ix :: .ref (ma 13) :: st) := fun H locs ls hP hD hS hL => by
  obtain ⟨h1, h2⟩ := nI_at hi hb (by decide)
  refine va_iast E.exec E.code E.K hP hD hS 10 0 rfl rfl h1 d (fun H1 locs1 g1 g2 g3 => ?_)
  rw [h2] at g1 g2
  exact kk H1 locs1 ls g1 g2 g3 hL
theorem k_ald_end (E : gOk C cc nL Ts own e0 rm) {ix : Int32} (b : Nat) (hi : ix = nI b) (hb : b < 40) (d : decode cc pc = .ok (.iaload, 1)) (kk : G C (mW (xy C) ma s) mc ms (pc + 1) L (.int (mr s 14 b) :: st)) : G C (mW (xy C) ma s) mc ms pc L (.int ix :: .ref (ma 14) :: st) := fun H locs ls hP hD hS hL => by
  obtain ⟨h1, h2⟩ := nI_at hi hb (by decide)
  refine va_iald E.exec E.code E.K hP 11 0 rfl rfl h1 d ?_
  rw [h2]
  exact kk H locs ls hP hD hS hL
theorem k_ast_end (E : gOk C cc nL Ts own e0 rm) {ix : Int32} {v : Int32} (b : Nat) (hi : ix = nI b) (hb : b < 40) (d : decode cc pc = .ok (.iastore, 1)) (kk : G C (mW (xy C) ma (muR s 14 b v)) mc ms (pc + 1) L st) : G C (mW (xy C) ma s) mc ms pc L (.int v :: .int ix :: .ref (ma 14) :: st) := fun H locs ls hP hD hS hL => by
  obtain ⟨h1, h2⟩ := nI_at hi hb (by decide)
  refine va_iast E.exec E.code E.K hP hD hS 11 0 rfl rfl h1 d (fun H1 locs1 g1 g2 g3 => ?_)
  rw [h2] at g1 g2
  exact kk H1 locs1 ls g1 g2 g3 hL
theorem k_ald_needs (E : gOk C cc nL Ts own e0 rm) {ix : Int32} (b : Nat) (hi : ix = nI b) (hb : b < 40) (d : decode cc pc = .ok (.iaload, 1)) (kk : G C (mW (xy C) ma s) mc ms (pc + 1) L (.int (mr s 15 b) :: st)) : G C (mW (xy C) ma s) mc ms pc L (.int ix :: .ref (ma 15) :: st) := fun H locs ls hP hD hS hL => by
  obtain ⟨h1, h2⟩ := nI_at hi hb (by decide)
  refine va_iald E.exec E.code E.K hP 12 0 rfl rfl h1 d ?_
  rw [h2]
  exact kk H locs ls hP hD hS hL
theorem k_ast_needs (E : gOk C cc nL Ts own e0 rm) {ix : Int32} {v : Int32} (b : Nat) (hi : ix = nI b) (hb : b < 40) (d : decode cc pc = .ok (.iastore, 1)) (kk : G C (mW (xy C) ma (muR s 15 b v)) mc ms (pc + 1) L st) : G C (mW (xy C) ma s) mc ms pc L (.int v :: .int ix :: .ref (ma 15) :: st) := fun H locs ls hP hD hS hL => by
  obtain ⟨h1, h2⟩ := nI_at hi hb (by decide)
  refine va_iast E.exec E.code E.K hP hD hS 12 0 rfl rfl h1 d (fun H1 locs1 g1 g2 g3 => ?_)
  rw [h2] at g1 g2
  exact kk H1 locs1 ls g1 g2 g3 hL
theorem k_ald_isUrgent (E : gOk C cc nL Ts own e0 rm) {ix : Int32} (b : Nat) (hi : ix = nI b) (hb : b < 40) (d : decode cc pc = .ok (.baload, 1)) (kk : G C (mW (xy C) ma s) mc ms (pc + 1) L (.int (mr s 16 b) :: st)) : G C (mW (xy C) ma s) mc ms pc L (.int ix :: .ref (ma 16) :: st) := fun H locs ls hP hD hS hL => by
  obtain ⟨h1, h2⟩ := nI_at hi hb (by decide)
  refine va_zald E.exec E.code E.K hP 13 2 rfl rfl h1 d ?_
  rw [h2]
  exact kk H locs ls hP hD hS hL
theorem k_ast_isUrgent (E : gOk C cc nL Ts own e0 rm) {ix : Int32} {v : Int32} (hv : v = 0 ∨ v = 1) (b : Nat) (hi : ix = nI b) (hb : b < 40) (d : decode cc pc = .ok (.bastore, 1)) (kk : G C (mW (xy C) ma (muR s 16 b v)) mc ms (pc + 1) L st) : G C (mW (xy C) ma s) mc ms pc L (.int v :: .int ix :: .ref (ma 16) :: st) := fun H locs ls hP hD hS hL => by
  obtain ⟨h1, h2⟩ := nI_at hi hb (by decide)
  refine va_zast E.exec E.code E.K hP hD hS 13 2 rfl rfl h1 d (fun H1 locs1 g1 g2 g3 => ?_)
  rw [h2] at g1 g2
  rw [show vp_nar .boolean v = v by rcases hv with rfl | rfl <;> rfl] at g1 g2
  exact kk H1 locs1 ls g1 g2 g3 hL
theorem k_ald_state (E : gOk C cc nL Ts own e0 rm) {ix : Int32} (b : Nat) (hi : ix = nI b) (hb : b < 40) (d : decode cc pc = .ok (.iaload, 1)) (kk : G C (mW (xy C) ma s) mc ms (pc + 1) L (.int (mr s 17 b) :: st)) : G C (mW (xy C) ma s) mc ms pc L (.int ix :: .ref (ma 17) :: st) := fun H locs ls hP hD hS hL => by
  obtain ⟨h1, h2⟩ := nI_at hi hb (by decide)
  refine va_iald E.exec E.code E.K hP 14 0 rfl rfl h1 d ?_
  rw [h2]
  exact kk H locs ls hP hD hS hL
theorem k_ast_state (E : gOk C cc nL Ts own e0 rm) {ix : Int32} {v : Int32} (b : Nat) (hi : ix = nI b) (hb : b < 40) (d : decode cc pc = .ok (.iastore, 1)) (kk : G C (mW (xy C) ma (muR s 17 b v)) mc ms (pc + 1) L st) : G C (mW (xy C) ma s) mc ms pc L (.int v :: .int ix :: .ref (ma 17) :: st) := fun H locs ls hP hD hS hL => by
  obtain ⟨h1, h2⟩ := nI_at hi hb (by decide)
  refine va_iast E.exec E.code E.K hP hD hS 14 0 rfl rfl h1 d (fun H1 locs1 g1 g2 g3 => ?_)
  rw [h2] at g1 g2
  exact kk H1 locs1 ls g1 g2 g3 hL
theorem k_ald_cause (E : gOk C cc nL Ts own e0 rm) {ix : Int32} (b : Nat) (hi : ix = nI b) (hb : b < 40) (d : decode cc pc = .ok (.iaload, 1)) (kk : G C (mW (xy C) ma s) mc ms (pc + 1) L (.int (mr s 18 b) :: st)) : G C (mW (xy C) ma s) mc ms pc L (.int ix :: .ref (ma 18) :: st) := fun H locs ls hP hD hS hL => by
  obtain ⟨h1, h2⟩ := nI_at hi hb (by decide)
  refine va_iald E.exec E.code E.K hP 15 0 rfl rfl h1 d ?_
  rw [h2]
  exact kk H locs ls hP hD hS hL
theorem k_ast_cause (E : gOk C cc nL Ts own e0 rm) {ix : Int32} {v : Int32} (b : Nat) (hi : ix = nI b) (hb : b < 40) (d : decode cc pc = .ok (.iastore, 1)) (kk : G C (mW (xy C) ma (muR s 18 b v)) mc ms (pc + 1) L st) : G C (mW (xy C) ma s) mc ms pc L (.int v :: .int ix :: .ref (ma 18) :: st) := fun H locs ls hP hD hS hL => by
  obtain ⟨h1, h2⟩ := nI_at hi hb (by decide)
  refine va_iast E.exec E.code E.K hP hD hS 15 0 rfl rfl h1 d (fun H1 locs1 g1 g2 g3 => ?_)
  rw [h2] at g1 g2
  exact kk H1 locs1 ls g1 g2 g3 hL
theorem k_ald_opening (E : gOk C cc nL Ts own e0 rm) {ix : Int32} (b : Nat) (hi : ix = nI b) (hb : b < 40) (d : decode cc pc = .ok (.iaload, 1)) (kk : G C (mW (xy C) ma s) mc ms (pc + 1) L (.int (mr s 19 b) :: st)) : G C (mW (xy C) ma s) mc ms pc L (.int ix :: .ref (ma 19) :: st) := fun H locs ls hP hD hS hL => by
  obtain ⟨h1, h2⟩ := nI_at hi hb (by decide)
  refine va_iald E.exec E.code E.K hP 16 0 rfl rfl h1 d ?_
  rw [h2]
  exact kk H locs ls hP hD hS hL
theorem k_ast_opening (E : gOk C cc nL Ts own e0 rm) {ix : Int32} {v : Int32} (b : Nat) (hi : ix = nI b) (hb : b < 40) (d : decode cc pc = .ok (.iastore, 1)) (kk : G C (mW (xy C) ma (muR s 19 b v)) mc ms (pc + 1) L st) : G C (mW (xy C) ma s) mc ms pc L (.int v :: .int ix :: .ref (ma 19) :: st) := fun H locs ls hP hD hS hL => by
  obtain ⟨h1, h2⟩ := nI_at hi hb (by decide)
  refine va_iast E.exec E.code E.K hP hD hS 16 0 rfl rfl h1 d (fun H1 locs1 g1 g2 g3 => ?_)
  rw [h2] at g1 g2
  exact kk H1 locs1 ls g1 g2 g3 hL
theorem k_ald_damage (E : gOk C cc nL Ts own e0 rm) {ix : Int32} (b : Nat) (hi : ix = nI b) (hb : b < 40) (d : decode cc pc = .ok (.laload, 1)) (kk : G C (mW (xy C) ma s) mc ms (pc + 1) L (.long (ml s 20 b) :: st)) : G C (mW (xy C) ma s) mc ms pc L (.int ix :: .ref (ma 20) :: st) := fun H locs ls hP hD hS hL => by
  obtain ⟨h1, h2⟩ := nI_at hi hb (by decide)
  refine va_lald E.exec E.code E.K hP 17 1 rfl rfl h1 d ?_
  rw [h2]
  exact kk H locs ls hP hD hS hL
theorem k_ast_damage (E : gOk C cc nL Ts own e0 rm) {ix : Int32} {v : Int64} (b : Nat) (hi : ix = nI b) (hb : b < 40) (d : decode cc pc = .ok (.lastore, 1)) (kk : G C (mW (xy C) ma (muL s 20 b v)) mc ms (pc + 1) L st) : G C (mW (xy C) ma s) mc ms pc L (.long v :: .int ix :: .ref (ma 20) :: st) := fun H locs ls hP hD hS hL => by
  obtain ⟨h1, h2⟩ := nI_at hi hb (by decide)
  refine va_last E.exec E.code E.K hP hD hS 17 1 rfl rfl h1 d (fun H1 locs1 g1 g2 g3 => ?_)
  rw [h2] at g1 g2
  exact kk H1 locs1 ls g1 g2 g3 hL
theorem k_ald_first (E : gOk C cc nL Ts own e0 rm) {ix : Int32} (b : Nat) (hi : ix = nI b) (hb : b < 40) (d : decode cc pc = .ok (.iaload, 1)) (kk : G C (mW (xy C) ma s) mc ms (pc + 1) L (.int (mr s 22 b) :: st)) : G C (mW (xy C) ma s) mc ms pc L (.int ix :: .ref (ma 22) :: st) := fun H locs ls hP hD hS hL => by
  obtain ⟨h1, h2⟩ := nI_at hi hb (by decide)
  refine va_iald E.exec E.code E.K hP 18 0 rfl rfl h1 d ?_
  rw [h2]
  exact kk H locs ls hP hD hS hL
theorem k_ast_first (E : gOk C cc nL Ts own e0 rm) {ix : Int32} {v : Int32} (b : Nat) (hi : ix = nI b) (hb : b < 40) (d : decode cc pc = .ok (.iastore, 1)) (kk : G C (mW (xy C) ma (muR s 22 b v)) mc ms (pc + 1) L st) : G C (mW (xy C) ma s) mc ms pc L (.int v :: .int ix :: .ref (ma 22) :: st) := fun H locs ls hP hD hS hL => by
  obtain ⟨h1, h2⟩ := nI_at hi hb (by decide)
  refine va_iast E.exec E.code E.K hP hD hS 18 0 rfl rfl h1 d (fun H1 locs1 g1 g2 g3 => ?_)
  rw [h2] at g1 g2
  exact kk H1 locs1 ls g1 g2 g3 hL
theorem k_ald_behind (E : gOk C cc nL Ts own e0 rm) {ix : Int32} (b : Nat) (hi : ix = nI b) (hb : b < 40) (d : decode cc pc = .ok (.iaload, 1)) (kk : G C (mW (xy C) ma s) mc ms (pc + 1) L (.int (mr s 23 b) :: st)) : G C (mW (xy C) ma s) mc ms pc L (.int ix :: .ref (ma 23) :: st) := fun H locs ls hP hD hS hL => by
  obtain ⟨h1, h2⟩ := nI_at hi hb (by decide)
  refine va_iald E.exec E.code E.K hP 19 0 rfl rfl h1 d ?_
  rw [h2]
  exact kk H locs ls hP hD hS hL
theorem k_ast_behind (E : gOk C cc nL Ts own e0 rm) {ix : Int32} {v : Int32} (b : Nat) (hi : ix = nI b) (hb : b < 40) (d : decode cc pc = .ok (.iastore, 1)) (kk : G C (mW (xy C) ma (muR s 23 b v)) mc ms (pc + 1) L st) : G C (mW (xy C) ma s) mc ms pc L (.int v :: .int ix :: .ref (ma 23) :: st) := fun H locs ls hP hD hS hL => by
  obtain ⟨h1, h2⟩ := nI_at hi hb (by decide)
  refine va_iast E.exec E.code E.K hP hD hS 19 0 rfl rfl h1 d (fun H1 locs1 g1 g2 g3 => ?_)
  rw [h2] at g1 g2
  exact kk H1 locs1 ls g1 g2 g3 hL
theorem k_ald_points (E : gOk C cc nL Ts own e0 rm) {ix : Int32} (b : Nat) (hi : ix = nI b) (hb : b < 6) (d : decode cc pc = .ok (.iaload, 1)) (kk : G C (mW (xy C) ma s) mc ms (pc + 1) L (.int (mr s 25 b) :: st)) : G C (mW (xy C) ma s) mc ms pc L (.int ix :: .ref (ma 25) :: st) := fun H locs ls hP hD hS hL => by
  obtain ⟨h1, h2⟩ := nI_at hi hb (by decide)
  refine va_iald E.exec E.code E.K hP 20 0 rfl rfl h1 d ?_
  rw [h2]
  exact kk H locs ls hP hD hS hL
theorem k_ast_points (E : gOk C cc nL Ts own e0 rm) {ix : Int32} {v : Int32} (b : Nat) (hi : ix = nI b) (hb : b < 6) (d : decode cc pc = .ok (.iastore, 1)) (kk : G C (mW (xy C) ma (muR s 25 b v)) mc ms (pc + 1) L st) : G C (mW (xy C) ma s) mc ms pc L (.int v :: .int ix :: .ref (ma 25) :: st) := fun H locs ls hP hD hS hL => by
  obtain ⟨h1, h2⟩ := nI_at hi hb (by decide)
  refine va_iast E.exec E.code E.K hP hD hS 20 0 rfl rfl h1 d (fun H1 locs1 g1 g2 g3 => ?_)
  rw [h2] at g1 g2
  exact kk H1 locs1 ls g1 g2 g3 hL
theorem k_ald_far (E : gOk C cc nL Ts own e0 rm) {ix : Int32} (b : Nat) (hi : ix = nI b) (hb : b < 10) (d : decode cc pc = .ok (.iaload, 1)) (kk : G C (mW (xy C) ma s) mc ms (pc + 1) L (.int (mr s 26 b) :: st)) : G C (mW (xy C) ma s) mc ms pc L (.int ix :: .ref (ma 26) :: st) := fun H locs ls hP hD hS hL => by
  obtain ⟨h1, h2⟩ := nI_at hi hb (by decide)
  refine va_iald E.exec E.code E.K hP 21 0 rfl rfl h1 d ?_
  rw [h2]
  exact kk H locs ls hP hD hS hL
theorem k_ast_far (E : gOk C cc nL Ts own e0 rm) {ix : Int32} {v : Int32} (b : Nat) (hi : ix = nI b) (hb : b < 10) (d : decode cc pc = .ok (.iastore, 1)) (kk : G C (mW (xy C) ma (muR s 26 b v)) mc ms (pc + 1) L st) : G C (mW (xy C) ma s) mc ms pc L (.int v :: .int ix :: .ref (ma 26) :: st) := fun H locs ls hP hD hS hL => by
  obtain ⟨h1, h2⟩ := nI_at hi hb (by decide)
  refine va_iast E.exec E.code E.K hP hD hS 21 0 rfl rfl h1 d (fun H1 locs1 g1 g2 g3 => ?_)
  rw [h2] at g1 g2
  exact kk H1 locs1 ls g1 g2 g3 hL
theorem k_ald_costs (E : gOk C cc nL Ts own e0 rm) {ix : Int32} (b : Nat) (hi : ix = nI b) (hb : b < 40) (d : decode cc pc = .ok (.laload, 1)) (kk : G C (mW (xy C) ma s) mc ms (pc + 1) L (.long (ml s 27 b) :: st)) : G C (mW (xy C) ma s) mc ms pc L (.int ix :: .ref (ma 27) :: st) := fun H locs ls hP hD hS hL => by
  obtain ⟨h1, h2⟩ := nI_at hi hb (by decide)
  refine va_lald E.exec E.code E.K hP 22 1 rfl rfl h1 d ?_
  rw [h2]
  exact kk H locs ls hP hD hS hL
theorem k_ast_costs (E : gOk C cc nL Ts own e0 rm) {ix : Int32} {v : Int64} (b : Nat) (hi : ix = nI b) (hb : b < 40) (d : decode cc pc = .ok (.lastore, 1)) (kk : G C (mW (xy C) ma (muL s 27 b v)) mc ms (pc + 1) L st) : G C (mW (xy C) ma s) mc ms pc L (.long v :: .int ix :: .ref (ma 27) :: st) := fun H locs ls hP hD hS hL => by
  obtain ⟨h1, h2⟩ := nI_at hi hb (by decide)
  refine va_last E.exec E.code E.K hP hD hS 22 1 rfl rfl h1 d (fun H1 locs1 g1 g2 g3 => ?_)
  rw [h2] at g1 g2
  exact kk H1 locs1 ls g1 g2 g3 hL
theorem k_ald_detours (E : gOk C cc nL Ts own e0 rm) {ix : Int32} (b : Nat) (hi : ix = nI b) (hb : b < 6) (d : decode cc pc = .ok (.iaload, 1)) (kk : G C (mW (xy C) ma s) mc ms (pc + 1) L (.int (mr s 28 b) :: st)) : G C (mW (xy C) ma s) mc ms pc L (.int ix :: .ref (ma 28) :: st) := fun H locs ls hP hD hS hL => by
  obtain ⟨h1, h2⟩ := nI_at hi hb (by decide)
  refine va_iald E.exec E.code E.K hP 23 0 rfl rfl h1 d ?_
  rw [h2]
  exact kk H locs ls hP hD hS hL
theorem k_ast_detours (E : gOk C cc nL Ts own e0 rm) {ix : Int32} {v : Int32} (b : Nat) (hi : ix = nI b) (hb : b < 6) (d : decode cc pc = .ok (.iastore, 1)) (kk : G C (mW (xy C) ma (muR s 28 b v)) mc ms (pc + 1) L st) : G C (mW (xy C) ma s) mc ms pc L (.int v :: .int ix :: .ref (ma 28) :: st) := fun H locs ls hP hD hS hL => by
  obtain ⟨h1, h2⟩ := nI_at hi hb (by decide)
  refine va_iast E.exec E.code E.K hP hD hS 23 0 rfl rfl h1 d (fun H1 locs1 g1 g2 g3 => ?_)
  rw [h2] at g1 g2
  exact kk H1 locs1 ls g1 g2 g3 hL
theorem k_ald_gets (E : gOk C cc nL Ts own e0 rm) {ix : Int32} (b : Nat) (hi : ix = nI b) (hb : b < 6) (d : decode cc pc = .ok (.baload, 1)) (kk : G C (mW (xy C) ma s) mc ms (pc + 1) L (.int (mr s 29 b) :: st)) : G C (mW (xy C) ma s) mc ms pc L (.int ix :: .ref (ma 29) :: st) := fun H locs ls hP hD hS hL => by
  obtain ⟨h1, h2⟩ := nI_at hi hb (by decide)
  refine va_zald E.exec E.code E.K hP 24 2 rfl rfl h1 d ?_
  rw [h2]
  exact kk H locs ls hP hD hS hL
theorem k_ast_gets (E : gOk C cc nL Ts own e0 rm) {ix : Int32} {v : Int32} (hv : v = 0 ∨ v = 1) (b : Nat) (hi : ix = nI b) (hb : b < 6) (d : decode cc pc = .ok (.bastore, 1)) (kk : G C (mW (xy C) ma (muR s 29 b v)) mc ms (pc + 1) L st) : G C (mW (xy C) ma s) mc ms pc L (.int v :: .int ix :: .ref (ma 29) :: st) := fun H locs ls hP hD hS hL => by
  obtain ⟨h1, h2⟩ := nI_at hi hb (by decide)
  refine va_zast E.exec E.code E.K hP hD hS 24 2 rfl rfl h1 d (fun H1 locs1 g1 g2 g3 => ?_)
  rw [h2] at g1 g2
  rw [show vp_nar .boolean v = v by rcases hv with rfl | rfl <;> rfl] at g1 g2
  exact kk H1 locs1 ls g1 g2 g3 hL
end MW
