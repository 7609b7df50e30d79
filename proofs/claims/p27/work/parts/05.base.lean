/-! The judgement G: kit's W over any heap that holds a world, in one context C; contracts gMet; a rule an instruction. -/
abbrev gT : Type := Program × Launch × Env × Room × State × MethodId × Array Value × List Frame × Method × Code × va_G × (Nat → ClassId) × (Nat → Prop) × (State → Prop)
abbrev xp (C : gT) : Program := C.1
abbrev xl (C : gT) : Launch := C.2.1
abbrev xe (C : gT) : Env := C.2.2.1
abbrev xR (C : gT) : Room := C.2.2.2.1
abbrev xs (C : gT) : State := C.2.2.2.2.1
abbrev xm (C : gT) : MethodId := C.2.2.2.2.2.1
abbrev xa (C : gT) : Array Value := C.2.2.2.2.2.2.1
abbrev xb (C : gT) : List Frame := C.2.2.2.2.2.2.2.1
abbrev xh (C : gT) : Method := C.2.2.2.2.2.2.2.2.1
abbrev xc (C : gT) : Code := C.2.2.2.2.2.2.2.2.2.1
abbrev xD (C : gT) : va_G := C.2.2.2.2.2.2.2.2.2.2.1
abbrev xy (C : gT) : Nat → ClassId := C.2.2.2.2.2.2.2.2.2.2.2.1
abbrev xA (C : gT) : Nat → Prop := C.2.2.2.2.2.2.2.2.2.2.2.2.1
abbrev xQ (C : gT) : State → Prop := C.2.2.2.2.2.2.2.2.2.2.2.2.2
/-- the kinds of arrays: their classes by number -/
abbrev gtys (cy : Nat → ClassId) : List (ClassId × FieldType) := [(cy 0, .int), (cy 1, .int), (cy 2, .int), (cy 3, .object "java/lang/Object"), (cy 4, .array .int)]
def G (C : gT) (ws : va_W) (mc ms pc : Nat) (L : List (Nat × Value)) (st : List Value) : Prop :=
  ∀ (H : Heap) (locs : List Loc) (ls : Array Slot), va_P (xD C) vwCl ws H → va_D (xA C) ws → va_S (xA C) (xs C).heap H locs → lv_has ls (xc C).maxLocals L →
    W (xp C) (xl C) (xe C) (xR C) (xs C) (xm C) (xa C) (xb C) (xh C) (xc C) H locs mc ms (xQ C) (F0 (xm C) pc ls st)
/-- an exception of class E stands over the frame -/
def GX (C : gT) (ws : va_W) (mc ms pc : Nat) (L : List (Nat × Value)) (E : String) : Prop :=
  ∀ (H : Heap) (locs : List Loc) (ls : Array Slot) (rest : List Value) (q : Addr) (ce : Cell), va_P (xD C) vwCl ws H → va_D (xA C) ws → va_S (xA C) (xs C).heap H locs → lv_has ls (xc C).maxLocals L →
    H[q]? = some ce → ce.vm = .none → (xs C).vm.findClass E = some ce.cls → vx_W (xp C) (xl C) (xe C) (xR C) (xs C) (xm C) (xa C) (xb C) (xh C) (xc C) H locs mc ms (xQ C) (F0 (xm C) pc ls rest) q
/-- words of the tables that no word list may carry -/
def gNk : Cond → Bool
  | .fieldLinkNest .. => true
  | .methodLinkNest .. => true
  | .castable .. => true
  | .declares _ => true
  | _ => false
theorem gNk_warm {w : Cond} (hk : gNk w = true) {s U : State} (hW : s.WarmedH U.vm) (h : va_Nw w s) : va_Nw w U := by
  cases w <;> first | (simp [gNk] at hk; done) | exact va_Nw.warmF hW h | exact va_Nw.warmM hW h | exact va_Nw.warmC hW h | exact va_Nw.warmD hW h
theorem gNk_tab {w : Cond} (hk : gNk w = true) : w.onTables = true := by
  cases w <;> first | (simp [gNk] at hk; done) | rfl
/-- what every body takes as given of the start, of cells outside A -/
def gEV (e0 : Nat) (A : Nat → Prop) (U : State) (H : Heap) : Prop :=
  (∀ w ∈ lw_tbl, gNk w = true → va_Nw w U) ∧ (∀ (own : String) (k : Nat) (tx : String), Cond.stringRef own k tx ∈ lw_tbl → ∃ a, vk_R own k tx a U) ∧
  vx_Zq Bundle.tN "UNASSIGNED_STACK" Bundle.steD A U H ∧ vx_Zq Bundle.tN "SUPPRESSED_SENTINEL" Bundle.listD A U H ∧
  va_Z "java/util/ArrayList" "DEFAULTCAPACITY_EMPTY_ELEMENTDATA" "[Ljava/lang/Object;" (.ref e0) A U H ∧ va_T (.object "java/lang/Object") e0 0 (fun _ => .null) A U H ∧ va_AO "java/lang/Object" U ∧ va_AOA .int U ∧ va_Dc U ∧ (∃ mi : Nat, va_Mi "[Ljava/lang/Object;" mi U) ∧ va_Nc "java/lang/IllegalStateException" "java/lang/IllegalArgumentException" U ∧ va_Nc "java/lang/IllegalStateException" "java/lang/IllegalArgumentException" U ∧ va_Nc "java/lang/IllegalStateException" "java/lang/IllegalArgumentException" U
theorem gEV.warm {e0 : Nat} {A : Nat → Prop} {s U : State} {H : Heap} (hW : s.WarmedH U.vm) (h : gEV e0 A s H) : gEV e0 A U H :=
  ⟨fun w hw hk => gNk_warm hk hW (h.1 w hw hk), fun own k tx hm => (h.2.1 own k tx hm).elim (fun a ha => ⟨a, ha.warm hW⟩), vx_Zq.moved hW.alike h.2.2.1, vx_Zq.moved hW.alike h.2.2.2.1, va_Z.moved hW.alike h.2.2.2.2.1, va_T.moved hW.alike h.2.2.2.2.2.1, va_AO.moved hW.alike h.2.2.2.2.2.2.1, va_AOA.moved hW.alike h.2.2.2.2.2.2.2.1, va_Dc.moved hW.alike h.2.2.2.2.2.2.2.2.1, h.2.2.2.2.2.2.2.2.2.1.elim (fun mi hm => ⟨mi, va_Mi.moved hW.alike hm⟩), va_Nc.moved hW.alike h.2.2.2.2.2.2.2.2.2.2.1, va_Nc.moved hW.alike h.2.2.2.2.2.2.2.2.2.2.2.1, va_Nc.moved hW.alike h.2.2.2.2.2.2.2.2.2.2.2.2⟩
theorem gEV.calling {e0 : Nat} {A : Nat → Prop} {U : State} {H : Heap} {g : JFrame} {mk : MethodId} {a : Array Value} (h : gEV e0 A U H) : gEV e0 A (U.calling g mk a) H :=
  gEV.warm (s := U) (U := U.calling g mk a) (State.WarmedH.refl U) h
theorem gEV.kept {e0 : Nat} {A : Nat → Prop} {U : State} {H H1 : Heap} (h : gEV e0 A U H) (hq : ∀ a : Nat, a < H.size → ¬ A a → H1[a]? = H[a]?) : gEV e0 A U H1 :=
  ⟨h.1, h.2.1, vx_Zq.kept h.2.2.1 hq, vx_Zq.kept h.2.2.2.1 hq, va_Z.kept h.2.2.2.2.1 hq, va_T.kept h.2.2.2.2.2.1 hq, h.2.2.2.2.2.2⟩
theorem gEV.narrow {e0 : Nat} {A B : Nat → Prop} {U : State} {H : Heap} (h : gEV e0 A U H) (hAB : ∀ q, B q → A q) : gEV e0 B U H :=
  ⟨h.1, h.2.1, vx_Zq.narrow h.2.2.1 hAB, vx_Zq.narrow h.2.2.2.1 hAB, va_Z.narrow h.2.2.2.2.1 hAB, va_T.narrow h.2.2.2.2.2.1 hAB, h.2.2.2.2.2.2⟩
/-- classes, kinds of arrays, and the mirror of Object[] (cy 9) -/
def gK (D : va_G) (cy : Nat → ClassId) (U : State) : Prop := va_K D vwCl (gtys cy) U ∧ va_Mi "[Ljava/lang/Object;" (cy 9) U
theorem gK.moved {D : va_G} {cy : Nat → ClassId} {u U : State} (hvm : u.vm.Alike U.vm) (h : gK D cy u) : gK D cy U := ⟨va_K.moved hvm h.1, va_Mi.moved hvm h.2⟩
/-- the context of a body: its code, its words, its room -/
def gOk (C : gT) (cc : ByteArray) (nL : Nat) (Ts : List Cond) (own : String) (e0 : Nat) (rm : Room) : Prop :=
  (xp C).tables.exec = Jvm.exec ∧ (xc C).code = cc ∧ (xc C).maxLocals = nL ∧ (∀ w ∈ Ts, w.before (xa C) (xs C) = true) ∧ (xs C).vm.findClass own = some (xm C).cls ∧ gK (xD C) (xy C) (xs C) ∧
  (∀ q, (xs C).heap.size ≤ q → xA C q) ∧ (xh C).locks = false ∧ (xl C).stackTraces = false ∧ gEV e0 (xA C) (xs C) (xs C).heap ∧ xR C = rm
section GL
variable {C : gT} {cc : ByteArray} {nL : Nat} {Ts : List Cond} {own : String} {e0 : Nat} {rm : Room} {ws : va_W} {mc ms pc : Nat} {L : List (Nat × Value)} {st : List Value}
theorem gOk.exec (E : gOk C cc nL Ts own e0 rm) : (xp C).tables.exec = Jvm.exec := E.1
theorem gOk.code (E : gOk C cc nL Ts own e0 rm) : (xc C).code = cc := E.2.1
theorem gOk.ml (E : gOk C cc nL Ts own e0 rm) : (xc C).maxLocals = nL := E.2.2.1
theorem gOk.ts (E : gOk C cc nL Ts own e0 rm) : ∀ w ∈ Ts, w.before (xa C) (xs C) = true := E.2.2.2.1
theorem gOk.ow (E : gOk C cc nL Ts own e0 rm) : (xs C).vm.findClass own = some (xm C).cls := E.2.2.2.2.1
theorem gOk.K (E : gOk C cc nL Ts own e0 rm) : va_K (xD C) vwCl (gtys (xy C)) (xs C) := E.2.2.2.2.2.1.1
theorem gOk.Mi (E : gOk C cc nL Ts own e0 rm) : va_Mi "[Ljava/lang/Object;" (xy C 9) (xs C) := E.2.2.2.2.2.1.2
theorem gOk.A (E : gOk C cc nL Ts own e0 rm) : ∀ q, (xs C).heap.size ≤ q → xA C q := E.2.2.2.2.2.2.1
theorem gOk.locks (E : gOk C cc nL Ts own e0 rm) : (xh C).locks = false := E.2.2.2.2.2.2.2.1
theorem gOk.tr (E : gOk C cc nL Ts own e0 rm) : (xl C).stackTraces = false := E.2.2.2.2.2.2.2.2.1
theorem gOk.ev (E : gOk C cc nL Ts own e0 rm) : gEV e0 (xA C) (xs C) (xs C).heap := E.2.2.2.2.2.2.2.2.2.1
theorem gOk.room (E : gOk C cc nL Ts own e0 rm) : xR C = rm := E.2.2.2.2.2.2.2.2.2.2
theorem gOk.nest (E : gOk C cc nL Ts own e0 rm) {w : Cond} (hw : w ∈ lw_tbl) (hk : gNk w = true) : w.before (xa C) (xs C) = true := va_Nw.use (gNk_tab hk) (E.ev.1 w hw hk)

theorem g_iconst (E : gOk C cc nL Ts own e0 rm) {n : Int} {v : Int32} (d : decode cc pc = .ok (.iconst n, 1)) (hv : Int32.ofInt n = v) (k : G C ws mc ms (pc + 1) L (.int v :: st)) : G C ws mc ms pc L st := fun H locs ls hP hD hS hL => lv_iconst E.exec E.code d hv (k H locs ls hP hD hS hL)
theorem g_bipush (E : gOk C cc nL Ts own e0 rm) {n : Int} {v : Int32} (d : decode cc pc = .ok (.bipush n, 2)) (hv : (Int8.ofInt n).toInt32 = v) (k : G C ws mc ms (pc + 2) L (.int v :: st)) : G C ws mc ms pc L st := fun H locs ls hP hD hS hL => lv_bipush E.exec E.code d hv (k H locs ls hP hD hS hL)
theorem g_sipush (E : gOk C cc nL Ts own e0 rm) {n : Int} {v : Int32} (d : decode cc pc = .ok (.sipush n, 3)) (hv : (Int16.ofInt n).toInt32 = v) (k : G C ws mc ms (pc + 3) L (.int v :: st)) : G C ws mc ms pc L st := fun H locs ls hP hD hS hL => lv_sipush E.exec E.code d hv (k H locs ls hP hD hS hL)
theorem g_lconst (E : gOk C cc nL Ts own e0 rm) {n : Fin 2} {v : Int64} (d : decode cc pc = .ok (.lconst n, 1)) (hv : Int64.ofNat (n : Nat) = v) (k : G C ws mc ms (pc + 1) L (.long v :: st)) : G C ws mc ms pc L st := fun H locs ls hP hD hS hL => lv_lconst E.exec E.code d hv (k H locs ls hP hD hS hL)
theorem g_null (E : gOk C cc nL Ts own e0 rm)  (d : decode cc pc = .ok (.aconst_null, 1))  (k : G C ws mc ms (pc + 1) L (.null :: st)) : G C ws mc ms pc L st := fun H locs ls hP hD hS hL => lv_null E.exec E.code d  (k H locs ls hP hD hS hL)
theorem g_iadd (E : gOk C cc nL Ts own e0 rm) {x y : Int32} (d : decode cc pc = .ok (.iadd, 1))  (k : G C ws mc ms (pc + 1) L (.int (x + y) :: st)) : G C ws mc ms pc L (.int y :: .int x :: st) := fun H locs ls hP hD hS hL => lv_iadd E.exec E.code d  (k H locs ls hP hD hS hL)
theorem g_isub (E : gOk C cc nL Ts own e0 rm) {x y : Int32} (d : decode cc pc = .ok (.isub, 1))  (k : G C ws mc ms (pc + 1) L (.int (x - y) :: st)) : G C ws mc ms pc L (.int y :: .int x :: st) := fun H locs ls hP hD hS hL => lv_isub E.exec E.code d  (k H locs ls hP hD hS hL)
theorem g_imul (E : gOk C cc nL Ts own e0 rm) {x y : Int32} (d : decode cc pc = .ok (.imul, 1))  (k : G C ws mc ms (pc + 1) L (.int (x * y) :: st)) : G C ws mc ms pc L (.int y :: .int x :: st) := fun H locs ls hP hD hS hL => lv_imul E.exec E.code d  (k H locs ls hP hD hS hL)
theorem g_iand (E : gOk C cc nL Ts own e0 rm) {x y : Int32} (d : decode cc pc = .ok (.iand, 1))  (k : G C ws mc ms (pc + 1) L (.int (x &&& y) :: st)) : G C ws mc ms pc L (.int y :: .int x :: st) := fun H locs ls hP hD hS hL => lv_iand E.exec E.code d  (k H locs ls hP hD hS hL)
theorem g_ior (E : gOk C cc nL Ts own e0 rm) {x y : Int32} (d : decode cc pc = .ok (.ior, 1))  (k : G C ws mc ms (pc + 1) L (.int (x ||| y) :: st)) : G C ws mc ms pc L (.int y :: .int x :: st) := fun H locs ls hP hD hS hL => lv_ior E.exec E.code d  (k H locs ls hP hD hS hL)
theorem g_ixor (E : gOk C cc nL Ts own e0 rm) {x y : Int32} (d : decode cc pc = .ok (.ixor, 1))  (k : G C ws mc ms (pc + 1) L (.int (x ^^^ y) :: st)) : G C ws mc ms pc L (.int y :: .int x :: st) := fun H locs ls hP hD hS hL => lv_ixor E.exec E.code d  (k H locs ls hP hD hS hL)
theorem g_ladd (E : gOk C cc nL Ts own e0 rm) {x y : Int64} (d : decode cc pc = .ok (.ladd, 1))  (k : G C ws mc ms (pc + 1) L (.long (x + y) :: st)) : G C ws mc ms pc L (.long y :: .long x :: st) := fun H locs ls hP hD hS hL => lv_ladd E.exec E.code d  (k H locs ls hP hD hS hL)
theorem g_lsub (E : gOk C cc nL Ts own e0 rm) {x y : Int64} (d : decode cc pc = .ok (.lsub, 1))  (k : G C ws mc ms (pc + 1) L (.long (x - y) :: st)) : G C ws mc ms pc L (.long y :: .long x :: st) := fun H locs ls hP hD hS hL => lv_lsub E.exec E.code d  (k H locs ls hP hD hS hL)
theorem g_lmul (E : gOk C cc nL Ts own e0 rm) {x y : Int64} (d : decode cc pc = .ok (.lmul, 1))  (k : G C ws mc ms (pc + 1) L (.long (x * y) :: st)) : G C ws mc ms pc L (.long y :: .long x :: st) := fun H locs ls hP hD hS hL => lv_lmul E.exec E.code d  (k H locs ls hP hD hS hL)
theorem g_land (E : gOk C cc nL Ts own e0 rm) {x y : Int64} (d : decode cc pc = .ok (.land, 1))  (k : G C ws mc ms (pc + 1) L (.long (x &&& y) :: st)) : G C ws mc ms pc L (.long y :: .long x :: st) := fun H locs ls hP hD hS hL => lv_land E.exec E.code d  (k H locs ls hP hD hS hL)
theorem g_lor (E : gOk C cc nL Ts own e0 rm) {x y : Int64} (d : decode cc pc = .ok (.lor, 1))  (k : G C ws mc ms (pc + 1) L (.long (x ||| y) :: st)) : G C ws mc ms pc L (.long y :: .long x :: st) := fun H locs ls hP hD hS hL => lv_lor E.exec E.code d  (k H locs ls hP hD hS hL)
theorem g_lxor (E : gOk C cc nL Ts own e0 rm) {x y : Int64} (d : decode cc pc = .ok (.lxor, 1))  (k : G C ws mc ms (pc + 1) L (.long (x ^^^ y) :: st)) : G C ws mc ms pc L (.long y :: .long x :: st) := fun H locs ls hP hD hS hL => lv_lxor E.exec E.code d  (k H locs ls hP hD hS hL)
theorem g_idiv (E : gOk C cc nL Ts own e0 rm) {x y : Int32} (d : decode cc pc = .ok (.idiv, 1)) (hne : ¬ y = 0) (k : G C ws mc ms (pc + 1) L (.int (x / y) :: st)) : G C ws mc ms pc L (.int y :: .int x :: st) := fun H locs ls hP hD hS hL => lv_idiv E.exec E.code d hne (k H locs ls hP hD hS hL)
theorem g_irem (E : gOk C cc nL Ts own e0 rm) {x y : Int32} (d : decode cc pc = .ok (.irem, 1)) (hne : ¬ y = 0) (k : G C ws mc ms (pc + 1) L (.int (x - x / y * y) :: st)) : G C ws mc ms pc L (.int y :: .int x :: st) := fun H locs ls hP hD hS hL => lv_irem E.exec E.code d hne (k H locs ls hP hD hS hL)
theorem g_lneg (E : gOk C cc nL Ts own e0 rm) {x : Int64} (d : decode cc pc = .ok (.lneg, 1))  (k : G C ws mc ms (pc + 1) L (.long (-x) :: st)) : G C ws mc ms pc L (.long x :: st) := fun H locs ls hP hD hS hL => lv_lneg E.exec E.code d  (k H locs ls hP hD hS hL)
theorem g_ishl (E : gOk C cc nL Ts own e0 rm) {x y : Int32} (d : decode cc pc = .ok (.ishl, 1))  (k : G C ws mc ms (pc + 1) L (.int (x <<< (y &&& 31)) :: st)) : G C ws mc ms pc L (.int y :: .int x :: st) := fun H locs ls hP hD hS hL => lv_ishl E.exec E.code d  (k H locs ls hP hD hS hL)
theorem g_ishr (E : gOk C cc nL Ts own e0 rm) {x y : Int32} (d : decode cc pc = .ok (.ishr, 1))  (k : G C ws mc ms (pc + 1) L (.int (x >>> (y &&& 31)) :: st)) : G C ws mc ms pc L (.int y :: .int x :: st) := fun H locs ls hP hD hS hL => lv_ishr E.exec E.code d  (k H locs ls hP hD hS hL)
theorem g_iushr (E : gOk C cc nL Ts own e0 rm) {x y v : Int32} (d : decode cc pc = .ok (.iushr, 1)) (hv : (x.toUInt32 >>> (y.toUInt32 &&& Int32.toUInt32 31)).toInt32 = v) (k : G C ws mc ms (pc + 1) L (.int v :: st)) : G C ws mc ms pc L (.int y :: .int x :: st) := fun H locs ls hP hD hS hL => lv_iushr E.exec E.code d hv (k H locs ls hP hD hS hL)
theorem g_lushr (E : gOk C cc nL Ts own e0 rm) {x v : Int64} {y : Int32} (d : decode cc pc = .ok (.lushr, 1)) (hv : (x.toUInt64 >>> (y.toInt64.toUInt64 &&& Int64.toUInt64 63)).toInt64 = v) (k : G C ws mc ms (pc + 1) L (.long v :: st)) : G C ws mc ms pc L (.int y :: .long x :: st) := fun H locs ls hP hD hS hL => lv_lushr E.exec E.code d hv (k H locs ls hP hD hS hL)
theorem g_lshl (E : gOk C cc nL Ts own e0 rm) {x v : Int64} {y : Int32} (d : decode cc pc = .ok (.lshl, 1)) (hv : x <<< (y.toInt64 &&& 63) = v) (k : G C ws mc ms (pc + 1) L (.long v :: st)) : G C ws mc ms pc L (.int y :: .long x :: st) := fun H locs ls hP hD hS hL => lv_lshl E.exec E.code d hv (k H locs ls hP hD hS hL)
theorem g_i2l (E : gOk C cc nL Ts own e0 rm) {x : Int32} (d : decode cc pc = .ok (.i2l, 1))  (k : G C ws mc ms (pc + 1) L (.long x.toInt64 :: st)) : G C ws mc ms pc L (.int x :: st) := fun H locs ls hP hD hS hL => lv_i2l E.exec E.code d rfl (k H locs ls hP hD hS hL)
theorem g_l2i (E : gOk C cc nL Ts own e0 rm) {x : Int64} (d : decode cc pc = .ok (.l2i, 1))  (k : G C ws mc ms (pc + 1) L (.int x.toInt32 :: st)) : G C ws mc ms pc L (.long x :: st) := fun H locs ls hP hD hS hL => lv_l2i E.exec E.code d rfl (k H locs ls hP hD hS hL)
theorem g_dup (E : gOk C cc nL Ts own e0 rm) {va : Value} (d : decode cc pc = .ok (.dup, 1)) (hva : va.category = 1) (k : G C ws mc ms (pc + 1) L (va :: va :: st)) : G C ws mc ms pc L (va :: st) := fun H locs ls hP hD hS hL => lv_dup E.exec E.code d hva (k H locs ls hP hD hS hL)
theorem g_pop (E : gOk C cc nL Ts own e0 rm) {va : Value} (d : decode cc pc = .ok (.pop, 1)) (hva : va.category = 1) (k : G C ws mc ms (pc + 1) L st) : G C ws mc ms pc L (va :: st) := fun H locs ls hP hD hS hL => lv_pop E.exec E.code d hva (k H locs ls hP hD hS hL)
theorem g_dup_x1 (E : gOk C cc nL Ts own e0 rm) {va vb : Value} (d : decode cc pc = .ok (.dup_x1, 1)) (hva : va.category = 1) (hvb : vb.category = 1) (k : G C ws mc ms (pc + 1) L (va :: vb :: va :: st)) : G C ws mc ms pc L (va :: vb :: st) := fun H locs ls hP hD hS hL => lv_dup_x1 E.exec E.code d hva hvb (k H locs ls hP hD hS hL)
theorem g_dup2_11 (E : gOk C cc nL Ts own e0 rm) {va vb : Value} (d : decode cc pc = .ok (.dup2, 1)) (hva : va.category = 1) (hvb : vb.category = 1) (k : G C ws mc ms (pc + 1) L (va :: vb :: va :: vb :: st)) : G C ws mc ms pc L (va :: vb :: st) := fun H locs ls hP hD hS hL => lv_dup2_11 E.exec E.code d hva hvb (k H locs ls hP hD hS hL)
theorem g_iload_n (E : gOk C cc nL Ts own e0 rm) {k : Fin 4} {i : Nat} {x : Int32} (d : decode cc pc = .ok (.iload_n k, 1)) (hi : (k : Nat) = i) (j : Nat) (hl : L[j]? = some (i, .int x)) (kk : G C ws mc ms (pc + 1) L (.int x :: st)) : G C ws mc ms pc L st := fun H locs ls hP hD hS hL => lv_iload_n E.exec E.code d hi (lv_at hL j hl) (kk H locs ls hP hD hS hL)
theorem g_iload (E : gOk C cc nL Ts own e0 rm) {i : Nat} {x : Int32} (d : decode cc pc = .ok (.iload i, 2)) (j : Nat) (hl : L[j]? = some (i, .int x)) (kk : G C ws mc ms (pc + 2) L (.int x :: st)) : G C ws mc ms pc L st := fun H locs ls hP hD hS hL => lv_iload E.exec E.code d (lv_at hL j hl) (kk H locs ls hP hD hS hL)
theorem g_lload_n (E : gOk C cc nL Ts own e0 rm) {k : Fin 4} {i : Nat} {x : Int64} (d : decode cc pc = .ok (.lload_n k, 1)) (hi : (k : Nat) = i) (j : Nat) (hl : L[j]? = some (i, .long x)) (kk : G C ws mc ms (pc + 1) L (.long x :: st)) : G C ws mc ms pc L st := fun H locs ls hP hD hS hL => lv_lload_n E.exec E.code d hi (lv_at hL j hl) (kk H locs ls hP hD hS hL)
theorem g_lload (E : gOk C cc nL Ts own e0 rm) {i : Nat} {x : Int64} (d : decode cc pc = .ok (.lload i, 2)) (j : Nat) (hl : L[j]? = some (i, .long x)) (kk : G C ws mc ms (pc + 2) L (.long x :: st)) : G C ws mc ms pc L st := fun H locs ls hP hD hS hL => lv_lload E.exec E.code d (lv_at hL j hl) (kk H locs ls hP hD hS hL)
theorem g_aload_n (E : gOk C cc nL Ts own e0 rm) {k : Fin 4} {i : Nat} {x : Nat} (d : decode cc pc = .ok (.aload_n k, 1)) (hi : (k : Nat) = i) (j : Nat) (hl : L[j]? = some (i, .ref x)) (kk : G C ws mc ms (pc + 1) L (.ref x :: st)) : G C ws mc ms pc L st := fun H locs ls hP hD hS hL => lv_aload_n E.exec E.code d hi (lv_at hL j hl) (kk H locs ls hP hD hS hL)
theorem g_aload (E : gOk C cc nL Ts own e0 rm) {i : Nat} {x : Nat} (d : decode cc pc = .ok (.aload i, 2)) (j : Nat) (hl : L[j]? = some (i, .ref x)) (kk : G C ws mc ms (pc + 2) L (.ref x :: st)) : G C ws mc ms pc L st := fun H locs ls hP hD hS hL => lv_aload E.exec E.code d (lv_at hL j hl) (kk H locs ls hP hD hS hL)
theorem g_aload_nN (E : gOk C cc nL Ts own e0 rm) {k : Fin 4} {i : Nat} (d : decode cc pc = .ok (.aload_n k, 1)) (hi : (k : Nat) = i) (j : Nat) (hl : L[j]? = some (i, .null)) (kk : G C ws mc ms (pc + 1) L (.null :: st)) : G C ws mc ms pc L st := fun H locs ls hP hD hS hL => lv_aload_nN E.exec E.code d hi (lv_at hL j hl) (kk H locs ls hP hD hS hL)
theorem g_aloadN (E : gOk C cc nL Ts own e0 rm) {i : Nat} (d : decode cc pc = .ok (.aload i, 2)) (j : Nat) (hl : L[j]? = some (i, .null)) (kk : G C ws mc ms (pc + 2) L (.null :: st)) : G C ws mc ms pc L st := fun H locs ls hP hD hS hL => lv_aloadN E.exec E.code d (lv_at hL j hl) (kk H locs ls hP hD hS hL)
theorem g_istore_n (E : gOk C cc nL Ts own e0 rm) {k : Fin 4} {i : Nat} {x : Int32} {L' : List (Nat × Value)} (d : decode cc pc = .ok (.istore_n k, 1)) (hi : (k : Nat) = i) (hn : i < nL) (hl : (i, Value.int x) :: L.filter (fun q => !(q.1 == i) && !(q.1 + 1 == i && q.2.category == 2)) = L') (kk : G C ws mc ms (pc + 1) L' st) : G C ws mc ms pc L (.int x :: st) := fun H locs ls hP hD hS hL => lv_istore_n E.exec E.code d hi hL (by rw [E.ml]; exact hn) hl (fun ls' hL' => kk H locs ls' hP hD hS hL')
theorem g_istore (E : gOk C cc nL Ts own e0 rm) {i : Nat} {x : Int32} {L' : List (Nat × Value)} (d : decode cc pc = .ok (.istore i, 2)) (hn : i < nL) (hl : (i, Value.int x) :: L.filter (fun q => !(q.1 == i) && !(q.1 + 1 == i && q.2.category == 2)) = L') (kk : G C ws mc ms (pc + 2) L' st) : G C ws mc ms pc L (.int x :: st) := fun H locs ls hP hD hS hL => lv_istore E.exec E.code d hL (by rw [E.ml]; exact hn) hl (fun ls' hL' => kk H locs ls' hP hD hS hL')
theorem g_lstore_n (E : gOk C cc nL Ts own e0 rm) {k : Fin 4} {i : Nat} {x : Int64} {L' : List (Nat × Value)} (d : decode cc pc = .ok (.lstore_n k, 1)) (hi : (k : Nat) = i) (hn : i + 1 < nL) (hl : (i, Value.long x) :: L.filter (fun q => !(q.1 == i) && (!(q.1 == i + 1) && !(q.1 + 1 == i && q.2.category == 2))) = L') (kk : G C ws mc ms (pc + 1) L' st) : G C ws mc ms pc L (.long x :: st) := fun H locs ls hP hD hS hL => lv_lstore_n E.exec E.code d hi hL (by rw [E.ml]; exact hn) hl (fun ls' hL' => kk H locs ls' hP hD hS hL')
theorem g_lstore (E : gOk C cc nL Ts own e0 rm) {i : Nat} {x : Int64} {L' : List (Nat × Value)} (d : decode cc pc = .ok (.lstore i, 2)) (hn : i + 1 < nL) (hl : (i, Value.long x) :: L.filter (fun q => !(q.1 == i) && (!(q.1 == i + 1) && !(q.1 + 1 == i && q.2.category == 2))) = L') (kk : G C ws mc ms (pc + 2) L' st) : G C ws mc ms pc L (.long x :: st) := fun H locs ls hP hD hS hL => lv_lstore E.exec E.code d hL (by rw [E.ml]; exact hn) hl (fun ls' hL' => kk H locs ls' hP hD hS hL')
theorem g_astore_n (E : gOk C cc nL Ts own e0 rm) {k : Fin 4} {i : Nat} {x : Nat} {L' : List (Nat × Value)} (d : decode cc pc = .ok (.astore_n k, 1)) (hi : (k : Nat) = i) (hn : i < nL) (hl : (i, Value.ref x) :: L.filter (fun q => !(q.1 == i) && !(q.1 + 1 == i && q.2.category == 2)) = L') (kk : G C ws mc ms (pc + 1) L' st) : G C ws mc ms pc L (.ref x :: st) := fun H locs ls hP hD hS hL => lv_astore_n E.exec E.code d hi hL (by rw [E.ml]; exact hn) hl (fun ls' hL' => kk H locs ls' hP hD hS hL')
theorem g_astore (E : gOk C cc nL Ts own e0 rm) {i : Nat} {x : Nat} {L' : List (Nat × Value)} (d : decode cc pc = .ok (.astore i, 2)) (hn : i < nL) (hl : (i, Value.ref x) :: L.filter (fun q => !(q.1 == i) && !(q.1 + 1 == i && q.2.category == 2)) = L') (kk : G C ws mc ms (pc + 2) L' st) : G C ws mc ms pc L (.ref x :: st) := fun H locs ls hP hD hS hL => lv_astore E.exec E.code d hL (by rw [E.ml]; exact hn) hl (fun ls' hL' => kk H locs ls' hP hD hS hL')
theorem g_astoreN (E : gOk C cc nL Ts own e0 rm) {i : Nat} {L' : List (Nat × Value)} (d : decode cc pc = .ok (.astore i, 2)) (hn : i < nL) (hl : (i, Value.null) :: L.filter (fun q => !(q.1 == i) && !(q.1 + 1 == i && q.2.category == 2)) = L') (kk : G C ws mc ms (pc + 2) L' st) : G C ws mc ms pc L (.null :: st) := fun H locs ls hP hD hS hL => lv_astoreN E.exec E.code d hL (by rw [E.ml]; exact hn) hl (fun ls' hL' => kk H locs ls' hP hD hS hL')
theorem g_astore_nN (E : gOk C cc nL Ts own e0 rm) {k : Fin 4} {i : Nat} {L' : List (Nat × Value)} (d : decode cc pc = .ok (.astore_n k, 1)) (hi : (k : Nat) = i) (hn : i < nL) (hl : (i, Value.null) :: L.filter (fun q => !(q.1 == i) && !(q.1 + 1 == i && q.2.category == 2)) = L') (kk : G C ws mc ms (pc + 1) L' st) : G C ws mc ms pc L (.null :: st) := fun H locs ls hP hD hS hL => lv_astore_nN E.exec E.code d hi hL (by rw [E.ml]; exact hn) hl (fun ls' hL' => kk H locs ls' hP hD hS hL')
theorem g_iinc (E : gOk C cc nL Ts own e0 rm) {i : Nat} {n : Int} {x v : Int32} {L' : List (Nat × Value)} (d : decode cc pc = .ok (.iinc i n, 3)) (j : Nat) (hj : L[j]? = some (i, .int x)) (hv : x + Int32.ofInt n = v) (hn : i < nL) (hl : (i, Value.int v) :: L.filter (fun q => !(q.1 == i) && !(q.1 + 1 == i && q.2.category == 2)) = L') (kk : G C ws mc ms (pc + 3) L' st) : G C ws mc ms pc L st := fun H locs ls hP hD hS hL => lv_iinc E.exec E.code d hL (k := j) hj hv (by rw [E.ml]; exact hn) hl (fun ls' hL' => kk H locs ls' hP hD hS hL')
theorem g_ldc (E : gOk C cc nL Ts own e0 rm) {ix : Nat} {v : Int32} (hc : Cond.constant own ix v ∈ Ts) (d : decode cc pc = .ok (.ldc ix, 2)) (kk : G C ws mc ms (pc + 2) L (.int v :: st)) : G C ws mc ms pc L st := fun H locs ls hP hD hS hL => lv_ldc E.exec E.code E.ow (E.ts _ hc) d (kk H locs ls hP hD hS hL)
theorem g_ldc2 (E : gOk C cc nL Ts own e0 rm) {ix : Nat} {v : Int64} (hc : Cond.constantLong own ix v ∈ Ts) (d : decode cc pc = .ok (.ldc2_w ix, 3)) (kk : G C ws mc ms (pc + 3) L (.long v :: st)) : G C ws mc ms pc L st := fun H locs ls hP hD hS hL => lv_ldc2 E.exec E.code E.ow (E.ts _ hc) d (kk H locs ls hP hD hS hL)
theorem g_goto (E : gOk C cc nL Ts own e0 rm) {off : Int} {tgt : Nat} (d : decode cc pc = .ok (.goto off, 3)) (ht : (pc : Int) + off = (tgt : Int)) (k : G C ws mc ms tgt L st) : G C ws mc ms pc L st := fun H locs ls hP hD hS hL => lv_goto E.exec E.code d ht (k H locs ls hP hD hS hL)
theorem g_ifnonnull (E : gOk C cc nL Ts own e0 rm) {x : Nat} {off : Int} {tgt : Nat} (d : decode cc pc = .ok (.ifnonnull off, 3)) (ht : (pc : Int) + off = (tgt : Int)) (k : G C ws mc ms tgt L st) : G C ws mc ms pc L (.ref x :: st) := fun H locs ls hP hD hS hL => lv_ifnonnull E.exec E.code d ht (k H locs ls hP hD hS hL)
theorem g_ifnull (E : gOk C cc nL Ts own e0 rm) {x : Nat} {off : Int} (d : decode cc pc = .ok (.ifnull off, 3)) (k : G C ws mc ms (pc + 3) L st) : G C ws mc ms pc L (.ref x :: st) := fun H locs ls hP hD hS hL => lv_ifnull E.exec E.code d (k H locs ls hP hD hS hL)
theorem g_ifnullN (E : gOk C cc nL Ts own e0 rm) {off : Int} {tgt : Nat} (d : decode cc pc = .ok (.ifnull off, 3)) (ht : (pc : Int) + off = (tgt : Int)) (k : G C ws mc ms tgt L st) : G C ws mc ms pc L (.null :: st) := fun H locs ls hP hD hS hL => lv_ifnullN E.exec E.code d ht (k H locs ls hP hD hS hL)
theorem g_ifnonnullN (E : gOk C cc nL Ts own e0 rm) {off : Int} (d : decode cc pc = .ok (.ifnonnull off, 3)) (k : G C ws mc ms (pc + 3) L st) : G C ws mc ms pc L (.null :: st) := fun H locs ls hP hD hS hL => lv_ifnonnullN E.exec E.code d (k H locs ls hP hD hS hL)
theorem g_if_eq (E : gOk C cc nL Ts own e0 rm) {x : Int32} {off : Int} {tgt : Nat} (d : decode cc pc = .ok (.ifCond .eq off, 3)) (ht : (pc : Int) + off = (tgt : Int)) (kt : x = 0 → G C ws mc ms tgt L st) (kf : ¬ x = 0 → G C ws mc ms (pc + 3) L st) : G C ws mc ms pc L (.int x :: st) := fun H locs ls hP hD hS hL => lv_if_eq E.exec E.code d ht (fun h => kt h H locs ls hP hD hS hL) (fun h => kf h H locs ls hP hD hS hL)
theorem g_icmp_eq (E : gOk C cc nL Ts own e0 rm) {x y : Int32} {off : Int} {tgt : Nat} (d : decode cc pc = .ok (.if_icmp .eq off, 3)) (ht : (pc : Int) + off = (tgt : Int)) (kt : x = y → G C ws mc ms tgt L st) (kf : ¬ x = y → G C ws mc ms (pc + 3) L st) : G C ws mc ms pc L (.int y :: .int x :: st) := fun H locs ls hP hD hS hL => lv_icmp_eq E.exec E.code d ht (fun h => kt h H locs ls hP hD hS hL) (fun h => kf h H locs ls hP hD hS hL)
theorem g_if_ne (E : gOk C cc nL Ts own e0 rm) {x : Int32} {off : Int} {tgt : Nat} (d : decode cc pc = .ok (.ifCond .ne off, 3)) (ht : (pc : Int) + off = (tgt : Int)) (kt : ¬ x = 0 → G C ws mc ms tgt L st) (kf : x = 0 → G C ws mc ms (pc + 3) L st) : G C ws mc ms pc L (.int x :: st) := fun H locs ls hP hD hS hL => lv_if_ne E.exec E.code d ht (fun h => kt h H locs ls hP hD hS hL) (fun h => kf h H locs ls hP hD hS hL)
theorem g_icmp_ne (E : gOk C cc nL Ts own e0 rm) {x y : Int32} {off : Int} {tgt : Nat} (d : decode cc pc = .ok (.if_icmp .ne off, 3)) (ht : (pc : Int) + off = (tgt : Int)) (kt : ¬ x = y → G C ws mc ms tgt L st) (kf : x = y → G C ws mc ms (pc + 3) L st) : G C ws mc ms pc L (.int y :: .int x :: st) := fun H locs ls hP hD hS hL => lv_icmp_ne E.exec E.code d ht (fun h => kt h H locs ls hP hD hS hL) (fun h => kf h H locs ls hP hD hS hL)
theorem g_if_lt (E : gOk C cc nL Ts own e0 rm) {x : Int32} {off : Int} {tgt : Nat} (d : decode cc pc = .ok (.ifCond .lt off, 3)) (ht : (pc : Int) + off = (tgt : Int)) (kt : x < 0 → G C ws mc ms tgt L st) (kf : ¬ x < 0 → G C ws mc ms (pc + 3) L st) : G C ws mc ms pc L (.int x :: st) := fun H locs ls hP hD hS hL => lv_if_lt E.exec E.code d ht (fun h => kt h H locs ls hP hD hS hL) (fun h => kf h H locs ls hP hD hS hL)
theorem g_icmp_lt (E : gOk C cc nL Ts own e0 rm) {x y : Int32} {off : Int} {tgt : Nat} (d : decode cc pc = .ok (.if_icmp .lt off, 3)) (ht : (pc : Int) + off = (tgt : Int)) (kt : x < y → G C ws mc ms tgt L st) (kf : ¬ x < y → G C ws mc ms (pc + 3) L st) : G C ws mc ms pc L (.int y :: .int x :: st) := fun H locs ls hP hD hS hL => lv_icmp_lt E.exec E.code d ht (fun h => kt h H locs ls hP hD hS hL) (fun h => kf h H locs ls hP hD hS hL)
theorem g_if_ge (E : gOk C cc nL Ts own e0 rm) {x : Int32} {off : Int} {tgt : Nat} (d : decode cc pc = .ok (.ifCond .ge off, 3)) (ht : (pc : Int) + off = (tgt : Int)) (kt : 0 ≤ x → G C ws mc ms tgt L st) (kf : ¬ 0 ≤ x → G C ws mc ms (pc + 3) L st) : G C ws mc ms pc L (.int x :: st) := fun H locs ls hP hD hS hL => lv_if_ge E.exec E.code d ht (fun h => kt h H locs ls hP hD hS hL) (fun h => kf h H locs ls hP hD hS hL)
theorem g_icmp_ge (E : gOk C cc nL Ts own e0 rm) {x y : Int32} {off : Int} {tgt : Nat} (d : decode cc pc = .ok (.if_icmp .ge off, 3)) (ht : (pc : Int) + off = (tgt : Int)) (kt : y ≤ x → G C ws mc ms tgt L st) (kf : ¬ y ≤ x → G C ws mc ms (pc + 3) L st) : G C ws mc ms pc L (.int y :: .int x :: st) := fun H locs ls hP hD hS hL => lv_icmp_ge E.exec E.code d ht (fun h => kt h H locs ls hP hD hS hL) (fun h => kf h H locs ls hP hD hS hL)
theorem g_if_gt (E : gOk C cc nL Ts own e0 rm) {x : Int32} {off : Int} {tgt : Nat} (d : decode cc pc = .ok (.ifCond .gt off, 3)) (ht : (pc : Int) + off = (tgt : Int)) (kt : 0 < x → G C ws mc ms tgt L st) (kf : ¬ 0 < x → G C ws mc ms (pc + 3) L st) : G C ws mc ms pc L (.int x :: st) := fun H locs ls hP hD hS hL => lv_if_gt E.exec E.code d ht (fun h => kt h H locs ls hP hD hS hL) (fun h => kf h H locs ls hP hD hS hL)
theorem g_icmp_gt (E : gOk C cc nL Ts own e0 rm) {x y : Int32} {off : Int} {tgt : Nat} (d : decode cc pc = .ok (.if_icmp .gt off, 3)) (ht : (pc : Int) + off = (tgt : Int)) (kt : y < x → G C ws mc ms tgt L st) (kf : ¬ y < x → G C ws mc ms (pc + 3) L st) : G C ws mc ms pc L (.int y :: .int x :: st) := fun H locs ls hP hD hS hL => lv_icmp_gt E.exec E.code d ht (fun h => kt h H locs ls hP hD hS hL) (fun h => kf h H locs ls hP hD hS hL)
theorem g_if_le (E : gOk C cc nL Ts own e0 rm) {x : Int32} {off : Int} {tgt : Nat} (d : decode cc pc = .ok (.ifCond .le off, 3)) (ht : (pc : Int) + off = (tgt : Int)) (kt : x ≤ 0 → G C ws mc ms tgt L st) (kf : ¬ x ≤ 0 → G C ws mc ms (pc + 3) L st) : G C ws mc ms pc L (.int x :: st) := fun H locs ls hP hD hS hL => lv_if_le E.exec E.code d ht (fun h => kt h H locs ls hP hD hS hL) (fun h => kf h H locs ls hP hD hS hL)
theorem g_icmp_le (E : gOk C cc nL Ts own e0 rm) {x y : Int32} {off : Int} {tgt : Nat} (d : decode cc pc = .ok (.if_icmp .le off, 3)) (ht : (pc : Int) + off = (tgt : Int)) (kt : x ≤ y → G C ws mc ms tgt L st) (kf : ¬ x ≤ y → G C ws mc ms (pc + 3) L st) : G C ws mc ms pc L (.int y :: .int x :: st) := fun H locs ls hP hD hS hL => lv_icmp_le E.exec E.code d ht (fun h => kt h H locs ls hP hD hS hL) (fun h => kf h H locs ls hP hD hS hL)
theorem g_lcmp (E : gOk C cc nL Ts own e0 rm) {x y : Int64} (d : decode cc pc = .ok (.lcmp, 1)) (k : G C ws mc ms (pc + 1) L (.int (lg_cmp x y) :: st)) : G C ws mc ms pc L (.long y :: .long x :: st) := fun H locs ls hP hD hS hL => W.lcmp E.exec E.code d (k H locs ls hP hD hS hL)
theorem g_locals (L' : List (Nat × Value)) (ks : List Nat) (hl : lv_pick L ks = L') (k : G C ws mc ms pc L' st) : G C ws mc ms pc L st := fun H locs ls hP hD hS hL => k H locs ls hP hD hS (lv_sub hL ks hl)
theorem g_widen {mc' ms' : Nat} (h1 : mc ≤ mc') (h2 : ms ≤ ms') (k : G C ws mc' ms' pc L st) : G C ws mc ms pc L st := fun H locs ls hP hD hS hL => W.widen h1 h2 (k H locs ls hP hD hS hL)
theorem g_world {ws' : va_W} (h : ws = ws') (k : G C ws' mc ms pc L st) : G C ws mc ms pc L st := h ▸ k
theorem g_stack {st' : List Value} (h : st = st') (k : G C ws mc ms pc L st') : G C ws mc ms pc L st := h ▸ k
end GL
/-! ends and contracts -/
def gQc (D : va_G) (post : Option Value → va_W → Prop) (A : Nat → Prop) : Array Value → State → Outcome → State → Prop := fun _ st o t =>
  (∃ (v : Option Value) (w : va_W), o = .returned v ∧ post v w ∧ va_P D vwCl w t.heap ∧ va_D A w) ∧ va_F A st t
def gXC (D : va_G) (xpost : String → va_W → Prop) (A : Nat → Prop) : String → State → State → Prop := fun X st t =>
  ∃ w : va_W, xpost X w ∧ va_P D vwCl w t.heap ∧ va_D A w ∧ va_F A st t
def gPc (D : va_G) (cy : Nat → ClassId) (e0 : Nat) (av : List Value) (w0 : va_W) (sz : Nat) : Array Value → State → Prop :=
  va_Pc av (fun U => U.heap.size = sz ∧ va_P D vwCl w0 U.heap ∧ gK D cy U ∧ va_D (fun _ => True) w0 ∧ gEV e0 (va_A w0 sz) U U.heap)
/-- a contract: from the world w0, with these arguments, the method returns with post, or throws with xpost; mc new cells of ms slots at most -/
def gMet (l : Launch) (y : MethodName) (wds : List Cond) (rm : Room) (D : va_G) (cy : Nat → ClassId) (e0 : Nat) (av : List Value) (w0 : va_W) (post : Option Value → va_W → Prop) (xpost : String → va_W → Prop) (mc ms : Nat) : Prop :=
  ∀ sz : Nat, vx_Met l y wds rm (gPc D cy e0 av w0 sz) (gQc D post (va_A w0 sz)) (gXC D xpost (va_A w0 sz)) mc ms (va_A w0 sz)
def gEnd (C : gT) (post : Option Value → va_W → Prop) (xpost : String → va_W → Prop) (mc ms : Nat) : Prop :=
  xQ C = vx_MQ (xb C) (gQc (xD C) post (xA C)) (gXC (xD C) xpost (xA C)) (xa C) (xs C) mc ms (xA C)
theorem gPc_blind {D : va_G} {cy : Nat → ClassId} {e0 : Nat} {av : List Value} {w0 : va_W} {sz : Nat} : FrameBlind (gPc D cy e0 av w0 sz) := by
  intro a U g mk q
  obtain ⟨h1, h2, h3, h4, h5, h6⟩ := q
  exact ⟨h1, h2, h3, gK.moved (u := U) (U := U.calling g mk a) (Vm.Alike.refl U.vm) h4, h5, gEV.calling h6⟩
/-- the start of a body -/
theorem gMet.of {l : Launch} {y : MethodName} {wds ws' : List Cond} {rm : Room} {D : va_G} {cy : Nat → ClassId} {e0 : Nat} {av : List Value} {w0 : va_W} {post : Option Value → va_W → Prop} {xpost : String → va_W → Prop} {mc ms : Nat} {cc : ByteArray} {maxL : Nat} {ret : Option FieldType}
    (hl : l.stackTraces = false) (hy : plainName y.cls = true) (hw : wds = Cond.code y cc maxL ret :: ws') (hlen : (lg_sl av).length ≤ maxL)
    (body : ∀ C : gT, gOk C cc maxL wds y.cls e0 rm → xl C = l → xD C = D → xy C = cy → (xh C).sig.returnType = ret → (xh C).name = y.name → (∀ x ∈ (xc C).exceptionTable.toList, False) → gEnd C post xpost mc ms → G C w0 0 0 0 (lv_args 0 av) []) :
    gMet l y wds rm D cy e0 av w0 post xpost mc ms := by
  intro sz
  refine vx_ofW (cc := cc) (maxL := maxL) (ret := ret) hy hw ?_
  intro p e s m args below meth c s₁ B hml ht hv
  obtain ⟨rfl, hsz, hP, hK, hD0, hev⟩ := hv
  subst hsz
  have hown : s.vm.findClass y.cls = some m.cls := findClass_of_methodNamed B.named
  have hl1 := lv_entry av hlen
  rw [lg_entry_eq]
  exact body (p, l, e, (headSpec wds rm).room, s, m, av.toArray, below, meth, c, D, cy, va_A w0 s.heap.size, vx_MQ below (gQc D post (va_A w0 s.heap.size)) (gXC D xpost (va_A w0 s.heap.size)) av.toArray s mc ms (va_A w0 s.heap.size))
    ⟨B.exec, B.bytes, hml, atoms_spec (ws := wds) B.pre, hown, hK, fun q h => Or.inr h, B.notSynchronized, hl, hev, rfl⟩ rfl rfl rfl B.returns (name_of_methodNamed B.named B.method).1 ht rfl s.heap [] _ hP hD0.self va_S.rf (by show lv_has _ c.maxLocals _; rw [hml]; exact hl1)
section GE
variable {C : gT} {cc : ByteArray} {nL : Nat} {Ts : List Cond} {own : String} {e0 : Nat} {rm : Room} {ws : va_W} {mc ms pc : Nat} {L : List (Nat × Value)} {st : List Value} {post : Option Value → va_W → Prop} {xpost : String → va_W → Prop} {MC MS : Nat}
theorem g_iret (E : gOk C cc nL Ts own e0 rm) (hE : gEnd C post xpost MC MS) (hr : (xh C).sig.returnType = some .int) {v : Int32} (d : decode cc pc = .ok (.ireturn, 1)) (h1 : mc ≤ MC) (h2 : ms ≤ MS) (hp : post (some (.int v)) ws) : G C ws mc ms pc L [.int v] := by
  intro H locs ls hP hD hS hL
  rw [hE]
  exact W.widen h1 h2 (vx_ret (W.iret E.exec E.code hr (fun t ht hW => ⟨⟨_, ws, rfl, hp, by rw [ht]; exact hP, hD⟩, hS.F ht⟩) hS.2.2 d E.locks))
theorem g_zret (E : gOk C cc nL Ts own e0 rm) (hE : gEnd C post xpost MC MS) (hr : (xh C).sig.returnType = some .boolean) {v : Int32} (hv : v = 0 ∨ v = 1) (d : decode cc pc = .ok (.ireturn, 1)) (h1 : mc ≤ MC) (h2 : ms ≤ MS) (hp : post (some (.int v)) ws) : G C ws mc ms pc L [.int v] := by
  intro H locs ls hP hD hS hL
  rw [hE]
  exact W.widen h1 h2 (vx_ret (W.zret E.exec E.code hr (by rcases hv with rfl | rfl <;> rfl) (fun t ht hW => ⟨⟨_, ws, rfl, hp, by rw [ht]; exact hP, hD⟩, hS.F ht⟩) hS.2.2 d E.locks))
theorem g_lret (E : gOk C cc nL Ts own e0 rm) (hE : gEnd C post xpost MC MS) (hr : (xh C).sig.returnType = some .long) {v : Int64} (d : decode cc pc = .ok (.lreturn, 1)) (h1 : mc ≤ MC) (h2 : ms ≤ MS) (hp : post (some (.long v)) ws) : G C ws mc ms pc L [.long v] := by
  intro H locs ls hP hD hS hL
  rw [hE]
  exact W.widen h1 h2 (vx_ret (W.lret E.exec E.code hr (fun t ht hW => ⟨⟨_, ws, rfl, hp, by rw [ht]; exact hP, hD⟩, hS.F ht⟩) hS.2.2 d E.locks))
theorem g_vret (E : gOk C cc nL Ts own e0 rm) (hE : gEnd C post xpost MC MS) (hr : (xh C).sig.returnType = none) (d : decode cc pc = .ok (.return_, 1)) (h1 : mc ≤ MC) (h2 : ms ≤ MS) (hp : post none ws) : G C ws mc ms pc L [] := by
  intro H locs ls hP hD hS hL
  rw [hE]
  exact W.widen h1 h2 (vx_ret (W.vret E.exec E.code hr (fun t ht hW => ⟨⟨_, ws, rfl, hp, by rw [ht]; exact hP, hD⟩, hS.F ht⟩) hS.2.2 d E.locks))
theorem g_aret (E : gOk C cc nL Ts own e0 rm) (hE : gEnd C post xpost MC MS) {rt : FieldType} (hr : (xh C).sig.returnType = some rt) (hrt : (∃ n, rt = .object n) ∨ ∃ t, rt = .array t) {v : Value} (hv : v = .null ∨ ∃ a, v = .ref a) (d : decode cc pc = .ok (.areturn, 1)) (h1 : mc ≤ MC) (h2 : ms ≤ MS) (hp : post (some v) ws) : G C ws mc ms pc L [v] := by
  intro H locs ls hP hD hS hL
  rw [hE]
  exact W.widen h1 h2 (vx_ret (W.aret E.exec E.code hr hrt hv (fun t ht hW => ⟨⟨_, ws, rfl, hp, by rw [ht]; exact hP, hD⟩, hS.F ht⟩) hS.2.2 d E.locks))
/-- an exception leaves the method -/
theorem gx_out (E : gOk C cc nL Ts own e0 rm) (hE : gEnd C post xpost MC MS) (hT : ∀ x ∈ (xc C).exceptionTable.toList, False) {X : String} (h1 : mc ≤ MC) (h2 : ms ≤ MS) (hp : xpost X ws) : GX C ws mc ms pc L X := by
  intro H locs ls rest q ce hP hD hS hL hce hcv hcl
  rw [hE]
  exact vx_out (fun x hx => (hT x hx).elim) E.locks hce hcv hcl (fun t ht hW => ⟨ws, hp, by rw [ht]; exact hP, hD, hS.F ht⟩) hS.2.2 h1 h2
/-- throw new X("text") -/
theorem g_throwS (E : gOk C cc nL Ts own e0 rm) (hE : gEnd C post xpost MC MS) (hT : ∀ x ∈ (xc C).exceptionTable.toList, False) (X text : String) (names : List String) (ik is ic : Nat) (hcls : Bundle.fit X = true) (hnames : ∀ n ∈ names, Bundle.fit n = true)
    (hk : Cond.classLink own ik X ∈ Ts) (hini : Cond.initialized X ∈ Ts) (hstr : Cond.stringRef own is text ∈ lw_tbl) (hg : ∀ w ∈ (vx_atS own ic X names).filter goodWord, w ∈ Ts) (hb : ∀ w ∈ (vx_atS own ic X names).filter (fun w => !goodWord w), gNk w = true ∧ w ∈ lw_tbl)
    (hgood : ∀ w ∈ Cond.classLink own ik X :: Cond.initialized X :: vx_atS own ic X names, vx_ot w = true)
    (d0 : decode cc pc = .ok (.new ik, 3)) (d3 : decode cc (pc + 3) = .ok (.dup, 1)) (d4 : decode cc (pc + 4) = .ok (.ldc is, 2)) (d6 : decode cc (pc + 6) = .ok (.invokespecial ic, 3)) (d9 : decode cc (pc + 9) = .ok (.athrow, 1))
    (hRframes : names.length + 3 < rm.frames) (hRlocals : (st.map fun v => v.category).sum + (13 * (names.length + 1) + 43) ≤ rm.locals) (hRcells : mc + 1 ≤ rm.cells) (hRslots : ms + 6 ≤ rm.slots) (h1 : mc + 1 ≤ MC) (h2 : ms + 6 ≤ MS) (hp : xpost X ws) : G C ws mc ms pc L st := by
  intro H locs ls hP hD hS hL
  rw [hE]
  obtain ⟨sa, hsa⟩ := E.ev.2.1 own is text hstr
  have hr := E.room
  exact vx_throwS E.exec E.code E.tr E.ow hcls hnames (E.ts _ hk) (E.ts _ hini) hsa (vx_hat (fun w hw => E.ts w (hg w hw)) (fun w hw => hw) (fun w hw => E.nest (hb w hw).2 (hb w hw).1)) hgood E.ev.2.2.1 E.ev.2.2.2.1 hS hL.1 d0 d3 d4 d6 d9 (fun x hx => (hT x hx).elim) (by rw [hr]; exact hRframes) (by rw [hr]; exact hRlocals) (by rw [hr]; exact hRcells) (by rw [hr]; exact hRslots) E.locks
    (fun t hA hz hk => ⟨ws, hp, hP.kept (fun k q hq => hk q.1 ((hP k q hq).lt)), hD, ⟨Nat.le_trans hS.1 hz, fun q h3 h4 => by rw [hk q (Nat.lt_of_lt_of_le h3 hS.1)]; exact hS.2.1 q h3 h4⟩⟩) hS.2.2 h1 h2
end GE
section GC
variable {C : gT} {cc : ByteArray} {nL : Nat} {Ts : List Cond} {own : String} {e0 : Nat} {rm : Room} {ws : va_W} {mc ms pc : Nat} {L : List (Nat × Value)} {st : List Value} {post : Option Value → va_W → Prop} {xpost : String → va_W → Prop}
theorem g_free (E : gOk C cc nL Ts own e0 rm) {H : Heap} {locs : List Loc} (hD : va_D (xA C) ws) (hS : va_S (xA C) (xs C).heap H locs) : ∀ q, va_A ws H.size q → xA C q := by
  intro q h
  rcases h with ⟨k, e, h⟩ | h
  · exact hD.2 k (q, e) h
  · exact E.A q (Nat.le_trans hS.1 h)
/-- behind a call -/
theorem g_cont {A0 : Nat → Prop} {H0 : Heap} {p : Program} {l : Launch} {e : Env} {R : Room} {s : State} {m : MethodId} {args : Array Value} {below : List Frame} {meth : Method} {c : Code} {H : Heap} {locs : List Loc} {Q : State → Prop} {D : va_G} {mc' ms' : Nat} {ls : Array Slot} {st0 rest : List Value} {a : Array Value}
    (hr : vx_Run p l e R s m args below meth c H locs mc ms mc' ms' (F0 m pc ls st0) rest (gQc D post (va_A ws H.size) a) (gXC D xpost (va_A ws H.size)) (va_A ws H.size)) (hS : va_S A0 H0 H locs) (hFc : ∀ q, va_A ws H.size q → A0 q)
    (kx : ∀ (X : String) (w' : va_W), xpost X w' → ∀ (H1 : Heap) (locs1 : List Loc) (q : Addr) (ce : Cell), va_P D vwCl w' H1 → va_D (va_A ws H.size) w' → va_S A0 H0 H1 locs1 → (∀ q : Nat, q < H.size → ¬ va_A ws H.size q → H1[q]? = H[q]?) → H1[q]? = some ce → ce.vm = .none → s.vm.findClass X = some ce.cls → vx_W p l e R s m args below meth c H1 locs1 (mc + mc') (ms + ms') Q (F0 m pc ls rest) q)
    (kk : ∀ (v : Option Value) (w' : va_W), post v w' → ∀ (H1 : Heap) (locs1 : List Loc), va_P D vwCl w' H1 → va_D (va_A ws H.size) w' → va_S A0 H0 H1 locs1 → (∀ q : Nat, q < H.size → ¬ va_A ws H.size q → H1[q]? = H[q]?) → W p l e R s m args below meth c H1 locs1 (mc + mc') (ms + ms') Q (F0 m (pc + 3) ls (v.toList ++ rest))) :
    W p l e R s m args below meth c H locs mc ms Q (F0 m pc ls st0) := by
  intro T hT X
  rcases hr T hT X with ⟨v, st₀, t, T', L', h0, X', hL', e1, e2, ⟨⟨r, w', hv, hp, hPw, hDw⟩, hF⟩, st⟩ | ⟨q, st₀, t, T', L', E', ce, h0, X', hL', e1, e2, ⟨w', hp, hPw, hDw, hF⟩, hce, hcv, hcl, st⟩
  · cases hv
    obtain ⟨k1, k2, k3⟩ := vx_keep h0 e1 hS (fun q _ h => hFc q h) hFc hL' hF
    obtain ⟨t2, a1, b1⟩ := kk _ w' hp T'.heap (locs ++ L') (by rw [e1]; exact hPw) hDw k3 k2 T' rfl X'
    exact ⟨t2, st t2 a1, b1⟩
  · obtain ⟨k1, k2, k3⟩ := vx_keep h0 e1 hS (fun q _ h => hFc q h) hFc hL' hF
    obtain ⟨t2, a1, b1⟩ := kx E' w' hp T'.heap (locs ++ L') q ce (by rw [e1]; exact hPw) hDw k3 k2 (by rw [e1]; exact hce) hcv hcl T' rfl X'
    exact ⟨t2, st.trans a1, b1⟩
theorem g_pre (E : gOk C cc nL Ts own e0 rm) {H : Heap} {locs : List Loc} {av : List Value} (hP : va_P (xD C) vwCl ws H) (hD : va_D (xA C) ws) (hS : va_S (xA C) (xs C).heap H locs) : ∀ U : State, U.heap = H → (xs C).WarmedH U.vm → gPc (xD C) (xy C) e0 av ws H.size av.toArray U := by
  intro U hU hW
  refine ⟨rfl, by rw [hU], by rw [hU]; exact hP, gK.moved hW.alike E.2.2.2.2.2.1, hD.weaken (fun _ _ _ _ => trivial), ?_⟩
  rw [hU]
  exact gEV.warm hW ((E.ev.kept hS.2.1).narrow (g_free E hD hS))
theorem g_kx {H : Heap} {ls : Array Slot} {rest : List Value} {mc' ms' : Nat} (hL : lv_has ls (xc C).maxLocals L) (hFc : ∀ q, va_A ws H.size q → xA C q) (kx : ∀ (X : String) (w' : va_W), xpost X w' → GX C w' (mc + mc') (ms + ms') pc L X) :
    ∀ (X : String) (w' : va_W), xpost X w' → ∀ (H1 : Heap) (locs1 : List Loc) (q : Addr) (ce : Cell), va_P (xD C) vwCl w' H1 → va_D (va_A ws H.size) w' → va_S (xA C) (xs C).heap H1 locs1 → (∀ q : Nat, q < H.size → ¬ va_A ws H.size q → H1[q]? = H[q]?) → H1[q]? = some ce → ce.vm = .none → (xs C).vm.findClass X = some ce.cls → vx_W (xp C) (xl C) (xe C) (xR C) (xs C) (xm C) (xa C) (xb C) (xh C) (xc C) H1 locs1 (mc + mc') (ms + ms') (xQ C) (F0 (xm C) pc ls rest) q :=
  fun X w' hp H1 locs1 q ce h1 h2 h3 _ h4 h5 h6 => kx X w' hp H1 locs1 ls rest q ce h1 (h2.weaken (fun _ q _ h => hFc q.1 h)) h3 hL h4 h5 h6
theorem g_kk {H : Heap} {ls : Array Slot} {rest : List Value} {mc' ms' : Nat} (hL : lv_has ls (xc C).maxLocals L) (hFc : ∀ q, va_A ws H.size q → xA C q) (kk : ∀ (v : Option Value) (w' : va_W), post v w' → G C w' (mc + mc') (ms + ms') (pc + 3) L (v.toList ++ rest)) :
    ∀ (v : Option Value) (w' : va_W), post v w' → ∀ (H1 : Heap) (locs1 : List Loc), va_P (xD C) vwCl w' H1 → va_D (va_A ws H.size) w' → va_S (xA C) (xs C).heap H1 locs1 → (∀ q : Nat, q < H.size → ¬ va_A ws H.size q → H1[q]? = H[q]?) → W (xp C) (xl C) (xe C) (xR C) (xs C) (xm C) (xa C) (xb C) (xh C) (xc C) H1 locs1 (mc + mc') (ms + ms') (xQ C) (F0 (xm C) (pc + 3) ls (v.toList ++ rest)) :=
  fun v w' hp H1 locs1 h1 h2 h3 _ => kk v w' hp H1 locs1 ls h1 (h2.weaken (fun _ q _ h => hFc q.1 h)) h3 hL
variable {yy : MethodName} {wds ws'' : List Cond} {rm' : Room} {idx n maxL' : Nat} {Cn : String} {bytes : ByteArray} {ret' : Option FieldType} {As rest : List Value} {b : Nat} {mc' ms' : Nat}
theorem g_invV (E : gOk C cc nL Ts own e0 rm) (hM : gMet (xl C) yy wds rm' (xD C) (xy C) e0 (.ref b :: As) ws post xpost mc' ms') (hG : GoodIn Ts (wsV own idx Cn yy wds)) (hw : wds = Cond.code yy bytes maxL' ret' :: ws'') (hrc : rm'.cells = mc') (hrs : rm'.slots = ms')
    (hd : yy.cls = Cn ∧ yy.cls ≠ "java/lang/invoke/MethodHandle" ∧ yy.cls ≠ "java/lang/invoke/VarHandle" ∧ (parseMethodDescriptor yy.desc).map (fun d => d.parameters.length) = some n) (hR : rm'.frames + 1 ≤ rm.frames ∧ 8 + (maxL' + 11) + rm'.locals ≤ rm.locals)
    (k ci : Nat) {q : vw_C} {fs : List Value} (hq : vwCl[ci]? = some q) (hqn : q.1 = Cn) (hk : ws[k]? = some (b, .inr (ci, fs))) (hn : As.length = n) (hst : st = As.reverse ++ .ref b :: rest) (hcat : (rest.map fun v => v.category).sum ≤ 8) (d : decode cc pc = .ok (.invokevirtual idx, 3)) (hf : mc + mc' ≤ rm.cells ∧ ms + ms' ≤ rm.slots)
    (kx : ∀ (X : String) (w' : va_W), xpost X w' → GX C w' (mc + mc') (ms + ms') pc L X) (kk : ∀ (v : Option Value) (w' : va_W), post v w' → G C w' (mc + mc') (ms + ms') (pc + 3) L (v.toList ++ rest)) : G C ws mc ms pc L st := by
  subst hst
  subst hqn
  intro H locs ls hP hD hS hL
  have hFc := g_free E hD hS
  exact g_cont (vx_runV (As := As) (rest := rest) ⟨E.exec, E.code, E.ml, E.ow, E.ts⟩ (hM H.size) (cwV n E.ts hG hw hrc hrs hd (by rw [E.room]; exact hR)) ⟨gPc_blind, va_recv E.K hP hq hk, g_pre E hP hD hS⟩ rfl hn (by rw [← E.ml]; exact hL.1) rfl (lv_room hcat) d (by rw [E.room]; exact hf)) hS hFc (g_kx hL hFc kx) (g_kk hL hFc kk)
theorem g_invS (E : gOk C cc nL Ts own e0 rm) (hM : gMet (xl C) yy wds rm' (xD C) (xy C) e0 As ws post xpost mc' ms') (hG : GoodIn Ts (va_wsS own idx yy wds)) (hw : wds = Cond.code yy bytes maxL' ret' :: ws'') (hrc : rm'.cells = mc') (hrs : rm'.slots = ms')
    (hd : yy.cls ≠ "java/lang/invoke/MethodHandle" ∧ yy.cls ≠ "java/lang/invoke/VarHandle" ∧ (parseMethodDescriptor yy.desc).map (fun d => d.parameters.length) = some n) (hR : rm'.frames + 1 ≤ rm.frames ∧ 8 + (maxL' + 11) + rm'.locals ≤ rm.locals)
    (hn : As.length = n) (hst : st = As.reverse ++ rest) (hcat : (rest.map fun v => v.category).sum ≤ 8) (d : decode cc pc = .ok (.invokestatic idx, 3)) (hf : mc + mc' ≤ rm.cells ∧ ms + ms' ≤ rm.slots)
    (kx : ∀ (X : String) (w' : va_W), xpost X w' → GX C w' (mc + mc') (ms + ms') pc L X) (kk : ∀ (v : Option Value) (w' : va_W), post v w' → G C w' (mc + mc') (ms + ms') (pc + 3) L (v.toList ++ rest)) : G C ws mc ms pc L st := by
  subst hst
  intro H locs ls hP hD hS hL
  have hFc := g_free E hD hS
  exact g_cont (vx_runS (As := As) (rest := rest) ⟨E.exec, E.code, E.ml, E.ow, E.ts⟩ (hM H.size) (va_cwS n E.ts hG hw hrc hrs hd (by rw [E.room]; exact hR)) ⟨gPc_blind, g_pre E hP hD hS⟩ rfl hn (by rw [← E.ml]; exact hL.1) rfl (lv_room hcat) d (by rw [E.room]; exact hf)) hS hFc (g_kx hL hFc kx) (g_kk hL hFc kk)
theorem g_invI (E : gOk C cc nL Ts own e0 rm) (hM : gMet (xl C) yy wds rm' (xD C) (xy C) e0 (.ref b :: As) ws post xpost mc' ms') (hG : GoodIn Ts wds) (hw : wds = Cond.code yy bytes maxL' none :: ws'') (hrc : rm'.cells = mc') (hrs : rm'.slots = ms') (hini : Cond.initialized yy.cls ∈ Ts) (hlk : Cond.methodLink own idx yy ∈ Ts) (hin : Cond.instanceMethod yy ∈ Ts) (hy1 : yy.name = "<init>")
    (hd : yy.cls ≠ "java/lang/invoke/MethodHandle" ∧ yy.cls ≠ "java/lang/invoke/VarHandle" ∧ (parseMethodDescriptor yy.desc).map (fun d => d.parameters.length) = some n) (hR : rm'.frames + 1 ≤ rm.frames ∧ 8 + (maxL' + 11) + rm'.locals ≤ rm.locals)
    (hn : As.length = n) (hst : st = As.reverse ++ .ref b :: rest) (hcat : (rest.map fun v => v.category).sum ≤ 8) (d : decode cc pc = .ok (.invokespecial idx, 3)) (hf : mc + mc' ≤ rm.cells ∧ ms + ms' ≤ rm.slots)
    (kx : ∀ (X : String) (w' : va_W), xpost X w' → GX C w' (mc + mc') (ms + ms') pc L X) (kk : ∀ (v : Option Value) (w' : va_W), post v w' → G C w' (mc + mc') (ms + ms') (pc + 3) L (v.toList ++ rest)) : G C ws mc ms pc L st := by
  subst hst
  intro H locs ls hP hD hS hL
  have hFc := g_free E hD hS
  exact g_cont (vx_runI (As := As) (rest := rest) ⟨E.exec, E.code, E.ml, E.ow, E.ts⟩ (hM H.size) (cwI n E.ts hG hw hrc hrs (E.ts _ hini) (E.ts _ hlk) (E.ts _ hin) hy1 hd (by rw [E.room]; exact hR)) ⟨gPc_blind, g_pre E hP hD hS⟩ rfl hn (by rw [← E.ml]; exact hL.1) rfl (lv_room hcat) d (by rw [E.room]; exact hf)) hS hFc (g_kx hL hFc kx) (g_kk hL hFc kk)
theorem g_invIN (E : gOk C cc nL Ts own e0 rm) {host : String} (hM : gMet (xl C) yy wds rm' (xD C) (xy C) e0 (.ref b :: As) ws post xpost mc' ms') (hG : GoodIn Ts wds) (hw : wds = Cond.code yy bytes maxL' none :: ws'') (hrc : rm'.cells = mc') (hrs : rm'.slots = ms') (hini : Cond.initialized yy.cls ∈ Ts) (hlk : Cond.methodLinkNest own idx yy host ∈ lw_tbl) (hin : Cond.instanceMethod yy ∈ Ts) (hy1 : yy.name = "<init>")
    (hd : yy.cls ≠ "java/lang/invoke/MethodHandle" ∧ yy.cls ≠ "java/lang/invoke/VarHandle" ∧ (parseMethodDescriptor yy.desc).map (fun d => d.parameters.length) = some n) (hR : rm'.frames + 1 ≤ rm.frames ∧ 8 + (maxL' + 11) + rm'.locals ≤ rm.locals)
    (hn : As.length = n) (hst : st = As.reverse ++ .ref b :: rest) (hcat : (rest.map fun v => v.category).sum ≤ 8) (d : decode cc pc = .ok (.invokespecial idx, 3)) (hf : mc + mc' ≤ rm.cells ∧ ms + ms' ≤ rm.slots)
    (kx : ∀ (X : String) (w' : va_W), xpost X w' → GX C w' (mc + mc') (ms + ms') pc L X) (kk : ∀ (v : Option Value) (w' : va_W), post v w' → G C w' (mc + mc') (ms + ms') (pc + 3) L (v.toList ++ rest)) : G C ws mc ms pc L st := by
  subst hst
  intro H locs ls hP hD hS hL
  have hFc := g_free E hD hS
  exact g_cont (vx_runIN (As := As) (rest := rest) ⟨E.exec, E.code, E.ml, E.ow, E.ts⟩ (hM H.size) ⟨va_cnB n E.ts hG hw hrc hrs (E.ev.1 _ hlk rfl) (E.ts _ hini) hd (by rw [E.room]; exact hR), hy1, E.ts _ hin⟩ ⟨gPc_blind, g_pre E hP hD hS⟩ rfl hn (by rw [← E.ml]; exact hL.1) rfl (lv_room hcat) d (by rw [E.room]; exact hf)) hS hFc (g_kx hL hFc kx) (g_kk hL hFc kk)
/-- Object.<init> -/
theorem g_objInit (E : gOk C cc nL Ts own e0 rm) {a : Nat} (hlk : Cond.methodLink own idx objectInit ∈ Ts) (hin : Cond.instanceMethod objectInit ∈ Ts) (hco : Cond.code objectInit ⟨#[0xb1]⟩ 1 none ∈ Ts) (d : decode cc pc = .ok (.invokespecial idx, 3)) (hf : 1 ≤ rm.frames) (hlo : (rest.map fun v => v.category).sum + 12 ≤ rm.locals) (k : G C ws mc ms (pc + 3) L rest) : G C ws mc ms pc L (.ref a :: rest) := fun H locs ls hP hD hS hL =>
  W.objInit E.exec E.code E.ow (E.ts _ hlk) (E.ts _ hin) (E.ts _ hco) rfl hL.1 rfl d (by rw [E.room]; exact hf) (by rw [E.room]; show 2 * 0 + _ + 12 ≤ _; omega) (k H locs ls hP hD hS hL)
/-- a cast that holds -/
theorem g_cast (E : gOk C cc nL Ts own e0 rm) {nm : String} (hlk : Cond.classLink own idx nm ∈ Ts) (k ci : Nat) {q : vw_C} {fs : List Value} (hq : vwCl[ci]? = some q) (hqn : q.1 = nm) (hk : ws[k]? = some (b, .inr (ci, fs))) (d : decode cc pc = .ok (.checkcast idx, 3)) (kk : G C ws mc ms (pc + 3) L (.ref b :: st)) : G C ws mc ms pc L (.ref b :: st) := by
  subst hqn
  exact fun H locs ls hP hD hS hL => va_castS E.exec E.code E.ow (E.ts _ hlk) (E.K.1 ci q hq).2 (va_recv E.K hP hq hk) d (kk H locs ls hP hD hS hL)
theorem g_acmp_eq (E : gOk C cc nL Ts own e0 rm) {rx ry : Option Nat} {off : Int} {tgt : Nat} {vx vy : Value} (hvx : vx = va_rf rx) (hvy : vy = va_rf ry) (d : decode cc pc = .ok (.if_acmp .eq off, 3)) (ht : (pc : Int) + off = (tgt : Int)) (kt : rx = ry → G C ws mc ms tgt L st) (kf : ¬ rx = ry → G C ws mc ms (pc + 3) L st) : G C ws mc ms pc L (vy :: vx :: st) := by
  subst hvx; subst hvy
  exact fun H locs ls hP hD hS hL => lv_acmp_eq E.exec E.code d ht (fun h => kt h H locs ls hP hD hS hL) (fun h => kf h H locs ls hP hD hS hL)
theorem g_acmp_ne (E : gOk C cc nL Ts own e0 rm) {rx ry : Option Nat} {off : Int} {tgt : Nat} {vx vy : Value} (hvx : vx = va_rf rx) (hvy : vy = va_rf ry) (d : decode cc pc = .ok (.if_acmp .ne off, 3)) (ht : (pc : Int) + off = (tgt : Int)) (kt : ¬ rx = ry → G C ws mc ms tgt L st) (kf : rx = ry → G C ws mc ms (pc + 3) L st) : G C ws mc ms pc L (vy :: vx :: st) := by
  subst hvx; subst hvy
  exact fun H locs ls hP hD hS hL => lv_acmp_ne E.exec E.code d ht (fun h => kt h H locs ls hP hD hS hL) (fun h => kf h H locs ls hP hD hS hL)
end GC
