/-! the frame: a contract in a larger world; methods with handlers -/
theorem va_A_r {w0 wr : va_W} {sz q : Nat} (h : va_A w0 sz q) : va_A (w0 ++ wr) sz q := by
  rcases h with ⟨k, e, h⟩ | h
  · exact Or.inl ⟨k, e, by rw [List.getElem?_append_left (List.getElem?_eq_some_iff.mp h).1]; exact h⟩
  · exact Or.inr h
theorem va_A_l {w0 wr : va_W} {sz q : Nat} (h : va_A w0 sz q) : va_A (wr ++ w0) sz q := by
  rcases h with ⟨k, e, h⟩ | h
  · exact Or.inl ⟨wr.length + k, e, by rw [List.getElem?_append_right (by omega), Nat.add_sub_cancel_left]; exact h⟩
  · exact Or.inr h
theorem app_l {w0 wr : va_W} {k : Nat} {q : Nat × va_E} (h : w0[k]? = some q) : (w0 ++ wr)[k]? = some q := by rw [List.getElem?_append_left (List.getElem?_eq_some_iff.mp h).1]; exact h
theorem app_r {w0 wr : va_W} {k : Nat} {q : Nat × va_E} (h : wr[k]? = some q) : (w0 ++ wr)[w0.length + k]? = some q := by rw [List.getElem?_append_right (by omega), Nat.add_sub_cancel_left]; exact h
theorem D_left {A : Nat → Prop} {w0 wr : va_W} (h : va_D A (w0 ++ wr)) : va_D A w0 := ⟨fun i j p q hi hj e => h.1 i j p q (app_l hi) (app_l hj) e, fun k q hk => h.2 k q (app_l hk)⟩
theorem D_right {A : Nat → Prop} {w0 wr : va_W} (h : va_D A (w0 ++ wr)) : va_D A wr := ⟨fun i j p q hi hj e => by have := h.1 _ _ p q (app_r (w0 := w0) hi) (app_r (w0 := w0) hj) e; omega, fun k q hk => h.2 _ q (app_r (w0 := w0) hk)⟩
theorem D_apart {A : Nat → Prop} {w0 wr : va_W} (h : va_D A (w0 ++ wr)) {i j : Nat} {p q : Nat × va_E} (hi : w0[i]? = some p) (hj : wr[j]? = some q) : p.1 ≠ q.1 := fun e => by
  have h1 := h.1 _ _ p q (app_l (wr := wr) hi) (app_r (w0 := w0) hj) e
  have h2 := (List.getElem?_eq_some_iff.mp hi).1
  omega
theorem P_left {D : va_G} {cl : List vw_C} {w0 wr : va_W} {H : Heap} (h : va_P D cl (w0 ++ wr) H) : va_P D cl w0 H := fun k q hk => h k q (app_l hk)
theorem P_right {D : va_G} {cl : List vw_C} {w0 wr : va_W} {H : Heap} (h : va_P D cl (w0 ++ wr) H) : va_P D cl wr H := fun k q hk => h _ q (app_r (w0 := w0) hk)
theorem va_F_mono {A B : Nat → Prop} {st t : State} (h : va_F A st t) (hAB : ∀ q, A q → B q) : va_F B st t := ⟨h.1, fun q hq hn => h.2 q hq (fun z => hn (hAB q z))⟩
/-- the rest of the world behind a call -/
theorem fr_rest {D : va_G} {w0 wr w : va_W} {st t : State} (hap : ∀ (i j : Nat) (p q : Nat × va_E), w0[i]? = some p → wr[j]? = some q → p.1 ≠ q.1) (hwr : va_P D vwCl wr st.heap) (hDr : va_D (fun _ => True) wr) (hF : va_F (va_A w0 st.heap.size) st t) (hDw : va_D (va_A w0 st.heap.size) w) :
    va_P D vwCl wr t.heap ∧ ∀ (i j : Nat) (p q : Nat × va_E), w[i]? = some p → wr[j]? = some q → p.1 ≠ q.1 := by
  have hn : ∀ (j : Nat) (q : Nat × va_E), wr[j]? = some q → ¬ va_A w0 st.heap.size q.1 := by
    intro j q hj h
    rcases h with ⟨k, e, h⟩ | h
    · exact hap k j _ q h hj rfl
    · have := (hwr j q hj).lt
      omega
  refine ⟨hwr.kept (fun k q hk => hF.2 q.1 ((hwr k q hk).lt) (hn k q hk)), fun i j p q hi hj e => ?_⟩
  have h1 := hDw.2 i p hi
  rw [e] at h1
  exact hn j q hj h1
section FRM
variable {l : Launch} {y : MethodName} {wds : List Cond} {rm : Room} {D : va_G} {cy : Nat → ClassId} {e0 : Nat} {av : List Value} {w0 : va_W} {post : Option Value → va_W → Prop} {xpost : String → va_W → Prop} {mc ms : Nat}
theorem gMet.frameR (h : gMet l y wds rm D cy e0 av w0 post xpost mc ms) (wr : va_W) : gMet l y wds rm D cy e0 av (w0 ++ wr) (fun v w => ∃ w1, w = w1 ++ wr ∧ post v w1) (fun X w => ∃ w1, w = w1 ++ wr ∧ xpost X w1) mc ms := by
  intro sz
  have hA : ∀ q, va_A w0 sz q → va_A (w0 ++ wr) sz q := fun q h => va_A_r h
  refine Jvm.Free.MetFree.mono (h sz) (fun a s hp => ?_) (fun _ _ _ _ _ k => k) (fun a s o t hp hq => ?_)
  · obtain ⟨h1, h2, h3, h4, h5, h6⟩ := hp
    exact ⟨h1, h2, P_left h3, h4, D_left h5, h6.narrow (fun q k => hA q k)⟩
  · obtain ⟨-, h2, h3, h4, h5, h6⟩ := hp
    subst h2
    have hw : ∀ w, va_P D vwCl w t.heap → va_D (va_A w0 s.heap.size) w → va_F (va_A w0 s.heap.size) s t → va_P D vwCl (w ++ wr) t.heap ∧ va_D (va_A (w0 ++ wr) s.heap.size) (w ++ wr) := by
      intro w k1 k2 k3
      obtain ⟨r1, r2⟩ := fr_rest (fun i j p q hi hj => D_apart h5 hi hj) (P_right h3) (D_right h5) k3 k2
      exact ⟨k1.app r1, (k2.weaken (fun _ q _ z => hA q.1 z)).app ⟨(D_right h5).1, fun k q hk => va_A.in (app_r (w0 := w0) hk)⟩ r2⟩
    rcases hq with ⟨⟨⟨v, w, k0, k1, k2, k3⟩, k4⟩, L, k5, k6⟩ | ⟨q, k0, E, ce, L, ⟨w, k1, k2, k3, k4⟩, k5, k6, k7, k8, k9, k10⟩
    · obtain ⟨r1, r2⟩ := hw w k2 k3 k4
      exact Or.inl ⟨⟨⟨v, w ++ wr, k0, ⟨w, rfl, k1⟩, r1, r2⟩, va_F_mono k4 hA⟩, L, k5, fun q hq => hA _ (k6 q hq)⟩
    · obtain ⟨r1, r2⟩ := hw w k2 k3 k4
      exact Or.inr ⟨q, k0, E, ce, L, ⟨w ++ wr, ⟨w, rfl, k1⟩, r1, r2, va_F_mono k4 hA⟩, k5, k6, k7, k8, k9, fun q hq => hA _ (k10 q hq)⟩
theorem gMet.frameL (h : gMet l y wds rm D cy e0 av w0 post xpost mc ms) (wr : va_W) : gMet l y wds rm D cy e0 av (wr ++ w0) (fun v w => ∃ w1, w = wr ++ w1 ∧ post v w1) (fun X w => ∃ w1, w = wr ++ w1 ∧ xpost X w1) mc ms := by
  intro sz
  have hA : ∀ q, va_A w0 sz q → va_A (wr ++ w0) sz q := fun q h => va_A_l h
  refine Jvm.Free.MetFree.mono (h sz) (fun a s hp => ?_) (fun _ _ _ _ _ k => k) (fun a s o t hp hq => ?_)
  · obtain ⟨h1, h2, h3, h4, h5, h6⟩ := hp
    exact ⟨h1, h2, P_right h3, h4, D_right h5, h6.narrow (fun q k => hA q k)⟩
  · obtain ⟨-, h2, h3, h4, h5, h6⟩ := hp
    subst h2
    have hw : ∀ w, va_P D vwCl w t.heap → va_D (va_A w0 s.heap.size) w → va_F (va_A w0 s.heap.size) s t → va_P D vwCl (wr ++ w) t.heap ∧ va_D (va_A (wr ++ w0) s.heap.size) (wr ++ w) := by
      intro w k1 k2 k3
      obtain ⟨r1, r2⟩ := fr_rest (fun i j p q hi hj e => D_apart h5 hj hi e.symm) (P_left h3) (D_left h5) k3 k2
      exact ⟨r1.app k1, va_D.app ⟨(D_left h5).1, fun k q hk => va_A.in (app_l (wr := w0) hk)⟩ (k2.weaken (fun _ q _ z => hA q.1 z)) (fun i j p q hi hj e => r2 j i q p hj hi e.symm)⟩
    rcases hq with ⟨⟨⟨v, w, k0, k1, k2, k3⟩, k4⟩, L, k5, k6⟩ | ⟨q, k0, E, ce, L, ⟨w, k1, k2, k3, k4⟩, k5, k6, k7, k8, k9, k10⟩
    · obtain ⟨r1, r2⟩ := hw w k2 k3 k4
      exact Or.inl ⟨⟨⟨v, wr ++ w, k0, ⟨w, rfl, k1⟩, r1, r2⟩, va_F_mono k4 hA⟩, L, k5, fun q hq => hA _ (k6 q hq)⟩
    · obtain ⟨r1, r2⟩ := hw w k2 k3 k4
      exact Or.inr ⟨q, k0, E, ce, L, ⟨wr ++ w, ⟨w, rfl, k1⟩, r1, r2, va_F_mono k4 hA⟩, k5, k6, k7, k8, k9, fun q hq => hA _ (k10 q hq)⟩
/-- the start of a body with handlers -/
theorem gMet.ofH {ws' : List Cond} {cc : ByteArray} {maxL : Nat} {ret : Option FieldType} {hh : List (Nat × Nat × Nat × Nat)} (hl : l.stackTraces = false) (hy : plainName y.cls = true) (hw : wds = Cond.codeWith y cc maxL ret hh :: ws') (hlen : (lg_sl av).length ≤ maxL)
    (body : ∀ C : gT, gOk C cc maxL wds y.cls e0 rm → xl C = l → xD C = D → xy C = cy → (xh C).sig.returnType = ret → (xc C).exceptionTable.toList = tableOf hh → gEnd C post xpost mc ms → G C w0 0 0 0 (lv_args 0 av) []) :
    gMet l y wds rm D cy e0 av w0 post xpost mc ms := by
  intro sz
  refine vx_ofWH (cc := cc) (maxL := maxL) (ret := ret) (hh := hh) hy hw ?_
  intro p e s m args below meth c s₁ B hml hv
  obtain ⟨rfl, hsz, hP, hK, hD0, hev⟩ := hv
  subst hsz
  have hown : s.vm.findClass y.cls = some m.cls := findClass_of_methodNamed B.named
  have hl1 := lv_entry av hlen
  have hts := atoms_spec (ws := wds) B.pre
  have ht := vx_table (x := y) B (hts _ (by rw [hw]; exact List.mem_cons_self))
  rw [lg_entry_eq]
  exact body (p, l, e, (headSpec wds rm).room, s, m, av.toArray, below, meth, c, D, cy, va_A w0 s.heap.size, vx_MQ below (gQc D post (va_A w0 s.heap.size)) (gXC D xpost (va_A w0 s.heap.size)) av.toArray s mc ms (va_A w0 s.heap.size))
    ⟨B.exec, B.bytes, hml, hts, hown, hK, fun q h => Or.inr h, B.notSynchronized, hl, hev, rfl⟩ rfl rfl rfl B.returns ht rfl s.heap [] _ hP hD0.self va_S.rf (by show lv_has _ c.maxLocals _; rw [hml]; exact hl1)
/-- a contract that throws nothing -/
theorem gMet.quiet (h : gMet l y wds rm D cy e0 av w0 post (fun _ _ => False) mc ms) (sz : Nat) : Met l y wds rm (gPc D cy e0 av w0 sz) (gQc D post (va_A w0 sz)) mc ms (va_A w0 sz) :=
  Jvm.Free.MetFree.mono (h sz) (fun _ _ k => k) (fun _ _ _ _ _ k => k) (fun a s o t _ hq => by
    rcases hq with hq | ⟨q, -, E, ce, L, ⟨w, k, -⟩, -⟩
    · exact hq
    · exact k.elim)
end FRM
section GH
variable {C : gT} {cc : ByteArray} {nL : Nat} {Ts : List Cond} {own : String} {e0 : Nat} {rm : Room} {ws : va_W} {mc ms pc : Nat} {L : List (Nat × Value)} {st : List Value} {post : Option Value → va_W → Prop} {xpost : String → va_W → Prop}
theorem g_catch (E : gOk C cc nL Ts own e0 rm) {X name : String} (pre : List ExceptionTableEntry) (x : ExceptionTableEntry) (suf : List ExceptionTableEntry) (hsplit : (xc C).exceptionTable.toList = pre ++ x :: suf) (hpass : ∀ z ∈ pre, z.catchType ≠ 0 ∧ ∃ nm : String, Cond.classLink own z.catchType nm ∈ Ts ∧ va_Nc X nm (xs C)) (hx : covers x pc = true) (h0 : x.catchType ≠ 0)
    (hlink : Cond.classLink own x.catchType name ∈ Ts) (hcast : (Cond.castable X name).before (xa C) (xs C) = true) (kk : ∀ q : Nat, G C ws mc ms x.handlerPc L [.ref q]) : GX C ws mc ms pc L X := fun H locs ls rest q ce hP hD hS hL hce hcv hcl =>
  vx_catch E.ow pre x suf hsplit (fun z hz => Or.inr ⟨(hpass z hz).1, (hpass z hz).2.elim fun nm k => ⟨nm, E.ts _ k.1, k.2⟩⟩) hx h0 (E.ts _ hlink) hcast hce hcv hcl (kk q H locs ls hP hD hS hL)
variable {yy : MethodName} {wds ws'' : List Cond} {rm' : Room} {idx n maxL' : Nat} {bytes : ByteArray} {ret' : Option FieldType} {hh : List (Nat × Nat × Nat × Nat)} {As rest : List Value} {mc' ms' : Nat}
/-- a static call of a method with handlers -/
theorem g_invSW (E : gOk C cc nL Ts own e0 rm) (hM : gMet (xl C) yy wds rm' (xD C) (xy C) e0 As ws post (fun _ _ => False) mc' ms') (hG : GoodIn Ts (va_wsS own idx yy wds)) (hw : wds = Cond.codeWith yy bytes maxL' ret' hh :: ws'') (hrc : rm'.cells = mc') (hrs : rm'.slots = ms')
    (hd : yy.cls ≠ "java/lang/invoke/MethodHandle" ∧ yy.cls ≠ "java/lang/invoke/VarHandle" ∧ (parseMethodDescriptor yy.desc).map (fun d => d.parameters.length) = some n) (hR : rm'.frames + 1 ≤ rm.frames ∧ 8 + (maxL' + 11) + rm'.locals ≤ rm.locals)
    (hn : As.length = n) (hst : st = As.reverse ++ rest) (hcat : (rest.map fun v => v.category).sum ≤ 8) (d : decode cc pc = .ok (.invokestatic idx, 3)) (hf : mc + mc' ≤ rm.cells ∧ ms + ms' ≤ rm.slots)
    (kk : ∀ (v : Option Value) (w' : va_W), post v w' → G C w' (mc + mc') (ms + ms') (pc + 3) L (v.toList ++ rest)) : G C ws mc ms pc L st := by
  subst hst
  intro H locs ls hP hD hS hL T hT X
  have hFc := g_free E hD hS
  obtain ⟨v, st₀, t, T', L', h0, X', hL', e1, e2, ⟨⟨r, w', hv, hp, hPw, hDw⟩, hF⟩, st⟩ := vx_runSW (As := As) (rest := rest) ⟨E.exec, E.code, E.ml, E.ow, E.ts⟩ (hM.quiet H.size) (vx_cwSW n E.ts hG hw hrc hrs hd (by rw [E.room]; exact hR)) ⟨gPc_blind, g_pre E hP hD hS⟩ rfl hn (by rw [← E.ml]; exact hL.1) rfl (lv_room hcat) d (by rw [E.room]; exact hf) T hT X
  cases hv
  obtain ⟨k1, k2, k3⟩ := vx_keep h0 e1 hS (fun q _ h => hFc q h) hFc hL' hF
  obtain ⟨t2, a1, b1⟩ := kk _ w' hp T'.heap (locs ++ L') ls (by rw [e1]; exact hPw) (hDw.weaken (fun _ q _ h => hFc q.1 h)) k3 hL T' rfl X'
  exact ⟨t2, st t2 a1, b1⟩
end GH
/-! a virtual call with W9 words left below its arguments -/
section R9
variable {p : Program} {l : Launch} {e : Env} {R : Room} {s : State} {m : MethodId} {args : Array Value} {below : List Frame} {meth : Method} {c : Code} {H : Heap} {locs : List Loc} {cells slots : Nat}
variable {y : MethodName} {bytes cc : ByteArray} {maxL nL mc ms n index W9 : Nat} {ret : Option FieldType} {ws ws' : List Cond} {rm : Room} {Pc : Array Value → State → Prop} {Qc : Array Value → State → Outcome → State → Prop} {XC : String → State → State → Prop} {free : Addr → Prop} {Ts : List Cond} {own C : String} {b : Addr} {As rest : List Value} {g : JFrame}
theorem vx_runV9 (S : CallFix p m c cc nL s args Ts own) (hM : vx_Met l y ws rm Pc Qc XC mc ms free) (hT : GoodIn Ts (wsV own index C y ws)) (hw : ws = Cond.code y bytes maxL ret :: ws') (hrc : rm.cells = mc) (hrs : rm.slots = ms)
    (hd : y.cls = C ∧ y.cls ≠ "java/lang/invoke/MethodHandle" ∧ y.cls ≠ "java/lang/invoke/VarHandle" ∧ (parseMethodDescriptor y.desc).map (fun d => d.parameters.length) = some n) (hR : rm.frames + 1 ≤ R.frames ∧ W9 + (maxL + 11) + rm.locals ≤ R.locals) (hp : PreV s H C b Pc As)
    (hg : g.method = m) (hn : As.length = n) (hsize : g.locals.size = nL) (hstack : g.stack = As.reverse ++ .ref b :: rest) (hW : 2 * g.monitorRoom + (rest.map fun v => v.category).sum ≤ W9) (hdg : decode cc g.pc = .ok (.invokevirtual index, 3)) (hf : cells + mc ≤ R.cells ∧ slots + ms ≤ R.slots) :
    vx_Run p l e R s m args below meth c H locs cells slots mc ms g rest (Qc (Value.ref b :: As).toArray) XC free := by
  obtain ⟨hx, hb, hml, ho, ht⟩ := S
  obtain ⟨hC, hd⟩ := hd
  subst hC
  have ok : ∀ w ∈ wsV own index y.cls y ws, w.before args s = true := fun w h => ht w (hT w h).1
  have hG : GoodIn Ts ws := fun w h => hT w (by unfold wsV; exact List.mem_append_right _ h)
  have hc : Cond.code y bytes maxL ret ∈ ws := by rw [hw]; exact List.mem_cons_self
  have hcode := ht _ (hG _ hc).1
  have hini : (Cond.initialized y.cls).before args s = true := ok _ (by simp [wsV])
  have hl : (Cond.methodLink own index y).before args s = true := ok _ (by simp [wsV])
  have hin : (Cond.instanceMethod y).before args s = true := ok _ (by simp [wsV])
  have hse : (Cond.selects y.cls y y).before args s = true := ok _ (by simp [wsV])
  have hlen : ∀ sig, parseMethodDescriptor y.desc = some sig → n = sig.parameters.length := fun sig h => by
    have h2 := hd.2.2
    rw [h] at h2
    exact (Option.some.inj h2).symm
  have hK : vx_Back l R p e below s args y 3 W9 (PreOf R mc ms Pc) (PostOf Qc mc ms free) (vx_Post XC mc ms free) := vx_back (bytes := bytes) (maxL := maxL) (ret := ret) hM hp.1 hrc hrs hR.1 hR.2 (pay_in ht hG) hc (fun a' U hW => word_at hW (Or.inl (by first | rfl | simp [Cond.onTables, Cond.keeps, Cond.steady])) hini)
  obtain ⟨-, ⟨cellB, hcB, hoB, hclB⟩, hPc⟩ := hp
  intro T hT X
  rcases vx_callV X hx (C := y.cls) (bytes := bytes) (maxL := maxL) (ret := ret) ho hl hin hse hcode ⟨hd.1, hd.2.1⟩ hK (by rw [hT]; exact hcB) hoB hclB hg (hsize.trans hml.symm) (argsL := As) (rest := rest) (fun sig h => hn.trans (hlen sig h)) hstack hW (by rw [hb]; exact hdg)
    (fun vm₁ hW₁ => ⟨hf.1, hf.2, hPc (T.setVm vm₁) hT hW₁⟩) with ⟨v, vm₁, ⟨U', l2, c2, s2⟩, hW₁, X', ⟨g', mk, t, L, e1, e2, hq, h1, hL, h2, h3⟩, st⟩ | ⟨q, vm₁, ⟨U', l2, c2, s2⟩, hW₁, X', ⟨g', mk, t, L, E, ce, e1, e2, hq, hce, hcv, hcl, h1, hL, h2, h3⟩, st⟩
  · dsimp only [Pt.U, Pt.locs, Pt.cells, Pt.slots] at X' e1 e2 h1 h2 h3 st
    subst h1; subst h2; subst h3
    exact Or.inl ⟨v, (T.setVm vm₁).calling g' mk (Value.ref b :: As).toArray, t, U', L, hT, X', hL, e1, e2, hq, st⟩
  · dsimp only [Pt.U, Pt.locs, Pt.cells, Pt.slots] at X' e1 e2 h1 h2 h3 st hcl
    subst h1; subst h2; subst h3
    exact Or.inr ⟨q, (T.setVm vm₁).calling g' mk (Value.ref b :: As).toArray, t, U', L, E, ce, hT, X', hL, e1, e2, hq, hce, hcv, vx_cls hW₁ hcl, st⟩
end R9
section G9
variable {C : gT} {cc : ByteArray} {nL : Nat} {Ts : List Cond} {own : String} {e0 : Nat} {rm : Room} {ws : va_W} {mc ms pc : Nat} {L : List (Nat × Value)} {st : List Value} {post : Option Value → va_W → Prop} {xpost : String → va_W → Prop}
variable {yy : MethodName} {wds ws'' : List Cond} {rm' : Room} {idx n maxL' W9 : Nat} {Cn : String} {bytes : ByteArray} {ret' : Option FieldType} {As rest : List Value} {b : Nat} {mc' ms' : Nat}
theorem lv_room9 {m : MethodId} {ls : Array Slot} {st0 st1 : List Value} (h : (st1.map fun v => v.category).sum ≤ W9) : 2 * (F0 m pc ls st0).monitorRoom + (st1.map fun v => v.category).sum ≤ W9 := by
  have e : (F0 m pc ls st0).monitorRoom = 0 := rfl
  rw [e]
  omega
theorem g_invV9 (E : gOk C cc nL Ts own e0 rm) (hM : gMet (xl C) yy wds rm' (xD C) (xy C) e0 (.ref b :: As) ws post xpost mc' ms') (hG : GoodIn Ts (wsV own idx Cn yy wds)) (hw : wds = Cond.code yy bytes maxL' ret' :: ws'') (hrc : rm'.cells = mc') (hrs : rm'.slots = ms')
    (hd : yy.cls = Cn ∧ yy.cls ≠ "java/lang/invoke/MethodHandle" ∧ yy.cls ≠ "java/lang/invoke/VarHandle" ∧ (parseMethodDescriptor yy.desc).map (fun d => d.parameters.length) = some n) (hR : rm'.frames + 1 ≤ rm.frames ∧ W9 + (maxL' + 11) + rm'.locals ≤ rm.locals)
    (k ci : Nat) {q : vw_C} {fs : List Value} (hq : vwCl[ci]? = some q) (hqn : q.1 = Cn) (hk : ws[k]? = some (b, .inr (ci, fs))) (hn : As.length = n) (hst : st = As.reverse ++ .ref b :: rest) (hcat : (rest.map fun v => v.category).sum ≤ W9) (d : decode cc pc = .ok (.invokevirtual idx, 3)) (hf : mc + mc' ≤ rm.cells ∧ ms + ms' ≤ rm.slots)
    (kx : ∀ (X : String) (w' : va_W), xpost X w' → GX C w' (mc + mc') (ms + ms') pc L X) (kk : ∀ (v : Option Value) (w' : va_W), post v w' → G C w' (mc + mc') (ms + ms') (pc + 3) L (v.toList ++ rest)) : G C ws mc ms pc L st := by
  subst hst
  subst hqn
  intro H locs ls hP hD hS hL
  have hFc := g_free E hD hS
  exact g_cont (vx_runV9 (As := As) (rest := rest) ⟨E.exec, E.code, E.ml, E.ow, E.ts⟩ (hM H.size) hG hw hrc hrs hd (by rw [E.room]; exact hR) ⟨gPc_blind, va_recv E.K hP hq hk, g_pre E hP hD hS⟩ rfl hn (by rw [← E.ml]; exact hL.1) rfl (lv_room9 hcat) d (by rw [E.room]; exact hf)) hS hFc (g_kx hL hFc kx) (g_kk hL hFc kk)
theorem g_lshr (E : gOk C cc nL Ts own e0 rm) {x : Int64} {y : Int32} (d : decode cc pc = .ok (.lshr, 1)) (k : G C ws mc ms (pc + 1) L (.long (x >>> (y.toInt64 &&& 63)) :: st)) : G C ws mc ms pc L (.int y :: .long x :: st) := fun H locs ls hP hD hS hL => lv_lshr E.exec E.code d rfl (k H locs ls hP hD hS hL)
end G9
section LW0
variable {C : gT} {cc : ByteArray} {nL : Nat} {Ts : List Cond} {own : String} {e0 : Nat} {rm : Room} {ws : va_W} {mc ms pc : Nat} {L : List (Nat × Value)} {st : List Value} {idx : Nat}
theorem g_sld (E : gOk C cc nL Ts own e0 rm) {b Ln : Nat} {xv : Nat → Int32} (hX : va_X b Ln xv (xs C) (xs C).heap) (hbl : b < (xs C).heap.size) (hbA : ¬ xA C b) (hL : Ln ≤ 3584) {ix : Int32} (k : Nat) (hi : ix = nI k) (hk : k < Ln) (d : decode cc pc = .ok (.iaload, 1)) (kk : G C ws mc ms (pc + 1) L (.int (xv k) :: st)) : G C ws mc ms pc L (.int ix :: .ref b :: st) := fun H locs ls hP hD hS hL9 => by
  have h2 : ix.toNatClampNeg = k := by rw [hi]; exact nI_clamp (by omega)
  have h1 : vp_in ix Ln := by
    unfold vp_in
    rw [h2, hi]
    rintro (z | z)
    · exact nI_pos (by omega) z
    · omega
  refine va_sld E.exec E.code hX hbl hbA hS h1 d ?_
  rw [h2]
  exact kk H locs ls hP hD hS hL9
theorem g_slen (E : gOk C cc nL Ts own e0 rm) {b Ln : Nat} {xv : Nat → Int32} (hX : va_X b Ln xv (xs C) (xs C).heap) (hbl : b < (xs C).heap.size) (hbA : ¬ xA C b) (d : decode cc pc = .ok (.arraylength, 1)) (kk : G C ws mc ms (pc + 1) L (.int (nI Ln) :: st)) : G C ws mc ms pc L (.ref b :: st) := fun H locs ls hP hD hS hL9 =>
  va_slen E.exec E.code hX hbl hbA hS d (kk H locs ls hP hD hS hL9)
theorem m_naI (E : gOk C cc nL Ts own e0 rm) (harr : Cond.arrayClass .int ∈ Ts) {n : Int32} (N : Nat) (hn : n = nI N) (hN : N ≤ 1000) (hc : mc + 1 ≤ rm.cells) (hs : ms + N ≤ rm.slots) (d : decode cc pc = .ok (.newarray .int, 2)) (kk : ∀ q : Nat, G C (ws ++ [(q, .inl (xy C 0, N, .inl (fun _ => 0)))]) (mc + 1) (ms + N) (pc + 2) L (.ref q :: st)) : G C ws mc ms pc L (.int n :: st) := by
  intro H locs ls hP hD hS hL
  refine va_newa (atype := .int) (ty := .int) (a0 := (N, .inl (fun _ => 0))) (N' := N) E.exec E.code (E.ts _ harr) rfl E.K hP hD hS E.A (fun cA => rfl) (by rw [hn]; exact Int32.not_lt.mpr (nI_pos' (by omega))) (by rw [hn]; exact nI_clamp (by omega)) (by show N * 4 ≤ 536870912; omega) (by rw [E.room]; exact hc) (by rw [E.room]; exact hs) d (fun q cA H1 h0 h1 h2 h3 => ?_)
  have hcA : cA = xy C 0 := by
    have e1 := (h0.2 5 _ rfl).2
    have e2 := (E.K.2 0 _ rfl).2
    exact Option.some.inj ((va_nm_int e1).symm.trans (va_nm_int e2))
  subst hcA
  exact kk q H1 locs ls h1 h2 h3 hL
theorem gMet.frameRN {l : Launch} {y : MethodName} {wds : List Cond} {rm : Room} {D : va_G} {cy : Nat → ClassId} {e0 : Nat} {av : List Value} {w0 : va_W} {post : Option Value → va_W → Prop} {mc ms : Nat} (h : gMet l y wds rm D cy e0 av w0 post (fun _ _ => False) mc ms) (wr : va_W) : gMet l y wds rm D cy e0 av (w0 ++ wr) (fun v w => ∃ w1, w = w1 ++ wr ∧ post v w1) (fun _ _ => False) mc ms := by
  have e : (fun (_ : String) (w : va_W) => ∃ w1, w = w1 ++ wr ∧ False) = fun _ _ => False := by
    funext X w
    simp
  have h2 : gMet l y wds rm D cy e0 av (w0 ++ wr) (fun v w => ∃ w1, w = w1 ++ wr ∧ post v w1) (fun (_ : String) (w : va_W) => ∃ w1, w = w1 ++ wr ∧ False) mc ms := h.frameR wr
  rw [e] at h2
  exact h2
end LW0
/-! the law's world: the class's pool and eight rows of ints -/
def aL (k : Nat) : Nat := if k < 3 then 24 else if k = 3 then 6 else 40
def aE (cy : Nat → ClassId) (q n : Nat) (f : Nat → Int32) : Nat × va_E := (q, .inl (cy 0, n, .inl f))
def aW (cy : Nat → ClassId) (aa : Nat → Nat) (av : Nat → Nat → Int32) : va_W := [aE cy (aa 0) 24 (av 0), aE cy (aa 1) 24 (av 1), aE cy (aa 2) 24 (av 2), aE cy (aa 3) 6 (av 3), aE cy (aa 4) 40 (av 4), aE cy (aa 5) 40 (av 5), aE cy (aa 6) 40 (av 6), aE cy (aa 7) 40 (av 7)]
theorem aW_at {cy : Nat → ClassId} {aa : Nat → Nat} {av : Nat → Nat → Int32} {k : Nat} (hk : k < 8) : (aW cy aa av)[k]? = some (aa k, .inl (cy 0, aL k, .inl (av k))) := by
  rcases (by omega : k = 0 ∨ k = 1 ∨ k = 2 ∨ k = 3 ∨ k = 4 ∨ k = 5 ∨ k = 6 ∨ k = 7) with rfl | rfl | rfl | rfl | rfl | rfl | rfl | rfl <;> rfl
theorem aW_set {cy : Nat → ClassId} {aa : Nat → Nat} {av : Nat → Nat → Int32} {k b : Nat} {v : Int32} (hk : k < 8) : (aW cy aa av).set k (aa k, .inl (cy 0, aL k, .inl (upd (av k) b v))) = aW cy aa (up2 av k b v) := by
  have h0 : ∀ x, x ≠ k → up2 av k b v x = av x := fun x hx => up2_nf hx
  have h1 : up2 av k b v k = upd (av k) b v := upd_up2
  unfold aW
  rcases (by omega : k = 0 ∨ k = 1 ∨ k = 2 ∨ k = 3 ∨ k = 4 ∨ k = 5 ∨ k = 6 ∨ k = 7) with rfl | rfl | rfl | rfl | rfl | rfl | rfl | rfl
  · rw [h1, h0 1 (by decide), h0 2 (by decide), h0 3 (by decide), h0 4 (by decide), h0 5 (by decide), h0 6 (by decide), h0 7 (by decide)]; rfl
  · rw [h1, h0 0 (by decide), h0 2 (by decide), h0 3 (by decide), h0 4 (by decide), h0 5 (by decide), h0 6 (by decide), h0 7 (by decide)]; rfl
  · rw [h1, h0 0 (by decide), h0 1 (by decide), h0 3 (by decide), h0 4 (by decide), h0 5 (by decide), h0 6 (by decide), h0 7 (by decide)]; rfl
  · rw [h1, h0 0 (by decide), h0 1 (by decide), h0 2 (by decide), h0 4 (by decide), h0 5 (by decide), h0 6 (by decide), h0 7 (by decide)]; rfl
  · rw [h1, h0 0 (by decide), h0 1 (by decide), h0 2 (by decide), h0 3 (by decide), h0 5 (by decide), h0 6 (by decide), h0 7 (by decide)]; rfl
  · rw [h1, h0 0 (by decide), h0 1 (by decide), h0 2 (by decide), h0 3 (by decide), h0 4 (by decide), h0 6 (by decide), h0 7 (by decide)]; rfl
  · rw [h1, h0 0 (by decide), h0 1 (by decide), h0 2 (by decide), h0 3 (by decide), h0 4 (by decide), h0 5 (by decide), h0 7 (by decide)]; rfl
  · rw [h1, h0 0 (by decide), h0 1 (by decide), h0 2 (by decide), h0 3 (by decide), h0 4 (by decide), h0 5 (by decide), h0 6 (by decide)]; rfl
/-- the office shows c i j p r (its caches aside), the rows hold av -/
def LW (cy : Nat → ClassId) (e0 a : Nat) (aa : Nat → Nat) (av : Nat → Nat → Int32) (c : Nat → Nat) (i : Nat → Nat → Int32) (j : Nat → Nat → Int64) (p : Nat → Nat → Option Nat) (r : Nat → Nat → Int32) (M : Nat) (W : va_W) : Prop :=
  ∃ S ad i' r', W = cW cy S ++ aW cy aa av ∧ CI e0 S c ad i' j p r' ∧ ad 5 0 = a ∧ SC i r i' r' ∧ WV i' r' M
section LW1
variable {C : gT} {cc : ByteArray} {nL : Nat} {Ts : List Cond} {own : String} {e0 a : Nat} {rm : Room} {W : va_W} {mc ms pc : Nat} {L : List (Nat × Value)} {st rest : List Value} {idx : Nat}
variable {aa : Nat → Nat} {av : Nat → Nat → Int32} {c : Nat → Nat} {i : Nat → Nat → Int32} {j : Nat → Nat → Int64} {p : Nat → Nat → Option Nat} {r : Nat → Nat → Int32} {M N : Nat}
theorem l_ald (E : gOk C cc nL Ts own e0 rm) (hW : LW (xy C) e0 a aa av c i j p r M W) (k b : Nat) (hk : k < 8) (hb : b < aL k) (d : decode cc pc = .ok (.iaload, 1)) (kk : G C W mc ms (pc + 1) L (.int (av k b) :: st)) : G C W mc ms pc L (.int (nI b) :: .ref (aa k) :: st) := by
  obtain ⟨S, ad, i', r', rfl, -⟩ := hW
  intro H locs ls hP hD hS hL
  have hb9 : aL k ≤ 40 := by unfold aL; split; omega; split <;> omega
  obtain ⟨h1, h2⟩ := nI_at (show nI b = nI b from rfl) hb (by omega)
  refine va_iald E.exec E.code E.K hP ((cW (xy C) S).length + k) 0 (app_r (aW_at hk)) rfl h1 d ?_
  rw [h2]
  exact kk H locs ls hP hD hS hL
theorem l_ast (E : gOk C cc nL Ts own e0 rm) (hW : LW (xy C) e0 a aa av c i j p r M W) (k b : Nat) (hk : k < 8) (hb : b < aL k) {v : Int32} (d : decode cc pc = .ok (.iastore, 1)) (kk : ∀ W', LW (xy C) e0 a aa (up2 av k b v) c i j p r M W' → G C W' mc ms (pc + 1) L st) : G C W mc ms pc L (.int v :: .int (nI b) :: .ref (aa k) :: st) := by
  obtain ⟨S, ad, i', r', rfl, h9⟩ := hW
  intro H locs ls hP hD hS hL
  have hb9 : aL k ≤ 40 := by unfold aL; split; omega; split <;> omega
  obtain ⟨h1, h2⟩ := nI_at (show nI b = nI b from rfl) hb (by omega)
  refine va_iast E.exec E.code E.K hP hD hS ((cW (xy C) S).length + k) 0 (app_r (aW_at hk)) rfl h1 d (fun H1 locs1 g1 g2 g3 => ?_)
  rw [h2, List.set_append_right _ _ (Nat.le_add_right _ _), Nat.add_sub_cancel_left, aW_set hk] at g1 g2
  exact kk _ ⟨S, ad, i', r', rfl, h9⟩ H1 locs1 ls g1 g2 g3 hL
variable {yy : MethodName} {wds ws'' : List Cond} {rm' : Room} {n maxL' W9 : Nat} {bytes : ByteArray} {ret' : Option FieldType} {As : List Value} {mc' ms' : Nat} {S : wS} {post : Option Value → wS → Prop} {xpost : String → wS → Prop} {wr : va_W}
/-- a call of the office that doesn't throw -/
theorem l_invV (E : gOk C cc nL Ts own e0 rm) (hM : cMet (xl C) yy wds rm' (xD C) (xy C) e0 (.ref a :: As) S post xpost mc' ms') (ha : a ∈ sL S) (hak : sK S a = 5) (hG : GoodIn Ts (wsV own idx RX5 yy wds)) (hw : wds = Cond.code yy bytes maxL' ret' :: ws'') (hrc : rm'.cells = mc') (hrs : rm'.slots = ms')
    (hd : yy.cls = RX5 ∧ yy.cls ≠ "java/lang/invoke/MethodHandle" ∧ yy.cls ≠ "java/lang/invoke/VarHandle" ∧ (parseMethodDescriptor yy.desc).map (fun d => d.parameters.length) = some n) (hR : rm'.frames + 1 ≤ rm.frames ∧ W9 + (maxL' + 11) + rm'.locals ≤ rm.locals)
    (hn : As.length = n) (hst : st = As.reverse ++ .ref a :: rest) (hcat : (rest.map fun v => v.category).sum ≤ W9) (d : decode cc pc = .ok (.invokevirtual idx, 3)) (hf : mc + mc' ≤ rm.cells ∧ ms + ms' ≤ rm.slots)
    (kx : ∀ (X : String) (S' : wS), xpost X S' → GX C (cW (xy C) S' ++ wr) (mc + mc') (ms + ms') pc L X) (kk : ∀ (v : Option Value) (S' : wS), post v S' → G C (cW (xy C) S' ++ wr) (mc + mc') (ms + ms') (pc + 3) L (v.toList ++ rest)) : G C (cW (xy C) S ++ wr) mc ms pc L st := by
  obtain ⟨k, hk⟩ := cW_get (cy := xy C) ha
  rw [wF_PW hak] at hk
  exact g_invV9 E (gMet.frameR hM wr) hG hw hrc hrs hd hR k 6 rfl rfl (app_l hk) hn hst hcat d hf (fun X w h => by obtain ⟨w1, rfl, S', rfl, h⟩ := h; exact kx X S' h) (fun v w h => by obtain ⟨w1, rfl, S', rfl, h⟩ := h; exact kk v S' h)
end LW1
