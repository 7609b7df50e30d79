/-! the frame: a contract in a larger world; methods with handlers -/
theorem va_A_r {w0 wr : va_W} {sz q : Nat} (h : va_A w0 sz q) : va_A (w0 ++ wr) sz q := by
  rcases h with ⟨k, e, h⟩ | h
  · exact Or.inl ⟨k, e, by rw [List.getElem?_append_left (List.getElem?_eq_some_iff.mp h).1]; exact h⟩
  · exact Or.inr h
theorem va_A_l {w0 wr : va_W} {sz q : Nat} (h : va_A w0 sz q) : va_A (wr ++ w0) sz q := by
  rcases h with ⟨k, e, h⟩ | h
  · exact Or.inl ⟨wr.length + k, e, by rw [List.getElem?_append_right (by omega), Nat.add_sub_cancel_left]; exact h⟩
  · exact Or.inr h
theorem app_l {w0 wr : va_W} {k : Nat} {q : Nat × va_E} (h : w0[k]? = some q) : (w0 ++ wr)[k]? = some q := by rw [List.getElem?_append_left (List.getElem?_eq_some_iff.mp h).1]; exact h
theorem app_r {w0 wr : va_W} {k : Nat} {q : Nat × va_E} (h : wr[k]? = some q) : (w0 ++ wr)[w0.length + k]? = some q := by rw [List.getElem?_append_right (by omega), Nat.add_sub_cancel_left]; exact h
theorem D_left {A : Nat → Prop} {w0 wr : va_W} (h : va_D A (w0 ++ wr)) : va_D A w0 := ⟨fun i j p q hi hj e => h.1 i j p q (app_l hi) (app_l hj) e, fun k q hk => h.2 k q (app_l hk)⟩
theorem D_right {A : Nat → Prop} {w0 wr : va_W} (h : va_D A (w0 ++ wr)) : va_D A wr := ⟨fun i j p q hi hj e => by have := h.1 _ _ p q (app_r (w0 := w0) hi) (app_r (w0 := w0) hj) e; omega, fun k q hk => h.2 _ q (app_r (w0 := w0) hk)⟩
theorem D_apart {A : Nat → Prop} {w0 wr : va_W} (h : va_D A (w0 ++ wr)) {i j : Nat} {p q : Nat × va_E} (hi : w0[i]? = some p) (hj : wr[j]? = some q) : p.1 ≠ q.1 := fun e => by
  have h1 := h.1 _ _ p q (app_l (wr := wr) hi) (app_r (w0 := w0) hj) e
  have h2 := (List.getElem?_eq_some_iff.mp hi).1
  omega
theorem P_left {D : va_G} {cl : List vw_C} {w0 wr : va_W} {H : Heap} (h : va_P D cl (w0 ++ wr) H) : va_P D cl w0 H := fun k q hk => h k q (app_l hk)
theorem P_right {D : va_G} {cl : List vw_C} {w0 wr : va_W} {H : Heap} (h : va_P D cl (w0 ++ wr) H) : va_P D cl wr H := fun k q hk => h _ q (app_r (w0 := w0) hk)
theorem va_F_mono {A B : Nat → Prop} {st t : State} (h : va_F A st t) (hAB : ∀ q, A q → B q) : va_F B st t := ⟨h.1, fun q hq hn => h.2 q hq (fun z => hn (hAB q z))⟩
/-- the rest of the world behind a call -/
theorem fr_rest {D : va_G} {w0 wr w : va_W} {st t : State} (hap : ∀ (i j : Nat) (p q : Nat × va_E), w0[i]? = some p → wr[j]? = some q → p.1 ≠ q.1) (hwr : va_P D vwCl wr st.heap) (hDr : va_D (fun _ => True) wr) (hF : va_F (va_A w0 st.heap.size) st t) (hDw : va_D (va_A w0 st.heap.size) w) :
    va_P D vwCl wr t.heap ∧ ∀ (i j : Nat) (p q : Nat × va_E), w[i]? = some p → wr[j]? = some q → p.1 ≠ q.1 := by
  have hn : ∀ (j : Nat) (q : Nat × va_E), wr[j]? = some q → ¬ va_A w0 st.heap.size q.1 := by
    intro j q hj h
    rcases h with ⟨k, e, h⟩ | h
    · exact hap k j _ q h hj rfl
    · have := (hwr j q hj).lt
      omega
  refine ⟨hwr.kept (fun k q hk => hF.2 q.1 ((hwr k q hk).lt) (hn k q hk)), fun i j p q hi hj e => ?_⟩
  have h1 := hDw.2 i p hi
  rw [e] at h1
  exact hn j q hj h1
section FRM
variable {l : Launch} {y : MethodName} {wds : List Cond} {rm : Room} {D : va_G} {cy : Nat → ClassId} {e0 : Nat} {av : List Value} {w0 : va_W} {post : Option Value → va_W → Prop} {xpost : String → va_W → Prop} {mc ms : Nat}
theorem gMet.frameR (h : gMet l y wds rm D cy e0 av w0 post xpost mc ms) (wr : va_W) : gMet l y wds rm D cy e0 av (w0 ++ wr) (fun v w => ∃ w1, w = w1 ++ wr ∧ post v w1) (fun X w => ∃ w1, w = w1 ++ wr ∧ xpost X w1) mc ms := by
  intro sz
  have hA : ∀ q, va_A w0 sz q → va_A (w0 ++ wr) sz q := fun q h => va_A_r h
  refine Jvm.Free.MetFree.mono (h sz) (fun a s hp => ?_) (fun _ _ _ _ _ k => k) (fun a s o t hp hq => ?_)
  · obtain ⟨h1, h2, h3, h4, h5, h6⟩ := hp
    exact ⟨h1, h2, P_left h3, h4, D_left h5, h6.narrow (fun q k => hA q k)⟩
  · obtain ⟨-, h2, h3, h4, h5, h6⟩ := hp
    subst h2
    have hw : ∀ w, va_P D vwCl w t.heap → va_D (va_A w0 s.heap.size) w → va_F (va_A w0 s.heap.size) s t → va_P D vwCl (w ++ wr) t.heap ∧ va_D (va_A (w0 ++ wr) s.heap.size) (w ++ wr) := by
      intro w k1 k2 k3
      obtain ⟨r1, r2⟩ := fr_rest (fun i j p q hi hj => D_apart h5 hi hj) (P_right h3) (D_right h5) k3 k2
      exact ⟨k1.app r1, (k2.weaken (fun _ q _ z => hA q.1 z)).app ⟨(D_right h5).1, fun k q hk => va_A.in (app_r (w0 := w0) hk)⟩ r2⟩
    rcases hq with ⟨⟨⟨v, w, k0, k1, k2, k3⟩, k4⟩, L, k5, k6⟩ | ⟨q, k0, E, ce, L, ⟨w, k1, k2, k3, k4⟩, k5, k6, k7, k8, k9, k10⟩
    · obtain ⟨r1, r2⟩ := hw w k2 k3 k4
      exact Or.inl ⟨⟨⟨v, w ++ wr, k0, ⟨w, rfl, k1⟩, r1, r2⟩, va_F_mono k4 hA⟩, L, k5, fun q hq => hA _ (k6 q hq)⟩
    · obtain ⟨r1, r2⟩ := hw w k2 k3 k4
      exact Or.inr ⟨q, k0, E, ce, L, ⟨w ++ wr, ⟨w, rfl, k1⟩, r1, r2, va_F_mono k4 hA⟩, k5, k6, k7, k8, k9, fun q hq => hA _ (k10 q hq)⟩
theorem gMet.frameL (h : gMet l y wds rm D cy e0 av w0 post xpost mc ms) (wr : va_W) : gMet l y wds rm D cy e0 av (wr ++ w0) (fun v w => ∃ w1, w = wr ++ w1 ∧ post v w1) (fun X w => ∃ w1, w = wr ++ w1 ∧ xpost X w1) mc ms := by
  intro sz
  have hA : ∀ q, va_A w0 sz q → va_A (wr ++ w0) sz q := fun q h => va_A_l h
  refine Jvm.Free.MetFree.mono (h sz) (fun a s hp => ?_) (fun _ _ _ _ _ k => k) (fun a s o t hp hq => ?_)
  · obtain ⟨h1, h2, h3, h4, h5, h6⟩ := hp
    exact ⟨h1, h2, P_right h3, h4, D_right h5, h6.narrow (fun q k => hA q k)⟩
  · obtain ⟨-, h2, h3, h4, h5, h6⟩ := hp
    subst h2
    have hw : ∀ w, va_P D vwCl w t.heap → va_D (va_A w0 s.heap.size) w → va_F (va_A w0 s.heap.size) s t → va_P D vwCl (wr ++ w) t.heap ∧ va_D (va_A (wr ++ w0) s.heap.size) (wr ++ w) := by
      intro w k1 k2 k3
      obtain ⟨r1, r2⟩ := fr_rest (fun i j p q hi hj e => D_apart h5 hj hi e.symm) (P_left h3) (D_left h5) k3 k2
      exact ⟨r1.app k1, va_D.app ⟨(D_left h5).1, fun k q hk => va_A.in (app_l (wr := w0) hk)⟩ (k2.weaken (fun _ q _ z => hA q.1 z)) (fun i j p q hi hj e => r2 j i q p hj hi e.symm)⟩
    rcases hq with ⟨⟨⟨v, w, k0, k1, k2, k3⟩, k4⟩, L, k5, k6⟩ | ⟨q, k0, E, ce, L, ⟨w, k1, k2, k3, k4⟩, k5, k6, k7, k8, k9, k10⟩
    · obtain ⟨r1, r2⟩ := hw w k2 k3 k4
      exact Or.inl ⟨⟨⟨v, wr ++ w, k0, ⟨w, rfl, k1⟩, r1, r2⟩, va_F_mono k4 hA⟩, L, k5, fun q hq => hA _ (k6 q hq)⟩
    · obtain ⟨r1, r2⟩ := hw w k2 k3 k4
      exact Or.inr ⟨q, k0, E, ce, L, ⟨wr ++ w, ⟨w, rfl, k1⟩, r1, r2, va_F_mono k4 hA⟩, k5, k6, k7, k8, k9, fun q hq => hA _ (k10 q hq)⟩
/-- the start of a body with handlers -/
theorem gMet.ofH {ws' : List Cond} {cc : ByteArray} {maxL : Nat} {ret : Option FieldType} {hh : List (Nat × Nat × Nat × Nat)} (hl : l.stackTraces = false) (hy : plainName y.cls = true) (hw : wds = Cond.codeWith y cc maxL ret hh :: ws') (hlen : (lg_sl av).length ≤ maxL)
    (body : ∀ C : gT, gOk C cc maxL wds y.cls e0 rm → xl C = l → xD C = D → xy C = cy → (xh C).sig.returnType = ret → (xc C).exceptionTable.toList = tableOf hh → gEnd C post xpost mc ms → G C w0 0 0 0 (lv_args 0 av) []) :
    gMet l y wds rm D cy e0 av w0 post xpost mc ms := by
  intro sz
  refine vx_ofWH (cc := cc) (maxL := maxL) (ret := ret) (hh := hh) hy hw ?_
  intro p e s m args below meth c s₁ B hml hv
  obtain ⟨rfl, hsz, hP, hK, hD0, hev⟩ := hv
  subst hsz
  have hown : s.vm.findClass y.cls = some m.cls := findClass_of_methodNamed B.named
  have hl1 := lv_entry av hlen
  have hts := atoms_spec (ws := wds) B.pre
  have ht := vx_table (x := y) B (hts _ (by rw [hw]; exact List.mem_cons_self))
  rw [lg_entry_eq]
  exact body (p, l, e, (headSpec wds rm).room, s, m, av.toArray, below, meth, c, D, cy, va_A w0 s.heap.size, vx_MQ below (gQc D post (va_A w0 s.heap.size)) (gXC D xpost (va_A w0 s.heap.size)) av.toArray s mc ms (va_A w0 s.heap.size))
    ⟨B.exec, B.bytes, hml, hts, hown, hK, fun q h => Or.inr h, B.notSynchronized, hl, hev, rfl⟩ rfl rfl rfl B.returns ht rfl s.heap [] _ hP hD0.self va_S.rf (by show lv_has _ c.maxLocals _; rw [hml]; exact hl1)
/-- a contract that throws nothing -/
theorem gMet.quiet (h : gMet l y wds rm D cy e0 av w0 post (fun _ _ => False) mc ms) (sz : Nat) : Met l y wds rm (gPc D cy e0 av w0 sz) (gQc D post (va_A w0 sz)) mc ms (va_A w0 sz) :=
  Jvm.Free.MetFree.mono (h sz) (fun _ _ k => k) (fun _ _ _ _ _ k => k) (fun a s o t _ hq => by
    rcases hq with hq | ⟨q, -, E, ce, L, ⟨w, k, -⟩, -⟩
    · exact hq
    · exact k.elim)
end FRM
section GH
variable {C : gT} {cc : ByteArray} {nL : Nat} {Ts : List Cond} {own : String} {e0 : Nat} {rm : Room} {ws : va_W} {mc ms pc : Nat} {L : List (Nat × Value)} {st : List Value} {post : Option Value → va_W → Prop} {xpost : String → va_W → Prop}
theorem g_catch (E : gOk C cc nL Ts own e0 rm) {X name : String} (pre : List ExceptionTableEntry) (x : ExceptionTableEntry) (suf : List ExceptionTableEntry) (hsplit : (xc C).exceptionTable.toList = pre ++ x :: suf) (hpass : ∀ z ∈ pre, z.catchType ≠ 0 ∧ ∃ nm : String, Cond.classLink own z.catchType nm ∈ Ts ∧ va_Nc X nm (xs C)) (hx : covers x pc = true) (h0 : x.catchType ≠ 0)
    (hlink : Cond.classLink own x.catchType name ∈ Ts) (hcast : (Cond.castable X name).before (xa C) (xs C) = true) (kk : ∀ q : Nat, G C ws mc ms x.handlerPc L [.ref q]) : GX C ws mc ms pc L X := fun H locs ls rest q ce hP hD hS hL hce hcv hcl =>
  vx_catch E.ow pre x suf hsplit (fun z hz => Or.inr ⟨(hpass z hz).1, (hpass z hz).2.elim fun nm k => ⟨nm, E.ts _ k.1, k.2⟩⟩) hx h0 (E.ts _ hlink) hcast hce hcv hcl (kk q H locs ls hP hD hS hL)
variable {yy : MethodName} {wds ws'' : List Cond} {rm' : Room} {idx n maxL' : Nat} {bytes : ByteArray} {ret' : Option FieldType} {hh : List (Nat × Nat × Nat × Nat)} {As rest : List Value} {mc' ms' : Nat}
/-- a static call of a method with handlers -/
theorem g_invSW (E : gOk C cc nL Ts own e0 rm) (hM : gMet (xl C) yy wds rm' (xD C) (xy C) e0 As ws post (fun _ _ => False) mc' ms') (hG : GoodIn Ts (va_wsS own idx yy wds)) (hw : wds = Cond.codeWith yy bytes maxL' ret' hh :: ws'') (hrc : rm'.cells = mc') (hrs : rm'.slots = ms')
    (hd : yy.cls ≠ "java/lang/invoke/MethodHandle" ∧ yy.cls ≠ "java/lang/invoke/VarHandle" ∧ (parseMethodDescriptor yy.desc).map (fun d => d.parameters.length) = some n) (hR : rm'.frames + 1 ≤ rm.frames ∧ 8 + (maxL' + 11) + rm'.locals ≤ rm.locals)
    (hn : As.length = n) (hst : st = As.reverse ++ rest) (hcat : (rest.map fun v => v.category).sum ≤ 8) (d : decode cc pc = .ok (.invokestatic idx, 3)) (hf : mc + mc' ≤ rm.cells ∧ ms + ms' ≤ rm.slots)
    (kk : ∀ (v : Option Value) (w' : va_W), post v w' → G C w' (mc + mc') (ms + ms') (pc + 3) L (v.toList ++ rest)) : G C ws mc ms pc L st := by
  subst hst
  intro H locs ls hP hD hS hL T hT X
  have hFc := g_free E hD hS
  obtain ⟨v, st₀, t, T', L', h0, X', hL', e1, e2, ⟨⟨r, w', hv, hp, hPw, hDw⟩, hF⟩, st⟩ := vx_runSW (As := As) (rest := rest) ⟨E.exec, E.code, E.ml, E.ow, E.ts⟩ (hM.quiet H.size) (vx_cwSW n E.ts hG hw hrc hrs hd (by rw [E.room]; exact hR)) ⟨gPc_blind, g_pre E hP hD hS⟩ rfl hn (by rw [← E.ml]; exact hL.1) rfl (lv_room hcat) d (by rw [E.room]; exact hf) T hT X
  cases hv
  obtain ⟨k1, k2, k3⟩ := vx_keep h0 e1 hS (fun q _ h => hFc q h) hFc hL' hF
  obtain ⟨t2, a1, b1⟩ := kk _ w' hp T'.heap (locs ++ L') ls (by rw [e1]; exact hPw) (hDw.weaken (fun _ q _ h => hFc q.1 h)) k3 hL T' rfl X'
  exact ⟨t2, st t2 a1, b1⟩
end GH
