/-! one array of the model's state -/
def mrA (s : mS) (f : Nat) (g : Nat → Int32) : mS := (s.1, va_up s.2.1 f g, s.2.2)
def mlA (s : mS) (f : Nat) (g : Nat → Int64) : mS := (s.1, s.2.1, va_up s.2.2 f g)
theorem va_up_id {α : Type} (g : Nat → α) (f : Nat) : va_up g f (g f) = g := by
  funext k
  by_cases q : k = f
  · subst q; exact va_up_self _ _ _
  · exact va_up_ne _ _ q
theorem va_up_up {α : Type} (g : Nat → α) (f : Nat) (x y : α) : va_up (va_up g f x) f y = va_up g f y := by
  funext k
  by_cases q : k = f
  · subst q; rw [va_up_self, va_up_self]
  · rw [va_up_ne _ _ q, va_up_ne _ _ q, va_up_ne _ _ q]
theorem va_up_comm {α : Type} (g : Nat → α) {f f' : Nat} (h : f ≠ f') (x y : α) : va_up (va_up g f x) f' y = va_up (va_up g f' y) f x := by
  funext k
  by_cases q : k = f
  · subst q; rw [va_up_ne _ _ h, va_up_self, va_up_self]
  · by_cases q' : k = f'
    · subst q'; rw [va_up_self, va_up_ne _ _ q, va_up_self]
    · rw [va_up_ne _ _ q', va_up_ne _ _ q, va_up_ne _ _ q, va_up_ne _ _ q']
theorem mrA_id (s : mS) (f : Nat) : mrA s f (mr s f) = s := by
  show (s.1, va_up s.2.1 f (s.2.1 f), s.2.2) = s
  rw [va_up_id]
theorem mlA_id (s : mS) (f : Nat) : mlA s f (ml s f) = s := by
  show (s.1, s.2.1, va_up s.2.2 f (s.2.2 f)) = s
  rw [va_up_id]
theorem mrA_self {s : mS} {f : Nat} {g : Nat → Int32} : mr (mrA s f g) f = g := va_up_self _ _ _
theorem mlA_self {s : mS} {f : Nat} {g : Nat → Int64} : ml (mlA s f g) f = g := va_up_self _ _ _
theorem mrA_put {s : mS} {f b : Nat} {g : Nat → Int32} {v : Int32} : muR (mrA s f g) f b v = mrA s f (upd g b v) := by
  show (s.1, va_up (va_up s.2.1 f g) f (upd (va_up s.2.1 f g f) b v), s.2.2) = (s.1, va_up s.2.1 f (upd g b v), s.2.2)
  rw [va_up_self, va_up_up]
theorem mlA_put {s : mS} {f b : Nat} {g : Nat → Int64} {v : Int64} : muL (mlA s f g) f b v = mlA s f (vp_updL g b v) := by
  show (s.1, s.2.1, va_up (va_up s.2.2 f g) f (vp_updL (va_up s.2.2 f g f) b v)) = (s.1, s.2.1, va_up s.2.2 f (vp_updL g b v))
  rw [va_up_self, va_up_up]
theorem mFar_putR {s : mS} {f b : Nat} {g X : Nat → Int32} {v : Int32} (h : f ≠ 26) : muR (mFar (mrA s f X) g) f b v = mFar (mrA s f (upd X b v)) g := by
  show (s.1, va_up (va_up (va_up s.2.1 f X) 26 g) f (upd (va_up (va_up s.2.1 f X) 26 g f) b v), s.2.2) = (s.1, va_up (va_up s.2.1 f (upd X b v)) 26 g, s.2.2)
  rw [va_up_ne _ _ h, va_up_self, va_up_comm _ h, va_up_up, ← va_up_comm _ h]
theorem mFar_putL {s : mS} {f b : Nat} {g : Nat → Int32} {X : Nat → Int64} {v : Int64} : muL (mFar (mlA s f X) g) f b v = mFar (mlA s f (vp_updL X b v)) g := by
  show (s.1, va_up s.2.1 26 g, va_up (va_up s.2.2 f X) f (vp_updL (va_up s.2.2 f X f) b v)) = (s.1, va_up s.2.1 26 g, va_up s.2.2 f (vp_updL X b v))
  rw [va_up_self, va_up_up]
theorem updL_at {g : Nat → Int64} {b : Nat} {v : Int64} : vp_updL g b v b = v := if_pos rfl
theorem updL_ne {g : Nat → Int64} {b k : Nat} {v : Int64} (h : k ≠ b) : vp_updL g b v k = g k := if_neg h
theorem upd_at' {g : Nat → Int32} {b : Nat} {v : Int32} : upd g b v b = v := if_pos rfl
theorem upd_ne' {g : Nat → Int32} {b k : Nat} {v : Int32} (h : k ≠ b) : upd g b v k = g k := if_neg h
/-- a function changed below n -/
def blw {α : Type} (f g : Nat → α) (n : Nat) : Nat → α := fun k => if k < n then f k else g k
theorem blw_0 {α : Type} {f g : Nat → α} : blw f g 0 = g := by funext k; exact if_neg (Nat.not_lt_zero k)
theorem blw_at {α : Type} {f g : Nat → α} {n : Nat} : blw f g n n = g n := if_neg (Nat.lt_irrefl n)
theorem blw_in {α : Type} {f g : Nat → α} {n k : Nat} (h : k < n) : blw f g n k = f k := if_pos h
theorem blw_out {α : Type} {f g : Nat → α} {n k : Nat} (h : ¬ k < n) : blw f g n k = g k := if_neg h
theorem blw_sL {f g : Nat → Int64} {n : Nat} {v : Int64} (h : v = f n) : vp_updL (blw f g n) n v = blw f g (n + 1) := by
  funext k
  by_cases q : k = n
  · subst q; rw [updL_at, blw_in (Nat.lt_succ_self _), h]
  · rw [updL_ne q]
    by_cases z : k < n
    · rw [blw_in z, blw_in (by omega)]
    · rw [blw_out z, blw_out (by omega)]
theorem blw_sR {f g : Nat → Int32} {n : Nat} {v : Int32} (h : v = f n) : upd (blw f g n) n v = blw f g (n + 1) := by
  funext k
  by_cases q : k = n
  · subst q; rw [upd_at', blw_in (Nat.lt_succ_self _), h]
  · rw [upd_ne' q]
    by_cases z : k < n
    · rw [blw_in z, blw_in (by omega)]
    · rw [blw_out z, blw_out (by omega)]
/-! an hour of the model -/
def mMn (s : mS) (l : Nat) : Int64 := ml s 9 l + (mr s 28 l).toInt64 * (mr s 6 l).toInt64
def mM1 (s : mS) (n : Nat) : mS := mlA s 9 (blw (mMn s) (ml s 9) n)
theorem mM1_0 {s : mS} : mM1 s 0 = s := by unfold mM1; rw [blw_0, mlA_id]
theorem mM1_s {s : mS} {n : Nat} : mM1 s (n + 1) = muL (mM1 s n) 9 n (ml (mM1 s n) 9 n + (mr s 28 n).toInt64 * (mr s 6 n).toInt64) := by
  unfold mM1
  rw [mlA_put, mlA_self, blw_at, blw_sL]
  rfl
def mHit (s : mS) (p : Nat) : Prop := mr s 17 p = 2 ∧ ¬ (mr s 22 (tn (mr s 19 p)) ≤ mi s 1 ∧ mi s 1 ≤ mr s 23 (tn (mr s 19 p)) - 1) ∧ 0 < ml s 27 p
noncomputable def mDg (s : mS) (p : Nat) : Int64 := cIf (mHit s p) (ml s 20 p + ml s 27 p) (ml s 20 p)
noncomputable def mPt (s : mS) : Nat → Nat → Int32
  | 0 => mr s 25
  | n + 1 => cIf (mHit s n) (upd (mPt s n) (tn (mr s 11 n)) (mPt s n (tn (mr s 11 n)) + 1)) (mPt s n)
noncomputable def mP2 (s : mS) (n : Nat) : mS := mrA (mlA s 20 (blw (mDg s) (ml s 20) n)) 25 (mPt s n)
theorem mP2_0 {s : mS} : mP2 s 0 = s := by unfold mP2; rw [blw_0, mlA_id]; exact mrA_id _ _
theorem mP2_x {s : mS} {X Y : Nat → Int64} {P : Nat → Int32} {n a : Nat} {v : Int64} {x : Int32} (h : vp_updL X n v = Y) : muR (muL (mrA (mlA s 20 X) 25 P) 20 n v) 25 a x = mrA (mlA s 20 Y) 25 (upd P a x) := by
  rw [← h, ← mlA_put, ← mrA_put]
  rfl
theorem mP2_t {s : mS} {n : Nat} (h : mHit s n) : mP2 s (n + 1) = muR (muL (mP2 s n) 20 n (ml (mP2 s n) 20 n + ml s 27 n)) 25 (tn (mr s 11 n)) (mr (mP2 s n) 25 (tn (mr s 11 n)) + 1) := by
  unfold mP2
  rw [mrA_self, show ml (mrA (mlA s 20 (blw (mDg s) (ml s 20) n)) 25 (mPt s n)) 20 n = ml s 20 n from by show blw (mDg s) (ml s 20) n n = _; rw [blw_at], mP2_x (blw_sL (by show _ = cIf (mHit s n) _ _; rw [cIf_t h]))]
  rw [show mPt s (n + 1) = _ from cIf_t h]
theorem mP2_f {s : mS} {n a : Nat} (h : ¬ mHit s n) : mP2 s (n + 1) = muR (muL (mP2 s n) 20 n (ml (mP2 s n) 20 n + 0)) 25 a (mr (mP2 s n) 25 a + 0) := by
  unfold mP2
  rw [mrA_self, Int64.add_zero, Int32.add_zero, show ml (mrA (mlA s 20 (blw (mDg s) (ml s 20) n)) 25 (mPt s n)) 20 n = ml s 20 n from by show blw (mDg s) (ml s 20) n n = _; rw [blw_at], mP2_x (blw_sL (by show _ = cIf (mHit s n) _ _; rw [cIf_f h]))]
  rw [show mPt s (n + 1) = _ from cIf_f h]
  congr 1
  funext k
  unfold upd
  split
  · rename_i e; rw [e]
  · rfl
def mFp (s : mS) (a : Nat) : Int32 := if mi s 1 - mi s 1 / 100 * 100 = 0 ∧ 0 < mr s 25 a then mr s 25 a - 1 else mr s 25 a
def mFg (s : mS) (n : Nat) : mS := mrA s 25 (blw (mFp s) (mr s 25) n)
theorem mFg_0 {s : mS} : mFg s 0 = s := by unfold mFg; rw [blw_0, mrA_id]
theorem mFg_at {s : mS} {n : Nat} : mr (mFg s n) 25 n = mr s 25 n := by unfold mFg; rw [mrA_self, blw_at]
theorem mFg_t {s : mS} {n : Nat} (h : mi s 1 - mi s 1 / 100 * 100 = 0) (h2 : 0 < mr (mFg s n) 25 n) : mFg s (n + 1) = muR (mFg s n) 25 n (mr (mFg s n) 25 n - 1) := by
  rw [mFg_at] at h2 ⊢
  unfold mFg
  rw [mrA_put, blw_sR (if_pos ⟨h, h2⟩).symm]
theorem mFg_f {s : mS} {n : Nat} (h : ¬ (mi s 1 - mi s 1 / 100 * 100 = 0 ∧ 0 < mr (mFg s n) 25 n)) : mFg s (n + 1) = muR (mFg s n) 25 n (mr (mFg s n) 25 n - 0) := by
  rw [mFg_at] at h ⊢
  unfold mFg
  rw [mrA_put, Int32.sub_zero, blw_sR (if_neg h).symm]
noncomputable def mHr (s : mS) (nl np : Nat) : mS := mFg (muI (mP2 (mM1 s nl) np) 1 (mi s 1 + 1)) 6
abbrev rm_X6_passes : Room := { frames := 1, cells := 0, slots := 0, locals := 22 }
set_option maxHeartbeats 4000000 in
set_option maxRecDepth 100000 in
theorem m_X6_passes (l : Launch) (hl : l.stackTraces = false) (D : va_G) (cy : Nat → ClassId) (e0 : Nat) {ma : Nat → Nat} {s : mS} {np : Nat} (hp0 : mi s 21 = nI np) (hp1 : np ≤ 40) {nl : Nat} (hl0 : mi s 10 = nI nl) (hl1 : nl ≤ 6) (hop : HOP s np) (hap : ∀ p, p < np → mr s 11 p = nI (tn (mr s 11 p)) ∧ tn (mr s 11 p) < 6) : mMet l yX6_passes wsX6_passes rm_X6_passes D cy e0 [.ref (ma 0)] ma s (fun v s' => v = none ∧ s' = mHr s nl np) := by
  refine gMet.of (cc := cX6_passes) (maxL := 3) (ret := none) hl (by decide) rfl (Nat.le_of_ble_eq_true rfl) ?_
  intro C E h1 h2 h3 hr hnm hT hE
  subst h1; subst h2; subst h3
  have E : gOk C cX6_passes 3 wsX6_passes RX6 e0 rm_X6_passes := E
  show G C (mW (xy C) ma s) 0 0 0 [(0, .ref (ma 0))] []
  refine g_iconst (v := 0) E dX6_passes_0 (by decide) ?_
  refine g_istore_n (L' := [(1, .int (0)), (0, .ref (ma 0))]) E dX6_passes_1 rfl (by decide) rfl ?_
  refine g_locals [(0, .ref (ma 0)), (1, .int (0))] [1, 0] rfl ?_
  refine g_world (congrArg (mW (xy C) ma) (mM1_0 : (mM1 s 0) = s).symm) ?_
  have loop_2 : ∀ (n_2 l : Nat) , l ≤ nl → nl < n_2 + l → G C (mW (xy C) ma (mM1 s l)) 0 0 2 [(0, .ref (ma 0)), (1, .int (nI l))] [] := by
    intro n_2
    induction n_2 with
    | zero => intro l  g1 g2; exact absurd g2 (by omega)
    | succ n_2 ih_2 =>
      intro l  h1_2 h2_2
      refine g_iload_n E dX6_passes_2 rfl 1 rfl ?_
      refine g_aload_n E dX6_passes_3 rfl 0 rfl ?_
      refine k_get_lines (s := (mM1 s l)) E (fun _ h => (List.mem_cons_of_mem _ (List.mem_append_right _ h))) (List.mem_cons_of_mem _ (List.mem_append_left _ (List.mem_of_getElem? (i := 0) rfl))) dX6_passes_4 ?_
      rw [show mi (mM1 s l) 10 = nI nl from hl0]
      show G C (mW (xy C) ma (mM1 s l)) 0 0 7 [(0, .ref (ma 0)), (1, .int (nI l))] [.int (nI nl), .int (nI l)]
      refine g_icmp_ge (tgt := 40) E dX6_passes_7 (by decide) (fun c_7 => ?_) (fun c_7 => ?_)
      · have e_l : l = nl := Nat.le_antisymm h1_2 (nI_ge_nat (by omega) (by omega) c_7)
        rw [e_l]
        show G C (mW (xy C) ma (mM1 s nl)) 0 0 40 [(0, .ref (ma 0)), (1, .int (nI nl))] []
        refine g_iconst (v := 0) E dX6_passes_40 (by decide) ?_
        refine g_istore_n (L' := [(1, .int (0)), (0, .ref (ma 0))]) E dX6_passes_41 rfl (by decide) rfl ?_
        refine g_locals [(0, .ref (ma 0)), (1, .int (0))] [1, 0] rfl ?_
        refine g_world (congrArg (mW (xy C) ma) (mP2_0 : (mP2 (mM1 s nl) 0) = (mM1 s nl)).symm) ?_
        have loop_42 : ∀ (n_42 k : Nat) , k ≤ np → np < n_42 + k → G C (mW (xy C) ma (mP2 (mM1 s nl) k)) 0 0 42 [(0, .ref (ma 0)), (1, .int (nI k))] [] := by
          intro n_42
          induction n_42 with
          | zero => intro k  g1 g2; exact absurd g2 (by omega)
          | succ n_42 ih_42 =>
            intro k  h1_42 h2_42
            refine g_iload_n E dX6_passes_42 rfl 1 rfl ?_
            refine g_aload_n E dX6_passes_43 rfl 0 rfl ?_
            refine k_get_permits (s := (mP2 (mM1 s nl) k)) E (fun _ h => (List.mem_cons_of_mem _ (List.mem_append_right _ h))) (List.mem_cons_of_mem _ (List.mem_append_left _ (List.mem_of_getElem? (i := 4) rfl))) dX6_passes_44 ?_
            rw [show mi (mP2 (mM1 s nl) k) 21 = nI np from hp0]
            show G C (mW (xy C) ma (mP2 (mM1 s nl) k)) 0 0 47 [(0, .ref (ma 0)), (1, .int (nI k))] [.int (nI np), .int (nI k)]
            refine g_icmp_ge (tgt := 163) E dX6_passes_47 (by decide) (fun c_47 => ?_) (fun c_47 => ?_)
            · have e_k : k = np := Nat.le_antisymm h1_42 (nI_ge_nat (by omega) (by omega) c_47)
              rw [e_k]
              show G C (mW (xy C) ma (mP2 (mM1 s nl) np)) 0 0 163 [(0, .ref (ma 0)), (1, .int (nI np))] []
              refine g_aload_n E dX6_passes_163 rfl 0 rfl ?_
              refine g_dup E dX6_passes_164 rfl ?_
              refine k_get_now (s := (mP2 (mM1 s nl) np)) E (fun _ h => (List.mem_cons_of_mem _ (List.mem_append_right _ h))) (List.mem_cons_of_mem _ (List.mem_append_left _ (List.mem_of_getElem? (i := 6) rfl))) dX6_passes_165 ?_
              refine g_iconst (v := 1) E dX6_passes_168 (by decide) ?_
              refine g_iadd E dX6_passes_169 ?_
              refine k_put_now (s := (mP2 (mM1 s nl) np)) E (fun _ h => (List.mem_cons_of_mem _ (List.mem_append_right _ h))) (List.mem_cons_of_mem _ (List.mem_append_left _ (List.mem_of_getElem? (i := 6) rfl))) dX6_passes_170 ?_
              refine g_iconst (v := 0) E dX6_passes_173 (by decide) ?_
              refine g_istore_n (L' := [(1, .int (0)), (0, .ref (ma 0))]) E dX6_passes_174 rfl (by decide) rfl ?_
              refine g_locals [(0, .ref (ma 0)), (1, .int (0))] [1, 0] rfl ?_
              refine g_world (congrArg (mW (xy C) ma) (mFg_0 : (mFg (muI (mP2 (mM1 s nl) np) 1 (mi s 1 + 1)) 0) = (muI (mP2 (mM1 s nl) np) 1 ((mi (mP2 (mM1 s nl) np) 1 + 1)))).symm) ?_
              have loop_175 : ∀ (n_175 a : Nat) , a ≤ 6 → 6 < n_175 + a → G C (mW (xy C) ma (mFg (muI (mP2 (mM1 s nl) np) 1 (mi s 1 + 1)) a)) 0 0 175 [(0, .ref (ma 0)), (1, .int (nI a))] [] := by
                intro n_175
                induction n_175 with
                | zero => intro a  g1 g2; exact absurd g2 (by omega)
                | succ n_175 ih_175 =>
                  intro a  h1_175 h2_175
                  refine g_iload_n E dX6_passes_175 rfl 1 rfl ?_
                  refine g_bipush (v := 6) E dX6_passes_176 (by decide) ?_
                  refine g_icmp_ge (tgt := 220) E dX6_passes_178 (by decide) (fun c_178 => ?_) (fun c_178 => ?_)
                  · have e_a : a = 6 := Nat.le_antisymm h1_175 (nI_ge_nat (b := 6) (by omega) (by omega) c_178)
                    rw [e_a]
                    show G C (mW (xy C) ma (mFg (muI (mP2 (mM1 s nl) np) 1 (mi s 1 + 1)) 6)) 0 0 220 [(0, .ref (ma 0)), (1, .int (nI 6))] []
                    exact g_vret E hE hr dX6_passes_220 (Nat.le_of_ble_eq_true rfl) (Nat.le_of_ble_eq_true rfl) ⟨(mFg (muI (mP2 (mM1 s nl) np) 1 (mi s 1 + 1)) 6), rfl, rfl, rfl⟩
                  · have ha_a : a < 6 := nI_nge_nat (b := 6) (by omega) (by omega) c_178
                    refine g_aload_n E dX6_passes_181 rfl 0 rfl ?_
                    refine k_get_points (s := (mFg (muI (mP2 (mM1 s nl) np) 1 (mi s 1 + 1)) a)) E (fun _ h => (List.mem_cons_of_mem _ (List.mem_append_right _ h))) (List.mem_cons_of_mem _ (List.mem_append_left _ (List.mem_of_getElem? (i := 12) rfl))) dX6_passes_182 ?_
                    refine g_iload_n E dX6_passes_185 rfl 1 rfl ?_
                    refine g_dup2_11 E dX6_passes_186 rfl rfl ?_
                    refine k_ald_points (s := (mFg (muI (mP2 (mM1 s nl) np) 1 (mi s 1 + 1)) a)) E a rfl (by omega) dX6_passes_187 ?_
                    refine g_aload_n E dX6_passes_188 rfl 0 rfl ?_
                    refine k_get_now (s := (mFg (muI (mP2 (mM1 s nl) np) 1 (mi s 1 + 1)) a)) E (fun _ h => (List.mem_cons_of_mem _ (List.mem_append_right _ h))) (List.mem_cons_of_mem _ (List.mem_append_left _ (List.mem_of_getElem? (i := 6) rfl))) dX6_passes_189 ?_
                    refine g_bipush (v := 100) E dX6_passes_192 (by decide) ?_
                    refine g_irem E dX6_passes_194 (by decide) ?_
                    refine g_if_ne (tgt := 211) E dX6_passes_195 (by decide) (fun c_195 => ?_) (fun c_195 => ?_)
                    · refine g_iconst (v := 0) E dX6_passes_211 (by decide) ?_
                      refine g_isub E dX6_passes_212 ?_
                      refine k_ast_points (s := (mFg (muI (mP2 (mM1 s nl) np) 1 (mi s 1 + 1)) a)) E a rfl (by omega) dX6_passes_213 ?_
                      refine g_iinc (v := nI (a + 1)) (L' := [(1, .int (nI (a + 1))), (0, .ref (ma 0))]) E dX6_passes_214 1 rfl (nI_1 a) (by decide) rfl ?_
                      refine g_goto (tgt := 175) E dX6_passes_217 (by decide) ?_
                      refine g_locals [(0, .ref (ma 0)), (1, .int (nI (a + 1)))] [1, 0] rfl ?_
                      refine g_world (congrArg (mW (xy C) ma) (mFg_f (s := (muI (mP2 (mM1 s nl) np) 1 (mi s 1 + 1))) (n := a) (fun q => c_195 q.1) : (mFg (muI (mP2 (mM1 s nl) np) 1 (mi s 1 + 1)) (a + 1)) = (muR (mFg (muI (mP2 (mM1 s nl) np) 1 (mi s 1 + 1)) a) 25 a ((mr (mFg (muI (mP2 (mM1 s nl) np) 1 (mi s 1 + 1)) a) 25 a - 0)))).symm) ?_
                      refine g_L (L' := [(0, .ref (ma 0)), (1, .int (nI (a + 1)))]) (by rfl) (ih_175 (a + 1)   (by omega) (by omega))
                    · refine g_aload_n E dX6_passes_198 rfl 0 rfl ?_
                      refine k_get_points (s := (mFg (muI (mP2 (mM1 s nl) np) 1 (mi s 1 + 1)) a)) E (fun _ h => (List.mem_cons_of_mem _ (List.mem_append_right _ h))) (List.mem_cons_of_mem _ (List.mem_append_left _ (List.mem_of_getElem? (i := 12) rfl))) dX6_passes_199 ?_
                      refine g_iload_n E dX6_passes_202 rfl 1 rfl ?_
                      refine k_ald_points (s := (mFg (muI (mP2 (mM1 s nl) np) 1 (mi s 1 + 1)) a)) E a rfl (by omega) dX6_passes_203 ?_
                      refine g_if_le (tgt := 211) E dX6_passes_204 (by decide) (fun c_204 => ?_) (fun c_204 => ?_)
                      · refine g_iconst (v := 0) E dX6_passes_211 (by decide) ?_
                        refine g_isub E dX6_passes_212 ?_
                        refine k_ast_points (s := (mFg (muI (mP2 (mM1 s nl) np) 1 (mi s 1 + 1)) a)) E a rfl (by omega) dX6_passes_213 ?_
                        refine g_iinc (v := nI (a + 1)) (L' := [(1, .int (nI (a + 1))), (0, .ref (ma 0))]) E dX6_passes_214 1 rfl (nI_1 a) (by decide) rfl ?_
                        refine g_goto (tgt := 175) E dX6_passes_217 (by decide) ?_
                        refine g_locals [(0, .ref (ma 0)), (1, .int (nI (a + 1)))] [1, 0] rfl ?_
                        refine g_world (congrArg (mW (xy C) ma) (mFg_f (s := (muI (mP2 (mM1 s nl) np) 1 (mi s 1 + 1))) (n := a) (fun q => Int32.not_lt.mpr c_204 q.2) : (mFg (muI (mP2 (mM1 s nl) np) 1 (mi s 1 + 1)) (a + 1)) = (muR (mFg (muI (mP2 (mM1 s nl) np) 1 (mi s 1 + 1)) a) 25 a ((mr (mFg (muI (mP2 (mM1 s nl) np) 1 (mi s 1 + 1)) a) 25 a - 0)))).symm) ?_
                        refine g_L (L' := [(0, .ref (ma 0)), (1, .int (nI (a + 1)))]) (by rfl) (ih_175 (a + 1)   (by omega) (by omega))
                      · refine g_iconst (v := 1) E dX6_passes_207 (by decide) ?_
                        refine g_goto (tgt := 212) E dX6_passes_208 (by decide) ?_
                        refine g_isub E dX6_passes_212 ?_
                        refine k_ast_points (s := (mFg (muI (mP2 (mM1 s nl) np) 1 (mi s 1 + 1)) a)) E a rfl (by omega) dX6_passes_213 ?_
                        refine g_iinc (v := nI (a + 1)) (L' := [(1, .int (nI (a + 1))), (0, .ref (ma 0))]) E dX6_passes_214 1 rfl (nI_1 a) (by decide) rfl ?_
                        refine g_goto (tgt := 175) E dX6_passes_217 (by decide) ?_
                        refine g_locals [(0, .ref (ma 0)), (1, .int (nI (a + 1)))] [1, 0] rfl ?_
                        refine g_world (congrArg (mW (xy C) ma) (mFg_t (s := (muI (mP2 (mM1 s nl) np) 1 (mi s 1 + 1))) (n := a) c_195 (Int32.not_le.mp c_204) : (mFg (muI (mP2 (mM1 s nl) np) 1 (mi s 1 + 1)) (a + 1)) = (muR (mFg (muI (mP2 (mM1 s nl) np) 1 (mi s 1 + 1)) a) 25 a ((mr (mFg (muI (mP2 (mM1 s nl) np) 1 (mi s 1 + 1)) a) 25 a - 1)))).symm) ?_
                        refine g_L (L' := [(0, .ref (ma 0)), (1, .int (nI (a + 1)))]) (by rfl) (ih_175 (a + 1)   (by omega) (by omega))
              exact loop_175 (6 + 1) 0   (by omega) (by omega)
            · have hk_k : k < np := nI_nge_nat (by omega) (by omega) c_47
              have h_a := hap k hk_k
              refine g_aload_n E dX6_passes_50 rfl 0 rfl ?_
              refine k_get_state (s := (mP2 (mM1 s nl) k)) E (fun _ h => (List.mem_cons_of_mem _ (List.mem_append_right _ h))) (List.mem_cons_of_mem _ (List.mem_append_left _ (List.mem_of_getElem? (i := 5) rfl))) dX6_passes_51 ?_
              refine g_iload_n E dX6_passes_54 rfl 1 rfl ?_
              refine k_ald_state (s := (mP2 (mM1 s nl) k)) E k rfl (by omega) dX6_passes_55 ?_
              refine g_iconst (v := 2) E dX6_passes_56 (by decide) ?_
              refine g_icmp_ne (tgt := 109) E dX6_passes_57 (by decide) (fun c_57 => ?_) (fun c_57 => ?_)
              · refine g_iconst (v := 0) E dX6_passes_109 (by decide) ?_
                refine g_istore_n (L' := [(2, .int (0)), (0, .ref (ma 0)), (1, .int (nI k))]) E dX6_passes_110 rfl (by decide) rfl ?_
                refine g_aload_n E dX6_passes_111 rfl 1 rfl ?_
                refine k_get_damage (s := (mP2 (mM1 s nl) k)) E (fun _ h => (List.mem_cons_of_mem _ (List.mem_append_right _ h))) (List.mem_cons_of_mem _ (List.mem_append_left _ (List.mem_of_getElem? (i := 11) rfl))) dX6_passes_112 ?_
                refine g_iload_n E dX6_passes_115 rfl 2 rfl ?_
                refine g_dup2_11 E dX6_passes_116 rfl rfl ?_
                refine k_ald_damage (s := (mP2 (mM1 s nl) k)) E k rfl (by omega) dX6_passes_117 ?_
                refine g_iload_n E dX6_passes_118 rfl 0 rfl ?_
                refine g_if_eq (tgt := 131) E dX6_passes_119 (by decide) (fun c_119 => ?_) (fun c_119 => ?_)
                · refine g_lconst (v := 0) E dX6_passes_131 (by decide) ?_
                  refine g_ladd E dX6_passes_132 ?_
                  refine k_ast_damage (s := (mP2 (mM1 s nl) k)) E k rfl (by omega) dX6_passes_133 ?_
                  refine g_aload_n E dX6_passes_134 rfl 1 rfl ?_
                  refine k_get_points (s := (muL (mP2 (mM1 s nl) k) 20 k ((ml (mP2 (mM1 s nl) k) 20 k + 0)))) E (fun _ h => (List.mem_cons_of_mem _ (List.mem_append_right _ h))) (List.mem_cons_of_mem _ (List.mem_append_left _ (List.mem_of_getElem? (i := 12) rfl))) dX6_passes_135 ?_
                  refine g_aload_n E dX6_passes_138 rfl 1 rfl ?_
                  refine k_get_applicant (s := (muL (mP2 (mM1 s nl) k) 20 k ((ml (mP2 (mM1 s nl) k) 20 k + 0)))) E (fun _ h => (List.mem_cons_of_mem _ (List.mem_append_right _ h))) (List.mem_cons_of_mem _ (List.mem_append_left _ (List.mem_of_getElem? (i := 13) rfl))) dX6_passes_139 ?_
                  refine g_iload_n E dX6_passes_142 rfl 2 rfl ?_
                  refine k_ald_applicant (s := (muL (mP2 (mM1 s nl) k) 20 k ((ml (mP2 (mM1 s nl) k) 20 k + 0)))) E k rfl (by omega) dX6_passes_143 ?_
                  refine g_dup2_11 E dX6_passes_144 rfl rfl ?_
                  refine k_ald_points (s := (muL (mP2 (mM1 s nl) k) 20 k ((ml (mP2 (mM1 s nl) k) 20 k + 0)))) E ((tn (mr s 11 k))) h_a.1 h_a.2 dX6_passes_145 ?_
                  refine g_iload_n E dX6_passes_146 rfl 0 rfl ?_
                  refine g_if_eq (tgt := 154) E dX6_passes_147 (by decide) (fun c_147 => ?_) (fun c_147 => ?_)
                  · refine g_iconst (v := 0) E dX6_passes_154 (by decide) ?_
                    refine g_iadd E dX6_passes_155 ?_
                    refine k_ast_points (s := (muL (mP2 (mM1 s nl) k) 20 k ((ml (mP2 (mM1 s nl) k) 20 k + 0)))) E ((tn (mr s 11 k))) h_a.1 h_a.2 dX6_passes_156 ?_
                    refine g_iinc (v := nI (k + 1)) (L' := [(1, .int (nI (k + 1))), (2, .int (0)), (0, .ref (ma 0))]) E dX6_passes_157 2 rfl (nI_1 k) (by decide) rfl ?_
                    refine g_goto (tgt := 42) E dX6_passes_160 (by decide) ?_
                    refine g_locals [(0, .ref (ma 0)), (1, .int (nI (k + 1)))] [2, 0] rfl ?_
                    refine g_world (congrArg (mW (xy C) ma) (mP2_f (s := (mM1 s nl)) (n := k) (a := tn (mr s 11 k)) (fun q => c_57 q.1) : (mP2 (mM1 s nl) (k + 1)) = (muR (muL (mP2 (mM1 s nl) k) 20 k ((ml (mP2 (mM1 s nl) k) 20 k + 0))) 25 ((tn (mr s 11 k))) ((mr (muL (mP2 (mM1 s nl) k) 20 k ((ml (mP2 (mM1 s nl) k) 20 k + 0))) 25 ((tn (mr s 11 k))) + 0)))).symm) ?_
                    refine g_L (L' := [(0, .ref (ma 0)), (1, .int (nI (k + 1)))]) (by rfl) (ih_42 (k + 1)   (by omega) (by omega))
                  · exact absurd c_147 (by decide)
                · exact absurd c_119 (by decide)
              · have h_o := hop k hk_k (by rw [show mr s 17 k = 2 from c_57]; decide)
                refine g_aload_n E dX6_passes_60 rfl 0 rfl ?_
                refine k_get_now (s := (mP2 (mM1 s nl) k)) E (fun _ h => (List.mem_cons_of_mem _ (List.mem_append_right _ h))) (List.mem_cons_of_mem _ (List.mem_append_left _ (List.mem_of_getElem? (i := 6) rfl))) dX6_passes_61 ?_
                refine g_aload_n E dX6_passes_64 rfl 0 rfl ?_
                refine k_get_first (s := (mP2 (mM1 s nl) k)) E (fun _ h => (List.mem_cons_of_mem _ (List.mem_append_right _ h))) (List.mem_cons_of_mem _ (List.mem_append_left _ (List.mem_of_getElem? (i := 7) rfl))) dX6_passes_65 ?_
                refine g_aload_n E dX6_passes_68 rfl 0 rfl ?_
                refine k_get_opening (s := (mP2 (mM1 s nl) k)) E (fun _ h => (List.mem_cons_of_mem _ (List.mem_append_right _ h))) (List.mem_cons_of_mem _ (List.mem_append_left _ (List.mem_of_getElem? (i := 8) rfl))) dX6_passes_69 ?_
                refine g_iload_n E dX6_passes_72 rfl 1 rfl ?_
                refine k_ald_opening (s := (mP2 (mM1 s nl) k)) E k rfl (by omega) dX6_passes_73 ?_
                refine k_ald_first (s := (mP2 (mM1 s nl) k)) E ((tn (mr s 19 k))) h_o.1 h_o.2 dX6_passes_74 ?_
                refine g_aload_n E dX6_passes_75 rfl 0 rfl ?_
                refine k_get_behind (s := (mP2 (mM1 s nl) k)) E (fun _ h => (List.mem_cons_of_mem _ (List.mem_append_right _ h))) (List.mem_cons_of_mem _ (List.mem_append_left _ (List.mem_of_getElem? (i := 9) rfl))) dX6_passes_76 ?_
                refine g_aload_n E dX6_passes_79 rfl 0 rfl ?_
                refine k_get_opening (s := (mP2 (mM1 s nl) k)) E (fun _ h => (List.mem_cons_of_mem _ (List.mem_append_right _ h))) (List.mem_cons_of_mem _ (List.mem_append_left _ (List.mem_of_getElem? (i := 8) rfl))) dX6_passes_80 ?_
                refine g_iload_n E dX6_passes_83 rfl 1 rfl ?_
                refine k_ald_opening (s := (mP2 (mM1 s nl) k)) E k rfl (by omega) dX6_passes_84 ?_
                refine k_ald_behind (s := (mP2 (mM1 s nl) k)) E ((tn (mr s 19 k))) h_o.1 h_o.2 dX6_passes_85 ?_
                refine g_iconst (v := 1) E dX6_passes_86 (by decide) ?_
                refine g_isub E dX6_passes_87 ?_
                refine k_invS (n := 3) (rest := []) E (m_X6_isIn (xl C) E.tr (xD C) (xy C) e0 (x := mi (mP2 (mM1 s nl) k) 1) (a := mr (mP2 (mM1 s nl) k) 22 ((tn (mr s 19 k)))) (b := (mr (mP2 (mM1 s nl) k) 23 ((tn (mr s 19 k))) - 1))) gX6_passes_X6_isIn rfl rfl rfl (by decide +kernel) ⟨Nat.le_of_ble_eq_true rfl, Nat.le_of_ble_eq_true rfl⟩ rfl rfl (Nat.le_of_ble_eq_true rfl) dX6_passes_88 ⟨Nat.le_of_ble_eq_true rfl, Nat.le_of_ble_eq_true rfl⟩ (fun v9 s9_88 h9 => ?_)
                obtain ⟨hv9, hS9⟩ := h9
                rw [hv9, hS9]
                show G C (mW (xy C) ma (mP2 (mM1 s nl) k)) 0 0 91 [(0, .ref (ma 0)), (1, .int (nI k))] [.int ((bI (mr (mP2 (mM1 s nl) k) 22 ((tn (mr s 19 k))) ≤ mi (mP2 (mM1 s nl) k) 1 ∧ mi (mP2 (mM1 s nl) k) 1 ≤ (mr (mP2 (mM1 s nl) k) 23 ((tn (mr s 19 k))) - 1))))]
                refine g_if_ne (tgt := 109) E dX6_passes_91 (by decide) (fun c_91 => ?_) (fun c_91 => ?_)
                · refine g_iconst (v := 0) E dX6_passes_109 (by decide) ?_
                  refine g_istore_n (L' := [(2, .int (0)), (0, .ref (ma 0)), (1, .int (nI k))]) E dX6_passes_110 rfl (by decide) rfl ?_
                  refine g_aload_n E dX6_passes_111 rfl 1 rfl ?_
                  refine k_get_damage (s := (mP2 (mM1 s nl) k)) E (fun _ h => (List.mem_cons_of_mem _ (List.mem_append_right _ h))) (List.mem_cons_of_mem _ (List.mem_append_left _ (List.mem_of_getElem? (i := 11) rfl))) dX6_passes_112 ?_
                  refine g_iload_n E dX6_passes_115 rfl 2 rfl ?_
                  refine g_dup2_11 E dX6_passes_116 rfl rfl ?_
                  refine k_ald_damage (s := (mP2 (mM1 s nl) k)) E k rfl (by omega) dX6_passes_117 ?_
                  refine g_iload_n E dX6_passes_118 rfl 0 rfl ?_
                  refine g_if_eq (tgt := 131) E dX6_passes_119 (by decide) (fun c_119 => ?_) (fun c_119 => ?_)
                  · refine g_lconst (v := 0) E dX6_passes_131 (by decide) ?_
                    refine g_ladd E dX6_passes_132 ?_
                    refine k_ast_damage (s := (mP2 (mM1 s nl) k)) E k rfl (by omega) dX6_passes_133 ?_
                    refine g_aload_n E dX6_passes_134 rfl 1 rfl ?_
                    refine k_get_points (s := (muL (mP2 (mM1 s nl) k) 20 k ((ml (mP2 (mM1 s nl) k) 20 k + 0)))) E (fun _ h => (List.mem_cons_of_mem _ (List.mem_append_right _ h))) (List.mem_cons_of_mem _ (List.mem_append_left _ (List.mem_of_getElem? (i := 12) rfl))) dX6_passes_135 ?_
                    refine g_aload_n E dX6_passes_138 rfl 1 rfl ?_
                    refine k_get_applicant (s := (muL (mP2 (mM1 s nl) k) 20 k ((ml (mP2 (mM1 s nl) k) 20 k + 0)))) E (fun _ h => (List.mem_cons_of_mem _ (List.mem_append_right _ h))) (List.mem_cons_of_mem _ (List.mem_append_left _ (List.mem_of_getElem? (i := 13) rfl))) dX6_passes_139 ?_
                    refine g_iload_n E dX6_passes_142 rfl 2 rfl ?_
                    refine k_ald_applicant (s := (muL (mP2 (mM1 s nl) k) 20 k ((ml (mP2 (mM1 s nl) k) 20 k + 0)))) E k rfl (by omega) dX6_passes_143 ?_
                    refine g_dup2_11 E dX6_passes_144 rfl rfl ?_
                    refine k_ald_points (s := (muL (mP2 (mM1 s nl) k) 20 k ((ml (mP2 (mM1 s nl) k) 20 k + 0)))) E ((tn (mr s 11 k))) h_a.1 h_a.2 dX6_passes_145 ?_
                    refine g_iload_n E dX6_passes_146 rfl 0 rfl ?_
                    refine g_if_eq (tgt := 154) E dX6_passes_147 (by decide) (fun c_147 => ?_) (fun c_147 => ?_)
                    · refine g_iconst (v := 0) E dX6_passes_154 (by decide) ?_
                      refine g_iadd E dX6_passes_155 ?_
                      refine k_ast_points (s := (muL (mP2 (mM1 s nl) k) 20 k ((ml (mP2 (mM1 s nl) k) 20 k + 0)))) E ((tn (mr s 11 k))) h_a.1 h_a.2 dX6_passes_156 ?_
                      refine g_iinc (v := nI (k + 1)) (L' := [(1, .int (nI (k + 1))), (2, .int (0)), (0, .ref (ma 0))]) E dX6_passes_157 2 rfl (nI_1 k) (by decide) rfl ?_
                      refine g_goto (tgt := 42) E dX6_passes_160 (by decide) ?_
                      refine g_locals [(0, .ref (ma 0)), (1, .int (nI (k + 1)))] [2, 0] rfl ?_
                      refine g_world (congrArg (mW (xy C) ma) (mP2_f (s := (mM1 s nl)) (n := k) (a := tn (mr s 11 k)) (fun q => q.2.1 (bI_ne0.mp c_91)) : (mP2 (mM1 s nl) (k + 1)) = (muR (muL (mP2 (mM1 s nl) k) 20 k ((ml (mP2 (mM1 s nl) k) 20 k + 0))) 25 ((tn (mr s 11 k))) ((mr (muL (mP2 (mM1 s nl) k) 20 k ((ml (mP2 (mM1 s nl) k) 20 k + 0))) 25 ((tn (mr s 11 k))) + 0)))).symm) ?_
                      refine g_L (L' := [(0, .ref (ma 0)), (1, .int (nI (k + 1)))]) (by rfl) (ih_42 (k + 1)   (by omega) (by omega))
                    · exact absurd c_147 (by decide)
                  · exact absurd c_119 (by decide)
                · refine g_aload_n E dX6_passes_94 rfl 0 rfl ?_
                  refine k_get_costs (s := (mP2 (mM1 s nl) k)) E (fun _ h => (List.mem_cons_of_mem _ (List.mem_append_right _ h))) (List.mem_cons_of_mem _ (List.mem_append_left _ (List.mem_of_getElem? (i := 10) rfl))) dX6_passes_95 ?_
                  refine g_iload_n E dX6_passes_98 rfl 1 rfl ?_
                  refine k_ald_costs (s := (mP2 (mM1 s nl) k)) E k rfl (by omega) dX6_passes_99 ?_
                  refine g_lconst (v := 0) E dX6_passes_100 (by decide) ?_
                  refine g_lcmp E dX6_passes_101 ?_
                  refine g_if_le (tgt := 109) E dX6_passes_102 (by decide) (fun c_102 => ?_) (fun c_102 => ?_)
                  · refine g_iconst (v := 0) E dX6_passes_109 (by decide) ?_
                    refine g_istore_n (L' := [(2, .int (0)), (0, .ref (ma 0)), (1, .int (nI k))]) E dX6_passes_110 rfl (by decide) rfl ?_
                    refine g_aload_n E dX6_passes_111 rfl 1 rfl ?_
                    refine k_get_damage (s := (mP2 (mM1 s nl) k)) E (fun _ h => (List.mem_cons_of_mem _ (List.mem_append_right _ h))) (List.mem_cons_of_mem _ (List.mem_append_left _ (List.mem_of_getElem? (i := 11) rfl))) dX6_passes_112 ?_
                    refine g_iload_n E dX6_passes_115 rfl 2 rfl ?_
                    refine g_dup2_11 E dX6_passes_116 rfl rfl ?_
                    refine k_ald_damage (s := (mP2 (mM1 s nl) k)) E k rfl (by omega) dX6_passes_117 ?_
                    refine g_iload_n E dX6_passes_118 rfl 0 rfl ?_
                    refine g_if_eq (tgt := 131) E dX6_passes_119 (by decide) (fun c_119 => ?_) (fun c_119 => ?_)
                    · refine g_lconst (v := 0) E dX6_passes_131 (by decide) ?_
                      refine g_ladd E dX6_passes_132 ?_
                      refine k_ast_damage (s := (mP2 (mM1 s nl) k)) E k rfl (by omega) dX6_passes_133 ?_
                      refine g_aload_n E dX6_passes_134 rfl 1 rfl ?_
                      refine k_get_points (s := (muL (mP2 (mM1 s nl) k) 20 k ((ml (mP2 (mM1 s nl) k) 20 k + 0)))) E (fun _ h => (List.mem_cons_of_mem _ (List.mem_append_right _ h))) (List.mem_cons_of_mem _ (List.mem_append_left _ (List.mem_of_getElem? (i := 12) rfl))) dX6_passes_135 ?_
                      refine g_aload_n E dX6_passes_138 rfl 1 rfl ?_
                      refine k_get_applicant (s := (muL (mP2 (mM1 s nl) k) 20 k ((ml (mP2 (mM1 s nl) k) 20 k + 0)))) E (fun _ h => (List.mem_cons_of_mem _ (List.mem_append_right _ h))) (List.mem_cons_of_mem _ (List.mem_append_left _ (List.mem_of_getElem? (i := 13) rfl))) dX6_passes_139 ?_
                      refine g_iload_n E dX6_passes_142 rfl 2 rfl ?_
                      refine k_ald_applicant (s := (muL (mP2 (mM1 s nl) k) 20 k ((ml (mP2 (mM1 s nl) k) 20 k + 0)))) E k rfl (by omega) dX6_passes_143 ?_
                      refine g_dup2_11 E dX6_passes_144 rfl rfl ?_
                      refine k_ald_points (s := (muL (mP2 (mM1 s nl) k) 20 k ((ml (mP2 (mM1 s nl) k) 20 k + 0)))) E ((tn (mr s 11 k))) h_a.1 h_a.2 dX6_passes_145 ?_
                      refine g_iload_n E dX6_passes_146 rfl 0 rfl ?_
                      refine g_if_eq (tgt := 154) E dX6_passes_147 (by decide) (fun c_147 => ?_) (fun c_147 => ?_)
                      · refine g_iconst (v := 0) E dX6_passes_154 (by decide) ?_
                        refine g_iadd E dX6_passes_155 ?_
                        refine k_ast_points (s := (muL (mP2 (mM1 s nl) k) 20 k ((ml (mP2 (mM1 s nl) k) 20 k + 0)))) E ((tn (mr s 11 k))) h_a.1 h_a.2 dX6_passes_156 ?_
                        refine g_iinc (v := nI (k + 1)) (L' := [(1, .int (nI (k + 1))), (2, .int (0)), (0, .ref (ma 0))]) E dX6_passes_157 2 rfl (nI_1 k) (by decide) rfl ?_
                        refine g_goto (tgt := 42) E dX6_passes_160 (by decide) ?_
                        refine g_locals [(0, .ref (ma 0)), (1, .int (nI (k + 1)))] [2, 0] rfl ?_
                        refine g_world (congrArg (mW (xy C) ma) (mP2_f (s := (mM1 s nl)) (n := k) (a := tn (mr s 11 k)) (fun q => Int64.not_lt.mpr ((lg_cmp_le _ _).mp c_102) q.2.2) : (mP2 (mM1 s nl) (k + 1)) = (muR (muL (mP2 (mM1 s nl) k) 20 k ((ml (mP2 (mM1 s nl) k) 20 k + 0))) 25 ((tn (mr s 11 k))) ((mr (muL (mP2 (mM1 s nl) k) 20 k ((ml (mP2 (mM1 s nl) k) 20 k + 0))) 25 ((tn (mr s 11 k))) + 0)))).symm) ?_
                        refine g_L (L' := [(0, .ref (ma 0)), (1, .int (nI (k + 1)))]) (by rfl) (ih_42 (k + 1)   (by omega) (by omega))
                      · exact absurd c_147 (by decide)
                    · exact absurd c_119 (by decide)
                  · refine g_iconst (v := 1) E dX6_passes_105 (by decide) ?_
                    refine g_goto (tgt := 110) E dX6_passes_106 (by decide) ?_
                    refine g_istore_n (L' := [(2, .int (1)), (0, .ref (ma 0)), (1, .int (nI k))]) E dX6_passes_110 rfl (by decide) rfl ?_
                    refine g_aload_n E dX6_passes_111 rfl 1 rfl ?_
                    refine k_get_damage (s := (mP2 (mM1 s nl) k)) E (fun _ h => (List.mem_cons_of_mem _ (List.mem_append_right _ h))) (List.mem_cons_of_mem _ (List.mem_append_left _ (List.mem_of_getElem? (i := 11) rfl))) dX6_passes_112 ?_
                    refine g_iload_n E dX6_passes_115 rfl 2 rfl ?_
                    refine g_dup2_11 E dX6_passes_116 rfl rfl ?_
                    refine k_ald_damage (s := (mP2 (mM1 s nl) k)) E k rfl (by omega) dX6_passes_117 ?_
                    refine g_iload_n E dX6_passes_118 rfl 0 rfl ?_
                    refine g_if_eq (tgt := 131) E dX6_passes_119 (by decide) (fun c_119 => ?_) (fun c_119 => ?_)
                    · exact absurd c_119 (by decide)
                    · refine g_aload_n E dX6_passes_122 rfl 1 rfl ?_
                      refine k_get_costs (s := (mP2 (mM1 s nl) k)) E (fun _ h => (List.mem_cons_of_mem _ (List.mem_append_right _ h))) (List.mem_cons_of_mem _ (List.mem_append_left _ (List.mem_of_getElem? (i := 10) rfl))) dX6_passes_123 ?_
                      refine g_iload_n E dX6_passes_126 rfl 2 rfl ?_
                      refine k_ald_costs (s := (mP2 (mM1 s nl) k)) E k rfl (by omega) dX6_passes_127 ?_
                      refine g_goto (tgt := 132) E dX6_passes_128 (by decide) ?_
                      refine g_ladd E dX6_passes_132 ?_
                      refine k_ast_damage (s := (mP2 (mM1 s nl) k)) E k rfl (by omega) dX6_passes_133 ?_
                      refine g_aload_n E dX6_passes_134 rfl 1 rfl ?_
                      refine k_get_points (s := (muL (mP2 (mM1 s nl) k) 20 k ((ml (mP2 (mM1 s nl) k) 20 k + ml (mP2 (mM1 s nl) k) 27 k)))) E (fun _ h => (List.mem_cons_of_mem _ (List.mem_append_right _ h))) (List.mem_cons_of_mem _ (List.mem_append_left _ (List.mem_of_getElem? (i := 12) rfl))) dX6_passes_135 ?_
                      refine g_aload_n E dX6_passes_138 rfl 1 rfl ?_
                      refine k_get_applicant (s := (muL (mP2 (mM1 s nl) k) 20 k ((ml (mP2 (mM1 s nl) k) 20 k + ml (mP2 (mM1 s nl) k) 27 k)))) E (fun _ h => (List.mem_cons_of_mem _ (List.mem_append_right _ h))) (List.mem_cons_of_mem _ (List.mem_append_left _ (List.mem_of_getElem? (i := 13) rfl))) dX6_passes_139 ?_
                      refine g_iload_n E dX6_passes_142 rfl 2 rfl ?_
                      refine k_ald_applicant (s := (muL (mP2 (mM1 s nl) k) 20 k ((ml (mP2 (mM1 s nl) k) 20 k + ml (mP2 (mM1 s nl) k) 27 k)))) E k rfl (by omega) dX6_passes_143 ?_
                      refine g_dup2_11 E dX6_passes_144 rfl rfl ?_
                      refine k_ald_points (s := (muL (mP2 (mM1 s nl) k) 20 k ((ml (mP2 (mM1 s nl) k) 20 k + ml (mP2 (mM1 s nl) k) 27 k)))) E ((tn (mr s 11 k))) h_a.1 h_a.2 dX6_passes_145 ?_
                      refine g_iload_n E dX6_passes_146 rfl 0 rfl ?_
                      refine g_if_eq (tgt := 154) E dX6_passes_147 (by decide) (fun c_147 => ?_) (fun c_147 => ?_)
                      · exact absurd c_147 (by decide)
                      · refine g_iconst (v := 1) E dX6_passes_150 (by decide) ?_
                        refine g_goto (tgt := 155) E dX6_passes_151 (by decide) ?_
                        refine g_iadd E dX6_passes_155 ?_
                        refine k_ast_points (s := (muL (mP2 (mM1 s nl) k) 20 k ((ml (mP2 (mM1 s nl) k) 20 k + ml (mP2 (mM1 s nl) k) 27 k)))) E ((tn (mr s 11 k))) h_a.1 h_a.2 dX6_passes_156 ?_
                        refine g_iinc (v := nI (k + 1)) (L' := [(1, .int (nI (k + 1))), (2, .int (1)), (0, .ref (ma 0))]) E dX6_passes_157 2 rfl (nI_1 k) (by decide) rfl ?_
                        refine g_goto (tgt := 42) E dX6_passes_160 (by decide) ?_
                        refine g_locals [(0, .ref (ma 0)), (1, .int (nI (k + 1)))] [2, 0] rfl ?_
                        refine g_world (congrArg (mW (xy C) ma) (mP2_t (s := (mM1 s nl)) (n := k) ⟨c_57, bI_eq0.mp c_91, Int64.not_le.mp (fun q => c_102 ((lg_cmp_le _ _).mpr q))⟩ : (mP2 (mM1 s nl) (k + 1)) = (muR (muL (mP2 (mM1 s nl) k) 20 k ((ml (mP2 (mM1 s nl) k) 20 k + ml (mP2 (mM1 s nl) k) 27 k))) 25 ((tn (mr s 11 k))) ((mr (muL (mP2 (mM1 s nl) k) 20 k ((ml (mP2 (mM1 s nl) k) 20 k + ml (mP2 (mM1 s nl) k) 27 k))) 25 ((tn (mr s 11 k))) + 1)))).symm) ?_
                        refine g_L (L' := [(0, .ref (ma 0)), (1, .int (nI (k + 1)))]) (by rfl) (ih_42 (k + 1)   (by omega) (by omega))
        exact loop_42 (np + 1) 0   (by omega) (by omega)
      · have hl_l : l < nl := nI_nge_nat (by omega) (by omega) c_7
        refine g_aload_n E dX6_passes_10 rfl 0 rfl ?_
        refine k_get_minutes (s := (mM1 s l)) E (fun _ h => (List.mem_cons_of_mem _ (List.mem_append_right _ h))) (List.mem_cons_of_mem _ (List.mem_append_left _ (List.mem_of_getElem? (i := 1) rfl))) dX6_passes_11 ?_
        refine g_iload_n E dX6_passes_14 rfl 1 rfl ?_
        refine g_dup2_11 E dX6_passes_15 rfl rfl ?_
        refine k_ald_minutes (s := (mM1 s l)) E l rfl (by omega) dX6_passes_16 ?_
        refine g_aload_n E dX6_passes_17 rfl 0 rfl ?_
        refine k_get_detours (s := (mM1 s l)) E (fun _ h => (List.mem_cons_of_mem _ (List.mem_append_right _ h))) (List.mem_cons_of_mem _ (List.mem_append_left _ (List.mem_of_getElem? (i := 2) rfl))) dX6_passes_18 ?_
        refine g_iload_n E dX6_passes_21 rfl 1 rfl ?_
        refine k_ald_detours (s := (mM1 s l)) E l rfl (by omega) dX6_passes_22 ?_
        refine g_i2l E dX6_passes_23 ?_
        refine g_aload_n E dX6_passes_24 rfl 0 rfl ?_
        refine k_get_passengers (s := (mM1 s l)) E (fun _ h => (List.mem_cons_of_mem _ (List.mem_append_right _ h))) (List.mem_cons_of_mem _ (List.mem_append_left _ (List.mem_of_getElem? (i := 3) rfl))) dX6_passes_25 ?_
        refine g_iload_n E dX6_passes_28 rfl 1 rfl ?_
        refine k_ald_passengers (s := (mM1 s l)) E l rfl (by omega) dX6_passes_29 ?_
        refine g_i2l E dX6_passes_30 ?_
        refine g_lmul E dX6_passes_31 ?_
        refine g_ladd E dX6_passes_32 ?_
        refine k_ast_minutes (s := (mM1 s l)) E l rfl (by omega) dX6_passes_33 ?_
        refine g_iinc (v := nI (l + 1)) (L' := [(1, .int (nI (l + 1))), (0, .ref (ma 0))]) E dX6_passes_34 1 rfl (nI_1 l) (by decide) rfl ?_
        refine g_goto (tgt := 2) E dX6_passes_37 (by decide) ?_
        refine g_locals [(0, .ref (ma 0)), (1, .int (nI (l + 1)))] [1, 0] rfl ?_
        refine g_world (congrArg (mW (xy C) ma) (mM1_s : (mM1 s (l + 1)) = (muL (mM1 s l) 9 l ((ml (mM1 s l) 9 l + ((mr (mM1 s l) 28 l : Int32).toInt64 * (mr (mM1 s l) 6 l : Int32).toInt64))))).symm) ?_
        refine g_L (L' := [(0, .ref (ma 0)), (1, .int (nI (l + 1)))]) (by rfl) (ih_2 (l + 1)   (by omega) (by omega))
  exact loop_2 (nl + 1) 0   (by omega) (by omega)
