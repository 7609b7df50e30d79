def MLN (s : mS) (M : Nat) : Prop := ∀ e, e < M → ∃ x y t : Nat, mr s 2 e = nI x ∧ mr s 3 e = nI y ∧ mr s 4 e = nI t ∧ x < 10 ∧ y < 10 ∧ x ≠ y ∧ t ≤ 30
/-- the open lanes below n move nothing -/
def rxd (s : mS) (cl : Int32) (F : Nat → Nat) (n : Nat) : Prop := ∀ e, e < n → opn cl e → ∀ x y t : Nat, mr s 2 e = nI x → mr s 3 e = nI y → mr s 4 e = nI t → x < 10 → y < 10 → t ≤ 30 → F y ≤ F x + t ∧ F x ≤ F y + t
theorem rxd_s {s : mS} {cl : Int32} {F : Nat → Nat} {n x y t : Nat} (h : rxd s cl F n) (ex : mr s 2 n = nI x) (ey : mr s 3 n = nI y) (et : mr s 4 n = nI t) (hx : x < 10) (hy : y < 10) (ht : t ≤ 30) (hr : opn cl n → F y ≤ F x + t ∧ F x ≤ F y + t) : rxd s cl F (n + 1) := by
  intro e he ho x' y' t' q1 q2 q3 g1 g2 g3
  rcases Nat.lt_succ_iff_lt_or_eq.mp he with h1 | h1
  · exact h e h1 ho x' y' t' q1 q2 q3 g1 g2 g3
  · subst h1
    have e1 : x' = x := nI_inj (by omega) (by omega) (q1.symm.trans ex)
    have e2 : y' = y := nI_inj (by omega) (by omega) (q2.symm.trans ey)
    have e3 : t' = t := nI_inj (by omega) (by omega) (q3.symm.trans et)
    subst e1; subst e2; subst e3
    exact hr ho
def setF (F : Nat → Nat) (y v : Nat) : Nat → Nat := fun b => if b = y then v else F b
theorem setF_le {F : Nat → Nat} {y v : Nat} (h : v ≤ F y) (b : Nat) : setF F y v b ≤ F b := by
  unfold setF
  by_cases e : b = y
  · subst e; rw [if_pos rfl]; exact h
  · rw [if_neg e]; omega
theorem upd_o {g : Nat → Int32} {y x : Nat} {v : Int32} (h : x ≠ y) : upd g y v x = g x := if_neg h
theorem hg_0 {g : Nat → Int32} {F : Nat → Nat} {x y : Nat} (hg : ∀ b, b < 10 → g b = nI (F b)) : ∀ b, b < 10 → upd (upd g y (nI (F y))) x (nI (F x)) b = nI (F b) := by
  intro b hb
  by_cases e : b = x
  · subst e; exact if_pos rfl
  · rw [upd_o e]
    by_cases e2 : b = y
    · subst e2; exact if_pos rfl
    · rw [upd_o e2]; exact hg b hb
theorem hg_y {g : Nat → Int32} {F : Nat → Nat} {x y v : Nat} (hxy : x ≠ y) (hg : ∀ b, b < 10 → g b = nI (F b)) : ∀ b, b < 10 → upd (upd g y (nI v)) x (nI (F x)) b = nI (setF F y v b) := by
  intro b hb
  unfold setF
  by_cases e : b = x
  · subst e; rw [if_neg hxy]; exact if_pos rfl
  · rw [upd_o e]
    by_cases e2 : b = y
    · subst e2; rw [if_pos rfl]; exact if_pos rfl
    · rw [upd_o e2, if_neg e2]; exact hg b hb
theorem hg_x {g : Nat → Int32} {F : Nat → Nat} {x y v : Nat} (hg : ∀ b, b < 10 → g b = nI (F b)) : ∀ b, b < 10 → upd (upd g y (nI (F y))) x (nI v) b = nI (setF F x v b) := by
  intro b hb
  unfold setF
  by_cases e : b = x
  · subst e; rw [if_pos rfl]; exact if_pos rfl
  · rw [upd_o e, if_neg e]
    by_cases e2 : b = y
    · subst e2; exact if_pos rfl
    · rw [upd_o e2]; exact hg b hb
abbrev rm_X6_shortest : Room := { frames := 0, cells := 0, slots := 0, locals := 0 }
set_option maxHeartbeats 4000000 in
set_option maxRecDepth 100000 in
theorem m_X6_shortest (l : Launch) (hl : l.stackTraces = false) (D : va_G) (cy : Nat → ClassId) (e0 : Nat) {ma : Nat → Nat} {s : mS} {M a b : Nat} {cl : Int32} (hM : mi s 5 = nI M) (hM1 : M ≤ 24) (hln : MLN s M) (ha : a < 10) (hb : b < 10) : mMet l yX6_shortest wsX6_shortest rm_X6_shortest D cy e0 [.ref (ma 0), .int (nI a), .int (nI b), .int (cl)] ma s (fun v s' => v = some (.int (nI (dst (Ed (mr s 2) (mr s 3) (mr s 4) cl M) a b))) ∧ ∃ g, s' = mFar s g) := by
  refine gMet.of (cc := cX6_shortest) (maxL := 8) (ret := (some .int)) hl (by decide) rfl (Nat.le_of_ble_eq_true rfl) ?_
  intro C E h1 h2 h3 hr hnm hT hE
  subst h1; subst h2; subst h3
  have E : gOk C cX6_shortest 8 wsX6_shortest RX6 e0 rm_X6_shortest := E
  show G C (mW (xy C) ma s) 0 0 0 [(0, .ref (ma 0)), (1, .int (nI a)), (2, .int (nI b)), (3, .int (cl))] []
  have hs0 : mFar s (mr s 26) = s := mFar_id s
  rw [← hs0]
  show G C (mW (xy C) ma (mFar s (mr s 26))) 0 0 0 [(0, .ref (ma 0)), (1, .int (nI a)), (2, .int (nI b)), (3, .int (cl))] []
  refine g_iconst (v := 0) E dX6_shortest_0 (by decide) ?_
  refine g_istore (L' := [(4, .int (0)), (0, .ref (ma 0)), (1, .int (nI a)), (2, .int (nI b)), (3, .int (cl))]) E dX6_shortest_1 (by decide) rfl ?_
  refine g_locals [(0, .ref (ma 0)), (1, .int (nI a)), (2, .int (nI b)), (3, .int (cl)), (4, .int (0))] [1, 2, 3, 4, 0] rfl ?_
  have loop_3 : ∀ (n_3 q : Nat) (g : Nat → Int32), (∀ b, b < q → g b = nI (if b = a then 0 else FAR)) → q ≤ 10 → 10 < n_3 + q → G C (mW (xy C) ma (mFar s g)) 0 0 3 [(0, .ref (ma 0)), (1, .int (nI a)), (2, .int (nI b)), (3, .int (cl)), (4, .int (nI q))] [] := by
    intro n_3
    induction n_3 with
    | zero => intro q g hi g1 g2; exact absurd g2 (by omega)
    | succ n_3 ih_3 =>
      intro q g hi h1_3 h2_3
      refine g_iload E dX6_shortest_3 4 rfl ?_
      refine g_bipush (v := 10) E dX6_shortest_5 (by decide) ?_
      refine g_icmp_ge (tgt := 35) E dX6_shortest_7 (by decide) (fun c_7 => ?_) (fun c_7 => ?_)
      · have e_q : q = 10 := Nat.le_antisymm h1_3 (nI_ge_nat (b := 10) (by decide) (by omega) c_7)
        have hi := (e_q ▸ hi : ∀ b, b < 10 → g b = nI (if b = a then 0 else FAR))
        refine g_iconst (v := 1) E dX6_shortest_35 (by decide) ?_
        refine g_istore (L' := [(4, .int (1)), (0, .ref (ma 0)), (1, .int (nI a)), (2, .int (nI b)), (3, .int (cl))]) E dX6_shortest_36 (by decide) rfl ?_
        refine g_locals [(0, .ref (ma 0)), (1, .int (nI a)), (2, .int (nI b)), (3, .int (cl)), (4, .int (1))] [1, 2, 3, 4, 0] rfl ?_
        have loop_38 : ∀ (n : Nat) (g : Nat → Int32) (F : Nat → Nat) (more : Int32), (∀ b, b < 10 → g b = nI (F b)) → bfI (Ed (mr s 2) (mr s 3) (mr s 4) cl M) a F → (more = 0 ∨ more = 1) → (more = 0 → rxd s cl F M) → 2 * sm10 F + (if more = 0 then 0 else 1) < n → G C (mW (xy C) ma (mFar s g)) 0 0 38 [(0, .ref (ma 0)), (1, .int (nI a)), (2, .int (nI b)), (3, .int (cl)), (4, .int (more))] [] := by
          intro n
          induction n with
          | zero => intro g F more _ _ _ _ q; exact absurd q (by omega)
          | succ n ih_38 =>
            intro g F more hg hB h01 h0 hn
            refine g_iload E dX6_shortest_38 4 rfl ?_
            refine g_if_eq (tgt := 258) E dX6_shortest_40 (by decide) (fun c_40 => ?_) (fun c_40 => ?_)
            · refine g_aload_n E dX6_shortest_258 rfl 0 rfl ?_
              refine k_get_far (s := (mFar s g)) E (fun _ h => (List.mem_cons_of_mem _ (List.mem_append_right _ h))) (List.mem_cons_of_mem _ (List.mem_append_left _ (List.mem_of_getElem? (i := 0) rfl))) dX6_shortest_259 ?_
              refine g_iload_n E dX6_shortest_262 rfl 2 rfl ?_
              refine k_ald_far (s := (mFar s g)) E b rfl (by first | omega) dX6_shortest_263 ?_
              rw [show mr (mFar s g) 26 b = nI (F b) from (by rw [mFar_far]; exact hg b hb)]
              show G C (mW (xy C) ma (mFar s g)) 0 0 264 [(0, .ref (ma 0)), (1, .int (nI a)), (2, .int (nI b)), (3, .int (cl)), (4, .int (more))] [.int (nI (F b))]
              refine g_ldc E (List.mem_cons_of_mem _ (List.mem_append_left _ (List.mem_of_getElem? (i := 1) rfl))) dX6_shortest_264 ?_
              refine g_icmp_ge (tgt := 278) E dX6_shortest_266 (by decide) (fun c_266 => ?_) (fun c_266 => ?_)
              · refine g_ldc E (List.mem_cons_of_mem _ (List.mem_append_left _ (List.mem_of_getElem? (i := 1) rfl))) dX6_shortest_278 ?_
                exact g_iret E hE hr dX6_shortest_280 (Nat.le_of_ble_eq_true rfl) (Nat.le_of_ble_eq_true rfl) ⟨(mFar s g), rfl, by rw [← bf_end hB hln (h0 c_40) hb]; have := hB.2.1 b hb; have := nI_ge_nat (a := F b) (b := FAR) (by decide) (by unfold FAR at *; omega) c_266; rw [show F b = FAR by omega]; rfl, _, rfl⟩
              · refine g_aload_n E dX6_shortest_269 rfl 0 rfl ?_
                refine k_get_far (s := (mFar s g)) E (fun _ h => (List.mem_cons_of_mem _ (List.mem_append_right _ h))) (List.mem_cons_of_mem _ (List.mem_append_left _ (List.mem_of_getElem? (i := 0) rfl))) dX6_shortest_270 ?_
                refine g_iload_n E dX6_shortest_273 rfl 2 rfl ?_
                refine k_ald_far (s := (mFar s g)) E b rfl (by first | omega) dX6_shortest_274 ?_
                rw [show mr (mFar s g) 26 b = nI (F b) from (by rw [mFar_far]; exact hg b hb)]
                show G C (mW (xy C) ma (mFar s g)) 0 0 275 [(0, .ref (ma 0)), (1, .int (nI a)), (2, .int (nI b)), (3, .int (cl)), (4, .int (more))] [.int (nI (F b))]
                refine g_goto (tgt := 280) E dX6_shortest_275 (by decide) ?_
                exact g_iret E hE hr dX6_shortest_280 (Nat.le_of_ble_eq_true rfl) (Nat.le_of_ble_eq_true rfl) ⟨(mFar s g), rfl, by rw [← bf_end hB hln (h0 c_40) hb], _, rfl⟩
            · have hF0 : ∃ F0, F0 = F := ⟨F, rfl⟩
              obtain ⟨F0, hF0⟩ := hF0
              rw [if_neg c_40, ← hF0] at hn
              refine g_iconst (v := 0) E dX6_shortest_43 (by decide) ?_
              refine g_istore (L' := [(4, .int (0)), (0, .ref (ma 0)), (1, .int (nI a)), (2, .int (nI b)), (3, .int (cl))]) E dX6_shortest_44 (by decide) rfl ?_
              refine g_iconst (v := 0) E dX6_shortest_46 (by decide) ?_
              refine g_istore (L' := [(5, .int (0)), (4, .int (0)), (0, .ref (ma 0)), (1, .int (nI a)), (2, .int (nI b)), (3, .int (cl))]) E dX6_shortest_47 (by decide) rfl ?_
              refine g_locals [(0, .ref (ma 0)), (1, .int (nI a)), (2, .int (nI b)), (3, .int (cl)), (4, .int (0)), (5, .int (0))] [2, 3, 4, 5, 1, 0] rfl ?_
              have loop_49 : ∀ (n_49 e : Nat) (g : Nat → Int32) (F : Nat → Nat) (more : Int32), (∀ b, b < 10 → g b = nI (F b)) → (bfI (Ed (mr s 2) (mr s 3) (mr s 4) cl M) a F) → (more = 0 ∨ more = 1) → (∀ b, b < 10 → F b ≤ F0 b) → (more = 0 → F = F0 ∧ rxd s cl F e) → (more = 1 → sm10 F < sm10 F0) → e ≤ M → M < n_49 + e → G C (mW (xy C) ma (mFar s g)) 0 0 49 [(0, .ref (ma 0)), (1, .int (nI a)), (2, .int (nI b)), (3, .int (cl)), (4, .int (more)), (5, .int (nI e))] [] := by
                intro n_49
                induction n_49 with
                | zero => intro e g F more hg hB h01 hle hm0 hm1 g1 g2; exact absurd g2 (by omega)
                | succ n_49 ih_49 =>
                  intro e g F more hg hB h01 hle hm0 hm1 h1_49 h2_49
                  refine g_iload E dX6_shortest_49 5 rfl ?_
                  refine g_aload_n E dX6_shortest_51 rfl 0 rfl ?_
                  refine k_get_lanes (s := (mFar s g)) E (fun _ h => (List.mem_cons_of_mem _ (List.mem_append_right _ h))) (List.mem_cons_of_mem _ (List.mem_append_left _ (List.mem_of_getElem? (i := 2) rfl))) dX6_shortest_52 ?_
                  rw [show mi (mFar s g) 5 = nI M from hM]
                  show G C (mW (xy C) ma (mFar s g)) 0 0 55 [(0, .ref (ma 0)), (1, .int (nI a)), (2, .int (nI b)), (3, .int (cl)), (4, .int (more)), (5, .int (nI e))] [.int (nI M), .int (nI e)]
                  refine g_icmp_ge (tgt := 255) E dX6_shortest_55 (by decide) (fun c_55 => ?_) (fun c_55 => ?_)
                  · have e_l : e = M := Nat.le_antisymm h1_49 (nI_ge_nat (by omega) (by omega) c_55)
                    refine g_goto (tgt := 38) E dX6_shortest_255 (by decide) ?_
                    refine g_locals [(0, .ref (ma 0)), (1, .int (nI a)), (2, .int (nI b)), (3, .int (cl)), (4, .int (more))] [0, 1, 2, 3, 4] rfl ?_
                    refine ih_38 g F more hg hB h01 (fun q => e_l ▸ (hm0 q).2) ?_
                    rcases h01 with q | q
                    · rw [q, if_pos rfl]; have e1 := (hm0 q).1; rw [e1]; omega
                    · have e1 := hm1 q; split <;> omega
                  · have hl_l : e < M := nI_nge_nat (by omega) (by omega) c_55
                    obtain ⟨x, y, t, ex, ey, et, hx, hy, hxy, ht⟩ := hln e hl_l
                    have fx := hB.2.1 x hx
                    have fy := hB.2.1 y hy
                    unfold FAR at fx fy
                    refine g_iload_n E dX6_shortest_58 rfl 3 rfl ?_
                    refine g_iload E dX6_shortest_59 5 rfl ?_
                    refine g_ishr E dX6_shortest_61 ?_
                    refine g_iconst (v := 1) E dX6_shortest_62 (by decide) ?_
                    refine g_iand E dX6_shortest_63 ?_
                    refine g_if_ne (tgt := 249) E dX6_shortest_64 (by decide) (fun c_64 => ?_) (fun c_64 => ?_)
                    · refine g_iinc (v := nI (e + 1)) (L' := [(5, .int (nI (e + 1))), (0, .ref (ma 0)), (1, .int (nI a)), (2, .int (nI b)), (3, .int (cl)), (4, .int (more))]) E dX6_shortest_249 5 rfl (nI_1 e) (by decide) rfl ?_
                      refine g_goto (tgt := 49) E dX6_shortest_252 (by decide) ?_
                      refine g_locals [(0, .ref (ma 0)), (1, .int (nI a)), (2, .int (nI b)), (3, .int (cl)), (4, .int (more)), (5, .int (nI (e + 1)))] [1, 2, 3, 4, 5, 0] rfl ?_
                      refine g_L (L' := [(0, .ref (ma 0)), (1, .int (nI a)), (2, .int (nI b)), (3, .int (cl)), (4, .int (more)), (5, .int (nI (e + 1)))]) (by rfl) (ih_49 (e + 1) (g) (F) (more) (hg) (hB) (h01) (hle) (fun q => ⟨(hm0 q).1, rxd_s (hm0 q).2 ex ey et hx hy ht (fun ho => absurd ((opn_bit (by omega)).mpr ho) c_64)⟩) (hm1) (by omega) (by omega))
                    · refine g_aload_n E dX6_shortest_67 rfl 0 rfl ?_
                      refine k_get_far (s := (mFar s g)) E (fun _ h => (List.mem_cons_of_mem _ (List.mem_append_right _ h))) (List.mem_cons_of_mem _ (List.mem_append_left _ (List.mem_of_getElem? (i := 0) rfl))) dX6_shortest_68 ?_
                      refine g_aload_n E dX6_shortest_71 rfl 0 rfl ?_
                      refine k_get_one (s := (mFar s g)) E (fun _ h => (List.mem_cons_of_mem _ (List.mem_append_right _ h))) (List.mem_cons_of_mem _ (List.mem_append_left _ (List.mem_of_getElem? (i := 3) rfl))) dX6_shortest_72 ?_
                      refine g_iload E dX6_shortest_75 5 rfl ?_
                      refine k_ald_one (s := (mFar s g)) E e rfl (by first | omega) dX6_shortest_77 ?_
                      rw [show mr (mFar s g) 2 e = nI x from (by rw [mFar_oth (by decide)]; exact ex)]
                      show G C (mW (xy C) ma (mFar s g)) 0 0 78 [(0, .ref (ma 0)), (1, .int (nI a)), (2, .int (nI b)), (3, .int (cl)), (4, .int (more)), (5, .int (nI e))] [.int (nI x), .ref (ma 26)]
                      refine k_ald_far (s := (mFar s g)) E x rfl (by first | omega) dX6_shortest_78 ?_
                      rw [show mr (mFar s g) 26 x = nI (F x) from (by rw [mFar_far]; exact hg x hx)]
                      show G C (mW (xy C) ma (mFar s g)) 0 0 79 [(0, .ref (ma 0)), (1, .int (nI a)), (2, .int (nI b)), (3, .int (cl)), (4, .int (more)), (5, .int (nI e))] [.int (nI (F x))]
                      refine g_aload_n E dX6_shortest_79 rfl 0 rfl ?_
                      refine k_get_takes (s := (mFar s g)) E (fun _ h => (List.mem_cons_of_mem _ (List.mem_append_right _ h))) (List.mem_cons_of_mem _ (List.mem_append_left _ (List.mem_of_getElem? (i := 4) rfl))) dX6_shortest_80 ?_
                      refine g_iload E dX6_shortest_83 5 rfl ?_
                      refine k_ald_takes (s := (mFar s g)) E e rfl (by first | omega) dX6_shortest_85 ?_
                      rw [show mr (mFar s g) 4 e = nI t from (by rw [mFar_oth (by decide)]; exact et)]
                      show G C (mW (xy C) ma (mFar s g)) 0 0 86 [(0, .ref (ma 0)), (1, .int (nI a)), (2, .int (nI b)), (3, .int (cl)), (4, .int (more)), (5, .int (nI e))] [.int (nI t), .int (nI (F x))]
                      refine g_iadd E dX6_shortest_86 ?_
                      rw [nI_add]
                      show G C (mW (xy C) ma (mFar s g)) 0 0 87 [(0, .ref (ma 0)), (1, .int (nI a)), (2, .int (nI b)), (3, .int (cl)), (4, .int (more)), (5, .int (nI e))] [.int (nI (F x + t))]
                      refine g_istore (L' := [(6, .int (nI (F x + t))), (0, .ref (ma 0)), (1, .int (nI a)), (2, .int (nI b)), (3, .int (cl)), (4, .int (more)), (5, .int (nI e))]) E dX6_shortest_87 (by decide) rfl ?_
                      refine g_aload_n E dX6_shortest_89 rfl 1 rfl ?_
                      refine k_get_far (s := (mFar s g)) E (fun _ h => (List.mem_cons_of_mem _ (List.mem_append_right _ h))) (List.mem_cons_of_mem _ (List.mem_append_left _ (List.mem_of_getElem? (i := 0) rfl))) dX6_shortest_90 ?_
                      refine g_aload_n E dX6_shortest_93 rfl 1 rfl ?_
                      refine k_get_other (s := (mFar s g)) E (fun _ h => (List.mem_cons_of_mem _ (List.mem_append_right _ h))) (List.mem_cons_of_mem _ (List.mem_append_left _ (List.mem_of_getElem? (i := 5) rfl))) dX6_shortest_94 ?_
                      refine g_iload E dX6_shortest_97 6 rfl ?_
                      refine k_ald_other (s := (mFar s g)) E e rfl (by first | omega) dX6_shortest_99 ?_
                      rw [show mr (mFar s g) 3 e = nI y from (by rw [mFar_oth (by decide)]; exact ey)]
                      show G C (mW (xy C) ma (mFar s g)) 0 0 100 [(6, .int (nI (F x + t))), (0, .ref (ma 0)), (1, .int (nI a)), (2, .int (nI b)), (3, .int (cl)), (4, .int (more)), (5, .int (nI e))] [.int (nI y), .ref (ma 26)]
                      refine k_ald_far (s := (mFar s g)) E y rfl (by first | omega) dX6_shortest_100 ?_
                      rw [show mr (mFar s g) 26 y = nI (F y) from (by rw [mFar_far]; exact hg y hy)]
                      show G C (mW (xy C) ma (mFar s g)) 0 0 101 [(6, .int (nI (F x + t))), (0, .ref (ma 0)), (1, .int (nI a)), (2, .int (nI b)), (3, .int (cl)), (4, .int (more)), (5, .int (nI e))] [.int (nI (F y))]
                      refine g_aload_n E dX6_shortest_101 rfl 1 rfl ?_
                      refine k_get_takes (s := (mFar s g)) E (fun _ h => (List.mem_cons_of_mem _ (List.mem_append_right _ h))) (List.mem_cons_of_mem _ (List.mem_append_left _ (List.mem_of_getElem? (i := 4) rfl))) dX6_shortest_102 ?_
                      refine g_iload E dX6_shortest_105 6 rfl ?_
                      refine k_ald_takes (s := (mFar s g)) E e rfl (by first | omega) dX6_shortest_107 ?_
                      rw [show mr (mFar s g) 4 e = nI t from (by rw [mFar_oth (by decide)]; exact et)]
                      show G C (mW (xy C) ma (mFar s g)) 0 0 108 [(6, .int (nI (F x + t))), (0, .ref (ma 0)), (1, .int (nI a)), (2, .int (nI b)), (3, .int (cl)), (4, .int (more)), (5, .int (nI e))] [.int (nI t), .int (nI (F y))]
                      refine g_iadd E dX6_shortest_108 ?_
                      rw [nI_add]
                      show G C (mW (xy C) ma (mFar s g)) 0 0 109 [(6, .int (nI (F x + t))), (0, .ref (ma 0)), (1, .int (nI a)), (2, .int (nI b)), (3, .int (cl)), (4, .int (more)), (5, .int (nI e))] [.int (nI (F y + t))]
                      refine g_istore (L' := [(7, .int (nI (F y + t))), (6, .int (nI (F x + t))), (0, .ref (ma 0)), (1, .int (nI a)), (2, .int (nI b)), (3, .int (cl)), (4, .int (more)), (5, .int (nI e))]) E dX6_shortest_109 (by decide) rfl ?_
                      refine g_iload E dX6_shortest_111 6 rfl ?_
                      refine g_if_ne (tgt := 150) E dX6_shortest_113 (by decide) (fun c_113 => ?_) (fun c_113 => ?_)
                      · refine g_iconst (v := 1) E dX6_shortest_150 (by decide) ?_
                        refine g_goto (tgt := 155) E dX6_shortest_151 (by decide) ?_
                        refine g_istore (L' := [(4, .int (1)), (7, .int (nI (F y + t))), (6, .int (nI (F x + t))), (0, .ref (ma 0)), (1, .int (nI a)), (2, .int (nI b)), (3, .int (cl)), (5, .int (nI e))]) E dX6_shortest_155 (by decide) rfl ?_
                        refine g_aload_n E dX6_shortest_157 rfl 3 rfl ?_
                        refine k_get_far (s := (mFar s g)) E (fun _ h => (List.mem_cons_of_mem _ (List.mem_append_right _ h))) (List.mem_cons_of_mem _ (List.mem_append_left _ (List.mem_of_getElem? (i := 0) rfl))) dX6_shortest_158 ?_
                        refine g_aload_n E dX6_shortest_161 rfl 3 rfl ?_
                        refine k_get_other (s := (mFar s g)) E (fun _ h => (List.mem_cons_of_mem _ (List.mem_append_right _ h))) (List.mem_cons_of_mem _ (List.mem_append_left _ (List.mem_of_getElem? (i := 5) rfl))) dX6_shortest_162 ?_
                        refine g_iload E dX6_shortest_165 7 rfl ?_
                        refine k_ald_other (s := (mFar s g)) E e rfl (by first | omega) dX6_shortest_167 ?_
                        rw [show mr (mFar s g) 3 e = nI y from (by rw [mFar_oth (by decide)]; exact ey)]
                        show G C (mW (xy C) ma (mFar s g)) 0 0 168 [(4, .int (1)), (7, .int (nI (F y + t))), (6, .int (nI (F x + t))), (0, .ref (ma 0)), (1, .int (nI a)), (2, .int (nI b)), (3, .int (cl)), (5, .int (nI e))] [.int (nI y), .ref (ma 26)]
                        refine g_iload E dX6_shortest_168 2 rfl ?_
                        refine g_aload_n E dX6_shortest_170 rfl 3 rfl ?_
                        refine k_get_far (s := (mFar s g)) E (fun _ h => (List.mem_cons_of_mem _ (List.mem_append_right _ h))) (List.mem_cons_of_mem _ (List.mem_append_left _ (List.mem_of_getElem? (i := 0) rfl))) dX6_shortest_171 ?_
                        refine g_aload_n E dX6_shortest_174 rfl 3 rfl ?_
                        refine k_get_other (s := (mFar s g)) E (fun _ h => (List.mem_cons_of_mem _ (List.mem_append_right _ h))) (List.mem_cons_of_mem _ (List.mem_append_left _ (List.mem_of_getElem? (i := 5) rfl))) dX6_shortest_175 ?_
                        refine g_iload E dX6_shortest_178 7 rfl ?_
                        refine k_ald_other (s := (mFar s g)) E e rfl (by first | omega) dX6_shortest_180 ?_
                        rw [show mr (mFar s g) 3 e = nI y from (by rw [mFar_oth (by decide)]; exact ey)]
                        show G C (mW (xy C) ma (mFar s g)) 0 0 181 [(4, .int (1)), (7, .int (nI (F y + t))), (6, .int (nI (F x + t))), (0, .ref (ma 0)), (1, .int (nI a)), (2, .int (nI b)), (3, .int (cl)), (5, .int (nI e))] [.int (nI y), .ref (ma 26), .int (nI (F x + t)), .int (nI y), .ref (ma 26)]
                        refine k_ald_far (s := (mFar s g)) E y rfl (by first | omega) dX6_shortest_181 ?_
                        rw [show mr (mFar s g) 26 y = nI (F y) from (by rw [mFar_far]; exact hg y hy)]
                        show G C (mW (xy C) ma (mFar s g)) 0 0 182 [(4, .int (1)), (7, .int (nI (F y + t))), (6, .int (nI (F x + t))), (0, .ref (ma 0)), (1, .int (nI a)), (2, .int (nI b)), (3, .int (cl)), (5, .int (nI e))] [.int (nI (F y)), .int (nI (F x + t)), .int (nI y), .ref (ma 26)]
                        refine g_icmp_ge (tgt := 190) E dX6_shortest_182 (by decide) (fun c_182 => ?_) (fun c_182 => ?_)
                        · refine g_aload_n E dX6_shortest_190 rfl 3 rfl ?_
                          refine k_get_far (s := (mFar s g)) E (fun _ h => (List.mem_cons_of_mem _ (List.mem_append_right _ h))) (List.mem_cons_of_mem _ (List.mem_append_left _ (List.mem_of_getElem? (i := 0) rfl))) dX6_shortest_191 ?_
                          refine g_aload_n E dX6_shortest_194 rfl 3 rfl ?_
                          refine k_get_other (s := (mFar s g)) E (fun _ h => (List.mem_cons_of_mem _ (List.mem_append_right _ h))) (List.mem_cons_of_mem _ (List.mem_append_left _ (List.mem_of_getElem? (i := 5) rfl))) dX6_shortest_195 ?_
                          refine g_iload E dX6_shortest_198 7 rfl ?_
                          refine k_ald_other (s := (mFar s g)) E e rfl (by first | omega) dX6_shortest_200 ?_
                          rw [show mr (mFar s g) 3 e = nI y from (by rw [mFar_oth (by decide)]; exact ey)]
                          show G C (mW (xy C) ma (mFar s g)) 0 0 201 [(4, .int (1)), (7, .int (nI (F y + t))), (6, .int (nI (F x + t))), (0, .ref (ma 0)), (1, .int (nI a)), (2, .int (nI b)), (3, .int (cl)), (5, .int (nI e))] [.int (nI y), .ref (ma 26), .int (nI y), .ref (ma 26)]
                          refine k_ald_far (s := (mFar s g)) E y rfl (by first | omega) dX6_shortest_201 ?_
                          rw [show mr (mFar s g) 26 y = nI (F y) from (by rw [mFar_far]; exact hg y hy)]
                          show G C (mW (xy C) ma (mFar s g)) 0 0 202 [(4, .int (1)), (7, .int (nI (F y + t))), (6, .int (nI (F x + t))), (0, .ref (ma 0)), (1, .int (nI a)), (2, .int (nI b)), (3, .int (cl)), (5, .int (nI e))] [.int (nI (F y)), .int (nI y), .ref (ma 26)]
                          refine k_ast_far (s := (mFar s g)) E y rfl (by first | omega) dX6_shortest_202 ?_
                          rw [mFar_put]
                          show G C (mW (xy C) ma (mFar s (upd g y (nI (F y))))) 0 0 203 [(4, .int (1)), (7, .int (nI (F y + t))), (6, .int (nI (F x + t))), (0, .ref (ma 0)), (1, .int (nI a)), (2, .int (nI b)), (3, .int (cl)), (5, .int (nI e))] []
                          refine g_aload_n E dX6_shortest_203 rfl 3 rfl ?_
                          refine k_get_far (s := (mFar s (upd g y (nI (F y))))) E (fun _ h => (List.mem_cons_of_mem _ (List.mem_append_right _ h))) (List.mem_cons_of_mem _ (List.mem_append_left _ (List.mem_of_getElem? (i := 0) rfl))) dX6_shortest_204 ?_
                          refine g_aload_n E dX6_shortest_207 rfl 3 rfl ?_
                          refine k_get_one (s := (mFar s (upd g y (nI (F y))))) E (fun _ h => (List.mem_cons_of_mem _ (List.mem_append_right _ h))) (List.mem_cons_of_mem _ (List.mem_append_left _ (List.mem_of_getElem? (i := 3) rfl))) dX6_shortest_208 ?_
                          refine g_iload E dX6_shortest_211 7 rfl ?_
                          refine k_ald_one (s := (mFar s (upd g y (nI (F y))))) E e rfl (by first | omega) dX6_shortest_213 ?_
                          rw [show mr (mFar s (upd g y (nI (F y)))) 2 e = nI x from (by rw [mFar_oth (by decide)]; exact ex)]
                          show G C (mW (xy C) ma (mFar s (upd g y (nI (F y))))) 0 0 214 [(4, .int (1)), (7, .int (nI (F y + t))), (6, .int (nI (F x + t))), (0, .ref (ma 0)), (1, .int (nI a)), (2, .int (nI b)), (3, .int (cl)), (5, .int (nI e))] [.int (nI x), .ref (ma 26)]
                          refine g_iload E dX6_shortest_214 1 rfl ?_
                          refine g_aload_n E dX6_shortest_216 rfl 3 rfl ?_
                          refine k_get_far (s := (mFar s (upd g y (nI (F y))))) E (fun _ h => (List.mem_cons_of_mem _ (List.mem_append_right _ h))) (List.mem_cons_of_mem _ (List.mem_append_left _ (List.mem_of_getElem? (i := 0) rfl))) dX6_shortest_217 ?_
                          refine g_aload_n E dX6_shortest_220 rfl 3 rfl ?_
                          refine k_get_one (s := (mFar s (upd g y (nI (F y))))) E (fun _ h => (List.mem_cons_of_mem _ (List.mem_append_right _ h))) (List.mem_cons_of_mem _ (List.mem_append_left _ (List.mem_of_getElem? (i := 3) rfl))) dX6_shortest_221 ?_
                          refine g_iload E dX6_shortest_224 7 rfl ?_
                          refine k_ald_one (s := (mFar s (upd g y (nI (F y))))) E e rfl (by first | omega) dX6_shortest_226 ?_
                          rw [show mr (mFar s (upd g y (nI (F y)))) 2 e = nI x from (by rw [mFar_oth (by decide)]; exact ex)]
                          show G C (mW (xy C) ma (mFar s (upd g y (nI (F y))))) 0 0 227 [(4, .int (1)), (7, .int (nI (F y + t))), (6, .int (nI (F x + t))), (0, .ref (ma 0)), (1, .int (nI a)), (2, .int (nI b)), (3, .int (cl)), (5, .int (nI e))] [.int (nI x), .ref (ma 26), .int (nI (F y + t)), .int (nI x), .ref (ma 26)]
                          refine k_ald_far (s := (mFar s (upd g y (nI (F y))))) E x rfl (by first | omega) dX6_shortest_227 ?_
                          rw [show mr (mFar s (upd g y (nI (F y)))) 26 x = nI (F x) from (by rw [mFar_far, upd_o hxy]; exact hg x hx)]
                          show G C (mW (xy C) ma (mFar s (upd g y (nI (F y))))) 0 0 228 [(4, .int (1)), (7, .int (nI (F y + t))), (6, .int (nI (F x + t))), (0, .ref (ma 0)), (1, .int (nI a)), (2, .int (nI b)), (3, .int (cl)), (5, .int (nI e))] [.int (nI (F x)), .int (nI (F y + t)), .int (nI x), .ref (ma 26)]
                          refine g_icmp_ge (tgt := 236) E dX6_shortest_228 (by decide) (fun c_228 => ?_) (fun c_228 => ?_)
                          · refine g_aload_n E dX6_shortest_236 rfl 3 rfl ?_
                            refine k_get_far (s := (mFar s (upd g y (nI (F y))))) E (fun _ h => (List.mem_cons_of_mem _ (List.mem_append_right _ h))) (List.mem_cons_of_mem _ (List.mem_append_left _ (List.mem_of_getElem? (i := 0) rfl))) dX6_shortest_237 ?_
                            refine g_aload_n E dX6_shortest_240 rfl 3 rfl ?_
                            refine k_get_one (s := (mFar s (upd g y (nI (F y))))) E (fun _ h => (List.mem_cons_of_mem _ (List.mem_append_right _ h))) (List.mem_cons_of_mem _ (List.mem_append_left _ (List.mem_of_getElem? (i := 3) rfl))) dX6_shortest_241 ?_
                            refine g_iload E dX6_shortest_244 7 rfl ?_
                            refine k_ald_one (s := (mFar s (upd g y (nI (F y))))) E e rfl (by first | omega) dX6_shortest_246 ?_
                            rw [show mr (mFar s (upd g y (nI (F y)))) 2 e = nI x from (by rw [mFar_oth (by decide)]; exact ex)]
                            show G C (mW (xy C) ma (mFar s (upd g y (nI (F y))))) 0 0 247 [(4, .int (1)), (7, .int (nI (F y + t))), (6, .int (nI (F x + t))), (0, .ref (ma 0)), (1, .int (nI a)), (2, .int (nI b)), (3, .int (cl)), (5, .int (nI e))] [.int (nI x), .ref (ma 26), .int (nI x), .ref (ma 26)]
                            refine k_ald_far (s := (mFar s (upd g y (nI (F y))))) E x rfl (by first | omega) dX6_shortest_247 ?_
                            rw [show mr (mFar s (upd g y (nI (F y)))) 26 x = nI (F x) from (by rw [mFar_far, upd_o hxy]; exact hg x hx)]
                            show G C (mW (xy C) ma (mFar s (upd g y (nI (F y))))) 0 0 248 [(4, .int (1)), (7, .int (nI (F y + t))), (6, .int (nI (F x + t))), (0, .ref (ma 0)), (1, .int (nI a)), (2, .int (nI b)), (3, .int (cl)), (5, .int (nI e))] [.int (nI (F x)), .int (nI x), .ref (ma 26)]
                            refine k_ast_far (s := (mFar s (upd g y (nI (F y))))) E x rfl (by first | omega) dX6_shortest_248 ?_
                            rw [mFar_put]
                            show G C (mW (xy C) ma (mFar s (upd (upd g y (nI (F y))) x (nI (F x))))) 0 0 249 [(4, .int (1)), (7, .int (nI (F y + t))), (6, .int (nI (F x + t))), (0, .ref (ma 0)), (1, .int (nI a)), (2, .int (nI b)), (3, .int (cl)), (5, .int (nI e))] []
                            refine g_iinc (v := nI (e + 1)) (L' := [(5, .int (nI (e + 1))), (4, .int (1)), (7, .int (nI (F y + t))), (6, .int (nI (F x + t))), (0, .ref (ma 0)), (1, .int (nI a)), (2, .int (nI b)), (3, .int (cl))]) E dX6_shortest_249 7 rfl (nI_1 e) (by decide) rfl ?_
                            refine g_goto (tgt := 49) E dX6_shortest_252 (by decide) ?_
                            refine g_locals [(0, .ref (ma 0)), (1, .int (nI a)), (2, .int (nI b)), (3, .int (cl)), (4, .int (1)), (5, .int (nI (e + 1)))] [4, 5, 6, 7, 1, 0] rfl ?_
                            have q1 : F y ≤ F x + t := nI_ge_nat (by omega) (by omega) c_182
                            have q2 : F x ≤ F y + t := nI_ge_nat (by omega) (by omega) c_228
                            refine g_L (L' := [(0, .ref (ma 0)), (1, .int (nI a)), (2, .int (nI b)), (3, .int (cl)), (4, .int (1)), (5, .int (nI (e + 1)))]) (by rfl) (ih_49 (e + 1) (_) (F) (1) (hg_0 hg) (hB) (Or.inr rfl) (fun b hb => Nat.le_trans ((fun b => Nat.le_refl _) b) (hle b hb)) (fun q => absurd q (by decide)) (fun _ => Nat.lt_of_le_of_lt (sm10_le (fun b _ => (fun b => Nat.le_refl _) b)) (hm1 (h01.elim (fun q => absurd q c_113) id))) (by omega) (by omega))
                          · refine g_iload E dX6_shortest_231 1 rfl ?_
                            refine g_goto (tgt := 248) E dX6_shortest_233 (by decide) ?_
                            refine k_ast_far (s := (mFar s (upd g y (nI (F y))))) E x rfl (by first | omega) dX6_shortest_248 ?_
                            rw [mFar_put]
                            show G C (mW (xy C) ma (mFar s (upd (upd g y (nI (F y))) x (nI (F y + t))))) 0 0 249 [(4, .int (1)), (7, .int (nI (F y + t))), (6, .int (nI (F x + t))), (0, .ref (ma 0)), (1, .int (nI a)), (2, .int (nI b)), (3, .int (cl)), (5, .int (nI e))] []
                            refine g_iinc (v := nI (e + 1)) (L' := [(5, .int (nI (e + 1))), (4, .int (1)), (7, .int (nI (F y + t))), (6, .int (nI (F x + t))), (0, .ref (ma 0)), (1, .int (nI a)), (2, .int (nI b)), (3, .int (cl))]) E dX6_shortest_249 7 rfl (nI_1 e) (by decide) rfl ?_
                            refine g_goto (tgt := 49) E dX6_shortest_252 (by decide) ?_
                            refine g_locals [(0, .ref (ma 0)), (1, .int (nI a)), (2, .int (nI b)), (3, .int (cl)), (4, .int (1)), (5, .int (nI (e + 1)))] [4, 5, 6, 7, 1, 0] rfl ?_
                            have q1 : F y ≤ F x + t := nI_ge_nat (by omega) (by omega) c_182
                            have q2 : F y + t < F x := nI_nge_nat (by omega) (by omega) c_228
                            refine g_L (L' := [(0, .ref (ma 0)), (1, .int (nI a)), (2, .int (nI b)), (3, .int (cl)), (4, .int (1)), (5, .int (nI (e + 1)))]) (by rfl) (ih_49 (e + 1) (_) ((setF F x (F y + t))) (1) (hg_x hg) (bfI_rlx hB hy hx ⟨e, hl_l, (opn_bit (by omega)).mp c_64, et, ht, hy, hx, Or.inr ⟨ex, ey⟩⟩ rfl q2) (Or.inr rfl) (fun b hb => Nat.le_trans (setF_le (by omega) b) (hle b hb)) (fun q => absurd q (by decide)) (fun _ => Nat.lt_of_le_of_lt (sm10_le (fun b _ => setF_le (by omega) b)) (hm1 (h01.elim (fun q => absurd q c_113) id))) (by omega) (by omega))
                        · refine g_iload E dX6_shortest_185 2 rfl ?_
                          refine g_goto (tgt := 202) E dX6_shortest_187 (by decide) ?_
                          refine k_ast_far (s := (mFar s g)) E y rfl (by first | omega) dX6_shortest_202 ?_
                          rw [mFar_put]
                          show G C (mW (xy C) ma (mFar s (upd g y (nI (F x + t))))) 0 0 203 [(4, .int (1)), (7, .int (nI (F y + t))), (6, .int (nI (F x + t))), (0, .ref (ma 0)), (1, .int (nI a)), (2, .int (nI b)), (3, .int (cl)), (5, .int (nI e))] []
                          refine g_aload_n E dX6_shortest_203 rfl 3 rfl ?_
                          refine k_get_far (s := (mFar s (upd g y (nI (F x + t))))) E (fun _ h => (List.mem_cons_of_mem _ (List.mem_append_right _ h))) (List.mem_cons_of_mem _ (List.mem_append_left _ (List.mem_of_getElem? (i := 0) rfl))) dX6_shortest_204 ?_
                          refine g_aload_n E dX6_shortest_207 rfl 3 rfl ?_
                          refine k_get_one (s := (mFar s (upd g y (nI (F x + t))))) E (fun _ h => (List.mem_cons_of_mem _ (List.mem_append_right _ h))) (List.mem_cons_of_mem _ (List.mem_append_left _ (List.mem_of_getElem? (i := 3) rfl))) dX6_shortest_208 ?_
                          refine g_iload E dX6_shortest_211 7 rfl ?_
                          refine k_ald_one (s := (mFar s (upd g y (nI (F x + t))))) E e rfl (by first | omega) dX6_shortest_213 ?_
                          rw [show mr (mFar s (upd g y (nI (F x + t)))) 2 e = nI x from (by rw [mFar_oth (by decide)]; exact ex)]
                          show G C (mW (xy C) ma (mFar s (upd g y (nI (F x + t))))) 0 0 214 [(4, .int (1)), (7, .int (nI (F y + t))), (6, .int (nI (F x + t))), (0, .ref (ma 0)), (1, .int (nI a)), (2, .int (nI b)), (3, .int (cl)), (5, .int (nI e))] [.int (nI x), .ref (ma 26)]
                          refine g_iload E dX6_shortest_214 1 rfl ?_
                          refine g_aload_n E dX6_shortest_216 rfl 3 rfl ?_
                          refine k_get_far (s := (mFar s (upd g y (nI (F x + t))))) E (fun _ h => (List.mem_cons_of_mem _ (List.mem_append_right _ h))) (List.mem_cons_of_mem _ (List.mem_append_left _ (List.mem_of_getElem? (i := 0) rfl))) dX6_shortest_217 ?_
                          refine g_aload_n E dX6_shortest_220 rfl 3 rfl ?_
                          refine k_get_one (s := (mFar s (upd g y (nI (F x + t))))) E (fun _ h => (List.mem_cons_of_mem _ (List.mem_append_right _ h))) (List.mem_cons_of_mem _ (List.mem_append_left _ (List.mem_of_getElem? (i := 3) rfl))) dX6_shortest_221 ?_
                          refine g_iload E dX6_shortest_224 7 rfl ?_
                          refine k_ald_one (s := (mFar s (upd g y (nI (F x + t))))) E e rfl (by first | omega) dX6_shortest_226 ?_
                          rw [show mr (mFar s (upd g y (nI (F x + t)))) 2 e = nI x from (by rw [mFar_oth (by decide)]; exact ex)]
                          show G C (mW (xy C) ma (mFar s (upd g y (nI (F x + t))))) 0 0 227 [(4, .int (1)), (7, .int (nI (F y + t))), (6, .int (nI (F x + t))), (0, .ref (ma 0)), (1, .int (nI a)), (2, .int (nI b)), (3, .int (cl)), (5, .int (nI e))] [.int (nI x), .ref (ma 26), .int (nI (F y + t)), .int (nI x), .ref (ma 26)]
                          refine k_ald_far (s := (mFar s (upd g y (nI (F x + t))))) E x rfl (by first | omega) dX6_shortest_227 ?_
                          rw [show mr (mFar s (upd g y (nI (F x + t)))) 26 x = nI (F x) from (by rw [mFar_far, upd_o hxy]; exact hg x hx)]
                          show G C (mW (xy C) ma (mFar s (upd g y (nI (F x + t))))) 0 0 228 [(4, .int (1)), (7, .int (nI (F y + t))), (6, .int (nI (F x + t))), (0, .ref (ma 0)), (1, .int (nI a)), (2, .int (nI b)), (3, .int (cl)), (5, .int (nI e))] [.int (nI (F x)), .int (nI (F y + t)), .int (nI x), .ref (ma 26)]
                          refine g_icmp_ge (tgt := 236) E dX6_shortest_228 (by decide) (fun c_228 => ?_) (fun c_228 => ?_)
                          · refine g_aload_n E dX6_shortest_236 rfl 3 rfl ?_
                            refine k_get_far (s := (mFar s (upd g y (nI (F x + t))))) E (fun _ h => (List.mem_cons_of_mem _ (List.mem_append_right _ h))) (List.mem_cons_of_mem _ (List.mem_append_left _ (List.mem_of_getElem? (i := 0) rfl))) dX6_shortest_237 ?_
                            refine g_aload_n E dX6_shortest_240 rfl 3 rfl ?_
                            refine k_get_one (s := (mFar s (upd g y (nI (F x + t))))) E (fun _ h => (List.mem_cons_of_mem _ (List.mem_append_right _ h))) (List.mem_cons_of_mem _ (List.mem_append_left _ (List.mem_of_getElem? (i := 3) rfl))) dX6_shortest_241 ?_
                            refine g_iload E dX6_shortest_244 7 rfl ?_
                            refine k_ald_one (s := (mFar s (upd g y (nI (F x + t))))) E e rfl (by first | omega) dX6_shortest_246 ?_
                            rw [show mr (mFar s (upd g y (nI (F x + t)))) 2 e = nI x from (by rw [mFar_oth (by decide)]; exact ex)]
                            show G C (mW (xy C) ma (mFar s (upd g y (nI (F x + t))))) 0 0 247 [(4, .int (1)), (7, .int (nI (F y + t))), (6, .int (nI (F x + t))), (0, .ref (ma 0)), (1, .int (nI a)), (2, .int (nI b)), (3, .int (cl)), (5, .int (nI e))] [.int (nI x), .ref (ma 26), .int (nI x), .ref (ma 26)]
                            refine k_ald_far (s := (mFar s (upd g y (nI (F x + t))))) E x rfl (by first | omega) dX6_shortest_247 ?_
                            rw [show mr (mFar s (upd g y (nI (F x + t)))) 26 x = nI (F x) from (by rw [mFar_far, upd_o hxy]; exact hg x hx)]
                            show G C (mW (xy C) ma (mFar s (upd g y (nI (F x + t))))) 0 0 248 [(4, .int (1)), (7, .int (nI (F y + t))), (6, .int (nI (F x + t))), (0, .ref (ma 0)), (1, .int (nI a)), (2, .int (nI b)), (3, .int (cl)), (5, .int (nI e))] [.int (nI (F x)), .int (nI x), .ref (ma 26)]
                            refine k_ast_far (s := (mFar s (upd g y (nI (F x + t))))) E x rfl (by first | omega) dX6_shortest_248 ?_
                            rw [mFar_put]
                            show G C (mW (xy C) ma (mFar s (upd (upd g y (nI (F x + t))) x (nI (F x))))) 0 0 249 [(4, .int (1)), (7, .int (nI (F y + t))), (6, .int (nI (F x + t))), (0, .ref (ma 0)), (1, .int (nI a)), (2, .int (nI b)), (3, .int (cl)), (5, .int (nI e))] []
                            refine g_iinc (v := nI (e + 1)) (L' := [(5, .int (nI (e + 1))), (4, .int (1)), (7, .int (nI (F y + t))), (6, .int (nI (F x + t))), (0, .ref (ma 0)), (1, .int (nI a)), (2, .int (nI b)), (3, .int (cl))]) E dX6_shortest_249 7 rfl (nI_1 e) (by decide) rfl ?_
                            refine g_goto (tgt := 49) E dX6_shortest_252 (by decide) ?_
                            refine g_locals [(0, .ref (ma 0)), (1, .int (nI a)), (2, .int (nI b)), (3, .int (cl)), (4, .int (1)), (5, .int (nI (e + 1)))] [4, 5, 6, 7, 1, 0] rfl ?_
                            have q1 : F x + t < F y := nI_nge_nat (by omega) (by omega) c_182
                            have q2 : F x ≤ F y + t := nI_ge_nat (by omega) (by omega) c_228
                            refine g_L (L' := [(0, .ref (ma 0)), (1, .int (nI a)), (2, .int (nI b)), (3, .int (cl)), (4, .int (1)), (5, .int (nI (e + 1)))]) (by rfl) (ih_49 (e + 1) (_) ((setF F y (F x + t))) (1) (hg_y hxy hg) (bfI_rlx hB hx hy ⟨e, hl_l, (opn_bit (by omega)).mp c_64, et, ht, hx, hy, Or.inl ⟨ex, ey⟩⟩ rfl q1) (Or.inr rfl) (fun b hb => Nat.le_trans (setF_le (by omega) b) (hle b hb)) (fun q => absurd q (by decide)) (fun _ => Nat.lt_of_le_of_lt (sm10_le (fun b _ => setF_le (by omega) b)) (hm1 (h01.elim (fun q => absurd q c_113) id))) (by omega) (by omega))
                          · refine g_iload E dX6_shortest_231 1 rfl ?_
                            refine g_goto (tgt := 248) E dX6_shortest_233 (by decide) ?_
                            refine k_ast_far (s := (mFar s (upd g y (nI (F x + t))))) E x rfl (by first | omega) dX6_shortest_248 ?_
                            rw [mFar_put]
                            show G C (mW (xy C) ma (mFar s (upd (upd g y (nI (F x + t))) x (nI (F y + t))))) 0 0 249 [(4, .int (1)), (7, .int (nI (F y + t))), (6, .int (nI (F x + t))), (0, .ref (ma 0)), (1, .int (nI a)), (2, .int (nI b)), (3, .int (cl)), (5, .int (nI e))] []
                            refine g_iinc (v := nI (e + 1)) (L' := [(5, .int (nI (e + 1))), (4, .int (1)), (7, .int (nI (F y + t))), (6, .int (nI (F x + t))), (0, .ref (ma 0)), (1, .int (nI a)), (2, .int (nI b)), (3, .int (cl))]) E dX6_shortest_249 7 rfl (nI_1 e) (by decide) rfl ?_
                            refine g_goto (tgt := 49) E dX6_shortest_252 (by decide) ?_
                            refine g_locals [(0, .ref (ma 0)), (1, .int (nI a)), (2, .int (nI b)), (3, .int (cl)), (4, .int (1)), (5, .int (nI (e + 1)))] [4, 5, 6, 7, 1, 0] rfl ?_
                            have q1 : F x + t < F y := nI_nge_nat (by omega) (by omega) c_182
                            have q2 : F y + t < F x := nI_nge_nat (by omega) (by omega) c_228
                            exfalso; omega
                      · refine g_iload E dX6_shortest_116 1 rfl ?_
                        refine g_aload_n E dX6_shortest_118 rfl 2 rfl ?_
                        refine k_get_far (s := (mFar s g)) E (fun _ h => (List.mem_cons_of_mem _ (List.mem_append_right _ h))) (List.mem_cons_of_mem _ (List.mem_append_left _ (List.mem_of_getElem? (i := 0) rfl))) dX6_shortest_119 ?_
                        refine g_aload_n E dX6_shortest_122 rfl 2 rfl ?_
                        refine k_get_other (s := (mFar s g)) E (fun _ h => (List.mem_cons_of_mem _ (List.mem_append_right _ h))) (List.mem_cons_of_mem _ (List.mem_append_left _ (List.mem_of_getElem? (i := 5) rfl))) dX6_shortest_123 ?_
                        refine g_iload E dX6_shortest_126 7 rfl ?_
                        refine k_ald_other (s := (mFar s g)) E e rfl (by first | omega) dX6_shortest_128 ?_
                        rw [show mr (mFar s g) 3 e = nI y from (by rw [mFar_oth (by decide)]; exact ey)]
                        show G C (mW (xy C) ma (mFar s g)) 0 0 129 [(7, .int (nI (F y + t))), (6, .int (nI (F x + t))), (0, .ref (ma 0)), (1, .int (nI a)), (2, .int (nI b)), (3, .int (cl)), (4, .int (more)), (5, .int (nI e))] [.int (nI y), .ref (ma 26), .int (nI (F x + t))]
                        refine k_ald_far (s := (mFar s g)) E y rfl (by first | omega) dX6_shortest_129 ?_
                        rw [show mr (mFar s g) 26 y = nI (F y) from (by rw [mFar_far]; exact hg y hy)]
                        show G C (mW (xy C) ma (mFar s g)) 0 0 130 [(7, .int (nI (F y + t))), (6, .int (nI (F x + t))), (0, .ref (ma 0)), (1, .int (nI a)), (2, .int (nI b)), (3, .int (cl)), (4, .int (more)), (5, .int (nI e))] [.int (nI (F y)), .int (nI (F x + t))]
                        refine g_icmp_lt (tgt := 150) E dX6_shortest_130 (by decide) (fun c_130 => ?_) (fun c_130 => ?_)
                        · refine g_iconst (v := 1) E dX6_shortest_150 (by decide) ?_
                          refine g_goto (tgt := 155) E dX6_shortest_151 (by decide) ?_
                          refine g_istore (L' := [(4, .int (1)), (7, .int (nI (F y + t))), (6, .int (nI (F x + t))), (0, .ref (ma 0)), (1, .int (nI a)), (2, .int (nI b)), (3, .int (cl)), (5, .int (nI e))]) E dX6_shortest_155 (by decide) rfl ?_
                          refine g_aload_n E dX6_shortest_157 rfl 3 rfl ?_
                          refine k_get_far (s := (mFar s g)) E (fun _ h => (List.mem_cons_of_mem _ (List.mem_append_right _ h))) (List.mem_cons_of_mem _ (List.mem_append_left _ (List.mem_of_getElem? (i := 0) rfl))) dX6_shortest_158 ?_
                          refine g_aload_n E dX6_shortest_161 rfl 3 rfl ?_
                          refine k_get_other (s := (mFar s g)) E (fun _ h => (List.mem_cons_of_mem _ (List.mem_append_right _ h))) (List.mem_cons_of_mem _ (List.mem_append_left _ (List.mem_of_getElem? (i := 5) rfl))) dX6_shortest_162 ?_
                          refine g_iload E dX6_shortest_165 7 rfl ?_
                          refine k_ald_other (s := (mFar s g)) E e rfl (by first | omega) dX6_shortest_167 ?_
                          rw [show mr (mFar s g) 3 e = nI y from (by rw [mFar_oth (by decide)]; exact ey)]
                          show G C (mW (xy C) ma (mFar s g)) 0 0 168 [(4, .int (1)), (7, .int (nI (F y + t))), (6, .int (nI (F x + t))), (0, .ref (ma 0)), (1, .int (nI a)), (2, .int (nI b)), (3, .int (cl)), (5, .int (nI e))] [.int (nI y), .ref (ma 26)]
                          refine g_iload E dX6_shortest_168 2 rfl ?_
                          refine g_aload_n E dX6_shortest_170 rfl 3 rfl ?_
                          refine k_get_far (s := (mFar s g)) E (fun _ h => (List.mem_cons_of_mem _ (List.mem_append_right _ h))) (List.mem_cons_of_mem _ (List.mem_append_left _ (List.mem_of_getElem? (i := 0) rfl))) dX6_shortest_171 ?_
                          refine g_aload_n E dX6_shortest_174 rfl 3 rfl ?_
                          refine k_get_other (s := (mFar s g)) E (fun _ h => (List.mem_cons_of_mem _ (List.mem_append_right _ h))) (List.mem_cons_of_mem _ (List.mem_append_left _ (List.mem_of_getElem? (i := 5) rfl))) dX6_shortest_175 ?_
                          refine g_iload E dX6_shortest_178 7 rfl ?_
                          refine k_ald_other (s := (mFar s g)) E e rfl (by first | omega) dX6_shortest_180 ?_
                          rw [show mr (mFar s g) 3 e = nI y from (by rw [mFar_oth (by decide)]; exact ey)]
                          show G C (mW (xy C) ma (mFar s g)) 0 0 181 [(4, .int (1)), (7, .int (nI (F y + t))), (6, .int (nI (F x + t))), (0, .ref (ma 0)), (1, .int (nI a)), (2, .int (nI b)), (3, .int (cl)), (5, .int (nI e))] [.int (nI y), .ref (ma 26), .int (nI (F x + t)), .int (nI y), .ref (ma 26)]
                          refine k_ald_far (s := (mFar s g)) E y rfl (by first | omega) dX6_shortest_181 ?_
                          rw [show mr (mFar s g) 26 y = nI (F y) from (by rw [mFar_far]; exact hg y hy)]
                          show G C (mW (xy C) ma (mFar s g)) 0 0 182 [(4, .int (1)), (7, .int (nI (F y + t))), (6, .int (nI (F x + t))), (0, .ref (ma 0)), (1, .int (nI a)), (2, .int (nI b)), (3, .int (cl)), (5, .int (nI e))] [.int (nI (F y)), .int (nI (F x + t)), .int (nI y), .ref (ma 26)]
                          refine g_icmp_ge (tgt := 190) E dX6_shortest_182 (by decide) (fun c_182 => ?_) (fun c_182 => ?_)
                          · refine g_aload_n E dX6_shortest_190 rfl 3 rfl ?_
                            refine k_get_far (s := (mFar s g)) E (fun _ h => (List.mem_cons_of_mem _ (List.mem_append_right _ h))) (List.mem_cons_of_mem _ (List.mem_append_left _ (List.mem_of_getElem? (i := 0) rfl))) dX6_shortest_191 ?_
                            refine g_aload_n E dX6_shortest_194 rfl 3 rfl ?_
                            refine k_get_other (s := (mFar s g)) E (fun _ h => (List.mem_cons_of_mem _ (List.mem_append_right _ h))) (List.mem_cons_of_mem _ (List.mem_append_left _ (List.mem_of_getElem? (i := 5) rfl))) dX6_shortest_195 ?_
                            refine g_iload E dX6_shortest_198 7 rfl ?_
                            refine k_ald_other (s := (mFar s g)) E e rfl (by first | omega) dX6_shortest_200 ?_
                            rw [show mr (mFar s g) 3 e = nI y from (by rw [mFar_oth (by decide)]; exact ey)]
                            show G C (mW (xy C) ma (mFar s g)) 0 0 201 [(4, .int (1)), (7, .int (nI (F y + t))), (6, .int (nI (F x + t))), (0, .ref (ma 0)), (1, .int (nI a)), (2, .int (nI b)), (3, .int (cl)), (5, .int (nI e))] [.int (nI y), .ref (ma 26), .int (nI y), .ref (ma 26)]
                            refine k_ald_far (s := (mFar s g)) E y rfl (by first | omega) dX6_shortest_201 ?_
                            rw [show mr (mFar s g) 26 y = nI (F y) from (by rw [mFar_far]; exact hg y hy)]
                            show G C (mW (xy C) ma (mFar s g)) 0 0 202 [(4, .int (1)), (7, .int (nI (F y + t))), (6, .int (nI (F x + t))), (0, .ref (ma 0)), (1, .int (nI a)), (2, .int (nI b)), (3, .int (cl)), (5, .int (nI e))] [.int (nI (F y)), .int (nI y), .ref (ma 26)]
                            refine k_ast_far (s := (mFar s g)) E y rfl (by first | omega) dX6_shortest_202 ?_
                            rw [mFar_put]
                            show G C (mW (xy C) ma (mFar s (upd g y (nI (F y))))) 0 0 203 [(4, .int (1)), (7, .int (nI (F y + t))), (6, .int (nI (F x + t))), (0, .ref (ma 0)), (1, .int (nI a)), (2, .int (nI b)), (3, .int (cl)), (5, .int (nI e))] []
                            refine g_aload_n E dX6_shortest_203 rfl 3 rfl ?_
                            refine k_get_far (s := (mFar s (upd g y (nI (F y))))) E (fun _ h => (List.mem_cons_of_mem _ (List.mem_append_right _ h))) (List.mem_cons_of_mem _ (List.mem_append_left _ (List.mem_of_getElem? (i := 0) rfl))) dX6_shortest_204 ?_
                            refine g_aload_n E dX6_shortest_207 rfl 3 rfl ?_
                            refine k_get_one (s := (mFar s (upd g y (nI (F y))))) E (fun _ h => (List.mem_cons_of_mem _ (List.mem_append_right _ h))) (List.mem_cons_of_mem _ (List.mem_append_left _ (List.mem_of_getElem? (i := 3) rfl))) dX6_shortest_208 ?_
                            refine g_iload E dX6_shortest_211 7 rfl ?_
                            refine k_ald_one (s := (mFar s (upd g y (nI (F y))))) E e rfl (by first | omega) dX6_shortest_213 ?_
                            rw [show mr (mFar s (upd g y (nI (F y)))) 2 e = nI x from (by rw [mFar_oth (by decide)]; exact ex)]
                            show G C (mW (xy C) ma (mFar s (upd g y (nI (F y))))) 0 0 214 [(4, .int (1)), (7, .int (nI (F y + t))), (6, .int (nI (F x + t))), (0, .ref (ma 0)), (1, .int (nI a)), (2, .int (nI b)), (3, .int (cl)), (5, .int (nI e))] [.int (nI x), .ref (ma 26)]
                            refine g_iload E dX6_shortest_214 1 rfl ?_
                            refine g_aload_n E dX6_shortest_216 rfl 3 rfl ?_
                            refine k_get_far (s := (mFar s (upd g y (nI (F y))))) E (fun _ h => (List.mem_cons_of_mem _ (List.mem_append_right _ h))) (List.mem_cons_of_mem _ (List.mem_append_left _ (List.mem_of_getElem? (i := 0) rfl))) dX6_shortest_217 ?_
                            refine g_aload_n E dX6_shortest_220 rfl 3 rfl ?_
                            refine k_get_one (s := (mFar s (upd g y (nI (F y))))) E (fun _ h => (List.mem_cons_of_mem _ (List.mem_append_right _ h))) (List.mem_cons_of_mem _ (List.mem_append_left _ (List.mem_of_getElem? (i := 3) rfl))) dX6_shortest_221 ?_
                            refine g_iload E dX6_shortest_224 7 rfl ?_
                            refine k_ald_one (s := (mFar s (upd g y (nI (F y))))) E e rfl (by first | omega) dX6_shortest_226 ?_
                            rw [show mr (mFar s (upd g y (nI (F y)))) 2 e = nI x from (by rw [mFar_oth (by decide)]; exact ex)]
                            show G C (mW (xy C) ma (mFar s (upd g y (nI (F y))))) 0 0 227 [(4, .int (1)), (7, .int (nI (F y + t))), (6, .int (nI (F x + t))), (0, .ref (ma 0)), (1, .int (nI a)), (2, .int (nI b)), (3, .int (cl)), (5, .int (nI e))] [.int (nI x), .ref (ma 26), .int (nI (F y + t)), .int (nI x), .ref (ma 26)]
                            refine k_ald_far (s := (mFar s (upd g y (nI (F y))))) E x rfl (by first | omega) dX6_shortest_227 ?_
                            rw [show mr (mFar s (upd g y (nI (F y)))) 26 x = nI (F x) from (by rw [mFar_far, upd_o hxy]; exact hg x hx)]
                            show G C (mW (xy C) ma (mFar s (upd g y (nI (F y))))) 0 0 228 [(4, .int (1)), (7, .int (nI (F y + t))), (6, .int (nI (F x + t))), (0, .ref (ma 0)), (1, .int (nI a)), (2, .int (nI b)), (3, .int (cl)), (5, .int (nI e))] [.int (nI (F x)), .int (nI (F y + t)), .int (nI x), .ref (ma 26)]
                            refine g_icmp_ge (tgt := 236) E dX6_shortest_228 (by decide) (fun c_228 => ?_) (fun c_228 => ?_)
                            · refine g_aload_n E dX6_shortest_236 rfl 3 rfl ?_
                              refine k_get_far (s := (mFar s (upd g y (nI (F y))))) E (fun _ h => (List.mem_cons_of_mem _ (List.mem_append_right _ h))) (List.mem_cons_of_mem _ (List.mem_append_left _ (List.mem_of_getElem? (i := 0) rfl))) dX6_shortest_237 ?_
                              refine g_aload_n E dX6_shortest_240 rfl 3 rfl ?_
                              refine k_get_one (s := (mFar s (upd g y (nI (F y))))) E (fun _ h => (List.mem_cons_of_mem _ (List.mem_append_right _ h))) (List.mem_cons_of_mem _ (List.mem_append_left _ (List.mem_of_getElem? (i := 3) rfl))) dX6_shortest_241 ?_
                              refine g_iload E dX6_shortest_244 7 rfl ?_
                              refine k_ald_one (s := (mFar s (upd g y (nI (F y))))) E e rfl (by first | omega) dX6_shortest_246 ?_
                              rw [show mr (mFar s (upd g y (nI (F y)))) 2 e = nI x from (by rw [mFar_oth (by decide)]; exact ex)]
                              show G C (mW (xy C) ma (mFar s (upd g y (nI (F y))))) 0 0 247 [(4, .int (1)), (7, .int (nI (F y + t))), (6, .int (nI (F x + t))), (0, .ref (ma 0)), (1, .int (nI a)), (2, .int (nI b)), (3, .int (cl)), (5, .int (nI e))] [.int (nI x), .ref (ma 26), .int (nI x), .ref (ma 26)]
                              refine k_ald_far (s := (mFar s (upd g y (nI (F y))))) E x rfl (by first | omega) dX6_shortest_247 ?_
                              rw [show mr (mFar s (upd g y (nI (F y)))) 26 x = nI (F x) from (by rw [mFar_far, upd_o hxy]; exact hg x hx)]
                              show G C (mW (xy C) ma (mFar s (upd g y (nI (F y))))) 0 0 248 [(4, .int (1)), (7, .int (nI (F y + t))), (6, .int (nI (F x + t))), (0, .ref (ma 0)), (1, .int (nI a)), (2, .int (nI b)), (3, .int (cl)), (5, .int (nI e))] [.int (nI (F x)), .int (nI x), .ref (ma 26)]
                              refine k_ast_far (s := (mFar s (upd g y (nI (F y))))) E x rfl (by first | omega) dX6_shortest_248 ?_
                              rw [mFar_put]
                              show G C (mW (xy C) ma (mFar s (upd (upd g y (nI (F y))) x (nI (F x))))) 0 0 249 [(4, .int (1)), (7, .int (nI (F y + t))), (6, .int (nI (F x + t))), (0, .ref (ma 0)), (1, .int (nI a)), (2, .int (nI b)), (3, .int (cl)), (5, .int (nI e))] []
                              refine g_iinc (v := nI (e + 1)) (L' := [(5, .int (nI (e + 1))), (4, .int (1)), (7, .int (nI (F y + t))), (6, .int (nI (F x + t))), (0, .ref (ma 0)), (1, .int (nI a)), (2, .int (nI b)), (3, .int (cl))]) E dX6_shortest_249 7 rfl (nI_1 e) (by decide) rfl ?_
                              refine g_goto (tgt := 49) E dX6_shortest_252 (by decide) ?_
                              refine g_locals [(0, .ref (ma 0)), (1, .int (nI a)), (2, .int (nI b)), (3, .int (cl)), (4, .int (1)), (5, .int (nI (e + 1)))] [4, 5, 6, 7, 1, 0] rfl ?_
                              have q1 : F y ≤ F x + t := nI_ge_nat (by omega) (by omega) c_182
                              have q2 : F x ≤ F y + t := nI_ge_nat (by omega) (by omega) c_228
                              have q3 : F x + t < F y := (nI_ltI (by omega) (by omega)).mp c_130
                              exfalso; omega
                            · refine g_iload E dX6_shortest_231 1 rfl ?_
                              refine g_goto (tgt := 248) E dX6_shortest_233 (by decide) ?_
                              refine k_ast_far (s := (mFar s (upd g y (nI (F y))))) E x rfl (by first | omega) dX6_shortest_248 ?_
                              rw [mFar_put]
                              show G C (mW (xy C) ma (mFar s (upd (upd g y (nI (F y))) x (nI (F y + t))))) 0 0 249 [(4, .int (1)), (7, .int (nI (F y + t))), (6, .int (nI (F x + t))), (0, .ref (ma 0)), (1, .int (nI a)), (2, .int (nI b)), (3, .int (cl)), (5, .int (nI e))] []
                              refine g_iinc (v := nI (e + 1)) (L' := [(5, .int (nI (e + 1))), (4, .int (1)), (7, .int (nI (F y + t))), (6, .int (nI (F x + t))), (0, .ref (ma 0)), (1, .int (nI a)), (2, .int (nI b)), (3, .int (cl))]) E dX6_shortest_249 7 rfl (nI_1 e) (by decide) rfl ?_
                              refine g_goto (tgt := 49) E dX6_shortest_252 (by decide) ?_
                              refine g_locals [(0, .ref (ma 0)), (1, .int (nI a)), (2, .int (nI b)), (3, .int (cl)), (4, .int (1)), (5, .int (nI (e + 1)))] [4, 5, 6, 7, 1, 0] rfl ?_
                              have q1 : F y ≤ F x + t := nI_ge_nat (by omega) (by omega) c_182
                              have q2 : F y + t < F x := nI_nge_nat (by omega) (by omega) c_228
                              have q3 : F x + t < F y := (nI_ltI (by omega) (by omega)).mp c_130
                              refine g_L (L' := [(0, .ref (ma 0)), (1, .int (nI a)), (2, .int (nI b)), (3, .int (cl)), (4, .int (1)), (5, .int (nI (e + 1)))]) (by rfl) (ih_49 (e + 1) (_) ((setF F x (F y + t))) (1) (hg_x hg) (bfI_rlx hB hy hx ⟨e, hl_l, (opn_bit (by omega)).mp c_64, et, ht, hy, hx, Or.inr ⟨ex, ey⟩⟩ rfl q2) (Or.inr rfl) (fun b hb => Nat.le_trans (setF_le (by omega) b) (hle b hb)) (fun q => absurd q (by decide)) (fun _ => Nat.lt_of_lt_of_le (sm10_lt (fun b _ => setF_le (by omega) b) hx (show setF F x (F y + t) x < F x by unfold setF; rw [if_pos rfl]; exact q2)) (sm10_le hle)) (by omega) (by omega))
                          · refine g_iload E dX6_shortest_185 2 rfl ?_
                            refine g_goto (tgt := 202) E dX6_shortest_187 (by decide) ?_
                            refine k_ast_far (s := (mFar s g)) E y rfl (by first | omega) dX6_shortest_202 ?_
                            rw [mFar_put]
                            show G C (mW (xy C) ma (mFar s (upd g y (nI (F x + t))))) 0 0 203 [(4, .int (1)), (7, .int (nI (F y + t))), (6, .int (nI (F x + t))), (0, .ref (ma 0)), (1, .int (nI a)), (2, .int (nI b)), (3, .int (cl)), (5, .int (nI e))] []
                            refine g_aload_n E dX6_shortest_203 rfl 3 rfl ?_
                            refine k_get_far (s := (mFar s (upd g y (nI (F x + t))))) E (fun _ h => (List.mem_cons_of_mem _ (List.mem_append_right _ h))) (List.mem_cons_of_mem _ (List.mem_append_left _ (List.mem_of_getElem? (i := 0) rfl))) dX6_shortest_204 ?_
                            refine g_aload_n E dX6_shortest_207 rfl 3 rfl ?_
                            refine k_get_one (s := (mFar s (upd g y (nI (F x + t))))) E (fun _ h => (List.mem_cons_of_mem _ (List.mem_append_right _ h))) (List.mem_cons_of_mem _ (List.mem_append_left _ (List.mem_of_getElem? (i := 3) rfl))) dX6_shortest_208 ?_
                            refine g_iload E dX6_shortest_211 7 rfl ?_
                            refine k_ald_one (s := (mFar s (upd g y (nI (F x + t))))) E e rfl (by first | omega) dX6_shortest_213 ?_
                            rw [show mr (mFar s (upd g y (nI (F x + t)))) 2 e = nI x from (by rw [mFar_oth (by decide)]; exact ex)]
                            show G C (mW (xy C) ma (mFar s (upd g y (nI (F x + t))))) 0 0 214 [(4, .int (1)), (7, .int (nI (F y + t))), (6, .int (nI (F x + t))), (0, .ref (ma 0)), (1, .int (nI a)), (2, .int (nI b)), (3, .int (cl)), (5, .int (nI e))] [.int (nI x), .ref (ma 26)]
                            refine g_iload E dX6_shortest_214 1 rfl ?_
                            refine g_aload_n E dX6_shortest_216 rfl 3 rfl ?_
                            refine k_get_far (s := (mFar s (upd g y (nI (F x + t))))) E (fun _ h => (List.mem_cons_of_mem _ (List.mem_append_right _ h))) (List.mem_cons_of_mem _ (List.mem_append_left _ (List.mem_of_getElem? (i := 0) rfl))) dX6_shortest_217 ?_
                            refine g_aload_n E dX6_shortest_220 rfl 3 rfl ?_
                            refine k_get_one (s := (mFar s (upd g y (nI (F x + t))))) E (fun _ h => (List.mem_cons_of_mem _ (List.mem_append_right _ h))) (List.mem_cons_of_mem _ (List.mem_append_left _ (List.mem_of_getElem? (i := 3) rfl))) dX6_shortest_221 ?_
                            refine g_iload E dX6_shortest_224 7 rfl ?_
                            refine k_ald_one (s := (mFar s (upd g y (nI (F x + t))))) E e rfl (by first | omega) dX6_shortest_226 ?_
                            rw [show mr (mFar s (upd g y (nI (F x + t)))) 2 e = nI x from (by rw [mFar_oth (by decide)]; exact ex)]
                            show G C (mW (xy C) ma (mFar s (upd g y (nI (F x + t))))) 0 0 227 [(4, .int (1)), (7, .int (nI (F y + t))), (6, .int (nI (F x + t))), (0, .ref (ma 0)), (1, .int (nI a)), (2, .int (nI b)), (3, .int (cl)), (5, .int (nI e))] [.int (nI x), .ref (ma 26), .int (nI (F y + t)), .int (nI x), .ref (ma 26)]
                            refine k_ald_far (s := (mFar s (upd g y (nI (F x + t))))) E x rfl (by first | omega) dX6_shortest_227 ?_
                            rw [show mr (mFar s (upd g y (nI (F x + t)))) 26 x = nI (F x) from (by rw [mFar_far, upd_o hxy]; exact hg x hx)]
                            show G C (mW (xy C) ma (mFar s (upd g y (nI (F x + t))))) 0 0 228 [(4, .int (1)), (7, .int (nI (F y + t))), (6, .int (nI (F x + t))), (0, .ref (ma 0)), (1, .int (nI a)), (2, .int (nI b)), (3, .int (cl)), (5, .int (nI e))] [.int (nI (F x)), .int (nI (F y + t)), .int (nI x), .ref (ma 26)]
                            refine g_icmp_ge (tgt := 236) E dX6_shortest_228 (by decide) (fun c_228 => ?_) (fun c_228 => ?_)
                            · refine g_aload_n E dX6_shortest_236 rfl 3 rfl ?_
                              refine k_get_far (s := (mFar s (upd g y (nI (F x + t))))) E (fun _ h => (List.mem_cons_of_mem _ (List.mem_append_right _ h))) (List.mem_cons_of_mem _ (List.mem_append_left _ (List.mem_of_getElem? (i := 0) rfl))) dX6_shortest_237 ?_
                              refine g_aload_n E dX6_shortest_240 rfl 3 rfl ?_
                              refine k_get_one (s := (mFar s (upd g y (nI (F x + t))))) E (fun _ h => (List.mem_cons_of_mem _ (List.mem_append_right _ h))) (List.mem_cons_of_mem _ (List.mem_append_left _ (List.mem_of_getElem? (i := 3) rfl))) dX6_shortest_241 ?_
                              refine g_iload E dX6_shortest_244 7 rfl ?_
                              refine k_ald_one (s := (mFar s (upd g y (nI (F x + t))))) E e rfl (by first | omega) dX6_shortest_246 ?_
                              rw [show mr (mFar s (upd g y (nI (F x + t)))) 2 e = nI x from (by rw [mFar_oth (by decide)]; exact ex)]
                              show G C (mW (xy C) ma (mFar s (upd g y (nI (F x + t))))) 0 0 247 [(4, .int (1)), (7, .int (nI (F y + t))), (6, .int (nI (F x + t))), (0, .ref (ma 0)), (1, .int (nI a)), (2, .int (nI b)), (3, .int (cl)), (5, .int (nI e))] [.int (nI x), .ref (ma 26), .int (nI x), .ref (ma 26)]
                              refine k_ald_far (s := (mFar s (upd g y (nI (F x + t))))) E x rfl (by first | omega) dX6_shortest_247 ?_
                              rw [show mr (mFar s (upd g y (nI (F x + t)))) 26 x = nI (F x) from (by rw [mFar_far, upd_o hxy]; exact hg x hx)]
                              show G C (mW (xy C) ma (mFar s (upd g y (nI (F x + t))))) 0 0 248 [(4, .int (1)), (7, .int (nI (F y + t))), (6, .int (nI (F x + t))), (0, .ref (ma 0)), (1, .int (nI a)), (2, .int (nI b)), (3, .int (cl)), (5, .int (nI e))] [.int (nI (F x)), .int (nI x), .ref (ma 26)]
                              refine k_ast_far (s := (mFar s (upd g y (nI (F x + t))))) E x rfl (by first | omega) dX6_shortest_248 ?_
                              rw [mFar_put]
                              show G C (mW (xy C) ma (mFar s (upd (upd g y (nI (F x + t))) x (nI (F x))))) 0 0 249 [(4, .int (1)), (7, .int (nI (F y + t))), (6, .int (nI (F x + t))), (0, .ref (ma 0)), (1, .int (nI a)), (2, .int (nI b)), (3, .int (cl)), (5, .int (nI e))] []
                              refine g_iinc (v := nI (e + 1)) (L' := [(5, .int (nI (e + 1))), (4, .int (1)), (7, .int (nI (F y + t))), (6, .int (nI (F x + t))), (0, .ref (ma 0)), (1, .int (nI a)), (2, .int (nI b)), (3, .int (cl))]) E dX6_shortest_249 7 rfl (nI_1 e) (by decide) rfl ?_
                              refine g_goto (tgt := 49) E dX6_shortest_252 (by decide) ?_
                              refine g_locals [(0, .ref (ma 0)), (1, .int (nI a)), (2, .int (nI b)), (3, .int (cl)), (4, .int (1)), (5, .int (nI (e + 1)))] [4, 5, 6, 7, 1, 0] rfl ?_
                              have q1 : F x + t < F y := nI_nge_nat (by omega) (by omega) c_182
                              have q2 : F x ≤ F y + t := nI_ge_nat (by omega) (by omega) c_228
                              have q3 : F x + t < F y := (nI_ltI (by omega) (by omega)).mp c_130
                              refine g_L (L' := [(0, .ref (ma 0)), (1, .int (nI a)), (2, .int (nI b)), (3, .int (cl)), (4, .int (1)), (5, .int (nI (e + 1)))]) (by rfl) (ih_49 (e + 1) (_) ((setF F y (F x + t))) (1) (hg_y hxy hg) (bfI_rlx hB hx hy ⟨e, hl_l, (opn_bit (by omega)).mp c_64, et, ht, hx, hy, Or.inl ⟨ex, ey⟩⟩ rfl q1) (Or.inr rfl) (fun b hb => Nat.le_trans (setF_le (by omega) b) (hle b hb)) (fun q => absurd q (by decide)) (fun _ => Nat.lt_of_lt_of_le (sm10_lt (fun b _ => setF_le (by omega) b) hy (show setF F y (F x + t) y < F y by unfold setF; rw [if_pos rfl]; exact q1)) (sm10_le hle)) (by omega) (by omega))
                            · refine g_iload E dX6_shortest_231 1 rfl ?_
                              refine g_goto (tgt := 248) E dX6_shortest_233 (by decide) ?_
                              refine k_ast_far (s := (mFar s (upd g y (nI (F x + t))))) E x rfl (by first | omega) dX6_shortest_248 ?_
                              rw [mFar_put]
                              show G C (mW (xy C) ma (mFar s (upd (upd g y (nI (F x + t))) x (nI (F y + t))))) 0 0 249 [(4, .int (1)), (7, .int (nI (F y + t))), (6, .int (nI (F x + t))), (0, .ref (ma 0)), (1, .int (nI a)), (2, .int (nI b)), (3, .int (cl)), (5, .int (nI e))] []
                              refine g_iinc (v := nI (e + 1)) (L' := [(5, .int (nI (e + 1))), (4, .int (1)), (7, .int (nI (F y + t))), (6, .int (nI (F x + t))), (0, .ref (ma 0)), (1, .int (nI a)), (2, .int (nI b)), (3, .int (cl))]) E dX6_shortest_249 7 rfl (nI_1 e) (by decide) rfl ?_
                              refine g_goto (tgt := 49) E dX6_shortest_252 (by decide) ?_
                              refine g_locals [(0, .ref (ma 0)), (1, .int (nI a)), (2, .int (nI b)), (3, .int (cl)), (4, .int (1)), (5, .int (nI (e + 1)))] [4, 5, 6, 7, 1, 0] rfl ?_
                              have q1 : F x + t < F y := nI_nge_nat (by omega) (by omega) c_182
                              have q2 : F y + t < F x := nI_nge_nat (by omega) (by omega) c_228
                              have q3 : F x + t < F y := (nI_ltI (by omega) (by omega)).mp c_130
                              exfalso; omega
                        · refine g_iload E dX6_shortest_133 0 rfl ?_
                          refine g_aload_n E dX6_shortest_135 rfl 2 rfl ?_
                          refine k_get_far (s := (mFar s g)) E (fun _ h => (List.mem_cons_of_mem _ (List.mem_append_right _ h))) (List.mem_cons_of_mem _ (List.mem_append_left _ (List.mem_of_getElem? (i := 0) rfl))) dX6_shortest_136 ?_
                          refine g_aload_n E dX6_shortest_139 rfl 2 rfl ?_
                          refine k_get_one (s := (mFar s g)) E (fun _ h => (List.mem_cons_of_mem _ (List.mem_append_right _ h))) (List.mem_cons_of_mem _ (List.mem_append_left _ (List.mem_of_getElem? (i := 3) rfl))) dX6_shortest_140 ?_
                          refine g_iload E dX6_shortest_143 7 rfl ?_
                          refine k_ald_one (s := (mFar s g)) E e rfl (by first | omega) dX6_shortest_145 ?_
                          rw [show mr (mFar s g) 2 e = nI x from (by rw [mFar_oth (by decide)]; exact ex)]
                          show G C (mW (xy C) ma (mFar s g)) 0 0 146 [(7, .int (nI (F y + t))), (6, .int (nI (F x + t))), (0, .ref (ma 0)), (1, .int (nI a)), (2, .int (nI b)), (3, .int (cl)), (4, .int (more)), (5, .int (nI e))] [.int (nI x), .ref (ma 26), .int (nI (F y + t))]
                          refine k_ald_far (s := (mFar s g)) E x rfl (by first | omega) dX6_shortest_146 ?_
                          rw [show mr (mFar s g) 26 x = nI (F x) from (by rw [mFar_far]; exact hg x hx)]
                          show G C (mW (xy C) ma (mFar s g)) 0 0 147 [(7, .int (nI (F y + t))), (6, .int (nI (F x + t))), (0, .ref (ma 0)), (1, .int (nI a)), (2, .int (nI b)), (3, .int (cl)), (4, .int (more)), (5, .int (nI e))] [.int (nI (F x)), .int (nI (F y + t))]
                          refine g_icmp_ge (tgt := 154) E dX6_shortest_147 (by decide) (fun c_147 => ?_) (fun c_147 => ?_)
                          · refine g_iconst (v := 0) E dX6_shortest_154 (by decide) ?_
                            refine g_istore (L' := [(4, .int (0)), (7, .int (nI (F y + t))), (6, .int (nI (F x + t))), (0, .ref (ma 0)), (1, .int (nI a)), (2, .int (nI b)), (3, .int (cl)), (5, .int (nI e))]) E dX6_shortest_155 (by decide) rfl ?_
                            refine g_aload_n E dX6_shortest_157 rfl 3 rfl ?_
                            refine k_get_far (s := (mFar s g)) E (fun _ h => (List.mem_cons_of_mem _ (List.mem_append_right _ h))) (List.mem_cons_of_mem _ (List.mem_append_left _ (List.mem_of_getElem? (i := 0) rfl))) dX6_shortest_158 ?_
                            refine g_aload_n E dX6_shortest_161 rfl 3 rfl ?_
                            refine k_get_other (s := (mFar s g)) E (fun _ h => (List.mem_cons_of_mem _ (List.mem_append_right _ h))) (List.mem_cons_of_mem _ (List.mem_append_left _ (List.mem_of_getElem? (i := 5) rfl))) dX6_shortest_162 ?_
                            refine g_iload E dX6_shortest_165 7 rfl ?_
                            refine k_ald_other (s := (mFar s g)) E e rfl (by first | omega) dX6_shortest_167 ?_
                            rw [show mr (mFar s g) 3 e = nI y from (by rw [mFar_oth (by decide)]; exact ey)]
                            show G C (mW (xy C) ma (mFar s g)) 0 0 168 [(4, .int (0)), (7, .int (nI (F y + t))), (6, .int (nI (F x + t))), (0, .ref (ma 0)), (1, .int (nI a)), (2, .int (nI b)), (3, .int (cl)), (5, .int (nI e))] [.int (nI y), .ref (ma 26)]
                            refine g_iload E dX6_shortest_168 2 rfl ?_
                            refine g_aload_n E dX6_shortest_170 rfl 3 rfl ?_
                            refine k_get_far (s := (mFar s g)) E (fun _ h => (List.mem_cons_of_mem _ (List.mem_append_right _ h))) (List.mem_cons_of_mem _ (List.mem_append_left _ (List.mem_of_getElem? (i := 0) rfl))) dX6_shortest_171 ?_
                            refine g_aload_n E dX6_shortest_174 rfl 3 rfl ?_
                            refine k_get_other (s := (mFar s g)) E (fun _ h => (List.mem_cons_of_mem _ (List.mem_append_right _ h))) (List.mem_cons_of_mem _ (List.mem_append_left _ (List.mem_of_getElem? (i := 5) rfl))) dX6_shortest_175 ?_
                            refine g_iload E dX6_shortest_178 7 rfl ?_
                            refine k_ald_other (s := (mFar s g)) E e rfl (by first | omega) dX6_shortest_180 ?_
                            rw [show mr (mFar s g) 3 e = nI y from (by rw [mFar_oth (by decide)]; exact ey)]
                            show G C (mW (xy C) ma (mFar s g)) 0 0 181 [(4, .int (0)), (7, .int (nI (F y + t))), (6, .int (nI (F x + t))), (0, .ref (ma 0)), (1, .int (nI a)), (2, .int (nI b)), (3, .int (cl)), (5, .int (nI e))] [.int (nI y), .ref (ma 26), .int (nI (F x + t)), .int (nI y), .ref (ma 26)]
                            refine k_ald_far (s := (mFar s g)) E y rfl (by first | omega) dX6_shortest_181 ?_
                            rw [show mr (mFar s g) 26 y = nI (F y) from (by rw [mFar_far]; exact hg y hy)]
                            show G C (mW (xy C) ma (mFar s g)) 0 0 182 [(4, .int (0)), (7, .int (nI (F y + t))), (6, .int (nI (F x + t))), (0, .ref (ma 0)), (1, .int (nI a)), (2, .int (nI b)), (3, .int (cl)), (5, .int (nI e))] [.int (nI (F y)), .int (nI (F x + t)), .int (nI y), .ref (ma 26)]
                            refine g_icmp_ge (tgt := 190) E dX6_shortest_182 (by decide) (fun c_182 => ?_) (fun c_182 => ?_)
                            · refine g_aload_n E dX6_shortest_190 rfl 3 rfl ?_
                              refine k_get_far (s := (mFar s g)) E (fun _ h => (List.mem_cons_of_mem _ (List.mem_append_right _ h))) (List.mem_cons_of_mem _ (List.mem_append_left _ (List.mem_of_getElem? (i := 0) rfl))) dX6_shortest_191 ?_
                              refine g_aload_n E dX6_shortest_194 rfl 3 rfl ?_
                              refine k_get_other (s := (mFar s g)) E (fun _ h => (List.mem_cons_of_mem _ (List.mem_append_right _ h))) (List.mem_cons_of_mem _ (List.mem_append_left _ (List.mem_of_getElem? (i := 5) rfl))) dX6_shortest_195 ?_
                              refine g_iload E dX6_shortest_198 7 rfl ?_
                              refine k_ald_other (s := (mFar s g)) E e rfl (by first | omega) dX6_shortest_200 ?_
                              rw [show mr (mFar s g) 3 e = nI y from (by rw [mFar_oth (by decide)]; exact ey)]
                              show G C (mW (xy C) ma (mFar s g)) 0 0 201 [(4, .int (0)), (7, .int (nI (F y + t))), (6, .int (nI (F x + t))), (0, .ref (ma 0)), (1, .int (nI a)), (2, .int (nI b)), (3, .int (cl)), (5, .int (nI e))] [.int (nI y), .ref (ma 26), .int (nI y), .ref (ma 26)]
                              refine k_ald_far (s := (mFar s g)) E y rfl (by first | omega) dX6_shortest_201 ?_
                              rw [show mr (mFar s g) 26 y = nI (F y) from (by rw [mFar_far]; exact hg y hy)]
                              show G C (mW (xy C) ma (mFar s g)) 0 0 202 [(4, .int (0)), (7, .int (nI (F y + t))), (6, .int (nI (F x + t))), (0, .ref (ma 0)), (1, .int (nI a)), (2, .int (nI b)), (3, .int (cl)), (5, .int (nI e))] [.int (nI (F y)), .int (nI y), .ref (ma 26)]
                              refine k_ast_far (s := (mFar s g)) E y rfl (by first | omega) dX6_shortest_202 ?_
                              rw [mFar_put]
                              show G C (mW (xy C) ma (mFar s (upd g y (nI (F y))))) 0 0 203 [(4, .int (0)), (7, .int (nI (F y + t))), (6, .int (nI (F x + t))), (0, .ref (ma 0)), (1, .int (nI a)), (2, .int (nI b)), (3, .int (cl)), (5, .int (nI e))] []
                              refine g_aload_n E dX6_shortest_203 rfl 3 rfl ?_
                              refine k_get_far (s := (mFar s (upd g y (nI (F y))))) E (fun _ h => (List.mem_cons_of_mem _ (List.mem_append_right _ h))) (List.mem_cons_of_mem _ (List.mem_append_left _ (List.mem_of_getElem? (i := 0) rfl))) dX6_shortest_204 ?_
                              refine g_aload_n E dX6_shortest_207 rfl 3 rfl ?_
                              refine k_get_one (s := (mFar s (upd g y (nI (F y))))) E (fun _ h => (List.mem_cons_of_mem _ (List.mem_append_right _ h))) (List.mem_cons_of_mem _ (List.mem_append_left _ (List.mem_of_getElem? (i := 3) rfl))) dX6_shortest_208 ?_
                              refine g_iload E dX6_shortest_211 7 rfl ?_
                              refine k_ald_one (s := (mFar s (upd g y (nI (F y))))) E e rfl (by first | omega) dX6_shortest_213 ?_
                              rw [show mr (mFar s (upd g y (nI (F y)))) 2 e = nI x from (by rw [mFar_oth (by decide)]; exact ex)]
                              show G C (mW (xy C) ma (mFar s (upd g y (nI (F y))))) 0 0 214 [(4, .int (0)), (7, .int (nI (F y + t))), (6, .int (nI (F x + t))), (0, .ref (ma 0)), (1, .int (nI a)), (2, .int (nI b)), (3, .int (cl)), (5, .int (nI e))] [.int (nI x), .ref (ma 26)]
                              refine g_iload E dX6_shortest_214 1 rfl ?_
                              refine g_aload_n E dX6_shortest_216 rfl 3 rfl ?_
                              refine k_get_far (s := (mFar s (upd g y (nI (F y))))) E (fun _ h => (List.mem_cons_of_mem _ (List.mem_append_right _ h))) (List.mem_cons_of_mem _ (List.mem_append_left _ (List.mem_of_getElem? (i := 0) rfl))) dX6_shortest_217 ?_
                              refine g_aload_n E dX6_shortest_220 rfl 3 rfl ?_
                              refine k_get_one (s := (mFar s (upd g y (nI (F y))))) E (fun _ h => (List.mem_cons_of_mem _ (List.mem_append_right _ h))) (List.mem_cons_of_mem _ (List.mem_append_left _ (List.mem_of_getElem? (i := 3) rfl))) dX6_shortest_221 ?_
                              refine g_iload E dX6_shortest_224 7 rfl ?_
                              refine k_ald_one (s := (mFar s (upd g y (nI (F y))))) E e rfl (by first | omega) dX6_shortest_226 ?_
                              rw [show mr (mFar s (upd g y (nI (F y)))) 2 e = nI x from (by rw [mFar_oth (by decide)]; exact ex)]
                              show G C (mW (xy C) ma (mFar s (upd g y (nI (F y))))) 0 0 227 [(4, .int (0)), (7, .int (nI (F y + t))), (6, .int (nI (F x + t))), (0, .ref (ma 0)), (1, .int (nI a)), (2, .int (nI b)), (3, .int (cl)), (5, .int (nI e))] [.int (nI x), .ref (ma 26), .int (nI (F y + t)), .int (nI x), .ref (ma 26)]
                              refine k_ald_far (s := (mFar s (upd g y (nI (F y))))) E x rfl (by first | omega) dX6_shortest_227 ?_
                              rw [show mr (mFar s (upd g y (nI (F y)))) 26 x = nI (F x) from (by rw [mFar_far, upd_o hxy]; exact hg x hx)]
                              show G C (mW (xy C) ma (mFar s (upd g y (nI (F y))))) 0 0 228 [(4, .int (0)), (7, .int (nI (F y + t))), (6, .int (nI (F x + t))), (0, .ref (ma 0)), (1, .int (nI a)), (2, .int (nI b)), (3, .int (cl)), (5, .int (nI e))] [.int (nI (F x)), .int (nI (F y + t)), .int (nI x), .ref (ma 26)]
                              refine g_icmp_ge (tgt := 236) E dX6_shortest_228 (by decide) (fun c_228 => ?_) (fun c_228 => ?_)
                              · refine g_aload_n E dX6_shortest_236 rfl 3 rfl ?_
                                refine k_get_far (s := (mFar s (upd g y (nI (F y))))) E (fun _ h => (List.mem_cons_of_mem _ (List.mem_append_right _ h))) (List.mem_cons_of_mem _ (List.mem_append_left _ (List.mem_of_getElem? (i := 0) rfl))) dX6_shortest_237 ?_
                                refine g_aload_n E dX6_shortest_240 rfl 3 rfl ?_
                                refine k_get_one (s := (mFar s (upd g y (nI (F y))))) E (fun _ h => (List.mem_cons_of_mem _ (List.mem_append_right _ h))) (List.mem_cons_of_mem _ (List.mem_append_left _ (List.mem_of_getElem? (i := 3) rfl))) dX6_shortest_241 ?_
                                refine g_iload E dX6_shortest_244 7 rfl ?_
                                refine k_ald_one (s := (mFar s (upd g y (nI (F y))))) E e rfl (by first | omega) dX6_shortest_246 ?_
                                rw [show mr (mFar s (upd g y (nI (F y)))) 2 e = nI x from (by rw [mFar_oth (by decide)]; exact ex)]
                                show G C (mW (xy C) ma (mFar s (upd g y (nI (F y))))) 0 0 247 [(4, .int (0)), (7, .int (nI (F y + t))), (6, .int (nI (F x + t))), (0, .ref (ma 0)), (1, .int (nI a)), (2, .int (nI b)), (3, .int (cl)), (5, .int (nI e))] [.int (nI x), .ref (ma 26), .int (nI x), .ref (ma 26)]
                                refine k_ald_far (s := (mFar s (upd g y (nI (F y))))) E x rfl (by first | omega) dX6_shortest_247 ?_
                                rw [show mr (mFar s (upd g y (nI (F y)))) 26 x = nI (F x) from (by rw [mFar_far, upd_o hxy]; exact hg x hx)]
                                show G C (mW (xy C) ma (mFar s (upd g y (nI (F y))))) 0 0 248 [(4, .int (0)), (7, .int (nI (F y + t))), (6, .int (nI (F x + t))), (0, .ref (ma 0)), (1, .int (nI a)), (2, .int (nI b)), (3, .int (cl)), (5, .int (nI e))] [.int (nI (F x)), .int (nI x), .ref (ma 26)]
                                refine k_ast_far (s := (mFar s (upd g y (nI (F y))))) E x rfl (by first | omega) dX6_shortest_248 ?_
                                rw [mFar_put]
                                show G C (mW (xy C) ma (mFar s (upd (upd g y (nI (F y))) x (nI (F x))))) 0 0 249 [(4, .int (0)), (7, .int (nI (F y + t))), (6, .int (nI (F x + t))), (0, .ref (ma 0)), (1, .int (nI a)), (2, .int (nI b)), (3, .int (cl)), (5, .int (nI e))] []
                                refine g_iinc (v := nI (e + 1)) (L' := [(5, .int (nI (e + 1))), (4, .int (0)), (7, .int (nI (F y + t))), (6, .int (nI (F x + t))), (0, .ref (ma 0)), (1, .int (nI a)), (2, .int (nI b)), (3, .int (cl))]) E dX6_shortest_249 7 rfl (nI_1 e) (by decide) rfl ?_
                                refine g_goto (tgt := 49) E dX6_shortest_252 (by decide) ?_
                                refine g_locals [(0, .ref (ma 0)), (1, .int (nI a)), (2, .int (nI b)), (3, .int (cl)), (4, .int (0)), (5, .int (nI (e + 1)))] [4, 5, 6, 7, 1, 0] rfl ?_
                                have q1 : F y ≤ F x + t := nI_ge_nat (by omega) (by omega) c_182
                                have q2 : F x ≤ F y + t := nI_ge_nat (by omega) (by omega) c_228
                                have q3 : F y ≤ F x + t := Nat.not_lt.mp (fun q => c_130 ((nI_ltI (by omega) (by omega)).mpr q))
                                have q4 : F x ≤ F y + t := nI_ge_nat (by omega) (by omega) c_147
                                refine g_L (L' := [(0, .ref (ma 0)), (1, .int (nI a)), (2, .int (nI b)), (3, .int (cl)), (4, .int (0)), (5, .int (nI (e + 1)))]) (by rfl) (ih_49 (e + 1) (_) (F) (0) (hg_0 hg) (hB) (Or.inl rfl) (fun b hb => Nat.le_trans ((fun b => Nat.le_refl _) b) (hle b hb)) (fun _ => ⟨(hm0 c_113).1, rxd_s (hm0 c_113).2 ex ey et hx hy ht (fun _ => ⟨q1, q2⟩)⟩) (fun q => absurd q (by decide)) (by omega) (by omega))
                              · refine g_iload E dX6_shortest_231 1 rfl ?_
                                refine g_goto (tgt := 248) E dX6_shortest_233 (by decide) ?_
                                refine k_ast_far (s := (mFar s (upd g y (nI (F y))))) E x rfl (by first | omega) dX6_shortest_248 ?_
                                rw [mFar_put]
                                show G C (mW (xy C) ma (mFar s (upd (upd g y (nI (F y))) x (nI (F y + t))))) 0 0 249 [(4, .int (0)), (7, .int (nI (F y + t))), (6, .int (nI (F x + t))), (0, .ref (ma 0)), (1, .int (nI a)), (2, .int (nI b)), (3, .int (cl)), (5, .int (nI e))] []
                                refine g_iinc (v := nI (e + 1)) (L' := [(5, .int (nI (e + 1))), (4, .int (0)), (7, .int (nI (F y + t))), (6, .int (nI (F x + t))), (0, .ref (ma 0)), (1, .int (nI a)), (2, .int (nI b)), (3, .int (cl))]) E dX6_shortest_249 7 rfl (nI_1 e) (by decide) rfl ?_
                                refine g_goto (tgt := 49) E dX6_shortest_252 (by decide) ?_
                                refine g_locals [(0, .ref (ma 0)), (1, .int (nI a)), (2, .int (nI b)), (3, .int (cl)), (4, .int (0)), (5, .int (nI (e + 1)))] [4, 5, 6, 7, 1, 0] rfl ?_
                                have q1 : F y ≤ F x + t := nI_ge_nat (by omega) (by omega) c_182
                                have q2 : F y + t < F x := nI_nge_nat (by omega) (by omega) c_228
                                have q3 : F y ≤ F x + t := Nat.not_lt.mp (fun q => c_130 ((nI_ltI (by omega) (by omega)).mpr q))
                                have q4 : F x ≤ F y + t := nI_ge_nat (by omega) (by omega) c_147
                                exfalso; omega
                            · refine g_iload E dX6_shortest_185 2 rfl ?_
                              refine g_goto (tgt := 202) E dX6_shortest_187 (by decide) ?_
                              refine k_ast_far (s := (mFar s g)) E y rfl (by first | omega) dX6_shortest_202 ?_
                              rw [mFar_put]
                              show G C (mW (xy C) ma (mFar s (upd g y (nI (F x + t))))) 0 0 203 [(4, .int (0)), (7, .int (nI (F y + t))), (6, .int (nI (F x + t))), (0, .ref (ma 0)), (1, .int (nI a)), (2, .int (nI b)), (3, .int (cl)), (5, .int (nI e))] []
                              refine g_aload_n E dX6_shortest_203 rfl 3 rfl ?_
                              refine k_get_far (s := (mFar s (upd g y (nI (F x + t))))) E (fun _ h => (List.mem_cons_of_mem _ (List.mem_append_right _ h))) (List.mem_cons_of_mem _ (List.mem_append_left _ (List.mem_of_getElem? (i := 0) rfl))) dX6_shortest_204 ?_
                              refine g_aload_n E dX6_shortest_207 rfl 3 rfl ?_
                              refine k_get_one (s := (mFar s (upd g y (nI (F x + t))))) E (fun _ h => (List.mem_cons_of_mem _ (List.mem_append_right _ h))) (List.mem_cons_of_mem _ (List.mem_append_left _ (List.mem_of_getElem? (i := 3) rfl))) dX6_shortest_208 ?_
                              refine g_iload E dX6_shortest_211 7 rfl ?_
                              refine k_ald_one (s := (mFar s (upd g y (nI (F x + t))))) E e rfl (by first | omega) dX6_shortest_213 ?_
                              rw [show mr (mFar s (upd g y (nI (F x + t)))) 2 e = nI x from (by rw [mFar_oth (by decide)]; exact ex)]
                              show G C (mW (xy C) ma (mFar s (upd g y (nI (F x + t))))) 0 0 214 [(4, .int (0)), (7, .int (nI (F y + t))), (6, .int (nI (F x + t))), (0, .ref (ma 0)), (1, .int (nI a)), (2, .int (nI b)), (3, .int (cl)), (5, .int (nI e))] [.int (nI x), .ref (ma 26)]
                              refine g_iload E dX6_shortest_214 1 rfl ?_
                              refine g_aload_n E dX6_shortest_216 rfl 3 rfl ?_
                              refine k_get_far (s := (mFar s (upd g y (nI (F x + t))))) E (fun _ h => (List.mem_cons_of_mem _ (List.mem_append_right _ h))) (List.mem_cons_of_mem _ (List.mem_append_left _ (List.mem_of_getElem? (i := 0) rfl))) dX6_shortest_217 ?_
                              refine g_aload_n E dX6_shortest_220 rfl 3 rfl ?_
                              refine k_get_one (s := (mFar s (upd g y (nI (F x + t))))) E (fun _ h => (List.mem_cons_of_mem _ (List.mem_append_right _ h))) (List.mem_cons_of_mem _ (List.mem_append_left _ (List.mem_of_getElem? (i := 3) rfl))) dX6_shortest_221 ?_
                              refine g_iload E dX6_shortest_224 7 rfl ?_
                              refine k_ald_one (s := (mFar s (upd g y (nI (F x + t))))) E e rfl (by first | omega) dX6_shortest_226 ?_
                              rw [show mr (mFar s (upd g y (nI (F x + t)))) 2 e = nI x from (by rw [mFar_oth (by decide)]; exact ex)]
                              show G C (mW (xy C) ma (mFar s (upd g y (nI (F x + t))))) 0 0 227 [(4, .int (0)), (7, .int (nI (F y + t))), (6, .int (nI (F x + t))), (0, .ref (ma 0)), (1, .int (nI a)), (2, .int (nI b)), (3, .int (cl)), (5, .int (nI e))] [.int (nI x), .ref (ma 26), .int (nI (F y + t)), .int (nI x), .ref (ma 26)]
                              refine k_ald_far (s := (mFar s (upd g y (nI (F x + t))))) E x rfl (by first | omega) dX6_shortest_227 ?_
                              rw [show mr (mFar s (upd g y (nI (F x + t)))) 26 x = nI (F x) from (by rw [mFar_far, upd_o hxy]; exact hg x hx)]
                              show G C (mW (xy C) ma (mFar s (upd g y (nI (F x + t))))) 0 0 228 [(4, .int (0)), (7, .int (nI (F y + t))), (6, .int (nI (F x + t))), (0, .ref (ma 0)), (1, .int (nI a)), (2, .int (nI b)), (3, .int (cl)), (5, .int (nI e))] [.int (nI (F x)), .int (nI (F y + t)), .int (nI x), .ref (ma 26)]
                              refine g_icmp_ge (tgt := 236) E dX6_shortest_228 (by decide) (fun c_228 => ?_) (fun c_228 => ?_)
                              · refine g_aload_n E dX6_shortest_236 rfl 3 rfl ?_
                                refine k_get_far (s := (mFar s (upd g y (nI (F x + t))))) E (fun _ h => (List.mem_cons_of_mem _ (List.mem_append_right _ h))) (List.mem_cons_of_mem _ (List.mem_append_left _ (List.mem_of_getElem? (i := 0) rfl))) dX6_shortest_237 ?_
                                refine g_aload_n E dX6_shortest_240 rfl 3 rfl ?_
                                refine k_get_one (s := (mFar s (upd g y (nI (F x + t))))) E (fun _ h => (List.mem_cons_of_mem _ (List.mem_append_right _ h))) (List.mem_cons_of_mem _ (List.mem_append_left _ (List.mem_of_getElem? (i := 3) rfl))) dX6_shortest_241 ?_
                                refine g_iload E dX6_shortest_244 7 rfl ?_
                                refine k_ald_one (s := (mFar s (upd g y (nI (F x + t))))) E e rfl (by first | omega) dX6_shortest_246 ?_
                                rw [show mr (mFar s (upd g y (nI (F x + t)))) 2 e = nI x from (by rw [mFar_oth (by decide)]; exact ex)]
                                show G C (mW (xy C) ma (mFar s (upd g y (nI (F x + t))))) 0 0 247 [(4, .int (0)), (7, .int (nI (F y + t))), (6, .int (nI (F x + t))), (0, .ref (ma 0)), (1, .int (nI a)), (2, .int (nI b)), (3, .int (cl)), (5, .int (nI e))] [.int (nI x), .ref (ma 26), .int (nI x), .ref (ma 26)]
                                refine k_ald_far (s := (mFar s (upd g y (nI (F x + t))))) E x rfl (by first | omega) dX6_shortest_247 ?_
                                rw [show mr (mFar s (upd g y (nI (F x + t)))) 26 x = nI (F x) from (by rw [mFar_far, upd_o hxy]; exact hg x hx)]
                                show G C (mW (xy C) ma (mFar s (upd g y (nI (F x + t))))) 0 0 248 [(4, .int (0)), (7, .int (nI (F y + t))), (6, .int (nI (F x + t))), (0, .ref (ma 0)), (1, .int (nI a)), (2, .int (nI b)), (3, .int (cl)), (5, .int (nI e))] [.int (nI (F x)), .int (nI x), .ref (ma 26)]
                                refine k_ast_far (s := (mFar s (upd g y (nI (F x + t))))) E x rfl (by first | omega) dX6_shortest_248 ?_
                                rw [mFar_put]
                                show G C (mW (xy C) ma (mFar s (upd (upd g y (nI (F x + t))) x (nI (F x))))) 0 0 249 [(4, .int (0)), (7, .int (nI (F y + t))), (6, .int (nI (F x + t))), (0, .ref (ma 0)), (1, .int (nI a)), (2, .int (nI b)), (3, .int (cl)), (5, .int (nI e))] []
                                refine g_iinc (v := nI (e + 1)) (L' := [(5, .int (nI (e + 1))), (4, .int (0)), (7, .int (nI (F y + t))), (6, .int (nI (F x + t))), (0, .ref (ma 0)), (1, .int (nI a)), (2, .int (nI b)), (3, .int (cl))]) E dX6_shortest_249 7 rfl (nI_1 e) (by decide) rfl ?_
                                refine g_goto (tgt := 49) E dX6_shortest_252 (by decide) ?_
                                refine g_locals [(0, .ref (ma 0)), (1, .int (nI a)), (2, .int (nI b)), (3, .int (cl)), (4, .int (0)), (5, .int (nI (e + 1)))] [4, 5, 6, 7, 1, 0] rfl ?_
                                have q1 : F x + t < F y := nI_nge_nat (by omega) (by omega) c_182
                                have q2 : F x ≤ F y + t := nI_ge_nat (by omega) (by omega) c_228
                                have q3 : F y ≤ F x + t := Nat.not_lt.mp (fun q => c_130 ((nI_ltI (by omega) (by omega)).mpr q))
                                have q4 : F x ≤ F y + t := nI_ge_nat (by omega) (by omega) c_147
                                exfalso; omega
                              · refine g_iload E dX6_shortest_231 1 rfl ?_
                                refine g_goto (tgt := 248) E dX6_shortest_233 (by decide) ?_
                                refine k_ast_far (s := (mFar s (upd g y (nI (F x + t))))) E x rfl (by first | omega) dX6_shortest_248 ?_
                                rw [mFar_put]
                                show G C (mW (xy C) ma (mFar s (upd (upd g y (nI (F x + t))) x (nI (F y + t))))) 0 0 249 [(4, .int (0)), (7, .int (nI (F y + t))), (6, .int (nI (F x + t))), (0, .ref (ma 0)), (1, .int (nI a)), (2, .int (nI b)), (3, .int (cl)), (5, .int (nI e))] []
                                refine g_iinc (v := nI (e + 1)) (L' := [(5, .int (nI (e + 1))), (4, .int (0)), (7, .int (nI (F y + t))), (6, .int (nI (F x + t))), (0, .ref (ma 0)), (1, .int (nI a)), (2, .int (nI b)), (3, .int (cl))]) E dX6_shortest_249 7 rfl (nI_1 e) (by decide) rfl ?_
                                refine g_goto (tgt := 49) E dX6_shortest_252 (by decide) ?_
                                refine g_locals [(0, .ref (ma 0)), (1, .int (nI a)), (2, .int (nI b)), (3, .int (cl)), (4, .int (0)), (5, .int (nI (e + 1)))] [4, 5, 6, 7, 1, 0] rfl ?_
                                have q1 : F x + t < F y := nI_nge_nat (by omega) (by omega) c_182
                                have q2 : F y + t < F x := nI_nge_nat (by omega) (by omega) c_228
                                have q3 : F y ≤ F x + t := Nat.not_lt.mp (fun q => c_130 ((nI_ltI (by omega) (by omega)).mpr q))
                                have q4 : F x ≤ F y + t := nI_ge_nat (by omega) (by omega) c_147
                                exfalso; omega
                          · refine g_iconst (v := 1) E dX6_shortest_150 (by decide) ?_
                            refine g_goto (tgt := 155) E dX6_shortest_151 (by decide) ?_
                            refine g_istore (L' := [(4, .int (1)), (7, .int (nI (F y + t))), (6, .int (nI (F x + t))), (0, .ref (ma 0)), (1, .int (nI a)), (2, .int (nI b)), (3, .int (cl)), (5, .int (nI e))]) E dX6_shortest_155 (by decide) rfl ?_
                            refine g_aload_n E dX6_shortest_157 rfl 3 rfl ?_
                            refine k_get_far (s := (mFar s g)) E (fun _ h => (List.mem_cons_of_mem _ (List.mem_append_right _ h))) (List.mem_cons_of_mem _ (List.mem_append_left _ (List.mem_of_getElem? (i := 0) rfl))) dX6_shortest_158 ?_
                            refine g_aload_n E dX6_shortest_161 rfl 3 rfl ?_
                            refine k_get_other (s := (mFar s g)) E (fun _ h => (List.mem_cons_of_mem _ (List.mem_append_right _ h))) (List.mem_cons_of_mem _ (List.mem_append_left _ (List.mem_of_getElem? (i := 5) rfl))) dX6_shortest_162 ?_
                            refine g_iload E dX6_shortest_165 7 rfl ?_
                            refine k_ald_other (s := (mFar s g)) E e rfl (by first | omega) dX6_shortest_167 ?_
                            rw [show mr (mFar s g) 3 e = nI y from (by rw [mFar_oth (by decide)]; exact ey)]
                            show G C (mW (xy C) ma (mFar s g)) 0 0 168 [(4, .int (1)), (7, .int (nI (F y + t))), (6, .int (nI (F x + t))), (0, .ref (ma 0)), (1, .int (nI a)), (2, .int (nI b)), (3, .int (cl)), (5, .int (nI e))] [.int (nI y), .ref (ma 26)]
                            refine g_iload E dX6_shortest_168 2 rfl ?_
                            refine g_aload_n E dX6_shortest_170 rfl 3 rfl ?_
                            refine k_get_far (s := (mFar s g)) E (fun _ h => (List.mem_cons_of_mem _ (List.mem_append_right _ h))) (List.mem_cons_of_mem _ (List.mem_append_left _ (List.mem_of_getElem? (i := 0) rfl))) dX6_shortest_171 ?_
                            refine g_aload_n E dX6_shortest_174 rfl 3 rfl ?_
                            refine k_get_other (s := (mFar s g)) E (fun _ h => (List.mem_cons_of_mem _ (List.mem_append_right _ h))) (List.mem_cons_of_mem _ (List.mem_append_left _ (List.mem_of_getElem? (i := 5) rfl))) dX6_shortest_175 ?_
                            refine g_iload E dX6_shortest_178 7 rfl ?_
                            refine k_ald_other (s := (mFar s g)) E e rfl (by first | omega) dX6_shortest_180 ?_
                            rw [show mr (mFar s g) 3 e = nI y from (by rw [mFar_oth (by decide)]; exact ey)]
                            show G C (mW (xy C) ma (mFar s g)) 0 0 181 [(4, .int (1)), (7, .int (nI (F y + t))), (6, .int (nI (F x + t))), (0, .ref (ma 0)), (1, .int (nI a)), (2, .int (nI b)), (3, .int (cl)), (5, .int (nI e))] [.int (nI y), .ref (ma 26), .int (nI (F x + t)), .int (nI y), .ref (ma 26)]
                            refine k_ald_far (s := (mFar s g)) E y rfl (by first | omega) dX6_shortest_181 ?_
                            rw [show mr (mFar s g) 26 y = nI (F y) from (by rw [mFar_far]; exact hg y hy)]
                            show G C (mW (xy C) ma (mFar s g)) 0 0 182 [(4, .int (1)), (7, .int (nI (F y + t))), (6, .int (nI (F x + t))), (0, .ref (ma 0)), (1, .int (nI a)), (2, .int (nI b)), (3, .int (cl)), (5, .int (nI e))] [.int (nI (F y)), .int (nI (F x + t)), .int (nI y), .ref (ma 26)]
                            refine g_icmp_ge (tgt := 190) E dX6_shortest_182 (by decide) (fun c_182 => ?_) (fun c_182 => ?_)
                            · refine g_aload_n E dX6_shortest_190 rfl 3 rfl ?_
                              refine k_get_far (s := (mFar s g)) E (fun _ h => (List.mem_cons_of_mem _ (List.mem_append_right _ h))) (List.mem_cons_of_mem _ (List.mem_append_left _ (List.mem_of_getElem? (i := 0) rfl))) dX6_shortest_191 ?_
                              refine g_aload_n E dX6_shortest_194 rfl 3 rfl ?_
                              refine k_get_other (s := (mFar s g)) E (fun _ h => (List.mem_cons_of_mem _ (List.mem_append_right _ h))) (List.mem_cons_of_mem _ (List.mem_append_left _ (List.mem_of_getElem? (i := 5) rfl))) dX6_shortest_195 ?_
                              refine g_iload E dX6_shortest_198 7 rfl ?_
                              refine k_ald_other (s := (mFar s g)) E e rfl (by first | omega) dX6_shortest_200 ?_
                              rw [show mr (mFar s g) 3 e = nI y from (by rw [mFar_oth (by decide)]; exact ey)]
                              show G C (mW (xy C) ma (mFar s g)) 0 0 201 [(4, .int (1)), (7, .int (nI (F y + t))), (6, .int (nI (F x + t))), (0, .ref (ma 0)), (1, .int (nI a)), (2, .int (nI b)), (3, .int (cl)), (5, .int (nI e))] [.int (nI y), .ref (ma 26), .int (nI y), .ref (ma 26)]
                              refine k_ald_far (s := (mFar s g)) E y rfl (by first | omega) dX6_shortest_201 ?_
                              rw [show mr (mFar s g) 26 y = nI (F y) from (by rw [mFar_far]; exact hg y hy)]
                              show G C (mW (xy C) ma (mFar s g)) 0 0 202 [(4, .int (1)), (7, .int (nI (F y + t))), (6, .int (nI (F x + t))), (0, .ref (ma 0)), (1, .int (nI a)), (2, .int (nI b)), (3, .int (cl)), (5, .int (nI e))] [.int (nI (F y)), .int (nI y), .ref (ma 26)]
                              refine k_ast_far (s := (mFar s g)) E y rfl (by first | omega) dX6_shortest_202 ?_
                              rw [mFar_put]
                              show G C (mW (xy C) ma (mFar s (upd g y (nI (F y))))) 0 0 203 [(4, .int (1)), (7, .int (nI (F y + t))), (6, .int (nI (F x + t))), (0, .ref (ma 0)), (1, .int (nI a)), (2, .int (nI b)), (3, .int (cl)), (5, .int (nI e))] []
                              refine g_aload_n E dX6_shortest_203 rfl 3 rfl ?_
                              refine k_get_far (s := (mFar s (upd g y (nI (F y))))) E (fun _ h => (List.mem_cons_of_mem _ (List.mem_append_right _ h))) (List.mem_cons_of_mem _ (List.mem_append_left _ (List.mem_of_getElem? (i := 0) rfl))) dX6_shortest_204 ?_
                              refine g_aload_n E dX6_shortest_207 rfl 3 rfl ?_
                              refine k_get_one (s := (mFar s (upd g y (nI (F y))))) E (fun _ h => (List.mem_cons_of_mem _ (List.mem_append_right _ h))) (List.mem_cons_of_mem _ (List.mem_append_left _ (List.mem_of_getElem? (i := 3) rfl))) dX6_shortest_208 ?_
                              refine g_iload E dX6_shortest_211 7 rfl ?_
                              refine k_ald_one (s := (mFar s (upd g y (nI (F y))))) E e rfl (by first | omega) dX6_shortest_213 ?_
                              rw [show mr (mFar s (upd g y (nI (F y)))) 2 e = nI x from (by rw [mFar_oth (by decide)]; exact ex)]
                              show G C (mW (xy C) ma (mFar s (upd g y (nI (F y))))) 0 0 214 [(4, .int (1)), (7, .int (nI (F y + t))), (6, .int (nI (F x + t))), (0, .ref (ma 0)), (1, .int (nI a)), (2, .int (nI b)), (3, .int (cl)), (5, .int (nI e))] [.int (nI x), .ref (ma 26)]
                              refine g_iload E dX6_shortest_214 1 rfl ?_
                              refine g_aload_n E dX6_shortest_216 rfl 3 rfl ?_
                              refine k_get_far (s := (mFar s (upd g y (nI (F y))))) E (fun _ h => (List.mem_cons_of_mem _ (List.mem_append_right _ h))) (List.mem_cons_of_mem _ (List.mem_append_left _ (List.mem_of_getElem? (i := 0) rfl))) dX6_shortest_217 ?_
                              refine g_aload_n E dX6_shortest_220 rfl 3 rfl ?_
                              refine k_get_one (s := (mFar s (upd g y (nI (F y))))) E (fun _ h => (List.mem_cons_of_mem _ (List.mem_append_right _ h))) (List.mem_cons_of_mem _ (List.mem_append_left _ (List.mem_of_getElem? (i := 3) rfl))) dX6_shortest_221 ?_
                              refine g_iload E dX6_shortest_224 7 rfl ?_
                              refine k_ald_one (s := (mFar s (upd g y (nI (F y))))) E e rfl (by first | omega) dX6_shortest_226 ?_
                              rw [show mr (mFar s (upd g y (nI (F y)))) 2 e = nI x from (by rw [mFar_oth (by decide)]; exact ex)]
                              show G C (mW (xy C) ma (mFar s (upd g y (nI (F y))))) 0 0 227 [(4, .int (1)), (7, .int (nI (F y + t))), (6, .int (nI (F x + t))), (0, .ref (ma 0)), (1, .int (nI a)), (2, .int (nI b)), (3, .int (cl)), (5, .int (nI e))] [.int (nI x), .ref (ma 26), .int (nI (F y + t)), .int (nI x), .ref (ma 26)]
                              refine k_ald_far (s := (mFar s (upd g y (nI (F y))))) E x rfl (by first | omega) dX6_shortest_227 ?_
                              rw [show mr (mFar s (upd g y (nI (F y)))) 26 x = nI (F x) from (by rw [mFar_far, upd_o hxy]; exact hg x hx)]
                              show G C (mW (xy C) ma (mFar s (upd g y (nI (F y))))) 0 0 228 [(4, .int (1)), (7, .int (nI (F y + t))), (6, .int (nI (F x + t))), (0, .ref (ma 0)), (1, .int (nI a)), (2, .int (nI b)), (3, .int (cl)), (5, .int (nI e))] [.int (nI (F x)), .int (nI (F y + t)), .int (nI x), .ref (ma 26)]
                              refine g_icmp_ge (tgt := 236) E dX6_shortest_228 (by decide) (fun c_228 => ?_) (fun c_228 => ?_)
                              · refine g_aload_n E dX6_shortest_236 rfl 3 rfl ?_
                                refine k_get_far (s := (mFar s (upd g y (nI (F y))))) E (fun _ h => (List.mem_cons_of_mem _ (List.mem_append_right _ h))) (List.mem_cons_of_mem _ (List.mem_append_left _ (List.mem_of_getElem? (i := 0) rfl))) dX6_shortest_237 ?_
                                refine g_aload_n E dX6_shortest_240 rfl 3 rfl ?_
                                refine k_get_one (s := (mFar s (upd g y (nI (F y))))) E (fun _ h => (List.mem_cons_of_mem _ (List.mem_append_right _ h))) (List.mem_cons_of_mem _ (List.mem_append_left _ (List.mem_of_getElem? (i := 3) rfl))) dX6_shortest_241 ?_
                                refine g_iload E dX6_shortest_244 7 rfl ?_
                                refine k_ald_one (s := (mFar s (upd g y (nI (F y))))) E e rfl (by first | omega) dX6_shortest_246 ?_
                                rw [show mr (mFar s (upd g y (nI (F y)))) 2 e = nI x from (by rw [mFar_oth (by decide)]; exact ex)]
                                show G C (mW (xy C) ma (mFar s (upd g y (nI (F y))))) 0 0 247 [(4, .int (1)), (7, .int (nI (F y + t))), (6, .int (nI (F x + t))), (0, .ref (ma 0)), (1, .int (nI a)), (2, .int (nI b)), (3, .int (cl)), (5, .int (nI e))] [.int (nI x), .ref (ma 26), .int (nI x), .ref (ma 26)]
                                refine k_ald_far (s := (mFar s (upd g y (nI (F y))))) E x rfl (by first | omega) dX6_shortest_247 ?_
                                rw [show mr (mFar s (upd g y (nI (F y)))) 26 x = nI (F x) from (by rw [mFar_far, upd_o hxy]; exact hg x hx)]
                                show G C (mW (xy C) ma (mFar s (upd g y (nI (F y))))) 0 0 248 [(4, .int (1)), (7, .int (nI (F y + t))), (6, .int (nI (F x + t))), (0, .ref (ma 0)), (1, .int (nI a)), (2, .int (nI b)), (3, .int (cl)), (5, .int (nI e))] [.int (nI (F x)), .int (nI x), .ref (ma 26)]
                                refine k_ast_far (s := (mFar s (upd g y (nI (F y))))) E x rfl (by first | omega) dX6_shortest_248 ?_
                                rw [mFar_put]
                                show G C (mW (xy C) ma (mFar s (upd (upd g y (nI (F y))) x (nI (F x))))) 0 0 249 [(4, .int (1)), (7, .int (nI (F y + t))), (6, .int (nI (F x + t))), (0, .ref (ma 0)), (1, .int (nI a)), (2, .int (nI b)), (3, .int (cl)), (5, .int (nI e))] []
                                refine g_iinc (v := nI (e + 1)) (L' := [(5, .int (nI (e + 1))), (4, .int (1)), (7, .int (nI (F y + t))), (6, .int (nI (F x + t))), (0, .ref (ma 0)), (1, .int (nI a)), (2, .int (nI b)), (3, .int (cl))]) E dX6_shortest_249 7 rfl (nI_1 e) (by decide) rfl ?_
                                refine g_goto (tgt := 49) E dX6_shortest_252 (by decide) ?_
                                refine g_locals [(0, .ref (ma 0)), (1, .int (nI a)), (2, .int (nI b)), (3, .int (cl)), (4, .int (1)), (5, .int (nI (e + 1)))] [4, 5, 6, 7, 1, 0] rfl ?_
                                have q1 : F y ≤ F x + t := nI_ge_nat (by omega) (by omega) c_182
                                have q2 : F x ≤ F y + t := nI_ge_nat (by omega) (by omega) c_228
                                have q3 : F y ≤ F x + t := Nat.not_lt.mp (fun q => c_130 ((nI_ltI (by omega) (by omega)).mpr q))
                                have q4 : F y + t < F x := nI_nge_nat (by omega) (by omega) c_147
                                exfalso; omega
                              · refine g_iload E dX6_shortest_231 1 rfl ?_
                                refine g_goto (tgt := 248) E dX6_shortest_233 (by decide) ?_
                                refine k_ast_far (s := (mFar s (upd g y (nI (F y))))) E x rfl (by first | omega) dX6_shortest_248 ?_
                                rw [mFar_put]
                                show G C (mW (xy C) ma (mFar s (upd (upd g y (nI (F y))) x (nI (F y + t))))) 0 0 249 [(4, .int (1)), (7, .int (nI (F y + t))), (6, .int (nI (F x + t))), (0, .ref (ma 0)), (1, .int (nI a)), (2, .int (nI b)), (3, .int (cl)), (5, .int (nI e))] []
                                refine g_iinc (v := nI (e + 1)) (L' := [(5, .int (nI (e + 1))), (4, .int (1)), (7, .int (nI (F y + t))), (6, .int (nI (F x + t))), (0, .ref (ma 0)), (1, .int (nI a)), (2, .int (nI b)), (3, .int (cl))]) E dX6_shortest_249 7 rfl (nI_1 e) (by decide) rfl ?_
                                refine g_goto (tgt := 49) E dX6_shortest_252 (by decide) ?_
                                refine g_locals [(0, .ref (ma 0)), (1, .int (nI a)), (2, .int (nI b)), (3, .int (cl)), (4, .int (1)), (5, .int (nI (e + 1)))] [4, 5, 6, 7, 1, 0] rfl ?_
                                have q1 : F y ≤ F x + t := nI_ge_nat (by omega) (by omega) c_182
                                have q2 : F y + t < F x := nI_nge_nat (by omega) (by omega) c_228
                                have q3 : F y ≤ F x + t := Nat.not_lt.mp (fun q => c_130 ((nI_ltI (by omega) (by omega)).mpr q))
                                have q4 : F y + t < F x := nI_nge_nat (by omega) (by omega) c_147
                                refine g_L (L' := [(0, .ref (ma 0)), (1, .int (nI a)), (2, .int (nI b)), (3, .int (cl)), (4, .int (1)), (5, .int (nI (e + 1)))]) (by rfl) (ih_49 (e + 1) (_) ((setF F x (F y + t))) (1) (hg_x hg) (bfI_rlx hB hy hx ⟨e, hl_l, (opn_bit (by omega)).mp c_64, et, ht, hy, hx, Or.inr ⟨ex, ey⟩⟩ rfl q2) (Or.inr rfl) (fun b hb => Nat.le_trans (setF_le (by omega) b) (hle b hb)) (fun q => absurd q (by decide)) (fun _ => Nat.lt_of_lt_of_le (sm10_lt (fun b _ => setF_le (by omega) b) hx (show setF F x (F y + t) x < F x by unfold setF; rw [if_pos rfl]; exact q2)) (sm10_le hle)) (by omega) (by omega))
                            · refine g_iload E dX6_shortest_185 2 rfl ?_
                              refine g_goto (tgt := 202) E dX6_shortest_187 (by decide) ?_
                              refine k_ast_far (s := (mFar s g)) E y rfl (by first | omega) dX6_shortest_202 ?_
                              rw [mFar_put]
                              show G C (mW (xy C) ma (mFar s (upd g y (nI (F x + t))))) 0 0 203 [(4, .int (1)), (7, .int (nI (F y + t))), (6, .int (nI (F x + t))), (0, .ref (ma 0)), (1, .int (nI a)), (2, .int (nI b)), (3, .int (cl)), (5, .int (nI e))] []
                              refine g_aload_n E dX6_shortest_203 rfl 3 rfl ?_
                              refine k_get_far (s := (mFar s (upd g y (nI (F x + t))))) E (fun _ h => (List.mem_cons_of_mem _ (List.mem_append_right _ h))) (List.mem_cons_of_mem _ (List.mem_append_left _ (List.mem_of_getElem? (i := 0) rfl))) dX6_shortest_204 ?_
                              refine g_aload_n E dX6_shortest_207 rfl 3 rfl ?_
                              refine k_get_one (s := (mFar s (upd g y (nI (F x + t))))) E (fun _ h => (List.mem_cons_of_mem _ (List.mem_append_right _ h))) (List.mem_cons_of_mem _ (List.mem_append_left _ (List.mem_of_getElem? (i := 3) rfl))) dX6_shortest_208 ?_
                              refine g_iload E dX6_shortest_211 7 rfl ?_
                              refine k_ald_one (s := (mFar s (upd g y (nI (F x + t))))) E e rfl (by first | omega) dX6_shortest_213 ?_
                              rw [show mr (mFar s (upd g y (nI (F x + t)))) 2 e = nI x from (by rw [mFar_oth (by decide)]; exact ex)]
                              show G C (mW (xy C) ma (mFar s (upd g y (nI (F x + t))))) 0 0 214 [(4, .int (1)), (7, .int (nI (F y + t))), (6, .int (nI (F x + t))), (0, .ref (ma 0)), (1, .int (nI a)), (2, .int (nI b)), (3, .int (cl)), (5, .int (nI e))] [.int (nI x), .ref (ma 26)]
                              refine g_iload E dX6_shortest_214 1 rfl ?_
                              refine g_aload_n E dX6_shortest_216 rfl 3 rfl ?_
                              refine k_get_far (s := (mFar s (upd g y (nI (F x + t))))) E (fun _ h => (List.mem_cons_of_mem _ (List.mem_append_right _ h))) (List.mem_cons_of_mem _ (List.mem_append_left _ (List.mem_of_getElem? (i := 0) rfl))) dX6_shortest_217 ?_
                              refine g_aload_n E dX6_shortest_220 rfl 3 rfl ?_
                              refine k_get_one (s := (mFar s (upd g y (nI (F x + t))))) E (fun _ h => (List.mem_cons_of_mem _ (List.mem_append_right _ h))) (List.mem_cons_of_mem _ (List.mem_append_left _ (List.mem_of_getElem? (i := 3) rfl))) dX6_shortest_221 ?_
                              refine g_iload E dX6_shortest_224 7 rfl ?_
                              refine k_ald_one (s := (mFar s (upd g y (nI (F x + t))))) E e rfl (by first | omega) dX6_shortest_226 ?_
                              rw [show mr (mFar s (upd g y (nI (F x + t)))) 2 e = nI x from (by rw [mFar_oth (by decide)]; exact ex)]
                              show G C (mW (xy C) ma (mFar s (upd g y (nI (F x + t))))) 0 0 227 [(4, .int (1)), (7, .int (nI (F y + t))), (6, .int (nI (F x + t))), (0, .ref (ma 0)), (1, .int (nI a)), (2, .int (nI b)), (3, .int (cl)), (5, .int (nI e))] [.int (nI x), .ref (ma 26), .int (nI (F y + t)), .int (nI x), .ref (ma 26)]
                              refine k_ald_far (s := (mFar s (upd g y (nI (F x + t))))) E x rfl (by first | omega) dX6_shortest_227 ?_
                              rw [show mr (mFar s (upd g y (nI (F x + t)))) 26 x = nI (F x) from (by rw [mFar_far, upd_o hxy]; exact hg x hx)]
                              show G C (mW (xy C) ma (mFar s (upd g y (nI (F x + t))))) 0 0 228 [(4, .int (1)), (7, .int (nI (F y + t))), (6, .int (nI (F x + t))), (0, .ref (ma 0)), (1, .int (nI a)), (2, .int (nI b)), (3, .int (cl)), (5, .int (nI e))] [.int (nI (F x)), .int (nI (F y + t)), .int (nI x), .ref (ma 26)]
                              refine g_icmp_ge (tgt := 236) E dX6_shortest_228 (by decide) (fun c_228 => ?_) (fun c_228 => ?_)
                              · refine g_aload_n E dX6_shortest_236 rfl 3 rfl ?_
                                refine k_get_far (s := (mFar s (upd g y (nI (F x + t))))) E (fun _ h => (List.mem_cons_of_mem _ (List.mem_append_right _ h))) (List.mem_cons_of_mem _ (List.mem_append_left _ (List.mem_of_getElem? (i := 0) rfl))) dX6_shortest_237 ?_
                                refine g_aload_n E dX6_shortest_240 rfl 3 rfl ?_
                                refine k_get_one (s := (mFar s (upd g y (nI (F x + t))))) E (fun _ h => (List.mem_cons_of_mem _ (List.mem_append_right _ h))) (List.mem_cons_of_mem _ (List.mem_append_left _ (List.mem_of_getElem? (i := 3) rfl))) dX6_shortest_241 ?_
                                refine g_iload E dX6_shortest_244 7 rfl ?_
                                refine k_ald_one (s := (mFar s (upd g y (nI (F x + t))))) E e rfl (by first | omega) dX6_shortest_246 ?_
                                rw [show mr (mFar s (upd g y (nI (F x + t)))) 2 e = nI x from (by rw [mFar_oth (by decide)]; exact ex)]
                                show G C (mW (xy C) ma (mFar s (upd g y (nI (F x + t))))) 0 0 247 [(4, .int (1)), (7, .int (nI (F y + t))), (6, .int (nI (F x + t))), (0, .ref (ma 0)), (1, .int (nI a)), (2, .int (nI b)), (3, .int (cl)), (5, .int (nI e))] [.int (nI x), .ref (ma 26), .int (nI x), .ref (ma 26)]
                                refine k_ald_far (s := (mFar s (upd g y (nI (F x + t))))) E x rfl (by first | omega) dX6_shortest_247 ?_
                                rw [show mr (mFar s (upd g y (nI (F x + t)))) 26 x = nI (F x) from (by rw [mFar_far, upd_o hxy]; exact hg x hx)]
                                show G C (mW (xy C) ma (mFar s (upd g y (nI (F x + t))))) 0 0 248 [(4, .int (1)), (7, .int (nI (F y + t))), (6, .int (nI (F x + t))), (0, .ref (ma 0)), (1, .int (nI a)), (2, .int (nI b)), (3, .int (cl)), (5, .int (nI e))] [.int (nI (F x)), .int (nI x), .ref (ma 26)]
                                refine k_ast_far (s := (mFar s (upd g y (nI (F x + t))))) E x rfl (by first | omega) dX6_shortest_248 ?_
                                rw [mFar_put]
                                show G C (mW (xy C) ma (mFar s (upd (upd g y (nI (F x + t))) x (nI (F x))))) 0 0 249 [(4, .int (1)), (7, .int (nI (F y + t))), (6, .int (nI (F x + t))), (0, .ref (ma 0)), (1, .int (nI a)), (2, .int (nI b)), (3, .int (cl)), (5, .int (nI e))] []
                                refine g_iinc (v := nI (e + 1)) (L' := [(5, .int (nI (e + 1))), (4, .int (1)), (7, .int (nI (F y + t))), (6, .int (nI (F x + t))), (0, .ref (ma 0)), (1, .int (nI a)), (2, .int (nI b)), (3, .int (cl))]) E dX6_shortest_249 7 rfl (nI_1 e) (by decide) rfl ?_
                                refine g_goto (tgt := 49) E dX6_shortest_252 (by decide) ?_
                                refine g_locals [(0, .ref (ma 0)), (1, .int (nI a)), (2, .int (nI b)), (3, .int (cl)), (4, .int (1)), (5, .int (nI (e + 1)))] [4, 5, 6, 7, 1, 0] rfl ?_
                                have q1 : F x + t < F y := nI_nge_nat (by omega) (by omega) c_182
                                have q2 : F x ≤ F y + t := nI_ge_nat (by omega) (by omega) c_228
                                have q3 : F y ≤ F x + t := Nat.not_lt.mp (fun q => c_130 ((nI_ltI (by omega) (by omega)).mpr q))
                                have q4 : F y + t < F x := nI_nge_nat (by omega) (by omega) c_147
                                refine g_L (L' := [(0, .ref (ma 0)), (1, .int (nI a)), (2, .int (nI b)), (3, .int (cl)), (4, .int (1)), (5, .int (nI (e + 1)))]) (by rfl) (ih_49 (e + 1) (_) ((setF F y (F x + t))) (1) (hg_y hxy hg) (bfI_rlx hB hx hy ⟨e, hl_l, (opn_bit (by omega)).mp c_64, et, ht, hx, hy, Or.inl ⟨ex, ey⟩⟩ rfl q1) (Or.inr rfl) (fun b hb => Nat.le_trans (setF_le (by omega) b) (hle b hb)) (fun q => absurd q (by decide)) (fun _ => Nat.lt_of_lt_of_le (sm10_lt (fun b _ => setF_le (by omega) b) hy (show setF F y (F x + t) y < F y by unfold setF; rw [if_pos rfl]; exact q1)) (sm10_le hle)) (by omega) (by omega))
                              · refine g_iload E dX6_shortest_231 1 rfl ?_
                                refine g_goto (tgt := 248) E dX6_shortest_233 (by decide) ?_
                                refine k_ast_far (s := (mFar s (upd g y (nI (F x + t))))) E x rfl (by first | omega) dX6_shortest_248 ?_
                                rw [mFar_put]
                                show G C (mW (xy C) ma (mFar s (upd (upd g y (nI (F x + t))) x (nI (F y + t))))) 0 0 249 [(4, .int (1)), (7, .int (nI (F y + t))), (6, .int (nI (F x + t))), (0, .ref (ma 0)), (1, .int (nI a)), (2, .int (nI b)), (3, .int (cl)), (5, .int (nI e))] []
                                refine g_iinc (v := nI (e + 1)) (L' := [(5, .int (nI (e + 1))), (4, .int (1)), (7, .int (nI (F y + t))), (6, .int (nI (F x + t))), (0, .ref (ma 0)), (1, .int (nI a)), (2, .int (nI b)), (3, .int (cl))]) E dX6_shortest_249 7 rfl (nI_1 e) (by decide) rfl ?_
                                refine g_goto (tgt := 49) E dX6_shortest_252 (by decide) ?_
                                refine g_locals [(0, .ref (ma 0)), (1, .int (nI a)), (2, .int (nI b)), (3, .int (cl)), (4, .int (1)), (5, .int (nI (e + 1)))] [4, 5, 6, 7, 1, 0] rfl ?_
                                have q1 : F x + t < F y := nI_nge_nat (by omega) (by omega) c_182
                                have q2 : F y + t < F x := nI_nge_nat (by omega) (by omega) c_228
                                have q3 : F y ≤ F x + t := Nat.not_lt.mp (fun q => c_130 ((nI_ltI (by omega) (by omega)).mpr q))
                                have q4 : F y + t < F x := nI_nge_nat (by omega) (by omega) c_147
                                exfalso; omega
              exact loop_49 (M + 1) 0 (g) (F) (0) (hg) (hB) (Or.inl rfl) (fun b _ => by rw [hF0]; exact Nat.le_refl _) (fun _ => ⟨hF0.symm, fun e h => absurd h (Nat.not_lt_zero e)⟩) (fun q => absurd q (by decide)) (by omega) (by omega)
        exact loop_38 (2 * sm10 (fun b => if b = a then 0 else FAR) + 2) g _ 1 (fun b hb => hi b (by omega)) bfI_0 (Or.inr rfl) (fun q => absurd q (by decide)) (by rw [if_neg (by decide)]; omega)
      · have hj10 : q < 10 := nI_nge_nat (b := 10) (by decide) (by omega) c_7
        refine g_aload_n E dX6_shortest_10 rfl 0 rfl ?_
        refine k_get_far (s := (mFar s g)) E (fun _ h => (List.mem_cons_of_mem _ (List.mem_append_right _ h))) (List.mem_cons_of_mem _ (List.mem_append_left _ (List.mem_of_getElem? (i := 0) rfl))) dX6_shortest_11 ?_
        refine g_iload E dX6_shortest_14 4 rfl ?_
        refine g_iload E dX6_shortest_16 4 rfl ?_
        refine g_iload_n E dX6_shortest_18 rfl 1 rfl ?_
        refine g_icmp_ne (tgt := 26) E dX6_shortest_19 (by decide) (fun c_19 => ?_) (fun c_19 => ?_)
        · refine g_ldc E (List.mem_cons_of_mem _ (List.mem_append_left _ (List.mem_of_getElem? (i := 1) rfl))) dX6_shortest_26 ?_
          refine k_ast_far (s := (mFar s g)) E q rfl (by first | omega) dX6_shortest_28 ?_
          rw [mFar_put]
          show G C (mW (xy C) ma (mFar s (upd g q ((1000000))))) 0 0 29 [(0, .ref (ma 0)), (1, .int (nI a)), (2, .int (nI b)), (3, .int (cl)), (4, .int (nI q))] []
          refine g_iinc (v := nI (q + 1)) (L' := [(4, .int (nI (q + 1))), (0, .ref (ma 0)), (1, .int (nI a)), (2, .int (nI b)), (3, .int (cl))]) E dX6_shortest_29 4 rfl (nI_1 q) (by decide) rfl ?_
          refine g_goto (tgt := 3) E dX6_shortest_32 (by decide) ?_
          refine g_locals [(0, .ref (ma 0)), (1, .int (nI a)), (2, .int (nI b)), (3, .int (cl)), (4, .int (nI (q + 1)))] [1, 2, 3, 4, 0] rfl ?_
          refine g_L (L' := [(0, .ref (ma 0)), (1, .int (nI a)), (2, .int (nI b)), (3, .int (cl)), (4, .int (nI (q + 1)))]) (by rfl) (ih_3 (q + 1) (_) (fun b h => by
              by_cases z : b = q
              · rw [z, show ∀ v, upd g q v q = v from fun v => if_pos rfl]; exact (by rw [if_neg (fun z2 => c_19 (congrArg nI z2))]; rfl)
              · rw [upd_o z]; exact hi b (by omega)) (by omega) (by omega))
        · refine g_iconst (v := 0) E dX6_shortest_22 (by decide) ?_
          refine g_goto (tgt := 28) E dX6_shortest_23 (by decide) ?_
          refine k_ast_far (s := (mFar s g)) E q rfl (by first | omega) dX6_shortest_28 ?_
          rw [mFar_put]
          show G C (mW (xy C) ma (mFar s (upd g q (0)))) 0 0 29 [(0, .ref (ma 0)), (1, .int (nI a)), (2, .int (nI b)), (3, .int (cl)), (4, .int (nI q))] []
          refine g_iinc (v := nI (q + 1)) (L' := [(4, .int (nI (q + 1))), (0, .ref (ma 0)), (1, .int (nI a)), (2, .int (nI b)), (3, .int (cl))]) E dX6_shortest_29 4 rfl (nI_1 q) (by decide) rfl ?_
          refine g_goto (tgt := 3) E dX6_shortest_32 (by decide) ?_
          refine g_locals [(0, .ref (ma 0)), (1, .int (nI a)), (2, .int (nI b)), (3, .int (cl)), (4, .int (nI (q + 1)))] [1, 2, 3, 4, 0] rfl ?_
          refine g_L (L' := [(0, .ref (ma 0)), (1, .int (nI a)), (2, .int (nI b)), (3, .int (cl)), (4, .int (nI (q + 1)))]) (by rfl) (ih_3 (q + 1) (_) (fun b h => by
              by_cases z : b = q
              · rw [z, show ∀ v, upd g q v q = v from fun v => if_pos rfl]; exact (by rw [if_pos (nI_inj (by omega) (by omega) c_19)]; rfl)
              · rw [upd_o z]; exact hi b (by omega)) (by omega) (by omega))
  exact loop_3 (10 + 1) 0 (_) (fun b h => absurd h (Nat.not_lt_zero b)) (by omega) (by omega)
