/-- minutes of a way, FAR without one -/
noncomputable def mds (s : mS) (cl : Int32) (M a b : Nat) : Int32 := nI (dst (Ed (mr s 2) (mr s 3) (mr s 4) cl M) a b)
def mst (s : mS) (l k : Nat) : Nat := tn (mr s 7 (6 * l + k))
noncomputable def mleg (s : mS) (cl : Int32) (M l k : Nat) : Int32 := if mds s cl M (mst s l k) (mst s l (k + 1)) = 1000000 then 60 else mds s cl M (mst s l k) (mst s l (k + 1)) - mds s 0 M (mst s l k) (mst s l (k + 1))
/-- the detour of a line of n legs -/
noncomputable def mdt (s : mS) (cl : Int32) (M l n : Nat) : Int32 := if cl = 0 then 0 else sumI (mleg s cl M l) n
theorem mFar_mds {s : mS} {g : Nat → Int32} {cl : Int32} {M a b : Nat} : mds (mFar s g) cl M a b = mds s cl M a b := by
  unfold mds
  rw [mFar_oth (by decide), mFar_oth (by decide), mFar_oth (by decide)]
theorem mFar_MLN {s : mS} {g : Nat → Int32} {M : Nat} (h : MLN s M) : MLN (mFar s g) M := by
  unfold MLN
  rw [mFar_oth (by decide), mFar_oth (by decide), mFar_oth (by decide)]
  exact h
/-- the stops of line l are junctions -/
def MSP (s : mS) (l n : Nat) : Prop := ∀ k, k < n → mr s 7 (6 * l + k) = nI (mst s l k) ∧ mst s l k < 10
theorem nI_mul6 (l : Nat) : (6 : Int32) * nI l = nI (6 * l) := by
  show nI 6 * nI l = nI (6 * l)
  unfold nI
  rw [← Int32.ofNat_mul]
abbrev rm_X6_detourBy : Room := { frames := 1, cells := 0, slots := 0, locals := 27 }
set_option maxHeartbeats 4000000 in
set_option maxRecDepth 100000 in
theorem m_X6_detourBy (l : Launch) (hl : l.stackTraces = false) (D : va_G) (cy : Nat → ClassId) (e0 : Nat) {ma : Nat → Nat} {s : mS} {M li n : Nat} (hM : mi s 5 = nI M) (hM1 : M ≤ 24) (hln : MLN s M) (hl6 : li < 6) (hst : mr s 8 li = nI (n + 1)) (hn6 : n < 6) (hsp : MSP s li (n + 1)) {cl : Int32} : mMet l yX6_detourBy wsX6_detourBy rm_X6_detourBy D cy e0 [.ref (ma 0), .int (nI li), .int (cl)] ma s (fun v s' => v = some (.int (mdt s cl M li n)) ∧ ∃ g, s' = mFar s g) := by
  refine gMet.of (cc := cX6_detourBy) (maxL := 7) (ret := (some .int)) hl (by decide) rfl (Nat.le_of_ble_eq_true rfl) ?_
  intro C E h1 h2 h3 hr hnm hT hE
  subst h1; subst h2; subst h3
  have E : gOk C cX6_detourBy 7 wsX6_detourBy RX6 e0 rm_X6_detourBy := E
  show G C (mW (xy C) ma s) 0 0 0 [(0, .ref (ma 0)), (1, .int (nI li)), (2, .int (cl))] []
  have hs0 : mFar s (mr s 26) = s := mFar_id s
  refine (show G C (mW (xy C) ma (mFar s (mr s 26))) 0 0 0 [(0, Value.ref (ma 0)), (1, Value.int (nI li)), (2, Value.int cl)] [] → _ from fun h => hs0 ▸ h) ?_
  show G C (mW (xy C) ma (mFar s (mr s 26))) 0 0 0 [(0, .ref (ma 0)), (1, .int (nI li)), (2, .int (cl))] []
  refine g_iconst (v := 0) E dX6_detourBy_0 (by decide) ?_
  refine g_istore_n (L' := [(3, .int (0)), (0, .ref (ma 0)), (1, .int (nI li)), (2, .int (cl))]) E dX6_detourBy_1 rfl (by decide) rfl ?_
  refine g_bipush (v := 6) E dX6_detourBy_2 (by decide) ?_
  refine g_iload_n E dX6_detourBy_4 rfl 2 rfl ?_
  refine g_imul E dX6_detourBy_5 ?_
  rw [nI_mul6]
  show G C (mW (xy C) ma (mFar s (mr s 26))) 0 0 6 [(3, .int (0)), (0, .ref (ma 0)), (1, .int (nI li)), (2, .int (cl))] [.int (nI (6 * li))]
  refine g_iconst (v := 1) E dX6_detourBy_6 (by decide) ?_
  refine g_iadd E dX6_detourBy_7 ?_
  rw [nI_1]
  show G C (mW (xy C) ma (mFar s (mr s 26))) 0 0 8 [(3, .int (0)), (0, .ref (ma 0)), (1, .int (nI li)), (2, .int (cl))] [.int (nI (6 * li + 1 + 0))]
  refine g_istore (L' := [(4, .int (nI (6 * li + 1 + 0))), (3, .int (0)), (0, .ref (ma 0)), (1, .int (nI li)), (2, .int (cl))]) E dX6_detourBy_8 (by decide) rfl ?_
  refine g_locals [(0, .ref (ma 0)), (1, .int (nI li)), (2, .int (cl)), (3, .int (0)), (4, .int (nI (6 * li + 1 + 0)))] [2, 3, 4, 1, 0] rfl ?_
  have loop_10 : ∀ (n_10 k : Nat) (g : Nat → Int32), (k = 0 ∨ ¬ cl = 0) → k ≤ n → n < n_10 + k → G C (mW (xy C) ma (mFar s g)) 0 0 10 [(0, .ref (ma 0)), (1, .int (nI li)), (2, .int (cl)), (3, .int ((sumI (mleg s cl M li) k))), (4, .int (nI (6 * li + 1 + k)))] [] := by
    intro n_10
    induction n_10 with
    | zero => intro k g hz g1 g2; exact absurd g2 (by omega)
    | succ n_10 ih_10 =>
      intro k g hz h1_10 h2_10
      refine g_iload E dX6_detourBy_10 4 rfl ?_
      refine g_bipush (v := 6) E dX6_detourBy_12 (by decide) ?_
      refine g_iload_n E dX6_detourBy_14 rfl 1 rfl ?_
      refine g_imul E dX6_detourBy_15 ?_
      rw [nI_mul6]
      show G C (mW (xy C) ma (mFar s g)) 0 0 16 [(0, .ref (ma 0)), (1, .int (nI li)), (2, .int (cl)), (3, .int ((sumI (mleg s cl M li) k))), (4, .int (nI (6 * li + 1 + k)))] [.int (nI (6 * li)), .int (nI (6 * li + 1 + k))]
      refine g_aload_n E dX6_detourBy_16 rfl 0 rfl ?_
      refine k_get_stops (s := (mFar s g)) E (fun _ h => (List.mem_cons_of_mem _ (List.mem_append_right _ h))) (List.mem_cons_of_mem _ (List.mem_append_left _ (List.mem_of_getElem? (i := 0) rfl))) dX6_detourBy_17 ?_
      refine g_iload_n E dX6_detourBy_20 rfl 1 rfl ?_
      refine k_ald_stops (s := (mFar s g)) E li rfl (by omega) dX6_detourBy_21 ?_
      rw [show mr (mFar s g) 8 li = nI (n + 1) from (by rw [mFar_oth (by decide)]; exact hst)]
      show G C (mW (xy C) ma (mFar s g)) 0 0 22 [(0, .ref (ma 0)), (1, .int (nI li)), (2, .int (cl)), (3, .int ((sumI (mleg s cl M li) k))), (4, .int (nI (6 * li + 1 + k)))] [.int (nI (n + 1)), .int (nI (6 * li)), .int (nI (6 * li + 1 + k))]
      refine g_iadd E dX6_detourBy_22 ?_
      rw [nI_add]
      show G C (mW (xy C) ma (mFar s g)) 0 0 23 [(0, .ref (ma 0)), (1, .int (nI li)), (2, .int (cl)), (3, .int ((sumI (mleg s cl M li) k))), (4, .int (nI (6 * li + 1 + k)))] [.int (nI (6 * li + (n + 1))), .int (nI (6 * li + 1 + k))]
      refine g_icmp_ge (tgt := 102) E dX6_detourBy_23 (by decide) (fun c_23 => ?_) (fun c_23 => ?_)
      · have hk_e : n ≤ k := by have := nI_ge_nat (by omega) (by omega) c_23; omega
        refine g_iload_n E dX6_detourBy_102 rfl 3 rfl ?_
        exact g_iret E hE hr dX6_detourBy_103 (Nat.le_of_ble_eq_true rfl) (Nat.le_of_ble_eq_true rfl) ⟨(mFar s g), rfl, by
          have e_k : k = n := by omega
          by_cases z : cl = 0
          · have hk0 : k = 0 := hz.elim id (fun q => absurd z q)
            rw [show mdt s cl M li n = 0 from if_pos z, hk0]; rfl
          · rw [show mdt s cl M li n = _ from if_neg z, e_k], _, rfl⟩
      · have hk_k : k < n := by have := nI_nge_nat (by omega) (by omega) c_23; omega
        refine g_iload_n E dX6_detourBy_26 rfl 2 rfl ?_
        refine g_if_eq (tgt := 102) E dX6_detourBy_27 (by decide) (fun c_27 => ?_) (fun c_27 => ?_)
        · refine g_iload_n E dX6_detourBy_102 rfl 3 rfl ?_
          exact g_iret E hE hr dX6_detourBy_103 (Nat.le_of_ble_eq_true rfl) (Nat.le_of_ble_eq_true rfl) ⟨(mFar s g), rfl, by
            have hk0 : k = 0 := by
              rcases hz with z | z
              · exact z
              · exact absurd c_27 z
            rw [show mdt s cl M li n = 0 from if_pos c_27, hk0]; rfl, _, rfl⟩
        · refine g_aload_n E dX6_detourBy_30 rfl 0 rfl ?_
          refine g_aload_n E dX6_detourBy_31 rfl 0 rfl ?_
          refine k_get_stop (s := (mFar s g)) E (fun _ h => (List.mem_cons_of_mem _ (List.mem_append_right _ h))) (List.mem_cons_of_mem _ (List.mem_append_left _ (List.mem_of_getElem? (i := 1) rfl))) dX6_detourBy_32 ?_
          refine g_iload E dX6_detourBy_35 4 rfl ?_
          refine g_iconst (v := 1) E dX6_detourBy_37 (by decide) ?_
          refine g_isub E dX6_detourBy_38 ?_
          refine k_ald_stop (s := (mFar s g)) E ((6 * li + k)) (show nI (6 * li + 1 + k) - 1 = nI (6 * li + k) by rw [show 6 * li + 1 + k = 6 * li + k + 1 by omega]; exact nI_pred _) (by omega) dX6_detourBy_39 ?_
          rw [show mr (mFar s g) 7 ((6 * li + k)) = nI (mst s li k) from (by rw [mFar_oth (by decide)]; exact (hsp k (by omega)).1)]
          show G C (mW (xy C) ma (mFar s g)) 0 0 40 [(0, .ref (ma 0)), (1, .int (nI li)), (2, .int (cl)), (3, .int ((sumI (mleg s cl M li) k))), (4, .int (nI (6 * li + 1 + k)))] [.int (nI (mst s li k)), .ref (ma 0)]
          refine g_aload_n E dX6_detourBy_40 rfl 0 rfl ?_
          refine k_get_stop (s := (mFar s g)) E (fun _ h => (List.mem_cons_of_mem _ (List.mem_append_right _ h))) (List.mem_cons_of_mem _ (List.mem_append_left _ (List.mem_of_getElem? (i := 1) rfl))) dX6_detourBy_41 ?_
          refine g_iload E dX6_detourBy_44 4 rfl ?_
          refine k_ald_stop (s := (mFar s g)) E ((6 * li + (k + 1))) (congrArg nI (by omega)) (by omega) dX6_detourBy_46 ?_
          rw [show mr (mFar s g) 7 ((6 * li + (k + 1))) = nI (mst s li (k + 1)) from (by rw [mFar_oth (by decide)]; exact (hsp (k + 1) (by omega)).1)]
          show G C (mW (xy C) ma (mFar s g)) 0 0 47 [(0, .ref (ma 0)), (1, .int (nI li)), (2, .int (cl)), (3, .int ((sumI (mleg s cl M li) k))), (4, .int (nI (6 * li + 1 + k)))] [.int (nI (mst s li (k + 1))), .int (nI (mst s li k)), .ref (ma 0)]
          refine g_iconst (v := 0) E dX6_detourBy_47 (by decide) ?_
          refine k_invV (n := 3) (rest := []) E (m_X6_shortest (xl C) E.tr (xD C) (xy C) e0 (s := (mFar s g)) (cl := 0) hM hM1 (mFar_MLN hln) (hsp k (by omega)).2 (hsp (k + 1) (by omega)).2) gX6_detourBy_X6_shortest rfl rfl rfl (by decide +kernel) ⟨Nat.le_of_ble_eq_true rfl, Nat.le_of_ble_eq_true rfl⟩ rfl rfl (Nat.le_of_ble_eq_true rfl) dX6_detourBy_48 ⟨Nat.le_of_ble_eq_true rfl, Nat.le_of_ble_eq_true rfl⟩ (fun v9 s9_48 h9 => ?_)
          obtain ⟨hv9, g_48, hS9⟩ := h9
          rw [hv9, hS9, mFar_mFar]
          rw [show nI (dst (Ed (mr (mFar s g) 2) (mr (mFar s g) 3) (mr (mFar s g) 4) 0 M) (mst s li k) (mst s li (k + 1))) = mds s 0 M (mst s li k) (mst s li (k + 1)) from mFar_mds]
          show G C (mW (xy C) ma (mFar s g_48)) 0 0 51 [(0, .ref (ma 0)), (1, .int (nI li)), (2, .int (cl)), (3, .int ((sumI (mleg s cl M li) k))), (4, .int (nI (6 * li + 1 + k)))] [.int ((mds s 0 M (mst s li k) (mst s li (k + 1))))]
          refine g_istore (L' := [(5, .int ((mds s 0 M (mst s li k) (mst s li (k + 1))))), (0, .ref (ma 0)), (1, .int (nI li)), (2, .int (cl)), (3, .int ((sumI (mleg s cl M li) k))), (4, .int (nI (6 * li + 1 + k)))]) E dX6_detourBy_51 (by decide) rfl ?_
          refine g_aload_n E dX6_detourBy_53 rfl 1 rfl ?_
          refine g_aload_n E dX6_detourBy_54 rfl 1 rfl ?_
          refine k_get_stop (s := (mFar s g_48)) E (fun _ h => (List.mem_cons_of_mem _ (List.mem_append_right _ h))) (List.mem_cons_of_mem _ (List.mem_append_left _ (List.mem_of_getElem? (i := 1) rfl))) dX6_detourBy_55 ?_
          refine g_iload E dX6_detourBy_58 5 rfl ?_
          refine g_iconst (v := 1) E dX6_detourBy_60 (by decide) ?_
          refine g_isub E dX6_detourBy_61 ?_
          refine k_ald_stop (s := (mFar s g_48)) E ((6 * li + k)) (show nI (6 * li + 1 + k) - 1 = nI (6 * li + k) by rw [show 6 * li + 1 + k = 6 * li + k + 1 by omega]; exact nI_pred _) (by omega) dX6_detourBy_62 ?_
          rw [show mr (mFar s g_48) 7 ((6 * li + k)) = nI (mst s li k) from (by rw [mFar_oth (by decide)]; exact (hsp k (by omega)).1)]
          show G C (mW (xy C) ma (mFar s g_48)) 0 0 63 [(5, .int ((mds s 0 M (mst s li k) (mst s li (k + 1))))), (0, .ref (ma 0)), (1, .int (nI li)), (2, .int (cl)), (3, .int ((sumI (mleg s cl M li) k))), (4, .int (nI (6 * li + 1 + k)))] [.int (nI (mst s li k)), .ref (ma 0)]
          refine g_aload_n E dX6_detourBy_63 rfl 1 rfl ?_
          refine k_get_stop (s := (mFar s g_48)) E (fun _ h => (List.mem_cons_of_mem _ (List.mem_append_right _ h))) (List.mem_cons_of_mem _ (List.mem_append_left _ (List.mem_of_getElem? (i := 1) rfl))) dX6_detourBy_64 ?_
          refine g_iload E dX6_detourBy_67 5 rfl ?_
          refine k_ald_stop (s := (mFar s g_48)) E ((6 * li + (k + 1))) (congrArg nI (by omega)) (by omega) dX6_detourBy_69 ?_
          rw [show mr (mFar s g_48) 7 ((6 * li + (k + 1))) = nI (mst s li (k + 1)) from (by rw [mFar_oth (by decide)]; exact (hsp (k + 1) (by omega)).1)]
          show G C (mW (xy C) ma (mFar s g_48)) 0 0 70 [(5, .int ((mds s 0 M (mst s li k) (mst s li (k + 1))))), (0, .ref (ma 0)), (1, .int (nI li)), (2, .int (cl)), (3, .int ((sumI (mleg s cl M li) k))), (4, .int (nI (6 * li + 1 + k)))] [.int (nI (mst s li (k + 1))), .int (nI (mst s li k)), .ref (ma 0)]
          refine g_iload_n E dX6_detourBy_70 rfl 3 rfl ?_
          refine k_invV (n := 3) (rest := []) E (m_X6_shortest (xl C) E.tr (xD C) (xy C) e0 (s := (mFar s g_48)) (cl := cl) hM hM1 (mFar_MLN hln) (hsp k (by omega)).2 (hsp (k + 1) (by omega)).2) gX6_detourBy_X6_shortest rfl rfl rfl (by decide +kernel) ⟨Nat.le_of_ble_eq_true rfl, Nat.le_of_ble_eq_true rfl⟩ rfl rfl (Nat.le_of_ble_eq_true rfl) dX6_detourBy_71 ⟨Nat.le_of_ble_eq_true rfl, Nat.le_of_ble_eq_true rfl⟩ (fun v9 s9_71 h9 => ?_)
          obtain ⟨hv9, g_71, hS9⟩ := h9
          rw [hv9, hS9, mFar_mFar]
          rw [show nI (dst (Ed (mr (mFar s g_48) 2) (mr (mFar s g_48) 3) (mr (mFar s g_48) 4) cl M) (mst s li k) (mst s li (k + 1))) = mds s cl M (mst s li k) (mst s li (k + 1)) from mFar_mds]
          show G C (mW (xy C) ma (mFar s g_71)) 0 0 74 [(5, .int ((mds s 0 M (mst s li k) (mst s li (k + 1))))), (0, .ref (ma 0)), (1, .int (nI li)), (2, .int (cl)), (3, .int ((sumI (mleg s cl M li) k))), (4, .int (nI (6 * li + 1 + k)))] [.int ((mds s cl M (mst s li k) (mst s li (k + 1))))]
          refine g_istore (L' := [(6, .int ((mds s cl M (mst s li k) (mst s li (k + 1))))), (5, .int ((mds s 0 M (mst s li k) (mst s li (k + 1))))), (0, .ref (ma 0)), (1, .int (nI li)), (2, .int (cl)), (3, .int ((sumI (mleg s cl M li) k))), (4, .int (nI (6 * li + 1 + k)))]) E dX6_detourBy_74 (by decide) rfl ?_
          refine g_iload_n E dX6_detourBy_76 rfl 5 rfl ?_
          refine g_iload E dX6_detourBy_77 0 rfl ?_
          refine g_ldc E (List.mem_cons_of_mem _ (List.mem_append_left _ (List.mem_of_getElem? (i := 2) rfl))) dX6_detourBy_79 ?_
          refine g_icmp_ne (tgt := 89) E dX6_detourBy_81 (by decide) (fun c_81 => ?_) (fun c_81 => ?_)
          · refine g_iload E dX6_detourBy_89 0 rfl ?_
            refine g_iload E dX6_detourBy_91 1 rfl ?_
            refine g_isub E dX6_detourBy_93 ?_
            refine g_iadd E dX6_detourBy_94 ?_
            refine g_istore_n (L' := [(3, .int (((sumI (mleg s cl M li) k) + ((mds s cl M (mst s li k) (mst s li (k + 1))) - (mds s 0 M (mst s li k) (mst s li (k + 1))))))), (6, .int ((mds s cl M (mst s li k) (mst s li (k + 1))))), (5, .int ((mds s 0 M (mst s li k) (mst s li (k + 1))))), (0, .ref (ma 0)), (1, .int (nI li)), (2, .int (cl)), (4, .int (nI (6 * li + 1 + k)))]) E dX6_detourBy_95 rfl (by decide) rfl ?_
            refine g_iinc (v := nI ((6 * li + 1 + k) + 1)) (L' := [(4, .int (nI ((6 * li + 1 + k) + 1))), (3, .int (((sumI (mleg s cl M li) k) + ((mds s cl M (mst s li k) (mst s li (k + 1))) - (mds s 0 M (mst s li k) (mst s li (k + 1))))))), (6, .int ((mds s cl M (mst s li k) (mst s li (k + 1))))), (5, .int ((mds s 0 M (mst s li k) (mst s li (k + 1))))), (0, .ref (ma 0)), (1, .int (nI li)), (2, .int (cl))]) E dX6_detourBy_96 6 rfl (nI_1 (6 * li + 1 + k)) (by decide) rfl ?_
            refine g_goto (tgt := 10) E dX6_detourBy_99 (by decide) ?_
            refine g_locals [(0, .ref (ma 0)), (1, .int (nI li)), (2, .int (cl)), (3, .int (((sumI (mleg s cl M li) k) + ((mds s cl M (mst s li k) (mst s li (k + 1))) - (mds s 0 M (mst s li k) (mst s li (k + 1))))))), (4, .int (nI ((6 * li + 1 + k) + 1)))] [4, 5, 6, 1, 0] rfl ?_
            refine g_L (L' := [(0, .ref (ma 0)), (1, .int (nI li)), (2, .int (cl)), (3, .int ((sumI (mleg s cl M li) (k + 1)))), (4, .int (nI (6 * li + 1 + (k + 1))))]) (by rw [sumI_s, show mleg s cl M li k = _ from if_neg c_81]; rfl) (ih_10 (k + 1) (_) (Or.inr c_27) (by omega) (by omega))
          · refine g_bipush (v := 60) E dX6_detourBy_84 (by decide) ?_
            refine g_goto (tgt := 94) E dX6_detourBy_86 (by decide) ?_
            refine g_iadd E dX6_detourBy_94 ?_
            refine g_istore_n (L' := [(3, .int (((sumI (mleg s cl M li) k) + 60))), (6, .int ((mds s cl M (mst s li k) (mst s li (k + 1))))), (5, .int ((mds s 0 M (mst s li k) (mst s li (k + 1))))), (0, .ref (ma 0)), (1, .int (nI li)), (2, .int (cl)), (4, .int (nI (6 * li + 1 + k)))]) E dX6_detourBy_95 rfl (by decide) rfl ?_
            refine g_iinc (v := nI ((6 * li + 1 + k) + 1)) (L' := [(4, .int (nI ((6 * li + 1 + k) + 1))), (3, .int (((sumI (mleg s cl M li) k) + 60))), (6, .int ((mds s cl M (mst s li k) (mst s li (k + 1))))), (5, .int ((mds s 0 M (mst s li k) (mst s li (k + 1))))), (0, .ref (ma 0)), (1, .int (nI li)), (2, .int (cl))]) E dX6_detourBy_96 6 rfl (nI_1 (6 * li + 1 + k)) (by decide) rfl ?_
            refine g_goto (tgt := 10) E dX6_detourBy_99 (by decide) ?_
            refine g_locals [(0, .ref (ma 0)), (1, .int (nI li)), (2, .int (cl)), (3, .int (((sumI (mleg s cl M li) k) + 60))), (4, .int (nI ((6 * li + 1 + k) + 1)))] [4, 5, 6, 1, 0] rfl ?_
            refine g_L (L' := [(0, .ref (ma 0)), (1, .int (nI li)), (2, .int (cl)), (3, .int ((sumI (mleg s cl M li) (k + 1)))), (4, .int (nI (6 * li + 1 + (k + 1))))]) (by rw [sumI_s, show mleg s cl M li k = _ from if_pos c_81]; rfl) (ih_10 (k + 1) (_) (Or.inr c_27) (by omega) (by omega))
  exact loop_10 (n + 1) 0 (_) (Or.inl rfl) (by omega) (by omega)
