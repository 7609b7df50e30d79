/-- Opening takes the permit in, with the words of PD_join and PD_new -/
theorem m_admit_y (l : Launch) (hl : l.stackTraces = false) (D : va_G) (cy : Nat → ClassId) (e0 : Nat) {S : wS} {c : Nat → Nat} {ad : Nat → Nat → Nat} {i : Nat → Nat → Int32} {j : Nat → Nat → Int64} {p : Nat → Nat → Option Nat} {r : Nat → Nat → Int32} {q y : Nat} (hI : CI e0 S c ad i j p r) (hO : OUT c ad q) (hqm : q ∈ sL S) (hqk : sK S q = 2) (hy : y < c 1) :
    cMet l yX1_admit wsX1_admit rm_X1_admit D cy e0 [.ref (ad 1 y), .ref q] (uI S 12 q (-1)) (fun v S' => v = none ∧ S' = uJ (uI (uI (uI S 12 q (-1)) 3 (ad 1 y) (mnI (i 3 y) (sI S 8 q))) 4 (ad 1 y) (mxI (i 4 y) (sI S 9 q))) 1 (ad 1 y) (j 1 y ||| bitJ (sI S 5 q))) (fun _ _ => False) 0 0 := by
  have e3 : sI (uI S 12 q (-1)) 3 (ad 1 y) = i 3 y := by show up2 S.2.2.1 12 q (-1) 3 (ad 1 y) = _; rw [up2_nf (by decide)]; exact hI.int (f := 3) hy
  have e4 : sI (uI S 12 q (-1)) 4 (ad 1 y) = i 4 y := by show up2 S.2.2.1 12 q (-1) 4 (ad 1 y) = _; rw [up2_nf (by decide)]; exact hI.int (f := 4) hy
  have e8 : sI (uI S 12 q (-1)) 8 q = sI S 8 q := by show up2 S.2.2.1 12 q (-1) 8 q = _; rw [up2_nf (by decide)]
  have e9 : sI (uI S 12 q (-1)) 9 q = sI S 9 q := by show up2 S.2.2.1 12 q (-1) 9 q = _; rw [up2_nf (by decide)]
  have e5 : sI (uI S 12 q (-1)) 5 q = sI S 5 q := by show up2 S.2.2.1 12 q (-1) 5 q = _; rw [up2_nf (by decide)]
  have ej : sJ (uI S 12 q (-1)) 1 (ad 1 y) = j 1 y := hI.long (f := 1) hy
  have h := m_X1_admit l hl D cy e0 (S := uI S 12 q (-1)) (a := ad 1 y) (q := q) (by rw [sl_uI]; exact (hI.obj (kd := 1) (by omega) hy).1) (by rw [sk_uI]; exact (hI.obj (kd := 1) (by omega) hy).2) (by rw [sl_uI]; exact hqm) (by rw [sk_uI]; exact hqk)
  rw [e3, e4, e8, e9, e5, ej] at h
  exact h
abbrev rm_X5_decide : Room := { frames := 8, cells := 2, slots := 1004, locals := 387 }
set_option maxHeartbeats 4000000 in
set_option maxRecDepth 100000 in
theorem m_X5_decide_N (l : Launch) (hl : l.stackTraces = false) (D : va_G) (cy : Nat → ClassId) (e0 : Nat) {S : wS} {c : Nat → Nat} {ad : Nat → Nat → Nat} {i : Nat → Nat → Int32} {j : Nat → Nat → Int64} {p : Nat → Nat → Option Nat} {r : Nat → Nat → Int32} (hI : CI e0 S c ad i j p r) {q ap : Nat} (hqm : q ∈ sL S) (hqk : sK S q = 2) (hap : sI S 6 q = nI ap) (hap6 : ap < 6) (hO : OUT c ad q) (hc1 : c 1 < 40) (hp2 : sP S 2 q = none) (hpn : sP S 1 q = none) : cMet l yX5_decide wsX5_decide rm_X5_decide D cy e0 [.ref (ad 5 0), .ref (q)] S (fun v S' => v = none ∧ ∃ o cz, o = (if sI S 10 q = 0 then fstM (metF i p (sI S 7 q) (sI S 8 q) (sI S 9 q)) (c 2) else none) ∧ cz = (match o with | none => (cau (bI (sI S 10 q = 0 ∧ sI S 8 q < i 18 0 + (2 + 3 * r 3 ap))) 0 0 (bI (sI S 10 q = 0 ∧ 0 < cntI (fun k => none ≠ some k ∧ i 2 k = (sI S 7 q) ∧ ¬ j 1 k = 0 ∧ i 3 k / 500 = ((sI S 8 q) / 500)) (c 1)))) | some y => (cau (bI (sI S 10 q = 0 ∧ sI S 8 q < i 18 0 + (2 + 3 * r 3 ap))) 0 (bI ((40 : Int32) < mxI (i 4 y) (sI S 9 q) - mnI (i 3 y) (sI S 8 q))) (bI (sI S 10 q = 0 ∧ 0 < cntI (fun k => (some y) ≠ some k ∧ i 2 k = (sI S 7 q) ∧ ¬ j 1 k = 0 ∧ i 3 k / 500 = ((mnI (i 3 y) (sI S 8 q)) / 500)) (c 1))))) ∧ PD e0 S c ad i j p r q o cz S') (fun _ _ => False) 2 1004 := by
  refine gMet.of (cc := cX5_decide) (maxL := 4) (ret := none) hl (by decide) rfl (Nat.le_of_ble_eq_true rfl) ?_
  intro C E h1 h2 h3 hr hnm hT hE
  subst h1; subst h2; subst h3
  have E : gOk C cX5_decide 4 wsX5_decide RX5 e0 rm_X5_decide := E
  show G C (cW (xy C) S) 0 0 0 [(0, .ref (ad 5 0)), (1, .ref (q))] []
  refine g_aload_n E dX5_decide_0 rfl 0 rfl ?_
  refine g_aload_n E dX5_decide_1 rfl 1 rfl ?_
  refine c_invV (n := 1) (rest := []) E (m_X5_openingMetBy (xl C) E.tr (xD C) (xy C) e0 hI hqm hqk) (hI.obj (kd := 5) (k := 0) (by omega) hI.c5).1 gX5_decide_X5_openingMetBy rfl rfl rfl (by decide +kernel) ⟨Nat.le_of_ble_eq_true rfl, Nat.le_of_ble_eq_true rfl⟩ (wF_PW (hI.obj (kd := 5) (k := 0) (by omega) hI.c5).2) rfl rfl rfl rfl (Nat.le_of_ble_eq_true rfl) dX5_decide_2 ⟨Nat.le_of_ble_eq_true rfl, Nat.le_of_ble_eq_true rfl⟩ (fun _ _ h9 => h9.elim) (fun v9 S9_2 h9 => ?_)
  obtain ⟨o, hv9, ho, hoc, hS9⟩ := h9
  rw [hv9, hS9]
  rcases o with - | y
  · show G C (cW (xy C) S) 0 0 5 [(0, .ref (ad 5 0)), (1, .ref (q))] [.null]
    refine g_astore_nN (L' := [(2, .null), (0, .ref (ad 5 0)), (1, .ref (q))]) E dX5_decide_5 rfl (by decide) rfl ?_
    refine g_aload_n E dX5_decide_6 rfl 2 rfl ?_
    refine g_aload_n E dX5_decide_7 rfl 1 rfl ?_
    refine g_aload_n E dX5_decide_8 rfl 2 rfl ?_
    refine g_aload_nN E dX5_decide_9 rfl 0 rfl ?_
    refine c_invV (n := 2) (rest := [.ref (q)]) E (m_X5_causeAgainst_NN (xl C) E.tr (xD C) (xy C) e0 hI hqm hqk hap hap6 hpn) (hI.obj (kd := 5) (k := 0) (by omega) hI.c5).1 gX5_decide_X5_causeAgainst rfl rfl rfl (by decide +kernel) ⟨Nat.le_of_ble_eq_true rfl, Nat.le_of_ble_eq_true rfl⟩ (wF_PW (hI.obj (kd := 5) (k := 0) (by omega) hI.c5).2) rfl rfl rfl rfl (Nat.le_of_ble_eq_true rfl) dX5_decide_10 ⟨Nat.le_of_ble_eq_true rfl, Nat.le_of_ble_eq_true rfl⟩ (fun _ _ h9 => h9.elim) (fun v9 S9_10 h9 => ?_)
    obtain ⟨hv9, hS9⟩ := h9
    have hcz : ∃ cz, cz = (cau (bI (sI S 10 q = 0 ∧ sI S 8 q < i 18 0 + (2 + 3 * r 3 ap))) 0 0 (bI (sI S 10 q = 0 ∧ 0 < cntI (fun k => none ≠ some k ∧ i 2 k = (sI S 7 q) ∧ ¬ j 1 k = 0 ∧ i 3 k / 500 = ((sI S 8 q) / 500)) (c 1)))) := ⟨_, rfl⟩
    obtain ⟨cz, hcz⟩ := hcz
    rw [hv9, hS9, ← hcz]
    show G C (cW (xy C) S) 0 0 13 [(2, .null), (0, .ref (ad 5 0)), (1, .ref (q))] [.int (cz), .ref (q)]
    refine p_putN_Permit_cause (S := S) (v := cz) E hqm hqk (fun _ h => (List.mem_cons_of_mem _ (List.mem_append_left _ (List.mem_append_left _ (List.mem_append_left _ (List.mem_append_right _ h)))))) tbF_RX5_179 rfl dX5_decide_13 ?_
    refine g_aload_n E dX5_decide_16 rfl 2 rfl ?_
    refine p_getN_Permit_cause (S := (uI S 12 (q) (cz))) E hqm hqk (fun _ h => (List.mem_cons_of_mem _ (List.mem_append_left _ (List.mem_append_left _ (List.mem_append_left _ (List.mem_append_right _ h)))))) tbF_RX5_179 dX5_decide_17 ?_
    rw [show sI (uI S 12 (q) (cz)) 12 (q) = cz from up2_self _ _ _ _]
    show G C (cW (xy C) (uI S 12 (q) (cz))) 0 0 20 [(2, .null), (0, .ref (ad 5 0)), (1, .ref (q))] [.int (cz)]
    refine g_iconst (v := (-1)) E dX5_decide_20 (by decide) ?_
    refine g_icmp_eq (tgt := 30) E dX5_decide_21 (by decide) (fun c_21 => ?_) (fun c_21 => ?_)
    · subst c_21
      refine g_aload_nN E dX5_decide_30 rfl 0 rfl ?_
      refine g_astore_nN (L' := [(3, .null), (2, .null), (0, .ref (ad 5 0)), (1, .ref (q))]) E dX5_decide_31 rfl (by decide) rfl ?_
      refine g_aload_nN E dX5_decide_32 rfl 0 rfl ?_
      refine g_ifnonnullN E dX5_decide_33 ?_
      refine p_new_Opening E (fun _ h => (List.mem_cons_of_mem _ (List.mem_append_left _ (List.mem_append_left _ (List.mem_append_right _ h))))) (List.mem_cons_of_mem _ (List.mem_append_left _ (List.mem_append_left _ (List.mem_append_left _ (List.mem_append_left _ (List.mem_append_left _ (List.mem_of_getElem? (i := 0) rfl))))))) (List.mem_cons_of_mem _ (List.mem_append_left _ (List.mem_append_left _ (List.mem_append_left _ (List.mem_append_left _ (List.mem_append_left _ (List.mem_of_getElem? (i := 1) rfl))))))) (List.mem_cons_of_mem _ (List.mem_append_left _ (List.mem_append_left _ (List.mem_append_left _ (List.mem_append_left _ (List.mem_append_left _ (List.mem_of_getElem? (i := 2) rfl))))))) (Nat.le_of_ble_eq_true rfl) (Nat.le_of_ble_eq_true rfl) dX5_decide_36 (fun q_36 hq_36 => ?_)
      have hneq := ne_of_new (S := (uI S 12 q (-1))) (by rw [sl_uI]; exact hqm) hq_36
      show G C (cW (xy C) (nw (uI S 12 q (-1)) q_36 1 0)) 1 4 39 [(3, .null), (2, .null), (0, .ref (ad 5 0)), (1, .ref (q))] [.ref (q_36)]
      refine g_dup E dX5_decide_39 rfl ?_
      refine g_aload_n E dX5_decide_40 rfl 3 rfl ?_
      refine p_getN_Permit_lane (S := (nw (uI S 12 q (-1)) q_36 1 0)) E (nw_mem (k := 1) (n := 0) (show q ∈ sL (uI S 12 q (-1)) by rw [sl_uI]; exact hqm)) ((nw_K (k := 1) (n := 0) hneq).trans (show sK (uI S 12 q (-1)) q = 2 by rw [sk_uI]; exact hqk)) (fun _ h => (List.mem_cons_of_mem _ (List.mem_append_left _ (List.mem_append_left _ (List.mem_append_left _ (List.mem_append_right _ h)))))) tbF_RX5_241 dX5_decide_41 ?_
      rw [show sI (nw (uI S 12 q (-1)) q_36 1 0) 7 (q) = sI S 7 q from (nw_I hneq).trans (show up2 S.2.2.1 12 q (-1) 7 q = _ by rw [up2_nf (by decide)])]
      show G C (cW (xy C) (nw (uI S 12 q (-1)) q_36 1 0)) 1 4 44 [(3, .null), (2, .null), (0, .ref (ad 5 0)), (1, .ref (q))] [.int ((sI S 7 q)), .ref (q_36), .ref (q_36)]
      refine g_aload_n E dX5_decide_44 rfl 3 rfl ?_
      refine p_getN_Permit_appliedFrom (S := (nw (uI S 12 q (-1)) q_36 1 0)) E (nw_mem (k := 1) (n := 0) (show q ∈ sL (uI S 12 q (-1)) by rw [sl_uI]; exact hqm)) ((nw_K (k := 1) (n := 0) hneq).trans (show sK (uI S 12 q (-1)) q = 2 by rw [sk_uI]; exact hqk)) (fun _ h => (List.mem_cons_of_mem _ (List.mem_append_left _ (List.mem_append_left _ (List.mem_append_left _ (List.mem_append_right _ h)))))) tbF_RX5_261 dX5_decide_45 ?_
      rw [show sI (nw (uI S 12 q (-1)) q_36 1 0) 8 (q) = sI S 8 q from (nw_I hneq).trans (show up2 S.2.2.1 12 q (-1) 8 q = _ by rw [up2_nf (by decide)])]
      show G C (cW (xy C) (nw (uI S 12 q (-1)) q_36 1 0)) 1 4 48 [(3, .null), (2, .null), (0, .ref (ad 5 0)), (1, .ref (q))] [.int ((sI S 8 q)), .int ((sI S 7 q)), .ref (q_36), .ref (q_36)]
      refine g_aload_n E dX5_decide_48 rfl 3 rfl ?_
      refine p_getN_Permit_appliedEnd (S := (nw (uI S 12 q (-1)) q_36 1 0)) E (nw_mem (k := 1) (n := 0) (show q ∈ sL (uI S 12 q (-1)) by rw [sl_uI]; exact hqm)) ((nw_K (k := 1) (n := 0) hneq).trans (show sK (uI S 12 q (-1)) q = 2 by rw [sk_uI]; exact hqk)) (fun _ h => (List.mem_cons_of_mem _ (List.mem_append_left _ (List.mem_append_left _ (List.mem_append_left _ (List.mem_append_right _ h)))))) tbF_RX5_264 dX5_decide_49 ?_
      rw [show sI (nw (uI S 12 q (-1)) q_36 1 0) 9 (q) = sI S 9 q from (nw_I hneq).trans (show up2 S.2.2.1 12 q (-1) 9 q = _ by rw [up2_nf (by decide)])]
      show G C (cW (xy C) (nw (uI S 12 q (-1)) q_36 1 0)) 1 4 52 [(3, .null), (2, .null), (0, .ref (ad 5 0)), (1, .ref (q))] [.int ((sI S 9 q)), .int ((sI S 8 q)), .int ((sI S 7 q)), .ref (q_36), .ref (q_36)]
      refine c_invI (n := 3) (rest := [.ref (q_36)]) E (m_X1_init (xl C) E.tr (xD C) (xy C) e0 (S := (nw (uI S 12 q (-1)) q_36 1 0)) (nw_own (k := 1) (n := 0)) (nw_Ko (k := 1) (n := 0))) gX5_decide_X1_init rfl rfl rfl (List.mem_cons_of_mem _ (List.mem_append_left _ (List.mem_append_left _ (List.mem_append_left _ (List.mem_append_left _ (List.mem_append_left _ (List.mem_of_getElem? (i := 2) rfl))))))) (List.mem_cons_of_mem _ (List.mem_append_left _ (List.mem_append_left _ (List.mem_append_left _ (List.mem_append_left _ (List.mem_append_right _ (List.mem_append_right _ (List.mem_append_right _ (List.mem_append_left _ (List.mem_of_getElem? (i := 22) rfl)))))))))) (List.mem_cons_of_mem _ (List.mem_append_left _ (List.mem_append_left _ (List.mem_append_left _ (List.mem_append_left _ (List.mem_append_right _ (List.mem_append_right _ (List.mem_append_right _ (List.mem_append_left _ (List.mem_of_getElem? (i := 23) rfl)))))))))) rfl (by decide +kernel) ⟨Nat.le_of_ble_eq_true rfl, Nat.le_of_ble_eq_true rfl⟩ rfl rfl (Nat.le_of_ble_eq_true rfl) dX5_decide_52 ⟨Nat.le_of_ble_eq_true rfl, Nat.le_of_ble_eq_true rfl⟩ (fun _ _ h9 => h9.elim) (fun v9 S9_52 h9 => ?_)
      obtain ⟨hv9, hS9⟩ := h9
      rw [hv9, hS9]
      refine g_e0 E (fun he3 => ?_)
      have hF13 : FR (uI S 12 q (-1)) (iOp (nw (uI S 12 q (-1)) q_36 1 0) q_36 (sI S 7 q) (sI S 8 q) (sI S 9 q)) (fun x => x = q_36) := FR.tr (FR.tr (FR.tr (FR.nw hq_36) FR.uI (fun _ _ h => h.elim) (fun _ _ h => h)) FR.uI (fun _ _ h => h) (fun _ _ h => h)) FR.uI (fun _ _ h => h) (fun _ _ h => h)
      have hI1 : CI e0 (uI S 12 q (-1)) c ad i j p r := hI.outq (FR.uI (a := q)) hO hI.apart.2
      have hm3 : q_36 ∈ sL (iOp (nw (uI S 12 q (-1)) q_36 1 0) q_36 (sI S 7 q) (sI S 8 q) (sI S 9 q)) := by unfold iOp; rw [sl_uI, sl_uI, sl_uI]; exact nw_own (k := 1) (n := 0)
      have hk3 : sK (iOp (nw (uI S 12 q (-1)) q_36 1 0) q_36 (sI S 7 q) (sI S 8 q) (sI S 9 q)) q_36 = 1 := by unfold iOp; rw [sk_uI, sk_uI, sk_uI]; exact nw_Ko (k := 1) (n := 0)
      have hI3 : CI e0 (iOp (nw (uI S 12 q (-1)) q_36 1 0) q_36 (sI S 7 q) (sI S 8 q) (sI S 9 q)) c ad i j p r := hI1.outq hF13 (OUT.new hI1 hq_36 (fun e => he3 (e ▸ hm3))) he3
      have hqm3 : q ∈ sL (iOp (nw (uI S 12 q (-1)) q_36 1 0) q_36 (sI S 7 q) (sI S 8 q) (sI S 9 q)) := hF13.1 q (by rw [sl_uI]; exact hqm)
      have hqk3 : sK (iOp (nw (uI S 12 q (-1)) q_36 1 0) q_36 (sI S 7 q) (sI S 8 q) (sI S 9 q)) q = 2 := (hF13.2 q (by rw [sl_uI]; exact hqm) hneq).1.trans (by rw [sk_uI]; exact hqk)
      show G C (cW (xy C) (iOp (nw (uI S 12 q (-1)) q_36 1 0) q_36 (sI S 7 q) (sI S 8 q) (sI S 9 q))) 1 4 55 [(3, .null), (2, .null), (0, .ref (ad 5 0)), (1, .ref (q))] [.ref (q_36)]
      refine g_astore_n (L' := [(3, .ref (q_36)), (2, .null), (0, .ref (ad 5 0)), (1, .ref (q))]) E dX5_decide_55 rfl (by decide) rfl ?_
      refine g_aload_n E dX5_decide_56 rfl 2 rfl ?_
      refine q_get_PW_allOpenings E hI3 (fun _ h => (List.mem_cons_of_mem _ (List.mem_append_left _ (List.mem_append_right _ h)))) (List.mem_cons_of_mem _ (List.mem_append_left _ (List.mem_append_left _ (List.mem_append_left _ (List.mem_append_left _ (List.mem_append_left _ (List.mem_of_getElem? (i := 3) rfl))))))) dX5_decide_57 ?_
      refine g_aload_n E dX5_decide_60 rfl 0 rfl ?_
      refine c_invV (n := 1) (rest := []) E (m_add (xl C) E.tr (xD C) (xy C) e0 (S := (iOp (nw (uI S 12 q (-1)) q_36 1 0) q_36 (sI S 7 q) (sI S 8 q) (sI S 9 q))) (kd := 1) hI3.lists.2.2 hc1 (by decide) hm3 hk3 (fun k hk => hI3.obj (kd := 1) (by omega) hk)) (hI3.obj (kd := 6) (k := 2) (by omega) (by have := hI3.cnt; omega)).1 gX5_decide_Jx4a65c_add_9ea2d rfl rfl rfl (by decide +kernel) ⟨Nat.le_of_ble_eq_true rfl, Nat.le_of_ble_eq_true rfl⟩ (wF_AL (hI3.obj (kd := 6) (k := 2) (by omega) (by have := hI3.cnt; omega)).2) rfl rfl rfl rfl (Nat.le_of_ble_eq_true rfl) dX5_decide_61 ⟨Nat.le_of_ble_eq_true rfl, Nat.le_of_ble_eq_true rfl⟩ (fun _ _ h9 => h9.elim) (fun v9 S9_61 h9 => ?_)
      obtain ⟨hv9, d9, hL9, hF9, hd9⟩ := h9
      rw [hv9]
      refine g_e0 E (fun he9 => ?_)
      have hXq : ¬ (q = ad 6 2 ∨ q = ad 8 2) := by
        rintro (h | h)
        · exact hO.1 6 2 (by omega) (by have := hI.cnt; omega) h.symm
        · exact hO.2.2 2 (by omega) h.symm
      have hX2 : ¬ (q_36 = ad 6 2 ∨ q_36 = ad 8 2) := by
        rintro (h | h)
        · exact hq_36 (h ▸ (hI1.obj (kd := 6) (k := 2) (by omega) (by have := hI.cnt; omega)).1)
        · rcases hI1.arr8 (t := 2) (by omega) with g | g
          · exact he3 (by rw [← g, ← h]; exact hm3)
          · exact hq_36 (h ▸ g.1)
      have hm9 := hF9.1 q_36 hm3
      have hk9 := (hF9.2 q_36 hm3 hX2).1.trans hk3
      have hqm9 := hF9.1 q hqm3
      have hqk9 := (hF9.2 q hqm3 hXq).1.trans hqk3
      show G C (cW (xy C) S9_61) 2 1004 64 [(3, .ref (q_36)), (2, .null), (0, .ref (ad 5 0)), (1, .ref (q))] [.int (1)]
      refine g_pop E dX5_decide_64 rfl ?_
      refine g_aload_n E dX5_decide_65 rfl 0 rfl ?_
      refine g_aload_n E dX5_decide_66 rfl 3 rfl ?_
      refine c_invV (n := 1) (rest := []) E (m_X1_admit (xl C) E.tr (xD C) (xy C) e0 (S := S9_61) hm9 hk9 hqm9 hqk9) hm9 gX5_decide_X1_admit rfl rfl rfl (by decide +kernel) ⟨Nat.le_of_ble_eq_true rfl, Nat.le_of_ble_eq_true rfl⟩ (wF_Opening hk9) rfl rfl rfl rfl (Nat.le_of_ble_eq_true rfl) dX5_decide_67 ⟨Nat.le_of_ble_eq_true rfl, Nat.le_of_ble_eq_true rfl⟩ (fun _ _ h9 => h9.elim) (fun v9 S9_67 h9 => ?_)
      obtain ⟨hv9, hS9⟩ := h9
      rw [hv9, hS9]
      show G C (cW (xy C) (uJ (uI (uI S9_61 3 q_36 (mnI (sI S9_61 3 q_36) (sI S9_61 8 q))) 4 q_36 (mxI (sI S9_61 4 q_36) (sI S9_61 9 q))) 1 q_36 (sJ S9_61 1 q_36 ||| bitJ (sI S9_61 5 q)))) 2 1004 70 [(3, .ref (q_36)), (2, .null), (0, .ref (ad 5 0)), (1, .ref (q))] []
      refine g_aload_n E dX5_decide_70 rfl 3 rfl ?_
      refine g_aload_n E dX5_decide_71 rfl 0 rfl ?_
      refine p_putN_Permit_opening (S := (uJ (uI (uI S9_61 3 q_36 (mnI (sI S9_61 3 q_36) (sI S9_61 8 q))) 4 q_36 (mxI (sI S9_61 4 q_36) (sI S9_61 9 q))) 1 q_36 (sJ S9_61 1 q_36 ||| bitJ (sI S9_61 5 q)))) (v := (some (q_36))) E (by rw [sl_uJ, sl_uI, sl_uI]; exact hqm9) (by rw [sk_uJ, sk_uI, sk_uI]; exact hqk9) (fun _ h => (List.mem_cons_of_mem _ (List.mem_append_left _ (List.mem_append_left _ (List.mem_append_left _ (List.mem_append_right _ h)))))) tbF_RX5_185 rfl dX5_decide_72 ?_
      exact g_vret E hE hr dX5_decide_75 (Nat.le_of_ble_eq_true rfl) (Nat.le_of_ble_eq_true rfl) ⟨_, rfl, rfl, _, _, ho, hcz, PD_new hI hO hqm hqk hc1 hq_36 rfl rfl rfl hL9 hF9 hd9 he9⟩
    · refine g_aload_n E dX5_decide_24 rfl 2 rfl ?_
      refine g_iconst (v := 1) E dX5_decide_25 (by decide) ?_
      refine p_putN_Permit_state (S := (uI S 12 (q) (cz))) (v := 1) E hqm hqk (fun _ h => (List.mem_cons_of_mem _ (List.mem_append_left _ (List.mem_append_left _ (List.mem_append_left _ (List.mem_append_right _ h)))))) tbF_RX5_146 rfl dX5_decide_26 ?_
      exact g_vret E hE hr dX5_decide_29 (Nat.le_of_ble_eq_true rfl) (Nat.le_of_ble_eq_true rfl) ⟨_, rfl, rfl, _, _, ho, hcz, PD_ref hI hO hqm hqk hp2 c_21⟩
  · have hy := hoc y rfl
    show G C (cW (xy C) S) 0 0 5 [(0, .ref (ad 5 0)), (1, .ref (q))] [.ref (ad 1 y)]
    refine g_astore_n (L' := [(2, .ref (ad 1 y)), (0, .ref (ad 5 0)), (1, .ref (q))]) E dX5_decide_5 rfl (by decide) rfl ?_
    refine g_aload_n E dX5_decide_6 rfl 2 rfl ?_
    refine g_aload_n E dX5_decide_7 rfl 1 rfl ?_
    refine g_aload_n E dX5_decide_8 rfl 2 rfl ?_
    refine g_aload_n E dX5_decide_9 rfl 0 rfl ?_
    refine c_invV (n := 2) (rest := [.ref (q)]) E (m_X5_causeAgainst_SN (xl C) E.tr (xD C) (xy C) e0 hI hqm hqk hap hap6 hpn hy) (hI.obj (kd := 5) (k := 0) (by omega) hI.c5).1 gX5_decide_X5_causeAgainst rfl rfl rfl (by decide +kernel) ⟨Nat.le_of_ble_eq_true rfl, Nat.le_of_ble_eq_true rfl⟩ (wF_PW (hI.obj (kd := 5) (k := 0) (by omega) hI.c5).2) rfl rfl rfl rfl (Nat.le_of_ble_eq_true rfl) dX5_decide_10 ⟨Nat.le_of_ble_eq_true rfl, Nat.le_of_ble_eq_true rfl⟩ (fun _ _ h9 => h9.elim) (fun v9 S9_10 h9 => ?_)
    obtain ⟨hv9, hS9⟩ := h9
    have hcz : ∃ cz, cz = (cau (bI (sI S 10 q = 0 ∧ sI S 8 q < i 18 0 + (2 + 3 * r 3 ap))) 0 (bI ((40 : Int32) < mxI (i 4 y) (sI S 9 q) - mnI (i 3 y) (sI S 8 q))) (bI (sI S 10 q = 0 ∧ 0 < cntI (fun k => (some y) ≠ some k ∧ i 2 k = (sI S 7 q) ∧ ¬ j 1 k = 0 ∧ i 3 k / 500 = ((mnI (i 3 y) (sI S 8 q)) / 500)) (c 1)))) := ⟨_, rfl⟩
    obtain ⟨cz, hcz⟩ := hcz
    rw [hv9, hS9, ← hcz]
    show G C (cW (xy C) S) 0 0 13 [(2, .ref (ad 1 y)), (0, .ref (ad 5 0)), (1, .ref (q))] [.int (cz), .ref (q)]
    refine p_putN_Permit_cause (S := S) (v := cz) E hqm hqk (fun _ h => (List.mem_cons_of_mem _ (List.mem_append_left _ (List.mem_append_left _ (List.mem_append_left _ (List.mem_append_right _ h)))))) tbF_RX5_179 rfl dX5_decide_13 ?_
    refine g_aload_n E dX5_decide_16 rfl 2 rfl ?_
    refine p_getN_Permit_cause (S := (uI S 12 (q) (cz))) E hqm hqk (fun _ h => (List.mem_cons_of_mem _ (List.mem_append_left _ (List.mem_append_left _ (List.mem_append_left _ (List.mem_append_right _ h)))))) tbF_RX5_179 dX5_decide_17 ?_
    rw [show sI (uI S 12 (q) (cz)) 12 (q) = cz from up2_self _ _ _ _]
    show G C (cW (xy C) (uI S 12 (q) (cz))) 0 0 20 [(2, .ref (ad 1 y)), (0, .ref (ad 5 0)), (1, .ref (q))] [.int (cz)]
    refine g_iconst (v := (-1)) E dX5_decide_20 (by decide) ?_
    refine g_icmp_eq (tgt := 30) E dX5_decide_21 (by decide) (fun c_21 => ?_) (fun c_21 => ?_)
    · subst c_21
      refine g_aload_n E dX5_decide_30 rfl 0 rfl ?_
      refine g_astore_n (L' := [(3, .ref (ad 1 y)), (2, .ref (ad 1 y)), (0, .ref (ad 5 0)), (1, .ref (q))]) E dX5_decide_31 rfl (by decide) rfl ?_
      refine g_aload_n E dX5_decide_32 rfl 0 rfl ?_
      refine g_ifnonnull (tgt := 65) E dX5_decide_33 (by decide) ?_
      refine g_aload_n E dX5_decide_65 rfl 0 rfl ?_
      refine g_aload_n E dX5_decide_66 rfl 3 rfl ?_
      refine c_invV (n := 1) (rest := []) E (m_admit_y (xl C) E.tr (xD C) (xy C) e0 hI hO hqm hqk hy) (hI.obj (kd := 1) (k := y) (by omega) hy).1 gX5_decide_X1_admit rfl rfl rfl (by decide +kernel) ⟨Nat.le_of_ble_eq_true rfl, Nat.le_of_ble_eq_true rfl⟩ (wF_Opening (hI.obj (kd := 1) (k := y) (by omega) hy).2) rfl rfl rfl rfl (Nat.le_of_ble_eq_true rfl) dX5_decide_67 ⟨Nat.le_of_ble_eq_true rfl, Nat.le_of_ble_eq_true rfl⟩ (fun _ _ h9 => h9.elim) (fun v9 S9_67 h9 => ?_)
      obtain ⟨hv9, hS9⟩ := h9
      rw [hv9, hS9]
      show G C (cW (xy C) (uJ (uI (uI (uI S 12 q (-1)) 3 (ad 1 y) (mnI (i 3 y) (sI S 8 q))) 4 (ad 1 y) (mxI (i 4 y) (sI S 9 q))) 1 (ad 1 y) (j 1 y ||| bitJ (sI S 5 q)))) 0 0 70 [(3, .ref (ad 1 y)), (2, .ref (ad 1 y)), (0, .ref (ad 5 0)), (1, .ref (q))] []
      refine g_aload_n E dX5_decide_70 rfl 3 rfl ?_
      refine g_aload_n E dX5_decide_71 rfl 0 rfl ?_
      refine p_putN_Permit_opening (S := (uJ (uI (uI (uI S 12 q (-1)) 3 (ad 1 y) (mnI (i 3 y) (sI S 8 q))) 4 (ad 1 y) (mxI (i 4 y) (sI S 9 q))) 1 (ad 1 y) (j 1 y ||| bitJ (sI S 5 q)))) (v := (some (ad 1 y))) E (by rw [sl_uJ, sl_uI, sl_uI, sl_uI]; exact hqm) (by rw [sk_uJ, sk_uI, sk_uI, sk_uI]; exact hqk) (fun _ h => (List.mem_cons_of_mem _ (List.mem_append_left _ (List.mem_append_left _ (List.mem_append_left _ (List.mem_append_right _ h)))))) tbF_RX5_185 rfl dX5_decide_72 ?_
      exact g_vret E hE hr dX5_decide_75 (Nat.le_of_ble_eq_true rfl) (Nat.le_of_ble_eq_true rfl) ⟨_, rfl, rfl, _, _, ho, hcz, PD_join hI hO hqm hqk hy⟩
    · refine g_aload_n E dX5_decide_24 rfl 2 rfl ?_
      refine g_iconst (v := 1) E dX5_decide_25 (by decide) ?_
      refine p_putN_Permit_state (S := (uI S 12 (q) (cz))) (v := 1) E hqm hqk (fun _ h => (List.mem_cons_of_mem _ (List.mem_append_left _ (List.mem_append_left _ (List.mem_append_left _ (List.mem_append_right _ h)))))) tbF_RX5_146 rfl dX5_decide_26 ?_
      exact g_vret E hE hr dX5_decide_29 (Nat.le_of_ble_eq_true rfl) (Nat.le_of_ble_eq_true rfl) ⟨_, rfl, rfl, _, _, ho, hcz, PD_ref hI hO hqm hqk hp2 c_21⟩
set_option maxHeartbeats 4000000 in
set_option maxRecDepth 100000 in
theorem m_X5_decide_S (l : Launch) (hl : l.stackTraces = false) (D : va_G) (cy : Nat → ClassId) (e0 : Nat) {S : wS} {c : Nat → Nat} {ad : Nat → Nat → Nat} {i : Nat → Nat → Int32} {j : Nat → Nat → Int64} {p : Nat → Nat → Option Nat} {r : Nat → Nat → Int32} (hI : CI e0 S c ad i j p r) {q ap : Nat} (hqm : q ∈ sL S) (hqk : sK S q = 2) (hap : sI S 6 q = nI ap) (hap6 : ap < 6) (hO : OUT c ad q) (hc1 : c 1 < 40) (hp2 : sP S 2 q = none) {z : Nat} (hpn : sP S 1 q = some (ad 2 z)) (hz : z < c 2) : cMet l yX5_decide wsX5_decide rm_X5_decide D cy e0 [.ref (ad 5 0), .ref (q)] S (fun v S' => v = none ∧ ∃ o cz, o = (if sI S 10 q = 0 then fstM (metF i p (sI S 7 q) (sI S 8 q) (sI S 9 q)) (c 2) else none) ∧ cz = (match o with | none => (cau (bI (sI S 10 q = 0 ∧ sI S 8 q < i 18 0 + (2 + 3 * r 3 ap))) (bI (i 11 z = 1 ∨ i 11 z = 4 ∨ sI S 8 q < ((p 2 z).elim (i 9 z) (i 4)))) 0 (bI (sI S 10 q = 0 ∧ 0 < cntI (fun k => none ≠ some k ∧ i 2 k = (sI S 7 q) ∧ ¬ j 1 k = 0 ∧ i 3 k / 500 = ((sI S 8 q) / 500)) (c 1)))) | some y => (cau (bI (sI S 10 q = 0 ∧ sI S 8 q < i 18 0 + (2 + 3 * r 3 ap))) (bI (i 11 z = 1 ∨ i 11 z = 4 ∨ sI S 8 q < ((p 2 z).elim (i 9 z) (i 4)))) (bI ((40 : Int32) < mxI (i 4 y) (sI S 9 q) - mnI (i 3 y) (sI S 8 q))) (bI (sI S 10 q = 0 ∧ 0 < cntI (fun k => (some y) ≠ some k ∧ i 2 k = (sI S 7 q) ∧ ¬ j 1 k = 0 ∧ i 3 k / 500 = ((mnI (i 3 y) (sI S 8 q)) / 500)) (c 1))))) ∧ PD e0 S c ad i j p r q o cz S') (fun _ _ => False) 2 1004 := by
  refine gMet.of (cc := cX5_decide) (maxL := 4) (ret := none) hl (by decide) rfl (Nat.le_of_ble_eq_true rfl) ?_
  intro C E h1 h2 h3 hr hnm hT hE
  subst h1; subst h2; subst h3
  have E : gOk C cX5_decide 4 wsX5_decide RX5 e0 rm_X5_decide := E
  show G C (cW (xy C) S) 0 0 0 [(0, .ref (ad 5 0)), (1, .ref (q))] []
  refine g_aload_n E dX5_decide_0 rfl 0 rfl ?_
  refine g_aload_n E dX5_decide_1 rfl 1 rfl ?_
  refine c_invV (n := 1) (rest := []) E (m_X5_openingMetBy (xl C) E.tr (xD C) (xy C) e0 hI hqm hqk) (hI.obj (kd := 5) (k := 0) (by omega) hI.c5).1 gX5_decide_X5_openingMetBy rfl rfl rfl (by decide +kernel) ⟨Nat.le_of_ble_eq_true rfl, Nat.le_of_ble_eq_true rfl⟩ (wF_PW (hI.obj (kd := 5) (k := 0) (by omega) hI.c5).2) rfl rfl rfl rfl (Nat.le_of_ble_eq_true rfl) dX5_decide_2 ⟨Nat.le_of_ble_eq_true rfl, Nat.le_of_ble_eq_true rfl⟩ (fun _ _ h9 => h9.elim) (fun v9 S9_2 h9 => ?_)
  obtain ⟨o, hv9, ho, hoc, hS9⟩ := h9
  rw [hv9, hS9]
  rcases o with - | y
  · show G C (cW (xy C) S) 0 0 5 [(0, .ref (ad 5 0)), (1, .ref (q))] [.null]
    refine g_astore_nN (L' := [(2, .null), (0, .ref (ad 5 0)), (1, .ref (q))]) E dX5_decide_5 rfl (by decide) rfl ?_
    refine g_aload_n E dX5_decide_6 rfl 2 rfl ?_
    refine g_aload_n E dX5_decide_7 rfl 1 rfl ?_
    refine g_aload_n E dX5_decide_8 rfl 2 rfl ?_
    refine g_aload_nN E dX5_decide_9 rfl 0 rfl ?_
    refine c_invV (n := 2) (rest := [.ref (q)]) E (m_X5_causeAgainst_NS (xl C) E.tr (xD C) (xy C) e0 hI hqm hqk hap hap6 hpn hz) (hI.obj (kd := 5) (k := 0) (by omega) hI.c5).1 gX5_decide_X5_causeAgainst rfl rfl rfl (by decide +kernel) ⟨Nat.le_of_ble_eq_true rfl, Nat.le_of_ble_eq_true rfl⟩ (wF_PW (hI.obj (kd := 5) (k := 0) (by omega) hI.c5).2) rfl rfl rfl rfl (Nat.le_of_ble_eq_true rfl) dX5_decide_10 ⟨Nat.le_of_ble_eq_true rfl, Nat.le_of_ble_eq_true rfl⟩ (fun _ _ h9 => h9.elim) (fun v9 S9_10 h9 => ?_)
    obtain ⟨hv9, hS9⟩ := h9
    have hcz : ∃ cz, cz = (cau (bI (sI S 10 q = 0 ∧ sI S 8 q < i 18 0 + (2 + 3 * r 3 ap))) (bI (i 11 z = 1 ∨ i 11 z = 4 ∨ sI S 8 q < ((p 2 z).elim (i 9 z) (i 4)))) 0 (bI (sI S 10 q = 0 ∧ 0 < cntI (fun k => none ≠ some k ∧ i 2 k = (sI S 7 q) ∧ ¬ j 1 k = 0 ∧ i 3 k / 500 = ((sI S 8 q) / 500)) (c 1)))) := ⟨_, rfl⟩
    obtain ⟨cz, hcz⟩ := hcz
    rw [hv9, hS9, ← hcz]
    show G C (cW (xy C) S) 0 0 13 [(2, .null), (0, .ref (ad 5 0)), (1, .ref (q))] [.int (cz), .ref (q)]
    refine p_putN_Permit_cause (S := S) (v := cz) E hqm hqk (fun _ h => (List.mem_cons_of_mem _ (List.mem_append_left _ (List.mem_append_left _ (List.mem_append_left _ (List.mem_append_right _ h)))))) tbF_RX5_179 rfl dX5_decide_13 ?_
    refine g_aload_n E dX5_decide_16 rfl 2 rfl ?_
    refine p_getN_Permit_cause (S := (uI S 12 (q) (cz))) E hqm hqk (fun _ h => (List.mem_cons_of_mem _ (List.mem_append_left _ (List.mem_append_left _ (List.mem_append_left _ (List.mem_append_right _ h)))))) tbF_RX5_179 dX5_decide_17 ?_
    rw [show sI (uI S 12 (q) (cz)) 12 (q) = cz from up2_self _ _ _ _]
    show G C (cW (xy C) (uI S 12 (q) (cz))) 0 0 20 [(2, .null), (0, .ref (ad 5 0)), (1, .ref (q))] [.int (cz)]
    refine g_iconst (v := (-1)) E dX5_decide_20 (by decide) ?_
    refine g_icmp_eq (tgt := 30) E dX5_decide_21 (by decide) (fun c_21 => ?_) (fun c_21 => ?_)
    · subst c_21
      refine g_aload_nN E dX5_decide_30 rfl 0 rfl ?_
      refine g_astore_nN (L' := [(3, .null), (2, .null), (0, .ref (ad 5 0)), (1, .ref (q))]) E dX5_decide_31 rfl (by decide) rfl ?_
      refine g_aload_nN E dX5_decide_32 rfl 0 rfl ?_
      refine g_ifnonnullN E dX5_decide_33 ?_
      refine p_new_Opening E (fun _ h => (List.mem_cons_of_mem _ (List.mem_append_left _ (List.mem_append_left _ (List.mem_append_right _ h))))) (List.mem_cons_of_mem _ (List.mem_append_left _ (List.mem_append_left _ (List.mem_append_left _ (List.mem_append_left _ (List.mem_append_left _ (List.mem_of_getElem? (i := 0) rfl))))))) (List.mem_cons_of_mem _ (List.mem_append_left _ (List.mem_append_left _ (List.mem_append_left _ (List.mem_append_left _ (List.mem_append_left _ (List.mem_of_getElem? (i := 1) rfl))))))) (List.mem_cons_of_mem _ (List.mem_append_left _ (List.mem_append_left _ (List.mem_append_left _ (List.mem_append_left _ (List.mem_append_left _ (List.mem_of_getElem? (i := 2) rfl))))))) (Nat.le_of_ble_eq_true rfl) (Nat.le_of_ble_eq_true rfl) dX5_decide_36 (fun q_36 hq_36 => ?_)
      have hneq := ne_of_new (S := (uI S 12 q (-1))) (by rw [sl_uI]; exact hqm) hq_36
      show G C (cW (xy C) (nw (uI S 12 q (-1)) q_36 1 0)) 1 4 39 [(3, .null), (2, .null), (0, .ref (ad 5 0)), (1, .ref (q))] [.ref (q_36)]
      refine g_dup E dX5_decide_39 rfl ?_
      refine g_aload_n E dX5_decide_40 rfl 3 rfl ?_
      refine p_getN_Permit_lane (S := (nw (uI S 12 q (-1)) q_36 1 0)) E (nw_mem (k := 1) (n := 0) (show q ∈ sL (uI S 12 q (-1)) by rw [sl_uI]; exact hqm)) ((nw_K (k := 1) (n := 0) hneq).trans (show sK (uI S 12 q (-1)) q = 2 by rw [sk_uI]; exact hqk)) (fun _ h => (List.mem_cons_of_mem _ (List.mem_append_left _ (List.mem_append_left _ (List.mem_append_left _ (List.mem_append_right _ h)))))) tbF_RX5_241 dX5_decide_41 ?_
      rw [show sI (nw (uI S 12 q (-1)) q_36 1 0) 7 (q) = sI S 7 q from (nw_I hneq).trans (show up2 S.2.2.1 12 q (-1) 7 q = _ by rw [up2_nf (by decide)])]
      show G C (cW (xy C) (nw (uI S 12 q (-1)) q_36 1 0)) 1 4 44 [(3, .null), (2, .null), (0, .ref (ad 5 0)), (1, .ref (q))] [.int ((sI S 7 q)), .ref (q_36), .ref (q_36)]
      refine g_aload_n E dX5_decide_44 rfl 3 rfl ?_
      refine p_getN_Permit_appliedFrom (S := (nw (uI S 12 q (-1)) q_36 1 0)) E (nw_mem (k := 1) (n := 0) (show q ∈ sL (uI S 12 q (-1)) by rw [sl_uI]; exact hqm)) ((nw_K (k := 1) (n := 0) hneq).trans (show sK (uI S 12 q (-1)) q = 2 by rw [sk_uI]; exact hqk)) (fun _ h => (List.mem_cons_of_mem _ (List.mem_append_left _ (List.mem_append_left _ (List.mem_append_left _ (List.mem_append_right _ h)))))) tbF_RX5_261 dX5_decide_45 ?_
      rw [show sI (nw (uI S 12 q (-1)) q_36 1 0) 8 (q) = sI S 8 q from (nw_I hneq).trans (show up2 S.2.2.1 12 q (-1) 8 q = _ by rw [up2_nf (by decide)])]
      show G C (cW (xy C) (nw (uI S 12 q (-1)) q_36 1 0)) 1 4 48 [(3, .null), (2, .null), (0, .ref (ad 5 0)), (1, .ref (q))] [.int ((sI S 8 q)), .int ((sI S 7 q)), .ref (q_36), .ref (q_36)]
      refine g_aload_n E dX5_decide_48 rfl 3 rfl ?_
      refine p_getN_Permit_appliedEnd (S := (nw (uI S 12 q (-1)) q_36 1 0)) E (nw_mem (k := 1) (n := 0) (show q ∈ sL (uI S 12 q (-1)) by rw [sl_uI]; exact hqm)) ((nw_K (k := 1) (n := 0) hneq).trans (show sK (uI S 12 q (-1)) q = 2 by rw [sk_uI]; exact hqk)) (fun _ h => (List.mem_cons_of_mem _ (List.mem_append_left _ (List.mem_append_left _ (List.mem_append_left _ (List.mem_append_right _ h)))))) tbF_RX5_264 dX5_decide_49 ?_
      rw [show sI (nw (uI S 12 q (-1)) q_36 1 0) 9 (q) = sI S 9 q from (nw_I hneq).trans (show up2 S.2.2.1 12 q (-1) 9 q = _ by rw [up2_nf (by decide)])]
      show G C (cW (xy C) (nw (uI S 12 q (-1)) q_36 1 0)) 1 4 52 [(3, .null), (2, .null), (0, .ref (ad 5 0)), (1, .ref (q))] [.int ((sI S 9 q)), .int ((sI S 8 q)), .int ((sI S 7 q)), .ref (q_36), .ref (q_36)]
      refine c_invI (n := 3) (rest := [.ref (q_36)]) E (m_X1_init (xl C) E.tr (xD C) (xy C) e0 (S := (nw (uI S 12 q (-1)) q_36 1 0)) (nw_own (k := 1) (n := 0)) (nw_Ko (k := 1) (n := 0))) gX5_decide_X1_init rfl rfl rfl (List.mem_cons_of_mem _ (List.mem_append_left _ (List.mem_append_left _ (List.mem_append_left _ (List.mem_append_left _ (List.mem_append_left _ (List.mem_of_getElem? (i := 2) rfl))))))) (List.mem_cons_of_mem _ (List.mem_append_left _ (List.mem_append_left _ (List.mem_append_left _ (List.mem_append_left _ (List.mem_append_right _ (List.mem_append_right _ (List.mem_append_right _ (List.mem_append_left _ (List.mem_of_getElem? (i := 22) rfl)))))))))) (List.mem_cons_of_mem _ (List.mem_append_left _ (List.mem_append_left _ (List.mem_append_left _ (List.mem_append_left _ (List.mem_append_right _ (List.mem_append_right _ (List.mem_append_right _ (List.mem_append_left _ (List.mem_of_getElem? (i := 23) rfl)))))))))) rfl (by decide +kernel) ⟨Nat.le_of_ble_eq_true rfl, Nat.le_of_ble_eq_true rfl⟩ rfl rfl (Nat.le_of_ble_eq_true rfl) dX5_decide_52 ⟨Nat.le_of_ble_eq_true rfl, Nat.le_of_ble_eq_true rfl⟩ (fun _ _ h9 => h9.elim) (fun v9 S9_52 h9 => ?_)
      obtain ⟨hv9, hS9⟩ := h9
      rw [hv9, hS9]
      refine g_e0 E (fun he3 => ?_)
      have hF13 : FR (uI S 12 q (-1)) (iOp (nw (uI S 12 q (-1)) q_36 1 0) q_36 (sI S 7 q) (sI S 8 q) (sI S 9 q)) (fun x => x = q_36) := FR.tr (FR.tr (FR.tr (FR.nw hq_36) FR.uI (fun _ _ h => h.elim) (fun _ _ h => h)) FR.uI (fun _ _ h => h) (fun _ _ h => h)) FR.uI (fun _ _ h => h) (fun _ _ h => h)
      have hI1 : CI e0 (uI S 12 q (-1)) c ad i j p r := hI.outq (FR.uI (a := q)) hO hI.apart.2
      have hm3 : q_36 ∈ sL (iOp (nw (uI S 12 q (-1)) q_36 1 0) q_36 (sI S 7 q) (sI S 8 q) (sI S 9 q)) := by unfold iOp; rw [sl_uI, sl_uI, sl_uI]; exact nw_own (k := 1) (n := 0)
      have hk3 : sK (iOp (nw (uI S 12 q (-1)) q_36 1 0) q_36 (sI S 7 q) (sI S 8 q) (sI S 9 q)) q_36 = 1 := by unfold iOp; rw [sk_uI, sk_uI, sk_uI]; exact nw_Ko (k := 1) (n := 0)
      have hI3 : CI e0 (iOp (nw (uI S 12 q (-1)) q_36 1 0) q_36 (sI S 7 q) (sI S 8 q) (sI S 9 q)) c ad i j p r := hI1.outq hF13 (OUT.new hI1 hq_36 (fun e => he3 (e ▸ hm3))) he3
      have hqm3 : q ∈ sL (iOp (nw (uI S 12 q (-1)) q_36 1 0) q_36 (sI S 7 q) (sI S 8 q) (sI S 9 q)) := hF13.1 q (by rw [sl_uI]; exact hqm)
      have hqk3 : sK (iOp (nw (uI S 12 q (-1)) q_36 1 0) q_36 (sI S 7 q) (sI S 8 q) (sI S 9 q)) q = 2 := (hF13.2 q (by rw [sl_uI]; exact hqm) hneq).1.trans (by rw [sk_uI]; exact hqk)
      show G C (cW (xy C) (iOp (nw (uI S 12 q (-1)) q_36 1 0) q_36 (sI S 7 q) (sI S 8 q) (sI S 9 q))) 1 4 55 [(3, .null), (2, .null), (0, .ref (ad 5 0)), (1, .ref (q))] [.ref (q_36)]
      refine g_astore_n (L' := [(3, .ref (q_36)), (2, .null), (0, .ref (ad 5 0)), (1, .ref (q))]) E dX5_decide_55 rfl (by decide) rfl ?_
      refine g_aload_n E dX5_decide_56 rfl 2 rfl ?_
      refine q_get_PW_allOpenings E hI3 (fun _ h => (List.mem_cons_of_mem _ (List.mem_append_left _ (List.mem_append_right _ h)))) (List.mem_cons_of_mem _ (List.mem_append_left _ (List.mem_append_left _ (List.mem_append_left _ (List.mem_append_left _ (List.mem_append_left _ (List.mem_of_getElem? (i := 3) rfl))))))) dX5_decide_57 ?_
      refine g_aload_n E dX5_decide_60 rfl 0 rfl ?_
      refine c_invV (n := 1) (rest := []) E (m_add (xl C) E.tr (xD C) (xy C) e0 (S := (iOp (nw (uI S 12 q (-1)) q_36 1 0) q_36 (sI S 7 q) (sI S 8 q) (sI S 9 q))) (kd := 1) hI3.lists.2.2 hc1 (by decide) hm3 hk3 (fun k hk => hI3.obj (kd := 1) (by omega) hk)) (hI3.obj (kd := 6) (k := 2) (by omega) (by have := hI3.cnt; omega)).1 gX5_decide_Jx4a65c_add_9ea2d rfl rfl rfl (by decide +kernel) ⟨Nat.le_of_ble_eq_true rfl, Nat.le_of_ble_eq_true rfl⟩ (wF_AL (hI3.obj (kd := 6) (k := 2) (by omega) (by have := hI3.cnt; omega)).2) rfl rfl rfl rfl (Nat.le_of_ble_eq_true rfl) dX5_decide_61 ⟨Nat.le_of_ble_eq_true rfl, Nat.le_of_ble_eq_true rfl⟩ (fun _ _ h9 => h9.elim) (fun v9 S9_61 h9 => ?_)
      obtain ⟨hv9, d9, hL9, hF9, hd9⟩ := h9
      rw [hv9]
      refine g_e0 E (fun he9 => ?_)
      have hXq : ¬ (q = ad 6 2 ∨ q = ad 8 2) := by
        rintro (h | h)
        · exact hO.1 6 2 (by omega) (by have := hI.cnt; omega) h.symm
        · exact hO.2.2 2 (by omega) h.symm
      have hX2 : ¬ (q_36 = ad 6 2 ∨ q_36 = ad 8 2) := by
        rintro (h | h)
        · exact hq_36 (h ▸ (hI1.obj (kd := 6) (k := 2) (by omega) (by have := hI.cnt; omega)).1)
        · rcases hI1.arr8 (t := 2) (by omega) with g | g
          · exact he3 (by rw [← g, ← h]; exact hm3)
          · exact hq_36 (h ▸ g.1)
      have hm9 := hF9.1 q_36 hm3
      have hk9 := (hF9.2 q_36 hm3 hX2).1.trans hk3
      have hqm9 := hF9.1 q hqm3
      have hqk9 := (hF9.2 q hqm3 hXq).1.trans hqk3
      show G C (cW (xy C) S9_61) 2 1004 64 [(3, .ref (q_36)), (2, .null), (0, .ref (ad 5 0)), (1, .ref (q))] [.int (1)]
      refine g_pop E dX5_decide_64 rfl ?_
      refine g_aload_n E dX5_decide_65 rfl 0 rfl ?_
      refine g_aload_n E dX5_decide_66 rfl 3 rfl ?_
      refine c_invV (n := 1) (rest := []) E (m_X1_admit (xl C) E.tr (xD C) (xy C) e0 (S := S9_61) hm9 hk9 hqm9 hqk9) hm9 gX5_decide_X1_admit rfl rfl rfl (by decide +kernel) ⟨Nat.le_of_ble_eq_true rfl, Nat.le_of_ble_eq_true rfl⟩ (wF_Opening hk9) rfl rfl rfl rfl (Nat.le_of_ble_eq_true rfl) dX5_decide_67 ⟨Nat.le_of_ble_eq_true rfl, Nat.le_of_ble_eq_true rfl⟩ (fun _ _ h9 => h9.elim) (fun v9 S9_67 h9 => ?_)
      obtain ⟨hv9, hS9⟩ := h9
      rw [hv9, hS9]
      show G C (cW (xy C) (uJ (uI (uI S9_61 3 q_36 (mnI (sI S9_61 3 q_36) (sI S9_61 8 q))) 4 q_36 (mxI (sI S9_61 4 q_36) (sI S9_61 9 q))) 1 q_36 (sJ S9_61 1 q_36 ||| bitJ (sI S9_61 5 q)))) 2 1004 70 [(3, .ref (q_36)), (2, .null), (0, .ref (ad 5 0)), (1, .ref (q))] []
      refine g_aload_n E dX5_decide_70 rfl 3 rfl ?_
      refine g_aload_n E dX5_decide_71 rfl 0 rfl ?_
      refine p_putN_Permit_opening (S := (uJ (uI (uI S9_61 3 q_36 (mnI (sI S9_61 3 q_36) (sI S9_61 8 q))) 4 q_36 (mxI (sI S9_61 4 q_36) (sI S9_61 9 q))) 1 q_36 (sJ S9_61 1 q_36 ||| bitJ (sI S9_61 5 q)))) (v := (some (q_36))) E (by rw [sl_uJ, sl_uI, sl_uI]; exact hqm9) (by rw [sk_uJ, sk_uI, sk_uI]; exact hqk9) (fun _ h => (List.mem_cons_of_mem _ (List.mem_append_left _ (List.mem_append_left _ (List.mem_append_left _ (List.mem_append_right _ h)))))) tbF_RX5_185 rfl dX5_decide_72 ?_
      exact g_vret E hE hr dX5_decide_75 (Nat.le_of_ble_eq_true rfl) (Nat.le_of_ble_eq_true rfl) ⟨_, rfl, rfl, _, _, ho, hcz, PD_new hI hO hqm hqk hc1 hq_36 rfl rfl rfl hL9 hF9 hd9 he9⟩
    · refine g_aload_n E dX5_decide_24 rfl 2 rfl ?_
      refine g_iconst (v := 1) E dX5_decide_25 (by decide) ?_
      refine p_putN_Permit_state (S := (uI S 12 (q) (cz))) (v := 1) E hqm hqk (fun _ h => (List.mem_cons_of_mem _ (List.mem_append_left _ (List.mem_append_left _ (List.mem_append_left _ (List.mem_append_right _ h)))))) tbF_RX5_146 rfl dX5_decide_26 ?_
      exact g_vret E hE hr dX5_decide_29 (Nat.le_of_ble_eq_true rfl) (Nat.le_of_ble_eq_true rfl) ⟨_, rfl, rfl, _, _, ho, hcz, PD_ref hI hO hqm hqk hp2 c_21⟩
  · have hy := hoc y rfl
    show G C (cW (xy C) S) 0 0 5 [(0, .ref (ad 5 0)), (1, .ref (q))] [.ref (ad 1 y)]
    refine g_astore_n (L' := [(2, .ref (ad 1 y)), (0, .ref (ad 5 0)), (1, .ref (q))]) E dX5_decide_5 rfl (by decide) rfl ?_
    refine g_aload_n E dX5_decide_6 rfl 2 rfl ?_
    refine g_aload_n E dX5_decide_7 rfl 1 rfl ?_
    refine g_aload_n E dX5_decide_8 rfl 2 rfl ?_
    refine g_aload_n E dX5_decide_9 rfl 0 rfl ?_
    refine c_invV (n := 2) (rest := [.ref (q)]) E (m_X5_causeAgainst_SS (xl C) E.tr (xD C) (xy C) e0 hI hqm hqk hap hap6 hpn hz hy) (hI.obj (kd := 5) (k := 0) (by omega) hI.c5).1 gX5_decide_X5_causeAgainst rfl rfl rfl (by decide +kernel) ⟨Nat.le_of_ble_eq_true rfl, Nat.le_of_ble_eq_true rfl⟩ (wF_PW (hI.obj (kd := 5) (k := 0) (by omega) hI.c5).2) rfl rfl rfl rfl (Nat.le_of_ble_eq_true rfl) dX5_decide_10 ⟨Nat.le_of_ble_eq_true rfl, Nat.le_of_ble_eq_true rfl⟩ (fun _ _ h9 => h9.elim) (fun v9 S9_10 h9 => ?_)
    obtain ⟨hv9, hS9⟩ := h9
    have hcz : ∃ cz, cz = (cau (bI (sI S 10 q = 0 ∧ sI S 8 q < i 18 0 + (2 + 3 * r 3 ap))) (bI (i 11 z = 1 ∨ i 11 z = 4 ∨ sI S 8 q < ((p 2 z).elim (i 9 z) (i 4)))) (bI ((40 : Int32) < mxI (i 4 y) (sI S 9 q) - mnI (i 3 y) (sI S 8 q))) (bI (sI S 10 q = 0 ∧ 0 < cntI (fun k => (some y) ≠ some k ∧ i 2 k = (sI S 7 q) ∧ ¬ j 1 k = 0 ∧ i 3 k / 500 = ((mnI (i 3 y) (sI S 8 q)) / 500)) (c 1)))) := ⟨_, rfl⟩
    obtain ⟨cz, hcz⟩ := hcz
    rw [hv9, hS9, ← hcz]
    show G C (cW (xy C) S) 0 0 13 [(2, .ref (ad 1 y)), (0, .ref (ad 5 0)), (1, .ref (q))] [.int (cz), .ref (q)]
    refine p_putN_Permit_cause (S := S) (v := cz) E hqm hqk (fun _ h => (List.mem_cons_of_mem _ (List.mem_append_left _ (List.mem_append_left _ (List.mem_append_left _ (List.mem_append_right _ h)))))) tbF_RX5_179 rfl dX5_decide_13 ?_
    refine g_aload_n E dX5_decide_16 rfl 2 rfl ?_
    refine p_getN_Permit_cause (S := (uI S 12 (q) (cz))) E hqm hqk (fun _ h => (List.mem_cons_of_mem _ (List.mem_append_left _ (List.mem_append_left _ (List.mem_append_left _ (List.mem_append_right _ h)))))) tbF_RX5_179 dX5_decide_17 ?_
    rw [show sI (uI S 12 (q) (cz)) 12 (q) = cz from up2_self _ _ _ _]
    show G C (cW (xy C) (uI S 12 (q) (cz))) 0 0 20 [(2, .ref (ad 1 y)), (0, .ref (ad 5 0)), (1, .ref (q))] [.int (cz)]
    refine g_iconst (v := (-1)) E dX5_decide_20 (by decide) ?_
    refine g_icmp_eq (tgt := 30) E dX5_decide_21 (by decide) (fun c_21 => ?_) (fun c_21 => ?_)
    · subst c_21
      refine g_aload_n E dX5_decide_30 rfl 0 rfl ?_
      refine g_astore_n (L' := [(3, .ref (ad 1 y)), (2, .ref (ad 1 y)), (0, .ref (ad 5 0)), (1, .ref (q))]) E dX5_decide_31 rfl (by decide) rfl ?_
      refine g_aload_n E dX5_decide_32 rfl 0 rfl ?_
      refine g_ifnonnull (tgt := 65) E dX5_decide_33 (by decide) ?_
      refine g_aload_n E dX5_decide_65 rfl 0 rfl ?_
      refine g_aload_n E dX5_decide_66 rfl 3 rfl ?_
      refine c_invV (n := 1) (rest := []) E (m_admit_y (xl C) E.tr (xD C) (xy C) e0 hI hO hqm hqk hy) (hI.obj (kd := 1) (k := y) (by omega) hy).1 gX5_decide_X1_admit rfl rfl rfl (by decide +kernel) ⟨Nat.le_of_ble_eq_true rfl, Nat.le_of_ble_eq_true rfl⟩ (wF_Opening (hI.obj (kd := 1) (k := y) (by omega) hy).2) rfl rfl rfl rfl (Nat.le_of_ble_eq_true rfl) dX5_decide_67 ⟨Nat.le_of_ble_eq_true rfl, Nat.le_of_ble_eq_true rfl⟩ (fun _ _ h9 => h9.elim) (fun v9 S9_67 h9 => ?_)
      obtain ⟨hv9, hS9⟩ := h9
      rw [hv9, hS9]
      show G C (cW (xy C) (uJ (uI (uI (uI S 12 q (-1)) 3 (ad 1 y) (mnI (i 3 y) (sI S 8 q))) 4 (ad 1 y) (mxI (i 4 y) (sI S 9 q))) 1 (ad 1 y) (j 1 y ||| bitJ (sI S 5 q)))) 0 0 70 [(3, .ref (ad 1 y)), (2, .ref (ad 1 y)), (0, .ref (ad 5 0)), (1, .ref (q))] []
      refine g_aload_n E dX5_decide_70 rfl 3 rfl ?_
      refine g_aload_n E dX5_decide_71 rfl 0 rfl ?_
      refine p_putN_Permit_opening (S := (uJ (uI (uI (uI S 12 q (-1)) 3 (ad 1 y) (mnI (i 3 y) (sI S 8 q))) 4 (ad 1 y) (mxI (i 4 y) (sI S 9 q))) 1 (ad 1 y) (j 1 y ||| bitJ (sI S 5 q)))) (v := (some (ad 1 y))) E (by rw [sl_uJ, sl_uI, sl_uI, sl_uI]; exact hqm) (by rw [sk_uJ, sk_uI, sk_uI, sk_uI]; exact hqk) (fun _ h => (List.mem_cons_of_mem _ (List.mem_append_left _ (List.mem_append_left _ (List.mem_append_left _ (List.mem_append_right _ h)))))) tbF_RX5_185 rfl dX5_decide_72 ?_
      exact g_vret E hE hr dX5_decide_75 (Nat.le_of_ble_eq_true rfl) (Nat.le_of_ble_eq_true rfl) ⟨_, rfl, rfl, _, _, ho, hcz, PD_join hI hO hqm hqk hy⟩
    · refine g_aload_n E dX5_decide_24 rfl 2 rfl ?_
      refine g_iconst (v := 1) E dX5_decide_25 (by decide) ?_
      refine p_putN_Permit_state (S := (uI S 12 (q) (cz))) (v := 1) E hqm hqk (fun _ h => (List.mem_cons_of_mem _ (List.mem_append_left _ (List.mem_append_left _ (List.mem_append_left _ (List.mem_append_right _ h)))))) tbF_RX5_146 rfl dX5_decide_26 ?_
      exact g_vret E hE hr dX5_decide_29 (Nat.le_of_ble_eq_true rfl) (Nat.le_of_ble_eq_true rfl) ⟨_, rfl, rfl, _, _, ho, hcz, PD_ref hI hO hqm hqk hp2 c_21⟩
