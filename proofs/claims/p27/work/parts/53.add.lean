/-! a list takes one more; the class's pool takes one more -/
theorem g_e0 {C : gT} {cc : ByteArray} {nL : Nat} {Ts : List Cond} {own : String} {e0 : Nat} {rm : Room} {S : wS} {mc ms pc : Nat} {L : List (Nat × Value)} {st : List Value} (E : gOk C cc nL Ts own e0 rm) (k : e0 ∉ sL S → G C (cW (xy C) S) mc ms pc L st) : G C (cW (xy C) S) mc ms pc L st := fun H locs ls hP hD hS hL =>
  k (fun h => by
    obtain ⟨q, hq⟩ := cW_get (cy := xy C) h
    obtain ⟨cell, -, -, -, -, -, -, hn⟩ := E.ev.2.2.2.2.2.1
    exact hn (hD.2 q _ hq)) H locs ls hP hD hS hL
theorem kd3 {kd : Nat} (h : kd < 3) : ∃ qc, vwCl[kd + 1]? = some qc ∧ Cond.castable qc.1 "java/lang/Object" ∈ lw_tbl := by
  rcases (show kd = 0 ∨ kd = 1 ∨ kd = 2 by omega) with rfl | rfl | rfl
  · exact ⟨_, rfl, tbC_Line⟩
  · exact ⟨_, rfl, tbC_Opening⟩
  · exact ⟨_, rfl, tbC_Permit⟩
theorem wF_kd {cy : Nat → ClassId} {S : wS} {a kd : Nat} (h : kd < 3) (hk : sK S a = kd) : ∃ fs, wF cy S a = .inr (kd + 1, fs) := by
  rcases (show kd = 0 ∨ kd = 1 ∨ kd = 2 by omega) with rfl | rfl | rfl
  · exact ⟨_, wF_Line hk⟩
  · exact ⟨_, wF_Opening hk⟩
  · exact ⟨_, wF_Permit hk⟩
def snoc (e : Nat → Nat) (n b : Nat) : Nat → Nat := fun k => if k = n then b else e k
theorem snoc_n {e : Nat → Nat} {n b : Nat} : snoc e n b n = b := if_pos rfl
theorem snoc_o {e : Nat → Nat} {n b k : Nat} (h : k ≠ n) : snoc e n b k = e k := if_neg h
def pAdd (e0 : Nat) (S : wS) (lq d n b : Nat) (e : Nat → Nat) (v : Option Value) (S' : wS) : Prop := v = some (.int 1) ∧ ∃ d', okL e0 S' lq d' (n + 1) (snoc e n b) ∧ FR S S' (fun x => x = lq ∨ x = d) ∧ (d' = d ∨ d' ∉ sL S)
theorem m_add (l : Launch) (hl : l.stackTraces = false) (D : va_G) (cy : Nat → ClassId) (e0 : Nat) {S : wS} {lq d n b kd : Nat} {e : Nat → Nat} (hL : okL e0 S lq d n e) (hn : n < 40) (hkd : kd < 3) (hb : b ∈ sL S) (hbk : sK S b = kd) (he : ∀ k, k < n → e k ∈ sL S ∧ sK S (e k) = kd) :
    cMet l yJx4a65c_add_9ea2d wsJx4a65c_add_9ea2d rm_Jx4a65c_add_9ea2d D cy e0 [.ref lq, .ref b] S (pAdd e0 S lq d n b e) (fun _ _ => False) 1 1000 := by
  obtain ⟨hlq, hlk, hsz, hn40, hd, hq⟩ := hL
  obtain ⟨qc, hqc, hca⟩ := kd3 hkd
  obtain ⟨fb, hbF⟩ := wF_kd (cy := cy) hkd hbk
  have hbl : b ≠ lq := fun q => by rw [q, hlk] at hbk; omega
  rcases hq with ⟨hn0, hd0⟩ | ⟨hdm, hdk, hdn, hdN, hde⟩
  · subst hn0
    subst hd0
    refine cMet.imp (m_add_A l hl D cy d hlq hlk hb hbF hqc hca hd (hsz.trans nI_0) hbl) (fun v S' h => ?_)
    obtain ⟨hv, q, hq, rfl⟩ := h
    have hlq' := ne_of_new hlq hq
    refine ⟨hv, q, ⟨nw_mem (k := 8) (n := 10) hlq, (nw_K (k := 8) (n := 10) hlq').trans hlk, up2_self _ _ _ _, by omega, up2_self _ _ _ _, Or.inr ⟨nw_own (k := 8) (n := 10), nw_Ko (k := 8) (n := 10), ?_, ?_, fun k hk => ?_⟩⟩, ?_, Or.inr hq⟩
    · exact Nat.le_trans (show 0 + 1 ≤ 10 by omega) (Nat.le_of_eq (nw_No (S := uI S 19 lq (sI S 19 lq + 1)) (q := q) (k := 8) (n := 10)).symm)
    · exact ⟨Nat.le_of_eq (nw_No (S := uI S 19 lq (sI S 19 lq + 1)) (q := q) (k := 8) (n := 10)).symm, Nat.le_trans (Nat.le_of_eq (nw_No (S := uI S 19 lq (sI S 19 lq + 1)) (q := q) (k := 8) (n := 10))) (by omega)⟩
    · rw [show k = 0 by omega, snoc_n]; exact up2_self _ _ _ _
    · refine FR.tr (FR.tr (FR.tr (FR.tr FR.uI (FR.nw hq) (fun _ _ h => Or.inl h) (fun _ _ h => h.elim)) (FR.uP (a := lq)) (fun _ _ h => h) (fun _ _ h => Or.inl h)) (FR.uQ (a := q)) (fun _ _ h => h) (fun x hx h => absurd (h ▸ hx) hq)) (FR.uI (a := lq)) (fun _ _ h => h) (fun _ _ h => Or.inl h)
  · by_cases hf : n < sN S d
    · refine cMet.imp (m_add_B l hl D cy e0 hlq hlk hb hbF hqc hca hd hdm hdk hf hdN.2 hsz hbl) (fun v S' h => ?_)
      obtain ⟨hv, rfl⟩ := h
      refine ⟨hv, d, ⟨hlq, hlk, up2_self _ _ _ _, by omega, hd, Or.inr ⟨hdm, hdk, hf, hdN, fun k hk => ?_⟩⟩, ?_, Or.inl rfl⟩
      · by_cases q : k = n
        · rw [q, snoc_n]; exact up2_self _ _ _ _
        · rw [snoc_o q]; exact (up2_na q).trans (hde k (by omega))
      · exact FR.tr (FR.tr FR.uI (FR.uQ (a := d)) (fun _ _ h => Or.inl h) (fun _ _ h => Or.inr h)) (FR.uI (a := lq)) (fun _ _ h => h) (fun _ _ h => Or.inl h)
    · have hfe : sN S d = n := by omega
      have hel : ∀ k, k < sN S d → ∀ y, sQ S d k = some y → y ∈ sL S ∧ ∃ fs, wF cy S y = .inr (kd + 1, fs) := fun k hk y hy => by
        have h1 := hde k (by omega)
        rw [h1] at hy
        cases hy
        exact ⟨(he k (by omega)).1, wF_kd hkd (he k (by omega)).2⟩
      have hal : ∀ k, k < sN S d → ∀ y, sQ S d k = some y → y ≠ lq := fun k hk y hy q => by
        have h1 := hde k (by omega)
        rw [h1] at hy
        cases hy
        have h2 := (he k (by omega)).2
        rw [q, hlk] at h2
        omega
      refine cMet.imp (m_add_C l hl D cy e0 hlq hlk hb hbF hqc hca hd hdm hdk hfe (by omega) (by omega) hel hsz hbl hal) (fun v S' h => ?_)
      obtain ⟨hv, q, hq, rfl⟩ := h
      have hlq' := ne_of_new hlq hq
      refine ⟨hv, q, ⟨grw_mem (a := d) (N := n + n / 2) hlq, (grw_K (a := d) (N := n + n / 2) hlq').trans hlk, up2_self _ _ _ _, by omega, up2_self _ _ _ _, Or.inr ⟨grw_own (a := d) (N := n + n / 2), grw_Ko (a := d) (N := n + n / 2), ?_, ?_, fun k hk => ?_⟩⟩, ?_, Or.inr hq⟩
      · exact Nat.le_trans (show n + 1 ≤ n + n / 2 by omega) (Nat.le_of_eq (grw_No (S := uI S 19 lq (sI S 19 lq + 1)) (a := d) (q := q) (N := n + n / 2)).symm)
      · exact ⟨Nat.le_trans (show 10 ≤ n + n / 2 by omega) (Nat.le_of_eq (grw_No (S := uI S 19 lq (sI S 19 lq + 1)) (a := d) (q := q) (N := n + n / 2)).symm), Nat.le_trans (Nat.le_of_eq (grw_No (S := uI S 19 lq (sI S 19 lq + 1)) (a := d) (q := q) (N := n + n / 2))) (by omega)⟩
      · by_cases g : k = n
        · rw [g, snoc_n]; exact up2_self _ _ _ _
        · rw [snoc_o g]
          refine (up2_na g).trans ?_
          refine (congrFun (grw_Qo (S := uI S 19 lq (sI S 19 lq + 1)) (a := d) (q := q) (N := n + n / 2)) k).trans ?_
          have h0 : 0 ≤ k ∧ k < 0 + sN S d := by omega
          refine (if_pos h0).trans ?_
          rw [show 0 + (k - 0) = k by omega]
          exact hde k (by omega)
      · exact FR.tr (FR.tr (FR.tr (FR.tr FR.uI (FR.grw hq) (fun _ _ h => Or.inl h) (fun _ _ h => h.elim)) (FR.uP (a := lq)) (fun _ _ h => h) (fun _ _ h => Or.inl h)) (FR.uQ (a := q)) (fun _ _ h => h) (fun x hx h => absurd (h ▸ hx) hq)) (FR.uI (a := lq)) (fun _ _ h => h) (fun _ _ h => Or.inl h)
