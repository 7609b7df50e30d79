/-! the law's wrappers: the class's answer, or the place of its exception -/
def oE (cy : Nat → ClassId) (ob : Nat) (o : Nat → Int64) : Nat × va_E := (ob, .inl (cy 1, 1, .inr (.inl o)))
def cvI (vv : Option Value) (x : Int64) : Prop := ∃ z : Int32, vv = some (.int z) ∧ x = z.toInt64
def cvJ (vv : Option Value) (x : Int64) : Prop := vv = some (.long x)
def cvZ (vv : Option Value) (x : Int64) : Prop := ∃ z : Int32, vv = some (.int z) ∧ x = if z = 0 then 0 else 1
def WP (cy : Nat → ClassId) (ob : Nat) (o : Nat → Int64) (P : Option Value → wS → Prop) (XP : String → wS → Prop) (cv : Option Value → Int64 → Prop) (ec : List (String × Int32)) : Option Value → va_W → Prop := fun v w =>
  (∃ S' vv x, v = some (.int 0) ∧ w = cW cy S' ++ [oE cy ob (vp_updL o 0 x)] ∧ P vv S' ∧ cv vv x) ∨ (∃ S' X k, v = some (.int k) ∧ w = cW cy S' ++ [oE cy ob o] ∧ XP X S' ∧ (X, k) ∈ ec)
theorem tbK_I : Cond.castable "java/lang/IndexOutOfBoundsException" "java/lang/IndexOutOfBoundsException" ∈ lw_tbl := List.mem_append_right _ (List.mem_append_left _ (List.mem_of_getElem? (i := 142) rfl))
theorem tbK_A : Cond.castable "java/lang/IllegalArgumentException" "java/lang/IllegalArgumentException" ∈ lw_tbl := List.mem_append_right _ (List.mem_append_left _ (List.mem_of_getElem? (i := 210) rfl))
theorem tbK_S : Cond.castable "java/lang/IllegalStateException" "java/lang/IllegalStateException" ∈ lw_tbl := List.mem_append_right _ (List.mem_append_left _ (List.mem_of_getElem? (i := 226) rfl))
section WR
variable {C : gT} {cc : ByteArray} {nL : Nat} {Ts : List Cond} {own : String} {e0 : Nat} {rm : Room} {ws : va_W} {mc ms pc : Nat} {L : List (Nat × Value)} {st : List Value}
theorem gOk.nc1 (E : gOk C cc nL Ts own e0 rm) : va_Nc "java/lang/IllegalArgumentException" "java/lang/IndexOutOfBoundsException" (xs C) := E.ev.2.2.2.2.2.2.2.2.2.2.1
theorem gOk.nc2 (E : gOk C cc nL Ts own e0 rm) : va_Nc "java/lang/IllegalStateException" "java/lang/IndexOutOfBoundsException" (xs C) := E.ev.2.2.2.2.2.2.2.2.2.2.2.1
theorem gOk.nc3 (E : gOk C cc nL Ts own e0 rm) : va_Nc "java/lang/IllegalStateException" "java/lang/IllegalArgumentException" (xs C) := E.ev.2.2.2.2.2.2.2.2.2.2.2.2
theorem set_last {wl : va_W} {x y : Nat × va_E} : (wl ++ [x]).set wl.length y = wl ++ [y] := by
  rw [List.set_append_right _ _ (Nat.le_refl _), Nat.sub_self]
  rfl
theorem g_outst (E : gOk C cc nL Ts own e0 rm) {wl : va_W} {ob : Nat} {o : Nat → Int64} {v : Int64} (d : decode cc pc = .ok (.lastore, 1)) (kk : G C (wl ++ [oE (xy C) ob (vp_updL o 0 v)]) mc ms (pc + 1) L st) : G C (wl ++ [oE (xy C) ob o]) mc ms pc L (.long v :: .int 0 :: .ref ob :: st) := fun H locs ls hP hD hS hL => by
  obtain ⟨h1, h2⟩ := nI_at (show (0 : Int32) = nI 0 from rfl) (by decide : 0 < 1) (by decide)
  refine va_last E.exec E.code E.K hP hD hS wl.length 1 (show (wl ++ [oE (xy C) ob o])[wl.length]? = some (ob, .inl (xy C 1, 1, .inr (.inl o))) from by rw [List.getElem?_append_right (Nat.le_refl _), Nat.sub_self]; rfl) rfl h1 d (fun H1 locs1 g1 g2 g3 => ?_)
  rw [h2, set_last] at g1 g2
  exact kk H1 locs1 ls g1 g2 g3 hL
end WR
abbrev rm_L_lane : Room := { frames := 8, cells := 4, slots := 24, locals := 143 }
set_option maxHeartbeats 4000000 in
set_option maxRecDepth 100000 in
theorem w_lane (l : Launch) (hl : l.stackTraces = false) (D : va_G) (cy : Nat → ClassId) (e0 : Nat) {S : wS} {a ob : Nat} {o : Nat → Int64} {p0 p1 p2 : Int32} {P : Option Value → wS → Prop} {XP : String → wS → Prop} (ha : a ∈ sL S) (hk : sK S a = 5) (hM : cMet l yX5_lane wsX5_lane rm_X5_lane D cy e0 [.ref a, .int p0, .int p1, .int p2] S P XP 4 24) (hsh : ∀ v S', P v S' → ∃ z : Int32, v = some (.int z)) (hX : ∀ X S', XP X S' → X = "java/lang/IndexOutOfBoundsException" ∨ X = "java/lang/IllegalArgumentException" ∨ X = "java/lang/IllegalStateException") : gMet l yL_lane wsL_lane rm_L_lane D cy e0 [.ref a, .int p0, .int p1, .int p2, .ref ob] (cW cy S ++ [oE cy ob o]) (WP cy ob o P XP cvI [("java/lang/IndexOutOfBoundsException", 1), ("java/lang/IllegalArgumentException", 2), ("java/lang/IllegalStateException", 3)]) (fun _ _ => False) 4 24 := by
  refine gMet.ofH (cc := cL_lane) (maxL := 6) (ret := some .int) (hh := [(0, 12, 15, 13), (0, 12, 19, 15), (0, 12, 23, 17)]) hl (by decide) rfl (Nat.le_of_ble_eq_true rfl) ?_
  intro C E h1 h2 h3 hr ht hE
  subst h1; subst h2; subst h3
  have E : gOk C cL_lane 6 wsL_lane RL e0 rm_L_lane := E
  obtain ⟨k0, hk0⟩ := cW_get (cy := xy C) ha
  rw [wF_PW hk] at hk0
  show G C (cW (xy C) S ++ [oE (xy C) ob o]) 0 0 0 [(0, .ref a), (1, .int p0), (2, .int p1), (3, .int p2), (4, .ref ob)] []
  refine g_aload E dL_lane_0 4 rfl ?_
  refine g_iconst (v := 0) E dL_lane_2 (by decide) ?_
  refine g_aload_n E dL_lane_3 rfl 0 rfl ?_
  refine g_iload_n E dL_lane_4 rfl 1 rfl ?_
  refine g_iload_n E dL_lane_5 rfl 2 rfl ?_
  refine g_iload_n E dL_lane_6 rfl 3 rfl ?_
  refine g_invV (As := [.int p0, .int p1, .int p2]) (rest := [.int 0, .ref ob]) (n := 3) E (gMet.frameR hM [oE (xy C) ob o]) gL_lane_X5_lane rfl rfl rfl (by decide +kernel) ⟨Nat.le_of_ble_eq_true rfl, Nat.le_of_ble_eq_true rfl⟩ k0 6 rfl rfl (app_l hk0) rfl rfl (Nat.le_of_ble_eq_true rfl) dL_lane_7 ⟨Nat.le_of_ble_eq_true rfl, Nat.le_of_ble_eq_true rfl⟩ (fun X w h9 => ?_) (fun v w h9 => ?_)
  · obtain ⟨w1, rfl, S', rfl, hXP⟩ := h9
    rcases hX X S' hXP with rfl | rfl | rfl
    · refine g_catch E (name := "java/lang/IndexOutOfBoundsException") [] ⟨0, 12, 15, 13⟩ [⟨0, 12, 19, 15⟩, ⟨0, 12, 23, 17⟩] ht (fun _ hz => absurd hz List.not_mem_nil) rfl (by decide) (List.mem_cons_of_mem _ (List.mem_append_left _ (List.mem_append_left _ (List.mem_append_left _ (List.mem_append_left _ (List.mem_append_left _ (List.mem_append_left _ (List.mem_of_getElem? (i := 0) rfl)))))))) (E.nest tbK_I rfl) (fun q => ?_)
      show G C (cW (xy C) S' ++ [oE (xy C) ob o]) (0 + 4) (0 + 24) 15 [(0, .ref a), (1, .int p0), (2, .int p1), (3, .int p2), (4, .ref ob)] [.ref q]
      refine g_astore (L' := [(5, .ref q), (0, .ref a), (1, .int p0), (2, .int p1), (3, .int p2), (4, .ref ob)]) E dL_lane_15 (by decide) rfl ?_
      refine g_iconst (v := 1) E dL_lane_17 (by decide) ?_
      exact g_iret E hE hr dL_lane_18 (Nat.le_of_ble_eq_true rfl) (Nat.le_of_ble_eq_true rfl) (Or.inr ⟨S', _, _, rfl, rfl, hXP, List.mem_cons_self⟩)
    · refine g_catch E (name := "java/lang/IllegalArgumentException") [⟨0, 12, 15, 13⟩] ⟨0, 12, 19, 15⟩ [⟨0, 12, 23, 17⟩] ht (fun z hz => by rw [List.mem_singleton.mp hz]; exact ⟨by decide, _, (List.mem_cons_of_mem _ (List.mem_append_left _ (List.mem_append_left _ (List.mem_append_left _ (List.mem_append_left _ (List.mem_append_left _ (List.mem_append_left _ (List.mem_of_getElem? (i := 0) rfl)))))))), E.nc1⟩) rfl (by decide) (List.mem_cons_of_mem _ (List.mem_append_left _ (List.mem_append_left _ (List.mem_append_left _ (List.mem_append_left _ (List.mem_append_left _ (List.mem_append_left _ (List.mem_of_getElem? (i := 1) rfl)))))))) (E.nest tbK_A rfl) (fun q => ?_)
      show G C (cW (xy C) S' ++ [oE (xy C) ob o]) (0 + 4) (0 + 24) 19 [(0, .ref a), (1, .int p0), (2, .int p1), (3, .int p2), (4, .ref ob)] [.ref q]
      refine g_astore (L' := [(5, .ref q), (0, .ref a), (1, .int p0), (2, .int p1), (3, .int p2), (4, .ref ob)]) E dL_lane_19 (by decide) rfl ?_
      refine g_iconst (v := 2) E dL_lane_21 (by decide) ?_
      exact g_iret E hE hr dL_lane_22 (Nat.le_of_ble_eq_true rfl) (Nat.le_of_ble_eq_true rfl) (Or.inr ⟨S', _, _, rfl, rfl, hXP, (List.mem_cons_of_mem _ List.mem_cons_self)⟩)
    · refine g_catch E (name := "java/lang/IllegalStateException") [⟨0, 12, 15, 13⟩, ⟨0, 12, 19, 15⟩] ⟨0, 12, 23, 17⟩ [] ht (fun z hz => (List.mem_cons.mp hz).elim (fun hz => by rw [hz]; exact ⟨by decide, _, (List.mem_cons_of_mem _ (List.mem_append_left _ (List.mem_append_left _ (List.mem_append_left _ (List.mem_append_left _ (List.mem_append_left _ (List.mem_append_left _ (List.mem_of_getElem? (i := 0) rfl)))))))), E.nc2⟩) (fun hz => by rw [List.mem_singleton.mp hz]; exact ⟨by decide, _, (List.mem_cons_of_mem _ (List.mem_append_left _ (List.mem_append_left _ (List.mem_append_left _ (List.mem_append_left _ (List.mem_append_left _ (List.mem_append_left _ (List.mem_of_getElem? (i := 1) rfl)))))))), E.nc3⟩)) rfl (by decide) (List.mem_cons_of_mem _ (List.mem_append_left _ (List.mem_append_left _ (List.mem_append_left _ (List.mem_append_left _ (List.mem_append_left _ (List.mem_append_left _ (List.mem_of_getElem? (i := 2) rfl)))))))) (E.nest tbK_S rfl) (fun q => ?_)
      show G C (cW (xy C) S' ++ [oE (xy C) ob o]) (0 + 4) (0 + 24) 23 [(0, .ref a), (1, .int p0), (2, .int p1), (3, .int p2), (4, .ref ob)] [.ref q]
      refine g_astore (L' := [(5, .ref q), (0, .ref a), (1, .int p0), (2, .int p1), (3, .int p2), (4, .ref ob)]) E dL_lane_23 (by decide) rfl ?_
      refine g_iconst (v := 3) E dL_lane_25 (by decide) ?_
      exact g_iret E hE hr dL_lane_26 (Nat.le_of_ble_eq_true rfl) (Nat.le_of_ble_eq_true rfl) (Or.inr ⟨S', _, _, rfl, rfl, hXP, (List.mem_cons_of_mem _ (List.mem_cons_of_mem _ List.mem_cons_self))⟩)
  · obtain ⟨w1, rfl, S', rfl, hPv⟩ := h9
    obtain ⟨z, rfl⟩ := hsh v S' hPv
    show G C (cW (xy C) S' ++ [oE (xy C) ob o]) (0 + 4) (0 + 24) 10 [(0, .ref a), (1, .int p0), (2, .int p1), (3, .int p2), (4, .ref ob)] [.int z, .int 0, .ref ob]
    refine g_i2l E dL_lane_10 ?_
    refine g_outst E dL_lane_11 ?_
    refine g_goto (tgt := 27) E dL_lane_12 (by decide) ?_
    refine g_iconst (v := 0) E dL_lane_27 (by decide) ?_
    exact g_iret E hE hr dL_lane_28 (Nat.le_of_ble_eq_true rfl) (Nat.le_of_ble_eq_true rfl) (Or.inl ⟨S', _, _, rfl, rfl, hPv, z, rfl, rfl⟩)
abbrev rm_L_line : Room := { frames := 9, cells := 5, slots := 1040, locals := 409 }
set_option maxHeartbeats 4000000 in
set_option maxRecDepth 100000 in
theorem w_line (l : Launch) (hl : l.stackTraces = false) (D : va_G) (cy : Nat → ClassId) (e0 : Nat) {S : wS} {a ob : Nat} {o : Nat → Int64} {p0 p1 : Int32} {P : Option Value → wS → Prop} {XP : String → wS → Prop} (ha : a ∈ sL S) (hk : sK S a = 5) (hM : cMet l yX5_line wsX5_line rm_X5_line D cy e0 [.ref a, .int p0, .int p1] S P XP 5 1040) (hsh : ∀ v S', P v S' → ∃ z : Int32, v = some (.int z)) (hX : ∀ X S', XP X S' → X = "java/lang/IndexOutOfBoundsException" ∨ X = "java/lang/IllegalArgumentException" ∨ X = "java/lang/IllegalStateException") : gMet l yL_line wsL_line rm_L_line D cy e0 [.ref a, .int p0, .int p1, .ref ob] (cW cy S ++ [oE cy ob o]) (WP cy ob o P XP cvI [("java/lang/IndexOutOfBoundsException", 1), ("java/lang/IllegalArgumentException", 2), ("java/lang/IllegalStateException", 3)]) (fun _ _ => False) 5 1040 := by
  refine gMet.ofH (cc := cL_line) (maxL := 5) (ret := some .int) (hh := [(0, 10, 13, 13), (0, 10, 17, 15), (0, 10, 21, 17)]) hl (by decide) rfl (Nat.le_of_ble_eq_true rfl) ?_
  intro C E h1 h2 h3 hr ht hE
  subst h1; subst h2; subst h3
  have E : gOk C cL_line 5 wsL_line RL e0 rm_L_line := E
  obtain ⟨k0, hk0⟩ := cW_get (cy := xy C) ha
  rw [wF_PW hk] at hk0
  show G C (cW (xy C) S ++ [oE (xy C) ob o]) 0 0 0 [(0, .ref a), (1, .int p0), (2, .int p1), (3, .ref ob)] []
  refine g_aload_n E dL_line_0 rfl 3 rfl ?_
  refine g_iconst (v := 0) E dL_line_1 (by decide) ?_
  refine g_aload_n E dL_line_2 rfl 0 rfl ?_
  refine g_iload_n E dL_line_3 rfl 1 rfl ?_
  refine g_iload_n E dL_line_4 rfl 2 rfl ?_
  refine g_invV (As := [.int p0, .int p1]) (rest := [.int 0, .ref ob]) (n := 2) E (gMet.frameR hM [oE (xy C) ob o]) gL_line_X5_line rfl rfl rfl (by decide +kernel) ⟨Nat.le_of_ble_eq_true rfl, Nat.le_of_ble_eq_true rfl⟩ k0 6 rfl rfl (app_l hk0) rfl rfl (Nat.le_of_ble_eq_true rfl) dL_line_5 ⟨Nat.le_of_ble_eq_true rfl, Nat.le_of_ble_eq_true rfl⟩ (fun X w h9 => ?_) (fun v w h9 => ?_)
  · obtain ⟨w1, rfl, S', rfl, hXP⟩ := h9
    rcases hX X S' hXP with rfl | rfl | rfl
    · refine g_catch E (name := "java/lang/IndexOutOfBoundsException") [] ⟨0, 10, 13, 13⟩ [⟨0, 10, 17, 15⟩, ⟨0, 10, 21, 17⟩] ht (fun _ hz => absurd hz List.not_mem_nil) rfl (by decide) (List.mem_cons_of_mem _ (List.mem_append_left _ (List.mem_append_left _ (List.mem_append_left _ (List.mem_append_left _ (List.mem_append_left _ (List.mem_append_left _ (List.mem_append_left _ (List.mem_of_getElem? (i := 0) rfl))))))))) (E.nest tbK_I rfl) (fun q => ?_)
      show G C (cW (xy C) S' ++ [oE (xy C) ob o]) (0 + 5) (0 + 1040) 13 [(0, .ref a), (1, .int p0), (2, .int p1), (3, .ref ob)] [.ref q]
      refine g_astore (L' := [(4, .ref q), (0, .ref a), (1, .int p0), (2, .int p1), (3, .ref ob)]) E dL_line_13 (by decide) rfl ?_
      refine g_iconst (v := 1) E dL_line_15 (by decide) ?_
      exact g_iret E hE hr dL_line_16 (Nat.le_of_ble_eq_true rfl) (Nat.le_of_ble_eq_true rfl) (Or.inr ⟨S', _, _, rfl, rfl, hXP, List.mem_cons_self⟩)
    · refine g_catch E (name := "java/lang/IllegalArgumentException") [⟨0, 10, 13, 13⟩] ⟨0, 10, 17, 15⟩ [⟨0, 10, 21, 17⟩] ht (fun z hz => by rw [List.mem_singleton.mp hz]; exact ⟨by decide, _, (List.mem_cons_of_mem _ (List.mem_append_left _ (List.mem_append_left _ (List.mem_append_left _ (List.mem_append_left _ (List.mem_append_left _ (List.mem_append_left _ (List.mem_append_left _ (List.mem_of_getElem? (i := 0) rfl))))))))), E.nc1⟩) rfl (by decide) (List.mem_cons_of_mem _ (List.mem_append_left _ (List.mem_append_left _ (List.mem_append_left _ (List.mem_append_left _ (List.mem_append_left _ (List.mem_append_left _ (List.mem_append_left _ (List.mem_of_getElem? (i := 1) rfl))))))))) (E.nest tbK_A rfl) (fun q => ?_)
      show G C (cW (xy C) S' ++ [oE (xy C) ob o]) (0 + 5) (0 + 1040) 17 [(0, .ref a), (1, .int p0), (2, .int p1), (3, .ref ob)] [.ref q]
      refine g_astore (L' := [(4, .ref q), (0, .ref a), (1, .int p0), (2, .int p1), (3, .ref ob)]) E dL_line_17 (by decide) rfl ?_
      refine g_iconst (v := 2) E dL_line_19 (by decide) ?_
      exact g_iret E hE hr dL_line_20 (Nat.le_of_ble_eq_true rfl) (Nat.le_of_ble_eq_true rfl) (Or.inr ⟨S', _, _, rfl, rfl, hXP, (List.mem_cons_of_mem _ List.mem_cons_self)⟩)
    · refine g_catch E (name := "java/lang/IllegalStateException") [⟨0, 10, 13, 13⟩, ⟨0, 10, 17, 15⟩] ⟨0, 10, 21, 17⟩ [] ht (fun z hz => (List.mem_cons.mp hz).elim (fun hz => by rw [hz]; exact ⟨by decide, _, (List.mem_cons_of_mem _ (List.mem_append_left _ (List.mem_append_left _ (List.mem_append_left _ (List.mem_append_left _ (List.mem_append_left _ (List.mem_append_left _ (List.mem_append_left _ (List.mem_of_getElem? (i := 0) rfl))))))))), E.nc2⟩) (fun hz => by rw [List.mem_singleton.mp hz]; exact ⟨by decide, _, (List.mem_cons_of_mem _ (List.mem_append_left _ (List.mem_append_left _ (List.mem_append_left _ (List.mem_append_left _ (List.mem_append_left _ (List.mem_append_left _ (List.mem_append_left _ (List.mem_of_getElem? (i := 1) rfl))))))))), E.nc3⟩)) rfl (by decide) (List.mem_cons_of_mem _ (List.mem_append_left _ (List.mem_append_left _ (List.mem_append_left _ (List.mem_append_left _ (List.mem_append_left _ (List.mem_append_left _ (List.mem_append_left _ (List.mem_of_getElem? (i := 2) rfl))))))))) (E.nest tbK_S rfl) (fun q => ?_)
      show G C (cW (xy C) S' ++ [oE (xy C) ob o]) (0 + 5) (0 + 1040) 21 [(0, .ref a), (1, .int p0), (2, .int p1), (3, .ref ob)] [.ref q]
      refine g_astore (L' := [(4, .ref q), (0, .ref a), (1, .int p0), (2, .int p1), (3, .ref ob)]) E dL_line_21 (by decide) rfl ?_
      refine g_iconst (v := 3) E dL_line_23 (by decide) ?_
      exact g_iret E hE hr dL_line_24 (Nat.le_of_ble_eq_true rfl) (Nat.le_of_ble_eq_true rfl) (Or.inr ⟨S', _, _, rfl, rfl, hXP, (List.mem_cons_of_mem _ (List.mem_cons_of_mem _ List.mem_cons_self))⟩)
  · obtain ⟨w1, rfl, S', rfl, hPv⟩ := h9
    obtain ⟨z, rfl⟩ := hsh v S' hPv
    show G C (cW (xy C) S' ++ [oE (xy C) ob o]) (0 + 5) (0 + 1040) 8 [(0, .ref a), (1, .int p0), (2, .int p1), (3, .ref ob)] [.int z, .int 0, .ref ob]
    refine g_i2l E dL_line_8 ?_
    refine g_outst E dL_line_9 ?_
    refine g_goto (tgt := 25) E dL_line_10 (by decide) ?_
    refine g_iconst (v := 0) E dL_line_25 (by decide) ?_
    exact g_iret E hE hr dL_line_26 (Nat.le_of_ble_eq_true rfl) (Nat.le_of_ble_eq_true rfl) (Or.inl ⟨S', _, _, rfl, rfl, hPv, z, rfl, rfl⟩)
abbrev rm_L_stop : Room := { frames := 8, cells := 3, slots := 18, locals := 144 }
set_option maxHeartbeats 4000000 in
set_option maxRecDepth 100000 in
theorem w_stop (l : Launch) (hl : l.stackTraces = false) (D : va_G) (cy : Nat → ClassId) (e0 : Nat) {S : wS} {a ob : Nat} {o : Nat → Int64} {p0 p1 : Int32} {P : Option Value → wS → Prop} {XP : String → wS → Prop} (ha : a ∈ sL S) (hk : sK S a = 5) (hM : cMet l yX5_stop wsX5_stop rm_X5_stop D cy e0 [.ref a, .int p0, .int p1] S P XP 3 18) (hsh : ∀ v S', P v S' → ∃ z : Int32, v = some (.int z)) (hX : ∀ X S', XP X S' → X = "java/lang/IndexOutOfBoundsException" ∨ X = "java/lang/IllegalArgumentException" ∨ X = "java/lang/IllegalStateException") : gMet l yL_stop wsL_stop rm_L_stop D cy e0 [.ref a, .int p0, .int p1, .ref ob] (cW cy S ++ [oE cy ob o]) (WP cy ob o P XP cvI [("java/lang/IndexOutOfBoundsException", 1), ("java/lang/IllegalArgumentException", 2), ("java/lang/IllegalStateException", 3)]) (fun _ _ => False) 3 18 := by
  refine gMet.ofH (cc := cL_stop) (maxL := 5) (ret := some .int) (hh := [(0, 10, 13, 13), (0, 10, 17, 15), (0, 10, 21, 17)]) hl (by decide) rfl (Nat.le_of_ble_eq_true rfl) ?_
  intro C E h1 h2 h3 hr ht hE
  subst h1; subst h2; subst h3
  have E : gOk C cL_stop 5 wsL_stop RL e0 rm_L_stop := E
  obtain ⟨k0, hk0⟩ := cW_get (cy := xy C) ha
  rw [wF_PW hk] at hk0
  show G C (cW (xy C) S ++ [oE (xy C) ob o]) 0 0 0 [(0, .ref a), (1, .int p0), (2, .int p1), (3, .ref ob)] []
  refine g_aload_n E dL_stop_0 rfl 3 rfl ?_
  refine g_iconst (v := 0) E dL_stop_1 (by decide) ?_
  refine g_aload_n E dL_stop_2 rfl 0 rfl ?_
  refine g_iload_n E dL_stop_3 rfl 1 rfl ?_
  refine g_iload_n E dL_stop_4 rfl 2 rfl ?_
  refine g_invV (As := [.int p0, .int p1]) (rest := [.int 0, .ref ob]) (n := 2) E (gMet.frameR hM [oE (xy C) ob o]) gL_stop_X5_stop rfl rfl rfl (by decide +kernel) ⟨Nat.le_of_ble_eq_true rfl, Nat.le_of_ble_eq_true rfl⟩ k0 6 rfl rfl (app_l hk0) rfl rfl (Nat.le_of_ble_eq_true rfl) dL_stop_5 ⟨Nat.le_of_ble_eq_true rfl, Nat.le_of_ble_eq_true rfl⟩ (fun X w h9 => ?_) (fun v w h9 => ?_)
  · obtain ⟨w1, rfl, S', rfl, hXP⟩ := h9
    rcases hX X S' hXP with rfl | rfl | rfl
    · refine g_catch E (name := "java/lang/IndexOutOfBoundsException") [] ⟨0, 10, 13, 13⟩ [⟨0, 10, 17, 15⟩, ⟨0, 10, 21, 17⟩] ht (fun _ hz => absurd hz List.not_mem_nil) rfl (by decide) (List.mem_cons_of_mem _ (List.mem_append_left _ (List.mem_append_left _ (List.mem_append_left _ (List.mem_append_left _ (List.mem_append_left _ (List.mem_append_left _ (List.mem_append_left _ (List.mem_append_left _ (List.mem_append_left _ (List.mem_of_getElem? (i := 0) rfl))))))))))) (E.nest tbK_I rfl) (fun q => ?_)
      show G C (cW (xy C) S' ++ [oE (xy C) ob o]) (0 + 3) (0 + 18) 13 [(0, .ref a), (1, .int p0), (2, .int p1), (3, .ref ob)] [.ref q]
      refine g_astore (L' := [(4, .ref q), (0, .ref a), (1, .int p0), (2, .int p1), (3, .ref ob)]) E dL_stop_13 (by decide) rfl ?_
      refine g_iconst (v := 1) E dL_stop_15 (by decide) ?_
      exact g_iret E hE hr dL_stop_16 (Nat.le_of_ble_eq_true rfl) (Nat.le_of_ble_eq_true rfl) (Or.inr ⟨S', _, _, rfl, rfl, hXP, List.mem_cons_self⟩)
    · refine g_catch E (name := "java/lang/IllegalArgumentException") [⟨0, 10, 13, 13⟩] ⟨0, 10, 17, 15⟩ [⟨0, 10, 21, 17⟩] ht (fun z hz => by rw [List.mem_singleton.mp hz]; exact ⟨by decide, _, (List.mem_cons_of_mem _ (List.mem_append_left _ (List.mem_append_left _ (List.mem_append_left _ (List.mem_append_left _ (List.mem_append_left _ (List.mem_append_left _ (List.mem_append_left _ (List.mem_append_left _ (List.mem_append_left _ (List.mem_of_getElem? (i := 0) rfl))))))))))), E.nc1⟩) rfl (by decide) (List.mem_cons_of_mem _ (List.mem_append_left _ (List.mem_append_left _ (List.mem_append_left _ (List.mem_append_left _ (List.mem_append_left _ (List.mem_append_left _ (List.mem_append_left _ (List.mem_append_left _ (List.mem_append_left _ (List.mem_of_getElem? (i := 1) rfl))))))))))) (E.nest tbK_A rfl) (fun q => ?_)
      show G C (cW (xy C) S' ++ [oE (xy C) ob o]) (0 + 3) (0 + 18) 17 [(0, .ref a), (1, .int p0), (2, .int p1), (3, .ref ob)] [.ref q]
      refine g_astore (L' := [(4, .ref q), (0, .ref a), (1, .int p0), (2, .int p1), (3, .ref ob)]) E dL_stop_17 (by decide) rfl ?_
      refine g_iconst (v := 2) E dL_stop_19 (by decide) ?_
      exact g_iret E hE hr dL_stop_20 (Nat.le_of_ble_eq_true rfl) (Nat.le_of_ble_eq_true rfl) (Or.inr ⟨S', _, _, rfl, rfl, hXP, (List.mem_cons_of_mem _ List.mem_cons_self)⟩)
    · refine g_catch E (name := "java/lang/IllegalStateException") [⟨0, 10, 13, 13⟩, ⟨0, 10, 17, 15⟩] ⟨0, 10, 21, 17⟩ [] ht (fun z hz => (List.mem_cons.mp hz).elim (fun hz => by rw [hz]; exact ⟨by decide, _, (List.mem_cons_of_mem _ (List.mem_append_left _ (List.mem_append_left _ (List.mem_append_left _ (List.mem_append_left _ (List.mem_append_left _ (List.mem_append_left _ (List.mem_append_left _ (List.mem_append_left _ (List.mem_append_left _ (List.mem_of_getElem? (i := 0) rfl))))))))))), E.nc2⟩) (fun hz => by rw [List.mem_singleton.mp hz]; exact ⟨by decide, _, (List.mem_cons_of_mem _ (List.mem_append_left _ (List.mem_append_left _ (List.mem_append_left _ (List.mem_append_left _ (List.mem_append_left _ (List.mem_append_left _ (List.mem_append_left _ (List.mem_append_left _ (List.mem_append_left _ (List.mem_of_getElem? (i := 1) rfl))))))))))), E.nc3⟩)) rfl (by decide) (List.mem_cons_of_mem _ (List.mem_append_left _ (List.mem_append_left _ (List.mem_append_left _ (List.mem_append_left _ (List.mem_append_left _ (List.mem_append_left _ (List.mem_append_left _ (List.mem_append_left _ (List.mem_append_left _ (List.mem_of_getElem? (i := 2) rfl))))))))))) (E.nest tbK_S rfl) (fun q => ?_)
      show G C (cW (xy C) S' ++ [oE (xy C) ob o]) (0 + 3) (0 + 18) 21 [(0, .ref a), (1, .int p0), (2, .int p1), (3, .ref ob)] [.ref q]
      refine g_astore (L' := [(4, .ref q), (0, .ref a), (1, .int p0), (2, .int p1), (3, .ref ob)]) E dL_stop_21 (by decide) rfl ?_
      refine g_iconst (v := 3) E dL_stop_23 (by decide) ?_
      exact g_iret E hE hr dL_stop_24 (Nat.le_of_ble_eq_true rfl) (Nat.le_of_ble_eq_true rfl) (Or.inr ⟨S', _, _, rfl, rfl, hXP, (List.mem_cons_of_mem _ (List.mem_cons_of_mem _ List.mem_cons_self))⟩)
  · obtain ⟨w1, rfl, S', rfl, hPv⟩ := h9
    obtain ⟨z, rfl⟩ := hsh v S' hPv
    show G C (cW (xy C) S' ++ [oE (xy C) ob o]) (0 + 3) (0 + 18) 8 [(0, .ref a), (1, .int p0), (2, .int p1), (3, .ref ob)] [.int z, .int 0, .ref ob]
    refine g_i2l E dL_stop_8 ?_
    refine g_outst E dL_stop_9 ?_
    refine g_goto (tgt := 25) E dL_stop_10 (by decide) ?_
    refine g_iconst (v := 0) E dL_stop_25 (by decide) ?_
    exact g_iret E hE hr dL_stop_26 (Nat.le_of_ble_eq_true rfl) (Nat.le_of_ble_eq_true rfl) (Or.inl ⟨S', _, _, rfl, rfl, hPv, z, rfl, rfl⟩)
abbrev rm_L_way : Room := { frames := 8, cells := 2, slots := 12, locals := 142 }
set_option maxHeartbeats 4000000 in
set_option maxRecDepth 100000 in
theorem w_way (l : Launch) (hl : l.stackTraces = false) (D : va_G) (cy : Nat → ClassId) (e0 : Nat) {S : wS} {a ob : Nat} {o : Nat → Int64} {p0 p1 : Int32} {P : Option Value → wS → Prop} {XP : String → wS → Prop} (ha : a ∈ sL S) (hk : sK S a = 5) (hM : cMet l yX5_way wsX5_way rm_X5_way D cy e0 [.ref a, .int p0, .int p1] S P XP 2 12) (hsh : ∀ v S', P v S' → ∃ z : Int32, v = some (.int z)) (hX : ∀ X S', XP X S' → X = "java/lang/IndexOutOfBoundsException") : gMet l yL_way wsL_way rm_L_way D cy e0 [.ref a, .int p0, .int p1, .ref ob] (cW cy S ++ [oE cy ob o]) (WP cy ob o P XP cvI [("java/lang/IndexOutOfBoundsException", 1)]) (fun _ _ => False) 2 12 := by
  refine gMet.ofH (cc := cL_way) (maxL := 5) (ret := some .int) (hh := [(0, 10, 13, 13)]) hl (by decide) rfl (Nat.le_of_ble_eq_true rfl) ?_
  intro C E h1 h2 h3 hr ht hE
  subst h1; subst h2; subst h3
  have E : gOk C cL_way 5 wsL_way RL e0 rm_L_way := E
  obtain ⟨k0, hk0⟩ := cW_get (cy := xy C) ha
  rw [wF_PW hk] at hk0
  show G C (cW (xy C) S ++ [oE (xy C) ob o]) 0 0 0 [(0, .ref a), (1, .int p0), (2, .int p1), (3, .ref ob)] []
  refine g_aload_n E dL_way_0 rfl 3 rfl ?_
  refine g_iconst (v := 0) E dL_way_1 (by decide) ?_
  refine g_aload_n E dL_way_2 rfl 0 rfl ?_
  refine g_iload_n E dL_way_3 rfl 1 rfl ?_
  refine g_iload_n E dL_way_4 rfl 2 rfl ?_
  refine g_invV (As := [.int p0, .int p1]) (rest := [.int 0, .ref ob]) (n := 2) E (gMet.frameR hM [oE (xy C) ob o]) gL_way_X5_way rfl rfl rfl (by decide +kernel) ⟨Nat.le_of_ble_eq_true rfl, Nat.le_of_ble_eq_true rfl⟩ k0 6 rfl rfl (app_l hk0) rfl rfl (Nat.le_of_ble_eq_true rfl) dL_way_5 ⟨Nat.le_of_ble_eq_true rfl, Nat.le_of_ble_eq_true rfl⟩ (fun X w h9 => ?_) (fun v w h9 => ?_)
  · obtain ⟨w1, rfl, S', rfl, hXP⟩ := h9
    rcases hX X S' hXP with rfl
    · refine g_catch E (name := "java/lang/IndexOutOfBoundsException") [] ⟨0, 10, 13, 13⟩ [] ht (fun _ hz => absurd hz List.not_mem_nil) rfl (by decide) (List.mem_cons_of_mem _ (List.mem_append_left _ (List.mem_append_left _ (List.mem_append_left _ (List.mem_append_left _ (List.mem_append_left _ (List.mem_append_left _ (List.mem_append_left _ (List.mem_of_getElem? (i := 0) rfl))))))))) (E.nest tbK_I rfl) (fun q => ?_)
      show G C (cW (xy C) S' ++ [oE (xy C) ob o]) (0 + 2) (0 + 12) 13 [(0, .ref a), (1, .int p0), (2, .int p1), (3, .ref ob)] [.ref q]
      refine g_astore (L' := [(4, .ref q), (0, .ref a), (1, .int p0), (2, .int p1), (3, .ref ob)]) E dL_way_13 (by decide) rfl ?_
      refine g_iconst (v := 1) E dL_way_15 (by decide) ?_
      exact g_iret E hE hr dL_way_16 (Nat.le_of_ble_eq_true rfl) (Nat.le_of_ble_eq_true rfl) (Or.inr ⟨S', _, _, rfl, rfl, hXP, List.mem_cons_self⟩)
  · obtain ⟨w1, rfl, S', rfl, hPv⟩ := h9
    obtain ⟨z, rfl⟩ := hsh v S' hPv
    show G C (cW (xy C) S' ++ [oE (xy C) ob o]) (0 + 2) (0 + 12) 8 [(0, .ref a), (1, .int p0), (2, .int p1), (3, .ref ob)] [.int z, .int 0, .ref ob]
    refine g_i2l E dL_way_8 ?_
    refine g_outst E dL_way_9 ?_
    refine g_goto (tgt := 17) E dL_way_10 (by decide) ?_
    refine g_iconst (v := 0) E dL_way_17 (by decide) ?_
    exact g_iret E hE hr dL_way_18 (Nat.le_of_ble_eq_true rfl) (Nat.le_of_ble_eq_true rfl) (Or.inl ⟨S', _, _, rfl, rfl, hPv, z, rfl, rfl⟩)
abbrev rm_L_isClosed : Room := { frames := 8, cells := 1, slots := 6, locals := 142 }
set_option maxHeartbeats 4000000 in
set_option maxRecDepth 100000 in
theorem w_isClosed (l : Launch) (hl : l.stackTraces = false) (D : va_G) (cy : Nat → ClassId) (e0 : Nat) {S : wS} {a ob : Nat} {o : Nat → Int64} {p0 : Int32} {P : Option Value → wS → Prop} {XP : String → wS → Prop} (ha : a ∈ sL S) (hk : sK S a = 5) (hM : cMet l yX5_isClosed wsX5_isClosed rm_X5_isClosed D cy e0 [.ref a, .int p0] S P XP 1 6) (hsh : ∀ v S', P v S' → ∃ z : Int32, v = some (.int z)) (hX : ∀ X S', XP X S' → X = "java/lang/IndexOutOfBoundsException") : gMet l yL_isClosed wsL_isClosed rm_L_isClosed D cy e0 [.ref a, .int p0, .ref ob] (cW cy S ++ [oE cy ob o]) (WP cy ob o P XP cvZ [("java/lang/IndexOutOfBoundsException", 1)]) (fun _ _ => False) 1 6 := by
  refine gMet.ofH (cc := cL_isClosed) (maxL := 4) (ret := some .int) (hh := [(0, 16, 19, 13)]) hl (by decide) rfl (Nat.le_of_ble_eq_true rfl) ?_
  intro C E h1 h2 h3 hr ht hE
  subst h1; subst h2; subst h3
  have E : gOk C cL_isClosed 4 wsL_isClosed RL e0 rm_L_isClosed := E
  obtain ⟨k0, hk0⟩ := cW_get (cy := xy C) ha
  rw [wF_PW hk] at hk0
  show G C (cW (xy C) S ++ [oE (xy C) ob o]) 0 0 0 [(0, .ref a), (1, .int p0), (2, .ref ob)] []
  refine g_aload_n E dL_isClosed_0 rfl 2 rfl ?_
  refine g_iconst (v := 0) E dL_isClosed_1 (by decide) ?_
  refine g_aload_n E dL_isClosed_2 rfl 0 rfl ?_
  refine g_iload_n E dL_isClosed_3 rfl 1 rfl ?_
  refine g_invV (As := [.int p0]) (rest := [.int 0, .ref ob]) (n := 1) E (gMet.frameR hM [oE (xy C) ob o]) gL_isClosed_X5_isClosed rfl rfl rfl (by decide +kernel) ⟨Nat.le_of_ble_eq_true rfl, Nat.le_of_ble_eq_true rfl⟩ k0 6 rfl rfl (app_l hk0) rfl rfl (Nat.le_of_ble_eq_true rfl) dL_isClosed_4 ⟨Nat.le_of_ble_eq_true rfl, Nat.le_of_ble_eq_true rfl⟩ (fun X w h9 => ?_) (fun v w h9 => ?_)
  · obtain ⟨w1, rfl, S', rfl, hXP⟩ := h9
    rcases hX X S' hXP with rfl
    · refine g_catch E (name := "java/lang/IndexOutOfBoundsException") [] ⟨0, 16, 19, 13⟩ [] ht (fun _ hz => absurd hz List.not_mem_nil) rfl (by decide) (List.mem_cons_of_mem _ (List.mem_append_left _ (List.mem_append_left _ (List.mem_append_left _ (List.mem_append_left _ (List.mem_append_left _ (List.mem_append_left _ (List.mem_of_getElem? (i := 0) rfl)))))))) (E.nest tbK_I rfl) (fun q => ?_)
      show G C (cW (xy C) S' ++ [oE (xy C) ob o]) (0 + 1) (0 + 6) 19 [(0, .ref a), (1, .int p0), (2, .ref ob)] [.ref q]
      refine g_astore_n (L' := [(3, .ref q), (0, .ref a), (1, .int p0), (2, .ref ob)]) E dL_isClosed_19 rfl (by decide) rfl ?_
      refine g_iconst (v := 1) E dL_isClosed_20 (by decide) ?_
      exact g_iret E hE hr dL_isClosed_21 (Nat.le_of_ble_eq_true rfl) (Nat.le_of_ble_eq_true rfl) (Or.inr ⟨S', _, _, rfl, rfl, hXP, List.mem_cons_self⟩)
  · obtain ⟨w1, rfl, S', rfl, hPv⟩ := h9
    obtain ⟨z, rfl⟩ := hsh v S' hPv
    show G C (cW (xy C) S' ++ [oE (xy C) ob o]) (0 + 1) (0 + 6) 7 [(0, .ref a), (1, .int p0), (2, .ref ob)] [.int z, .int 0, .ref ob]
    refine g_if_eq (tgt := 14) E dL_isClosed_7 (by decide) (fun hz => ?_) (fun hz => ?_)
    · refine g_lconst (v := 0) E dL_isClosed_14 (by decide) ?_
      refine g_outst E dL_isClosed_15 ?_
      refine g_goto (tgt := 22) E dL_isClosed_16 (by decide) ?_
      refine g_iconst (v := 0) E dL_isClosed_22 (by decide) ?_
      exact g_iret E hE hr dL_isClosed_23 (Nat.le_of_ble_eq_true rfl) (Nat.le_of_ble_eq_true rfl) (Or.inl ⟨S', _, _, rfl, rfl, hPv, z, rfl, by rw [if_pos hz]⟩)
    · refine g_lconst (v := 1) E dL_isClosed_10 (by decide) ?_
      refine g_goto (tgt := 15) E dL_isClosed_11 (by decide) ?_
      refine g_outst E dL_isClosed_15 ?_
      refine g_goto (tgt := 22) E dL_isClosed_16 (by decide) ?_
      refine g_iconst (v := 0) E dL_isClosed_22 (by decide) ?_
      exact g_iret E hE hr dL_isClosed_23 (Nat.le_of_ble_eq_true rfl) (Nat.le_of_ble_eq_true rfl) (Or.inl ⟨S', _, _, rfl, rfl, hPv, z, rfl, by rw [if_neg hz]⟩)
abbrev rm_L_detour : Room := { frames := 8, cells := 1, slots := 6, locals := 142 }
set_option maxHeartbeats 4000000 in
set_option maxRecDepth 100000 in
theorem w_detour (l : Launch) (hl : l.stackTraces = false) (D : va_G) (cy : Nat → ClassId) (e0 : Nat) {S : wS} {a ob : Nat} {o : Nat → Int64} {p0 : Int32} {P : Option Value → wS → Prop} {XP : String → wS → Prop} (ha : a ∈ sL S) (hk : sK S a = 5) (hM : cMet l yX5_detour wsX5_detour rm_X5_detour D cy e0 [.ref a, .int p0] S P XP 1 6) (hsh : ∀ v S', P v S' → ∃ z : Int32, v = some (.int z)) (hX : ∀ X S', XP X S' → X = "java/lang/IndexOutOfBoundsException") : gMet l yL_detour wsL_detour rm_L_detour D cy e0 [.ref a, .int p0, .ref ob] (cW cy S ++ [oE cy ob o]) (WP cy ob o P XP cvI [("java/lang/IndexOutOfBoundsException", 1)]) (fun _ _ => False) 1 6 := by
  refine gMet.ofH (cc := cL_detour) (maxL := 4) (ret := some .int) (hh := [(0, 9, 12, 13)]) hl (by decide) rfl (Nat.le_of_ble_eq_true rfl) ?_
  intro C E h1 h2 h3 hr ht hE
  subst h1; subst h2; subst h3
  have E : gOk C cL_detour 4 wsL_detour RL e0 rm_L_detour := E
  obtain ⟨k0, hk0⟩ := cW_get (cy := xy C) ha
  rw [wF_PW hk] at hk0
  show G C (cW (xy C) S ++ [oE (xy C) ob o]) 0 0 0 [(0, .ref a), (1, .int p0), (2, .ref ob)] []
  refine g_aload_n E dL_detour_0 rfl 2 rfl ?_
  refine g_iconst (v := 0) E dL_detour_1 (by decide) ?_
  refine g_aload_n E dL_detour_2 rfl 0 rfl ?_
  refine g_iload_n E dL_detour_3 rfl 1 rfl ?_
  refine g_invV (As := [.int p0]) (rest := [.int 0, .ref ob]) (n := 1) E (gMet.frameR hM [oE (xy C) ob o]) gL_detour_X5_detour rfl rfl rfl (by decide +kernel) ⟨Nat.le_of_ble_eq_true rfl, Nat.le_of_ble_eq_true rfl⟩ k0 6 rfl rfl (app_l hk0) rfl rfl (Nat.le_of_ble_eq_true rfl) dL_detour_4 ⟨Nat.le_of_ble_eq_true rfl, Nat.le_of_ble_eq_true rfl⟩ (fun X w h9 => ?_) (fun v w h9 => ?_)
  · obtain ⟨w1, rfl, S', rfl, hXP⟩ := h9
    rcases hX X S' hXP with rfl
    · refine g_catch E (name := "java/lang/IndexOutOfBoundsException") [] ⟨0, 9, 12, 13⟩ [] ht (fun _ hz => absurd hz List.not_mem_nil) rfl (by decide) (List.mem_cons_of_mem _ (List.mem_append_left _ (List.mem_append_left _ (List.mem_append_left _ (List.mem_append_left _ (List.mem_append_left _ (List.mem_append_left _ (List.mem_append_left _ (List.mem_append_left _ (List.mem_of_getElem? (i := 0) rfl)))))))))) (E.nest tbK_I rfl) (fun q => ?_)
      show G C (cW (xy C) S' ++ [oE (xy C) ob o]) (0 + 1) (0 + 6) 12 [(0, .ref a), (1, .int p0), (2, .ref ob)] [.ref q]
      refine g_astore_n (L' := [(3, .ref q), (0, .ref a), (1, .int p0), (2, .ref ob)]) E dL_detour_12 rfl (by decide) rfl ?_
      refine g_iconst (v := 1) E dL_detour_13 (by decide) ?_
      exact g_iret E hE hr dL_detour_14 (Nat.le_of_ble_eq_true rfl) (Nat.le_of_ble_eq_true rfl) (Or.inr ⟨S', _, _, rfl, rfl, hXP, List.mem_cons_self⟩)
  · obtain ⟨w1, rfl, S', rfl, hPv⟩ := h9
    obtain ⟨z, rfl⟩ := hsh v S' hPv
    show G C (cW (xy C) S' ++ [oE (xy C) ob o]) (0 + 1) (0 + 6) 7 [(0, .ref a), (1, .int p0), (2, .ref ob)] [.int z, .int 0, .ref ob]
    refine g_i2l E dL_detour_7 ?_
    refine g_outst E dL_detour_8 ?_
    refine g_goto (tgt := 15) E dL_detour_9 (by decide) ?_
    refine g_iconst (v := 0) E dL_detour_15 (by decide) ?_
    exact g_iret E hE hr dL_detour_16 (Nat.le_of_ble_eq_true rfl) (Nat.le_of_ble_eq_true rfl) (Or.inl ⟨S', _, _, rfl, rfl, hPv, z, rfl, rfl⟩)
abbrev rm_L_minutes : Room := { frames := 8, cells := 1, slots := 6, locals := 142 }
set_option maxHeartbeats 4000000 in
set_option maxRecDepth 100000 in
theorem w_minutes (l : Launch) (hl : l.stackTraces = false) (D : va_G) (cy : Nat → ClassId) (e0 : Nat) {S : wS} {a ob : Nat} {o : Nat → Int64} {p0 : Int32} {P : Option Value → wS → Prop} {XP : String → wS → Prop} (ha : a ∈ sL S) (hk : sK S a = 5) (hM : cMet l yX5_minutes wsX5_minutes rm_X5_minutes D cy e0 [.ref a, .int p0] S P XP 1 6) (hsh : ∀ v S', P v S' → ∃ z : Int64, v = some (.long z)) (hX : ∀ X S', XP X S' → X = "java/lang/IndexOutOfBoundsException") : gMet l yL_minutes wsL_minutes rm_L_minutes D cy e0 [.ref a, .int p0, .ref ob] (cW cy S ++ [oE cy ob o]) (WP cy ob o P XP cvJ [("java/lang/IndexOutOfBoundsException", 1)]) (fun _ _ => False) 1 6 := by
  refine gMet.ofH (cc := cL_minutes) (maxL := 4) (ret := some .int) (hh := [(0, 8, 11, 13)]) hl (by decide) rfl (Nat.le_of_ble_eq_true rfl) ?_
  intro C E h1 h2 h3 hr ht hE
  subst h1; subst h2; subst h3
  have E : gOk C cL_minutes 4 wsL_minutes RL e0 rm_L_minutes := E
  obtain ⟨k0, hk0⟩ := cW_get (cy := xy C) ha
  rw [wF_PW hk] at hk0
  show G C (cW (xy C) S ++ [oE (xy C) ob o]) 0 0 0 [(0, .ref a), (1, .int p0), (2, .ref ob)] []
  refine g_aload_n E dL_minutes_0 rfl 2 rfl ?_
  refine g_iconst (v := 0) E dL_minutes_1 (by decide) ?_
  refine g_aload_n E dL_minutes_2 rfl 0 rfl ?_
  refine g_iload_n E dL_minutes_3 rfl 1 rfl ?_
  refine g_invV (As := [.int p0]) (rest := [.int 0, .ref ob]) (n := 1) E (gMet.frameR hM [oE (xy C) ob o]) gL_minutes_X5_minutes rfl rfl rfl (by decide +kernel) ⟨Nat.le_of_ble_eq_true rfl, Nat.le_of_ble_eq_true rfl⟩ k0 6 rfl rfl (app_l hk0) rfl rfl (Nat.le_of_ble_eq_true rfl) dL_minutes_4 ⟨Nat.le_of_ble_eq_true rfl, Nat.le_of_ble_eq_true rfl⟩ (fun X w h9 => ?_) (fun v w h9 => ?_)
  · obtain ⟨w1, rfl, S', rfl, hXP⟩ := h9
    rcases hX X S' hXP with rfl
    · refine g_catch E (name := "java/lang/IndexOutOfBoundsException") [] ⟨0, 8, 11, 13⟩ [] ht (fun _ hz => absurd hz List.not_mem_nil) rfl (by decide) (List.mem_cons_of_mem _ (List.mem_append_left _ (List.mem_append_left _ (List.mem_append_left _ (List.mem_append_left _ (List.mem_append_left _ (List.mem_of_getElem? (i := 0) rfl))))))) (E.nest tbK_I rfl) (fun q => ?_)
      show G C (cW (xy C) S' ++ [oE (xy C) ob o]) (0 + 1) (0 + 6) 11 [(0, .ref a), (1, .int p0), (2, .ref ob)] [.ref q]
      refine g_astore_n (L' := [(3, .ref q), (0, .ref a), (1, .int p0), (2, .ref ob)]) E dL_minutes_11 rfl (by decide) rfl ?_
      refine g_iconst (v := 1) E dL_minutes_12 (by decide) ?_
      exact g_iret E hE hr dL_minutes_13 (Nat.le_of_ble_eq_true rfl) (Nat.le_of_ble_eq_true rfl) (Or.inr ⟨S', _, _, rfl, rfl, hXP, List.mem_cons_self⟩)
  · obtain ⟨w1, rfl, S', rfl, hPv⟩ := h9
    obtain ⟨z, rfl⟩ := hsh v S' hPv
    show G C (cW (xy C) S' ++ [oE (xy C) ob o]) (0 + 1) (0 + 6) 7 [(0, .ref a), (1, .int p0), (2, .ref ob)] [.long z, .int 0, .ref ob]
    refine g_outst E dL_minutes_7 ?_
    refine g_goto (tgt := 14) E dL_minutes_8 (by decide) ?_
    refine g_iconst (v := 0) E dL_minutes_14 (by decide) ?_
    exact g_iret E hE hr dL_minutes_15 (Nat.le_of_ble_eq_true rfl) (Nat.le_of_ble_eq_true rfl) (Or.inl ⟨S', _, _, rfl, rfl, hPv, rfl⟩)
abbrev rm_L_minutesAnew : Room := { frames := 8, cells := 1, slots := 6, locals := 148 }
set_option maxHeartbeats 4000000 in
set_option maxRecDepth 100000 in
theorem w_minutesAnew (l : Launch) (hl : l.stackTraces = false) (D : va_G) (cy : Nat → ClassId) (e0 : Nat) {S : wS} {a ob : Nat} {o : Nat → Int64} {p0 : Int32} {P : Option Value → wS → Prop} {XP : String → wS → Prop} (ha : a ∈ sL S) (hk : sK S a = 5) (hM : cMet l yX5_minutesAnew wsX5_minutesAnew rm_X5_minutesAnew D cy e0 [.ref a, .int p0] S P XP 1 6) (hsh : ∀ v S', P v S' → ∃ z : Int64, v = some (.long z)) (hX : ∀ X S', XP X S' → X = "java/lang/IndexOutOfBoundsException") : gMet l yL_minutesAnew wsL_minutesAnew rm_L_minutesAnew D cy e0 [.ref a, .int p0, .ref ob] (cW cy S ++ [oE cy ob o]) (WP cy ob o P XP cvJ [("java/lang/IndexOutOfBoundsException", 1)]) (fun _ _ => False) 1 6 := by
  refine gMet.ofH (cc := cL_minutesAnew) (maxL := 4) (ret := some .int) (hh := [(0, 8, 11, 13)]) hl (by decide) rfl (Nat.le_of_ble_eq_true rfl) ?_
  intro C E h1 h2 h3 hr ht hE
  subst h1; subst h2; subst h3
  have E : gOk C cL_minutesAnew 4 wsL_minutesAnew RL e0 rm_L_minutesAnew := E
  obtain ⟨k0, hk0⟩ := cW_get (cy := xy C) ha
  rw [wF_PW hk] at hk0
  show G C (cW (xy C) S ++ [oE (xy C) ob o]) 0 0 0 [(0, .ref a), (1, .int p0), (2, .ref ob)] []
  refine g_aload_n E dL_minutesAnew_0 rfl 2 rfl ?_
  refine g_iconst (v := 0) E dL_minutesAnew_1 (by decide) ?_
  refine g_aload_n E dL_minutesAnew_2 rfl 0 rfl ?_
  refine g_iload_n E dL_minutesAnew_3 rfl 1 rfl ?_
  refine g_invV (As := [.int p0]) (rest := [.int 0, .ref ob]) (n := 1) E (gMet.frameR hM [oE (xy C) ob o]) gL_minutesAnew_X5_minutesAnew rfl rfl rfl (by decide +kernel) ⟨Nat.le_of_ble_eq_true rfl, Nat.le_of_ble_eq_true rfl⟩ k0 6 rfl rfl (app_l hk0) rfl rfl (Nat.le_of_ble_eq_true rfl) dL_minutesAnew_4 ⟨Nat.le_of_ble_eq_true rfl, Nat.le_of_ble_eq_true rfl⟩ (fun X w h9 => ?_) (fun v w h9 => ?_)
  · obtain ⟨w1, rfl, S', rfl, hXP⟩ := h9
    rcases hX X S' hXP with rfl
    · refine g_catch E (name := "java/lang/IndexOutOfBoundsException") [] ⟨0, 8, 11, 13⟩ [] ht (fun _ hz => absurd hz List.not_mem_nil) rfl (by decide) (List.mem_cons_of_mem _ (List.mem_append_left _ (List.mem_append_left _ (List.mem_append_left _ (List.mem_append_left _ (List.mem_append_left _ (List.mem_append_left _ (List.mem_append_left _ (List.mem_append_left _ (List.mem_of_getElem? (i := 0) rfl)))))))))) (E.nest tbK_I rfl) (fun q => ?_)
      show G C (cW (xy C) S' ++ [oE (xy C) ob o]) (0 + 1) (0 + 6) 11 [(0, .ref a), (1, .int p0), (2, .ref ob)] [.ref q]
      refine g_astore_n (L' := [(3, .ref q), (0, .ref a), (1, .int p0), (2, .ref ob)]) E dL_minutesAnew_11 rfl (by decide) rfl ?_
      refine g_iconst (v := 1) E dL_minutesAnew_12 (by decide) ?_
      exact g_iret E hE hr dL_minutesAnew_13 (Nat.le_of_ble_eq_true rfl) (Nat.le_of_ble_eq_true rfl) (Or.inr ⟨S', _, _, rfl, rfl, hXP, List.mem_cons_self⟩)
  · obtain ⟨w1, rfl, S', rfl, hPv⟩ := h9
    obtain ⟨z, rfl⟩ := hsh v S' hPv
    show G C (cW (xy C) S' ++ [oE (xy C) ob o]) (0 + 1) (0 + 6) 7 [(0, .ref a), (1, .int p0), (2, .ref ob)] [.long z, .int 0, .ref ob]
    refine g_outst E dL_minutesAnew_7 ?_
    refine g_goto (tgt := 14) E dL_minutesAnew_8 (by decide) ?_
    refine g_iconst (v := 0) E dL_minutesAnew_14 (by decide) ?_
    exact g_iret E hE hr dL_minutesAnew_15 (Nat.le_of_ble_eq_true rfl) (Nat.le_of_ble_eq_true rfl) (Or.inl ⟨S', _, _, rfl, rfl, hPv, rfl⟩)
abbrev rm_L_apply : Room := { frames := 10, cells := 10, slots := 2100, locals := 438 }
set_option maxHeartbeats 4000000 in
set_option maxRecDepth 100000 in
theorem w_apply (l : Launch) (hl : l.stackTraces = false) (D : va_G) (cy : Nat → ClassId) (e0 : Nat) {S : wS} {a ob : Nat} {o : Nat → Int64} {p0 p1 p2 p3 p4 p5 : Int32} {P : Option Value → wS → Prop} {XP : String → wS → Prop} (ha : a ∈ sL S) (hk : sK S a = 5) (hM : cMet l yX5_apply wsX5_apply rm_X5_apply D cy e0 [.ref a, .int p0, .int p1, .int p2, .int p3, .int p4, .int p5] S P XP 10 2100) (hsh : ∀ v S', P v S' → ∃ z : Int32, v = some (.int z)) (hX : ∀ X S', XP X S' → X = "java/lang/IndexOutOfBoundsException" ∨ X = "java/lang/IllegalArgumentException" ∨ X = "java/lang/IllegalStateException") : gMet l yL_apply wsL_apply rm_L_apply D cy e0 [.ref a, .int p0, .int p1, .int p2, .int p3, .int p4, .int p5, .ref ob] (cW cy S ++ [oE cy ob o]) (WP cy ob o P XP cvI [("java/lang/IndexOutOfBoundsException", 1), ("java/lang/IllegalArgumentException", 2), ("java/lang/IllegalStateException", 3)]) (fun _ _ => False) 10 2100 := by
  refine gMet.ofH (cc := cL_apply) (maxL := 9) (ret := some .int) (hh := [(0, 18, 21, 13), (0, 18, 25, 15), (0, 18, 29, 17)]) hl (by decide) rfl (Nat.le_of_ble_eq_true rfl) ?_
  intro C E h1 h2 h3 hr ht hE
  subst h1; subst h2; subst h3
  have E : gOk C cL_apply 9 wsL_apply RL e0 rm_L_apply := E
  obtain ⟨k0, hk0⟩ := cW_get (cy := xy C) ha
  rw [wF_PW hk] at hk0
  show G C (cW (xy C) S ++ [oE (xy C) ob o]) 0 0 0 [(0, .ref a), (1, .int p0), (2, .int p1), (3, .int p2), (4, .int p3), (5, .int p4), (6, .int p5), (7, .ref ob)] []
  refine g_aload E dL_apply_0 7 rfl ?_
  refine g_iconst (v := 0) E dL_apply_2 (by decide) ?_
  refine g_aload_n E dL_apply_3 rfl 0 rfl ?_
  refine g_iload_n E dL_apply_4 rfl 1 rfl ?_
  refine g_iload_n E dL_apply_5 rfl 2 rfl ?_
  refine g_iload_n E dL_apply_6 rfl 3 rfl ?_
  refine g_iload E dL_apply_7 4 rfl ?_
  refine g_iload E dL_apply_9 5 rfl ?_
  refine g_iload E dL_apply_11 6 rfl ?_
  refine g_invV (As := [.int p0, .int p1, .int p2, .int p3, .int p4, .int p5]) (rest := [.int 0, .ref ob]) (n := 6) E (gMet.frameR hM [oE (xy C) ob o]) gL_apply_X5_apply rfl rfl rfl (by decide +kernel) ⟨Nat.le_of_ble_eq_true rfl, Nat.le_of_ble_eq_true rfl⟩ k0 6 rfl rfl (app_l hk0) rfl rfl (Nat.le_of_ble_eq_true rfl) dL_apply_13 ⟨Nat.le_of_ble_eq_true rfl, Nat.le_of_ble_eq_true rfl⟩ (fun X w h9 => ?_) (fun v w h9 => ?_)
  · obtain ⟨w1, rfl, S', rfl, hXP⟩ := h9
    rcases hX X S' hXP with rfl | rfl | rfl
    · refine g_catch E (name := "java/lang/IndexOutOfBoundsException") [] ⟨0, 18, 21, 13⟩ [⟨0, 18, 25, 15⟩, ⟨0, 18, 29, 17⟩] ht (fun _ hz => absurd hz List.not_mem_nil) rfl (by decide) (List.mem_cons_of_mem _ (List.mem_append_left _ (List.mem_append_left _ (List.mem_append_left _ (List.mem_append_left _ (List.mem_append_left _ (List.mem_append_left _ (List.mem_append_left _ (List.mem_append_left _ (List.mem_append_left _ (List.mem_of_getElem? (i := 0) rfl))))))))))) (E.nest tbK_I rfl) (fun q => ?_)
      show G C (cW (xy C) S' ++ [oE (xy C) ob o]) (0 + 10) (0 + 2100) 21 [(0, .ref a), (1, .int p0), (2, .int p1), (3, .int p2), (4, .int p3), (5, .int p4), (6, .int p5), (7, .ref ob)] [.ref q]
      refine g_astore (L' := [(8, .ref q), (0, .ref a), (1, .int p0), (2, .int p1), (3, .int p2), (4, .int p3), (5, .int p4), (6, .int p5), (7, .ref ob)]) E dL_apply_21 (by decide) rfl ?_
      refine g_iconst (v := 1) E dL_apply_23 (by decide) ?_
      exact g_iret E hE hr dL_apply_24 (Nat.le_of_ble_eq_true rfl) (Nat.le_of_ble_eq_true rfl) (Or.inr ⟨S', _, _, rfl, rfl, hXP, List.mem_cons_self⟩)
    · refine g_catch E (name := "java/lang/IllegalArgumentException") [⟨0, 18, 21, 13⟩] ⟨0, 18, 25, 15⟩ [⟨0, 18, 29, 17⟩] ht (fun z hz => by rw [List.mem_singleton.mp hz]; exact ⟨by decide, _, (List.mem_cons_of_mem _ (List.mem_append_left _ (List.mem_append_left _ (List.mem_append_left _ (List.mem_append_left _ (List.mem_append_left _ (List.mem_append_left _ (List.mem_append_left _ (List.mem_append_left _ (List.mem_append_left _ (List.mem_of_getElem? (i := 0) rfl))))))))))), E.nc1⟩) rfl (by decide) (List.mem_cons_of_mem _ (List.mem_append_left _ (List.mem_append_left _ (List.mem_append_left _ (List.mem_append_left _ (List.mem_append_left _ (List.mem_append_left _ (List.mem_append_left _ (List.mem_append_left _ (List.mem_append_left _ (List.mem_of_getElem? (i := 1) rfl))))))))))) (E.nest tbK_A rfl) (fun q => ?_)
      show G C (cW (xy C) S' ++ [oE (xy C) ob o]) (0 + 10) (0 + 2100) 25 [(0, .ref a), (1, .int p0), (2, .int p1), (3, .int p2), (4, .int p3), (5, .int p4), (6, .int p5), (7, .ref ob)] [.ref q]
      refine g_astore (L' := [(8, .ref q), (0, .ref a), (1, .int p0), (2, .int p1), (3, .int p2), (4, .int p3), (5, .int p4), (6, .int p5), (7, .ref ob)]) E dL_apply_25 (by decide) rfl ?_
      refine g_iconst (v := 2) E dL_apply_27 (by decide) ?_
      exact g_iret E hE hr dL_apply_28 (Nat.le_of_ble_eq_true rfl) (Nat.le_of_ble_eq_true rfl) (Or.inr ⟨S', _, _, rfl, rfl, hXP, (List.mem_cons_of_mem _ List.mem_cons_self)⟩)
    · refine g_catch E (name := "java/lang/IllegalStateException") [⟨0, 18, 21, 13⟩, ⟨0, 18, 25, 15⟩] ⟨0, 18, 29, 17⟩ [] ht (fun z hz => (List.mem_cons.mp hz).elim (fun hz => by rw [hz]; exact ⟨by decide, _, (List.mem_cons_of_mem _ (List.mem_append_left _ (List.mem_append_left _ (List.mem_append_left _ (List.mem_append_left _ (List.mem_append_left _ (List.mem_append_left _ (List.mem_append_left _ (List.mem_append_left _ (List.mem_append_left _ (List.mem_of_getElem? (i := 0) rfl))))))))))), E.nc2⟩) (fun hz => by rw [List.mem_singleton.mp hz]; exact ⟨by decide, _, (List.mem_cons_of_mem _ (List.mem_append_left _ (List.mem_append_left _ (List.mem_append_left _ (List.mem_append_left _ (List.mem_append_left _ (List.mem_append_left _ (List.mem_append_left _ (List.mem_append_left _ (List.mem_append_left _ (List.mem_of_getElem? (i := 1) rfl))))))))))), E.nc3⟩)) rfl (by decide) (List.mem_cons_of_mem _ (List.mem_append_left _ (List.mem_append_left _ (List.mem_append_left _ (List.mem_append_left _ (List.mem_append_left _ (List.mem_append_left _ (List.mem_append_left _ (List.mem_append_left _ (List.mem_append_left _ (List.mem_of_getElem? (i := 2) rfl))))))))))) (E.nest tbK_S rfl) (fun q => ?_)
      show G C (cW (xy C) S' ++ [oE (xy C) ob o]) (0 + 10) (0 + 2100) 29 [(0, .ref a), (1, .int p0), (2, .int p1), (3, .int p2), (4, .int p3), (5, .int p4), (6, .int p5), (7, .ref ob)] [.ref q]
      refine g_astore (L' := [(8, .ref q), (0, .ref a), (1, .int p0), (2, .int p1), (3, .int p2), (4, .int p3), (5, .int p4), (6, .int p5), (7, .ref ob)]) E dL_apply_29 (by decide) rfl ?_
      refine g_iconst (v := 3) E dL_apply_31 (by decide) ?_
      exact g_iret E hE hr dL_apply_32 (Nat.le_of_ble_eq_true rfl) (Nat.le_of_ble_eq_true rfl) (Or.inr ⟨S', _, _, rfl, rfl, hXP, (List.mem_cons_of_mem _ (List.mem_cons_of_mem _ List.mem_cons_self))⟩)
  · obtain ⟨w1, rfl, S', rfl, hPv⟩ := h9
    obtain ⟨z, rfl⟩ := hsh v S' hPv
    show G C (cW (xy C) S' ++ [oE (xy C) ob o]) (0 + 10) (0 + 2100) 16 [(0, .ref a), (1, .int p0), (2, .int p1), (3, .int p2), (4, .int p3), (5, .int p4), (6, .int p5), (7, .ref ob)] [.int z, .int 0, .ref ob]
    refine g_i2l E dL_apply_16 ?_
    refine g_outst E dL_apply_17 ?_
    refine g_goto (tgt := 33) E dL_apply_18 (by decide) ?_
    refine g_iconst (v := 0) E dL_apply_33 (by decide) ?_
    exact g_iret E hE hr dL_apply_34 (Nat.le_of_ble_eq_true rfl) (Nat.le_of_ble_eq_true rfl) (Or.inl ⟨S', _, _, rfl, rfl, hPv, z, rfl, rfl⟩)
abbrev rm_L_withdraw : Room := { frames := 8, cells := 2, slots := 12, locals := 146 }
set_option maxHeartbeats 4000000 in
set_option maxRecDepth 100000 in
theorem w_withdraw (l : Launch) (hl : l.stackTraces = false) (D : va_G) (cy : Nat → ClassId) (e0 : Nat) {S : wS} {a ob : Nat} {o : Nat → Int64} {p0 : Int32} {P : Option Value → wS → Prop} {XP : String → wS → Prop} (ha : a ∈ sL S) (hk : sK S a = 5) (hM : cMet l yX5_withdraw wsX5_withdraw rm_X5_withdraw D cy e0 [.ref a, .int p0] S P XP 2 12) (hsh : ∀ v S', P v S' → ∃ z : Int32, v = some (.int z)) (hX : ∀ X S', XP X S' → X = "java/lang/IndexOutOfBoundsException" ∨ X = "java/lang/IllegalStateException") : gMet l yL_withdraw wsL_withdraw rm_L_withdraw D cy e0 [.ref a, .int p0, .ref ob] (cW cy S ++ [oE cy ob o]) (WP cy ob o P XP cvI [("java/lang/IndexOutOfBoundsException", 1), ("java/lang/IllegalStateException", 2)]) (fun _ _ => False) 2 12 := by
  refine gMet.ofH (cc := cL_withdraw) (maxL := 4) (ret := some .int) (hh := [(0, 9, 12, 13), (0, 9, 15, 17)]) hl (by decide) rfl (Nat.le_of_ble_eq_true rfl) ?_
  intro C E h1 h2 h3 hr ht hE
  subst h1; subst h2; subst h3
  have E : gOk C cL_withdraw 4 wsL_withdraw RL e0 rm_L_withdraw := E
  obtain ⟨k0, hk0⟩ := cW_get (cy := xy C) ha
  rw [wF_PW hk] at hk0
  show G C (cW (xy C) S ++ [oE (xy C) ob o]) 0 0 0 [(0, .ref a), (1, .int p0), (2, .ref ob)] []
  refine g_aload_n E dL_withdraw_0 rfl 2 rfl ?_
  refine g_iconst (v := 0) E dL_withdraw_1 (by decide) ?_
  refine g_aload_n E dL_withdraw_2 rfl 0 rfl ?_
  refine g_iload_n E dL_withdraw_3 rfl 1 rfl ?_
  refine g_invV (As := [.int p0]) (rest := [.int 0, .ref ob]) (n := 1) E (gMet.frameR hM [oE (xy C) ob o]) gL_withdraw_X5_withdraw rfl rfl rfl (by decide +kernel) ⟨Nat.le_of_ble_eq_true rfl, Nat.le_of_ble_eq_true rfl⟩ k0 6 rfl rfl (app_l hk0) rfl rfl (Nat.le_of_ble_eq_true rfl) dL_withdraw_4 ⟨Nat.le_of_ble_eq_true rfl, Nat.le_of_ble_eq_true rfl⟩ (fun X w h9 => ?_) (fun v w h9 => ?_)
  · obtain ⟨w1, rfl, S', rfl, hXP⟩ := h9
    rcases hX X S' hXP with rfl | rfl
    · refine g_catch E (name := "java/lang/IndexOutOfBoundsException") [] ⟨0, 9, 12, 13⟩ [⟨0, 9, 15, 17⟩] ht (fun _ hz => absurd hz List.not_mem_nil) rfl (by decide) (List.mem_cons_of_mem _ (List.mem_append_left _ (List.mem_append_left _ (List.mem_append_left _ (List.mem_append_left _ (List.mem_append_left _ (List.mem_append_left _ (List.mem_append_left _ (List.mem_of_getElem? (i := 0) rfl))))))))) (E.nest tbK_I rfl) (fun q => ?_)
      show G C (cW (xy C) S' ++ [oE (xy C) ob o]) (0 + 2) (0 + 12) 12 [(0, .ref a), (1, .int p0), (2, .ref ob)] [.ref q]
      refine g_astore_n (L' := [(3, .ref q), (0, .ref a), (1, .int p0), (2, .ref ob)]) E dL_withdraw_12 rfl (by decide) rfl ?_
      refine g_iconst (v := 1) E dL_withdraw_13 (by decide) ?_
      exact g_iret E hE hr dL_withdraw_14 (Nat.le_of_ble_eq_true rfl) (Nat.le_of_ble_eq_true rfl) (Or.inr ⟨S', _, _, rfl, rfl, hXP, List.mem_cons_self⟩)
    · refine g_catch E (name := "java/lang/IllegalStateException") [⟨0, 9, 12, 13⟩] ⟨0, 9, 15, 17⟩ [] ht (fun z hz => by rw [List.mem_singleton.mp hz]; exact ⟨by decide, _, (List.mem_cons_of_mem _ (List.mem_append_left _ (List.mem_append_left _ (List.mem_append_left _ (List.mem_append_left _ (List.mem_append_left _ (List.mem_append_left _ (List.mem_append_left _ (List.mem_of_getElem? (i := 0) rfl))))))))), E.nc2⟩) rfl (by decide) (List.mem_cons_of_mem _ (List.mem_append_left _ (List.mem_append_left _ (List.mem_append_left _ (List.mem_append_left _ (List.mem_append_left _ (List.mem_append_left _ (List.mem_append_left _ (List.mem_of_getElem? (i := 1) rfl))))))))) (E.nest tbK_S rfl) (fun q => ?_)
      show G C (cW (xy C) S' ++ [oE (xy C) ob o]) (0 + 2) (0 + 12) 15 [(0, .ref a), (1, .int p0), (2, .ref ob)] [.ref q]
      refine g_astore_n (L' := [(3, .ref q), (0, .ref a), (1, .int p0), (2, .ref ob)]) E dL_withdraw_15 rfl (by decide) rfl ?_
      refine g_iconst (v := 2) E dL_withdraw_16 (by decide) ?_
      exact g_iret E hE hr dL_withdraw_17 (Nat.le_of_ble_eq_true rfl) (Nat.le_of_ble_eq_true rfl) (Or.inr ⟨S', _, _, rfl, rfl, hXP, (List.mem_cons_of_mem _ List.mem_cons_self)⟩)
  · obtain ⟨w1, rfl, S', rfl, hPv⟩ := h9
    obtain ⟨z, rfl⟩ := hsh v S' hPv
    show G C (cW (xy C) S' ++ [oE (xy C) ob o]) (0 + 2) (0 + 12) 7 [(0, .ref a), (1, .int p0), (2, .ref ob)] [.int z, .int 0, .ref ob]
    refine g_i2l E dL_withdraw_7 ?_
    refine g_outst E dL_withdraw_8 ?_
    refine g_goto (tgt := 18) E dL_withdraw_9 (by decide) ?_
    refine g_iconst (v := 0) E dL_withdraw_18 (by decide) ?_
    exact g_iret E hE hr dL_withdraw_19 (Nat.le_of_ble_eq_true rfl) (Nat.le_of_ble_eq_true rfl) (Or.inl ⟨S', _, _, rfl, rfl, hPv, z, rfl, rfl⟩)
abbrev rm_L_begin : Room := { frames := 8, cells := 2, slots := 12, locals := 143 }
set_option maxHeartbeats 4000000 in
set_option maxRecDepth 100000 in
theorem w_begin (l : Launch) (hl : l.stackTraces = false) (D : va_G) (cy : Nat → ClassId) (e0 : Nat) {S : wS} {a ob : Nat} {o : Nat → Int64} {p0 : Int32} {P : Option Value → wS → Prop} {XP : String → wS → Prop} (ha : a ∈ sL S) (hk : sK S a = 5) (hM : cMet l yX5_begin wsX5_begin rm_X5_begin D cy e0 [.ref a, .int p0] S P XP 2 12) (hsh : ∀ v S', P v S' → ∃ z : Int32, v = some (.int z)) (hX : ∀ X S', XP X S' → X = "java/lang/IndexOutOfBoundsException" ∨ X = "java/lang/IllegalStateException") : gMet l yL_begin wsL_begin rm_L_begin D cy e0 [.ref a, .int p0, .ref ob] (cW cy S ++ [oE cy ob o]) (WP cy ob o P XP cvI [("java/lang/IndexOutOfBoundsException", 1), ("java/lang/IllegalStateException", 2)]) (fun _ _ => False) 2 12 := by
  refine gMet.ofH (cc := cL_begin) (maxL := 4) (ret := some .int) (hh := [(0, 9, 12, 13), (0, 9, 15, 17)]) hl (by decide) rfl (Nat.le_of_ble_eq_true rfl) ?_
  intro C E h1 h2 h3 hr ht hE
  subst h1; subst h2; subst h3
  have E : gOk C cL_begin 4 wsL_begin RL e0 rm_L_begin := E
  obtain ⟨k0, hk0⟩ := cW_get (cy := xy C) ha
  rw [wF_PW hk] at hk0
  show G C (cW (xy C) S ++ [oE (xy C) ob o]) 0 0 0 [(0, .ref a), (1, .int p0), (2, .ref ob)] []
  refine g_aload_n E dL_begin_0 rfl 2 rfl ?_
  refine g_iconst (v := 0) E dL_begin_1 (by decide) ?_
  refine g_aload_n E dL_begin_2 rfl 0 rfl ?_
  refine g_iload_n E dL_begin_3 rfl 1 rfl ?_
  refine g_invV (As := [.int p0]) (rest := [.int 0, .ref ob]) (n := 1) E (gMet.frameR hM [oE (xy C) ob o]) gL_begin_X5_begin rfl rfl rfl (by decide +kernel) ⟨Nat.le_of_ble_eq_true rfl, Nat.le_of_ble_eq_true rfl⟩ k0 6 rfl rfl (app_l hk0) rfl rfl (Nat.le_of_ble_eq_true rfl) dL_begin_4 ⟨Nat.le_of_ble_eq_true rfl, Nat.le_of_ble_eq_true rfl⟩ (fun X w h9 => ?_) (fun v w h9 => ?_)
  · obtain ⟨w1, rfl, S', rfl, hXP⟩ := h9
    rcases hX X S' hXP with rfl | rfl
    · refine g_catch E (name := "java/lang/IndexOutOfBoundsException") [] ⟨0, 9, 12, 13⟩ [⟨0, 9, 15, 17⟩] ht (fun _ hz => absurd hz List.not_mem_nil) rfl (by decide) (List.mem_cons_of_mem _ (List.mem_append_left _ (List.mem_append_left _ (List.mem_append_left _ (List.mem_append_left _ (List.mem_append_left _ (List.mem_append_left _ (List.mem_append_left _ (List.mem_of_getElem? (i := 0) rfl))))))))) (E.nest tbK_I rfl) (fun q => ?_)
      show G C (cW (xy C) S' ++ [oE (xy C) ob o]) (0 + 2) (0 + 12) 12 [(0, .ref a), (1, .int p0), (2, .ref ob)] [.ref q]
      refine g_astore_n (L' := [(3, .ref q), (0, .ref a), (1, .int p0), (2, .ref ob)]) E dL_begin_12 rfl (by decide) rfl ?_
      refine g_iconst (v := 1) E dL_begin_13 (by decide) ?_
      exact g_iret E hE hr dL_begin_14 (Nat.le_of_ble_eq_true rfl) (Nat.le_of_ble_eq_true rfl) (Or.inr ⟨S', _, _, rfl, rfl, hXP, List.mem_cons_self⟩)
    · refine g_catch E (name := "java/lang/IllegalStateException") [⟨0, 9, 12, 13⟩] ⟨0, 9, 15, 17⟩ [] ht (fun z hz => by rw [List.mem_singleton.mp hz]; exact ⟨by decide, _, (List.mem_cons_of_mem _ (List.mem_append_left _ (List.mem_append_left _ (List.mem_append_left _ (List.mem_append_left _ (List.mem_append_left _ (List.mem_append_left _ (List.mem_append_left _ (List.mem_of_getElem? (i := 0) rfl))))))))), E.nc2⟩) rfl (by decide) (List.mem_cons_of_mem _ (List.mem_append_left _ (List.mem_append_left _ (List.mem_append_left _ (List.mem_append_left _ (List.mem_append_left _ (List.mem_append_left _ (List.mem_append_left _ (List.mem_of_getElem? (i := 1) rfl))))))))) (E.nest tbK_S rfl) (fun q => ?_)
      show G C (cW (xy C) S' ++ [oE (xy C) ob o]) (0 + 2) (0 + 12) 15 [(0, .ref a), (1, .int p0), (2, .ref ob)] [.ref q]
      refine g_astore_n (L' := [(3, .ref q), (0, .ref a), (1, .int p0), (2, .ref ob)]) E dL_begin_15 rfl (by decide) rfl ?_
      refine g_iconst (v := 2) E dL_begin_16 (by decide) ?_
      exact g_iret E hE hr dL_begin_17 (Nat.le_of_ble_eq_true rfl) (Nat.le_of_ble_eq_true rfl) (Or.inr ⟨S', _, _, rfl, rfl, hXP, (List.mem_cons_of_mem _ List.mem_cons_self)⟩)
  · obtain ⟨w1, rfl, S', rfl, hPv⟩ := h9
    obtain ⟨z, rfl⟩ := hsh v S' hPv
    show G C (cW (xy C) S' ++ [oE (xy C) ob o]) (0 + 2) (0 + 12) 7 [(0, .ref a), (1, .int p0), (2, .ref ob)] [.int z, .int 0, .ref ob]
    refine g_i2l E dL_begin_7 ?_
    refine g_outst E dL_begin_8 ?_
    refine g_goto (tgt := 18) E dL_begin_9 (by decide) ?_
    refine g_iconst (v := 0) E dL_begin_18 (by decide) ?_
    exact g_iret E hE hr dL_begin_19 (Nat.le_of_ble_eq_true rfl) (Nat.le_of_ble_eq_true rfl) (Or.inl ⟨S', _, _, rfl, rfl, hPv, z, rfl, rfl⟩)
abbrev rm_L_finish : Room := { frames := 8, cells := 2, slots := 12, locals := 143 }
set_option maxHeartbeats 4000000 in
set_option maxRecDepth 100000 in
theorem w_finish (l : Launch) (hl : l.stackTraces = false) (D : va_G) (cy : Nat → ClassId) (e0 : Nat) {S : wS} {a ob : Nat} {o : Nat → Int64} {p0 : Int32} {P : Option Value → wS → Prop} {XP : String → wS → Prop} (ha : a ∈ sL S) (hk : sK S a = 5) (hM : cMet l yX5_finish wsX5_finish rm_X5_finish D cy e0 [.ref a, .int p0] S P XP 2 12) (hsh : ∀ v S', P v S' → ∃ z : Int64, v = some (.long z)) (hX : ∀ X S', XP X S' → X = "java/lang/IndexOutOfBoundsException" ∨ X = "java/lang/IllegalStateException") : gMet l yL_finish wsL_finish rm_L_finish D cy e0 [.ref a, .int p0, .ref ob] (cW cy S ++ [oE cy ob o]) (WP cy ob o P XP cvJ [("java/lang/IndexOutOfBoundsException", 1), ("java/lang/IllegalStateException", 2)]) (fun _ _ => False) 2 12 := by
  refine gMet.ofH (cc := cL_finish) (maxL := 4) (ret := some .int) (hh := [(0, 8, 11, 13), (0, 8, 14, 17)]) hl (by decide) rfl (Nat.le_of_ble_eq_true rfl) ?_
  intro C E h1 h2 h3 hr ht hE
  subst h1; subst h2; subst h3
  have E : gOk C cL_finish 4 wsL_finish RL e0 rm_L_finish := E
  obtain ⟨k0, hk0⟩ := cW_get (cy := xy C) ha
  rw [wF_PW hk] at hk0
  show G C (cW (xy C) S ++ [oE (xy C) ob o]) 0 0 0 [(0, .ref a), (1, .int p0), (2, .ref ob)] []
  refine g_aload_n E dL_finish_0 rfl 2 rfl ?_
  refine g_iconst (v := 0) E dL_finish_1 (by decide) ?_
  refine g_aload_n E dL_finish_2 rfl 0 rfl ?_
  refine g_iload_n E dL_finish_3 rfl 1 rfl ?_
  refine g_invV (As := [.int p0]) (rest := [.int 0, .ref ob]) (n := 1) E (gMet.frameR hM [oE (xy C) ob o]) gL_finish_X5_finish rfl rfl rfl (by decide +kernel) ⟨Nat.le_of_ble_eq_true rfl, Nat.le_of_ble_eq_true rfl⟩ k0 6 rfl rfl (app_l hk0) rfl rfl (Nat.le_of_ble_eq_true rfl) dL_finish_4 ⟨Nat.le_of_ble_eq_true rfl, Nat.le_of_ble_eq_true rfl⟩ (fun X w h9 => ?_) (fun v w h9 => ?_)
  · obtain ⟨w1, rfl, S', rfl, hXP⟩ := h9
    rcases hX X S' hXP with rfl | rfl
    · refine g_catch E (name := "java/lang/IndexOutOfBoundsException") [] ⟨0, 8, 11, 13⟩ [⟨0, 8, 14, 17⟩] ht (fun _ hz => absurd hz List.not_mem_nil) rfl (by decide) (List.mem_cons_of_mem _ (List.mem_append_left _ (List.mem_append_left _ (List.mem_append_left _ (List.mem_append_left _ (List.mem_append_left _ (List.mem_append_left _ (List.mem_of_getElem? (i := 0) rfl)))))))) (E.nest tbK_I rfl) (fun q => ?_)
      show G C (cW (xy C) S' ++ [oE (xy C) ob o]) (0 + 2) (0 + 12) 11 [(0, .ref a), (1, .int p0), (2, .ref ob)] [.ref q]
      refine g_astore_n (L' := [(3, .ref q), (0, .ref a), (1, .int p0), (2, .ref ob)]) E dL_finish_11 rfl (by decide) rfl ?_
      refine g_iconst (v := 1) E dL_finish_12 (by decide) ?_
      exact g_iret E hE hr dL_finish_13 (Nat.le_of_ble_eq_true rfl) (Nat.le_of_ble_eq_true rfl) (Or.inr ⟨S', _, _, rfl, rfl, hXP, List.mem_cons_self⟩)
    · refine g_catch E (name := "java/lang/IllegalStateException") [⟨0, 8, 11, 13⟩] ⟨0, 8, 14, 17⟩ [] ht (fun z hz => by rw [List.mem_singleton.mp hz]; exact ⟨by decide, _, (List.mem_cons_of_mem _ (List.mem_append_left _ (List.mem_append_left _ (List.mem_append_left _ (List.mem_append_left _ (List.mem_append_left _ (List.mem_append_left _ (List.mem_of_getElem? (i := 0) rfl)))))))), E.nc2⟩) rfl (by decide) (List.mem_cons_of_mem _ (List.mem_append_left _ (List.mem_append_left _ (List.mem_append_left _ (List.mem_append_left _ (List.mem_append_left _ (List.mem_append_left _ (List.mem_of_getElem? (i := 1) rfl)))))))) (E.nest tbK_S rfl) (fun q => ?_)
      show G C (cW (xy C) S' ++ [oE (xy C) ob o]) (0 + 2) (0 + 12) 14 [(0, .ref a), (1, .int p0), (2, .ref ob)] [.ref q]
      refine g_astore_n (L' := [(3, .ref q), (0, .ref a), (1, .int p0), (2, .ref ob)]) E dL_finish_14 rfl (by decide) rfl ?_
      refine g_iconst (v := 2) E dL_finish_15 (by decide) ?_
      exact g_iret E hE hr dL_finish_16 (Nat.le_of_ble_eq_true rfl) (Nat.le_of_ble_eq_true rfl) (Or.inr ⟨S', _, _, rfl, rfl, hXP, (List.mem_cons_of_mem _ List.mem_cons_self)⟩)
  · obtain ⟨w1, rfl, S', rfl, hPv⟩ := h9
    obtain ⟨z, rfl⟩ := hsh v S' hPv
    show G C (cW (xy C) S' ++ [oE (xy C) ob o]) (0 + 2) (0 + 12) 7 [(0, .ref a), (1, .int p0), (2, .ref ob)] [.long z, .int 0, .ref ob]
    refine g_outst E dL_finish_7 ?_
    refine g_goto (tgt := 17) E dL_finish_8 (by decide) ?_
    refine g_iconst (v := 0) E dL_finish_17 (by decide) ?_
    exact g_iret E hE hr dL_finish_18 (Nat.le_of_ble_eq_true rfl) (Nat.le_of_ble_eq_true rfl) (Or.inl ⟨S', _, _, rfl, rfl, hPv, rfl⟩)
abbrev rm_L_state : Room := { frames := 8, cells := 1, slots := 6, locals := 142 }
set_option maxHeartbeats 4000000 in
set_option maxRecDepth 100000 in
theorem w_state (l : Launch) (hl : l.stackTraces = false) (D : va_G) (cy : Nat → ClassId) (e0 : Nat) {S : wS} {a ob : Nat} {o : Nat → Int64} {p0 : Int32} {P : Option Value → wS → Prop} {XP : String → wS → Prop} (ha : a ∈ sL S) (hk : sK S a = 5) (hM : cMet l yX5_state wsX5_state rm_X5_state D cy e0 [.ref a, .int p0] S P XP 1 6) (hsh : ∀ v S', P v S' → ∃ z : Int32, v = some (.int z)) (hX : ∀ X S', XP X S' → X = "java/lang/IndexOutOfBoundsException") : gMet l yL_state wsL_state rm_L_state D cy e0 [.ref a, .int p0, .ref ob] (cW cy S ++ [oE cy ob o]) (WP cy ob o P XP cvI [("java/lang/IndexOutOfBoundsException", 1)]) (fun _ _ => False) 1 6 := by
  refine gMet.ofH (cc := cL_state) (maxL := 4) (ret := some .int) (hh := [(0, 9, 12, 13)]) hl (by decide) rfl (Nat.le_of_ble_eq_true rfl) ?_
  intro C E h1 h2 h3 hr ht hE
  subst h1; subst h2; subst h3
  have E : gOk C cL_state 4 wsL_state RL e0 rm_L_state := E
  obtain ⟨k0, hk0⟩ := cW_get (cy := xy C) ha
  rw [wF_PW hk] at hk0
  show G C (cW (xy C) S ++ [oE (xy C) ob o]) 0 0 0 [(0, .ref a), (1, .int p0), (2, .ref ob)] []
  refine g_aload_n E dL_state_0 rfl 2 rfl ?_
  refine g_iconst (v := 0) E dL_state_1 (by decide) ?_
  refine g_aload_n E dL_state_2 rfl 0 rfl ?_
  refine g_iload_n E dL_state_3 rfl 1 rfl ?_
  refine g_invV (As := [.int p0]) (rest := [.int 0, .ref ob]) (n := 1) E (gMet.frameR hM [oE (xy C) ob o]) gL_state_X5_state rfl rfl rfl (by decide +kernel) ⟨Nat.le_of_ble_eq_true rfl, Nat.le_of_ble_eq_true rfl⟩ k0 6 rfl rfl (app_l hk0) rfl rfl (Nat.le_of_ble_eq_true rfl) dL_state_4 ⟨Nat.le_of_ble_eq_true rfl, Nat.le_of_ble_eq_true rfl⟩ (fun X w h9 => ?_) (fun v w h9 => ?_)
  · obtain ⟨w1, rfl, S', rfl, hXP⟩ := h9
    rcases hX X S' hXP with rfl
    · refine g_catch E (name := "java/lang/IndexOutOfBoundsException") [] ⟨0, 9, 12, 13⟩ [] ht (fun _ hz => absurd hz List.not_mem_nil) rfl (by decide) (List.mem_cons_of_mem _ (List.mem_append_left _ (List.mem_append_left _ (List.mem_append_left _ (List.mem_append_left _ (List.mem_append_left _ (List.mem_of_getElem? (i := 0) rfl))))))) (E.nest tbK_I rfl) (fun q => ?_)
      show G C (cW (xy C) S' ++ [oE (xy C) ob o]) (0 + 1) (0 + 6) 12 [(0, .ref a), (1, .int p0), (2, .ref ob)] [.ref q]
      refine g_astore_n (L' := [(3, .ref q), (0, .ref a), (1, .int p0), (2, .ref ob)]) E dL_state_12 rfl (by decide) rfl ?_
      refine g_iconst (v := 1) E dL_state_13 (by decide) ?_
      exact g_iret E hE hr dL_state_14 (Nat.le_of_ble_eq_true rfl) (Nat.le_of_ble_eq_true rfl) (Or.inr ⟨S', _, _, rfl, rfl, hXP, List.mem_cons_self⟩)
  · obtain ⟨w1, rfl, S', rfl, hPv⟩ := h9
    obtain ⟨z, rfl⟩ := hsh v S' hPv
    show G C (cW (xy C) S' ++ [oE (xy C) ob o]) (0 + 1) (0 + 6) 7 [(0, .ref a), (1, .int p0), (2, .ref ob)] [.int z, .int 0, .ref ob]
    refine g_i2l E dL_state_7 ?_
    refine g_outst E dL_state_8 ?_
    refine g_goto (tgt := 15) E dL_state_9 (by decide) ?_
    refine g_iconst (v := 0) E dL_state_15 (by decide) ?_
    exact g_iret E hE hr dL_state_16 (Nat.le_of_ble_eq_true rfl) (Nat.le_of_ble_eq_true rfl) (Or.inl ⟨S', _, _, rfl, rfl, hPv, z, rfl, rfl⟩)
abbrev rm_L_cause : Room := { frames := 8, cells := 1, slots := 6, locals := 142 }
set_option maxHeartbeats 4000000 in
set_option maxRecDepth 100000 in
theorem w_cause (l : Launch) (hl : l.stackTraces = false) (D : va_G) (cy : Nat → ClassId) (e0 : Nat) {S : wS} {a ob : Nat} {o : Nat → Int64} {p0 : Int32} {P : Option Value → wS → Prop} {XP : String → wS → Prop} (ha : a ∈ sL S) (hk : sK S a = 5) (hM : cMet l yX5_cause wsX5_cause rm_X5_cause D cy e0 [.ref a, .int p0] S P XP 1 6) (hsh : ∀ v S', P v S' → ∃ z : Int32, v = some (.int z)) (hX : ∀ X S', XP X S' → X = "java/lang/IndexOutOfBoundsException") : gMet l yL_cause wsL_cause rm_L_cause D cy e0 [.ref a, .int p0, .ref ob] (cW cy S ++ [oE cy ob o]) (WP cy ob o P XP cvI [("java/lang/IndexOutOfBoundsException", 1)]) (fun _ _ => False) 1 6 := by
  refine gMet.ofH (cc := cL_cause) (maxL := 4) (ret := some .int) (hh := [(0, 9, 12, 13)]) hl (by decide) rfl (Nat.le_of_ble_eq_true rfl) ?_
  intro C E h1 h2 h3 hr ht hE
  subst h1; subst h2; subst h3
  have E : gOk C cL_cause 4 wsL_cause RL e0 rm_L_cause := E
  obtain ⟨k0, hk0⟩ := cW_get (cy := xy C) ha
  rw [wF_PW hk] at hk0
  show G C (cW (xy C) S ++ [oE (xy C) ob o]) 0 0 0 [(0, .ref a), (1, .int p0), (2, .ref ob)] []
  refine g_aload_n E dL_cause_0 rfl 2 rfl ?_
  refine g_iconst (v := 0) E dL_cause_1 (by decide) ?_
  refine g_aload_n E dL_cause_2 rfl 0 rfl ?_
  refine g_iload_n E dL_cause_3 rfl 1 rfl ?_
  refine g_invV (As := [.int p0]) (rest := [.int 0, .ref ob]) (n := 1) E (gMet.frameR hM [oE (xy C) ob o]) gL_cause_X5_cause rfl rfl rfl (by decide +kernel) ⟨Nat.le_of_ble_eq_true rfl, Nat.le_of_ble_eq_true rfl⟩ k0 6 rfl rfl (app_l hk0) rfl rfl (Nat.le_of_ble_eq_true rfl) dL_cause_4 ⟨Nat.le_of_ble_eq_true rfl, Nat.le_of_ble_eq_true rfl⟩ (fun X w h9 => ?_) (fun v w h9 => ?_)
  · obtain ⟨w1, rfl, S', rfl, hXP⟩ := h9
    rcases hX X S' hXP with rfl
    · refine g_catch E (name := "java/lang/IndexOutOfBoundsException") [] ⟨0, 9, 12, 13⟩ [] ht (fun _ hz => absurd hz List.not_mem_nil) rfl (by decide) (List.mem_cons_of_mem _ (List.mem_append_left _ (List.mem_append_left _ (List.mem_append_left _ (List.mem_append_left _ (List.mem_append_left _ (List.mem_of_getElem? (i := 0) rfl))))))) (E.nest tbK_I rfl) (fun q => ?_)
      show G C (cW (xy C) S' ++ [oE (xy C) ob o]) (0 + 1) (0 + 6) 12 [(0, .ref a), (1, .int p0), (2, .ref ob)] [.ref q]
      refine g_astore_n (L' := [(3, .ref q), (0, .ref a), (1, .int p0), (2, .ref ob)]) E dL_cause_12 rfl (by decide) rfl ?_
      refine g_iconst (v := 1) E dL_cause_13 (by decide) ?_
      exact g_iret E hE hr dL_cause_14 (Nat.le_of_ble_eq_true rfl) (Nat.le_of_ble_eq_true rfl) (Or.inr ⟨S', _, _, rfl, rfl, hXP, List.mem_cons_self⟩)
  · obtain ⟨w1, rfl, S', rfl, hPv⟩ := h9
    obtain ⟨z, rfl⟩ := hsh v S' hPv
    show G C (cW (xy C) S' ++ [oE (xy C) ob o]) (0 + 1) (0 + 6) 7 [(0, .ref a), (1, .int p0), (2, .ref ob)] [.int z, .int 0, .ref ob]
    refine g_i2l E dL_cause_7 ?_
    refine g_outst E dL_cause_8 ?_
    refine g_goto (tgt := 15) E dL_cause_9 (by decide) ?_
    refine g_iconst (v := 0) E dL_cause_15 (by decide) ?_
    exact g_iret E hE hr dL_cause_16 (Nat.le_of_ble_eq_true rfl) (Nat.le_of_ble_eq_true rfl) (Or.inl ⟨S', _, _, rfl, rfl, hPv, z, rfl, rfl⟩)
abbrev rm_L_from : Room := { frames := 8, cells := 1, slots := 6, locals := 142 }
set_option maxHeartbeats 4000000 in
set_option maxRecDepth 100000 in
theorem w_from (l : Launch) (hl : l.stackTraces = false) (D : va_G) (cy : Nat → ClassId) (e0 : Nat) {S : wS} {a ob : Nat} {o : Nat → Int64} {p0 : Int32} {P : Option Value → wS → Prop} {XP : String → wS → Prop} (ha : a ∈ sL S) (hk : sK S a = 5) (hM : cMet l yX5_from wsX5_from rm_X5_from D cy e0 [.ref a, .int p0] S P XP 1 6) (hsh : ∀ v S', P v S' → ∃ z : Int32, v = some (.int z)) (hX : ∀ X S', XP X S' → X = "java/lang/IndexOutOfBoundsException") : gMet l yL_from wsL_from rm_L_from D cy e0 [.ref a, .int p0, .ref ob] (cW cy S ++ [oE cy ob o]) (WP cy ob o P XP cvI [("java/lang/IndexOutOfBoundsException", 1)]) (fun _ _ => False) 1 6 := by
  refine gMet.ofH (cc := cL_from) (maxL := 4) (ret := some .int) (hh := [(0, 9, 12, 13)]) hl (by decide) rfl (Nat.le_of_ble_eq_true rfl) ?_
  intro C E h1 h2 h3 hr ht hE
  subst h1; subst h2; subst h3
  have E : gOk C cL_from 4 wsL_from RL e0 rm_L_from := E
  obtain ⟨k0, hk0⟩ := cW_get (cy := xy C) ha
  rw [wF_PW hk] at hk0
  show G C (cW (xy C) S ++ [oE (xy C) ob o]) 0 0 0 [(0, .ref a), (1, .int p0), (2, .ref ob)] []
  refine g_aload_n E dL_from_0 rfl 2 rfl ?_
  refine g_iconst (v := 0) E dL_from_1 (by decide) ?_
  refine g_aload_n E dL_from_2 rfl 0 rfl ?_
  refine g_iload_n E dL_from_3 rfl 1 rfl ?_
  refine g_invV (As := [.int p0]) (rest := [.int 0, .ref ob]) (n := 1) E (gMet.frameR hM [oE (xy C) ob o]) gL_from_X5_from rfl rfl rfl (by decide +kernel) ⟨Nat.le_of_ble_eq_true rfl, Nat.le_of_ble_eq_true rfl⟩ k0 6 rfl rfl (app_l hk0) rfl rfl (Nat.le_of_ble_eq_true rfl) dL_from_4 ⟨Nat.le_of_ble_eq_true rfl, Nat.le_of_ble_eq_true rfl⟩ (fun X w h9 => ?_) (fun v w h9 => ?_)
  · obtain ⟨w1, rfl, S', rfl, hXP⟩ := h9
    rcases hX X S' hXP with rfl
    · refine g_catch E (name := "java/lang/IndexOutOfBoundsException") [] ⟨0, 9, 12, 13⟩ [] ht (fun _ hz => absurd hz List.not_mem_nil) rfl (by decide) (List.mem_cons_of_mem _ (List.mem_append_left _ (List.mem_append_left _ (List.mem_append_left _ (List.mem_append_left _ (List.mem_append_left _ (List.mem_append_left _ (List.mem_of_getElem? (i := 0) rfl)))))))) (E.nest tbK_I rfl) (fun q => ?_)
      show G C (cW (xy C) S' ++ [oE (xy C) ob o]) (0 + 1) (0 + 6) 12 [(0, .ref a), (1, .int p0), (2, .ref ob)] [.ref q]
      refine g_astore_n (L' := [(3, .ref q), (0, .ref a), (1, .int p0), (2, .ref ob)]) E dL_from_12 rfl (by decide) rfl ?_
      refine g_iconst (v := 1) E dL_from_13 (by decide) ?_
      exact g_iret E hE hr dL_from_14 (Nat.le_of_ble_eq_true rfl) (Nat.le_of_ble_eq_true rfl) (Or.inr ⟨S', _, _, rfl, rfl, hXP, List.mem_cons_self⟩)
  · obtain ⟨w1, rfl, S', rfl, hPv⟩ := h9
    obtain ⟨z, rfl⟩ := hsh v S' hPv
    show G C (cW (xy C) S' ++ [oE (xy C) ob o]) (0 + 1) (0 + 6) 7 [(0, .ref a), (1, .int p0), (2, .ref ob)] [.int z, .int 0, .ref ob]
    refine g_i2l E dL_from_7 ?_
    refine g_outst E dL_from_8 ?_
    refine g_goto (tgt := 15) E dL_from_9 (by decide) ?_
    refine g_iconst (v := 0) E dL_from_15 (by decide) ?_
    exact g_iret E hE hr dL_from_16 (Nat.le_of_ble_eq_true rfl) (Nat.le_of_ble_eq_true rfl) (Or.inl ⟨S', _, _, rfl, rfl, hPv, z, rfl, rfl⟩)
abbrev rm_L_end : Room := { frames := 8, cells := 1, slots := 6, locals := 142 }
set_option maxHeartbeats 4000000 in
set_option maxRecDepth 100000 in
theorem w_end (l : Launch) (hl : l.stackTraces = false) (D : va_G) (cy : Nat → ClassId) (e0 : Nat) {S : wS} {a ob : Nat} {o : Nat → Int64} {p0 : Int32} {P : Option Value → wS → Prop} {XP : String → wS → Prop} (ha : a ∈ sL S) (hk : sK S a = 5) (hM : cMet l yX5_end wsX5_end rm_X5_end D cy e0 [.ref a, .int p0] S P XP 1 6) (hsh : ∀ v S', P v S' → ∃ z : Int32, v = some (.int z)) (hX : ∀ X S', XP X S' → X = "java/lang/IndexOutOfBoundsException") : gMet l yL_end wsL_end rm_L_end D cy e0 [.ref a, .int p0, .ref ob] (cW cy S ++ [oE cy ob o]) (WP cy ob o P XP cvI [("java/lang/IndexOutOfBoundsException", 1)]) (fun _ _ => False) 1 6 := by
  refine gMet.ofH (cc := cL_end) (maxL := 4) (ret := some .int) (hh := [(0, 9, 12, 13)]) hl (by decide) rfl (Nat.le_of_ble_eq_true rfl) ?_
  intro C E h1 h2 h3 hr ht hE
  subst h1; subst h2; subst h3
  have E : gOk C cL_end 4 wsL_end RL e0 rm_L_end := E
  obtain ⟨k0, hk0⟩ := cW_get (cy := xy C) ha
  rw [wF_PW hk] at hk0
  show G C (cW (xy C) S ++ [oE (xy C) ob o]) 0 0 0 [(0, .ref a), (1, .int p0), (2, .ref ob)] []
  refine g_aload_n E dL_end_0 rfl 2 rfl ?_
  refine g_iconst (v := 0) E dL_end_1 (by decide) ?_
  refine g_aload_n E dL_end_2 rfl 0 rfl ?_
  refine g_iload_n E dL_end_3 rfl 1 rfl ?_
  refine g_invV (As := [.int p0]) (rest := [.int 0, .ref ob]) (n := 1) E (gMet.frameR hM [oE (xy C) ob o]) gL_end_X5_end rfl rfl rfl (by decide +kernel) ⟨Nat.le_of_ble_eq_true rfl, Nat.le_of_ble_eq_true rfl⟩ k0 6 rfl rfl (app_l hk0) rfl rfl (Nat.le_of_ble_eq_true rfl) dL_end_4 ⟨Nat.le_of_ble_eq_true rfl, Nat.le_of_ble_eq_true rfl⟩ (fun X w h9 => ?_) (fun v w h9 => ?_)
  · obtain ⟨w1, rfl, S', rfl, hXP⟩ := h9
    rcases hX X S' hXP with rfl
    · refine g_catch E (name := "java/lang/IndexOutOfBoundsException") [] ⟨0, 9, 12, 13⟩ [] ht (fun _ hz => absurd hz List.not_mem_nil) rfl (by decide) (List.mem_cons_of_mem _ (List.mem_append_left _ (List.mem_append_left _ (List.mem_append_left _ (List.mem_append_left _ (List.mem_append_left _ (List.mem_append_left _ (List.mem_of_getElem? (i := 0) rfl)))))))) (E.nest tbK_I rfl) (fun q => ?_)
      show G C (cW (xy C) S' ++ [oE (xy C) ob o]) (0 + 1) (0 + 6) 12 [(0, .ref a), (1, .int p0), (2, .ref ob)] [.ref q]
      refine g_astore_n (L' := [(3, .ref q), (0, .ref a), (1, .int p0), (2, .ref ob)]) E dL_end_12 rfl (by decide) rfl ?_
      refine g_iconst (v := 1) E dL_end_13 (by decide) ?_
      exact g_iret E hE hr dL_end_14 (Nat.le_of_ble_eq_true rfl) (Nat.le_of_ble_eq_true rfl) (Or.inr ⟨S', _, _, rfl, rfl, hXP, List.mem_cons_self⟩)
  · obtain ⟨w1, rfl, S', rfl, hPv⟩ := h9
    obtain ⟨z, rfl⟩ := hsh v S' hPv
    show G C (cW (xy C) S' ++ [oE (xy C) ob o]) (0 + 1) (0 + 6) 7 [(0, .ref a), (1, .int p0), (2, .ref ob)] [.int z, .int 0, .ref ob]
    refine g_i2l E dL_end_7 ?_
    refine g_outst E dL_end_8 ?_
    refine g_goto (tgt := 15) E dL_end_9 (by decide) ?_
    refine g_iconst (v := 0) E dL_end_15 (by decide) ?_
    exact g_iret E hE hr dL_end_16 (Nat.le_of_ble_eq_true rfl) (Nat.le_of_ble_eq_true rfl) (Or.inl ⟨S', _, _, rfl, rfl, hPv, z, rfl, rfl⟩)
abbrev rm_L_together : Room := { frames := 8, cells := 1, slots := 6, locals := 143 }
set_option maxHeartbeats 4000000 in
set_option maxRecDepth 100000 in
theorem w_together (l : Launch) (hl : l.stackTraces = false) (D : va_G) (cy : Nat → ClassId) (e0 : Nat) {S : wS} {a ob : Nat} {o : Nat → Int64} {p0 : Int32} {P : Option Value → wS → Prop} {XP : String → wS → Prop} (ha : a ∈ sL S) (hk : sK S a = 5) (hM : cMet l yX5_together wsX5_together rm_X5_together D cy e0 [.ref a, .int p0] S P XP 1 6) (hsh : ∀ v S', P v S' → ∃ z : Int64, v = some (.long z)) (hX : ∀ X S', XP X S' → X = "java/lang/IndexOutOfBoundsException") : gMet l yL_together wsL_together rm_L_together D cy e0 [.ref a, .int p0, .ref ob] (cW cy S ++ [oE cy ob o]) (WP cy ob o P XP cvJ [("java/lang/IndexOutOfBoundsException", 1)]) (fun _ _ => False) 1 6 := by
  refine gMet.ofH (cc := cL_together) (maxL := 4) (ret := some .int) (hh := [(0, 8, 11, 13)]) hl (by decide) rfl (Nat.le_of_ble_eq_true rfl) ?_
  intro C E h1 h2 h3 hr ht hE
  subst h1; subst h2; subst h3
  have E : gOk C cL_together 4 wsL_together RL e0 rm_L_together := E
  obtain ⟨k0, hk0⟩ := cW_get (cy := xy C) ha
  rw [wF_PW hk] at hk0
  show G C (cW (xy C) S ++ [oE (xy C) ob o]) 0 0 0 [(0, .ref a), (1, .int p0), (2, .ref ob)] []
  refine g_aload_n E dL_together_0 rfl 2 rfl ?_
  refine g_iconst (v := 0) E dL_together_1 (by decide) ?_
  refine g_aload_n E dL_together_2 rfl 0 rfl ?_
  refine g_iload_n E dL_together_3 rfl 1 rfl ?_
  refine g_invV (As := [.int p0]) (rest := [.int 0, .ref ob]) (n := 1) E (gMet.frameR hM [oE (xy C) ob o]) gL_together_X5_together rfl rfl rfl (by decide +kernel) ⟨Nat.le_of_ble_eq_true rfl, Nat.le_of_ble_eq_true rfl⟩ k0 6 rfl rfl (app_l hk0) rfl rfl (Nat.le_of_ble_eq_true rfl) dL_together_4 ⟨Nat.le_of_ble_eq_true rfl, Nat.le_of_ble_eq_true rfl⟩ (fun X w h9 => ?_) (fun v w h9 => ?_)
  · obtain ⟨w1, rfl, S', rfl, hXP⟩ := h9
    rcases hX X S' hXP with rfl
    · refine g_catch E (name := "java/lang/IndexOutOfBoundsException") [] ⟨0, 8, 11, 13⟩ [] ht (fun _ hz => absurd hz List.not_mem_nil) rfl (by decide) (List.mem_cons_of_mem _ (List.mem_append_left _ (List.mem_append_left _ (List.mem_append_left _ (List.mem_append_left _ (List.mem_append_left _ (List.mem_append_left _ (List.mem_of_getElem? (i := 0) rfl)))))))) (E.nest tbK_I rfl) (fun q => ?_)
      show G C (cW (xy C) S' ++ [oE (xy C) ob o]) (0 + 1) (0 + 6) 11 [(0, .ref a), (1, .int p0), (2, .ref ob)] [.ref q]
      refine g_astore_n (L' := [(3, .ref q), (0, .ref a), (1, .int p0), (2, .ref ob)]) E dL_together_11 rfl (by decide) rfl ?_
      refine g_iconst (v := 1) E dL_together_12 (by decide) ?_
      exact g_iret E hE hr dL_together_13 (Nat.le_of_ble_eq_true rfl) (Nat.le_of_ble_eq_true rfl) (Or.inr ⟨S', _, _, rfl, rfl, hXP, List.mem_cons_self⟩)
  · obtain ⟨w1, rfl, S', rfl, hPv⟩ := h9
    obtain ⟨z, rfl⟩ := hsh v S' hPv
    show G C (cW (xy C) S' ++ [oE (xy C) ob o]) (0 + 1) (0 + 6) 7 [(0, .ref a), (1, .int p0), (2, .ref ob)] [.long z, .int 0, .ref ob]
    refine g_outst E dL_together_7 ?_
    refine g_goto (tgt := 14) E dL_together_8 (by decide) ?_
    refine g_iconst (v := 0) E dL_together_14 (by decide) ?_
    exact g_iret E hE hr dL_together_15 (Nat.le_of_ble_eq_true rfl) (Nat.le_of_ble_eq_true rfl) (Or.inl ⟨S', _, _, rfl, rfl, hPv, rfl⟩)
abbrev rm_L_openings : Room := { frames := 8, cells := 2, slots := 12, locals := 143 }
set_option maxHeartbeats 4000000 in
set_option maxRecDepth 100000 in
theorem w_openings (l : Launch) (hl : l.stackTraces = false) (D : va_G) (cy : Nat → ClassId) (e0 : Nat) {S : wS} {a ob : Nat} {o : Nat → Int64} {p0 p1 : Int32} {P : Option Value → wS → Prop} {XP : String → wS → Prop} (ha : a ∈ sL S) (hk : sK S a = 5) (hM : cMet l yX5_openings wsX5_openings rm_X5_openings D cy e0 [.ref a, .int p0, .int p1] S P XP 2 12) (hsh : ∀ v S', P v S' → ∃ z : Int32, v = some (.int z)) (hX : ∀ X S', XP X S' → X = "java/lang/IndexOutOfBoundsException" ∨ X = "java/lang/IllegalArgumentException") : gMet l yL_openings wsL_openings rm_L_openings D cy e0 [.ref a, .int p0, .int p1, .ref ob] (cW cy S ++ [oE cy ob o]) (WP cy ob o P XP cvI [("java/lang/IndexOutOfBoundsException", 1), ("java/lang/IllegalArgumentException", 2)]) (fun _ _ => False) 2 12 := by
  refine gMet.ofH (cc := cL_openings) (maxL := 5) (ret := some .int) (hh := [(0, 10, 13, 13), (0, 10, 17, 15)]) hl (by decide) rfl (Nat.le_of_ble_eq_true rfl) ?_
  intro C E h1 h2 h3 hr ht hE
  subst h1; subst h2; subst h3
  have E : gOk C cL_openings 5 wsL_openings RL e0 rm_L_openings := E
  obtain ⟨k0, hk0⟩ := cW_get (cy := xy C) ha
  rw [wF_PW hk] at hk0
  show G C (cW (xy C) S ++ [oE (xy C) ob o]) 0 0 0 [(0, .ref a), (1, .int p0), (2, .int p1), (3, .ref ob)] []
  refine g_aload_n E dL_openings_0 rfl 3 rfl ?_
  refine g_iconst (v := 0) E dL_openings_1 (by decide) ?_
  refine g_aload_n E dL_openings_2 rfl 0 rfl ?_
  refine g_iload_n E dL_openings_3 rfl 1 rfl ?_
  refine g_iload_n E dL_openings_4 rfl 2 rfl ?_
  refine g_invV (As := [.int p0, .int p1]) (rest := [.int 0, .ref ob]) (n := 2) E (gMet.frameR hM [oE (xy C) ob o]) gL_openings_X5_openings rfl rfl rfl (by decide +kernel) ⟨Nat.le_of_ble_eq_true rfl, Nat.le_of_ble_eq_true rfl⟩ k0 6 rfl rfl (app_l hk0) rfl rfl (Nat.le_of_ble_eq_true rfl) dL_openings_5 ⟨Nat.le_of_ble_eq_true rfl, Nat.le_of_ble_eq_true rfl⟩ (fun X w h9 => ?_) (fun v w h9 => ?_)
  · obtain ⟨w1, rfl, S', rfl, hXP⟩ := h9
    rcases hX X S' hXP with rfl | rfl
    · refine g_catch E (name := "java/lang/IndexOutOfBoundsException") [] ⟨0, 10, 13, 13⟩ [⟨0, 10, 17, 15⟩] ht (fun _ hz => absurd hz List.not_mem_nil) rfl (by decide) (List.mem_cons_of_mem _ (List.mem_append_left _ (List.mem_append_left _ (List.mem_append_left _ (List.mem_append_left _ (List.mem_append_left _ (List.mem_append_left _ (List.mem_append_left _ (List.mem_of_getElem? (i := 0) rfl))))))))) (E.nest tbK_I rfl) (fun q => ?_)
      show G C (cW (xy C) S' ++ [oE (xy C) ob o]) (0 + 2) (0 + 12) 13 [(0, .ref a), (1, .int p0), (2, .int p1), (3, .ref ob)] [.ref q]
      refine g_astore (L' := [(4, .ref q), (0, .ref a), (1, .int p0), (2, .int p1), (3, .ref ob)]) E dL_openings_13 (by decide) rfl ?_
      refine g_iconst (v := 1) E dL_openings_15 (by decide) ?_
      exact g_iret E hE hr dL_openings_16 (Nat.le_of_ble_eq_true rfl) (Nat.le_of_ble_eq_true rfl) (Or.inr ⟨S', _, _, rfl, rfl, hXP, List.mem_cons_self⟩)
    · refine g_catch E (name := "java/lang/IllegalArgumentException") [⟨0, 10, 13, 13⟩] ⟨0, 10, 17, 15⟩ [] ht (fun z hz => by rw [List.mem_singleton.mp hz]; exact ⟨by decide, _, (List.mem_cons_of_mem _ (List.mem_append_left _ (List.mem_append_left _ (List.mem_append_left _ (List.mem_append_left _ (List.mem_append_left _ (List.mem_append_left _ (List.mem_append_left _ (List.mem_of_getElem? (i := 0) rfl))))))))), E.nc1⟩) rfl (by decide) (List.mem_cons_of_mem _ (List.mem_append_left _ (List.mem_append_left _ (List.mem_append_left _ (List.mem_append_left _ (List.mem_append_left _ (List.mem_append_left _ (List.mem_append_left _ (List.mem_of_getElem? (i := 1) rfl))))))))) (E.nest tbK_A rfl) (fun q => ?_)
      show G C (cW (xy C) S' ++ [oE (xy C) ob o]) (0 + 2) (0 + 12) 17 [(0, .ref a), (1, .int p0), (2, .int p1), (3, .ref ob)] [.ref q]
      refine g_astore (L' := [(4, .ref q), (0, .ref a), (1, .int p0), (2, .int p1), (3, .ref ob)]) E dL_openings_17 (by decide) rfl ?_
      refine g_iconst (v := 2) E dL_openings_19 (by decide) ?_
      exact g_iret E hE hr dL_openings_20 (Nat.le_of_ble_eq_true rfl) (Nat.le_of_ble_eq_true rfl) (Or.inr ⟨S', _, _, rfl, rfl, hXP, (List.mem_cons_of_mem _ List.mem_cons_self)⟩)
  · obtain ⟨w1, rfl, S', rfl, hPv⟩ := h9
    obtain ⟨z, rfl⟩ := hsh v S' hPv
    show G C (cW (xy C) S' ++ [oE (xy C) ob o]) (0 + 2) (0 + 12) 8 [(0, .ref a), (1, .int p0), (2, .int p1), (3, .ref ob)] [.int z, .int 0, .ref ob]
    refine g_i2l E dL_openings_8 ?_
    refine g_outst E dL_openings_9 ?_
    refine g_goto (tgt := 21) E dL_openings_10 (by decide) ?_
    refine g_iconst (v := 0) E dL_openings_21 (by decide) ?_
    exact g_iret E hE hr dL_openings_22 (Nat.le_of_ble_eq_true rfl) (Nat.le_of_ble_eq_true rfl) (Or.inl ⟨S', _, _, rfl, rfl, hPv, z, rfl, rfl⟩)
abbrev rm_L_fee : Room := { frames := 8, cells := 1, slots := 6, locals := 143 }
set_option maxHeartbeats 4000000 in
set_option maxRecDepth 100000 in
theorem w_fee (l : Launch) (hl : l.stackTraces = false) (D : va_G) (cy : Nat → ClassId) (e0 : Nat) {S : wS} {a ob : Nat} {o : Nat → Int64} {p0 : Int32} {P : Option Value → wS → Prop} {XP : String → wS → Prop} (ha : a ∈ sL S) (hk : sK S a = 5) (hM : cMet l yX5_fee wsX5_fee rm_X5_fee D cy e0 [.ref a, .int p0] S P XP 1 6) (hsh : ∀ v S', P v S' → ∃ z : Int32, v = some (.int z)) (hX : ∀ X S', XP X S' → X = "java/lang/IndexOutOfBoundsException") : gMet l yL_fee wsL_fee rm_L_fee D cy e0 [.ref a, .int p0, .ref ob] (cW cy S ++ [oE cy ob o]) (WP cy ob o P XP cvI [("java/lang/IndexOutOfBoundsException", 1)]) (fun _ _ => False) 1 6 := by
  refine gMet.ofH (cc := cL_fee) (maxL := 4) (ret := some .int) (hh := [(0, 9, 12, 13)]) hl (by decide) rfl (Nat.le_of_ble_eq_true rfl) ?_
  intro C E h1 h2 h3 hr ht hE
  subst h1; subst h2; subst h3
  have E : gOk C cL_fee 4 wsL_fee RL e0 rm_L_fee := E
  obtain ⟨k0, hk0⟩ := cW_get (cy := xy C) ha
  rw [wF_PW hk] at hk0
  show G C (cW (xy C) S ++ [oE (xy C) ob o]) 0 0 0 [(0, .ref a), (1, .int p0), (2, .ref ob)] []
  refine g_aload_n E dL_fee_0 rfl 2 rfl ?_
  refine g_iconst (v := 0) E dL_fee_1 (by decide) ?_
  refine g_aload_n E dL_fee_2 rfl 0 rfl ?_
  refine g_iload_n E dL_fee_3 rfl 1 rfl ?_
  refine g_invV (As := [.int p0]) (rest := [.int 0, .ref ob]) (n := 1) E (gMet.frameR hM [oE (xy C) ob o]) gL_fee_X5_fee rfl rfl rfl (by decide +kernel) ⟨Nat.le_of_ble_eq_true rfl, Nat.le_of_ble_eq_true rfl⟩ k0 6 rfl rfl (app_l hk0) rfl rfl (Nat.le_of_ble_eq_true rfl) dL_fee_4 ⟨Nat.le_of_ble_eq_true rfl, Nat.le_of_ble_eq_true rfl⟩ (fun X w h9 => ?_) (fun v w h9 => ?_)
  · obtain ⟨w1, rfl, S', rfl, hXP⟩ := h9
    rcases hX X S' hXP with rfl
    · refine g_catch E (name := "java/lang/IndexOutOfBoundsException") [] ⟨0, 9, 12, 13⟩ [] ht (fun _ hz => absurd hz List.not_mem_nil) rfl (by decide) (List.mem_cons_of_mem _ (List.mem_append_left _ (List.mem_append_left _ (List.mem_append_left _ (List.mem_append_left _ (List.mem_append_left _ (List.mem_append_left _ (List.mem_of_getElem? (i := 0) rfl)))))))) (E.nest tbK_I rfl) (fun q => ?_)
      show G C (cW (xy C) S' ++ [oE (xy C) ob o]) (0 + 1) (0 + 6) 12 [(0, .ref a), (1, .int p0), (2, .ref ob)] [.ref q]
      refine g_astore_n (L' := [(3, .ref q), (0, .ref a), (1, .int p0), (2, .ref ob)]) E dL_fee_12 rfl (by decide) rfl ?_
      refine g_iconst (v := 1) E dL_fee_13 (by decide) ?_
      exact g_iret E hE hr dL_fee_14 (Nat.le_of_ble_eq_true rfl) (Nat.le_of_ble_eq_true rfl) (Or.inr ⟨S', _, _, rfl, rfl, hXP, List.mem_cons_self⟩)
  · obtain ⟨w1, rfl, S', rfl, hPv⟩ := h9
    obtain ⟨z, rfl⟩ := hsh v S' hPv
    show G C (cW (xy C) S' ++ [oE (xy C) ob o]) (0 + 1) (0 + 6) 7 [(0, .ref a), (1, .int p0), (2, .ref ob)] [.int z, .int 0, .ref ob]
    refine g_i2l E dL_fee_7 ?_
    refine g_outst E dL_fee_8 ?_
    refine g_goto (tgt := 15) E dL_fee_9 (by decide) ?_
    refine g_iconst (v := 0) E dL_fee_15 (by decide) ?_
    exact g_iret E hE hr dL_fee_16 (Nat.le_of_ble_eq_true rfl) (Nat.le_of_ble_eq_true rfl) (Or.inl ⟨S', _, _, rfl, rfl, hPv, z, rfl, rfl⟩)
abbrev rm_L_pass : Room := { frames := 7, cells := 1, slots := 6, locals := 169 }
set_option maxHeartbeats 4000000 in
set_option maxRecDepth 100000 in
theorem w_pass (l : Launch) (hl : l.stackTraces = false) (D : va_G) (cy : Nat → ClassId) (e0 : Nat) {S : wS} {a ob : Nat} {o : Nat → Int64} {p0 : Int32} {P : Option Value → wS → Prop} {XP : String → wS → Prop} (ha : a ∈ sL S) (hk : sK S a = 5) (hM : cMet l yX5_pass wsX5_pass rm_X5_pass D cy e0 [.ref a, .int p0] S P XP 1 6) (hsh : ∀ v S', P v S' → ∃ z : Int32, v = some (.int z)) (hX : ∀ X S', XP X S' → X = "java/lang/IllegalArgumentException" ∨ X = "java/lang/IllegalStateException") : gMet l yL_pass wsL_pass rm_L_pass D cy e0 [.ref a, .int p0, .ref ob] (cW cy S ++ [oE cy ob o]) (WP cy ob o P XP cvI [("java/lang/IllegalArgumentException", 1), ("java/lang/IllegalStateException", 2)]) (fun _ _ => False) 1 6 := by
  refine gMet.ofH (cc := cL_pass) (maxL := 4) (ret := some .int) (hh := [(0, 9, 12, 15), (0, 9, 15, 17)]) hl (by decide) rfl (Nat.le_of_ble_eq_true rfl) ?_
  intro C E h1 h2 h3 hr ht hE
  subst h1; subst h2; subst h3
  have E : gOk C cL_pass 4 wsL_pass RL e0 rm_L_pass := E
  obtain ⟨k0, hk0⟩ := cW_get (cy := xy C) ha
  rw [wF_PW hk] at hk0
  show G C (cW (xy C) S ++ [oE (xy C) ob o]) 0 0 0 [(0, .ref a), (1, .int p0), (2, .ref ob)] []
  refine g_aload_n E dL_pass_0 rfl 2 rfl ?_
  refine g_iconst (v := 0) E dL_pass_1 (by decide) ?_
  refine g_aload_n E dL_pass_2 rfl 0 rfl ?_
  refine g_iload_n E dL_pass_3 rfl 1 rfl ?_
  refine g_invV (As := [.int p0]) (rest := [.int 0, .ref ob]) (n := 1) E (gMet.frameR hM [oE (xy C) ob o]) gL_pass_X5_pass rfl rfl rfl (by decide +kernel) ⟨Nat.le_of_ble_eq_true rfl, Nat.le_of_ble_eq_true rfl⟩ k0 6 rfl rfl (app_l hk0) rfl rfl (Nat.le_of_ble_eq_true rfl) dL_pass_4 ⟨Nat.le_of_ble_eq_true rfl, Nat.le_of_ble_eq_true rfl⟩ (fun X w h9 => ?_) (fun v w h9 => ?_)
  · obtain ⟨w1, rfl, S', rfl, hXP⟩ := h9
    rcases hX X S' hXP with rfl | rfl
    · refine g_catch E (name := "java/lang/IllegalArgumentException") [] ⟨0, 9, 12, 15⟩ [⟨0, 9, 15, 17⟩] ht (fun _ hz => absurd hz List.not_mem_nil) rfl (by decide) (List.mem_cons_of_mem _ (List.mem_append_left _ (List.mem_append_left _ (List.mem_append_left _ (List.mem_append_left _ (List.mem_append_left _ (List.mem_append_left _ (List.mem_append_left _ (List.mem_append_left _ (List.mem_append_left _ (List.mem_append_left _ (List.mem_of_getElem? (i := 0) rfl)))))))))))) (E.nest tbK_A rfl) (fun q => ?_)
      show G C (cW (xy C) S' ++ [oE (xy C) ob o]) (0 + 1) (0 + 6) 12 [(0, .ref a), (1, .int p0), (2, .ref ob)] [.ref q]
      refine g_astore_n (L' := [(3, .ref q), (0, .ref a), (1, .int p0), (2, .ref ob)]) E dL_pass_12 rfl (by decide) rfl ?_
      refine g_iconst (v := 1) E dL_pass_13 (by decide) ?_
      exact g_iret E hE hr dL_pass_14 (Nat.le_of_ble_eq_true rfl) (Nat.le_of_ble_eq_true rfl) (Or.inr ⟨S', _, _, rfl, rfl, hXP, List.mem_cons_self⟩)
    · refine g_catch E (name := "java/lang/IllegalStateException") [⟨0, 9, 12, 15⟩] ⟨0, 9, 15, 17⟩ [] ht (fun z hz => by rw [List.mem_singleton.mp hz]; exact ⟨by decide, _, (List.mem_cons_of_mem _ (List.mem_append_left _ (List.mem_append_left _ (List.mem_append_left _ (List.mem_append_left _ (List.mem_append_left _ (List.mem_append_left _ (List.mem_append_left _ (List.mem_append_left _ (List.mem_append_left _ (List.mem_append_left _ (List.mem_of_getElem? (i := 0) rfl)))))))))))), E.nc3⟩) rfl (by decide) (List.mem_cons_of_mem _ (List.mem_append_left _ (List.mem_append_left _ (List.mem_append_left _ (List.mem_append_left _ (List.mem_append_left _ (List.mem_append_left _ (List.mem_append_left _ (List.mem_append_left _ (List.mem_append_left _ (List.mem_append_left _ (List.mem_of_getElem? (i := 1) rfl)))))))))))) (E.nest tbK_S rfl) (fun q => ?_)
      show G C (cW (xy C) S' ++ [oE (xy C) ob o]) (0 + 1) (0 + 6) 15 [(0, .ref a), (1, .int p0), (2, .ref ob)] [.ref q]
      refine g_astore_n (L' := [(3, .ref q), (0, .ref a), (1, .int p0), (2, .ref ob)]) E dL_pass_15 rfl (by decide) rfl ?_
      refine g_iconst (v := 2) E dL_pass_16 (by decide) ?_
      exact g_iret E hE hr dL_pass_17 (Nat.le_of_ble_eq_true rfl) (Nat.le_of_ble_eq_true rfl) (Or.inr ⟨S', _, _, rfl, rfl, hXP, (List.mem_cons_of_mem _ List.mem_cons_self)⟩)
  · obtain ⟨w1, rfl, S', rfl, hPv⟩ := h9
    obtain ⟨z, rfl⟩ := hsh v S' hPv
    show G C (cW (xy C) S' ++ [oE (xy C) ob o]) (0 + 1) (0 + 6) 7 [(0, .ref a), (1, .int p0), (2, .ref ob)] [.int z, .int 0, .ref ob]
    refine g_i2l E dL_pass_7 ?_
    refine g_outst E dL_pass_8 ?_
    refine g_goto (tgt := 18) E dL_pass_9 (by decide) ?_
    refine g_iconst (v := 0) E dL_pass_18 (by decide) ?_
    exact g_iret E hE hr dL_pass_19 (Nat.le_of_ble_eq_true rfl) (Nat.le_of_ble_eq_true rfl) (Or.inl ⟨S', _, _, rfl, rfl, hPv, z, rfl, rfl⟩)
abbrev rm_L_complain : Room := { frames := 8, cells := 1, slots := 6, locals := 147 }
set_option maxHeartbeats 4000000 in
set_option maxRecDepth 100000 in
theorem w_complain (l : Launch) (hl : l.stackTraces = false) (D : va_G) (cy : Nat → ClassId) (e0 : Nat) {S : wS} {a ob : Nat} {o : Nat → Int64} {p0 : Int32} {P : Option Value → wS → Prop} {XP : String → wS → Prop} (ha : a ∈ sL S) (hk : sK S a = 5) (hM : cMet l yX5_complain wsX5_complain rm_X5_complain D cy e0 [.ref a, .int p0] S P XP 1 6) (hsh : ∀ v S', P v S' → ∃ z : Int32, v = some (.int z)) (hX : ∀ X S', XP X S' → X = "java/lang/IndexOutOfBoundsException") : gMet l yL_complain wsL_complain rm_L_complain D cy e0 [.ref a, .int p0, .ref ob] (cW cy S ++ [oE cy ob o]) (WP cy ob o P XP cvI [("java/lang/IndexOutOfBoundsException", 1)]) (fun _ _ => False) 1 6 := by
  refine gMet.ofH (cc := cL_complain) (maxL := 4) (ret := some .int) (hh := [(0, 9, 12, 13)]) hl (by decide) rfl (Nat.le_of_ble_eq_true rfl) ?_
  intro C E h1 h2 h3 hr ht hE
  subst h1; subst h2; subst h3
  have E : gOk C cL_complain 4 wsL_complain RL e0 rm_L_complain := E
  obtain ⟨k0, hk0⟩ := cW_get (cy := xy C) ha
  rw [wF_PW hk] at hk0
  show G C (cW (xy C) S ++ [oE (xy C) ob o]) 0 0 0 [(0, .ref a), (1, .int p0), (2, .ref ob)] []
  refine g_aload_n E dL_complain_0 rfl 2 rfl ?_
  refine g_iconst (v := 0) E dL_complain_1 (by decide) ?_
  refine g_aload_n E dL_complain_2 rfl 0 rfl ?_
  refine g_iload_n E dL_complain_3 rfl 1 rfl ?_
  refine g_invV (As := [.int p0]) (rest := [.int 0, .ref ob]) (n := 1) E (gMet.frameR hM [oE (xy C) ob o]) gL_complain_X5_complain rfl rfl rfl (by decide +kernel) ⟨Nat.le_of_ble_eq_true rfl, Nat.le_of_ble_eq_true rfl⟩ k0 6 rfl rfl (app_l hk0) rfl rfl (Nat.le_of_ble_eq_true rfl) dL_complain_4 ⟨Nat.le_of_ble_eq_true rfl, Nat.le_of_ble_eq_true rfl⟩ (fun X w h9 => ?_) (fun v w h9 => ?_)
  · obtain ⟨w1, rfl, S', rfl, hXP⟩ := h9
    rcases hX X S' hXP with rfl
    · refine g_catch E (name := "java/lang/IndexOutOfBoundsException") [] ⟨0, 9, 12, 13⟩ [] ht (fun _ hz => absurd hz List.not_mem_nil) rfl (by decide) (List.mem_cons_of_mem _ (List.mem_append_left _ (List.mem_append_left _ (List.mem_append_left _ (List.mem_append_left _ (List.mem_append_left _ (List.mem_append_left _ (List.mem_append_left _ (List.mem_append_left _ (List.mem_of_getElem? (i := 0) rfl)))))))))) (E.nest tbK_I rfl) (fun q => ?_)
      show G C (cW (xy C) S' ++ [oE (xy C) ob o]) (0 + 1) (0 + 6) 12 [(0, .ref a), (1, .int p0), (2, .ref ob)] [.ref q]
      refine g_astore_n (L' := [(3, .ref q), (0, .ref a), (1, .int p0), (2, .ref ob)]) E dL_complain_12 rfl (by decide) rfl ?_
      refine g_iconst (v := 1) E dL_complain_13 (by decide) ?_
      exact g_iret E hE hr dL_complain_14 (Nat.le_of_ble_eq_true rfl) (Nat.le_of_ble_eq_true rfl) (Or.inr ⟨S', _, _, rfl, rfl, hXP, List.mem_cons_self⟩)
  · obtain ⟨w1, rfl, S', rfl, hPv⟩ := h9
    obtain ⟨z, rfl⟩ := hsh v S' hPv
    show G C (cW (xy C) S' ++ [oE (xy C) ob o]) (0 + 1) (0 + 6) 7 [(0, .ref a), (1, .int p0), (2, .ref ob)] [.int z, .int 0, .ref ob]
    refine g_i2l E dL_complain_7 ?_
    refine g_outst E dL_complain_8 ?_
    refine g_goto (tgt := 15) E dL_complain_9 (by decide) ?_
    refine g_iconst (v := 0) E dL_complain_15 (by decide) ?_
    exact g_iret E hE hr dL_complain_16 (Nat.le_of_ble_eq_true rfl) (Nat.le_of_ble_eq_true rfl) (Or.inl ⟨S', _, _, rfl, rfl, hPv, z, rfl, rfl⟩)
abbrev rm_L_points : Room := { frames := 8, cells := 1, slots := 6, locals := 141 }
set_option maxHeartbeats 4000000 in
set_option maxRecDepth 100000 in
theorem w_points (l : Launch) (hl : l.stackTraces = false) (D : va_G) (cy : Nat → ClassId) (e0 : Nat) {S : wS} {a ob : Nat} {o : Nat → Int64} {p0 : Int32} {P : Option Value → wS → Prop} {XP : String → wS → Prop} (ha : a ∈ sL S) (hk : sK S a = 5) (hM : cMet l yX5_points wsX5_points rm_X5_points D cy e0 [.ref a, .int p0] S P XP 1 6) (hsh : ∀ v S', P v S' → ∃ z : Int32, v = some (.int z)) (hX : ∀ X S', XP X S' → X = "java/lang/IndexOutOfBoundsException") : gMet l yL_points wsL_points rm_L_points D cy e0 [.ref a, .int p0, .ref ob] (cW cy S ++ [oE cy ob o]) (WP cy ob o P XP cvI [("java/lang/IndexOutOfBoundsException", 1)]) (fun _ _ => False) 1 6 := by
  refine gMet.ofH (cc := cL_points) (maxL := 4) (ret := some .int) (hh := [(0, 9, 12, 13)]) hl (by decide) rfl (Nat.le_of_ble_eq_true rfl) ?_
  intro C E h1 h2 h3 hr ht hE
  subst h1; subst h2; subst h3
  have E : gOk C cL_points 4 wsL_points RL e0 rm_L_points := E
  obtain ⟨k0, hk0⟩ := cW_get (cy := xy C) ha
  rw [wF_PW hk] at hk0
  show G C (cW (xy C) S ++ [oE (xy C) ob o]) 0 0 0 [(0, .ref a), (1, .int p0), (2, .ref ob)] []
  refine g_aload_n E dL_points_0 rfl 2 rfl ?_
  refine g_iconst (v := 0) E dL_points_1 (by decide) ?_
  refine g_aload_n E dL_points_2 rfl 0 rfl ?_
  refine g_iload_n E dL_points_3 rfl 1 rfl ?_
  refine g_invV (As := [.int p0]) (rest := [.int 0, .ref ob]) (n := 1) E (gMet.frameR hM [oE (xy C) ob o]) gL_points_X5_points rfl rfl rfl (by decide +kernel) ⟨Nat.le_of_ble_eq_true rfl, Nat.le_of_ble_eq_true rfl⟩ k0 6 rfl rfl (app_l hk0) rfl rfl (Nat.le_of_ble_eq_true rfl) dL_points_4 ⟨Nat.le_of_ble_eq_true rfl, Nat.le_of_ble_eq_true rfl⟩ (fun X w h9 => ?_) (fun v w h9 => ?_)
  · obtain ⟨w1, rfl, S', rfl, hXP⟩ := h9
    rcases hX X S' hXP with rfl
    · refine g_catch E (name := "java/lang/IndexOutOfBoundsException") [] ⟨0, 9, 12, 13⟩ [] ht (fun _ hz => absurd hz List.not_mem_nil) rfl (by decide) (List.mem_cons_of_mem _ (List.mem_append_left _ (List.mem_append_left _ (List.mem_of_getElem? (i := 0) rfl)))) (E.nest tbK_I rfl) (fun q => ?_)
      show G C (cW (xy C) S' ++ [oE (xy C) ob o]) (0 + 1) (0 + 6) 12 [(0, .ref a), (1, .int p0), (2, .ref ob)] [.ref q]
      refine g_astore_n (L' := [(3, .ref q), (0, .ref a), (1, .int p0), (2, .ref ob)]) E dL_points_12 rfl (by decide) rfl ?_
      refine g_iconst (v := 1) E dL_points_13 (by decide) ?_
      exact g_iret E hE hr dL_points_14 (Nat.le_of_ble_eq_true rfl) (Nat.le_of_ble_eq_true rfl) (Or.inr ⟨S', _, _, rfl, rfl, hXP, List.mem_cons_self⟩)
  · obtain ⟨w1, rfl, S', rfl, hPv⟩ := h9
    obtain ⟨z, rfl⟩ := hsh v S' hPv
    show G C (cW (xy C) S' ++ [oE (xy C) ob o]) (0 + 1) (0 + 6) 7 [(0, .ref a), (1, .int p0), (2, .ref ob)] [.int z, .int 0, .ref ob]
    refine g_i2l E dL_points_7 ?_
    refine g_outst E dL_points_8 ?_
    refine g_goto (tgt := 15) E dL_points_9 (by decide) ?_
    refine g_iconst (v := 0) E dL_points_15 (by decide) ?_
    exact g_iret E hE hr dL_points_16 (Nat.le_of_ble_eq_true rfl) (Nat.le_of_ble_eq_true rfl) (Or.inl ⟨S', _, _, rfl, rfl, hPv, z, rfl, rfl⟩)
abbrev rm_L_fine : Room := { frames := 8, cells := 1, slots := 6, locals := 142 }
set_option maxHeartbeats 4000000 in
set_option maxRecDepth 100000 in
theorem w_fine (l : Launch) (hl : l.stackTraces = false) (D : va_G) (cy : Nat → ClassId) (e0 : Nat) {S : wS} {a ob : Nat} {o : Nat → Int64} {p0 : Int32} {P : Option Value → wS → Prop} {XP : String → wS → Prop} (ha : a ∈ sL S) (hk : sK S a = 5) (hM : cMet l yX5_fine wsX5_fine rm_X5_fine D cy e0 [.ref a, .int p0] S P XP 1 6) (hsh : ∀ v S', P v S' → ∃ z : Int64, v = some (.long z)) (hX : ∀ X S', XP X S' → X = "java/lang/IndexOutOfBoundsException") : gMet l yL_fine wsL_fine rm_L_fine D cy e0 [.ref a, .int p0, .ref ob] (cW cy S ++ [oE cy ob o]) (WP cy ob o P XP cvJ [("java/lang/IndexOutOfBoundsException", 1)]) (fun _ _ => False) 1 6 := by
  refine gMet.ofH (cc := cL_fine) (maxL := 4) (ret := some .int) (hh := [(0, 8, 11, 13)]) hl (by decide) rfl (Nat.le_of_ble_eq_true rfl) ?_
  intro C E h1 h2 h3 hr ht hE
  subst h1; subst h2; subst h3
  have E : gOk C cL_fine 4 wsL_fine RL e0 rm_L_fine := E
  obtain ⟨k0, hk0⟩ := cW_get (cy := xy C) ha
  rw [wF_PW hk] at hk0
  show G C (cW (xy C) S ++ [oE (xy C) ob o]) 0 0 0 [(0, .ref a), (1, .int p0), (2, .ref ob)] []
  refine g_aload_n E dL_fine_0 rfl 2 rfl ?_
  refine g_iconst (v := 0) E dL_fine_1 (by decide) ?_
  refine g_aload_n E dL_fine_2 rfl 0 rfl ?_
  refine g_iload_n E dL_fine_3 rfl 1 rfl ?_
  refine g_invV (As := [.int p0]) (rest := [.int 0, .ref ob]) (n := 1) E (gMet.frameR hM [oE (xy C) ob o]) gL_fine_X5_fine rfl rfl rfl (by decide +kernel) ⟨Nat.le_of_ble_eq_true rfl, Nat.le_of_ble_eq_true rfl⟩ k0 6 rfl rfl (app_l hk0) rfl rfl (Nat.le_of_ble_eq_true rfl) dL_fine_4 ⟨Nat.le_of_ble_eq_true rfl, Nat.le_of_ble_eq_true rfl⟩ (fun X w h9 => ?_) (fun v w h9 => ?_)
  · obtain ⟨w1, rfl, S', rfl, hXP⟩ := h9
    rcases hX X S' hXP with rfl
    · refine g_catch E (name := "java/lang/IndexOutOfBoundsException") [] ⟨0, 8, 11, 13⟩ [] ht (fun _ hz => absurd hz List.not_mem_nil) rfl (by decide) (List.mem_cons_of_mem _ (List.mem_append_left _ (List.mem_append_left _ (List.mem_append_left _ (List.mem_append_left _ (List.mem_append_left _ (List.mem_of_getElem? (i := 0) rfl))))))) (E.nest tbK_I rfl) (fun q => ?_)
      show G C (cW (xy C) S' ++ [oE (xy C) ob o]) (0 + 1) (0 + 6) 11 [(0, .ref a), (1, .int p0), (2, .ref ob)] [.ref q]
      refine g_astore_n (L' := [(3, .ref q), (0, .ref a), (1, .int p0), (2, .ref ob)]) E dL_fine_11 rfl (by decide) rfl ?_
      refine g_iconst (v := 1) E dL_fine_12 (by decide) ?_
      exact g_iret E hE hr dL_fine_13 (Nat.le_of_ble_eq_true rfl) (Nat.le_of_ble_eq_true rfl) (Or.inr ⟨S', _, _, rfl, rfl, hXP, List.mem_cons_self⟩)
  · obtain ⟨w1, rfl, S', rfl, hPv⟩ := h9
    obtain ⟨z, rfl⟩ := hsh v S' hPv
    show G C (cW (xy C) S' ++ [oE (xy C) ob o]) (0 + 1) (0 + 6) 7 [(0, .ref a), (1, .int p0), (2, .ref ob)] [.long z, .int 0, .ref ob]
    refine g_outst E dL_fine_7 ?_
    refine g_goto (tgt := 14) E dL_fine_8 (by decide) ?_
    refine g_iconst (v := 0) E dL_fine_14 (by decide) ?_
    exact g_iret E hE hr dL_fine_15 (Nat.le_of_ble_eq_true rfl) (Nat.le_of_ble_eq_true rfl) (Or.inl ⟨S', _, _, rfl, rfl, hPv, rfl⟩)
abbrev rm_L_fines : Room := { frames := 8, cells := 1, slots := 6, locals := 145 }
set_option maxHeartbeats 4000000 in
set_option maxRecDepth 100000 in
theorem w_fines (l : Launch) (hl : l.stackTraces = false) (D : va_G) (cy : Nat → ClassId) (e0 : Nat) {S : wS} {a ob : Nat} {o : Nat → Int64} {p0 : Int32} {P : Option Value → wS → Prop} {XP : String → wS → Prop} (ha : a ∈ sL S) (hk : sK S a = 5) (hM : cMet l yX5_fines wsX5_fines rm_X5_fines D cy e0 [.ref a, .int p0] S P XP 1 6) (hsh : ∀ v S', P v S' → ∃ z : Int64, v = some (.long z)) (hX : ∀ X S', XP X S' → X = "java/lang/IndexOutOfBoundsException") : gMet l yL_fines wsL_fines rm_L_fines D cy e0 [.ref a, .int p0, .ref ob] (cW cy S ++ [oE cy ob o]) (WP cy ob o P XP cvJ [("java/lang/IndexOutOfBoundsException", 1)]) (fun _ _ => False) 1 6 := by
  refine gMet.ofH (cc := cL_fines) (maxL := 4) (ret := some .int) (hh := [(0, 8, 11, 13)]) hl (by decide) rfl (Nat.le_of_ble_eq_true rfl) ?_
  intro C E h1 h2 h3 hr ht hE
  subst h1; subst h2; subst h3
  have E : gOk C cL_fines 4 wsL_fines RL e0 rm_L_fines := E
  obtain ⟨k0, hk0⟩ := cW_get (cy := xy C) ha
  rw [wF_PW hk] at hk0
  show G C (cW (xy C) S ++ [oE (xy C) ob o]) 0 0 0 [(0, .ref a), (1, .int p0), (2, .ref ob)] []
  refine g_aload_n E dL_fines_0 rfl 2 rfl ?_
  refine g_iconst (v := 0) E dL_fines_1 (by decide) ?_
  refine g_aload_n E dL_fines_2 rfl 0 rfl ?_
  refine g_iload_n E dL_fines_3 rfl 1 rfl ?_
  refine g_invV (As := [.int p0]) (rest := [.int 0, .ref ob]) (n := 1) E (gMet.frameR hM [oE (xy C) ob o]) gL_fines_X5_fines rfl rfl rfl (by decide +kernel) ⟨Nat.le_of_ble_eq_true rfl, Nat.le_of_ble_eq_true rfl⟩ k0 6 rfl rfl (app_l hk0) rfl rfl (Nat.le_of_ble_eq_true rfl) dL_fines_4 ⟨Nat.le_of_ble_eq_true rfl, Nat.le_of_ble_eq_true rfl⟩ (fun X w h9 => ?_) (fun v w h9 => ?_)
  · obtain ⟨w1, rfl, S', rfl, hXP⟩ := h9
    rcases hX X S' hXP with rfl
    · refine g_catch E (name := "java/lang/IndexOutOfBoundsException") [] ⟨0, 8, 11, 13⟩ [] ht (fun _ hz => absurd hz List.not_mem_nil) rfl (by decide) (List.mem_cons_of_mem _ (List.mem_append_left _ (List.mem_append_left _ (List.mem_append_left _ (List.mem_append_left _ (List.mem_append_left _ (List.mem_of_getElem? (i := 0) rfl))))))) (E.nest tbK_I rfl) (fun q => ?_)
      show G C (cW (xy C) S' ++ [oE (xy C) ob o]) (0 + 1) (0 + 6) 11 [(0, .ref a), (1, .int p0), (2, .ref ob)] [.ref q]
      refine g_astore_n (L' := [(3, .ref q), (0, .ref a), (1, .int p0), (2, .ref ob)]) E dL_fines_11 rfl (by decide) rfl ?_
      refine g_iconst (v := 1) E dL_fines_12 (by decide) ?_
      exact g_iret E hE hr dL_fines_13 (Nat.le_of_ble_eq_true rfl) (Nat.le_of_ble_eq_true rfl) (Or.inr ⟨S', _, _, rfl, rfl, hXP, List.mem_cons_self⟩)
  · obtain ⟨w1, rfl, S', rfl, hPv⟩ := h9
    obtain ⟨z, rfl⟩ := hsh v S' hPv
    show G C (cW (xy C) S' ++ [oE (xy C) ob o]) (0 + 1) (0 + 6) 7 [(0, .ref a), (1, .int p0), (2, .ref ob)] [.long z, .int 0, .ref ob]
    refine g_outst E dL_fines_7 ?_
    refine g_goto (tgt := 14) E dL_fines_8 (by decide) ?_
    refine g_iconst (v := 0) E dL_fines_14 (by decide) ?_
    exact g_iret E hE hr dL_fines_15 (Nat.le_of_ble_eq_true rfl) (Nat.le_of_ble_eq_true rfl) (Or.inl ⟨S', _, _, rfl, rfl, hPv, rfl⟩)
