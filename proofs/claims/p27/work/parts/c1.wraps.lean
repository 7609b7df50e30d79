/-! the law's two ways to ask: what is answered, or what is thrown, as a number -/
def cvI (vv : Option Value) (x : Int64) : Prop := ∃ z : Int32, vv = some (.int z) ∧ x = z.toInt64
def cvJ (vv : Option Value) (x : Int64) : Prop := vv = some (.long x)
theorem gOk.nc3 {C : gT} {cc : ByteArray} {nL : Nat} {Ts : List Cond} {own : String} {e0 : Nat} {rm : Room} (E : gOk C cc nL Ts own e0 rm) : va_Nc "java/lang/IllegalStateException" "java/lang/IllegalArgumentException" (xs C) := E.ev.2.2.2.2.2.2.2.2.2.2.2.2
abbrev rm_L_asks : Room := { frames := 8, cells := 3, slots := 18, locals := 169 }
abbrev rm_L_on : Room := { frames := 9, cells := 3, slots := 18, locals := 192 }
set_option maxHeartbeats 4000000 in
set_option maxRecDepth 100000 in
theorem w_asks_withdraw (l : Launch) (hl : l.stackTraces = false) (D : va_G) (cy : Nat → ClassId) (e0 : Nat) {S : wS} {a : Nat} {x y : Int32} {P : Option Value → wS → Prop} {XP : String → wS → Prop} {wr : va_W} (ha : a ∈ sL S) (hk : sK S a = 5) (hM : cMet l yX5_withdraw wsX5_withdraw rm_X5_withdraw D cy e0 [.ref a, .int x] S P XP 2 12) (hsh : ∀ v S', P v S' → ∃ z : Int32, v = some (.int z)) : gMet l yL_asks wsL_asks rm_L_asks D cy e0 [.ref a, .int 0, .int x, .int y] (cW cy S ++ wr) (fun v w => ∃ S' vv q, v = some (.long q) ∧ w = cW cy S' ++ wr ∧ P vv S' ∧ cvI vv q) (fun X w => ∃ S', w = cW cy S' ++ wr ∧ XP X S') 3 18 := by
  refine gMet.of (cc := cL_asks) (maxL := 4) (ret := some .long) hl (by decide) rfl (Nat.le_of_ble_eq_true rfl) ?_
  intro C E h1 h2 h3 hr hnm hT hE
  subst h1; subst h2; subst h3
  have E : gOk C cL_asks 4 wsL_asks RL e0 rm_L_asks := E
  show G C (cW (xy C) S ++ wr) 0 0 0 [(0, .ref a), (1, .int 0), (2, .int x), (3, .int y)] []
  refine g_iload_n E dL_asks_0 rfl 1 rfl ?_
  refine g_if_ne (tgt := 13) E dL_asks_1 (by decide) (fun z => absurd rfl z) (fun _ => ?_)
  refine g_aload_n E dL_asks_4 rfl 0 rfl ?_
  refine g_iload_n E dL_asks_5 rfl 2 rfl ?_
  refine l_invV (W9 := 8) (n := 1) (As := [.int x]) (rest := []) E hM ha hk gL_asks_X5_withdraw rfl rfl rfl (by decide +kernel) ⟨Nat.le_of_ble_eq_true rfl, Nat.le_of_ble_eq_true rfl⟩ rfl rfl (Nat.le_of_ble_eq_true rfl) dL_asks_6 ⟨Nat.le_of_ble_eq_true rfl, Nat.le_of_ble_eq_true rfl⟩ (fun X S1 h9 => gx_out E hE hT (Nat.le_of_ble_eq_true rfl) (Nat.le_of_ble_eq_true rfl) ⟨S1, rfl, h9⟩) (fun v S1 h9 => ?_)
  obtain ⟨z, rfl⟩ := hsh v S1 h9
  show G C (cW (xy C) S1 ++ wr) (0 + 2) (0 + 12) 9 [(0, .ref a), (1, .int 0), (2, .int x), (3, .int y)] [.int z]
  refine g_i2l E dL_asks_9 ?_
  refine g_goto (tgt := 61) E dL_asks_10 (by decide) ?_
  exact g_lret E hE hr dL_asks_61 (Nat.le_of_ble_eq_true rfl) (Nat.le_of_ble_eq_true rfl) ⟨S1, _, _, rfl, rfl, h9, z, rfl, rfl⟩
set_option maxHeartbeats 4000000 in
set_option maxRecDepth 100000 in
theorem w_asks_begin (l : Launch) (hl : l.stackTraces = false) (D : va_G) (cy : Nat → ClassId) (e0 : Nat) {S : wS} {a : Nat} {x y : Int32} {P : Option Value → wS → Prop} {XP : String → wS → Prop} {wr : va_W} (ha : a ∈ sL S) (hk : sK S a = 5) (hM : cMet l yX5_begin wsX5_begin rm_X5_begin D cy e0 [.ref a, .int x] S P XP 2 12) (hsh : ∀ v S', P v S' → ∃ z : Int32, v = some (.int z)) : gMet l yL_asks wsL_asks rm_L_asks D cy e0 [.ref a, .int 1, .int x, .int y] (cW cy S ++ wr) (fun v w => ∃ S' vv q, v = some (.long q) ∧ w = cW cy S' ++ wr ∧ P vv S' ∧ cvI vv q) (fun X w => ∃ S', w = cW cy S' ++ wr ∧ XP X S') 3 18 := by
  refine gMet.of (cc := cL_asks) (maxL := 4) (ret := some .long) hl (by decide) rfl (Nat.le_of_ble_eq_true rfl) ?_
  intro C E h1 h2 h3 hr hnm hT hE
  subst h1; subst h2; subst h3
  have E : gOk C cL_asks 4 wsL_asks RL e0 rm_L_asks := E
  show G C (cW (xy C) S ++ wr) 0 0 0 [(0, .ref a), (1, .int 1), (2, .int x), (3, .int y)] []
  refine g_iload_n E dL_asks_0 rfl 1 rfl ?_
  refine g_if_ne (tgt := 13) E dL_asks_1 (by decide) (fun _ => ?_) (fun z => absurd z (by decide))
  refine g_iload_n E dL_asks_13 rfl 1 rfl ?_
  refine g_iconst (v := 1) E dL_asks_14 (by decide) ?_
  refine g_icmp_ne (tgt := 27) E dL_asks_15 (by decide) (fun z => absurd rfl z) (fun _ => ?_)
  refine g_aload_n E dL_asks_18 rfl 0 rfl ?_
  refine g_iload_n E dL_asks_19 rfl 2 rfl ?_
  refine l_invV (W9 := 8) (n := 1) (As := [.int x]) (rest := []) E hM ha hk gL_asks_X5_begin rfl rfl rfl (by decide +kernel) ⟨Nat.le_of_ble_eq_true rfl, Nat.le_of_ble_eq_true rfl⟩ rfl rfl (Nat.le_of_ble_eq_true rfl) dL_asks_20 ⟨Nat.le_of_ble_eq_true rfl, Nat.le_of_ble_eq_true rfl⟩ (fun X S1 h9 => gx_out E hE hT (Nat.le_of_ble_eq_true rfl) (Nat.le_of_ble_eq_true rfl) ⟨S1, rfl, h9⟩) (fun v S1 h9 => ?_)
  obtain ⟨z, rfl⟩ := hsh v S1 h9
  show G C (cW (xy C) S1 ++ wr) (0 + 2) (0 + 12) 23 [(0, .ref a), (1, .int 1), (2, .int x), (3, .int y)] [.int z]
  refine g_i2l E dL_asks_23 ?_
  refine g_goto (tgt := 61) E dL_asks_24 (by decide) ?_
  exact g_lret E hE hr dL_asks_61 (Nat.le_of_ble_eq_true rfl) (Nat.le_of_ble_eq_true rfl) ⟨S1, _, _, rfl, rfl, h9, z, rfl, rfl⟩
set_option maxHeartbeats 4000000 in
set_option maxRecDepth 100000 in
theorem w_asks_finish (l : Launch) (hl : l.stackTraces = false) (D : va_G) (cy : Nat → ClassId) (e0 : Nat) {S : wS} {a : Nat} {x y : Int32} {P : Option Value → wS → Prop} {XP : String → wS → Prop} {wr : va_W} (ha : a ∈ sL S) (hk : sK S a = 5) (hM : cMet l yX5_finish wsX5_finish rm_X5_finish D cy e0 [.ref a, .int x] S P XP 2 12) (hsh : ∀ v S', P v S' → ∃ z : Int64, v = some (.long z)) : gMet l yL_asks wsL_asks rm_L_asks D cy e0 [.ref a, .int 2, .int x, .int y] (cW cy S ++ wr) (fun v w => ∃ S' vv q, v = some (.long q) ∧ w = cW cy S' ++ wr ∧ P vv S' ∧ cvJ vv q) (fun X w => ∃ S', w = cW cy S' ++ wr ∧ XP X S') 3 18 := by
  refine gMet.of (cc := cL_asks) (maxL := 4) (ret := some .long) hl (by decide) rfl (Nat.le_of_ble_eq_true rfl) ?_
  intro C E h1 h2 h3 hr hnm hT hE
  subst h1; subst h2; subst h3
  have E : gOk C cL_asks 4 wsL_asks RL e0 rm_L_asks := E
  show G C (cW (xy C) S ++ wr) 0 0 0 [(0, .ref a), (1, .int 2), (2, .int x), (3, .int y)] []
  refine g_iload_n E dL_asks_0 rfl 1 rfl ?_
  refine g_if_ne (tgt := 13) E dL_asks_1 (by decide) (fun _ => ?_) (fun z => absurd z (by decide))
  refine g_iload_n E dL_asks_13 rfl 1 rfl ?_
  refine g_iconst (v := 1) E dL_asks_14 (by decide) ?_
  refine g_icmp_ne (tgt := 27) E dL_asks_15 (by decide) (fun _ => ?_) (fun z => absurd z (by decide))
  refine g_iload_n E dL_asks_27 rfl 1 rfl ?_
  refine g_iconst (v := 2) E dL_asks_28 (by decide) ?_
  refine g_icmp_ne (tgt := 40) E dL_asks_29 (by decide) (fun z => absurd rfl z) (fun _ => ?_)
  refine g_aload_n E dL_asks_32 rfl 0 rfl ?_
  refine g_iload_n E dL_asks_33 rfl 2 rfl ?_
  refine l_invV (W9 := 8) (n := 1) (As := [.int x]) (rest := []) E hM ha hk gL_asks_X5_finish rfl rfl rfl (by decide +kernel) ⟨Nat.le_of_ble_eq_true rfl, Nat.le_of_ble_eq_true rfl⟩ rfl rfl (Nat.le_of_ble_eq_true rfl) dL_asks_34 ⟨Nat.le_of_ble_eq_true rfl, Nat.le_of_ble_eq_true rfl⟩ (fun X S1 h9 => gx_out E hE hT (Nat.le_of_ble_eq_true rfl) (Nat.le_of_ble_eq_true rfl) ⟨S1, rfl, h9⟩) (fun v S1 h9 => ?_)
  obtain ⟨z, rfl⟩ := hsh v S1 h9
  show G C (cW (xy C) S1 ++ wr) (0 + 2) (0 + 12) 37 [(0, .ref a), (1, .int 2), (2, .int x), (3, .int y)] [.long z]
  refine g_goto (tgt := 61) E dL_asks_37 (by decide) ?_
  exact g_lret E hE hr dL_asks_61 (Nat.le_of_ble_eq_true rfl) (Nat.le_of_ble_eq_true rfl) ⟨S1, _, _, rfl, rfl, h9, rfl⟩
set_option maxHeartbeats 4000000 in
set_option maxRecDepth 100000 in
theorem w_asks_stop (l : Launch) (hl : l.stackTraces = false) (D : va_G) (cy : Nat → ClassId) (e0 : Nat) {S : wS} {a : Nat} {x y : Int32} {P : Option Value → wS → Prop} {XP : String → wS → Prop} {wr : va_W} (ha : a ∈ sL S) (hk : sK S a = 5) (hM : cMet l yX5_stop wsX5_stop rm_X5_stop D cy e0 [.ref a, .int x, .int y] S P XP 3 18) (hsh : ∀ v S', P v S' → ∃ z : Int32, v = some (.int z)) : gMet l yL_asks wsL_asks rm_L_asks D cy e0 [.ref a, .int 3, .int x, .int y] (cW cy S ++ wr) (fun v w => ∃ S' vv q, v = some (.long q) ∧ w = cW cy S' ++ wr ∧ P vv S' ∧ cvI vv q) (fun X w => ∃ S', w = cW cy S' ++ wr ∧ XP X S') 3 18 := by
  refine gMet.of (cc := cL_asks) (maxL := 4) (ret := some .long) hl (by decide) rfl (Nat.le_of_ble_eq_true rfl) ?_
  intro C E h1 h2 h3 hr hnm hT hE
  subst h1; subst h2; subst h3
  have E : gOk C cL_asks 4 wsL_asks RL e0 rm_L_asks := E
  show G C (cW (xy C) S ++ wr) 0 0 0 [(0, .ref a), (1, .int 3), (2, .int x), (3, .int y)] []
  refine g_iload_n E dL_asks_0 rfl 1 rfl ?_
  refine g_if_ne (tgt := 13) E dL_asks_1 (by decide) (fun _ => ?_) (fun z => absurd z (by decide))
  refine g_iload_n E dL_asks_13 rfl 1 rfl ?_
  refine g_iconst (v := 1) E dL_asks_14 (by decide) ?_
  refine g_icmp_ne (tgt := 27) E dL_asks_15 (by decide) (fun _ => ?_) (fun z => absurd z (by decide))
  refine g_iload_n E dL_asks_27 rfl 1 rfl ?_
  refine g_iconst (v := 2) E dL_asks_28 (by decide) ?_
  refine g_icmp_ne (tgt := 40) E dL_asks_29 (by decide) (fun _ => ?_) (fun z => absurd z (by decide))
  refine g_iload_n E dL_asks_40 rfl 1 rfl ?_
  refine g_iconst (v := 3) E dL_asks_41 (by decide) ?_
  refine g_icmp_ne (tgt := 55) E dL_asks_42 (by decide) (fun z => absurd rfl z) (fun _ => ?_)
  refine g_aload_n E dL_asks_45 rfl 0 rfl ?_
  refine g_iload_n E dL_asks_46 rfl 2 rfl ?_
  refine g_iload_n E dL_asks_47 rfl 3 rfl ?_
  refine l_invV (W9 := 8) (n := 2) (As := [.int x, .int y]) (rest := []) E hM ha hk gL_asks_X5_stop rfl rfl rfl (by decide +kernel) ⟨Nat.le_of_ble_eq_true rfl, Nat.le_of_ble_eq_true rfl⟩ rfl rfl (Nat.le_of_ble_eq_true rfl) dL_asks_48 ⟨Nat.le_of_ble_eq_true rfl, Nat.le_of_ble_eq_true rfl⟩ (fun X S1 h9 => gx_out E hE hT (Nat.le_of_ble_eq_true rfl) (Nat.le_of_ble_eq_true rfl) ⟨S1, rfl, h9⟩) (fun v S1 h9 => ?_)
  obtain ⟨z, rfl⟩ := hsh v S1 h9
  show G C (cW (xy C) S1 ++ wr) (0 + 3) (0 + 18) 51 [(0, .ref a), (1, .int 3), (2, .int x), (3, .int y)] [.int z]
  refine g_i2l E dL_asks_51 ?_
  refine g_goto (tgt := 61) E dL_asks_52 (by decide) ?_
  exact g_lret E hE hr dL_asks_61 (Nat.le_of_ble_eq_true rfl) (Nat.le_of_ble_eq_true rfl) ⟨S1, _, _, rfl, rfl, h9, z, rfl, rfl⟩
set_option maxHeartbeats 4000000 in
set_option maxRecDepth 100000 in
theorem w_asks_pass (l : Launch) (hl : l.stackTraces = false) (D : va_G) (cy : Nat → ClassId) (e0 : Nat) {S : wS} {a : Nat} {x y : Int32} {P : Option Value → wS → Prop} {XP : String → wS → Prop} {wr : va_W} (ha : a ∈ sL S) (hk : sK S a = 5) (hM : cMet l yX5_pass wsX5_pass rm_X5_pass D cy e0 [.ref a, .int x] S P XP 1 6) (hsh : ∀ v S', P v S' → ∃ z : Int32, v = some (.int z)) : gMet l yL_asks wsL_asks rm_L_asks D cy e0 [.ref a, .int 4, .int x, .int y] (cW cy S ++ wr) (fun v w => ∃ S' vv q, v = some (.long q) ∧ w = cW cy S' ++ wr ∧ P vv S' ∧ cvI vv q) (fun X w => ∃ S', w = cW cy S' ++ wr ∧ XP X S') 3 18 := by
  refine gMet.of (cc := cL_asks) (maxL := 4) (ret := some .long) hl (by decide) rfl (Nat.le_of_ble_eq_true rfl) ?_
  intro C E h1 h2 h3 hr hnm hT hE
  subst h1; subst h2; subst h3
  have E : gOk C cL_asks 4 wsL_asks RL e0 rm_L_asks := E
  show G C (cW (xy C) S ++ wr) 0 0 0 [(0, .ref a), (1, .int 4), (2, .int x), (3, .int y)] []
  refine g_iload_n E dL_asks_0 rfl 1 rfl ?_
  refine g_if_ne (tgt := 13) E dL_asks_1 (by decide) (fun _ => ?_) (fun z => absurd z (by decide))
  refine g_iload_n E dL_asks_13 rfl 1 rfl ?_
  refine g_iconst (v := 1) E dL_asks_14 (by decide) ?_
  refine g_icmp_ne (tgt := 27) E dL_asks_15 (by decide) (fun _ => ?_) (fun z => absurd z (by decide))
  refine g_iload_n E dL_asks_27 rfl 1 rfl ?_
  refine g_iconst (v := 2) E dL_asks_28 (by decide) ?_
  refine g_icmp_ne (tgt := 40) E dL_asks_29 (by decide) (fun _ => ?_) (fun z => absurd z (by decide))
  refine g_iload_n E dL_asks_40 rfl 1 rfl ?_
  refine g_iconst (v := 3) E dL_asks_41 (by decide) ?_
  refine g_icmp_ne (tgt := 55) E dL_asks_42 (by decide) (fun _ => ?_) (fun z => absurd z (by decide))
  refine g_aload_n E dL_asks_55 rfl 0 rfl ?_
  refine g_iload_n E dL_asks_56 rfl 2 rfl ?_
  refine l_invV (W9 := 8) (n := 1) (As := [.int x]) (rest := []) E hM ha hk gL_asks_X5_pass rfl rfl rfl (by decide +kernel) ⟨Nat.le_of_ble_eq_true rfl, Nat.le_of_ble_eq_true rfl⟩ rfl rfl (Nat.le_of_ble_eq_true rfl) dL_asks_57 ⟨Nat.le_of_ble_eq_true rfl, Nat.le_of_ble_eq_true rfl⟩ (fun X S1 h9 => gx_out E hE hT (Nat.le_of_ble_eq_true rfl) (Nat.le_of_ble_eq_true rfl) ⟨S1, rfl, h9⟩) (fun v S1 h9 => ?_)
  obtain ⟨z, rfl⟩ := hsh v S1 h9
  show G C (cW (xy C) S1 ++ wr) (0 + 1) (0 + 6) 60 [(0, .ref a), (1, .int 4), (2, .int x), (3, .int y)] [.int z]
  refine g_i2l E dL_asks_60 ?_
  exact g_lret E hE hr dL_asks_61 (Nat.le_of_ble_eq_true rfl) (Nat.le_of_ble_eq_true rfl) ⟨S1, _, _, rfl, rfl, h9, z, rfl, rfl⟩
set_option maxHeartbeats 4000000 in
set_option maxRecDepth 100000 in
theorem w_on (l : Launch) (hl : l.stackTraces = false) (D : va_G) (cy : Nat → ClassId) (e0 : Nat) {W0 : va_W} {a : Nat} {wh x y : Int32} {P : Option Value → va_W → Prop} {XP : String → va_W → Prop} (hM : gMet l yL_asks wsL_asks rm_L_asks D cy e0 [.ref a, .int wh, .int x, .int y] W0 P XP 3 18) (hsh : ∀ v w, P v w → ∃ q : Int64, v = some (.long q)) (hX : ∀ X w, XP X w → X = "java/lang/IllegalArgumentException" ∨ X = "java/lang/IllegalStateException") : gMet l yL_on wsL_on rm_L_on D cy e0 [.ref a, .int wh, .int x, .int y] W0 (fun v w => P v w ∨ (v = some (.long (-900012)) ∧ XP "java/lang/IllegalArgumentException" w) ∨ (v = some (.long (-900013)) ∧ XP "java/lang/IllegalStateException" w)) (fun _ _ => False) 3 18 := by
  refine gMet.ofH (cc := cL_on) (maxL := 5) (ret := some .long) (hh := [(0, 7, 8, 33), (0, 7, 14, 37)]) hl (by decide) rfl (Nat.le_of_ble_eq_true rfl) ?_
  intro C E h1 h2 h3 hr ht hE
  subst h1; subst h2; subst h3
  have E : gOk C cL_on 5 wsL_on RL e0 rm_L_on := E
  show G C W0 0 0 0 [(0, .ref a), (1, .int wh), (2, .int x), (3, .int y)] []
  refine g_aload_n E dL_on_0 rfl 0 rfl ?_
  refine g_iload_n E dL_on_1 rfl 1 rfl ?_
  refine g_iload_n E dL_on_2 rfl 2 rfl ?_
  refine g_iload_n E dL_on_3 rfl 3 rfl ?_
  refine g_invS (n := 4) (As := [.ref a, .int wh, .int x, .int y]) (rest := []) E hM gL_on_L_asks rfl rfl rfl (by decide +kernel) ⟨Nat.le_of_ble_eq_true rfl, Nat.le_of_ble_eq_true rfl⟩ rfl rfl (Nat.le_of_ble_eq_true rfl) dL_on_4 ⟨Nat.le_of_ble_eq_true rfl, Nat.le_of_ble_eq_true rfl⟩ (fun X w h9 => ?_) (fun v w h9 => ?_)
  · rcases hX X w h9 with rfl | rfl
    · refine g_catch E (name := "java/lang/IllegalArgumentException") [] ⟨0, 7, 8, 33⟩ [⟨0, 7, 14, 37⟩] ht (fun _ hz => absurd hz List.not_mem_nil) rfl (by decide) (List.mem_cons_of_mem _ (List.mem_append_left _ (List.mem_append_left _ (List.mem_append_left _ (List.mem_append_left _ (List.mem_append_left _ (List.mem_append_left _ (List.mem_append_left _ (List.mem_append_left _ (List.mem_append_left _ (List.mem_append_left _ (List.mem_append_left _ (List.mem_of_getElem? (i := 0) rfl))))))))))))) (E.nest tbC_IllegalArgumentException rfl) (fun q => ?_)
      show G C w (0 + 3) (0 + 18) 8 [(0, .ref a), (1, .int wh), (2, .int x), (3, .int y)] [.ref q]
      refine g_astore (L' := [(4, .ref q), (0, .ref a), (1, .int wh), (2, .int x), (3, .int y)]) E dL_on_8 (by decide) rfl ?_
      refine g_ldc2 E (List.mem_cons_of_mem _ (List.mem_append_left _ (List.mem_append_left _ (List.mem_append_left _ (List.mem_append_left _ (List.mem_append_left _ (List.mem_append_left _ (List.mem_append_left _ (List.mem_append_left _ (List.mem_append_left _ (List.mem_append_left _ (List.mem_append_left _ (List.mem_of_getElem? (i := 2) rfl))))))))))))) dL_on_10 ?_
      exact g_lret E hE hr dL_on_13 (Nat.le_of_ble_eq_true rfl) (Nat.le_of_ble_eq_true rfl) (Or.inr (Or.inl ⟨rfl, h9⟩))
    · refine g_catch E (name := "java/lang/IllegalStateException") [⟨0, 7, 8, 33⟩] ⟨0, 7, 14, 37⟩ [] ht (fun z hz => by rw [List.mem_singleton.mp hz]; exact ⟨by decide, _, (List.mem_cons_of_mem _ (List.mem_append_left _ (List.mem_append_left _ (List.mem_append_left _ (List.mem_append_left _ (List.mem_append_left _ (List.mem_append_left _ (List.mem_append_left _ (List.mem_append_left _ (List.mem_append_left _ (List.mem_append_left _ (List.mem_append_left _ (List.mem_of_getElem? (i := 0) rfl))))))))))))), E.nc3⟩) rfl (by decide) (List.mem_cons_of_mem _ (List.mem_append_left _ (List.mem_append_left _ (List.mem_append_left _ (List.mem_append_left _ (List.mem_append_left _ (List.mem_append_left _ (List.mem_append_left _ (List.mem_append_left _ (List.mem_append_left _ (List.mem_append_left _ (List.mem_append_left _ (List.mem_of_getElem? (i := 1) rfl))))))))))))) (E.nest tbC_IllegalStateException rfl) (fun q => ?_)
      show G C w (0 + 3) (0 + 18) 14 [(0, .ref a), (1, .int wh), (2, .int x), (3, .int y)] [.ref q]
      refine g_astore (L' := [(4, .ref q), (0, .ref a), (1, .int wh), (2, .int x), (3, .int y)]) E dL_on_14 (by decide) rfl ?_
      refine g_ldc2 E (List.mem_cons_of_mem _ (List.mem_append_left _ (List.mem_append_left _ (List.mem_append_left _ (List.mem_append_left _ (List.mem_append_left _ (List.mem_append_left _ (List.mem_append_left _ (List.mem_append_left _ (List.mem_append_left _ (List.mem_append_left _ (List.mem_append_left _ (List.mem_of_getElem? (i := 3) rfl))))))))))))) dL_on_16 ?_
      exact g_lret E hE hr dL_on_19 (Nat.le_of_ble_eq_true rfl) (Nat.le_of_ble_eq_true rfl) (Or.inr (Or.inr ⟨rfl, h9⟩))
  · obtain ⟨q, rfl⟩ := hsh v w h9
    exact g_lret E hE hr dL_on_7 (Nat.le_of_ble_eq_true rfl) (Nat.le_of_ble_eq_true rfl) (Or.inl h9)
