def zL0 : zL := fun _ _ => none
theorem zX_none {D : va_G} {B0 : Nat} {H0 H : Heap} {locs : List Loc} (hB : B0 ≤ H.size) (hS : va_S (fun q => B0 ≤ q) H0 H locs) : zX D B0 zL0 H0 H locs := ⟨⟨fun _ _ _ h => (by cases h), fun _ _ _ _ _ _ h => (by cases h), hB⟩, hS⟩
theorem zX.same {D : va_G} {B0 : Nat} {L : zL} {H0 H : Heap} {locs locs' : List Loc} (X : zX D B0 L H0 H locs) (hS : va_S (fun q => B0 ≤ q) H0 H locs') : zX D B0 L H0 H locs' := ⟨X.1, hS⟩
abbrev rX5_outside : Room := { frames := 0, cells := 0, slots := 0, locals := 0 }
set_option maxHeartbeats 4000000 in
set_option maxRecDepth 100000 in
theorem c_outside (l : Launch) (D : va_G) (cA : Nat → ClassId) (B0 : Nat) (H0 : Heap) (x1 x2 x3 : Int) (hx1 : zr x1) (hx2 : zr x2) (hx3 : zr x3) : zM l yX5_outside wsX5_outside rX5_outside [.int (i32 x1), .int (i32 x2), .int (i32 x3)] D cA B0 (fun H => H = H0) (fun v H => H = H0 ∧ ∃ z : Int, v = some (.int (i32 z)) ∧ (z = 0 ∧ (x2 ≤ x1 ∧ x1 ≤ x3) ∨ z = 1 ∧ ¬ (x2 ≤ x1 ∧ x1 ≤ x3))) := by
  refine z_met (cc := cX5_outside) (maxL := 3) (ret := (some .boolean)) (by decide) rfl (Nat.le_of_ble_eq_true rfl) ?_
  intro p e s m args below meth c ls Q hQ E hP hB hS hl
  have hl : lv_has ls 3 [(0, .int (i32 x1)), (1, .int (i32 x2)), (2, .int (i32 x3))] := hl
  have X : zX D B0 zL0 s.heap s.heap [] := zX_none hB hS
  unfold zr at hx1 hx2 hx3
  refine lv_iload_n E.1 E.2.1 dX5_outside_0 rfl (lv_at hl 0 rfl) ?_
  refine lv_iload_n E.1 E.2.1 dX5_outside_1 rfl (lv_at hl 1 rfl) ?_
  refine z_clt E 10 ⟨by omega, by omega⟩ ⟨by omega, by omega⟩ dX5_outside_2 (by decide) (fun h2_1 => ?_) (fun h2_1 => ?_)
  · refine z_iconst E dX5_outside_10 ?_
    refine lv_goto (tgt := 15) E.1 E.2.1 dX5_outside_11 (by decide) ?_
    exact z_retz E X hQ (by omega) (⟨hP, 1, rfl, by omega⟩) dX5_outside_15
  · refine lv_iload_n E.1 E.2.1 dX5_outside_5 rfl (lv_at hl 0 rfl) ?_
    refine lv_iload_n E.1 E.2.1 dX5_outside_6 rfl (lv_at hl 2 rfl) ?_
    refine z_cle E 14 ⟨by omega, by omega⟩ ⟨by omega, by omega⟩ dX5_outside_7 (by decide) (fun h7_2 => ?_) (fun h7_2 => ?_)
    · refine z_iconst E dX5_outside_14 ?_
      exact z_retz E X hQ (by omega) (⟨hP, 0, rfl, by omega⟩) dX5_outside_15
    · refine z_iconst E dX5_outside_10 ?_
      refine lv_goto (tgt := 15) E.1 E.2.1 dX5_outside_11 (by decide) ?_
      exact z_retz E X hQ (by omega) (⟨hP, 1, rfl, by omega⟩) dX5_outside_15

abbrev rX6_in : Room := { frames := 0, cells := 0, slots := 0, locals := 0 }
set_option maxHeartbeats 4000000 in
set_option maxRecDepth 100000 in
theorem c_in (l : Launch) (D : va_G) (cA : Nat → ClassId) (B0 : Nat) (H0 : Heap) (x1 x2 x3 : Int) (hx1 : zrl x1) (hx2 : zrl x2) (hx3 : zrl x3) : zM l yX6_in wsX6_in rX6_in [.long (i64 x1), .long (i64 x2), .long (i64 x3)] D cA B0 (fun H => H = H0) (fun v H => H = H0 ∧ ∃ z : Int, v = some (.int (i32 z)) ∧ (z = 1 ∧ (x2 ≤ x1 ∧ x1 ≤ x3) ∨ z = 0 ∧ ¬ (x2 ≤ x1 ∧ x1 ≤ x3))) := by
  refine z_met (cc := cX6_in) (maxL := 6) (ret := (some .boolean)) (by decide) rfl (Nat.le_of_ble_eq_true rfl) ?_
  intro p e s m args below meth c ls Q hQ E hP hB hS hl
  have hl : lv_has ls 6 [(0, .long (i64 x1)), (2, .long (i64 x2)), (4, .long (i64 x3))] := hl
  have X : zX D B0 zL0 s.heap s.heap [] := zX_none hB hS
  unfold zrl at hx1 hx2 hx3
  refine lv_lload_n E.1 E.2.1 dX6_in_0 rfl (lv_at hl 0 rfl) ?_
  refine lv_lload_n E.1 E.2.1 dX6_in_1 rfl (lv_at hl 1 rfl) ?_
  refine z_lcmp E ⟨by omega, by omega⟩ ⟨by omega, by omega⟩ dX6_in_2 (fun z_1 hrz_1 hlz_1 hez_1 => ?_)
  unfold zr at hrz_1
  refine z_flt E 17 ⟨by omega, by omega⟩ dX6_in_3 (by decide) (fun h3_2 => ?_) (fun h3_2 => ?_)
  · refine z_iconst E dX6_in_17 ?_
    exact z_retz E X hQ (by omega) (⟨hP, 0, rfl, by omega⟩) dX6_in_18
  · refine lv_lload_n E.1 E.2.1 dX6_in_6 rfl (lv_at hl 0 rfl) ?_
    refine lv_lload E.1 E.2.1 dX6_in_7 (lv_at hl 2 rfl) ?_
    refine z_lcmp E ⟨by omega, by omega⟩ ⟨by omega, by omega⟩ dX6_in_9 (fun z_3 hrz_3 hlz_3 hez_3 => ?_)
    unfold zr at hrz_3
    refine z_fgt E 17 ⟨by omega, by omega⟩ dX6_in_10 (by decide) (fun h10_4 => ?_) (fun h10_4 => ?_)
    · refine z_iconst E dX6_in_17 ?_
      exact z_retz E X hQ (by omega) (⟨hP, 0, rfl, by omega⟩) dX6_in_18
    · refine z_iconst E dX6_in_13 ?_
      refine lv_goto (tgt := 18) E.1 E.2.1 dX6_in_14 (by decide) ?_
      exact z_retz E X hQ (by omega) (⟨hP, 1, rfl, by omega⟩) dX6_in_18

abbrev rX5_noSheet : Room := { frames := 1, cells := 0, slots := 0, locals := 22 }
set_option maxHeartbeats 4000000 in
set_option maxRecDepth 100000 in
theorem c_noSheet (l : Launch) (D : va_G) (cA : Nat → ClassId) (B0 : Nat) (H0 : Heap) (x1 : Int) (hx1 : zr x1) : zM l yX5_noSheet wsX5_noSheet rX5_noSheet [.int (i32 x1)] D cA B0 (fun H => H = H0) (fun v H => H = H0 ∧ ∃ z : Int, v = some (.int (i32 z)) ∧ (z = 0 ∧ (0 ≤ x1 ∧ x1 ≤ 5) ∨ z = 1 ∧ ¬ (0 ≤ x1 ∧ x1 ≤ 5))) := by
  refine z_met (cc := cX5_noSheet) (maxL := 1) (ret := (some .boolean)) (by decide) rfl (Nat.le_of_ble_eq_true rfl) ?_
  intro p e s m args below meth c ls Q hQ E hP hB hS hl
  have hl : lv_has ls 1 [(0, .int (i32 x1))] := hl
  have X : zX D B0 zL0 s.heap s.heap [] := zX_none hB hS
  unfold zr at hx1
  refine lv_iload_n E.1 E.2.1 dX5_noSheet_0 rfl (lv_at hl 0 rfl) ?_
  refine z_iconst E dX5_noSheet_1 ?_
  refine z_iconst E dX5_noSheet_2 ?_
  refine z_callJ (As := [.int (i32 x1), .int (i32 0), .int (i32 5)]) (rest := []) (n := 3) E X (c_outside l D cA B0 _ x1 0 5 ⟨by omega, by omega⟩ ⟨by omega, by omega⟩ ⟨by omega, by omega⟩) gX5_noSheet_X5_outside rfl (by decide +kernel) ⟨by decide, by decide⟩ rfl hl.1 rfl (Nat.le_of_ble_eq_true rfl) dX5_noSheet_3 ⟨by decide, by decide⟩ rfl 0 0 ⟨rfl, rfl⟩ (fun v H locs hv hS_1 => ?_)
  obtain ⟨hH, z_2, rfl, ez_2⟩ := hv
  subst hH
  replace X := X.same hS_1
  exact z_retz E X hQ (by omega) (⟨hP, z_2, rfl, by omega⟩) dX5_noSheet_6

abbrev rX6_isSheet : Room := { frames := 1, cells := 0, slots := 0, locals := 25 }
set_option maxHeartbeats 4000000 in
set_option maxRecDepth 100000 in
theorem c_isSheet (l : Launch) (D : va_G) (cA : Nat → ClassId) (B0 : Nat) (H0 : Heap) (x1 : Int) (hx1 : zr x1) : zM l yX6_isSheet wsX6_isSheet rX6_isSheet [.int (i32 x1)] D cA B0 (fun H => H = H0) (fun v H => H = H0 ∧ ∃ z : Int, v = some (.int (i32 z)) ∧ (z = 1 ∧ (0 ≤ x1 ∧ x1 ≤ 5) ∨ z = 0 ∧ ¬ (0 ≤ x1 ∧ x1 ≤ 5))) := by
  refine z_met (cc := cX6_isSheet) (maxL := 1) (ret := (some .boolean)) (by decide) rfl (Nat.le_of_ble_eq_true rfl) ?_
  intro p e s m args below meth c ls Q hQ E hP hB hS hl
  have hl : lv_has ls 1 [(0, .int (i32 x1))] := hl
  have X : zX D B0 zL0 s.heap s.heap [] := zX_none hB hS
  unfold zr at hx1
  refine lv_iload_n E.1 E.2.1 dX6_isSheet_0 rfl (lv_at hl 0 rfl) ?_
  refine z_i2l E ⟨by omega, by omega⟩ dX6_isSheet_1 ?_
  refine z_lconst (z := 0) E dX6_isSheet_2 (by decide +kernel) ?_
  refine z_ldc2 (v := 5) (z := 5) E (by decide +kernel) (by decide +kernel) dX6_isSheet_3 ?_
  refine z_callJ (As := [.long (i64 x1), .long (i64 0), .long (i64 5)]) (rest := []) (n := 3) E X (c_in l D cA B0 _ x1 0 5 ⟨by omega, by omega⟩ ⟨by omega, by omega⟩ ⟨by omega, by omega⟩) gX6_isSheet_X6_in rfl (by decide +kernel) ⟨by decide, by decide⟩ rfl hl.1 rfl (Nat.le_of_ble_eq_true rfl) dX6_isSheet_6 ⟨by decide, by decide⟩ rfl 0 0 ⟨rfl, rfl⟩ (fun v H locs hv hS_1 => ?_)
  obtain ⟨hH, z_2, rfl, ez_2⟩ := hv
  subst hH
  replace X := X.same hS_1
  exact z_retz E X hQ (by omega) (⟨hP, z_2, rfl, by omega⟩) dX6_isSheet_9

abbrev rX6_floor : Room := { frames := 0, cells := 0, slots := 0, locals := 0 }
set_option maxHeartbeats 4000000 in
set_option maxRecDepth 100000 in
theorem m_floor (l : Launch) (D : va_G) (cA : Nat → ClassId) (B0 : Nat) (C : zL) (am : Nat → Nat) (S U : zS) : zM l yX6_floor wsX6_floor rX6_floor [.ref (am 0)] D cA B0 (zW D B0 (zj C (layM cA am S U))) (fun v H => v = some (.int (i32 (S 1 0 + S 2 0))) ∧ zW D B0 (zj C (layM cA am S U)) H) := by
  refine z_met (cc := cX6_floor) (maxL := 1) (ret := (some .int)) (by decide) rfl (Nat.le_of_ble_eq_true rfl) ?_
  intro p e s m args below meth c ls Q hQ E hP hB hS hl
  have hl : lv_has ls 1 [(0, .ref (am 0))] := hl
  have iX6 : ∀ w ∈ u_ws RX6 TX6 28, w ∈ wsX6_floor := by decide +kernel
  have X : zX D B0 (zj C (layM cA am S U)) s.heap s.heap [] := ⟨hP, hS⟩
  refine lv_aload_n E.1 E.2.1 dX6_floor_0 rfl (lv_at hl 0 rfl) ?_
  refine z_get E X (lM_0 C cA am S U) rfl iX6 1 (by decide) (by decide +kernel) (v := .int (i32 (S 1 0))) rfl dX6_floor_1 ?_
  refine lv_aload_n E.1 E.2.1 dX6_floor_4 rfl (lv_at hl 0 rfl) ?_
  refine z_get E X (lM_0 C cA am S U) rfl iX6 2 (by decide) (by decide +kernel) (v := .int (i32 (S 2 0))) rfl dX6_floor_5 ?_
  refine z_iadd E dX6_floor_8 ?_
  exact z_ret E X hQ (⟨rfl, X.1⟩) dX6_floor_9

abbrev rX6_isPlace : Room := { frames := 1, cells := 0, slots := 0, locals := 25 }
set_option maxHeartbeats 4000000 in
set_option maxRecDepth 100000 in
theorem m_isPlace (l : Launch) (D : va_G) (cA : Nat → ClassId) (B0 : Nat) (C : zL) (am : Nat → Nat) (S U : zS) (hI : SI0 S) (x y : Int) (hx : zr x) (hy : zr y) : zM l yX6_isPlace wsX6_isPlace rX6_isPlace [.ref (am 0), .int (i32 x), .int (i32 y)] D cA B0 (zW D B0 (zj C (layM cA am S U))) (fun v H => (∃ z : Int, v = some (.int (i32 z)) ∧ (z = 1 ∧ (0 ≤ x ∧ x ≤ 50 ∧ S 1 0 ≤ y ∧ y ≤ S 1 0 + S 2 0) ∨ z = 0 ∧ ¬ (0 ≤ x ∧ x ≤ 50 ∧ S 1 0 ≤ y ∧ y ≤ S 1 0 + S 2 0))) ∧ zW D B0 (zj C (layM cA am S U)) H) := by
  refine z_met (cc := cX6_isPlace) (maxL := 3) (ret := (some .boolean)) (by decide) rfl (Nat.le_of_ble_eq_true rfl) ?_
  intro p e s m args below meth c ls Q hQ E hP hB hS hl
  have hl : lv_has ls 3 [(0, .ref (am 0)), (1, .int (i32 x)), (2, .int (i32 y))] := hl
  have iX6 : ∀ w ∈ u_ws RX6 TX6 28, w ∈ wsX6_isPlace := by decide +kernel
  have X : zX D B0 (zj C (layM cA am S U)) s.heap s.heap [] := ⟨hP, hS⟩
  have hI0 := hI
  unfold SI0 at hI0
  obtain ⟨b1, b2, b3, b4, b5, b8, b17, b19, b7⟩ := hI0
  unfold zr at hx hy
  refine lv_iload_n E.1 E.2.1 dX6_isPlace_0 rfl (lv_at hl 1 rfl) ?_
  refine z_i2l E ⟨by omega, by omega⟩ dX6_isPlace_1 ?_
  refine z_lconst (z := 0) E dX6_isPlace_2 (by decide +kernel) ?_
  refine z_ldc2 (v := 50) (z := 50) E (by decide +kernel) (by decide +kernel) dX6_isPlace_3 ?_
  refine z_callJ (As := [.long (i64 x), .long (i64 0), .long (i64 50)]) (rest := []) (n := 3) E X (c_in l D cA B0 _ x 0 50 ⟨by omega, by omega⟩ ⟨by omega, by omega⟩ ⟨by omega, by omega⟩) gX6_isPlace_X6_in rfl (by decide +kernel) ⟨by decide, by decide⟩ rfl hl.1 rfl (Nat.le_of_ble_eq_true rfl) dX6_isPlace_6 ⟨by decide, by decide⟩ rfl 0 0 ⟨rfl, rfl⟩ (fun v H locs hv hS_1 => ?_)
  obtain ⟨hH, z_2, rfl, ez_2⟩ := hv
  subst hH
  replace X := X.same hS_1
  refine z_feq E 34 ⟨by omega, by omega⟩ dX6_isPlace_9 (by decide) (fun h9_3 => ?_) (fun h9_3 => ?_)
  · refine z_iconst E dX6_isPlace_34 ?_
    exact z_retz E X hQ (by omega) (⟨⟨0, rfl, by omega⟩, X.1⟩) dX6_isPlace_35
  · refine lv_iload_n E.1 E.2.1 dX6_isPlace_12 rfl (lv_at hl 2 rfl) ?_
    refine z_i2l E ⟨by omega, by omega⟩ dX6_isPlace_13 ?_
    refine lv_aload_n E.1 E.2.1 dX6_isPlace_14 rfl (lv_at hl 0 rfl) ?_
    refine z_get E X (lM_0 C cA am S U) rfl iX6 1 (by decide) (by decide +kernel) (v := .int (i32 (S 1 0))) rfl dX6_isPlace_15 ?_
    refine z_i2l E ⟨by omega, by omega⟩ dX6_isPlace_18 ?_
    refine lv_aload_n E.1 E.2.1 dX6_isPlace_19 rfl (lv_at hl 0 rfl) ?_
    refine z_callV (As := []) (rest := [.long (i64 (S 1 0)), .long (i64 y)]) (n := 0) E X (lM_0 C cA am S U) rfl (m_floor l D cA B0 C am S U ) gX6_isPlace_X6_floor rfl (by decide +kernel) ⟨by decide, by decide⟩ rfl hl.1 rfl (Nat.le_of_ble_eq_true rfl) dX6_isPlace_20 ⟨by decide, by decide⟩ X.1 0 0 ⟨rfl, rfl⟩ (fun v H locs hv hS_4 => ?_)
    obtain ⟨rfl, hw⟩ := hv
    replace X : zX D B0 (zj C (layM cA am S U)) s.heap H locs := ⟨hw, hS_4⟩
    refine z_i2l E ⟨by omega, by omega⟩ dX6_isPlace_23 ?_
    refine z_callJ (As := [.long (i64 y), .long (i64 (S 1 0)), .long (i64 ((S 1 0) + (S 2 0)))]) (rest := []) (n := 3) E X (c_in l D cA B0 _ y (S 1 0) ((S 1 0) + (S 2 0)) ⟨by omega, by omega⟩ ⟨by omega, by omega⟩ ⟨by omega, by omega⟩) gX6_isPlace_X6_in rfl (by decide +kernel) ⟨by decide, by decide⟩ rfl hl.1 rfl (Nat.le_of_ble_eq_true rfl) dX6_isPlace_24 ⟨by decide, by decide⟩ rfl 0 0 ⟨rfl, rfl⟩ (fun v H locs hv hS_5 => ?_)
    obtain ⟨hH, z_6, rfl, ez_6⟩ := hv
    subst hH
    replace X := X.same hS_5
    refine z_feq E 34 ⟨by omega, by omega⟩ dX6_isPlace_27 (by decide) (fun h27_7 => ?_) (fun h27_7 => ?_)
    · refine z_iconst E dX6_isPlace_34 ?_
      exact z_retz E X hQ (by omega) (⟨⟨0, rfl, by omega⟩, X.1⟩) dX6_isPlace_35
    · refine z_iconst E dX6_isPlace_30 ?_
      refine lv_goto (tgt := 35) E.1 E.2.1 dX6_isPlace_31 (by decide) ?_
      exact z_retz E X hQ (by omega) (⟨⟨1, rfl, by omega⟩, X.1⟩) dX6_isPlace_35

abbrev rX6_noElement : Room := { frames := 1, cells := 0, slots := 0, locals := 25 }
set_option maxHeartbeats 4000000 in
set_option maxRecDepth 100000 in
theorem m_noElement (l : Launch) (D : va_G) (cA : Nat → ClassId) (B0 : Nat) (C : zL) (am : Nat → Nat) (S U : zS) (hI : SI0 S) (x : Int) (hx : zr x) : zM l yX6_noElement wsX6_noElement rX6_noElement [.ref (am 0), .int (i32 x)] D cA B0 (zW D B0 (zj C (layM cA am S U))) (fun v H => (∃ z : Int, v = some (.int (i32 z)) ∧ (z = 0 ∧ (0 ≤ x ∧ x < S 5 0) ∨ z = 1 ∧ ¬ (0 ≤ x ∧ x < S 5 0))) ∧ zW D B0 (zj C (layM cA am S U)) H) := by
  refine z_met (cc := cX6_noElement) (maxL := 2) (ret := (some .boolean)) (by decide) rfl (Nat.le_of_ble_eq_true rfl) ?_
  intro p e s m args below meth c ls Q hQ E hP hB hS hl
  have hl : lv_has ls 2 [(0, .ref (am 0)), (1, .int (i32 x))] := hl
  have iX6 : ∀ w ∈ u_ws RX6 TX6 28, w ∈ wsX6_noElement := by decide +kernel
  have X : zX D B0 (zj C (layM cA am S U)) s.heap s.heap [] := ⟨hP, hS⟩
  have hI0 := hI
  unfold SI0 at hI0
  obtain ⟨b1, b2, b3, b4, b5, b8, b17, b19, b7⟩ := hI0
  unfold zr at hx
  refine lv_iload_n E.1 E.2.1 dX6_noElement_0 rfl (lv_at hl 1 rfl) ?_
  refine z_i2l E ⟨by omega, by omega⟩ dX6_noElement_1 ?_
  refine z_lconst (z := 0) E dX6_noElement_2 (by decide +kernel) ?_
  refine lv_aload_n E.1 E.2.1 dX6_noElement_3 rfl (lv_at hl 0 rfl) ?_
  refine z_get E X (lM_0 C cA am S U) rfl iX6 5 (by decide) (by decide +kernel) (v := .int (i32 (S 5 0))) rfl dX6_noElement_4 ?_
  refine z_iconst E dX6_noElement_7 ?_
  refine z_isub E dX6_noElement_8 ?_
  refine z_i2l E ⟨by omega, by omega⟩ dX6_noElement_9 ?_
  refine z_callJ (As := [.long (i64 x), .long (i64 0), .long (i64 ((S 5 0) - 1))]) (rest := []) (n := 3) E X (c_in l D cA B0 _ x 0 ((S 5 0) - 1) ⟨by omega, by omega⟩ ⟨by omega, by omega⟩ ⟨by omega, by omega⟩) gX6_noElement_X6_in rfl (by decide +kernel) ⟨by decide, by decide⟩ rfl hl.1 rfl (Nat.le_of_ble_eq_true rfl) dX6_noElement_10 ⟨by decide, by decide⟩ rfl 0 0 ⟨rfl, rfl⟩ (fun v H locs hv hS_1 => ?_)
  obtain ⟨hH, z_2, rfl, ez_2⟩ := hv
  subst hH
  replace X := X.same hS_1
  refine z_fne E 20 ⟨by omega, by omega⟩ dX6_noElement_13 (by decide) (fun h13_3 => ?_) (fun h13_3 => ?_)
  · refine z_iconst E dX6_noElement_20 ?_
    exact z_retz E X hQ (by omega) (⟨⟨0, rfl, by omega⟩, X.1⟩) dX6_noElement_21
  · refine z_iconst E dX6_noElement_16 ?_
    refine lv_goto (tgt := 21) E.1 E.2.1 dX6_noElement_17 (by decide) ?_
    exact z_retz E X hQ (by omega) (⟨⟨1, rfl, by omega⟩, X.1⟩) dX6_noElement_21

abbrev rX6_finds : Room := { frames := 0, cells := 0, slots := 0, locals := 0 }
set_option maxHeartbeats 4000000 in
set_option maxRecDepth 100000 in
theorem m_finds (l : Launch) (D : va_G) (cA : Nat → ClassId) (B0 : Nat) (C : zL) (am : Nat → Nat) (S U : zS) (x : Int) : zM l yX6_finds wsX6_finds rX6_finds [.ref (am 0), .int (i32 x)] D cA B0 (zW D B0 (zj C (layM cA am S U))) (fun v H => v = some (.int (i32 x)) ∧ zW D B0 (zj C (layM cA am (zs S 27 0 (S 27 0 + 1)) U)) H) := by
  refine z_met (cc := cX6_finds) (maxL := 2) (ret := (some .int)) (by decide) rfl (Nat.le_of_ble_eq_true rfl) ?_
  intro p e s m args below meth c ls Q hQ E hP hB hS hl
  have hl : lv_has ls 2 [(0, .ref (am 0)), (1, .int (i32 x))] := hl
  have iX6 : ∀ w ∈ u_ws RX6 TX6 28, w ∈ wsX6_finds := by decide +kernel
  have X : zX D B0 (zj C (layM cA am S U)) s.heap s.heap [] := ⟨hP, hS⟩
  refine lv_aload_n E.1 E.2.1 dX6_finds_0 rfl (lv_at hl 0 rfl) ?_
  refine lv_dup E.1 E.2.1 dX6_finds_1 rfl ?_
  refine z_get E X (lM_0 C cA am S U) rfl iX6 27 (by decide) (by decide +kernel) (v := .int (i32 (S 27 0))) rfl dX6_finds_2 ?_
  refine z_iconst E dX6_finds_5 ?_
  refine z_iadd E dX6_finds_6 ?_
  refine z_put E X (lM_0 C cA am S U) rfl iX6 tyX6 tyX6_ok nmX6 27 (by decide) (by decide +kernel) rfl rfl rfl (Nat.le_of_ble_eq_true rfl) dX6_finds_7 (fun H locs X => ?_)
  have X := mp_27 X
  refine lv_iload_n E.1 E.2.1 dX6_finds_10 rfl (lv_at hl 1 rfl) ?_
  exact z_ret E X hQ (⟨rfl, X.1⟩) dX6_finds_11

abbrev rX6_working : Room := { frames := 0, cells := 0, slots := 0, locals := 0 }
set_option maxHeartbeats 4000000 in
set_option maxRecDepth 100000 in
theorem m_working (l : Launch) (D : va_G) (cA : Nat → ClassId) (B0 : Nat) (C : zL) (am : Nat → Nat) (S U : zS) (hI : SI0 S) : zM l yX6_working wsX6_working rX6_working [.ref (am 0)] D cA B0 (zW D B0 (zj C (layM cA am S U))) (fun v H => v = some (.int (i32 (sumn (fun e => 1 - S 7 e) (S 5 0).toNat))) ∧ zW D B0 (zj C (layM cA am S U)) H) := by
  refine z_met (cc := cX6_working) (maxL := 3) (ret := (some .int)) (by decide) rfl (Nat.le_of_ble_eq_true rfl) ?_
  intro p e s m args below meth c ls Q hQ E hP hB hS hl
  have hl : lv_has ls 3 [(0, .ref (am 0))] := hl
  have iX6 : ∀ w ∈ u_ws RX6 TX6 28, w ∈ wsX6_working := by decide +kernel
  have X : zX D B0 (zj C (layM cA am S U)) s.heap s.heap [] := ⟨hP, hS⟩
  have hI0 := hI
  unfold SI0 at hI0
  obtain ⟨b1, b2, b3, b4, b5, b8, b17, b19, b7⟩ := hI0
  refine z_iconst E dX6_working_0 ?_
  refine lv_istore_n (lv' := [(1, .int (i32 0)), (0, .ref (am 0))]) E.1 E.2.1 dX6_working_1 rfl hl (by decide) rfl (fun ls hl => ?_)
  refine z_iconst E dX6_working_2 ?_
  refine lv_istore_n (lv' := [(2, .int (i32 0)), (1, .int (i32 0)), (0, .ref (am 0))]) E.1 E.2.1 dX6_working_3 rfl hl (by decide) rfl (fun ls hl => ?_)
  have key4 : ∀ (N : Nat) (n : Nat) (H : Heap) (locs : List Loc) (ls : Array Slot), ((S 5 0 - (n : Int)).toNat) < N → ((n : Int) ≤ S 5 0) → zX D B0 (zj C (layM cA am S U)) s.heap H locs → lv_has ls 3 [(0, .ref (am 0)), (1, .int (i32 (sumn (fun e => 1 - S 7 e) n))), (2, .int (i32 (n : Int)))] → W p l e rX6_working s m args below meth c H locs 0 0 Q (F0 m 4 ls []) := by
    intro N
    induction N with
    | zero => intros; omega
    | succ N ih4 =>
      intro n H locs ls hN hn X hl
      refine lv_iload_n E.1 E.2.1 dX6_working_4 rfl (lv_at hl 2 rfl) ?_
      refine lv_aload_n E.1 E.2.1 dX6_working_5 rfl (lv_at hl 0 rfl) ?_
      refine z_get E X (lM_0 C cA am S U) rfl iX6 5 (by decide) (by decide +kernel) (v := .int (i32 (S 5 0))) rfl dX6_working_6 ?_
      refine z_cge E 35 ⟨by omega, by omega⟩ ⟨by omega, by omega⟩ dX6_working_9 (by decide) (fun h9_1 => ?_) (fun h9_1 => ?_)
      · have en : S 5 0 = (n : Int) := by omega
        refine lv_iload_n E.1 E.2.1 dX6_working_35 rfl (lv_at hl 1 rfl) ?_
        exact z_ret E X hQ (⟨by rw [show (S 5 0).toNat = n by omega], X.1⟩) dX6_working_36
      · have b7n := b7 n
        refine lv_iload_n E.1 E.2.1 dX6_working_12 rfl (lv_at hl 1 rfl) ?_
        refine lv_aload_n E.1 E.2.1 dX6_working_13 rfl (lv_at hl 0 rfl) ?_
        refine z_get E X (lM_0 C cA am S U) rfl iX6 7 (by decide) (by decide +kernel) (v := .ref (am 7)) rfl dX6_working_14 ?_
        refine lv_iload_n E.1 E.2.1 dX6_working_17 rfl (lv_at hl 2 rfl) ?_
        refine z_zald E X (lM_7 C cA am S U) n (by omega) (by omega) (by decide) dX6_working_18 ?_
        refine z_feq E 26 ⟨by omega, by omega⟩ dX6_working_19 (by decide) (fun h19_2 => ?_) (fun h19_2 => ?_)
        · refine z_iconst E dX6_working_26 ?_
          refine z_iadd E dX6_working_27 ?_
          refine z_top (sumn (fun e => 1 - S 7 e) (n + 1)) (by show _ = sumn _ n + (1 - S 7 n); omega) ?_
          refine lv_istore_n (lv' := [(1, .int (i32 (sumn (fun e => 1 - S 7 e) (n + 1)))), (0, .ref (am 0)), (2, .int (i32 (n : Int)))]) E.1 E.2.1 dX6_working_28 rfl hl (by decide) rfl (fun ls hl => ?_)
          refine z_iinc (lv' := [(2, .int (i32 ((n + 1 : Nat) : Int))), (1, .int (i32 (sumn (fun e => 1 - S 7 e) (n + 1)))), (0, .ref (am 0))]) E dX6_working_29 hl (k := 2) rfl (by decide) rfl (fun ls hl => ?_)
          refine lv_goto (tgt := 4) E.1 E.2.1 dX6_working_32 (by decide) ?_
          exact ih4 (n + 1) _ _ _ (by omega) (by omega) X (lv_sub hl [2, 1, 0] rfl)
        · refine z_iconst E dX6_working_22 ?_
          refine lv_goto (tgt := 27) E.1 E.2.1 dX6_working_23 (by decide) ?_
          refine z_iadd E dX6_working_27 ?_
          refine z_top (sumn (fun e => 1 - S 7 e) (n + 1)) (by show _ = sumn _ n + (1 - S 7 n); omega) ?_
          refine lv_istore_n (lv' := [(1, .int (i32 (sumn (fun e => 1 - S 7 e) (n + 1)))), (0, .ref (am 0)), (2, .int (i32 (n : Int)))]) E.1 E.2.1 dX6_working_28 rfl hl (by decide) rfl (fun ls hl => ?_)
          refine z_iinc (lv' := [(2, .int (i32 ((n + 1 : Nat) : Int))), (1, .int (i32 (sumn (fun e => 1 - S 7 e) (n + 1)))), (0, .ref (am 0))]) E dX6_working_29 hl (k := 2) rfl (by decide) rfl (fun ls hl => ?_)
          refine lv_goto (tgt := 4) E.1 E.2.1 dX6_working_32 (by decide) ?_
          exact ih4 (n + 1) _ _ _ (by omega) (by omega) X (lv_sub hl [2, 1, 0] rfl)
  exact key4 (((S 5 0 - (0 : Int)).toNat) + 1) 0 _ _ _ (by omega) (by omega) X (lv_sub hl [2, 1, 0] rfl)

