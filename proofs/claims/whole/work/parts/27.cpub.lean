theorem CG_27 {S : zS} {G : zG} {z : Int} (h : CG S G) : CG (zs S 27 0 z) G := h
abbrev rX5_time : Room := { frames := 3, cells := 0, slots := 0, locals := 76 }
set_option maxHeartbeats 4000000 in
set_option maxRecDepth 100000 in
theorem X_time (l : Launch) (D : va_G) (cA : Nat → ClassId) (B0 : Nat) (M : zL) (a : Nat → Nat → Nat) (G : zG) (S : zS) (hI : SI S) (hG : CG S G) (x1 x2 x3 : Int) (hx1 : zr x1) (hx2 : zr x2) (hx3 : zr x3) : zM l yX5_time wsX5_time rX5_time [.ref (a 0 0), .int (i32 x1), .int (i32 x2), .int (i32 x3)] D cA B0 (zW D B0 (zj (layC cA a G S) M)) (fun v H => v = some (.int (i32 (fTime S x1 x2 x3).1)) ∧ ∃ (a2 : Nat → Nat → Nat) (G2 : zG), a2 0 0 = a 0 0 ∧ CG (fTime S x1 x2 x3).2 G2 ∧ zW D B0 (zj (layC cA a2 G2 (fTime S x1 x2 x3).2) M) H) := by
  refine z_met (cc := cX5_time) (maxL := 5) (ret := (some .int)) (by decide) rfl (Nat.le_of_ble_eq_true rfl) ?_
  intro p e s m args below meth c ls Q hQ E hP hB hS hl
  have hl : lv_has ls 5 [(0, .ref (a 0 0)), (1, .int (i32 x1)), (2, .int (i32 x2)), (3, .int (i32 x3))] := hl
  have iX0 : ∀ w ∈ u_ws RX0 TX0 4, w ∈ wsX5_time := by decide +kernel
  have iX5 : ∀ w ∈ u_ws RX5 TX5 11, w ∈ wsX5_time := by decide +kernel
  have X : zX D B0 (zj (layC cA a G S) M) s.heap s.heap [] := ⟨hP, hS⟩
  have hI0 := hI.1
  unfold SI0 at hI0
  obtain ⟨b1, b2, b3, b4, b5, b8, b17, b19, b7⟩ := hI0
  unfold zr at hx1 hx2 hx3
  refine lv_aload_n E.1 E.2.1 dX5_time_0 rfl (lv_at hl 0 rfl) ?_
  refine lv_iload_n E.1 E.2.1 dX5_time_1 rfl (lv_at hl 1 rfl) ?_
  refine z_callV (As := [.int (i32 x1)]) (rest := []) (n := 1) E X (lC_0 M cA a G S) rfl (x_en l D cA B0 M a G S hI.1 x1 ⟨by omega, by omega⟩) gX5_time_X5_elementNumbered rfl (by decide +kernel) ⟨by decide, by decide⟩ rfl hl.1 rfl (Nat.le_of_ble_eq_true rfl) dX5_time_2 ⟨by decide, by decide⟩ X.1 0 0 ⟨rfl, rfl⟩ (fun v H locs hv hS_1 => ?_)
  obtain ⟨hv, hw⟩ := hv
  replace X : zX D B0 (zj (layC cA a G S) M) s.heap H locs := ⟨hw, hS_1⟩
  rcases hv with ⟨ea, rfl, he_3, rfl⟩ | ⟨hn_4, rfl⟩
  · refine lv_astore (lv' := [(4, .ref (a 10 ea)), (0, .ref (a 0 0)), (1, .int (i32 (ea : Int))), (2, .int (i32 x2)), (3, .int (i32 x3))]) E.1 E.2.1 dX5_time_5 hl (by decide) rfl (fun ls hl => ?_)
    refine lv_aload E.1 E.2.1 dX5_time_7 (lv_at hl 0 rfl) ?_
    refine lv_ifnonnull (tgt := 14) E.1 E.2.1 dX5_time_9 (by decide) ?_
    refine lv_aload_n E.1 E.2.1 dX5_time_14 rfl (lv_at hl 1 rfl) ?_
    refine z_get E X (lC_0 M cA a G S) rfl iX5 0 (by decide) (by decide +kernel) (v := .ref (a 1 0)) rfl dX5_time_15 ?_
    refine lv_iload_n E.1 E.2.1 dX5_time_18 rfl (lv_at hl 3 rfl) ?_
    refine lv_iload_n E.1 E.2.1 dX5_time_19 rfl (lv_at hl 4 rfl) ?_
    replace X := cl_in X
    refine z_callV (As := [.int (i32 x2), .int (i32 x3)]) (rest := []) (n := 2) E X (lL_0 _ cA (hL a) (TL S G)) rfl (L_holds l D cA B0 (zj (layC cA a G S) M) (hL a) (TL S G) ⟨b1, b2⟩ x2 x3 ⟨by omega, by omega⟩ ⟨by omega, by omega⟩) gX5_time_X1_holds rfl (by decide +kernel) ⟨by decide, by decide⟩ rfl hl.1 rfl (Nat.le_of_ble_eq_true rfl) dX5_time_20 ⟨by decide, by decide⟩ X.1 0 0 ⟨rfl, rfl⟩ (fun v H locs hv hS_5 => ?_)
    obtain ⟨⟨z_6, rfl, ez_6⟩, hw⟩ := hv
    replace X : zX D B0 (zj (layC cA a G S) M) s.heap H locs := cl_un ⟨hw, hS_5⟩
    replace ez_6 : z_6 = 1 ∧ (0 ≤ x2 ∧ x2 ≤ 50 ∧ S 1 0 ≤ x3 ∧ x3 ≤ S 1 0 + S 2 0) ∨ z_6 = 0 ∧ ¬ (0 ≤ x2 ∧ x2 ≤ 50 ∧ S 1 0 ≤ x3 ∧ x3 ≤ S 1 0 + S 2 0) := ez_6
    refine z_feq E 43 ⟨by omega, by omega⟩ dX5_time_23 (by decide) (fun h23_7 => ?_) (fun h23_7 => ?_)
    · refine z_bipush E dX5_time_43 (by decide +kernel) ?_
      have ef : fTime S (ea : Int) x2 x3 = (-2, S) := by
        unfold fTime
        try unfold fFind
        try simp only [Int.toNat_natCast]
        repeat' split
        all_goals first | rfl | (exfalso; omega)
      exact z_ret E X hQ (⟨(congrArg (fun w => some (Value.int (i32 w.1))) ef).symm, a, G, rfl, by rw [ef]; exact hG, by rw [ef]; exact X.1⟩) dX5_time_45
    · obtain ⟨x, rfl⟩ : ∃ x : Nat, x2 = (x : Int) := ⟨x2.toNat, by omega⟩
      obtain ⟨y, rfl⟩ : ∃ y : Nat, x3 = (y : Int) := ⟨x3.toNat, by omega⟩
      refine lv_aload_n E.1 E.2.1 dX5_time_26 rfl (lv_at hl 1 rfl) ?_
      refine z_get E X (lC_0 M cA a G S) rfl iX5 0 (by decide) (by decide +kernel) (v := .ref (a 1 0)) rfl dX5_time_27 ?_
      refine lv_aload E.1 E.2.1 dX5_time_30 (lv_at hl 0 rfl) ?_
      refine z_get E X (lC_10 M cA a G S ea (by omega)) rfl iX0 1 (by decide) (by decide +kernel) (v := .int (i32 (S 6 ea))) rfl dX5_time_32 ?_
      refine lv_iload_n E.1 E.2.1 dX5_time_35 rfl (lv_at hl 3 rfl) ?_
      refine lv_iload_n E.1 E.2.1 dX5_time_36 rfl (lv_at hl 4 rfl) ?_
      replace X := cl_in X
      have hLi := LI_of hI hG
      have h6_8 := hI.2.1 ea (by omega)
      refine z_callV (As := [.int (i32 (S 6 ea)), .int (i32 (x : Int)), .int (i32 (y : Int))]) (rest := []) (n := 3) E X (lL_0 _ cA (hL a) (TL S G)) rfl (L_timeTo l D cA B0 (zj (layC cA a G S) M) (hL a) (TL S G) (S 3 0) (SI_u hI) hLi (S 6 ea) (x : Int) (y : Int) h6_8 (by omega) (show S 1 0 ≤ (y : Int) ∧ (y : Int) ≤ S 1 0 + S 2 0 by omega)) gX5_time_X1_timeTo rfl (by decide +kernel) ⟨by decide, by decide⟩ rfl hl.1 rfl (Nat.le_of_ble_eq_true rfl) dX5_time_37 ⟨by decide, by decide⟩ X.1 0 0 ⟨rfl, rfl⟩ (fun v H locs hv hS_9 => ?_)
      obtain ⟨rfl, T_10, hLIT_10, hsT_10, hw⟩ := hv
      obtain ⟨G_11, hG, hgkG_11, X⟩ := cl_back hG ⟨hw, hS_9⟩ hLIT_10 hsT_10
      refine z_top (TM S ea x y) (TM_fb (S := S) (q := ea) (x := x) (y := y) h6_8.1).1.symm ?_
      have f_12 := TM_rng (S := S) (e := ea) (x := x) (y := y) hI.1 hI.2.1 (by omega) (by omega) (by omega)
      refine lv_goto (tgt := 45) E.1 E.2.1 dX5_time_40 (by decide) ?_
      have ef : fTime S (ea : Int) (x : Int) (y : Int) = (TM S ea x y, S) := by
        unfold fTime
        try unfold fFind
        try simp only [Int.toNat_natCast]
        repeat' split
        all_goals first | rfl | (exfalso; omega)
      exact z_ret E X hQ (⟨(congrArg (fun w => some (Value.int (i32 w.1))) ef).symm, a, G_11, rfl, by rw [ef]; exact hG, by rw [ef]; exact X.1⟩) dX5_time_45
  · refine lv_astoreN (lv' := [(4, .null), (0, .ref (a 0 0)), (1, .int (i32 x1)), (2, .int (i32 x2)), (3, .int (i32 x3))]) E.1 E.2.1 dX5_time_5 hl (by decide) rfl (fun ls hl => ?_)
    refine lv_aloadN E.1 E.2.1 dX5_time_7 (lv_at hl 0 rfl) ?_
    refine lv_ifnonnullN E.1 E.2.1 dX5_time_9 ?_
    refine z_iconst E dX5_time_12 ?_
    have ef : fTime S x1 x2 x3 = (-1, S) := by
      unfold fTime
      try unfold fFind
      try simp only [Int.toNat_natCast]
      repeat' split
      all_goals first | rfl | (exfalso; omega)
    exact z_ret E X hQ (⟨(congrArg (fun w => some (Value.int (i32 w.1))) ef).symm, a, G, rfl, by rw [ef]; exact hG, by rw [ef]; exact X.1⟩) dX5_time_13

abbrev rX5_bend : Room := { frames := 4, cells := 0, slots := 0, locals := 104 }
set_option maxHeartbeats 4000000 in
set_option maxRecDepth 100000 in
theorem X_bend (l : Launch) (D : va_G) (cA : Nat → ClassId) (B0 : Nat) (M : zL) (a : Nat → Nat → Nat) (G : zG) (S : zS) (hI : SI S) (hG : CG S G) (x1 x2 x3 : Int) (hx1 : zr x1) (hx2 : zr x2) (hx3 : zr x3) : zM l yX5_bend wsX5_bend rX5_bend [.ref (a 0 0), .int (i32 x1), .int (i32 x2), .int (i32 x3)] D cA B0 (zW D B0 (zj (layC cA a G S) M)) (fun v H => v = some (.int (i32 (fBend S x1 x2 x3).1)) ∧ ∃ (a2 : Nat → Nat → Nat) (G2 : zG), a2 0 0 = a 0 0 ∧ CG (fBend S x1 x2 x3).2 G2 ∧ zW D B0 (zj (layC cA a2 G2 (fBend S x1 x2 x3).2) M) H) := by
  refine z_met (cc := cX5_bend) (maxL := 5) (ret := (some .int)) (by decide) rfl (Nat.le_of_ble_eq_true rfl) ?_
  intro p e s m args below meth c ls Q hQ E hP hB hS hl
  have hl : lv_has ls 5 [(0, .ref (a 0 0)), (1, .int (i32 x1)), (2, .int (i32 x2)), (3, .int (i32 x3))] := hl
  have iX0 : ∀ w ∈ u_ws RX0 TX0 4, w ∈ wsX5_bend := by decide +kernel
  have iX5 : ∀ w ∈ u_ws RX5 TX5 11, w ∈ wsX5_bend := by decide +kernel
  have X : zX D B0 (zj (layC cA a G S) M) s.heap s.heap [] := ⟨hP, hS⟩
  have hI0 := hI.1
  unfold SI0 at hI0
  obtain ⟨b1, b2, b3, b4, b5, b8, b17, b19, b7⟩ := hI0
  unfold zr at hx1 hx2 hx3
  refine lv_aload_n E.1 E.2.1 dX5_bend_0 rfl (lv_at hl 0 rfl) ?_
  refine lv_iload_n E.1 E.2.1 dX5_bend_1 rfl (lv_at hl 1 rfl) ?_
  refine z_callV (As := [.int (i32 x1)]) (rest := []) (n := 1) E X (lC_0 M cA a G S) rfl (x_en l D cA B0 M a G S hI.1 x1 ⟨by omega, by omega⟩) gX5_bend_X5_elementNumbered rfl (by decide +kernel) ⟨by decide, by decide⟩ rfl hl.1 rfl (Nat.le_of_ble_eq_true rfl) dX5_bend_2 ⟨by decide, by decide⟩ X.1 0 0 ⟨rfl, rfl⟩ (fun v H locs hv hS_1 => ?_)
  obtain ⟨hv, hw⟩ := hv
  replace X : zX D B0 (zj (layC cA a G S) M) s.heap H locs := ⟨hw, hS_1⟩
  rcases hv with ⟨ea, rfl, he_3, rfl⟩ | ⟨hn_4, rfl⟩
  · refine lv_astore (lv' := [(4, .ref (a 10 ea)), (0, .ref (a 0 0)), (1, .int (i32 (ea : Int))), (2, .int (i32 x2)), (3, .int (i32 x3))]) E.1 E.2.1 dX5_bend_5 hl (by decide) rfl (fun ls hl => ?_)
    refine lv_aload E.1 E.2.1 dX5_bend_7 (lv_at hl 0 rfl) ?_
    refine lv_ifnonnull (tgt := 14) E.1 E.2.1 dX5_bend_9 (by decide) ?_
    refine lv_aload_n E.1 E.2.1 dX5_bend_14 rfl (lv_at hl 1 rfl) ?_
    refine z_get E X (lC_0 M cA a G S) rfl iX5 0 (by decide) (by decide +kernel) (v := .ref (a 1 0)) rfl dX5_bend_15 ?_
    refine lv_iload_n E.1 E.2.1 dX5_bend_18 rfl (lv_at hl 3 rfl) ?_
    refine lv_iload_n E.1 E.2.1 dX5_bend_19 rfl (lv_at hl 4 rfl) ?_
    replace X := cl_in X
    refine z_callV (As := [.int (i32 x2), .int (i32 x3)]) (rest := []) (n := 2) E X (lL_0 _ cA (hL a) (TL S G)) rfl (L_holds l D cA B0 (zj (layC cA a G S) M) (hL a) (TL S G) ⟨b1, b2⟩ x2 x3 ⟨by omega, by omega⟩ ⟨by omega, by omega⟩) gX5_bend_X1_holds rfl (by decide +kernel) ⟨by decide, by decide⟩ rfl hl.1 rfl (Nat.le_of_ble_eq_true rfl) dX5_bend_20 ⟨by decide, by decide⟩ X.1 0 0 ⟨rfl, rfl⟩ (fun v H locs hv hS_5 => ?_)
    obtain ⟨⟨z_6, rfl, ez_6⟩, hw⟩ := hv
    replace X : zX D B0 (zj (layC cA a G S) M) s.heap H locs := cl_un ⟨hw, hS_5⟩
    replace ez_6 : z_6 = 1 ∧ (0 ≤ x2 ∧ x2 ≤ 50 ∧ S 1 0 ≤ x3 ∧ x3 ≤ S 1 0 + S 2 0) ∨ z_6 = 0 ∧ ¬ (0 ≤ x2 ∧ x2 ≤ 50 ∧ S 1 0 ≤ x3 ∧ x3 ≤ S 1 0 + S 2 0) := ez_6
    refine z_feq E 43 ⟨by omega, by omega⟩ dX5_bend_23 (by decide) (fun h23_7 => ?_) (fun h23_7 => ?_)
    · refine z_bipush E dX5_bend_43 (by decide +kernel) ?_
      have ef : fBend S (ea : Int) x2 x3 = (-2, S) := by
        unfold fBend
        try unfold fFind
        try simp only [Int.toNat_natCast]
        repeat' split
        all_goals first | rfl | (exfalso; omega)
      exact z_ret E X hQ (⟨(congrArg (fun w => some (Value.int (i32 w.1))) ef).symm, a, G, rfl, by rw [ef]; exact hG, by rw [ef]; exact X.1⟩) dX5_bend_45
    · obtain ⟨x, rfl⟩ : ∃ x : Nat, x2 = (x : Int) := ⟨x2.toNat, by omega⟩
      obtain ⟨y, rfl⟩ : ∃ y : Nat, x3 = (y : Int) := ⟨x3.toNat, by omega⟩
      refine lv_aload_n E.1 E.2.1 dX5_bend_26 rfl (lv_at hl 1 rfl) ?_
      refine z_get E X (lC_0 M cA a G S) rfl iX5 0 (by decide) (by decide +kernel) (v := .ref (a 1 0)) rfl dX5_bend_27 ?_
      refine lv_aload E.1 E.2.1 dX5_bend_30 (lv_at hl 0 rfl) ?_
      refine z_get E X (lC_10 M cA a G S ea (by omega)) rfl iX0 1 (by decide) (by decide +kernel) (v := .int (i32 (S 6 ea))) rfl dX5_bend_32 ?_
      refine lv_iload_n E.1 E.2.1 dX5_bend_35 rfl (lv_at hl 3 rfl) ?_
      refine lv_iload_n E.1 E.2.1 dX5_bend_36 rfl (lv_at hl 4 rfl) ?_
      replace X := cl_in X
      have hLi := LI_of hI hG
      have h6_8 := hI.2.1 ea (by omega)
      refine z_callV (As := [.int (i32 (S 6 ea)), .int (i32 (x : Int)), .int (i32 (y : Int))]) (rest := []) (n := 3) E X (lL_0 _ cA (hL a) (TL S G)) rfl (L_bendTo l D cA B0 (zj (layC cA a G S) M) (hL a) (TL S G) (S 3 0) (SI_u hI) hLi (S 6 ea) (x : Int) (y : Int) h6_8 (by omega) (show S 1 0 ≤ (y : Int) ∧ (y : Int) ≤ S 1 0 + S 2 0 by omega)) gX5_bend_X1_bendTo rfl (by decide +kernel) ⟨by decide, by decide⟩ rfl hl.1 rfl (Nat.le_of_ble_eq_true rfl) dX5_bend_37 ⟨by decide, by decide⟩ X.1 0 0 ⟨rfl, rfl⟩ (fun v H locs hv hS_9 => ?_)
      obtain ⟨rfl, T_10, hLIT_10, hsT_10, hw⟩ := hv
      obtain ⟨G_11, hG, hgkG_11, X⟩ := cl_back hG ⟨hw, hS_9⟩ hLIT_10 hsT_10
      refine z_top (BD S ea x y) (TM_fb (S := S) (q := ea) (x := x) (y := y) h6_8.1).2.symm ?_
      refine lv_goto (tgt := 45) E.1 E.2.1 dX5_bend_40 (by decide) ?_
      have ef : fBend S (ea : Int) (x : Int) (y : Int) = (BD S ea x y, S) := by
        unfold fBend
        try unfold fFind
        try simp only [Int.toNat_natCast]
        repeat' split
        all_goals first | rfl | (exfalso; omega)
      exact z_ret E X hQ (⟨(congrArg (fun w => some (Value.int (i32 w.1))) ef).symm, a, G_11, rfl, by rw [ef]; exact hG, by rw [ef]; exact X.1⟩) dX5_bend_45
  · refine lv_astoreN (lv' := [(4, .null), (0, .ref (a 0 0)), (1, .int (i32 x1)), (2, .int (i32 x2)), (3, .int (i32 x3))]) E.1 E.2.1 dX5_bend_5 hl (by decide) rfl (fun ls hl => ?_)
    refine lv_aloadN E.1 E.2.1 dX5_bend_7 (lv_at hl 0 rfl) ?_
    refine lv_ifnonnullN E.1 E.2.1 dX5_bend_9 ?_
    refine z_iconst E dX5_bend_12 ?_
    have ef : fBend S x1 x2 x3 = (-1, S) := by
      unfold fBend
      try unfold fFind
      try simp only [Int.toNat_natCast]
      repeat' split
      all_goals first | rfl | (exfalso; omega)
    exact z_ret E X hQ (⟨(congrArg (fun w => some (Value.int (i32 w.1))) ef).symm, a, G, rfl, by rw [ef]; exact hG, by rw [ef]; exact X.1⟩) dX5_bend_13

abbrev rX5_echoTime : Room := { frames := 4, cells := 0, slots := 0, locals := 103 }
set_option maxHeartbeats 4000000 in
set_option maxRecDepth 100000 in
theorem X_echoTime (l : Launch) (D : va_G) (cA : Nat → ClassId) (B0 : Nat) (M : zL) (a : Nat → Nat → Nat) (G : zG) (S : zS) (hI : SI S) (hG : CG S G) (x1 x2 x3 : Int) (hx1 : zr x1) (hx2 : zr x2) (hx3 : zr x3) : zM l yX5_echoTime wsX5_echoTime rX5_echoTime [.ref (a 0 0), .int (i32 x1), .int (i32 x2), .int (i32 x3)] D cA B0 (zW D B0 (zj (layC cA a G S) M)) (fun v H => v = some (.int (i32 (fEchoTime S x1 x2 x3).1)) ∧ ∃ (a2 : Nat → Nat → Nat) (G2 : zG), a2 0 0 = a 0 0 ∧ CG (fEchoTime S x1 x2 x3).2 G2 ∧ zW D B0 (zj (layC cA a2 G2 (fEchoTime S x1 x2 x3).2) M) H) := by
  refine z_met (cc := cX5_echoTime) (maxL := 7) (ret := (some .int)) (by decide) rfl (Nat.le_of_ble_eq_true rfl) ?_
  intro p e s m args below meth c ls Q hQ E hP hB hS hl
  have hl : lv_has ls 7 [(0, .ref (a 0 0)), (1, .int (i32 x1)), (2, .int (i32 x2)), (3, .int (i32 x3))] := hl
  have X : zX D B0 (zj (layC cA a G S) M) s.heap s.heap [] := ⟨hP, hS⟩
  have hI0 := hI.1
  unfold SI0 at hI0
  obtain ⟨b1, b2, b3, b4, b5, b8, b17, b19, b7⟩ := hI0
  unfold zr at hx1 hx2 hx3
  refine lv_aload_n E.1 E.2.1 dX5_echoTime_0 rfl (lv_at hl 0 rfl) ?_
  refine lv_iload_n E.1 E.2.1 dX5_echoTime_1 rfl (lv_at hl 1 rfl) ?_
  refine z_callV (As := [.int (i32 x1)]) (rest := []) (n := 1) E X (lC_0 M cA a G S) rfl (x_en l D cA B0 M a G S hI.1 x1 ⟨by omega, by omega⟩) gX5_echoTime_X5_elementNumbered rfl (by decide +kernel) ⟨by decide, by decide⟩ rfl hl.1 rfl (Nat.le_of_ble_eq_true rfl) dX5_echoTime_2 ⟨by decide, by decide⟩ X.1 0 0 ⟨rfl, rfl⟩ (fun v H locs hv hS_1 => ?_)
  obtain ⟨hv, hw⟩ := hv
  replace X : zX D B0 (zj (layC cA a G S) M) s.heap H locs := ⟨hw, hS_1⟩
  rcases hv with ⟨ea, rfl, he_3, rfl⟩ | ⟨hn_4, rfl⟩
  · refine lv_astore (lv' := [(4, .ref (a 10 ea)), (0, .ref (a 0 0)), (1, .int (i32 (ea : Int))), (2, .int (i32 x2)), (3, .int (i32 x3))]) E.1 E.2.1 dX5_echoTime_5 hl (by decide) rfl (fun ls hl => ?_)
    refine lv_aload_n E.1 E.2.1 dX5_echoTime_7 rfl (lv_at hl 1 rfl) ?_
    refine lv_iload_n E.1 E.2.1 dX5_echoTime_8 rfl (lv_at hl 3 rfl) ?_
    refine z_callV (As := [.int (i32 x2)]) (rest := []) (n := 1) E X (lC_0 M cA a G S) rfl (x_en l D cA B0 M a G S hI.1 x2 ⟨by omega, by omega⟩) gX5_echoTime_X5_elementNumbered rfl (by decide +kernel) ⟨by decide, by decide⟩ rfl hl.1 rfl (Nat.le_of_ble_eq_true rfl) dX5_echoTime_9 ⟨by decide, by decide⟩ X.1 0 0 ⟨rfl, rfl⟩ (fun v H locs hv hS_5 => ?_)
    obtain ⟨hv, hw⟩ := hv
    replace X : zX D B0 (zj (layC cA a G S) M) s.heap H locs := ⟨hw, hS_5⟩
    rcases hv with ⟨eb, rfl, he_7, rfl⟩ | ⟨hn_8, rfl⟩
    · refine lv_astore (lv' := [(5, .ref (a 10 eb)), (4, .ref (a 10 ea)), (0, .ref (a 0 0)), (1, .int (i32 (ea : Int))), (2, .int (i32 (eb : Int))), (3, .int (i32 x3))]) E.1 E.2.1 dX5_echoTime_12 hl (by decide) rfl (fun ls hl => ?_)
      refine lv_aload_n E.1 E.2.1 dX5_echoTime_14 rfl (lv_at hl 2 rfl) ?_
      refine lv_iload_n E.1 E.2.1 dX5_echoTime_15 rfl (lv_at hl 5 rfl) ?_
      refine z_callV (As := [.int (i32 x3)]) (rest := []) (n := 1) E X (lC_0 M cA a G S) rfl (x_tn l D cA B0 M a G S hI.1 x3 ⟨by omega, by omega⟩) gX5_echoTime_X5_targetNumbered rfl (by decide +kernel) ⟨by decide, by decide⟩ rfl hl.1 rfl (Nat.le_of_ble_eq_true rfl) dX5_echoTime_16 ⟨by decide, by decide⟩ X.1 0 0 ⟨rfl, rfl⟩ (fun v H locs hv hS_9 => ?_)
      obtain ⟨hv, hw⟩ := hv
      replace X : zX D B0 (zj (layC cA a G S) M) s.heap H locs := ⟨hw, hS_9⟩
      rcases hv with ⟨t, rfl, he_11, rfl⟩ | ⟨hn_12, rfl⟩
      · refine lv_astore (lv' := [(6, .ref (a 12 t)), (5, .ref (a 10 eb)), (4, .ref (a 10 ea)), (0, .ref (a 0 0)), (1, .int (i32 (ea : Int))), (2, .int (i32 (eb : Int))), (3, .int (i32 (t : Int)))]) E.1 E.2.1 dX5_echoTime_19 hl (by decide) rfl (fun ls hl => ?_)
        refine lv_aload E.1 E.2.1 dX5_echoTime_21 (lv_at hl 2 rfl) ?_
        refine lv_ifnull E.1 E.2.1 dX5_echoTime_23 ?_
        refine lv_aload E.1 E.2.1 dX5_echoTime_26 (lv_at hl 1 rfl) ?_
        refine lv_ifnull E.1 E.2.1 dX5_echoTime_28 ?_
        refine lv_aload E.1 E.2.1 dX5_echoTime_31 (lv_at hl 0 rfl) ?_
        refine lv_ifnonnull (tgt := 38) E.1 E.2.1 dX5_echoTime_33 (by decide) ?_
        refine lv_aload_n E.1 E.2.1 dX5_echoTime_38 rfl (lv_at hl 3 rfl) ?_
        refine lv_aload E.1 E.2.1 dX5_echoTime_39 (lv_at hl 2 rfl) ?_
        refine lv_aload E.1 E.2.1 dX5_echoTime_41 (lv_at hl 1 rfl) ?_
        refine lv_aload E.1 E.2.1 dX5_echoTime_43 (lv_at hl 0 rfl) ?_
        refine z_callV (As := [.ref (a 10 ea), .ref (a 10 eb), .ref (a 12 t)]) (rest := []) (n := 3) E X (lC_0 M cA a G S) rfl (x_echoTimeBy l D cA B0 M a G S hI hG ea eb t (by omega) (by omega) (by omega)) gX5_echoTime_X5_echoTimeBy rfl (by decide +kernel) ⟨by decide, by decide⟩ rfl hl.1 rfl (Nat.le_of_ble_eq_true rfl) dX5_echoTime_45 ⟨by decide, by decide⟩ X.1 0 0 ⟨rfl, rfl⟩ (fun v H locs hv hS_13 => ?_)
        obtain ⟨rfl, G_14, hG, hw⟩ := hv
        replace X : zX D B0 (zj (layC cA a G_14 S) M) s.heap H locs := ⟨hw, hS_13⟩
        have f_15 := ET_rng (a := ea) (b := eb) (t := t) hI (by omega) (by omega) (by omega)
        have ef : fEchoTime S (ea : Int) (eb : Int) (t : Int) = (ET S ea eb t, S) := by
          unfold fEchoTime
          try unfold fFind
          try simp only [Int.toNat_natCast]
          repeat' split
          all_goals first | rfl | (exfalso; omega)
        exact z_ret E X hQ (⟨(congrArg (fun w => some (Value.int (i32 w.1))) ef).symm, a, G_14, rfl, by rw [ef]; exact hG, by rw [ef]; exact X.1⟩) dX5_echoTime_48
      · refine lv_astoreN (lv' := [(6, .null), (5, .ref (a 10 eb)), (4, .ref (a 10 ea)), (0, .ref (a 0 0)), (1, .int (i32 (ea : Int))), (2, .int (i32 (eb : Int))), (3, .int (i32 x3))]) E.1 E.2.1 dX5_echoTime_19 hl (by decide) rfl (fun ls hl => ?_)
        refine lv_aload E.1 E.2.1 dX5_echoTime_21 (lv_at hl 2 rfl) ?_
        refine lv_ifnull E.1 E.2.1 dX5_echoTime_23 ?_
        refine lv_aload E.1 E.2.1 dX5_echoTime_26 (lv_at hl 1 rfl) ?_
        refine lv_ifnull E.1 E.2.1 dX5_echoTime_28 ?_
        refine lv_aloadN E.1 E.2.1 dX5_echoTime_31 (lv_at hl 0 rfl) ?_
        refine lv_ifnonnullN E.1 E.2.1 dX5_echoTime_33 ?_
        refine z_iconst E dX5_echoTime_36 ?_
        have ef : fEchoTime S (ea : Int) (eb : Int) x3 = (-1, S) := by
          unfold fEchoTime
          try unfold fFind
          try simp only [Int.toNat_natCast]
          repeat' split
          all_goals first | rfl | (exfalso; omega)
        exact z_ret E X hQ (⟨(congrArg (fun w => some (Value.int (i32 w.1))) ef).symm, a, G, rfl, by rw [ef]; exact hG, by rw [ef]; exact X.1⟩) dX5_echoTime_37
    · refine lv_astoreN (lv' := [(5, .null), (4, .ref (a 10 ea)), (0, .ref (a 0 0)), (1, .int (i32 (ea : Int))), (2, .int (i32 x2)), (3, .int (i32 x3))]) E.1 E.2.1 dX5_echoTime_12 hl (by decide) rfl (fun ls hl => ?_)
      refine lv_aload_n E.1 E.2.1 dX5_echoTime_14 rfl (lv_at hl 2 rfl) ?_
      refine lv_iload_n E.1 E.2.1 dX5_echoTime_15 rfl (lv_at hl 5 rfl) ?_
      refine z_callV (As := [.int (i32 x3)]) (rest := []) (n := 1) E X (lC_0 M cA a G S) rfl (x_tn l D cA B0 M a G S hI.1 x3 ⟨by omega, by omega⟩) gX5_echoTime_X5_targetNumbered rfl (by decide +kernel) ⟨by decide, by decide⟩ rfl hl.1 rfl (Nat.le_of_ble_eq_true rfl) dX5_echoTime_16 ⟨by decide, by decide⟩ X.1 0 0 ⟨rfl, rfl⟩ (fun v H locs hv hS_16 => ?_)
      obtain ⟨hv, hw⟩ := hv
      replace X : zX D B0 (zj (layC cA a G S) M) s.heap H locs := ⟨hw, hS_16⟩
      rcases hv with ⟨t, rfl, he_18, rfl⟩ | ⟨hn_19, rfl⟩
      · refine lv_astore (lv' := [(6, .ref (a 12 t)), (5, .null), (4, .ref (a 10 ea)), (0, .ref (a 0 0)), (1, .int (i32 (ea : Int))), (2, .int (i32 x2)), (3, .int (i32 (t : Int)))]) E.1 E.2.1 dX5_echoTime_19 hl (by decide) rfl (fun ls hl => ?_)
        refine lv_aload E.1 E.2.1 dX5_echoTime_21 (lv_at hl 2 rfl) ?_
        refine lv_ifnull E.1 E.2.1 dX5_echoTime_23 ?_
        refine lv_aloadN E.1 E.2.1 dX5_echoTime_26 (lv_at hl 1 rfl) ?_
        refine lv_ifnullN (tgt := 36) E.1 E.2.1 dX5_echoTime_28 (by decide) ?_
        refine z_iconst E dX5_echoTime_36 ?_
        have ef : fEchoTime S (ea : Int) x2 (t : Int) = (-1, S) := by
          unfold fEchoTime
          try unfold fFind
          try simp only [Int.toNat_natCast]
          repeat' split
          all_goals first | rfl | (exfalso; omega)
        exact z_ret E X hQ (⟨(congrArg (fun w => some (Value.int (i32 w.1))) ef).symm, a, G, rfl, by rw [ef]; exact hG, by rw [ef]; exact X.1⟩) dX5_echoTime_37
      · refine lv_astoreN (lv' := [(6, .null), (5, .null), (4, .ref (a 10 ea)), (0, .ref (a 0 0)), (1, .int (i32 (ea : Int))), (2, .int (i32 x2)), (3, .int (i32 x3))]) E.1 E.2.1 dX5_echoTime_19 hl (by decide) rfl (fun ls hl => ?_)
        refine lv_aload E.1 E.2.1 dX5_echoTime_21 (lv_at hl 2 rfl) ?_
        refine lv_ifnull E.1 E.2.1 dX5_echoTime_23 ?_
        refine lv_aloadN E.1 E.2.1 dX5_echoTime_26 (lv_at hl 1 rfl) ?_
        refine lv_ifnullN (tgt := 36) E.1 E.2.1 dX5_echoTime_28 (by decide) ?_
        refine z_iconst E dX5_echoTime_36 ?_
        have ef : fEchoTime S (ea : Int) x2 x3 = (-1, S) := by
          unfold fEchoTime
          try unfold fFind
          try simp only [Int.toNat_natCast]
          repeat' split
          all_goals first | rfl | (exfalso; omega)
        exact z_ret E X hQ (⟨(congrArg (fun w => some (Value.int (i32 w.1))) ef).symm, a, G, rfl, by rw [ef]; exact hG, by rw [ef]; exact X.1⟩) dX5_echoTime_37
  · refine lv_astoreN (lv' := [(4, .null), (0, .ref (a 0 0)), (1, .int (i32 x1)), (2, .int (i32 x2)), (3, .int (i32 x3))]) E.1 E.2.1 dX5_echoTime_5 hl (by decide) rfl (fun ls hl => ?_)
    refine lv_aload_n E.1 E.2.1 dX5_echoTime_7 rfl (lv_at hl 1 rfl) ?_
    refine lv_iload_n E.1 E.2.1 dX5_echoTime_8 rfl (lv_at hl 3 rfl) ?_
    refine z_callV (As := [.int (i32 x2)]) (rest := []) (n := 1) E X (lC_0 M cA a G S) rfl (x_en l D cA B0 M a G S hI.1 x2 ⟨by omega, by omega⟩) gX5_echoTime_X5_elementNumbered rfl (by decide +kernel) ⟨by decide, by decide⟩ rfl hl.1 rfl (Nat.le_of_ble_eq_true rfl) dX5_echoTime_9 ⟨by decide, by decide⟩ X.1 0 0 ⟨rfl, rfl⟩ (fun v H locs hv hS_20 => ?_)
    obtain ⟨hv, hw⟩ := hv
    replace X : zX D B0 (zj (layC cA a G S) M) s.heap H locs := ⟨hw, hS_20⟩
    rcases hv with ⟨eb, rfl, he_22, rfl⟩ | ⟨hn_23, rfl⟩
    · refine lv_astore (lv' := [(5, .ref (a 10 eb)), (4, .null), (0, .ref (a 0 0)), (1, .int (i32 x1)), (2, .int (i32 (eb : Int))), (3, .int (i32 x3))]) E.1 E.2.1 dX5_echoTime_12 hl (by decide) rfl (fun ls hl => ?_)
      refine lv_aload_n E.1 E.2.1 dX5_echoTime_14 rfl (lv_at hl 2 rfl) ?_
      refine lv_iload_n E.1 E.2.1 dX5_echoTime_15 rfl (lv_at hl 5 rfl) ?_
      refine z_callV (As := [.int (i32 x3)]) (rest := []) (n := 1) E X (lC_0 M cA a G S) rfl (x_tn l D cA B0 M a G S hI.1 x3 ⟨by omega, by omega⟩) gX5_echoTime_X5_targetNumbered rfl (by decide +kernel) ⟨by decide, by decide⟩ rfl hl.1 rfl (Nat.le_of_ble_eq_true rfl) dX5_echoTime_16 ⟨by decide, by decide⟩ X.1 0 0 ⟨rfl, rfl⟩ (fun v H locs hv hS_24 => ?_)
      obtain ⟨hv, hw⟩ := hv
      replace X : zX D B0 (zj (layC cA a G S) M) s.heap H locs := ⟨hw, hS_24⟩
      rcases hv with ⟨t, rfl, he_26, rfl⟩ | ⟨hn_27, rfl⟩
      · refine lv_astore (lv' := [(6, .ref (a 12 t)), (5, .ref (a 10 eb)), (4, .null), (0, .ref (a 0 0)), (1, .int (i32 x1)), (2, .int (i32 (eb : Int))), (3, .int (i32 (t : Int)))]) E.1 E.2.1 dX5_echoTime_19 hl (by decide) rfl (fun ls hl => ?_)
        refine lv_aloadN E.1 E.2.1 dX5_echoTime_21 (lv_at hl 2 rfl) ?_
        refine lv_ifnullN (tgt := 36) E.1 E.2.1 dX5_echoTime_23 (by decide) ?_
        refine z_iconst E dX5_echoTime_36 ?_
        have ef : fEchoTime S x1 (eb : Int) (t : Int) = (-1, S) := by
          unfold fEchoTime
          try unfold fFind
          try simp only [Int.toNat_natCast]
          repeat' split
          all_goals first | rfl | (exfalso; omega)
        exact z_ret E X hQ (⟨(congrArg (fun w => some (Value.int (i32 w.1))) ef).symm, a, G, rfl, by rw [ef]; exact hG, by rw [ef]; exact X.1⟩) dX5_echoTime_37
      · refine lv_astoreN (lv' := [(6, .null), (5, .ref (a 10 eb)), (4, .null), (0, .ref (a 0 0)), (1, .int (i32 x1)), (2, .int (i32 (eb : Int))), (3, .int (i32 x3))]) E.1 E.2.1 dX5_echoTime_19 hl (by decide) rfl (fun ls hl => ?_)
        refine lv_aloadN E.1 E.2.1 dX5_echoTime_21 (lv_at hl 2 rfl) ?_
        refine lv_ifnullN (tgt := 36) E.1 E.2.1 dX5_echoTime_23 (by decide) ?_
        refine z_iconst E dX5_echoTime_36 ?_
        have ef : fEchoTime S x1 (eb : Int) x3 = (-1, S) := by
          unfold fEchoTime
          try unfold fFind
          try simp only [Int.toNat_natCast]
          repeat' split
          all_goals first | rfl | (exfalso; omega)
        exact z_ret E X hQ (⟨(congrArg (fun w => some (Value.int (i32 w.1))) ef).symm, a, G, rfl, by rw [ef]; exact hG, by rw [ef]; exact X.1⟩) dX5_echoTime_37
    · refine lv_astoreN (lv' := [(5, .null), (4, .null), (0, .ref (a 0 0)), (1, .int (i32 x1)), (2, .int (i32 x2)), (3, .int (i32 x3))]) E.1 E.2.1 dX5_echoTime_12 hl (by decide) rfl (fun ls hl => ?_)
      refine lv_aload_n E.1 E.2.1 dX5_echoTime_14 rfl (lv_at hl 2 rfl) ?_
      refine lv_iload_n E.1 E.2.1 dX5_echoTime_15 rfl (lv_at hl 5 rfl) ?_
      refine z_callV (As := [.int (i32 x3)]) (rest := []) (n := 1) E X (lC_0 M cA a G S) rfl (x_tn l D cA B0 M a G S hI.1 x3 ⟨by omega, by omega⟩) gX5_echoTime_X5_targetNumbered rfl (by decide +kernel) ⟨by decide, by decide⟩ rfl hl.1 rfl (Nat.le_of_ble_eq_true rfl) dX5_echoTime_16 ⟨by decide, by decide⟩ X.1 0 0 ⟨rfl, rfl⟩ (fun v H locs hv hS_28 => ?_)
      obtain ⟨hv, hw⟩ := hv
      replace X : zX D B0 (zj (layC cA a G S) M) s.heap H locs := ⟨hw, hS_28⟩
      rcases hv with ⟨t, rfl, he_30, rfl⟩ | ⟨hn_31, rfl⟩
      · refine lv_astore (lv' := [(6, .ref (a 12 t)), (5, .null), (4, .null), (0, .ref (a 0 0)), (1, .int (i32 x1)), (2, .int (i32 x2)), (3, .int (i32 (t : Int)))]) E.1 E.2.1 dX5_echoTime_19 hl (by decide) rfl (fun ls hl => ?_)
        refine lv_aloadN E.1 E.2.1 dX5_echoTime_21 (lv_at hl 2 rfl) ?_
        refine lv_ifnullN (tgt := 36) E.1 E.2.1 dX5_echoTime_23 (by decide) ?_
        refine z_iconst E dX5_echoTime_36 ?_
        have ef : fEchoTime S x1 x2 (t : Int) = (-1, S) := by
          unfold fEchoTime
          try unfold fFind
          try simp only [Int.toNat_natCast]
          repeat' split
          all_goals first | rfl | (exfalso; omega)
        exact z_ret E X hQ (⟨(congrArg (fun w => some (Value.int (i32 w.1))) ef).symm, a, G, rfl, by rw [ef]; exact hG, by rw [ef]; exact X.1⟩) dX5_echoTime_37
      · refine lv_astoreN (lv' := [(6, .null), (5, .null), (4, .null), (0, .ref (a 0 0)), (1, .int (i32 x1)), (2, .int (i32 x2)), (3, .int (i32 x3))]) E.1 E.2.1 dX5_echoTime_19 hl (by decide) rfl (fun ls hl => ?_)
        refine lv_aloadN E.1 E.2.1 dX5_echoTime_21 (lv_at hl 2 rfl) ?_
        refine lv_ifnullN (tgt := 36) E.1 E.2.1 dX5_echoTime_23 (by decide) ?_
        refine z_iconst E dX5_echoTime_36 ?_
        have ef : fEchoTime S x1 x2 x3 = (-1, S) := by
          unfold fEchoTime
          try unfold fFind
          try simp only [Int.toNat_natCast]
          repeat' split
          all_goals first | rfl | (exfalso; omega)
        exact z_ret E X hQ (⟨(congrArg (fun w => some (Value.int (i32 w.1))) ef).symm, a, G, rfl, by rw [ef]; exact hG, by rw [ef]; exact X.1⟩) dX5_echoTime_37

abbrev rX5_echo : Room := { frames := 5, cells := 0, slots := 0, locals := 132 }
set_option maxHeartbeats 4000000 in
set_option maxRecDepth 100000 in
theorem X_echo (l : Launch) (D : va_G) (cA : Nat → ClassId) (B0 : Nat) (M : zL) (a : Nat → Nat → Nat) (G : zG) (S : zS) (hI : SI S) (hG : CG S G) (x1 x2 x3 : Int) (hx1 : zr x1) (hx2 : zr x2) (hx3 : zr x3) : zM l yX5_echo wsX5_echo rX5_echo [.ref (a 0 0), .int (i32 x1), .int (i32 x2), .int (i32 x3)] D cA B0 (zW D B0 (zj (layC cA a G S) M)) (fun v H => v = some (.int (i32 (fEcho S x1 x2 x3).1)) ∧ ∃ (a2 : Nat → Nat → Nat) (G2 : zG), a2 0 0 = a 0 0 ∧ CG (fEcho S x1 x2 x3).2 G2 ∧ zW D B0 (zj (layC cA a2 G2 (fEcho S x1 x2 x3).2) M) H) := by
  refine z_met (cc := cX5_echo) (maxL := 6) (ret := (some .int)) (by decide) rfl (Nat.le_of_ble_eq_true rfl) ?_
  intro p e s m args below meth c ls Q hQ E hP hB hS hl
  have hl : lv_has ls 6 [(0, .ref (a 0 0)), (1, .int (i32 x1)), (2, .int (i32 x2)), (3, .int (i32 x3))] := hl
  have X : zX D B0 (zj (layC cA a G S) M) s.heap s.heap [] := ⟨hP, hS⟩
  have hI0 := hI.1
  unfold SI0 at hI0
  obtain ⟨b1, b2, b3, b4, b5, b8, b17, b19, b7⟩ := hI0
  unfold zr at hx1 hx2 hx3
  refine lv_aload_n E.1 E.2.1 dX5_echo_0 rfl (lv_at hl 0 rfl) ?_
  refine lv_iload_n E.1 E.2.1 dX5_echo_1 rfl (lv_at hl 1 rfl) ?_
  refine z_callV (As := [.int (i32 x1)]) (rest := []) (n := 1) E X (lC_0 M cA a G S) rfl (x_en l D cA B0 M a G S hI.1 x1 ⟨by omega, by omega⟩) gX5_echo_X5_elementNumbered rfl (by decide +kernel) ⟨by decide, by decide⟩ rfl hl.1 rfl (Nat.le_of_ble_eq_true rfl) dX5_echo_2 ⟨by decide, by decide⟩ X.1 0 0 ⟨rfl, rfl⟩ (fun v H locs hv hS_1 => ?_)
  obtain ⟨hv, hw⟩ := hv
  replace X : zX D B0 (zj (layC cA a G S) M) s.heap H locs := ⟨hw, hS_1⟩
  rcases hv with ⟨ea, rfl, he_3, rfl⟩ | ⟨hn_4, rfl⟩
  · refine lv_astore (lv' := [(4, .ref (a 10 ea)), (0, .ref (a 0 0)), (1, .int (i32 (ea : Int))), (2, .int (i32 x2)), (3, .int (i32 x3))]) E.1 E.2.1 dX5_echo_5 hl (by decide) rfl (fun ls hl => ?_)
    refine lv_aload_n E.1 E.2.1 dX5_echo_7 rfl (lv_at hl 1 rfl) ?_
    refine lv_iload_n E.1 E.2.1 dX5_echo_8 rfl (lv_at hl 3 rfl) ?_
    refine z_callV (As := [.int (i32 x2)]) (rest := []) (n := 1) E X (lC_0 M cA a G S) rfl (x_en l D cA B0 M a G S hI.1 x2 ⟨by omega, by omega⟩) gX5_echo_X5_elementNumbered rfl (by decide +kernel) ⟨by decide, by decide⟩ rfl hl.1 rfl (Nat.le_of_ble_eq_true rfl) dX5_echo_9 ⟨by decide, by decide⟩ X.1 0 0 ⟨rfl, rfl⟩ (fun v H locs hv hS_5 => ?_)
    obtain ⟨hv, hw⟩ := hv
    replace X : zX D B0 (zj (layC cA a G S) M) s.heap H locs := ⟨hw, hS_5⟩
    rcases hv with ⟨eb, rfl, he_7, rfl⟩ | ⟨hn_8, rfl⟩
    · refine lv_astore (lv' := [(5, .ref (a 10 eb)), (4, .ref (a 10 ea)), (0, .ref (a 0 0)), (1, .int (i32 (ea : Int))), (2, .int (i32 (eb : Int))), (3, .int (i32 x3))]) E.1 E.2.1 dX5_echo_12 hl (by decide) rfl (fun ls hl => ?_)
      refine lv_aload E.1 E.2.1 dX5_echo_14 (lv_at hl 1 rfl) ?_
      refine lv_ifnull E.1 E.2.1 dX5_echo_16 ?_
      refine lv_aload E.1 E.2.1 dX5_echo_19 (lv_at hl 0 rfl) ?_
      refine lv_ifnonnull (tgt := 26) E.1 E.2.1 dX5_echo_21 (by decide) ?_
      refine lv_aload_n E.1 E.2.1 dX5_echo_26 rfl (lv_at hl 2 rfl) ?_
      refine lv_aload E.1 E.2.1 dX5_echo_27 (lv_at hl 1 rfl) ?_
      refine lv_aload E.1 E.2.1 dX5_echo_29 (lv_at hl 0 rfl) ?_
      refine lv_iload_n E.1 E.2.1 dX5_echo_31 rfl (lv_at hl 5 rfl) ?_
      refine z_i2l E ⟨by omega, by omega⟩ dX5_echo_32 ?_
      refine z_callV (As := [.ref (a 10 ea), .ref (a 10 eb), .long (i64 x3)]) (rest := []) (n := 3) E X (lC_0 M cA a G S) rfl (x_echoAt l D cA B0 M a G S hI hG ea eb x3 (by omega) (by omega) (by unfold zrl; omega)) gX5_echo_X5_echoAt rfl (by decide +kernel) ⟨by decide, by decide⟩ rfl hl.1 rfl (Nat.le_of_ble_eq_true rfl) dX5_echo_33 ⟨by decide, by decide⟩ X.1 0 0 ⟨rfl, rfl⟩ (fun v H locs hv hS_9 => ?_)
      obtain ⟨rfl, G_10, hG, hw⟩ := hv
      replace X : zX D B0 (zj (layC cA a G_10 S) M) s.heap H locs := ⟨hw, hS_9⟩
      have f_11 := EC_rng (a := ea) (b := eb) (tick := x3) hI
      have ef : fEcho S (ea : Int) (eb : Int) x3 = (EC S ea eb x3, S) := by
        unfold fEcho
        try unfold fFind
        try simp only [Int.toNat_natCast]
        repeat' split
        all_goals first | rfl | (exfalso; omega)
      exact z_ret E X hQ (⟨(congrArg (fun w => some (Value.int (i32 w.1))) ef).symm, a, G_10, rfl, by rw [ef]; exact hG, by rw [ef]; exact X.1⟩) dX5_echo_36
    · refine lv_astoreN (lv' := [(5, .null), (4, .ref (a 10 ea)), (0, .ref (a 0 0)), (1, .int (i32 (ea : Int))), (2, .int (i32 x2)), (3, .int (i32 x3))]) E.1 E.2.1 dX5_echo_12 hl (by decide) rfl (fun ls hl => ?_)
      refine lv_aload E.1 E.2.1 dX5_echo_14 (lv_at hl 1 rfl) ?_
      refine lv_ifnull E.1 E.2.1 dX5_echo_16 ?_
      refine lv_aloadN E.1 E.2.1 dX5_echo_19 (lv_at hl 0 rfl) ?_
      refine lv_ifnonnullN E.1 E.2.1 dX5_echo_21 ?_
      refine z_iconst E dX5_echo_24 ?_
      have ef : fEcho S (ea : Int) x2 x3 = (-1, S) := by
        unfold fEcho
        try unfold fFind
        try simp only [Int.toNat_natCast]
        repeat' split
        all_goals first | rfl | (exfalso; omega)
      exact z_ret E X hQ (⟨(congrArg (fun w => some (Value.int (i32 w.1))) ef).symm, a, G, rfl, by rw [ef]; exact hG, by rw [ef]; exact X.1⟩) dX5_echo_25
  · refine lv_astoreN (lv' := [(4, .null), (0, .ref (a 0 0)), (1, .int (i32 x1)), (2, .int (i32 x2)), (3, .int (i32 x3))]) E.1 E.2.1 dX5_echo_5 hl (by decide) rfl (fun ls hl => ?_)
    refine lv_aload_n E.1 E.2.1 dX5_echo_7 rfl (lv_at hl 1 rfl) ?_
    refine lv_iload_n E.1 E.2.1 dX5_echo_8 rfl (lv_at hl 3 rfl) ?_
    refine z_callV (As := [.int (i32 x2)]) (rest := []) (n := 1) E X (lC_0 M cA a G S) rfl (x_en l D cA B0 M a G S hI.1 x2 ⟨by omega, by omega⟩) gX5_echo_X5_elementNumbered rfl (by decide +kernel) ⟨by decide, by decide⟩ rfl hl.1 rfl (Nat.le_of_ble_eq_true rfl) dX5_echo_9 ⟨by decide, by decide⟩ X.1 0 0 ⟨rfl, rfl⟩ (fun v H locs hv hS_12 => ?_)
    obtain ⟨hv, hw⟩ := hv
    replace X : zX D B0 (zj (layC cA a G S) M) s.heap H locs := ⟨hw, hS_12⟩
    rcases hv with ⟨eb, rfl, he_14, rfl⟩ | ⟨hn_15, rfl⟩
    · refine lv_astore (lv' := [(5, .ref (a 10 eb)), (4, .null), (0, .ref (a 0 0)), (1, .int (i32 x1)), (2, .int (i32 (eb : Int))), (3, .int (i32 x3))]) E.1 E.2.1 dX5_echo_12 hl (by decide) rfl (fun ls hl => ?_)
      refine lv_aloadN E.1 E.2.1 dX5_echo_14 (lv_at hl 1 rfl) ?_
      refine lv_ifnullN (tgt := 24) E.1 E.2.1 dX5_echo_16 (by decide) ?_
      refine z_iconst E dX5_echo_24 ?_
      have ef : fEcho S x1 (eb : Int) x3 = (-1, S) := by
        unfold fEcho
        try unfold fFind
        try simp only [Int.toNat_natCast]
        repeat' split
        all_goals first | rfl | (exfalso; omega)
      exact z_ret E X hQ (⟨(congrArg (fun w => some (Value.int (i32 w.1))) ef).symm, a, G, rfl, by rw [ef]; exact hG, by rw [ef]; exact X.1⟩) dX5_echo_25
    · refine lv_astoreN (lv' := [(5, .null), (4, .null), (0, .ref (a 0 0)), (1, .int (i32 x1)), (2, .int (i32 x2)), (3, .int (i32 x3))]) E.1 E.2.1 dX5_echo_12 hl (by decide) rfl (fun ls hl => ?_)
      refine lv_aloadN E.1 E.2.1 dX5_echo_14 (lv_at hl 1 rfl) ?_
      refine lv_ifnullN (tgt := 24) E.1 E.2.1 dX5_echo_16 (by decide) ?_
      refine z_iconst E dX5_echo_24 ?_
      have ef : fEcho S x1 x2 x3 = (-1, S) := by
        unfold fEcho
        try unfold fFind
        try simp only [Int.toNat_natCast]
        repeat' split
        all_goals first | rfl | (exfalso; omega)
      exact z_ret E X hQ (⟨(congrArg (fun w => some (Value.int (i32 w.1))) ef).symm, a, G, rfl, by rw [ef]; exact hG, by rw [ef]; exact X.1⟩) dX5_echo_25

abbrev rX5_taken : Room := { frames := 2, cells := 0, slots := 0, locals := 41 }
set_option maxHeartbeats 4000000 in
set_option maxRecDepth 100000 in
theorem X_taken (l : Launch) (D : va_G) (cA : Nat → ClassId) (B0 : Nat) (M : zL) (a : Nat → Nat → Nat) (G : zG) (S : zS) (hI : SI S) (hG : CG S G) (x1 x2 x3 : Int) (hx1 : zr x1) (hx2 : zr x2) (hx3 : zr x3) : zM l yX5_taken wsX5_taken rX5_taken [.ref (a 0 0), .int (i32 x1), .int (i32 x2), .int (i32 x3)] D cA B0 (zW D B0 (zj (layC cA a G S) M)) (fun v H => v = some (.int (i32 (fTaken S x1 x2 x3).1)) ∧ ∃ (a2 : Nat → Nat → Nat) (G2 : zG), a2 0 0 = a 0 0 ∧ CG (fTaken S x1 x2 x3).2 G2 ∧ zW D B0 (zj (layC cA a2 G2 (fTaken S x1 x2 x3).2) M) H) := by
  refine z_met (cc := cX5_taken) (maxL := 5) (ret := (some .int)) (by decide) rfl (Nat.le_of_ble_eq_true rfl) ?_
  intro p e s m args below meth c ls Q hQ E hP hB hS hl
  have hl : lv_has ls 5 [(0, .ref (a 0 0)), (1, .int (i32 x1)), (2, .int (i32 x2)), (3, .int (i32 x3))] := hl
  have iX3 : ∀ w ∈ u_ws RX3 TX3 6, w ∈ wsX5_taken := by decide +kernel
  have X : zX D B0 (zj (layC cA a G S) M) s.heap s.heap [] := ⟨hP, hS⟩
  have hI0 := hI.1
  unfold SI0 at hI0
  obtain ⟨b1, b2, b3, b4, b5, b8, b17, b19, b7⟩ := hI0
  unfold zr at hx1 hx2 hx3
  refine lv_aload_n E.1 E.2.1 dX5_taken_0 rfl (lv_at hl 0 rfl) ?_
  refine lv_iload_n E.1 E.2.1 dX5_taken_1 rfl (lv_at hl 1 rfl) ?_
  refine z_callV (As := [.int (i32 x1)]) (rest := []) (n := 1) E X (lC_0 M cA a G S) rfl (x_tn l D cA B0 M a G S hI.1 x1 ⟨by omega, by omega⟩) gX5_taken_X5_targetNumbered rfl (by decide +kernel) ⟨by decide, by decide⟩ rfl hl.1 rfl (Nat.le_of_ble_eq_true rfl) dX5_taken_2 ⟨by decide, by decide⟩ X.1 0 0 ⟨rfl, rfl⟩ (fun v H locs hv hS_1 => ?_)
  obtain ⟨hv, hw⟩ := hv
  replace X : zX D B0 (zj (layC cA a G S) M) s.heap H locs := ⟨hw, hS_1⟩
  rcases hv with ⟨t, rfl, he_3, rfl⟩ | ⟨hn_4, rfl⟩
  · refine lv_astore (lv' := [(4, .ref (a 12 t)), (0, .ref (a 0 0)), (1, .int (i32 (t : Int))), (2, .int (i32 x2)), (3, .int (i32 x3))]) E.1 E.2.1 dX5_taken_5 hl (by decide) rfl (fun ls hl => ?_)
    refine lv_aload E.1 E.2.1 dX5_taken_7 (lv_at hl 0 rfl) ?_
    refine lv_ifnonnull (tgt := 14) E.1 E.2.1 dX5_taken_9 (by decide) ?_
    have ht2 := hI.2.2.1 t (by omega)
    refine lv_iload_n E.1 E.2.1 dX5_taken_14 rfl (lv_at hl 3 rfl) ?_
    refine z_iconst E dX5_taken_15 ?_
    refine z_iconst E dX5_taken_16 ?_
    refine z_callJ (As := [.int (i32 x2), .int (i32 0), .int (i32 2)]) (rest := []) (n := 3) E X (c_outside l D cA B0 _ x2 0 2 ⟨by omega, by omega⟩ ⟨by omega, by omega⟩ ⟨by omega, by omega⟩) gX5_taken_X5_outside rfl (by decide +kernel) ⟨by decide, by decide⟩ rfl hl.1 rfl (Nat.le_of_ble_eq_true rfl) dX5_taken_17 ⟨by decide, by decide⟩ rfl 0 0 ⟨rfl, rfl⟩ (fun v H locs hv hS_5 => ?_)
    obtain ⟨hH, z_6, rfl, ez_6⟩ := hv
    subst hH
    replace X := X.same hS_5
    refine z_fne E 40 ⟨by omega, by omega⟩ dX5_taken_20 (by decide) (fun h20_7 => ?_) (fun h20_7 => ?_)
    · refine z_bipush E dX5_taken_40 (by decide +kernel) ?_
      have ef : fTaken S (t : Int) x2 x3 = (-2, S) := by
        unfold fTaken
        try unfold fFind
        try simp only [Int.toNat_natCast]
        repeat' split
        all_goals first | rfl | (exfalso; omega)
      exact z_ret E X hQ (⟨(congrArg (fun w => some (Value.int (i32 w.1))) ef).symm, a, G, rfl, by rw [ef]; exact hG, by rw [ef]; exact X.1⟩) dX5_taken_42
    · refine lv_iload_n E.1 E.2.1 dX5_taken_23 rfl (lv_at hl 4 rfl) ?_
      refine z_iconst E dX5_taken_24 ?_
      refine lv_iload_n E.1 E.2.1 dX5_taken_25 rfl (lv_at hl 3 rfl) ?_
      refine z_fne E 33 ⟨by omega, by omega⟩ dX5_taken_26 (by decide) (fun h26_8 => ?_) (fun h26_8 => ?_)
      · refine z_iconst E dX5_taken_33 ?_
        refine z_callJ (As := [.int (i32 x3), .int (i32 0), .int (i32 3)]) (rest := []) (n := 3) E X (c_outside l D cA B0 _ x3 0 3 ⟨by omega, by omega⟩ ⟨by omega, by omega⟩ ⟨by omega, by omega⟩) gX5_taken_X5_outside rfl (by decide +kernel) ⟨by decide, by decide⟩ rfl hl.1 rfl (Nat.le_of_ble_eq_true rfl) dX5_taken_34 ⟨by decide, by decide⟩ rfl 0 0 ⟨rfl, rfl⟩ (fun v H locs hv hS_9 => ?_)
        obtain ⟨hH, z_10, rfl, ez_10⟩ := hv
        subst hH
        replace X := X.same hS_9
        refine z_feq E 43 ⟨by omega, by omega⟩ dX5_taken_37 (by decide) (fun h37_11 => ?_) (fun h37_11 => ?_)
        · refine lv_aload E.1 E.2.1 dX5_taken_43 (lv_at hl 0 rfl) ?_
          refine z_get E X (lC_12 M cA a G S t (by omega)) rfl iX3 0 (by decide) (by decide +kernel) (v := .int (i32 (S 9 t))) rfl dX5_taken_45 ?_
          refine lv_iload_n E.1 E.2.1 dX5_taken_48 rfl (lv_at hl 3 rfl) ?_
          refine z_cge E 59 ⟨by omega, by omega⟩ ⟨by omega, by omega⟩ dX5_taken_49 (by decide) (fun h49_12 => ?_) (fun h49_12 => ?_)
          · refine lv_iload_n E.1 E.2.1 dX5_taken_59 rfl (lv_at hl 4 rfl) ?_
            by_cases ht_13 : x3 = 0
            · subst ht_13
              refine z_tabI E 28 88 dX5_taken_60 ⟨by omega, by omega⟩ (by omega) (by omega) (by decide) (by decide) ?_
              refine lv_aload E.1 E.2.1 dX5_taken_88 (lv_at hl 0 rfl) ?_
              refine z_get E X (lC_12 M cA a G S t (by omega)) rfl iX3 4 (by decide) (by decide +kernel) (v := .int (i32 (S 13 t))) rfl dX5_taken_90 ?_
              have ef : fTaken S (t : Int) x2 0 = (S 13 t, S) := by
                unfold fTaken
                simp only [Int.toNat_natCast]
                rw [if_neg (by omega), if_neg (by omega), if_neg (by omega)]
                rfl
              exact z_ret E X hQ (⟨(congrArg (fun w => some (Value.int (i32 w.1))) ef).symm, a, G, rfl, by rw [ef]; exact hG, by rw [ef]; exact X.1⟩) dX5_taken_93
            by_cases ht_14 : x3 = 1
            · subst ht_14
              refine z_tabI E 34 94 dX5_taken_60 ⟨by omega, by omega⟩ (by omega) (by omega) (by decide) (by decide) ?_
              refine lv_aload E.1 E.2.1 dX5_taken_94 (lv_at hl 0 rfl) ?_
              refine z_get E X (lC_12 M cA a G S t (by omega)) rfl iX3 1 (by decide) (by decide +kernel) (v := .int (i32 (S 10 t))) rfl dX5_taken_96 ?_
              have ef : fTaken S (t : Int) x2 1 = (S 10 t, S) := by
                unfold fTaken
                simp only [Int.toNat_natCast]
                rw [if_neg (by omega), if_neg (by omega), if_neg (by omega)]
                rfl
              exact z_ret E X hQ (⟨(congrArg (fun w => some (Value.int (i32 w.1))) ef).symm, a, G, rfl, by rw [ef]; exact hG, by rw [ef]; exact X.1⟩) dX5_taken_99
            by_cases ht_15 : x3 = 2
            · subst ht_15
              refine z_tabI E 40 100 dX5_taken_60 ⟨by omega, by omega⟩ (by omega) (by omega) (by decide) (by decide) ?_
              refine lv_aload_n E.1 E.2.1 dX5_taken_100 rfl (lv_at hl 1 rfl) ?_
              refine lv_aload E.1 E.2.1 dX5_taken_101 (lv_at hl 0 rfl) ?_
              refine z_callV (As := [.ref (a 12 t)]) (rest := []) (n := 1) E X (lC_0 M cA a G S) rfl (x_depthOf l D cA B0 M a G S hI hG t (by omega)) gX5_taken_X5_depthOf rfl (by decide +kernel) ⟨by decide, by decide⟩ rfl hl.1 rfl (Nat.le_of_ble_eq_true rfl) dX5_taken_103 ⟨by decide, by decide⟩ X.1 0 0 ⟨rfl, rfl⟩ (fun v H locs hv hS_16 => ?_)
              obtain ⟨rfl, hw⟩ := hv
              replace X : zX D B0 (zj (layC cA a G S) M) s.heap H locs := ⟨hw, hS_16⟩
              have f_17 := dep_rng (t := t) hI (by omega)
              have ef : fTaken S (t : Int) x2 2 = (dep S t, S) := by
                unfold fTaken
                simp only [Int.toNat_natCast]
                rw [if_neg (by omega), if_neg (by omega), if_neg (by omega)]
                rfl
              exact z_ret E X hQ (⟨(congrArg (fun w => some (Value.int (i32 w.1))) ef).symm, a, G, rfl, by rw [ef]; exact hG, by rw [ef]; exact X.1⟩) dX5_taken_106
            refine z_tabO E 107 dX5_taken_60 ⟨by omega, by omega⟩ (by omega) (by decide) ?_
            refine lv_aload E.1 E.2.1 dX5_taken_107 (lv_at hl 0 rfl) ?_
            refine z_get E X (lC_12 M cA a G S t (by omega)) rfl iX3 2 (by decide) (by decide +kernel) (v := .int (i32 (S 11 t))) rfl dX5_taken_109 ?_
            have ef : fTaken S (t : Int) x2 x3 = (S 11 t, S) := by
              unfold fTaken
              simp only [Int.toNat_natCast]
              rw [if_neg (by omega), if_neg (by omega), if_neg (by omega)]
              rw [if_neg (by omega), if_neg (by omega), if_neg (by omega)]
            exact z_ret E X hQ (⟨(congrArg (fun w => some (Value.int (i32 w.1))) ef).symm, a, G, rfl, by rw [ef]; exact hG, by rw [ef]; exact X.1⟩) dX5_taken_112
          · refine lv_aload_n E.1 E.2.1 dX5_taken_52 rfl (lv_at hl 1 rfl) ?_
            refine z_bipush E dX5_taken_53 (by decide +kernel) ?_
            refine z_callV (As := [.int (i32 (-13))]) (rest := []) (n := 1) E X (lC_0 M cA a G S) rfl (x_found l D cA B0 M a G S (-13)) gX5_taken_X5_found rfl (by decide +kernel) ⟨by decide, by decide⟩ rfl hl.1 rfl (Nat.le_of_ble_eq_true rfl) dX5_taken_55 ⟨by decide, by decide⟩ X.1 0 0 ⟨rfl, rfl⟩ (fun v H locs hv hS_18 => ?_)
            obtain ⟨rfl, hw⟩ := hv
            replace X : zX D B0 (zj (layC cA a G (zs S 27 0 (S 27 0 + 1))) M) s.heap H locs := ⟨hw, hS_18⟩
            have ef : fTaken S (t : Int) x2 x3 = (-13, zs S 27 0 (S 27 0 + 1)) := by
              unfold fTaken
              try unfold fFind
              try simp only [Int.toNat_natCast]
              repeat' split
              all_goals first | rfl | (exfalso; omega)
            exact z_ret E X hQ (⟨(congrArg (fun w => some (Value.int (i32 w.1))) ef).symm, a, G, rfl, by rw [ef]; exact CG_27 hG, by rw [ef]; exact X.1⟩) dX5_taken_58
        · refine z_bipush E dX5_taken_40 (by decide +kernel) ?_
          have ef : fTaken S (t : Int) x2 x3 = (-2, S) := by
            unfold fTaken
            try unfold fFind
            try simp only [Int.toNat_natCast]
            repeat' split
            all_goals first | rfl | (exfalso; omega)
          exact z_ret E X hQ (⟨(congrArg (fun w => some (Value.int (i32 w.1))) ef).symm, a, G, rfl, by rw [ef]; exact hG, by rw [ef]; exact X.1⟩) dX5_taken_42
      · refine z_iconst E dX5_taken_29 ?_
        refine lv_goto (tgt := 34) E.1 E.2.1 dX5_taken_30 (by decide) ?_
        refine z_callJ (As := [.int (i32 x3), .int (i32 0), .int (i32 2)]) (rest := []) (n := 3) E X (c_outside l D cA B0 _ x3 0 2 ⟨by omega, by omega⟩ ⟨by omega, by omega⟩ ⟨by omega, by omega⟩) gX5_taken_X5_outside rfl (by decide +kernel) ⟨by decide, by decide⟩ rfl hl.1 rfl (Nat.le_of_ble_eq_true rfl) dX5_taken_34 ⟨by decide, by decide⟩ rfl 0 0 ⟨rfl, rfl⟩ (fun v H locs hv hS_19 => ?_)
        obtain ⟨hH, z_20, rfl, ez_20⟩ := hv
        subst hH
        replace X := X.same hS_19
        refine z_feq E 43 ⟨by omega, by omega⟩ dX5_taken_37 (by decide) (fun h37_21 => ?_) (fun h37_21 => ?_)
        · refine lv_aload E.1 E.2.1 dX5_taken_43 (lv_at hl 0 rfl) ?_
          refine z_get E X (lC_12 M cA a G S t (by omega)) rfl iX3 0 (by decide) (by decide +kernel) (v := .int (i32 (S 9 t))) rfl dX5_taken_45 ?_
          refine lv_iload_n E.1 E.2.1 dX5_taken_48 rfl (lv_at hl 3 rfl) ?_
          refine z_cge E 59 ⟨by omega, by omega⟩ ⟨by omega, by omega⟩ dX5_taken_49 (by decide) (fun h49_22 => ?_) (fun h49_22 => ?_)
          · refine lv_iload_n E.1 E.2.1 dX5_taken_59 rfl (lv_at hl 4 rfl) ?_
            by_cases ht_23 : x3 = 0
            · subst ht_23
              refine z_tabI E 28 88 dX5_taken_60 ⟨by omega, by omega⟩ (by omega) (by omega) (by decide) (by decide) ?_
              refine lv_aload E.1 E.2.1 dX5_taken_88 (lv_at hl 0 rfl) ?_
              refine z_get E X (lC_12 M cA a G S t (by omega)) rfl iX3 4 (by decide) (by decide +kernel) (v := .int (i32 (S 13 t))) rfl dX5_taken_90 ?_
              have ef : fTaken S (t : Int) x2 0 = (S 13 t, S) := by
                unfold fTaken
                simp only [Int.toNat_natCast]
                rw [if_neg (by omega), if_neg (by omega), if_neg (by omega)]
                rfl
              exact z_ret E X hQ (⟨(congrArg (fun w => some (Value.int (i32 w.1))) ef).symm, a, G, rfl, by rw [ef]; exact hG, by rw [ef]; exact X.1⟩) dX5_taken_93
            by_cases ht_24 : x3 = 1
            · subst ht_24
              refine z_tabI E 34 94 dX5_taken_60 ⟨by omega, by omega⟩ (by omega) (by omega) (by decide) (by decide) ?_
              refine lv_aload E.1 E.2.1 dX5_taken_94 (lv_at hl 0 rfl) ?_
              refine z_get E X (lC_12 M cA a G S t (by omega)) rfl iX3 1 (by decide) (by decide +kernel) (v := .int (i32 (S 10 t))) rfl dX5_taken_96 ?_
              have ef : fTaken S (t : Int) x2 1 = (S 10 t, S) := by
                unfold fTaken
                simp only [Int.toNat_natCast]
                rw [if_neg (by omega), if_neg (by omega), if_neg (by omega)]
                rfl
              exact z_ret E X hQ (⟨(congrArg (fun w => some (Value.int (i32 w.1))) ef).symm, a, G, rfl, by rw [ef]; exact hG, by rw [ef]; exact X.1⟩) dX5_taken_99
            by_cases ht_25 : x3 = 2
            · subst ht_25
              refine z_tabI E 40 100 dX5_taken_60 ⟨by omega, by omega⟩ (by omega) (by omega) (by decide) (by decide) ?_
              refine lv_aload_n E.1 E.2.1 dX5_taken_100 rfl (lv_at hl 1 rfl) ?_
              refine lv_aload E.1 E.2.1 dX5_taken_101 (lv_at hl 0 rfl) ?_
              refine z_callV (As := [.ref (a 12 t)]) (rest := []) (n := 1) E X (lC_0 M cA a G S) rfl (x_depthOf l D cA B0 M a G S hI hG t (by omega)) gX5_taken_X5_depthOf rfl (by decide +kernel) ⟨by decide, by decide⟩ rfl hl.1 rfl (Nat.le_of_ble_eq_true rfl) dX5_taken_103 ⟨by decide, by decide⟩ X.1 0 0 ⟨rfl, rfl⟩ (fun v H locs hv hS_26 => ?_)
              obtain ⟨rfl, hw⟩ := hv
              replace X : zX D B0 (zj (layC cA a G S) M) s.heap H locs := ⟨hw, hS_26⟩
              have f_27 := dep_rng (t := t) hI (by omega)
              have ef : fTaken S (t : Int) x2 2 = (dep S t, S) := by
                unfold fTaken
                simp only [Int.toNat_natCast]
                rw [if_neg (by omega), if_neg (by omega), if_neg (by omega)]
                rfl
              exact z_ret E X hQ (⟨(congrArg (fun w => some (Value.int (i32 w.1))) ef).symm, a, G, rfl, by rw [ef]; exact hG, by rw [ef]; exact X.1⟩) dX5_taken_106
            refine z_tabO E 107 dX5_taken_60 ⟨by omega, by omega⟩ (by omega) (by decide) ?_
            refine lv_aload E.1 E.2.1 dX5_taken_107 (lv_at hl 0 rfl) ?_
            refine z_get E X (lC_12 M cA a G S t (by omega)) rfl iX3 2 (by decide) (by decide +kernel) (v := .int (i32 (S 11 t))) rfl dX5_taken_109 ?_
            have ef : fTaken S (t : Int) x2 x3 = (S 11 t, S) := by
              unfold fTaken
              simp only [Int.toNat_natCast]
              rw [if_neg (by omega), if_neg (by omega), if_neg (by omega)]
              rw [if_neg (by omega), if_neg (by omega), if_neg (by omega)]
            exact z_ret E X hQ (⟨(congrArg (fun w => some (Value.int (i32 w.1))) ef).symm, a, G, rfl, by rw [ef]; exact hG, by rw [ef]; exact X.1⟩) dX5_taken_112
          · refine lv_aload_n E.1 E.2.1 dX5_taken_52 rfl (lv_at hl 1 rfl) ?_
            refine z_bipush E dX5_taken_53 (by decide +kernel) ?_
            refine z_callV (As := [.int (i32 (-13))]) (rest := []) (n := 1) E X (lC_0 M cA a G S) rfl (x_found l D cA B0 M a G S (-13)) gX5_taken_X5_found rfl (by decide +kernel) ⟨by decide, by decide⟩ rfl hl.1 rfl (Nat.le_of_ble_eq_true rfl) dX5_taken_55 ⟨by decide, by decide⟩ X.1 0 0 ⟨rfl, rfl⟩ (fun v H locs hv hS_28 => ?_)
            obtain ⟨rfl, hw⟩ := hv
            replace X : zX D B0 (zj (layC cA a G (zs S 27 0 (S 27 0 + 1))) M) s.heap H locs := ⟨hw, hS_28⟩
            have ef : fTaken S (t : Int) x2 x3 = (-13, zs S 27 0 (S 27 0 + 1)) := by
              unfold fTaken
              try unfold fFind
              try simp only [Int.toNat_natCast]
              repeat' split
              all_goals first | rfl | (exfalso; omega)
            exact z_ret E X hQ (⟨(congrArg (fun w => some (Value.int (i32 w.1))) ef).symm, a, G, rfl, by rw [ef]; exact CG_27 hG, by rw [ef]; exact X.1⟩) dX5_taken_58
        · refine z_bipush E dX5_taken_40 (by decide +kernel) ?_
          have ef : fTaken S (t : Int) x2 x3 = (-2, S) := by
            unfold fTaken
            try unfold fFind
            try simp only [Int.toNat_natCast]
            repeat' split
            all_goals first | rfl | (exfalso; omega)
          exact z_ret E X hQ (⟨(congrArg (fun w => some (Value.int (i32 w.1))) ef).symm, a, G, rfl, by rw [ef]; exact hG, by rw [ef]; exact X.1⟩) dX5_taken_42
  · refine lv_astoreN (lv' := [(4, .null), (0, .ref (a 0 0)), (1, .int (i32 x1)), (2, .int (i32 x2)), (3, .int (i32 x3))]) E.1 E.2.1 dX5_taken_5 hl (by decide) rfl (fun ls hl => ?_)
    refine lv_aloadN E.1 E.2.1 dX5_taken_7 (lv_at hl 0 rfl) ?_
    refine lv_ifnonnullN E.1 E.2.1 dX5_taken_9 ?_
    refine z_iconst E dX5_taken_12 ?_
    have ef : fTaken S x1 x2 x3 = (-1, S) := by
      unfold fTaken
      try unfold fFind
      try simp only [Int.toNat_natCast]
      repeat' split
      all_goals first | rfl | (exfalso; omega)
    exact z_ret E X hQ (⟨(congrArg (fun w => some (Value.int (i32 w.1))) ef).symm, a, G, rfl, by rw [ef]; exact hG, by rw [ef]; exact X.1⟩) dX5_taken_13

abbrev rX5_delay : Room := { frames := 1, cells := 0, slots := 0, locals := 21 }
set_option maxHeartbeats 4000000 in
set_option maxRecDepth 100000 in
theorem X_delay (l : Launch) (D : va_G) (cA : Nat → ClassId) (B0 : Nat) (M : zL) (a : Nat → Nat → Nat) (G : zG) (S : zS) (hI : SI S) (hG : CG S G) (x1 : Int) (hx1 : zr x1) : zM l yX5_delay wsX5_delay rX5_delay [.ref (a 0 0), .int (i32 x1)] D cA B0 (zW D B0 (zj (layC cA a G S) M)) (fun v H => v = some (.int (i32 (fDelay S x1).1)) ∧ ∃ (a2 : Nat → Nat → Nat) (G2 : zG), a2 0 0 = a 0 0 ∧ CG (fDelay S x1).2 G2 ∧ zW D B0 (zj (layC cA a2 G2 (fDelay S x1).2) M) H) := by
  refine z_met (cc := cX5_delay) (maxL := 3) (ret := (some .int)) (by decide) rfl (Nat.le_of_ble_eq_true rfl) ?_
  intro p e s m args below meth c ls Q hQ E hP hB hS hl
  have hl : lv_has ls 3 [(0, .ref (a 0 0)), (1, .int (i32 x1))] := hl
  have iX0 : ∀ w ∈ u_ws RX0 TX0 4, w ∈ wsX5_delay := by decide +kernel
  have iX5 : ∀ w ∈ u_ws RX5 TX5 11, w ∈ wsX5_delay := by decide +kernel
  have X : zX D B0 (zj (layC cA a G S) M) s.heap s.heap [] := ⟨hP, hS⟩
  have hI0 := hI.1
  unfold SI0 at hI0
  obtain ⟨b1, b2, b3, b4, b5, b8, b17, b19, b7⟩ := hI0
  unfold zr at hx1
  refine lv_aload_n E.1 E.2.1 dX5_delay_0 rfl (lv_at hl 0 rfl) ?_
  refine lv_iload_n E.1 E.2.1 dX5_delay_1 rfl (lv_at hl 1 rfl) ?_
  refine z_callV (As := [.int (i32 x1)]) (rest := []) (n := 1) E X (lC_0 M cA a G S) rfl (x_en l D cA B0 M a G S hI.1 x1 ⟨by omega, by omega⟩) gX5_delay_X5_elementNumbered rfl (by decide +kernel) ⟨by decide, by decide⟩ rfl hl.1 rfl (Nat.le_of_ble_eq_true rfl) dX5_delay_2 ⟨by decide, by decide⟩ X.1 0 0 ⟨rfl, rfl⟩ (fun v H locs hv hS_1 => ?_)
  obtain ⟨hv, hw⟩ := hv
  replace X : zX D B0 (zj (layC cA a G S) M) s.heap H locs := ⟨hw, hS_1⟩
  rcases hv with ⟨ea, rfl, he_3, rfl⟩ | ⟨hn_4, rfl⟩
  · refine lv_astore_n (lv' := [(2, .ref (a 10 ea)), (0, .ref (a 0 0)), (1, .int (i32 (ea : Int)))]) E.1 E.2.1 dX5_delay_5 rfl hl (by decide) rfl (fun ls hl => ?_)
    refine lv_aload_n E.1 E.2.1 dX5_delay_6 rfl (lv_at hl 0 rfl) ?_
    refine lv_ifnonnull (tgt := 12) E.1 E.2.1 dX5_delay_7 (by decide) ?_
    refine lv_aload_n E.1 E.2.1 dX5_delay_12 rfl (lv_at hl 1 rfl) ?_
    refine z_get E X (lC_0 M cA a G S) rfl iX5 10 (by decide) (by decide +kernel) (v := .int (i32 (S 17 0))) rfl dX5_delay_13 ?_
    refine z_fne E 22 ⟨by omega, by omega⟩ dX5_delay_16 (by decide) (fun h16_5 => ?_) (fun h16_5 => ?_)
    · have l1 := b7 ea
      refine lv_aload_n E.1 E.2.1 dX5_delay_22 rfl (lv_at hl 0 rfl) ?_
      refine z_get E X (lC_10 M cA a G S ea (by omega)) rfl iX0 2 (by decide) (by decide +kernel) (v := .int (i32 (1 - S 7 ea))) rfl dX5_delay_23 ?_
      refine z_feq E 36 ⟨by omega, by omega⟩ dX5_delay_26 (by decide) (fun h26_6 => ?_) (fun h26_6 => ?_)
      · refine z_ldc (v := (-99999)) (z := -99999) E (by decide +kernel) (by decide +kernel) dX5_delay_36 ?_
        have ef : fDelay S (ea : Int) = (-99999, S) := by
          unfold fDelay
          try unfold fFind
          try simp only [Int.toNat_natCast]
          repeat' split
          all_goals first | rfl | (exfalso; omega)
        exact z_ret E X hQ (⟨(congrArg (fun w => some (Value.int (i32 w.1))) ef).symm, a, G, rfl, by rw [ef]; exact hG, by rw [ef]; exact X.1⟩) dX5_delay_38
      · refine lv_aload_n E.1 E.2.1 dX5_delay_29 rfl (lv_at hl 0 rfl) ?_
        refine z_get E X (lC_10 M cA a G S ea (by omega)) rfl iX0 3 (by decide) (by decide +kernel) (v := .int (i32 (G 10 ea 0))) rfl dX5_delay_30 ?_
        refine z_top (S 18 ea) (hG.2.2.2.2.2.1 (by omega) ea (by omega) (by omega)) ?_
        refine lv_goto (tgt := 38) E.1 E.2.1 dX5_delay_33 (by decide) ?_
        have ef : fDelay S (ea : Int) = (S 18 ea, S) := by
          unfold fDelay
          try unfold fFind
          try simp only [Int.toNat_natCast]
          repeat' split
          all_goals first | rfl | (exfalso; omega)
        exact z_ret E X hQ (⟨(congrArg (fun w => some (Value.int (i32 w.1))) ef).symm, a, G, rfl, by rw [ef]; exact hG, by rw [ef]; exact X.1⟩) dX5_delay_38
    · refine z_bipush E dX5_delay_19 (by decide +kernel) ?_
      have ef : fDelay S (ea : Int) = (-3, S) := by
        unfold fDelay
        try unfold fFind
        try simp only [Int.toNat_natCast]
        repeat' split
        all_goals first | rfl | (exfalso; omega)
      exact z_ret E X hQ (⟨(congrArg (fun w => some (Value.int (i32 w.1))) ef).symm, a, G, rfl, by rw [ef]; exact hG, by rw [ef]; exact X.1⟩) dX5_delay_21
  · refine lv_astore_nN (lv' := [(2, .null), (0, .ref (a 0 0)), (1, .int (i32 x1))]) E.1 E.2.1 dX5_delay_5 rfl hl (by decide) rfl (fun ls hl => ?_)
    refine lv_aload_nN E.1 E.2.1 dX5_delay_6 rfl (lv_at hl 0 rfl) ?_
    refine lv_ifnonnullN E.1 E.2.1 dX5_delay_7 ?_
    refine z_iconst E dX5_delay_10 ?_
    have ef : fDelay S x1 = (-1, S) := by
      unfold fDelay
      try unfold fFind
      try simp only [Int.toNat_natCast]
      repeat' split
      all_goals first | rfl | (exfalso; omega)
    exact z_ret E X hQ (⟨(congrArg (fun w => some (Value.int (i32 w.1))) ef).symm, a, G, rfl, by rw [ef]; exact hG, by rw [ef]; exact X.1⟩) dX5_delay_11

abbrev rX5_heard : Room := { frames := 6, cells := 0, slots := 0, locals := 160 }
set_option maxHeartbeats 4000000 in
set_option maxRecDepth 100000 in
theorem X_heard (l : Launch) (D : va_G) (cA : Nat → ClassId) (B0 : Nat) (M : zL) (a : Nat → Nat → Nat) (G : zG) (S : zS) (hI : SI S) (hG : CG S G) (x1 x2 : Int) (hx1 : zr x1) (hx2 : zr x2) : zM l yX5_heard wsX5_heard rX5_heard [.ref (a 0 0), .int (i32 x1), .int (i32 x2)] D cA B0 (zW D B0 (zj (layC cA a G S) M)) (fun v H => v = some (.int (i32 (fHeard S x1 x2).1)) ∧ ∃ (a2 : Nat → Nat → Nat) (G2 : zG), a2 0 0 = a 0 0 ∧ CG (fHeard S x1 x2).2 G2 ∧ zW D B0 (zj (layC cA a2 G2 (fHeard S x1 x2).2) M) H) := by
  refine z_met (cc := cX5_heard) (maxL := 4) (ret := (some .int)) (by decide) rfl (Nat.le_of_ble_eq_true rfl) ?_
  intro p e s m args below meth c ls Q hQ E hP hB hS hl
  have hl : lv_has ls 4 [(0, .ref (a 0 0)), (1, .int (i32 x1)), (2, .int (i32 x2))] := hl
  have iX5 : ∀ w ∈ u_ws RX5 TX5 11, w ∈ wsX5_heard := by decide +kernel
  have X : zX D B0 (zj (layC cA a G S) M) s.heap s.heap [] := ⟨hP, hS⟩
  have hI0 := hI.1
  unfold SI0 at hI0
  obtain ⟨b1, b2, b3, b4, b5, b8, b17, b19, b7⟩ := hI0
  unfold zr at hx1 hx2
  refine lv_aload_n E.1 E.2.1 dX5_heard_0 rfl (lv_at hl 0 rfl) ?_
  refine lv_iload_n E.1 E.2.1 dX5_heard_1 rfl (lv_at hl 1 rfl) ?_
  refine z_callV (As := [.int (i32 x1)]) (rest := []) (n := 1) E X (lC_0 M cA a G S) rfl (x_en l D cA B0 M a G S hI.1 x1 ⟨by omega, by omega⟩) gX5_heard_X5_elementNumbered rfl (by decide +kernel) ⟨by decide, by decide⟩ rfl hl.1 rfl (Nat.le_of_ble_eq_true rfl) dX5_heard_2 ⟨by decide, by decide⟩ X.1 0 0 ⟨rfl, rfl⟩ (fun v H locs hv hS_1 => ?_)
  obtain ⟨hv, hw⟩ := hv
  replace X : zX D B0 (zj (layC cA a G S) M) s.heap H locs := ⟨hw, hS_1⟩
  rcases hv with ⟨ea, rfl, he_3, rfl⟩ | ⟨hn_4, rfl⟩
  · refine lv_astore_n (lv' := [(3, .ref (a 10 ea)), (0, .ref (a 0 0)), (1, .int (i32 (ea : Int))), (2, .int (i32 x2))]) E.1 E.2.1 dX5_heard_5 rfl hl (by decide) rfl (fun ls hl => ?_)
    refine lv_aload_n E.1 E.2.1 dX5_heard_6 rfl (lv_at hl 0 rfl) ?_
    refine lv_ifnonnull (tgt := 12) E.1 E.2.1 dX5_heard_7 (by decide) ?_
    refine lv_aload_n E.1 E.2.1 dX5_heard_12 rfl (lv_at hl 1 rfl) ?_
    refine z_get E X (lC_0 M cA a G S) rfl iX5 10 (by decide) (by decide +kernel) (v := .int (i32 (S 17 0))) rfl dX5_heard_13 ?_
    refine z_feq E 29 ⟨by omega, by omega⟩ dX5_heard_16 (by decide) (fun h16_5 => ?_) (fun h16_5 => ?_)
    · refine z_bipush E dX5_heard_29 (by decide +kernel) ?_
      have ef : fHeard S (ea : Int) x2 = (-3, S) := by
        unfold fHeard
        try unfold fFind
        try simp only [Int.toNat_natCast]
        repeat' split
        all_goals first | rfl | (exfalso; omega)
      exact z_ret E X hQ (⟨(congrArg (fun w => some (Value.int (i32 w.1))) ef).symm, a, G, rfl, by rw [ef]; exact hG, by rw [ef]; exact X.1⟩) dX5_heard_31
    · have hfo : S 17 0 = 1 := by omega
      refine lv_aload_n E.1 E.2.1 dX5_heard_19 rfl (lv_at hl 1 rfl) ?_
      refine lv_aload_n E.1 E.2.1 dX5_heard_20 rfl (lv_at hl 0 rfl) ?_
      refine lv_iload_n E.1 E.2.1 dX5_heard_21 rfl (lv_at hl 3 rfl) ?_
      refine z_i2l E ⟨by omega, by omega⟩ dX5_heard_22 ?_
      refine z_callV (As := [.ref (a 10 ea), .long (i64 x2)]) (rest := []) (n := 2) E X (lC_0 M cA a G S) rfl (x_heardBy l D cA B0 M a G S hI hG ea x2 hfo (by omega) (by omega)) gX5_heard_X5_heardBy rfl (by decide +kernel) ⟨by decide, by decide⟩ rfl hl.1 rfl (Nat.le_of_ble_eq_true rfl) dX5_heard_23 ⟨by decide, by decide⟩ X.1 0 0 ⟨rfl, rfl⟩ (fun v H locs hv hS_6 => ?_)
      obtain ⟨rfl, G_7, hG, hw⟩ := hv
      replace X : zX D B0 (zj (layC cA a G_7 S) M) s.heap H locs := ⟨hw, hS_6⟩
      refine lv_goto (tgt := 31) E.1 E.2.1 dX5_heard_26 (by decide) ?_
      have ef : fHeard S (ea : Int) x2 = (HD S ea x2, S) := by
        unfold fHeard
        try unfold fFind
        try simp only [Int.toNat_natCast]
        repeat' split
        all_goals first | rfl | (exfalso; omega)
      exact z_ret E X hQ (⟨(congrArg (fun w => some (Value.int (i32 w.1))) ef).symm, a, G_7, rfl, by rw [ef]; exact hG, by rw [ef]; exact X.1⟩) dX5_heard_31
  · refine lv_astore_nN (lv' := [(3, .null), (0, .ref (a 0 0)), (1, .int (i32 x1)), (2, .int (i32 x2))]) E.1 E.2.1 dX5_heard_5 rfl hl (by decide) rfl (fun ls hl => ?_)
    refine lv_aload_nN E.1 E.2.1 dX5_heard_6 rfl (lv_at hl 0 rfl) ?_
    refine lv_ifnonnullN E.1 E.2.1 dX5_heard_7 ?_
    refine z_iconst E dX5_heard_10 ?_
    have ef : fHeard S x1 x2 = (-1, S) := by
      unfold fHeard
      try unfold fFind
      try simp only [Int.toNat_natCast]
      repeat' split
      all_goals first | rfl | (exfalso; omega)
    exact z_ret E X hQ (⟨(congrArg (fun w => some (Value.int (i32 w.1))) ef).symm, a, G, rfl, by rw [ef]; exact hG, by rw [ef]; exact X.1⟩) dX5_heard_11

abbrev rX5_sum : Room := { frames := 6, cells := 0, slots := 0, locals := 160 }
set_option maxHeartbeats 4000000 in
set_option maxRecDepth 100000 in
theorem X_sum (l : Launch) (D : va_G) (cA : Nat → ClassId) (B0 : Nat) (M : zL) (a : Nat → Nat → Nat) (G : zG) (S : zS) (hI : SI S) (hG : CG S G) (x1 : Int) (hx1 : zr x1) : zM l yX5_sum wsX5_sum rX5_sum [.ref (a 0 0), .int (i32 x1)] D cA B0 (zW D B0 (zj (layC cA a G S) M)) (fun v H => v = some (.int (i32 (fSum S x1).1)) ∧ ∃ (a2 : Nat → Nat → Nat) (G2 : zG), a2 0 0 = a 0 0 ∧ CG (fSum S x1).2 G2 ∧ zW D B0 (zj (layC cA a2 G2 (fSum S x1).2) M) H) := by
  refine z_met (cc := cX5_sum) (maxL := 7) (ret := (some .int)) (by decide) rfl (Nat.le_of_ble_eq_true rfl) ?_
  intro p e s m args below meth c ls Q hQ E hP hB hS hl
  have hl : lv_has ls 7 [(0, .ref (a 0 0)), (1, .int (i32 x1))] := hl
  have iX0 : ∀ w ∈ u_ws RX0 TX0 4, w ∈ wsX5_sum := by decide +kernel
  have iX5 : ∀ w ∈ u_ws RX5 TX5 11, w ∈ wsX5_sum := by decide +kernel
  have X : zX D B0 (zj (layC cA a G S) M) s.heap s.heap [] := ⟨hP, hS⟩
  have hI0 := hI.1
  unfold SI0 at hI0
  obtain ⟨b1, b2, b3, b4, b5, b8, b17, b19, b7⟩ := hI0
  unfold zr at hx1
  refine lv_aload_n E.1 E.2.1 dX5_sum_0 rfl (lv_at hl 0 rfl) ?_
  refine z_get E X (lC_0 M cA a G S) rfl iX5 10 (by decide) (by decide +kernel) (v := .int (i32 (S 17 0))) rfl dX5_sum_1 ?_
  refine z_fne E 10 ⟨by omega, by omega⟩ dX5_sum_4 (by decide) (fun h4_1 => ?_) (fun h4_1 => ?_)
  · have hfo : S 17 0 = 1 := by omega
    refine z_iconst E dX5_sum_10 ?_
    refine z_top (sumn (cut (S 5 0) (fsm S x1)) 0) (rfl) ?_
    refine lv_istore_n (lv' := [(2, .int (i32 (sumn (cut (S 5 0) (fsm S x1)) 0))), (0, .ref (a 0 0)), (1, .int (i32 x1))]) E.1 E.2.1 dX5_sum_11 rfl hl (by decide) rfl (fun ls hl => ?_)
    refine lv_aload_n E.1 E.2.1 dX5_sum_12 rfl (lv_at hl 1 rfl) ?_
    refine z_get E X (lC_0 M cA a G S) rfl iX5 1 (by decide) (by decide +kernel) (v := .ref (a 4 0)) rfl dX5_sum_13 ?_
    refine lv_astore_n (lv' := [(3, .ref (a 4 0)), (2, .int (i32 (sumn (cut (S 5 0) (fsm S x1)) 0))), (0, .ref (a 0 0)), (1, .int (i32 x1))]) E.1 E.2.1 dX5_sum_16 rfl hl (by decide) rfl (fun ls hl => ?_)
    refine lv_aload_n E.1 E.2.1 dX5_sum_17 rfl (lv_at hl 0 rfl) ?_
    refine z_alen (z := 8) E X 2 (lC_4 M cA a G S) rfl (by omega) dX5_sum_18 ?_
    refine lv_istore (lv' := [(4, .int (i32 8)), (3, .ref (a 4 0)), (2, .int (i32 (sumn (cut (S 5 0) (fsm S x1)) 0))), (0, .ref (a 0 0)), (1, .int (i32 x1))]) E.1 E.2.1 dX5_sum_19 hl (by decide) rfl (fun ls hl => ?_)
    refine z_iconst E dX5_sum_21 ?_
    refine z_top (0 : Int) (rfl) ?_
    refine lv_istore (lv' := [(5, .int (i32 (0 : Int))), (4, .int (i32 8)), (3, .ref (a 4 0)), (2, .int (i32 (sumn (cut (S 5 0) (fsm S x1)) 0))), (0, .ref (a 0 0)), (1, .int (i32 x1))]) E.1 E.2.1 dX5_sum_22 hl (by decide) rfl (fun ls hl => ?_)
    have key24 : ∀ (N : Nat) (n : Nat) (G : zG) (H : Heap) (locs : List Loc) (ls : Array Slot), (8 - n) < N → (n ≤ 8) → (CG S G) → zX D B0 (zj (layC cA a G S) M) s.heap H locs → lv_has ls 7 [(0, .ref (a 0 0)), (1, .int (i32 x1)), (2, .int (i32 (sumn (cut (S 5 0) (fsm S x1)) n))), (3, .ref (a 4 0)), (4, .int (i32 8)), (5, .int (i32 (n : Int)))] → W p l e rX5_sum s m args below meth c H locs 0 0 Q (F0 m 24 ls []) := by
      intro N
      induction N with
      | zero => intros; omega
      | succ N ih24 =>
        intro n G H locs ls hN hn hG X hl
        refine lv_iload E.1 E.2.1 dX5_sum_24 (lv_at hl 5 rfl) ?_
        refine lv_iload E.1 E.2.1 dX5_sum_26 (lv_at hl 4 rfl) ?_
        refine z_cge E 74 ⟨by omega, by omega⟩ ⟨by omega, by omega⟩ dX5_sum_28 (by decide) (fun h28_2 => ?_) (fun h28_2 => ?_)
        · refine lv_iload_n E.1 E.2.1 dX5_sum_74 rfl (lv_at hl 2 rfl) ?_
          have ef : fSum S x1 = (sumn (cut (S 5 0) (fsm S x1)) n, S) := by
            unfold fSum SM
            rw [if_neg (by omega), cut_end (by omega) (by omega)]
          exact z_ret E X hQ (⟨(congrArg (fun w => some (Value.int (i32 w.1))) ef).symm, a, G, rfl, by rw [ef]; exact hG, by rw [ef]; exact X.1⟩) dX5_sum_75
        · have l1 := b7 n
          have l2 := hI.2.2.2.2.2 n
          refine lv_aload_n E.1 E.2.1 dX5_sum_31 rfl (lv_at hl 3 rfl) ?_
          refine lv_iload E.1 E.2.1 dX5_sum_32 (lv_at hl 5 rfl) ?_
          by_cases hp_3 : ((n : Nat) : Int) < S 5 0
          · refine z_aldS (C := "EchoRow$Element") E X 2 (lC_4 M cA a G S) rfl n (by omega) (by omega) (by decide) (if_pos hp_3) dX5_sum_34 ?_
            refine lv_astore (lv' := [(6, .ref (a 10 n)), (0, .ref (a 0 0)), (1, .int (i32 x1)), (2, .int (i32 (sumn (cut (S 5 0) (fsm S x1)) n))), (3, .ref (a 4 0)), (4, .int (i32 8)), (5, .int (i32 (n : Int)))]) E.1 E.2.1 dX5_sum_35 hl (by decide) rfl (fun ls hl => ?_)
            refine lv_aload E.1 E.2.1 dX5_sum_37 (lv_at hl 0 rfl) ?_
            refine lv_ifnull E.1 E.2.1 dX5_sum_39 ?_
            refine lv_aload E.1 E.2.1 dX5_sum_42 (lv_at hl 0 rfl) ?_
            refine z_get E X (lC_10 M cA a G S n (by omega)) rfl iX0 2 (by decide) (by decide +kernel) (v := .int (i32 (1 - S 7 n))) rfl dX5_sum_44 ?_
            refine z_feq E 68 ⟨by omega, by omega⟩ dX5_sum_47 (by decide) (fun h47_4 => ?_) (fun h47_4 => ?_)
            · have ec1 : sumn (cut (S 5 0) (fsm S x1)) (n + 1) = sumn (cut (S 5 0) (fsm S x1)) n := by
                rw [cut_S, fsm]
                repeat' split
                all_goals omega
              have hl : lv_has ls 7 [(6, .ref (a 10 n)), (0, .ref (a 0 0)), (1, .int (i32 x1)), (2, .int (i32 (sumn (cut (S 5 0) (fsm S x1)) (n + 1)))), (3, .ref (a 4 0)), (4, .int (i32 8)), (5, .int (i32 (n : Int)))] := by rw [ec1]; exact hl
              refine z_iinc (lv' := [(5, .int (i32 ((n + 1 : Nat) : Int))), (6, .ref (a 10 n)), (0, .ref (a 0 0)), (1, .int (i32 x1)), (2, .int (i32 (sumn (cut (S 5 0) (fsm S x1)) (n + 1)))), (3, .ref (a 4 0)), (4, .int (i32 8))]) E dX5_sum_68 hl (k := 6) rfl (by decide) rfl (fun ls hl => ?_)
              refine lv_goto (tgt := 24) E.1 E.2.1 dX5_sum_71 (by decide) ?_
              exact ih24 (n + 1) G _ _ _ (by omega) (by omega) hG X (lv_sub hl [2, 3, 4, 5, 6, 0] rfl)
            · refine lv_iload_n E.1 E.2.1 dX5_sum_50 rfl (lv_at hl 3 rfl) ?_
              refine lv_aload_n E.1 E.2.1 dX5_sum_51 rfl (lv_at hl 1 rfl) ?_
              refine lv_aload E.1 E.2.1 dX5_sum_52 (lv_at hl 0 rfl) ?_
              refine lv_iload_n E.1 E.2.1 dX5_sum_54 rfl (lv_at hl 2 rfl) ?_
              refine z_i2l E ⟨by omega, by omega⟩ dX5_sum_55 ?_
              refine lv_aload E.1 E.2.1 dX5_sum_56 (lv_at hl 0 rfl) ?_
              refine z_get E X (lC_10 M cA a G S n (by omega)) rfl iX0 3 (by decide) (by decide +kernel) (v := .int (i32 (G 10 n 0))) rfl dX5_sum_58 ?_
              refine z_top (S 18 n) (hG.2.2.2.2.2.1 hfo n (by omega) (by omega)) ?_
              refine z_i2l E ⟨by omega, by omega⟩ dX5_sum_61 ?_
              refine z_lsub E dX5_sum_62 ?_
              refine z_callV (As := [.ref (a 10 n), .long (i64 (x1 - (S 18 n)))]) (rest := [.int (i32 (sumn (cut (S 5 0) (fsm S x1)) n))]) (n := 2) E X (lC_0 M cA a G S) rfl (x_heardBy l D cA B0 M a G S hI hG n (x1 - (S 18 n)) hfo (by omega) (by omega)) gX5_sum_X5_heardBy rfl (by decide +kernel) ⟨by decide, by decide⟩ rfl hl.1 rfl (Nat.le_of_ble_eq_true rfl) dX5_sum_63 ⟨by decide, by decide⟩ X.1 0 0 ⟨rfl, rfl⟩ (fun v H locs hv hS_5 => ?_)
              obtain ⟨rfl, G_6, hG, hw⟩ := hv
              replace X : zX D B0 (zj (layC cA a G_6 S) M) s.heap H locs := ⟨hw, hS_5⟩
              refine z_iadd E dX5_sum_66 ?_
              refine lv_istore_n (lv' := [(2, .int (i32 ((sumn (cut (S 5 0) (fsm S x1)) n) + (HD S n (x1 - (S 18 n)))))), (6, .ref (a 10 n)), (0, .ref (a 0 0)), (1, .int (i32 x1)), (3, .ref (a 4 0)), (4, .int (i32 8)), (5, .int (i32 (n : Int)))]) E.1 E.2.1 dX5_sum_67 rfl hl (by decide) rfl (fun ls hl => ?_)
              have ec1 : sumn (cut (S 5 0) (fsm S x1)) (n + 1) = (sumn (cut (S 5 0) (fsm S x1)) n) + (HD S n (x1 - (S 18 n))) := by
                rw [cut_S, fsm]
                repeat' split
                all_goals omega
              have hl : lv_has ls 7 [(2, .int (i32 (sumn (cut (S 5 0) (fsm S x1)) (n + 1)))), (6, .ref (a 10 n)), (0, .ref (a 0 0)), (1, .int (i32 x1)), (3, .ref (a 4 0)), (4, .int (i32 8)), (5, .int (i32 (n : Int)))] := by rw [ec1]; exact hl
              refine z_iinc (lv' := [(5, .int (i32 ((n + 1 : Nat) : Int))), (2, .int (i32 (sumn (cut (S 5 0) (fsm S x1)) (n + 1)))), (6, .ref (a 10 n)), (0, .ref (a 0 0)), (1, .int (i32 x1)), (3, .ref (a 4 0)), (4, .int (i32 8))]) E dX5_sum_68 hl (k := 6) rfl (by decide) rfl (fun ls hl => ?_)
              refine lv_goto (tgt := 24) E.1 E.2.1 dX5_sum_71 (by decide) ?_
              exact ih24 (n + 1) G_6 _ _ _ (by omega) (by omega) hG X (lv_sub hl [3, 4, 1, 5, 6, 0] rfl)
          · refine z_aldN (C := "EchoRow$Element") E X 2 (lC_4 M cA a G S) rfl n (by omega) (by omega) (by decide) (if_neg hp_3) dX5_sum_34 ?_
            refine lv_astoreN (lv' := [(6, .null), (0, .ref (a 0 0)), (1, .int (i32 x1)), (2, .int (i32 (sumn (cut (S 5 0) (fsm S x1)) n))), (3, .ref (a 4 0)), (4, .int (i32 8)), (5, .int (i32 (n : Int)))]) E.1 E.2.1 dX5_sum_35 hl (by decide) rfl (fun ls hl => ?_)
            refine lv_aloadN E.1 E.2.1 dX5_sum_37 (lv_at hl 0 rfl) ?_
            refine lv_ifnullN (tgt := 68) E.1 E.2.1 dX5_sum_39 (by decide) ?_
            have ec1 : sumn (cut (S 5 0) (fsm S x1)) (n + 1) = sumn (cut (S 5 0) (fsm S x1)) n := by
              rw [cut_S, fsm]
              repeat' split
              all_goals omega
            have hl : lv_has ls 7 [(6, .null), (0, .ref (a 0 0)), (1, .int (i32 x1)), (2, .int (i32 (sumn (cut (S 5 0) (fsm S x1)) (n + 1)))), (3, .ref (a 4 0)), (4, .int (i32 8)), (5, .int (i32 (n : Int)))] := by rw [ec1]; exact hl
            refine z_iinc (lv' := [(5, .int (i32 ((n + 1 : Nat) : Int))), (6, .null), (0, .ref (a 0 0)), (1, .int (i32 x1)), (2, .int (i32 (sumn (cut (S 5 0) (fsm S x1)) (n + 1)))), (3, .ref (a 4 0)), (4, .int (i32 8))]) E dX5_sum_68 hl (k := 6) rfl (by decide) rfl (fun ls hl => ?_)
            refine lv_goto (tgt := 24) E.1 E.2.1 dX5_sum_71 (by decide) ?_
            exact ih24 (n + 1) G _ _ _ (by omega) (by omega) hG X (lv_sub hl [2, 3, 4, 5, 6, 0] rfl)
    exact key24 ((8 - 0) + 1) 0 G _ _ _ (by omega) (by omega) hG X (lv_sub hl [4, 5, 3, 2, 1, 0] rfl)
  · refine z_bipush E dX5_sum_7 (by decide +kernel) ?_
    have ef : fSum S x1 = (-3, S) := by
      unfold fSum
      try simp only [Int.toNat_natCast]
      repeat' split
      all_goals first | rfl | (exfalso; omega)
    exact z_ret E X hQ (⟨(congrArg (fun w => some (Value.int (i32 w.1))) ef).symm, a, G, rfl, by rw [ef]; exact hG, by rw [ef]; exact X.1⟩) dX5_sum_9

