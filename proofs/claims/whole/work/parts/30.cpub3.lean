abbrev rX5_element : Room := { frames := 2, cells := 1, slots := 4, locals := 46 }
set_option maxHeartbeats 4000000 in
set_option maxRecDepth 100000 in
theorem X_element (l : Launch) (D : va_G) (cA : Nat → ClassId) (B0 : Nat) (M : zL) (a : Nat → Nat → Nat) (G : zG) (S : zS) (hI : SI S) (hG : CG S G) (x1 : Int) (hx1 : zr x1) : zM l yX5_element wsX5_element rX5_element [.ref (a 0 0), .int (i32 x1)] D cA B0 (zW D B0 (zj (layC cA a G S) M)) (fun v H => v = some (.int (i32 (fElement S x1).1)) ∧ ∃ (a2 : Nat → Nat → Nat) (G2 : zG), a2 0 0 = a 0 0 ∧ CG (fElement S x1).2 G2 ∧ zW D B0 (zj (layC cA a2 G2 (fElement S x1).2) M) H) := by
  refine z_met (cc := cX5_element) (maxL := 2) (ret := (some .int)) (by decide) rfl (Nat.le_of_ble_eq_true rfl) ?_
  intro p e s m args below meth c ls Q hQ E hP hB hS hl
  have hl : lv_has ls 2 [(0, .ref (a 0 0)), (1, .int (i32 x1))] := hl
  have iX0 : ∀ w ∈ u_ws RX0 TX0 4, w ∈ wsX5_element := by decide +kernel
  have iX5 : ∀ w ∈ u_ws RX5 TX5 11, w ∈ wsX5_element := by decide +kernel
  have X : zX D B0 (zj (layC cA a G S) M) s.heap s.heap [] := ⟨hP, hS⟩
  have hI0 := hI.1
  unfold SI0 at hI0
  obtain ⟨b1, b2, b3, b4, b5, b8, b17, b19, b7⟩ := hI0
  unfold zr at hx1
  refine lv_iload_n E.1 E.2.1 dX5_element_0 rfl (lv_at hl 1 rfl) ?_
  refine z_iconst E dX5_element_1 ?_
  refine z_bipush E dX5_element_2 (by decide +kernel) ?_
  refine z_callJ (As := [.int (i32 x1), .int (i32 0), .int (i32 50)]) (rest := []) (n := 3) E X (c_outside l D cA B0 _ x1 0 50 ⟨by omega, by omega⟩ ⟨by omega, by omega⟩ ⟨by omega, by omega⟩) gX5_element_X5_outside rfl (by decide +kernel) ⟨by decide, by decide⟩ rfl hl.1 rfl (Nat.le_of_ble_eq_true rfl) dX5_element_4 ⟨by decide, by decide⟩ rfl 0 0 ⟨rfl, rfl⟩ (fun v H locs hv hS_1 => ?_)
  obtain ⟨hH, z_2, rfl, ez_2⟩ := hv
  subst hH
  replace X := X.same hS_1
  refine z_feq E 13 ⟨by omega, by omega⟩ dX5_element_7 (by decide) (fun h7_3 => ?_) (fun h7_3 => ?_)
  · refine lv_aload_n E.1 E.2.1 dX5_element_13 rfl (lv_at hl 0 rfl) ?_
    refine z_get E X (lC_0 M cA a G S) rfl iX5 6 (by decide) (by decide +kernel) (v := .int (i32 (S 5 0))) rfl dX5_element_14 ?_
    refine z_bipush E dX5_element_17 (by decide +kernel) ?_
    refine z_clt E 25 ⟨by omega, by omega⟩ ⟨by omega, by omega⟩ dX5_element_19 (by decide) (fun h19_4 => ?_) (fun h19_4 => ?_)
    · obtain ⟨n, hn⟩ : ∃ n : Nat, S 5 0 = (n : Int) := ⟨(S 5 0).toNat, by omega⟩
      refine lv_aload_n E.1 E.2.1 dX5_element_25 rfl (lv_at hl 0 rfl) ?_
      refine z_get E X (lC_0 M cA a G S) rfl iX5 1 (by decide) (by decide +kernel) (v := .ref (a 4 0)) rfl dX5_element_26 ?_
      refine lv_aload_n E.1 E.2.1 dX5_element_29 rfl (lv_at hl 0 rfl) ?_
      refine z_get E X (lC_0 M cA a G S) rfl iX5 6 (by decide) (by decide +kernel) (v := .int (i32 (S 5 0))) rfl dX5_element_30 ?_
      refine z_new (fs := [.int 0, .int 0, .int 0, .int 0]) E X 10 n 0 rfl iX0 tyX0 tyX0_ok (by decide +kernel) (by decide +kernel) (by decide +kernel) (fun j hj => by rcases (show j = 0 ∨ j = 1 ∨ j = 2 ∨ j = 3 by omega) with rfl | rfl | rfl | rfl <;> rfl) (by decide) (by decide) dX5_element_33 (fun q_5 H X => ?_)
      refine W.widen (k := 1) (n := 4) (by omega) (by omega) ?_
      have X : zX D B0 (zu (zj (layC cA a G S) M) 10 n (some (q_5, .inr (0, [.int 0, .int 0, .int 0, .int 0])))) s.heap H _ := X
      refine lv_dup E.1 E.2.1 dX5_element_36 rfl ?_
      refine lv_aload_n E.1 E.2.1 dX5_element_37 rfl (lv_at hl 0 rfl) ?_
      refine z_get E X ((zu_ne (by omega)).trans (lC_0 M cA a G S)) rfl iX5 6 (by decide) (by decide +kernel) (v := .int (i32 (S 5 0))) rfl dX5_element_38 ?_
      refine z_top (n : Int) (hn) ?_
      refine lv_iload_n E.1 E.2.1 dX5_element_41 rfl (lv_at hl 1 rfl) ?_
      refine z_callI (As := [.int (i32 (n : Int)), .int (i32 x1)]) (rest := [.ref q_5, .int (i32 (S 5 0)), .ref (a 4 0)]) (n := 2) E X (E_init l D cA B0 (zj (layC cA a G S) M) n q_5 (n : Int) x1) gX5_element_X0_init rfl (by decide +kernel) (by decide +kernel) (by decide +kernel) rfl (by decide +kernel) ⟨by decide, by decide⟩ rfl hl.1 rfl (Nat.le_of_ble_eq_true rfl) dX5_element_42 ⟨by decide, by decide⟩ X.1 1 4 ⟨rfl, rfl⟩ (fun v H locs hv hS_6 => ?_)
      obtain ⟨rfl, hw⟩ := hv
      have X : zX D B0 (zu (zj (layC cA a G S) M) 10 n (some (q_5, .inr (0, [.int (i32 (n : Int)), .int (i32 x1), .int (i32 1), .int 0])))) s.heap H locs := ⟨hw, hS_6⟩
      refine z_aast (r := (RX0, TX0, 4)) E X 2 ((zu_ne (by omega)).trans (lC_4 M cA a G S)) rfl (zu_self _ _ _ _) rfl n (by omega) (by omega) (by decide) dX5_element_45 (fun H locs X => ?_)
      refine lv_aload_n E.1 E.2.1 dX5_element_46 rfl (lv_at hl 0 rfl) ?_
      refine lv_dup E.1 E.2.1 dX5_element_47 rfl ?_
      refine z_get E X ((zu_ne (by omega)).trans ((zu_ne (by omega)).trans (lC_0 M cA a G S))) rfl iX5 6 (by decide) (by decide +kernel) (v := .int (i32 (S 5 0))) rfl dX5_element_48 ?_
      refine z_iconst E dX5_element_51 ?_
      refine z_iadd E dX5_element_52 ?_
      refine z_put E X ((zu_ne (by omega)).trans ((zu_ne (by omega)).trans (lC_0 M cA a G S))) rfl iX5 tyX5 tyX5_ok nmX5 6 (by decide) (by decide +kernel) rfl rfl rfl (Nat.le_of_ble_eq_true rfl) dX5_element_53 (fun H locs X => ?_)
      have X : zX D B0 (zu (zu (zu (zj (layC cA a G S) M) 10 n (some (q_5, .inr (0, [.int (i32 (n : Int)), .int (i32 x1), .int (i32 1), .int 0])))) 4 0 (some (kQ (cA 2) (a 4 0) 8 (va_up (fun j => opt ((j : Int) < S 5 0) (a 10 j)) n (some q_5))))) 0 0 (some (a 0 0, .inr (5, (cfs a S).set 6 (.int (i32 ((S 5 0) + 1))))))) s.heap H locs := X
      have X := cw_element hn (fun i hi => by have h3 := hI.2.2.2.1 i hi; exact ⟨by omega, by omega⟩) X
      refine lv_aload_n E.1 E.2.1 dX5_element_56 rfl (lv_at hl 0 rfl) ?_
      refine z_iconst E dX5_element_57 ?_
      refine z_put E X (lC_0 M cA (ua a 10 n q_5) (z3 G 10 n 0 0) (zs (zs (zs S 6 n x1) 7 n 0) 5 0 (S 5 0 + 1))) rfl iX5 tyX5 tyX5_ok nmX5 10 (by decide) (by decide +kernel) rfl (z_nb (by omega)).1 (z_nb (by omega)).2 (Nat.le_of_ble_eq_true rfl) dX5_element_58 (fun H locs X => ?_)
      have X := cw_focused X
      refine lv_aload_n E.1 E.2.1 dX5_element_61 rfl (lv_at hl 0 rfl) ?_
      refine z_get E X (lC_0 M cA (ua a 10 n q_5) (z3 G 10 n 0 0) (zs (zs (zs (zs S 6 n x1) 7 n 0) 5 0 (S 5 0 + 1)) 17 0 0)) rfl iX5 6 (by decide) (by decide +kernel) (v := .int (i32 (S 5 0 + 1))) rfl dX5_element_62 ?_
      refine z_iconst E dX5_element_65 ?_
      refine z_isub E dX5_element_66 ?_
      refine z_top (S 5 0) (by omega) ?_
      have ef : fElement S x1 = (S 5 0, zs (zs (zs (zs S 6 n x1) 7 n 0) 5 0 (S 5 0 + 1)) 17 0 0) := by
        unfold fElement
        rw [if_neg (by omega), if_neg (by omega), show (S 5 0).toNat = n by omega]
      exact z_ret E X hQ (⟨(congrArg (fun w => some (Value.int (i32 w.1))) ef).symm, (ua a 10 n q_5), (z3 G 10 n 0 0), rfl, by rw [ef]; exact CG_element hn hG, by rw [ef]; exact X.1⟩) dX5_element_67
    · refine z_bipush E dX5_element_22 (by decide +kernel) ?_
      refine W.widen (k := 1) (n := 4) (by omega) (by omega) ?_
      have ef : fElement S x1 = (-4, S) := by
        unfold fElement
        try unfold fFind
        try simp only [Int.toNat_natCast]
        repeat' split
        all_goals first | rfl | (exfalso; omega)
      exact z_ret E X hQ (⟨(congrArg (fun w => some (Value.int (i32 w.1))) ef).symm, a, G, rfl, by rw [ef]; exact hG, by rw [ef]; exact X.1⟩) dX5_element_24
  · refine z_bipush E dX5_element_10 (by decide +kernel) ?_
    refine W.widen (k := 1) (n := 4) (by omega) (by omega) ?_
    have ef : fElement S x1 = (-2, S) := by
      unfold fElement
      try unfold fFind
      try simp only [Int.toNat_natCast]
      repeat' split
      all_goals first | rfl | (exfalso; omega)
    exact z_ret E X hQ (⟨(congrArg (fun w => some (Value.int (i32 w.1))) ef).symm, a, G, rfl, by rw [ef]; exact hG, by rw [ef]; exact X.1⟩) dX5_element_12

abbrev rX5_lose : Room := { frames := 1, cells := 0, slots := 0, locals := 25 }
set_option maxHeartbeats 4000000 in
set_option maxRecDepth 100000 in
theorem X_lose (l : Launch) (D : va_G) (cA : Nat → ClassId) (B0 : Nat) (M : zL) (a : Nat → Nat → Nat) (G : zG) (S : zS) (hI : SI S) (hG : CG S G) (x1 x2 : Int) (hx1 : zr x1) (hx2 : x2 = 0 ∨ x2 = 1) : zM l yX5_lose wsX5_lose rX5_lose [.ref (a 0 0), .int (i32 x1), .int (i32 x2)] D cA B0 (zW D B0 (zj (layC cA a G S) M)) (fun v H => v = some (.int (i32 (fLose S x1 x2).1)) ∧ ∃ (a2 : Nat → Nat → Nat) (G2 : zG), a2 0 0 = a 0 0 ∧ CG (fLose S x1 x2).2 G2 ∧ zW D B0 (zj (layC cA a2 G2 (fLose S x1 x2).2) M) H) := by
  refine z_met (cc := cX5_lose) (maxL := 4) (ret := (some .int)) (by decide) rfl (Nat.le_of_ble_eq_true rfl) ?_
  intro p e s m args below meth c ls Q hQ E hP hB hS hl
  have hl : lv_has ls 4 [(0, .ref (a 0 0)), (1, .int (i32 x1)), (2, .int (i32 x2))] := hl
  have iX0 : ∀ w ∈ u_ws RX0 TX0 4, w ∈ wsX5_lose := by decide +kernel
  have iX5 : ∀ w ∈ u_ws RX5 TX5 11, w ∈ wsX5_lose := by decide +kernel
  have X : zX D B0 (zj (layC cA a G S) M) s.heap s.heap [] := ⟨hP, hS⟩
  have hI0 := hI.1
  unfold SI0 at hI0
  obtain ⟨b1, b2, b3, b4, b5, b8, b17, b19, b7⟩ := hI0
  unfold zr at hx1
  refine lv_aload_n E.1 E.2.1 dX5_lose_0 rfl (lv_at hl 0 rfl) ?_
  refine lv_iload_n E.1 E.2.1 dX5_lose_1 rfl (lv_at hl 1 rfl) ?_
  refine z_callV (As := [.int (i32 x1)]) (rest := []) (n := 1) E X (lC_0 M cA a G S) rfl (x_en l D cA B0 M a G S hI.1 x1 ⟨by omega, by omega⟩) gX5_lose_X5_elementNumbered rfl (by decide +kernel) ⟨by decide, by decide⟩ rfl hl.1 rfl (Nat.le_of_ble_eq_true rfl) dX5_lose_2 ⟨by decide, by decide⟩ X.1 0 0 ⟨rfl, rfl⟩ (fun v H locs hv hS_1 => ?_)
  obtain ⟨hv, hw⟩ := hv
  replace X : zX D B0 (zj (layC cA a G S) M) s.heap H locs := ⟨hw, hS_1⟩
  rcases hv with ⟨ea, rfl, he_3, rfl⟩ | ⟨hn_4, rfl⟩
  · refine lv_astore_n (lv' := [(3, .ref (a 10 ea)), (0, .ref (a 0 0)), (1, .int (i32 (ea : Int))), (2, .int (i32 x2))]) E.1 E.2.1 dX5_lose_5 rfl hl (by decide) rfl (fun ls hl => ?_)
    refine lv_aload_n E.1 E.2.1 dX5_lose_6 rfl (lv_at hl 0 rfl) ?_
    refine lv_ifnonnull (tgt := 12) E.1 E.2.1 dX5_lose_7 (by decide) ?_
    refine lv_aload_n E.1 E.2.1 dX5_lose_12 rfl (lv_at hl 0 rfl) ?_
    refine lv_iload_n E.1 E.2.1 dX5_lose_13 rfl (lv_at hl 3 rfl) ?_
    refine z_fne E 21 ⟨by omega, by omega⟩ dX5_lose_14 (by decide) (fun h14_5 => ?_) (fun h14_5 => ?_)
    · refine z_iconst E dX5_lose_21 ?_
      refine z_top (1 - x2) (by omega) ?_
      refine z_put E X (lC_10 M cA a G S ea (by omega)) rfl iX0 tyX0 tyX0_ok nmX0 2 (by decide) (by decide +kernel) rfl (z_nb (by omega)).1 (z_nb (by omega)).2 (Nat.le_of_ble_eq_true rfl) dX5_lose_22 (fun H locs X => ?_)
      have X := cw_works (by omega) X
      refine lv_aload_n E.1 E.2.1 dX5_lose_25 rfl (lv_at hl 1 rfl) ?_
      refine z_iconst E dX5_lose_26 ?_
      refine z_put E X (lC_0 M cA a G (zs S 7 ea x2)) rfl iX5 tyX5 tyX5_ok nmX5 10 (by decide) (by decide +kernel) rfl (z_nb (by omega)).1 (z_nb (by omega)).2 (Nat.le_of_ble_eq_true rfl) dX5_lose_27 (fun H locs X => ?_)
      have X := cw_focused X
      have hI0b := SI0_lose (q := ea) hI.1 hx2
      refine lv_aload_n E.1 E.2.1 dX5_lose_30 rfl (lv_at hl 1 rfl) ?_
      refine z_callV (As := []) (rest := []) (n := 0) E X (lC_0 M cA a G (zs (zs S 7 ea x2) 17 0 0)) rfl (x_countWorking l D cA B0 M a G (zs (zs S 7 ea x2) 17 0 0) hI0b) gX5_lose_X5_countWorking rfl (by decide +kernel) ⟨by decide, by decide⟩ rfl hl.1 rfl (Nat.le_of_ble_eq_true rfl) dX5_lose_31 ⟨by decide, by decide⟩ X.1 0 0 ⟨rfl, rfl⟩ (fun v H locs hv hS_6 => ?_)
      obtain ⟨rfl, hw⟩ := hv
      replace X : zX D B0 (zj (layC cA a G (zs (zs S 7 ea x2) 17 0 0)) M) s.heap H locs := ⟨hw, hS_6⟩
      have f_7 := WK_rng (S := zs (zs S 7 ea x2) 17 0 0) hI0b
      have ef : fLose S (ea : Int) x2 = (WK (zs (zs S 7 ea x2) 17 0 0), zs (zs S 7 ea x2) 17 0 0) := by
        unfold fLose
        try unfold fFind
        try simp only [Int.toNat_natCast]
        repeat' split
        all_goals first | rfl | (exfalso; omega)
      exact z_ret E X hQ (⟨(congrArg (fun w => some (Value.int (i32 w.1))) ef).symm, a, G, rfl, by rw [ef]; exact CG_lose hG, by rw [ef]; exact X.1⟩) dX5_lose_34
    · refine z_iconst E dX5_lose_17 ?_
      refine lv_goto (tgt := 22) E.1 E.2.1 dX5_lose_18 (by decide) ?_
      refine z_top (1 - x2) (by omega) ?_
      refine z_put E X (lC_10 M cA a G S ea (by omega)) rfl iX0 tyX0 tyX0_ok nmX0 2 (by decide) (by decide +kernel) rfl (z_nb (by omega)).1 (z_nb (by omega)).2 (Nat.le_of_ble_eq_true rfl) dX5_lose_22 (fun H locs X => ?_)
      have X := cw_works (by omega) X
      refine lv_aload_n E.1 E.2.1 dX5_lose_25 rfl (lv_at hl 1 rfl) ?_
      refine z_iconst E dX5_lose_26 ?_
      refine z_put E X (lC_0 M cA a G (zs S 7 ea x2)) rfl iX5 tyX5 tyX5_ok nmX5 10 (by decide) (by decide +kernel) rfl (z_nb (by omega)).1 (z_nb (by omega)).2 (Nat.le_of_ble_eq_true rfl) dX5_lose_27 (fun H locs X => ?_)
      have X := cw_focused X
      have hI0b := SI0_lose (q := ea) hI.1 hx2
      refine lv_aload_n E.1 E.2.1 dX5_lose_30 rfl (lv_at hl 1 rfl) ?_
      refine z_callV (As := []) (rest := []) (n := 0) E X (lC_0 M cA a G (zs (zs S 7 ea x2) 17 0 0)) rfl (x_countWorking l D cA B0 M a G (zs (zs S 7 ea x2) 17 0 0) hI0b) gX5_lose_X5_countWorking rfl (by decide +kernel) ⟨by decide, by decide⟩ rfl hl.1 rfl (Nat.le_of_ble_eq_true rfl) dX5_lose_31 ⟨by decide, by decide⟩ X.1 0 0 ⟨rfl, rfl⟩ (fun v H locs hv hS_8 => ?_)
      obtain ⟨rfl, hw⟩ := hv
      replace X : zX D B0 (zj (layC cA a G (zs (zs S 7 ea x2) 17 0 0)) M) s.heap H locs := ⟨hw, hS_8⟩
      have f_9 := WK_rng (S := zs (zs S 7 ea x2) 17 0 0) hI0b
      have ef : fLose S (ea : Int) x2 = (WK (zs (zs S 7 ea x2) 17 0 0), zs (zs S 7 ea x2) 17 0 0) := by
        unfold fLose
        try unfold fFind
        try simp only [Int.toNat_natCast]
        repeat' split
        all_goals first | rfl | (exfalso; omega)
      exact z_ret E X hQ (⟨(congrArg (fun w => some (Value.int (i32 w.1))) ef).symm, a, G, rfl, by rw [ef]; exact CG_lose hG, by rw [ef]; exact X.1⟩) dX5_lose_34
  · refine lv_astore_nN (lv' := [(3, .null), (0, .ref (a 0 0)), (1, .int (i32 x1)), (2, .int (i32 x2))]) E.1 E.2.1 dX5_lose_5 rfl hl (by decide) rfl (fun ls hl => ?_)
    refine lv_aload_nN E.1 E.2.1 dX5_lose_6 rfl (lv_at hl 0 rfl) ?_
    refine lv_ifnonnullN E.1 E.2.1 dX5_lose_7 ?_
    refine z_iconst E dX5_lose_10 ?_
    have ef : fLose S x1 x2 = (-1, S) := by
      unfold fLose
      try unfold fFind
      try simp only [Int.toNat_natCast]
      repeat' split
      all_goals first | rfl | (exfalso; omega)
    exact z_ret E X hQ (⟨(congrArg (fun w => some (Value.int (i32 w.1))) ef).symm, a, G, rfl, by rw [ef]; exact hG, by rw [ef]; exact X.1⟩) dX5_lose_11

abbrev rX5_drop : Room := { frames := 0, cells := 0, slots := 0, locals := 0 }
set_option maxHeartbeats 4000000 in
set_option maxRecDepth 100000 in
theorem X_drop (l : Launch) (D : va_G) (cA : Nat → ClassId) (B0 : Nat) (M : zL) (a : Nat → Nat → Nat) (G : zG) (S : zS) (hI : SI S) (hG : CG S G) : zM l yX5_drop wsX5_drop rX5_drop [.ref (a 0 0)] D cA B0 (zW D B0 (zj (layC cA a G S) M)) (fun v H => v = some (.int (i32 (fDrop S ).1)) ∧ ∃ (a2 : Nat → Nat → Nat) (G2 : zG), a2 0 0 = a 0 0 ∧ CG (fDrop S ).2 G2 ∧ zW D B0 (zj (layC cA a2 G2 (fDrop S ).2) M) H) := by
  refine z_met (cc := cX5_drop) (maxL := 1) (ret := (some .int)) (by decide) rfl (Nat.le_of_ble_eq_true rfl) ?_
  intro p e s m args below meth c ls Q hQ E hP hB hS hl
  have hl : lv_has ls 1 [(0, .ref (a 0 0))] := hl
  have iX5 : ∀ w ∈ u_ws RX5 TX5 11, w ∈ wsX5_drop := by decide +kernel
  have X : zX D B0 (zj (layC cA a G S) M) s.heap s.heap [] := ⟨hP, hS⟩
  have hI0 := hI.1
  unfold SI0 at hI0
  obtain ⟨b1, b2, b3, b4, b5, b8, b17, b19, b7⟩ := hI0
  refine lv_aload_n E.1 E.2.1 dX5_drop_0 rfl (lv_at hl 0 rfl) ?_
  refine z_get E X (lC_0 M cA a G S) rfl iX5 7 (by decide) (by decide +kernel) (v := .int (i32 (S 8 0))) rfl dX5_drop_1 ?_
  refine z_iconst E dX5_drop_4 ?_
  refine z_cge E 11 ⟨by omega, by omega⟩ ⟨by omega, by omega⟩ dX5_drop_5 (by decide) (fun h5_1 => ?_) (fun h5_1 => ?_)
  · obtain ⟨n, hn⟩ : ∃ n : Nat, S 8 0 = ((n + 1 : Nat) : Int) := ⟨(S 8 0 - 1).toNat, by omega⟩
    refine lv_aload_n E.1 E.2.1 dX5_drop_11 rfl (lv_at hl 0 rfl) ?_
    refine lv_dup E.1 E.2.1 dX5_drop_12 rfl ?_
    refine z_get E X (lC_0 M cA a G S) rfl iX5 7 (by decide) (by decide +kernel) (v := .int (i32 (S 8 0))) rfl dX5_drop_13 ?_
    refine z_iconst E dX5_drop_16 ?_
    refine z_isub E dX5_drop_17 ?_
    refine z_put E X (lC_0 M cA a G S) rfl iX5 tyX5 tyX5_ok nmX5 7 (by decide) (by decide +kernel) rfl rfl rfl (Nat.le_of_ble_eq_true rfl) dX5_drop_18 (fun H locs X => ?_)
    have X : zX D B0 (zu (zj (layC cA a G S) M) 0 0 (some (a 0 0, .inr (5, (cfs a S).set 7 (.int (i32 ((S 8 0) - 1))))))) s.heap H locs := X
    refine lv_aload_n E.1 E.2.1 dX5_drop_21 rfl (lv_at hl 0 rfl) ?_
    refine z_get E X (zu_self _ _ _ _) rfl iX5 2 (by decide) (by decide +kernel) (v := .ref (a 5 0)) rfl dX5_drop_22 ?_
    refine lv_aload_n E.1 E.2.1 dX5_drop_25 rfl (lv_at hl 0 rfl) ?_
    refine z_get E X (zu_self _ _ _ _) rfl iX5 7 (by decide) (by decide +kernel) (v := .int (i32 ((S 8 0) - 1))) rfl dX5_drop_26 ?_
    refine lv_null E.1 E.2.1 dX5_drop_29 ?_
    refine z_aastN (C := "EchoRow$Target") E X 3 ((zu_ne (by omega)).trans (lC_5 M cA a G S)) rfl n (by omega) (by omega) (by decide) dX5_drop_30 (fun H locs X => ?_)
    have X := cw_drop hn X
    refine lv_aload_n E.1 E.2.1 dX5_drop_31 rfl (lv_at hl 0 rfl) ?_
    refine z_get E X (lC_0 M cA a G (zs S 8 0 (S 8 0 - 1))) rfl iX5 7 (by decide) (by decide +kernel) (v := .int (i32 (S 8 0 - 1))) rfl dX5_drop_32 ?_
    have ef : fDrop S  = (S 8 0 - 1, zs S 8 0 (S 8 0 - 1)) := by
      unfold fDrop
      try unfold fFind
      try simp only [Int.toNat_natCast]
      repeat' split
      all_goals first | rfl | (exfalso; omega)
    exact z_ret E X hQ (⟨(congrArg (fun w => some (Value.int (i32 w.1))) ef).symm, a, G, rfl, by rw [ef]; exact CG_drop hG, by rw [ef]; exact X.1⟩) dX5_drop_35
  · refine z_bipush E dX5_drop_8 (by decide +kernel) ?_
    have ef : fDrop S  = (-3, S) := by
      unfold fDrop
      try unfold fFind
      try simp only [Int.toNat_natCast]
      repeat' split
      all_goals first | rfl | (exfalso; omega)
    exact z_ret E X hQ (⟨(congrArg (fun w => some (Value.int (i32 w.1))) ef).symm, a, G, rfl, by rw [ef]; exact hG, by rw [ef]; exact X.1⟩) dX5_drop_10

abbrev rX5_tell : Room := { frames := 2, cells := 1, slots := 3, locals := 47 }
set_option maxHeartbeats 4000000 in
set_option maxRecDepth 100000 in
theorem X_tell (l : Launch) (D : va_G) (cA : Nat → ClassId) (B0 : Nat) (M : zL) (a : Nat → Nat → Nat) (G : zG) (S : zS) (hI : SI S) (hG : CG S G) (x1 x2 x3 : Int) (hx1 : zr x1) (hx2 : zr x2) (hx3 : zr x3) : zM l yX5_tell wsX5_tell rX5_tell [.ref (a 0 0), .int (i32 x1), .int (i32 x2), .int (i32 x3)] D cA B0 (zW D B0 (zj (layC cA a G S) M)) (fun v H => v = some (.int (i32 (fTell S x1 x2 x3).1)) ∧ ∃ (a2 : Nat → Nat → Nat) (G2 : zG), a2 0 0 = a 0 0 ∧ CG (fTell S x1 x2 x3).2 G2 ∧ zW D B0 (zj (layC cA a2 G2 (fTell S x1 x2 x3).2) M) H) := by
  refine z_met (cc := cX5_tell) (maxL := 6) (ret := (some .int)) (by decide) rfl (Nat.le_of_ble_eq_true rfl) ?_
  intro p e s m args below meth c ls Q hQ E hP hB hS hl
  have hl : lv_has ls 6 [(0, .ref (a 0 0)), (1, .int (i32 x1)), (2, .int (i32 x2)), (3, .int (i32 x3))] := hl
  have iX4 : ∀ w ∈ u_ws RX4 TX4 3, w ∈ wsX5_tell := by decide +kernel
  have iX5 : ∀ w ∈ u_ws RX5 TX5 11, w ∈ wsX5_tell := by decide +kernel
  have X : zX D B0 (zj (layC cA a G S) M) s.heap s.heap [] := ⟨hP, hS⟩
  have hI0 := hI.1
  unfold SI0 at hI0
  obtain ⟨b1, b2, b3, b4, b5, b8, b17, b19, b7⟩ := hI0
  unfold zr at hx1 hx2 hx3
  refine lv_aload_n E.1 E.2.1 dX5_tell_0 rfl (lv_at hl 0 rfl) ?_
  refine lv_iload_n E.1 E.2.1 dX5_tell_1 rfl (lv_at hl 1 rfl) ?_
  refine z_callV (As := [.int (i32 x1)]) (rest := []) (n := 1) E X (lC_0 M cA a G S) rfl (x_en l D cA B0 M a G S hI.1 x1 ⟨by omega, by omega⟩) gX5_tell_X5_elementNumbered rfl (by decide +kernel) ⟨by decide, by decide⟩ rfl hl.1 rfl (Nat.le_of_ble_eq_true rfl) dX5_tell_2 ⟨by decide, by decide⟩ X.1 0 0 ⟨rfl, rfl⟩ (fun v H locs hv hS_1 => ?_)
  obtain ⟨hv, hw⟩ := hv
  replace X : zX D B0 (zj (layC cA a G S) M) s.heap H locs := ⟨hw, hS_1⟩
  rcases hv with ⟨ea, rfl, he_3, rfl⟩ | ⟨hn_4, rfl⟩
  · refine lv_astore (lv' := [(4, .ref (a 10 ea)), (0, .ref (a 0 0)), (1, .int (i32 (ea : Int))), (2, .int (i32 x2)), (3, .int (i32 x3))]) E.1 E.2.1 dX5_tell_5 hl (by decide) rfl (fun ls hl => ?_)
    refine lv_aload_n E.1 E.2.1 dX5_tell_7 rfl (lv_at hl 1 rfl) ?_
    refine lv_iload_n E.1 E.2.1 dX5_tell_8 rfl (lv_at hl 3 rfl) ?_
    refine z_callV (As := [.int (i32 x2)]) (rest := []) (n := 1) E X (lC_0 M cA a G S) rfl (x_en l D cA B0 M a G S hI.1 x2 ⟨by omega, by omega⟩) gX5_tell_X5_elementNumbered rfl (by decide +kernel) ⟨by decide, by decide⟩ rfl hl.1 rfl (Nat.le_of_ble_eq_true rfl) dX5_tell_9 ⟨by decide, by decide⟩ X.1 0 0 ⟨rfl, rfl⟩ (fun v H locs hv hS_5 => ?_)
    obtain ⟨hv, hw⟩ := hv
    replace X : zX D B0 (zj (layC cA a G S) M) s.heap H locs := ⟨hw, hS_5⟩
    rcases hv with ⟨eb, rfl, he_7, rfl⟩ | ⟨hn_8, rfl⟩
    · refine lv_astore (lv' := [(5, .ref (a 10 eb)), (4, .ref (a 10 ea)), (0, .ref (a 0 0)), (1, .int (i32 (ea : Int))), (2, .int (i32 (eb : Int))), (3, .int (i32 x3))]) E.1 E.2.1 dX5_tell_12 hl (by decide) rfl (fun ls hl => ?_)
      refine lv_aload E.1 E.2.1 dX5_tell_14 (lv_at hl 1 rfl) ?_
      refine lv_ifnull E.1 E.2.1 dX5_tell_16 ?_
      refine lv_aload E.1 E.2.1 dX5_tell_19 (lv_at hl 0 rfl) ?_
      refine lv_ifnonnull (tgt := 26) E.1 E.2.1 dX5_tell_21 (by decide) ?_
      refine lv_iload_n E.1 E.2.1 dX5_tell_26 rfl (lv_at hl 5 rfl) ?_
      refine z_iconst E dX5_tell_27 ?_
      refine z_sipush E dX5_tell_28 (by decide +kernel) ?_
      refine z_callJ (As := [.int (i32 x3), .int (i32 0), .int (i32 4000)]) (rest := []) (n := 3) E X (c_outside l D cA B0 _ x3 0 4000 ⟨by omega, by omega⟩ ⟨by omega, by omega⟩ ⟨by omega, by omega⟩) gX5_tell_X5_outside rfl (by decide +kernel) ⟨by decide, by decide⟩ rfl hl.1 rfl (Nat.le_of_ble_eq_true rfl) dX5_tell_31 ⟨by decide, by decide⟩ rfl 0 0 ⟨rfl, rfl⟩ (fun v H locs hv hS_9 => ?_)
      obtain ⟨hH, z_10, rfl, ez_10⟩ := hv
      subst hH
      replace X := X.same hS_9
      refine z_feq E 40 ⟨by omega, by omega⟩ dX5_tell_34 (by decide) (fun h34_11 => ?_) (fun h34_11 => ?_)
      · refine lv_aload_n E.1 E.2.1 dX5_tell_40 rfl (lv_at hl 2 rfl) ?_
        refine z_get E X (lC_0 M cA a G S) rfl iX5 8 (by decide) (by decide +kernel) (v := .int (i32 (S 19 0))) rfl dX5_tell_41 ?_
        refine z_bipush E dX5_tell_44 (by decide +kernel) ?_
        refine z_clt E 52 ⟨by omega, by omega⟩ ⟨by omega, by omega⟩ dX5_tell_46 (by decide) (fun h46_12 => ?_) (fun h46_12 => ?_)
        · obtain ⟨n, hn⟩ : ∃ n : Nat, S 19 0 = (n : Int) := ⟨(S 19 0).toNat, by omega⟩
          refine lv_aload_n E.1 E.2.1 dX5_tell_52 rfl (lv_at hl 2 rfl) ?_
          refine z_get E X (lC_0 M cA a G S) rfl iX5 3 (by decide) (by decide +kernel) (v := .ref (a 6 0)) rfl dX5_tell_53 ?_
          refine lv_aload_n E.1 E.2.1 dX5_tell_56 rfl (lv_at hl 2 rfl) ?_
          refine z_get E X (lC_0 M cA a G S) rfl iX5 8 (by decide) (by decide +kernel) (v := .int (i32 (S 19 0))) rfl dX5_tell_57 ?_
          refine z_new (fs := [.null, .null, .int 0]) E X 14 n 4 rfl iX4 tyX4 tyX4_ok (by decide +kernel) (by decide +kernel) (by decide +kernel) (fun j hj => by rcases (show j = 0 ∨ j = 1 ∨ j = 2 by omega) with rfl | rfl | rfl <;> rfl) (by decide) (by decide) dX5_tell_60 (fun q_13 H X => ?_)
          refine W.widen (k := 1) (n := 3) (by omega) (by omega) ?_
          have X : zX D B0 (zu (zj (layC cA a G S) M) 14 n (some (q_13, .inr (4, [.null, .null, .int 0])))) s.heap H _ := X
          refine lv_dup E.1 E.2.1 dX5_tell_63 rfl ?_
          refine lv_aload E.1 E.2.1 dX5_tell_64 (lv_at hl 1 rfl) ?_
          refine lv_aload E.1 E.2.1 dX5_tell_66 (lv_at hl 0 rfl) ?_
          refine lv_iload_n E.1 E.2.1 dX5_tell_68 rfl (lv_at hl 5 rfl) ?_
          refine z_callI (As := [.ref (a 10 ea), .ref (a 10 eb), .int (i32 x3)]) (rest := [.ref q_13, .int (i32 (S 19 0)), .ref (a 6 0)]) (n := 3) E X (O_init l D cA B0 (zj (layC cA a G S) M) n q_13 (a 10 ea) (a 10 eb) x3) gX5_tell_X4_init rfl (by decide +kernel) (by decide +kernel) (by decide +kernel) rfl (by decide +kernel) ⟨by decide, by decide⟩ rfl hl.1 rfl (Nat.le_of_ble_eq_true rfl) dX5_tell_69 ⟨by decide, by decide⟩ X.1 1 3 ⟨rfl, rfl⟩ (fun v H locs hv hS_14 => ?_)
          obtain ⟨rfl, hw⟩ := hv
          have X : zX D B0 (zu (zj (layC cA a G S) M) 14 n (some (q_13, .inr (4, [.ref (a 10 ea), .ref (a 10 eb), .int (i32 x3)])))) s.heap H locs := ⟨hw, hS_14⟩
          refine z_aast (r := (RX4, TX4, 3)) E X 4 ((zu_ne (by omega)).trans (lC_6 M cA a G S)) rfl (zu_self _ _ _ _) rfl n (by omega) (by omega) (by decide) dX5_tell_72 (fun H locs X => ?_)
          refine lv_aload_n E.1 E.2.1 dX5_tell_73 rfl (lv_at hl 2 rfl) ?_
          refine lv_dup E.1 E.2.1 dX5_tell_74 rfl ?_
          refine z_get E X ((zu_ne (by omega)).trans ((zu_ne (by omega)).trans (lC_0 M cA a G S))) rfl iX5 8 (by decide) (by decide +kernel) (v := .int (i32 (S 19 0))) rfl dX5_tell_75 ?_
          refine z_iconst E dX5_tell_78 ?_
          refine z_iadd E dX5_tell_79 ?_
          refine z_put E X ((zu_ne (by omega)).trans ((zu_ne (by omega)).trans (lC_0 M cA a G S))) rfl iX5 tyX5 tyX5_ok nmX5 8 (by decide) (by decide +kernel) rfl rfl rfl (Nat.le_of_ble_eq_true rfl) dX5_tell_80 (fun H locs X => ?_)
          have X : zX D B0 (zu (zu (zu (zj (layC cA a G S) M) 14 n (some (q_13, .inr (4, [.ref (a 10 ea), .ref (a 10 eb), .int (i32 x3)])))) 6 0 (some (kQ (cA 4) (a 6 0) 6 (va_up (fun j => opt ((j : Int) < S 19 0) (a 14 j)) n (some q_13))))) 0 0 (some (a 0 0, .inr (5, (cfs a S).set 8 (.int (i32 ((S 19 0) + 1))))))) s.heap H locs := X
          have X := cw_tell hn X
          refine lv_aload_n E.1 E.2.1 dX5_tell_83 rfl (lv_at hl 2 rfl) ?_
          refine z_get E X (lC_0 M cA (ua a 14 n q_13) G (zs (zs (zs (zs S 20 n (ea : Int)) 21 n (eb : Int)) 22 n x3) 19 0 (S 19 0 + 1))) rfl iX5 8 (by decide) (by decide +kernel) (v := .int (i32 (S 19 0 + 1))) rfl dX5_tell_84 ?_
          have ef : fTell S (ea : Int) (eb : Int) x3 = (S 19 0 + 1, zs (zs (zs (zs S 20 n (ea : Int)) 21 n (eb : Int)) 22 n x3) 19 0 (S 19 0 + 1)) := by
            unfold fTell
            rw [if_neg (by omega), if_neg (by omega), if_neg (by omega), show (S 19 0).toNat = n by omega]
          exact z_ret E X hQ (⟨(congrArg (fun w => some (Value.int (i32 w.1))) ef).symm, (ua a 14 n q_13), G, rfl, by rw [ef]; exact hG, by rw [ef]; exact X.1⟩) dX5_tell_87
        · refine z_bipush E dX5_tell_49 (by decide +kernel) ?_
          refine W.widen (k := 1) (n := 3) (by omega) (by omega) ?_
          have ef : fTell S (ea : Int) (eb : Int) x3 = (-4, S) := by
            unfold fTell
            try unfold fFind
            try simp only [Int.toNat_natCast]
            repeat' split
            all_goals first | rfl | (exfalso; omega)
          exact z_ret E X hQ (⟨(congrArg (fun w => some (Value.int (i32 w.1))) ef).symm, a, G, rfl, by rw [ef]; exact hG, by rw [ef]; exact X.1⟩) dX5_tell_51
      · refine z_bipush E dX5_tell_37 (by decide +kernel) ?_
        refine W.widen (k := 1) (n := 3) (by omega) (by omega) ?_
        have ef : fTell S (ea : Int) (eb : Int) x3 = (-2, S) := by
          unfold fTell
          try unfold fFind
          try simp only [Int.toNat_natCast]
          repeat' split
          all_goals first | rfl | (exfalso; omega)
        exact z_ret E X hQ (⟨(congrArg (fun w => some (Value.int (i32 w.1))) ef).symm, a, G, rfl, by rw [ef]; exact hG, by rw [ef]; exact X.1⟩) dX5_tell_39
    · refine lv_astoreN (lv' := [(5, .null), (4, .ref (a 10 ea)), (0, .ref (a 0 0)), (1, .int (i32 (ea : Int))), (2, .int (i32 x2)), (3, .int (i32 x3))]) E.1 E.2.1 dX5_tell_12 hl (by decide) rfl (fun ls hl => ?_)
      refine lv_aload E.1 E.2.1 dX5_tell_14 (lv_at hl 1 rfl) ?_
      refine lv_ifnull E.1 E.2.1 dX5_tell_16 ?_
      refine lv_aloadN E.1 E.2.1 dX5_tell_19 (lv_at hl 0 rfl) ?_
      refine lv_ifnonnullN E.1 E.2.1 dX5_tell_21 ?_
      refine z_iconst E dX5_tell_24 ?_
      refine W.widen (k := 1) (n := 3) (by omega) (by omega) ?_
      have ef : fTell S (ea : Int) x2 x3 = (-1, S) := by
        unfold fTell
        try unfold fFind
        try simp only [Int.toNat_natCast]
        repeat' split
        all_goals first | rfl | (exfalso; omega)
      exact z_ret E X hQ (⟨(congrArg (fun w => some (Value.int (i32 w.1))) ef).symm, a, G, rfl, by rw [ef]; exact hG, by rw [ef]; exact X.1⟩) dX5_tell_25
  · refine lv_astoreN (lv' := [(4, .null), (0, .ref (a 0 0)), (1, .int (i32 x1)), (2, .int (i32 x2)), (3, .int (i32 x3))]) E.1 E.2.1 dX5_tell_5 hl (by decide) rfl (fun ls hl => ?_)
    refine lv_aload_n E.1 E.2.1 dX5_tell_7 rfl (lv_at hl 1 rfl) ?_
    refine lv_iload_n E.1 E.2.1 dX5_tell_8 rfl (lv_at hl 3 rfl) ?_
    refine z_callV (As := [.int (i32 x2)]) (rest := []) (n := 1) E X (lC_0 M cA a G S) rfl (x_en l D cA B0 M a G S hI.1 x2 ⟨by omega, by omega⟩) gX5_tell_X5_elementNumbered rfl (by decide +kernel) ⟨by decide, by decide⟩ rfl hl.1 rfl (Nat.le_of_ble_eq_true rfl) dX5_tell_9 ⟨by decide, by decide⟩ X.1 0 0 ⟨rfl, rfl⟩ (fun v H locs hv hS_15 => ?_)
    obtain ⟨hv, hw⟩ := hv
    replace X : zX D B0 (zj (layC cA a G S) M) s.heap H locs := ⟨hw, hS_15⟩
    rcases hv with ⟨eb, rfl, he_17, rfl⟩ | ⟨hn_18, rfl⟩
    · refine lv_astore (lv' := [(5, .ref (a 10 eb)), (4, .null), (0, .ref (a 0 0)), (1, .int (i32 x1)), (2, .int (i32 (eb : Int))), (3, .int (i32 x3))]) E.1 E.2.1 dX5_tell_12 hl (by decide) rfl (fun ls hl => ?_)
      refine lv_aloadN E.1 E.2.1 dX5_tell_14 (lv_at hl 1 rfl) ?_
      refine lv_ifnullN (tgt := 24) E.1 E.2.1 dX5_tell_16 (by decide) ?_
      refine z_iconst E dX5_tell_24 ?_
      refine W.widen (k := 1) (n := 3) (by omega) (by omega) ?_
      have ef : fTell S x1 (eb : Int) x3 = (-1, S) := by
        unfold fTell
        try unfold fFind
        try simp only [Int.toNat_natCast]
        repeat' split
        all_goals first | rfl | (exfalso; omega)
      exact z_ret E X hQ (⟨(congrArg (fun w => some (Value.int (i32 w.1))) ef).symm, a, G, rfl, by rw [ef]; exact hG, by rw [ef]; exact X.1⟩) dX5_tell_25
    · refine lv_astoreN (lv' := [(5, .null), (4, .null), (0, .ref (a 0 0)), (1, .int (i32 x1)), (2, .int (i32 x2)), (3, .int (i32 x3))]) E.1 E.2.1 dX5_tell_12 hl (by decide) rfl (fun ls hl => ?_)
      refine lv_aloadN E.1 E.2.1 dX5_tell_14 (lv_at hl 1 rfl) ?_
      refine lv_ifnullN (tgt := 24) E.1 E.2.1 dX5_tell_16 (by decide) ?_
      refine z_iconst E dX5_tell_24 ?_
      refine W.widen (k := 1) (n := 3) (by omega) (by omega) ?_
      have ef : fTell S x1 x2 x3 = (-1, S) := by
        unfold fTell
        try unfold fFind
        try simp only [Int.toNat_natCast]
        repeat' split
        all_goals first | rfl | (exfalso; omega)
      exact z_ret E X hQ (⟨(congrArg (fun w => some (Value.int (i32 w.1))) ef).symm, a, G, rfl, by rw [ef]; exact hG, by rw [ef]; exact X.1⟩) dX5_tell_25

abbrev rX5_forget : Room := { frames := 0, cells := 0, slots := 0, locals := 0 }
set_option maxHeartbeats 4000000 in
set_option maxRecDepth 100000 in
theorem X_forget (l : Launch) (D : va_G) (cA : Nat → ClassId) (B0 : Nat) (M : zL) (a : Nat → Nat → Nat) (G : zG) (S : zS) (hI : SI S) (hG : CG S G) : zM l yX5_forget wsX5_forget rX5_forget [.ref (a 0 0)] D cA B0 (zW D B0 (zj (layC cA a G S) M)) (fun v H => v = some (.int (i32 (fForget S ).1)) ∧ ∃ (a2 : Nat → Nat → Nat) (G2 : zG), a2 0 0 = a 0 0 ∧ CG (fForget S ).2 G2 ∧ zW D B0 (zj (layC cA a2 G2 (fForget S ).2) M) H) := by
  refine z_met (cc := cX5_forget) (maxL := 3) (ret := (some .int)) (by decide) rfl (Nat.le_of_ble_eq_true rfl) ?_
  intro p e s m args below meth c ls Q hQ E hP hB hS hl
  have hl : lv_has ls 3 [(0, .ref (a 0 0))] := hl
  have iX5 : ∀ w ∈ u_ws RX5 TX5 11, w ∈ wsX5_forget := by decide +kernel
  have X : zX D B0 (zj (layC cA a G S) M) s.heap s.heap [] := ⟨hP, hS⟩
  have hI0 := hI.1
  unfold SI0 at hI0
  obtain ⟨b1, b2, b3, b4, b5, b8, b17, b19, b7⟩ := hI0
  refine lv_aload_n E.1 E.2.1 dX5_forget_0 rfl (lv_at hl 0 rfl) ?_
  refine z_get E X (lC_0 M cA a G S) rfl iX5 8 (by decide) (by decide +kernel) (v := .int (i32 (S 19 0))) rfl dX5_forget_1 ?_
  refine lv_istore_n (lv' := [(1, .int (i32 (S 19 0))), (0, .ref (a 0 0))]) E.1 E.2.1 dX5_forget_4 rfl hl (by decide) rfl (fun ls hl => ?_)
  refine z_iconst E dX5_forget_5 ?_
  refine z_top (0 : Int) (rfl) ?_
  refine lv_istore_n (lv' := [(2, .int (i32 (0 : Int))), (1, .int (i32 (S 19 0))), (0, .ref (a 0 0))]) E.1 E.2.1 dX5_forget_6 rfl hl (by decide) rfl (fun ls hl => ?_)
  have X : zX D B0 (zu (zj (layC cA a G S) M) 6 0 (some (kQ (cA 4) (a 6 0) 6 (fgt S a 0)))) s.heap s.heap [] := by
    have ez : (fun j : Nat => opt ((j : Int) < S 19 0) (a 14 j)) = fgt S a 0 := funext (fun j => (if_neg (Nat.not_lt_zero j)).symm)
    rw [zu_id ((lC_6 M cA a G S).trans (by rw [ez]))]
    exact X
  have key7 : ∀ (N : Nat) (n : Nat) (H : Heap) (locs : List Loc) (ls : Array Slot), (6 - n) < N → (n ≤ 6) → zX D B0 (zu (zj (layC cA a G S) M) 6 0 (some (kQ (cA 4) (a 6 0) 6 (fgt S a n)))) s.heap H locs → lv_has ls 3 [(0, .ref (a 0 0)), (1, .int (i32 (S 19 0))), (2, .int (i32 (n : Int)))] → W p l e rX5_forget s m args below meth c H locs 0 0 Q (F0 m 7 ls []) := by
    intro N
    induction N with
    | zero => intros; omega
    | succ N ih7 =>
      intro n H locs ls hN hn X hl
      refine lv_iload_n E.1 E.2.1 dX5_forget_7 rfl (lv_at hl 2 rfl) ?_
      refine lv_aload_n E.1 E.2.1 dX5_forget_8 rfl (lv_at hl 0 rfl) ?_
      refine z_get E X ((zu_ne (by omega)).trans (lC_0 M cA a G S)) rfl iX5 3 (by decide) (by decide +kernel) (v := .ref (a 6 0)) rfl dX5_forget_9 ?_
      refine z_alen (z := 6) E X 4 (zu_self _ _ _ _) rfl (by omega) dX5_forget_12 ?_
      refine z_cge E 29 ⟨by omega, by omega⟩ ⟨by omega, by omega⟩ dX5_forget_13 (by decide) (fun h13_1 => ?_) (fun h13_1 => ?_)
      · rw [show n = 6 by omega] at X
        refine lv_aload_n E.1 E.2.1 dX5_forget_29 rfl (lv_at hl 0 rfl) ?_
        refine z_iconst E dX5_forget_30 ?_
        refine z_put E X ((zu_ne (by omega)).trans (lC_0 M cA a G S)) rfl iX5 tyX5 tyX5_ok nmX5 8 (by decide) (by decide +kernel) rfl rfl rfl (Nat.le_of_ble_eq_true rfl) dX5_forget_31 (fun H locs X => ?_)
        have X : zX D B0 (zu (zu (zj (layC cA a G S) M) 6 0 (some (kQ (cA 4) (a 6 0) 6 (fgt S a 6)))) 0 0 (some (a 0 0, .inr (5, (cfs a S).set 8 (.int (i32 0)))))) s.heap H locs := X
        have X := cw_forget (by omega) X
        refine lv_iload_n E.1 E.2.1 dX5_forget_34 rfl (lv_at hl 1 rfl) ?_
        have ef : fForget S  = (S 19 0, zs S 19 0 0) := by
          rfl
        exact z_ret E X hQ (⟨(congrArg (fun w => some (Value.int (i32 w.1))) ef).symm, a, G, rfl, by rw [ef]; exact hG, by rw [ef]; exact X.1⟩) dX5_forget_35
      · refine lv_aload_n E.1 E.2.1 dX5_forget_16 rfl (lv_at hl 0 rfl) ?_
        refine z_get E X ((zu_ne (by omega)).trans (lC_0 M cA a G S)) rfl iX5 3 (by decide) (by decide +kernel) (v := .ref (a 6 0)) rfl dX5_forget_17 ?_
        refine lv_iload_n E.1 E.2.1 dX5_forget_20 rfl (lv_at hl 2 rfl) ?_
        refine lv_null E.1 E.2.1 dX5_forget_21 ?_
        refine z_aastN (C := "EchoRow$Told") E X 4 (zu_self _ _ _ _) rfl n (by omega) (by omega) (by decide) dX5_forget_22 (fun H locs X => ?_)
        rw [zu_zu, fgt_S] at X
        refine z_iinc (lv' := [(2, .int (i32 ((n + 1 : Nat) : Int))), (0, .ref (a 0 0)), (1, .int (i32 (S 19 0)))]) E dX5_forget_23 hl (k := 2) rfl (by decide) rfl (fun ls hl => ?_)
        refine lv_goto (tgt := 7) E.1 E.2.1 dX5_forget_26 (by decide) ?_
        exact ih7 (n + 1) _ _ _ (by omega) (by omega) X (lv_sub hl [1, 2, 0] rfl)
  exact key7 ((6 - 0) + 1) 0 _ _ _ (by omega) (by omega) X (lv_sub hl [2, 1, 0] rfl)

abbrev rX5_tear : Room := { frames := 2, cells := 0, slots := 0, locals := 42 }
set_option maxHeartbeats 4000000 in
set_option maxRecDepth 100000 in
theorem X_tear (l : Launch) (D : va_G) (cA : Nat → ClassId) (B0 : Nat) (M : zL) (a : Nat → Nat → Nat) (G : zG) (S : zS) (hI : SI S) (hG : CG S G) (x1 : Int) (hx1 : zr x1) : zM l yX5_tear wsX5_tear rX5_tear [.ref (a 0 0), .int (i32 x1)] D cA B0 (zW D B0 (zj (layC cA a G S) M)) (fun v H => v = some (.int (i32 (fTear S x1).1)) ∧ ∃ (a2 : Nat → Nat → Nat) (G2 : zG), a2 0 0 = a 0 0 ∧ CG (fTear S x1).2 G2 ∧ zW D B0 (zj (layC cA a2 G2 (fTear S x1).2) M) H) := by
  refine z_met (cc := cX5_tear) (maxL := 3) (ret := (some .int)) (by decide) rfl (Nat.le_of_ble_eq_true rfl) ?_
  intro p e s m args below meth c ls Q hQ E hP hB hS hl
  have hl : lv_has ls 3 [(0, .ref (a 0 0)), (1, .int (i32 x1))] := hl
  have iX5 : ∀ w ∈ u_ws RX5 TX5 11, w ∈ wsX5_tear := by decide +kernel
  have X : zX D B0 (zj (layC cA a G S) M) s.heap s.heap [] := ⟨hP, hS⟩
  have hI0 := hI.1
  unfold SI0 at hI0
  obtain ⟨b1, b2, b3, b4, b5, b8, b17, b19, b7⟩ := hI0
  unfold zr at hx1
  refine lv_iload_n E.1 E.2.1 dX5_tear_0 rfl (lv_at hl 1 rfl) ?_
  refine z_callJ (As := [.int (i32 x1)]) (rest := []) (n := 1) E X (c_noSheet l D cA B0 _ x1 ⟨by omega, by omega⟩) gX5_tear_X5_noSheet rfl (by decide +kernel) ⟨by decide, by decide⟩ rfl hl.1 rfl (Nat.le_of_ble_eq_true rfl) dX5_tear_1 ⟨by decide, by decide⟩ rfl 0 0 ⟨rfl, rfl⟩ (fun v H locs hv hS_1 => ?_)
  obtain ⟨hH, z_2, rfl, ez_2⟩ := hv
  subst hH
  replace X := X.same hS_1
  refine z_feq E 14 ⟨by omega, by omega⟩ dX5_tear_4 (by decide) (fun h4_3 => ?_) (fun h4_3 => ?_)
  · obtain ⟨q, rfl⟩ : ∃ q : Nat, x1 = (q : Int) := ⟨x1.toNat, by omega⟩
    have h4 := hI.2.2.2.2.1.1 q (by omega)
    refine lv_aload_n E.1 E.2.1 dX5_tear_14 rfl (lv_at hl 0 rfl) ?_
    refine z_get E X (lC_0 M cA a G S) rfl iX5 4 (by decide) (by decide +kernel) (v := .ref (a 7 0)) rfl dX5_tear_15 ?_
    refine lv_iload_n E.1 E.2.1 dX5_tear_18 rfl (lv_at hl 1 rfl) ?_
    by_cases hp_4 : 0 ≤ S 23 q
    · refine z_aldS (C := "EchoRow$Sheet") E X 5 (lC_7 M cA a G S) rfl q (by omega) (by omega) (by decide) (if_pos hp_4) dX5_tear_19 ?_
      refine lv_ifnonnull (tgt := 27) E.1 E.2.1 dX5_tear_20 (by decide) ?_
      refine z_iconst E dX5_tear_27 ?_
      refine lv_istore_n (lv' := [(2, .int (i32 0)), (0, .ref (a 0 0)), (1, .int (i32 (q : Int)))]) E.1 E.2.1 dX5_tear_28 rfl hl (by decide) rfl (fun ls hl => ?_)
      refine lv_aload_n E.1 E.2.1 dX5_tear_29 rfl (lv_at hl 1 rfl) ?_
      refine z_get E X (lC_0 M cA a G S) rfl iX5 4 (by decide) (by decide +kernel) (v := .ref (a 7 0)) rfl dX5_tear_30 ?_
      refine lv_iload_n E.1 E.2.1 dX5_tear_33 rfl (lv_at hl 2 rfl) ?_
      refine lv_null E.1 E.2.1 dX5_tear_34 ?_
      refine z_aastN (C := "EchoRow$Sheet") E X 5 (lC_7 M cA a G S) rfl q (by omega) (by omega) (by decide) dX5_tear_35 (fun H locs X => ?_)
      have X := cw_tear (by omega) X
      refine lv_iload_n E.1 E.2.1 dX5_tear_36 rfl (lv_at hl 0 rfl) ?_
      have ef : fTear S (q : Int) = (0, zs S 23 q (-1)) := by
        unfold fTear
        try unfold fFind
        try simp only [Int.toNat_natCast]
        repeat' split
        all_goals first | rfl | (exfalso; omega)
      exact z_ret E X hQ (⟨(congrArg (fun w => some (Value.int (i32 w.1))) ef).symm, a, G, rfl, by rw [ef]; exact hG, by rw [ef]; exact X.1⟩) dX5_tear_37
    · refine z_aldN (C := "EchoRow$Sheet") E X 5 (lC_7 M cA a G S) rfl q (by omega) (by omega) (by decide) (if_neg hp_4) dX5_tear_19 ?_
      refine lv_ifnonnullN E.1 E.2.1 dX5_tear_20 ?_
      refine z_iconst E dX5_tear_23 ?_
      refine lv_goto (tgt := 28) E.1 E.2.1 dX5_tear_24 (by decide) ?_
      refine lv_istore_n (lv' := [(2, .int (i32 1)), (0, .ref (a 0 0)), (1, .int (i32 (q : Int)))]) E.1 E.2.1 dX5_tear_28 rfl hl (by decide) rfl (fun ls hl => ?_)
      refine lv_aload_n E.1 E.2.1 dX5_tear_29 rfl (lv_at hl 1 rfl) ?_
      refine z_get E X (lC_0 M cA a G S) rfl iX5 4 (by decide) (by decide +kernel) (v := .ref (a 7 0)) rfl dX5_tear_30 ?_
      refine lv_iload_n E.1 E.2.1 dX5_tear_33 rfl (lv_at hl 2 rfl) ?_
      refine lv_null E.1 E.2.1 dX5_tear_34 ?_
      refine z_aastN (C := "EchoRow$Sheet") E X 5 (lC_7 M cA a G S) rfl q (by omega) (by omega) (by decide) dX5_tear_35 (fun H locs X => ?_)
      have X := cw_tear (by omega) X
      refine lv_iload_n E.1 E.2.1 dX5_tear_36 rfl (lv_at hl 0 rfl) ?_
      have ef : fTear S (q : Int) = (1, zs S 23 q (-1)) := by
        unfold fTear
        try unfold fFind
        try simp only [Int.toNat_natCast]
        repeat' split
        all_goals first | rfl | (exfalso; omega)
      exact z_ret E X hQ (⟨(congrArg (fun w => some (Value.int (i32 w.1))) ef).symm, a, G, rfl, by rw [ef]; exact hG, by rw [ef]; exact X.1⟩) dX5_tear_37
  · refine lv_aload_n E.1 E.2.1 dX5_tear_7 rfl (lv_at hl 0 rfl) ?_
    refine z_bipush E dX5_tear_8 (by decide +kernel) ?_
    refine z_callV (As := [.int (i32 (-12))]) (rest := []) (n := 1) E X (lC_0 M cA a G S) rfl (x_found l D cA B0 M a G S (-12)) gX5_tear_X5_found rfl (by decide +kernel) ⟨by decide, by decide⟩ rfl hl.1 rfl (Nat.le_of_ble_eq_true rfl) dX5_tear_10 ⟨by decide, by decide⟩ X.1 0 0 ⟨rfl, rfl⟩ (fun v H locs hv hS_5 => ?_)
    obtain ⟨rfl, hw⟩ := hv
    replace X : zX D B0 (zj (layC cA a G (zs S 27 0 (S 27 0 + 1))) M) s.heap H locs := ⟨hw, hS_5⟩
    have ef : fTear S x1 = (-12, zs S 27 0 (S 27 0 + 1)) := by
      unfold fTear
      try unfold fFind
      try simp only [Int.toNat_natCast]
      repeat' split
      all_goals first | rfl | (exfalso; omega)
    exact z_ret E X hQ (⟨(congrArg (fun w => some (Value.int (i32 w.1))) ef).symm, a, G, rfl, by rw [ef]; exact CG_27 hG, by rw [ef]; exact X.1⟩) dX5_tear_13

abbrev rX5_newTarget : Room := { frames := 2, cells := 2, slots := 70, locals := 49 }
section ZLK
variable {p : Program} {l : Launch} {e : Env} {R : Room} {s : State} {m : MethodId} {args : Array Value} {below : List Frame} {meth : Method} {c : Code} {H : Heap} {locs : List Loc} {cells slots : Nat} {Q : State → Prop}
variable {cc : ByteArray} {pc : Nat} {ls : Array Slot} {rest : List Value} {own nm : String} {ws : List Cond} {ml : Nat} {ret : Option FieldType} {D : va_G} {cA : Nat → ClassId}
theorem z_lookup (E : zE p s m args meth c cc own nm ws ml ret D cA) {dflt : Int} {ps : Array (Int × Int)} {len : Nat} {z : Int} (off : Int) (tgt : Nat) (d : decode cc pc = .ok (.lookupswitch dflt ps, len)) (hr : zr z) (hp : (ps.toList.zip (ps.toList.drop 1)).all (fun (a, next) => a.1 < next.1) = true) (ho : Op.lookupswitch.offset ps.toList dflt z = off) (ht : (pc : Int) + off = (tgt : Int)) (k : W p l e R s m args below meth c H locs cells slots Q (F0 m tgt ls rest)) : W p l e R s m args below meth c H locs cells slots Q (F0 m pc ls (.int (i32 z) :: rest)) :=
  lv_lookup E.1 E.2.1 d hp (by rw [i32_toInt hr.1 hr.2]; exact ho) ht k
end ZLK
def tfa (k x : Int) : Int := if k = 2 then 0 else x
def tfb (k x z : Int) : Int := if k = 2 then 50 else if k = 1 then z else x
set_option maxHeartbeats 4000000 in
set_option maxRecDepth 100000 in
theorem x_newTarget (l : Launch) (D : va_G) (cA : Nat → ClassId) (B0 : Nat) (L : zL) (n : Nat) (k x z y st : Int) (hk : 0 ≤ k ∧ k ≤ 2) : zM l yX5_newTarget wsX5_newTarget rX5_newTarget [.int (i32 k), .int (i32 x), .int (i32 z), .int (i32 y), .int (i32 st)] D cA B0 (zW D B0 L) (fun v H => ∃ q q1 : Nat, v = some (.ref q) ∧ zW D B0 (zu (zu L 12 n (some (q, .inr (3, [.int (i32 k), .int (i32 (tfa k x)), .int (i32 (tfb k x z)), .int (i32 (tfa k y)), .int (i32 st), .ref q1])))) 13 n (some (kI cA q1 64 (fun _ => -1)))) H) := by
  refine z_met (cc := cX5_newTarget) (maxL := 5) (ret := (some (.object "EchoRow$Target"))) (by decide) rfl (Nat.le_of_ble_eq_true rfl) ?_
  intro p e s m args below meth c ls Q hQ E hP hB hS hl
  have hl : lv_has ls 5 [(0, .int (i32 k)), (1, .int (i32 x)), (2, .int (i32 z)), (3, .int (i32 y)), (4, .int (i32 st))] := hl
  have iX3 : ∀ w ∈ u_ws RX3 TX3 6, w ∈ wsX5_newTarget := by decide +kernel
  have X : zX D B0 L s.heap s.heap [] := ⟨hP, hS⟩
  refine lv_iload_n E.1 E.2.1 dX5_newTarget_0 rfl (lv_at hl 0 rfl) ?_
  have hk3 : k = 0 ∨ k = 1 ∨ k = 2 := by omega
  rcases hk3 with rfl | rfl | rfl
  · refine z_lookup E 27 28 dX5_newTarget_1 ⟨by decide, by decide⟩ (by decide) (by decide) (by decide) ?_
    refine z_new (fs := [.int 0, .int 0, .int 0, .int 0, .int 0, .null]) E X 12 n 3 rfl iX3 tyX3 tyX3_ok (by decide +kernel) (by decide +kernel) (by decide +kernel) (fun j hj => by rcases (show j = 0 ∨ j = 1 ∨ j = 2 ∨ j = 3 ∨ j = 4 ∨ j = 5 by omega) with rfl | rfl | rfl | rfl | rfl | rfl <;> rfl) (by decide) (by decide) dX5_newTarget_28 (fun q_1 H X => ?_)
    refine W.widen (k := 1) (n := 6) (by omega) (by omega) ?_
    have X : zX D B0 (zu (L) 12 n (some (q_1, .inr (3, [.int 0, .int 0, .int 0, .int 0, .int 0, .null])))) s.heap H _ := X
    refine lv_dup E.1 E.2.1 dX5_newTarget_31 rfl ?_
    refine z_iconst E dX5_newTarget_32 ?_
    refine lv_iload_n E.1 E.2.1 dX5_newTarget_33 rfl (lv_at hl 1 rfl) ?_
    refine lv_iload_n E.1 E.2.1 dX5_newTarget_34 rfl (lv_at hl 1 rfl) ?_
    refine lv_iload_n E.1 E.2.1 dX5_newTarget_35 rfl (lv_at hl 3 rfl) ?_
    refine lv_iload E.1 E.2.1 dX5_newTarget_36 (lv_at hl 4 rfl) ?_
    refine z_callI (As := [.int (i32 0), .int (i32 x), .int (i32 x), .int (i32 y), .int (i32 st)]) (rest := [.ref q_1]) (n := 5) E X (T_init l D cA B0 (L) n q_1 0 x x y st) gX5_newTarget_X3_init rfl (by decide +kernel) (by decide +kernel) (by decide +kernel) rfl (by decide +kernel) ⟨by decide, by decide⟩ rfl hl.1 rfl (Nat.le_of_ble_eq_true rfl) dX5_newTarget_38 ⟨by decide, by decide⟩ X.1 2 70 ⟨rfl, rfl⟩ (fun v H locs hv hS_2 => ?_)
    obtain ⟨rfl, q_3, hw⟩ := hv
    have X : zX D B0 (zu (zu (L) 12 n (some (q_1, .inr (3, [.int (i32 0), .int (i32 x), .int (i32 x), .int (i32 y), .int (i32 st), .ref q_3])))) 13 n (some (kI cA q_3 64 (fun _ => -1)))) s.heap H locs := ⟨hw, hS_2⟩
    exact z_reta E X hQ (Or.inr ⟨_, rfl⟩) ⟨q_1, q_3, rfl, X.1⟩ dX5_newTarget_41
  · refine z_lookup E 41 42 dX5_newTarget_1 ⟨by decide, by decide⟩ (by decide) (by decide) (by decide) ?_
    refine z_new (fs := [.int 0, .int 0, .int 0, .int 0, .int 0, .null]) E X 12 n 3 rfl iX3 tyX3 tyX3_ok (by decide +kernel) (by decide +kernel) (by decide +kernel) (fun j hj => by rcases (show j = 0 ∨ j = 1 ∨ j = 2 ∨ j = 3 ∨ j = 4 ∨ j = 5 by omega) with rfl | rfl | rfl | rfl | rfl | rfl <;> rfl) (by decide) (by decide) dX5_newTarget_42 (fun q_4 H X => ?_)
    refine W.widen (k := 1) (n := 6) (by omega) (by omega) ?_
    have X : zX D B0 (zu (L) 12 n (some (q_4, .inr (3, [.int 0, .int 0, .int 0, .int 0, .int 0, .null])))) s.heap H _ := X
    refine lv_dup E.1 E.2.1 dX5_newTarget_45 rfl ?_
    refine z_iconst E dX5_newTarget_46 ?_
    refine lv_iload_n E.1 E.2.1 dX5_newTarget_47 rfl (lv_at hl 1 rfl) ?_
    refine lv_iload_n E.1 E.2.1 dX5_newTarget_48 rfl (lv_at hl 2 rfl) ?_
    refine lv_iload_n E.1 E.2.1 dX5_newTarget_49 rfl (lv_at hl 3 rfl) ?_
    refine lv_iload E.1 E.2.1 dX5_newTarget_50 (lv_at hl 4 rfl) ?_
    refine z_callI (As := [.int (i32 1), .int (i32 x), .int (i32 z), .int (i32 y), .int (i32 st)]) (rest := [.ref q_4]) (n := 5) E X (T_init l D cA B0 (L) n q_4 1 x z y st) gX5_newTarget_X3_init rfl (by decide +kernel) (by decide +kernel) (by decide +kernel) rfl (by decide +kernel) ⟨by decide, by decide⟩ rfl hl.1 rfl (Nat.le_of_ble_eq_true rfl) dX5_newTarget_52 ⟨by decide, by decide⟩ X.1 2 70 ⟨rfl, rfl⟩ (fun v H locs hv hS_5 => ?_)
    obtain ⟨rfl, q_6, hw⟩ := hv
    have X : zX D B0 (zu (zu (L) 12 n (some (q_4, .inr (3, [.int (i32 1), .int (i32 x), .int (i32 z), .int (i32 y), .int (i32 st), .ref q_6])))) 13 n (some (kI cA q_6 64 (fun _ => -1)))) s.heap H locs := ⟨hw, hS_5⟩
    exact z_reta E X hQ (Or.inr ⟨_, rfl⟩) ⟨q_4, q_6, rfl, X.1⟩ dX5_newTarget_55
  · refine z_lookup E 55 56 dX5_newTarget_1 ⟨by decide, by decide⟩ (by decide) (by decide) (by decide) ?_
    refine z_new (fs := [.int 0, .int 0, .int 0, .int 0, .int 0, .null]) E X 12 n 3 rfl iX3 tyX3 tyX3_ok (by decide +kernel) (by decide +kernel) (by decide +kernel) (fun j hj => by rcases (show j = 0 ∨ j = 1 ∨ j = 2 ∨ j = 3 ∨ j = 4 ∨ j = 5 by omega) with rfl | rfl | rfl | rfl | rfl | rfl <;> rfl) (by decide) (by decide) dX5_newTarget_56 (fun q_7 H X => ?_)
    refine W.widen (k := 1) (n := 6) (by omega) (by omega) ?_
    have X : zX D B0 (zu (L) 12 n (some (q_7, .inr (3, [.int 0, .int 0, .int 0, .int 0, .int 0, .null])))) s.heap H _ := X
    refine lv_dup E.1 E.2.1 dX5_newTarget_59 rfl ?_
    refine z_iconst E dX5_newTarget_60 ?_
    refine z_iconst E dX5_newTarget_61 ?_
    refine z_bipush E dX5_newTarget_62 (by decide +kernel) ?_
    refine z_iconst E dX5_newTarget_64 ?_
    refine lv_iload E.1 E.2.1 dX5_newTarget_65 (lv_at hl 4 rfl) ?_
    refine z_callI (As := [.int (i32 2), .int (i32 0), .int (i32 50), .int (i32 0), .int (i32 st)]) (rest := [.ref q_7]) (n := 5) E X (T_init l D cA B0 (L) n q_7 2 0 50 0 st) gX5_newTarget_X3_init rfl (by decide +kernel) (by decide +kernel) (by decide +kernel) rfl (by decide +kernel) ⟨by decide, by decide⟩ rfl hl.1 rfl (Nat.le_of_ble_eq_true rfl) dX5_newTarget_67 ⟨by decide, by decide⟩ X.1 2 70 ⟨rfl, rfl⟩ (fun v H locs hv hS_8 => ?_)
    obtain ⟨rfl, q_9, hw⟩ := hv
    have X : zX D B0 (zu (zu (L) 12 n (some (q_7, .inr (3, [.int (i32 2), .int (i32 0), .int (i32 50), .int (i32 0), .int (i32 st), .ref q_9])))) 13 n (some (kI cA q_9 64 (fun _ => -1)))) s.heap H locs := ⟨hw, hS_8⟩
    exact z_reta E X hQ (Or.inr ⟨_, rfl⟩) ⟨q_7, q_9, rfl, X.1⟩ dX5_newTarget_70

abbrev rX5_target : Room := { frames := 3, cells := 2, slots := 70, locals := 73 }
set_option maxHeartbeats 4000000 in
set_option maxRecDepth 100000 in
theorem X_target (l : Launch) (D : va_G) (cA : Nat → ClassId) (B0 : Nat) (M : zL) (a : Nat → Nat → Nat) (G : zG) (S : zS) (hI : SI S) (hG : CG S G) (x1 x2 x3 x4 x5 : Int) (hx1 : zr x1) (hx2 : zr x2) (hx3 : zr x3) (hx4 : zr x4) (hx5 : zr x5) : zM l yX5_target wsX5_target rX5_target [.ref (a 0 0), .int (i32 x1), .int (i32 x2), .int (i32 x3), .int (i32 x4), .int (i32 x5)] D cA B0 (zW D B0 (zj (layC cA a G S) M)) (fun v H => v = some (.int (i32 (fTarget S x1 x2 x3 x4 x5).1)) ∧ ∃ (a2 : Nat → Nat → Nat) (G2 : zG), a2 0 0 = a 0 0 ∧ CG (fTarget S x1 x2 x3 x4 x5).2 G2 ∧ zW D B0 (zj (layC cA a2 G2 (fTarget S x1 x2 x3 x4 x5).2) M) H) := by
  refine z_met (cc := cX5_target) (maxL := 6) (ret := (some .int)) (by decide) rfl (Nat.le_of_ble_eq_true rfl) ?_
  intro p e s m args below meth c ls Q hQ E hP hB hS hl
  have hl : lv_has ls 6 [(0, .ref (a 0 0)), (1, .int (i32 x1)), (2, .int (i32 x2)), (3, .int (i32 x3)), (4, .int (i32 x4)), (5, .int (i32 x5))] := hl
  have iX5 : ∀ w ∈ u_ws RX5 TX5 11, w ∈ wsX5_target := by decide +kernel
  have X : zX D B0 (zj (layC cA a G S) M) s.heap s.heap [] := ⟨hP, hS⟩
  have hI0 := hI.1
  unfold SI0 at hI0
  obtain ⟨b1, b2, b3, b4, b5, b8, b17, b19, b7⟩ := hI0
  unfold zr at hx1 hx2 hx3 hx4 hx5
  refine lv_iload_n E.1 E.2.1 dX5_target_0 rfl (lv_at hl 1 rfl) ?_
  refine z_iconst E dX5_target_1 ?_
  refine z_iconst E dX5_target_2 ?_
  refine z_callJ (As := [.int (i32 x1), .int (i32 0), .int (i32 2)]) (rest := []) (n := 3) E X (c_outside l D cA B0 _ x1 0 2 ⟨by omega, by omega⟩ ⟨by omega, by omega⟩ ⟨by omega, by omega⟩) gX5_target_X5_outside rfl (by decide +kernel) ⟨by decide, by decide⟩ rfl hl.1 rfl (Nat.le_of_ble_eq_true rfl) dX5_target_3 ⟨by decide, by decide⟩ rfl 0 0 ⟨rfl, rfl⟩ (fun v H locs hv hS_1 => ?_)
  obtain ⟨hH, z_2, rfl, ez_2⟩ := hv
  subst hH
  replace X := X.same hS_1
  refine z_fne E 23 ⟨by omega, by omega⟩ dX5_target_6 (by decide) (fun h6_3 => ?_) (fun h6_3 => ?_)
  · refine z_bipush E dX5_target_23 (by decide +kernel) ?_
    refine W.widen (k := 2) (n := 70) (by omega) (by omega) ?_
    have ef : fTarget S x1 x2 x3 x4 x5 = (-2, S) := by
      unfold fTarget
      rw [if_pos (by omega)]
    exact z_ret E X hQ (⟨(congrArg (fun w => some (Value.int (i32 w.1))) ef).symm, a, G, rfl, by rw [ef]; exact hG, by rw [ef]; exact X.1⟩) dX5_target_25
  · refine lv_iload E.1 E.2.1 dX5_target_9 (lv_at hl 5 rfl) ?_
    refine z_sipush E dX5_target_11 (by decide +kernel) ?_
    refine z_sipush E dX5_target_14 (by decide +kernel) ?_
    refine z_callJ (As := [.int (i32 x5), .int (i32 (-1000)), .int (i32 1000)]) (rest := []) (n := 3) E X (c_outside l D cA B0 _ x5 (-1000) 1000 ⟨by omega, by omega⟩ ⟨by omega, by omega⟩ ⟨by omega, by omega⟩) gX5_target_X5_outside rfl (by decide +kernel) ⟨by decide, by decide⟩ rfl hl.1 rfl (Nat.le_of_ble_eq_true rfl) dX5_target_17 ⟨by decide, by decide⟩ rfl 0 0 ⟨rfl, rfl⟩ (fun v H locs hv hS_4 => ?_)
    obtain ⟨hH, z_5, rfl, ez_5⟩ := hv
    subst hH
    replace X := X.same hS_4
    refine z_feq E 26 ⟨by omega, by omega⟩ dX5_target_20 (by decide) (fun h20_6 => ?_) (fun h20_6 => ?_)
    · refine lv_iload_n E.1 E.2.1 dX5_target_26 rfl (lv_at hl 1 rfl) ?_
      refine z_iconst E dX5_target_27 ?_
      refine z_ceq E 47 ⟨by omega, by omega⟩ ⟨by omega, by omega⟩ dX5_target_28 (by decide) (fun h28_7 => ?_) (fun h28_7 => ?_)
      · refine lv_iload_n E.1 E.2.1 dX5_target_47 rfl (lv_at hl 1 rfl) ?_
        refine z_iconst E dX5_target_48 ?_
        refine z_cne E 65 ⟨by omega, by omega⟩ ⟨by omega, by omega⟩ dX5_target_49 (by decide) (fun h49_8 => ?_) (fun h49_8 => ?_)
        · refine lv_aload_n E.1 E.2.1 dX5_target_65 rfl (lv_at hl 0 rfl) ?_
          refine z_get E X (lC_0 M cA a G S) rfl iX5 7 (by decide) (by decide +kernel) (v := .int (i32 (S 8 0))) rfl dX5_target_66 ?_
          refine z_bipush E dX5_target_69 (by decide +kernel) ?_
          refine z_clt E 77 ⟨by omega, by omega⟩ ⟨by omega, by omega⟩ dX5_target_71 (by decide) (fun h71_9 => ?_) (fun h71_9 => ?_)
          · obtain ⟨n, hn⟩ : ∃ n : Nat, S 8 0 = (n : Int) := ⟨(S 8 0).toNat, by omega⟩
            refine lv_aload_n E.1 E.2.1 dX5_target_77 rfl (lv_at hl 0 rfl) ?_
            refine z_get E X (lC_0 M cA a G S) rfl iX5 2 (by decide) (by decide +kernel) (v := .ref (a 5 0)) rfl dX5_target_78 ?_
            refine lv_aload_n E.1 E.2.1 dX5_target_81 rfl (lv_at hl 0 rfl) ?_
            refine z_get E X (lC_0 M cA a G S) rfl iX5 7 (by decide) (by decide +kernel) (v := .int (i32 (S 8 0))) rfl dX5_target_82 ?_
            refine lv_iload_n E.1 E.2.1 dX5_target_85 rfl (lv_at hl 1 rfl) ?_
            refine lv_iload_n E.1 E.2.1 dX5_target_86 rfl (lv_at hl 2 rfl) ?_
            refine lv_iload_n E.1 E.2.1 dX5_target_87 rfl (lv_at hl 3 rfl) ?_
            refine lv_iload E.1 E.2.1 dX5_target_88 (lv_at hl 4 rfl) ?_
            refine lv_iload E.1 E.2.1 dX5_target_90 (lv_at hl 5 rfl) ?_
            refine z_callJ (As := [.int (i32 x1), .int (i32 x2), .int (i32 x3), .int (i32 x4), .int (i32 x5)]) (rest := [.int (i32 (S 8 0)), .ref (a 5 0)]) (n := 5) E X (x_newTarget l D cA B0 (zj (layC cA a G S) M) n x1 x2 x3 x4 x5 (by omega)) gX5_target_X5_newTarget rfl (by decide +kernel) ⟨by decide, by decide⟩ rfl hl.1 rfl (Nat.le_of_ble_eq_true rfl) dX5_target_92 ⟨by decide, by decide⟩ X.1 2 70 ⟨rfl, rfl⟩ (fun v H locs hv hS_10 => ?_)
            obtain ⟨q_11, q_12, rfl, hw⟩ := hv
            have X : zX D B0 (zu (zu (zj (layC cA a G S) M) 12 n (some (q_11, .inr (3, [.int (i32 x1), .int (i32 (tfa x1 x2)), .int (i32 (tfb x1 x2 x3)), .int (i32 (tfa x1 x4)), .int (i32 x5), .ref q_12])))) 13 n (some (kI cA q_12 64 (fun _ => -1)))) s.heap H locs := ⟨hw, hS_10⟩
            refine z_aast (r := (RX3, TX3, 6)) E X 3 ((zu_ne (by omega)).trans ((zu_ne (by omega)).trans (lC_5 M cA a G S))) rfl ((zu_ne (by omega)).trans (zu_self _ _ _ _)) rfl n (by omega) (by omega) (by decide) dX5_target_95 (fun H locs X => ?_)
            refine lv_aload_n E.1 E.2.1 dX5_target_96 rfl (lv_at hl 0 rfl) ?_
            refine lv_dup E.1 E.2.1 dX5_target_97 rfl ?_
            refine z_get E X ((zu_ne (by omega)).trans ((zu_ne (by omega)).trans ((zu_ne (by omega)).trans (lC_0 M cA a G S)))) rfl iX5 7 (by decide) (by decide +kernel) (v := .int (i32 (S 8 0))) rfl dX5_target_98 ?_
            refine z_iconst E dX5_target_101 ?_
            refine z_iadd E dX5_target_102 ?_
            refine z_put E X ((zu_ne (by omega)).trans ((zu_ne (by omega)).trans ((zu_ne (by omega)).trans (lC_0 M cA a G S)))) rfl iX5 tyX5 tyX5_ok nmX5 7 (by decide) (by decide +kernel) rfl rfl rfl (Nat.le_of_ble_eq_true rfl) dX5_target_103 (fun H locs X => ?_)
            have X : zX D B0 (zu (zu (zu (zu (zj (layC cA a G S) M) 12 n (some (q_11, .inr (3, [.int (i32 x1), .int (i32 (tfa x1 x2)), .int (i32 (tfb x1 x2 x3)), .int (i32 (tfa x1 x4)), .int (i32 x5), .ref q_12])))) 13 n (some (kI cA q_12 64 (fun _ => -1)))) 5 0 (some (kQ (cA 3) (a 5 0) 8 (va_up (fun j => opt ((j : Int) < S 8 0) (a 12 j)) n (some q_11))))) 0 0 (some (a 0 0, .inr (5, (cfs a S).set 7 (.int (i32 ((S 8 0) + 1))))))) s.heap H locs := X
            have X := cw_target hn X
            refine lv_aload_n E.1 E.2.1 dX5_target_106 rfl (lv_at hl 0 rfl) ?_
            refine z_get E X (lC_0 M cA (ua (ua a 12 n q_11) 13 n q_12) (ug G 13 n (fun _ => -1)) (zs (zs (zs (zs (zs (zs S 9 n x1) 10 n (tfa x1 x2)) 11 n (tfb x1 x2 x3)) 12 n x4) 13 n x5) 8 0 (S 8 0 + 1))) rfl iX5 7 (by decide) (by decide +kernel) (v := .int (i32 (S 8 0 + 1))) rfl dX5_target_107 ?_
            refine z_iconst E dX5_target_110 ?_
            refine z_isub E dX5_target_111 ?_
            refine z_top (S 8 0) (by omega) ?_
            have ef : fTarget S x1 x2 x3 x4 x5 = (S 8 0, zs (zs (zs (zs (zs (zs S 9 n x1) 10 n (tfa x1 x2)) 11 n (tfb x1 x2 x3)) 12 n x4) 13 n x5) 8 0 (S 8 0 + 1)) := by
              unfold fTarget
              rw [if_neg (by omega), if_neg (by omega), show (S 8 0).toNat = n by omega]
              rfl
            exact z_ret E X hQ (⟨(congrArg (fun w => some (Value.int (i32 w.1))) ef).symm, (ua (ua a 12 n q_11) 13 n q_12), (ug G 13 n (fun _ => -1)), rfl, by rw [ef]; exact CG_target hn hG, by rw [ef]; exact X.1⟩) dX5_target_112
          · refine z_bipush E dX5_target_74 (by decide +kernel) ?_
            refine W.widen (k := 2) (n := 70) (by omega) (by omega) ?_
            have ef : fTarget S x1 x2 x3 x4 x5 = (-4, S) := by
              unfold fTarget
              rw [if_neg (by omega), if_pos (by omega)]
            exact z_ret E X hQ (⟨(congrArg (fun w => some (Value.int (i32 w.1))) ef).symm, a, G, rfl, by rw [ef]; exact hG, by rw [ef]; exact X.1⟩) dX5_target_76
        · refine lv_iload_n E.1 E.2.1 dX5_target_52 rfl (lv_at hl 3 rfl) ?_
          refine lv_iload_n E.1 E.2.1 dX5_target_53 rfl (lv_at hl 2 rfl) ?_
          refine z_bipush E dX5_target_54 (by decide +kernel) ?_
          refine z_callJ (As := [.int (i32 x3), .int (i32 x2), .int (i32 50)]) (rest := []) (n := 3) E X (c_outside l D cA B0 _ x3 x2 50 ⟨by omega, by omega⟩ ⟨by omega, by omega⟩ ⟨by omega, by omega⟩) gX5_target_X5_outside rfl (by decide +kernel) ⟨by decide, by decide⟩ rfl hl.1 rfl (Nat.le_of_ble_eq_true rfl) dX5_target_56 ⟨by decide, by decide⟩ rfl 0 0 ⟨rfl, rfl⟩ (fun v H locs hv hS_13 => ?_)
          obtain ⟨hH, z_14, rfl, ez_14⟩ := hv
          subst hH
          replace X := X.same hS_13
          refine z_feq E 65 ⟨by omega, by omega⟩ dX5_target_59 (by decide) (fun h59_15 => ?_) (fun h59_15 => ?_)
          · refine lv_aload_n E.1 E.2.1 dX5_target_65 rfl (lv_at hl 0 rfl) ?_
            refine z_get E X (lC_0 M cA a G S) rfl iX5 7 (by decide) (by decide +kernel) (v := .int (i32 (S 8 0))) rfl dX5_target_66 ?_
            refine z_bipush E dX5_target_69 (by decide +kernel) ?_
            refine z_clt E 77 ⟨by omega, by omega⟩ ⟨by omega, by omega⟩ dX5_target_71 (by decide) (fun h71_16 => ?_) (fun h71_16 => ?_)
            · obtain ⟨n, hn⟩ : ∃ n : Nat, S 8 0 = (n : Int) := ⟨(S 8 0).toNat, by omega⟩
              refine lv_aload_n E.1 E.2.1 dX5_target_77 rfl (lv_at hl 0 rfl) ?_
              refine z_get E X (lC_0 M cA a G S) rfl iX5 2 (by decide) (by decide +kernel) (v := .ref (a 5 0)) rfl dX5_target_78 ?_
              refine lv_aload_n E.1 E.2.1 dX5_target_81 rfl (lv_at hl 0 rfl) ?_
              refine z_get E X (lC_0 M cA a G S) rfl iX5 7 (by decide) (by decide +kernel) (v := .int (i32 (S 8 0))) rfl dX5_target_82 ?_
              refine lv_iload_n E.1 E.2.1 dX5_target_85 rfl (lv_at hl 1 rfl) ?_
              refine lv_iload_n E.1 E.2.1 dX5_target_86 rfl (lv_at hl 2 rfl) ?_
              refine lv_iload_n E.1 E.2.1 dX5_target_87 rfl (lv_at hl 3 rfl) ?_
              refine lv_iload E.1 E.2.1 dX5_target_88 (lv_at hl 4 rfl) ?_
              refine lv_iload E.1 E.2.1 dX5_target_90 (lv_at hl 5 rfl) ?_
              refine z_callJ (As := [.int (i32 x1), .int (i32 x2), .int (i32 x3), .int (i32 x4), .int (i32 x5)]) (rest := [.int (i32 (S 8 0)), .ref (a 5 0)]) (n := 5) E X (x_newTarget l D cA B0 (zj (layC cA a G S) M) n x1 x2 x3 x4 x5 (by omega)) gX5_target_X5_newTarget rfl (by decide +kernel) ⟨by decide, by decide⟩ rfl hl.1 rfl (Nat.le_of_ble_eq_true rfl) dX5_target_92 ⟨by decide, by decide⟩ X.1 2 70 ⟨rfl, rfl⟩ (fun v H locs hv hS_17 => ?_)
              obtain ⟨q_18, q_19, rfl, hw⟩ := hv
              have X : zX D B0 (zu (zu (zj (layC cA a G S) M) 12 n (some (q_18, .inr (3, [.int (i32 x1), .int (i32 (tfa x1 x2)), .int (i32 (tfb x1 x2 x3)), .int (i32 (tfa x1 x4)), .int (i32 x5), .ref q_19])))) 13 n (some (kI cA q_19 64 (fun _ => -1)))) s.heap H locs := ⟨hw, hS_17⟩
              refine z_aast (r := (RX3, TX3, 6)) E X 3 ((zu_ne (by omega)).trans ((zu_ne (by omega)).trans (lC_5 M cA a G S))) rfl ((zu_ne (by omega)).trans (zu_self _ _ _ _)) rfl n (by omega) (by omega) (by decide) dX5_target_95 (fun H locs X => ?_)
              refine lv_aload_n E.1 E.2.1 dX5_target_96 rfl (lv_at hl 0 rfl) ?_
              refine lv_dup E.1 E.2.1 dX5_target_97 rfl ?_
              refine z_get E X ((zu_ne (by omega)).trans ((zu_ne (by omega)).trans ((zu_ne (by omega)).trans (lC_0 M cA a G S)))) rfl iX5 7 (by decide) (by decide +kernel) (v := .int (i32 (S 8 0))) rfl dX5_target_98 ?_
              refine z_iconst E dX5_target_101 ?_
              refine z_iadd E dX5_target_102 ?_
              refine z_put E X ((zu_ne (by omega)).trans ((zu_ne (by omega)).trans ((zu_ne (by omega)).trans (lC_0 M cA a G S)))) rfl iX5 tyX5 tyX5_ok nmX5 7 (by decide) (by decide +kernel) rfl rfl rfl (Nat.le_of_ble_eq_true rfl) dX5_target_103 (fun H locs X => ?_)
              have X : zX D B0 (zu (zu (zu (zu (zj (layC cA a G S) M) 12 n (some (q_18, .inr (3, [.int (i32 x1), .int (i32 (tfa x1 x2)), .int (i32 (tfb x1 x2 x3)), .int (i32 (tfa x1 x4)), .int (i32 x5), .ref q_19])))) 13 n (some (kI cA q_19 64 (fun _ => -1)))) 5 0 (some (kQ (cA 3) (a 5 0) 8 (va_up (fun j => opt ((j : Int) < S 8 0) (a 12 j)) n (some q_18))))) 0 0 (some (a 0 0, .inr (5, (cfs a S).set 7 (.int (i32 ((S 8 0) + 1))))))) s.heap H locs := X
              have X := cw_target hn X
              refine lv_aload_n E.1 E.2.1 dX5_target_106 rfl (lv_at hl 0 rfl) ?_
              refine z_get E X (lC_0 M cA (ua (ua a 12 n q_18) 13 n q_19) (ug G 13 n (fun _ => -1)) (zs (zs (zs (zs (zs (zs S 9 n x1) 10 n (tfa x1 x2)) 11 n (tfb x1 x2 x3)) 12 n x4) 13 n x5) 8 0 (S 8 0 + 1))) rfl iX5 7 (by decide) (by decide +kernel) (v := .int (i32 (S 8 0 + 1))) rfl dX5_target_107 ?_
              refine z_iconst E dX5_target_110 ?_
              refine z_isub E dX5_target_111 ?_
              refine z_top (S 8 0) (by omega) ?_
              have ef : fTarget S x1 x2 x3 x4 x5 = (S 8 0, zs (zs (zs (zs (zs (zs S 9 n x1) 10 n (tfa x1 x2)) 11 n (tfb x1 x2 x3)) 12 n x4) 13 n x5) 8 0 (S 8 0 + 1)) := by
                unfold fTarget
                rw [if_neg (by omega), if_neg (by omega), show (S 8 0).toNat = n by omega]
                rfl
              exact z_ret E X hQ (⟨(congrArg (fun w => some (Value.int (i32 w.1))) ef).symm, (ua (ua a 12 n q_18) 13 n q_19), (ug G 13 n (fun _ => -1)), rfl, by rw [ef]; exact CG_target hn hG, by rw [ef]; exact X.1⟩) dX5_target_112
            · refine z_bipush E dX5_target_74 (by decide +kernel) ?_
              refine W.widen (k := 2) (n := 70) (by omega) (by omega) ?_
              have ef : fTarget S x1 x2 x3 x4 x5 = (-4, S) := by
                unfold fTarget
                rw [if_neg (by omega), if_pos (by omega)]
              exact z_ret E X hQ (⟨(congrArg (fun w => some (Value.int (i32 w.1))) ef).symm, a, G, rfl, by rw [ef]; exact hG, by rw [ef]; exact X.1⟩) dX5_target_76
          · refine z_bipush E dX5_target_62 (by decide +kernel) ?_
            refine W.widen (k := 2) (n := 70) (by omega) (by omega) ?_
            have ef : fTarget S x1 x2 x3 x4 x5 = (-2, S) := by
              unfold fTarget
              rw [if_pos (by omega)]
            exact z_ret E X hQ (⟨(congrArg (fun w => some (Value.int (i32 w.1))) ef).symm, a, G, rfl, by rw [ef]; exact hG, by rw [ef]; exact X.1⟩) dX5_target_64
      · refine lv_aload_n E.1 E.2.1 dX5_target_31 rfl (lv_at hl 0 rfl) ?_
        refine z_get E X (lC_0 M cA a G S) rfl iX5 0 (by decide) (by decide +kernel) (v := .ref (a 1 0)) rfl dX5_target_32 ?_
        refine lv_iload_n E.1 E.2.1 dX5_target_35 rfl (lv_at hl 2 rfl) ?_
        refine lv_iload E.1 E.2.1 dX5_target_36 (lv_at hl 4 rfl) ?_
        replace X := cl_in X
        refine z_callV (As := [.int (i32 x2), .int (i32 x4)]) (rest := []) (n := 2) E X (lL_0 _ cA (hL a) (TL S G)) rfl (L_holds l D cA B0 (zj (layC cA a G S) M) (hL a) (TL S G) ⟨b1, b2⟩ x2 x4 ⟨by omega, by omega⟩ ⟨by omega, by omega⟩) gX5_target_X1_holds rfl (by decide +kernel) ⟨by decide, by decide⟩ rfl hl.1 rfl (Nat.le_of_ble_eq_true rfl) dX5_target_38 ⟨by decide, by decide⟩ X.1 0 0 ⟨rfl, rfl⟩ (fun v H locs hv hS_20 => ?_)
        obtain ⟨⟨z_21, rfl, ez_21⟩, hw⟩ := hv
        replace X : zX D B0 (zj (layC cA a G S) M) s.heap H locs := cl_un ⟨hw, hS_20⟩
        replace ez_21 : z_21 = 1 ∧ (0 ≤ x2 ∧ x2 ≤ 50 ∧ S 1 0 ≤ x4 ∧ x4 ≤ S 1 0 + S 2 0) ∨ z_21 = 0 ∧ ¬ (0 ≤ x2 ∧ x2 ≤ 50 ∧ S 1 0 ≤ x4 ∧ x4 ≤ S 1 0 + S 2 0) := ez_21
        refine z_fne E 47 ⟨by omega, by omega⟩ dX5_target_41 (by decide) (fun h41_22 => ?_) (fun h41_22 => ?_)
        · refine lv_iload_n E.1 E.2.1 dX5_target_47 rfl (lv_at hl 1 rfl) ?_
          refine z_iconst E dX5_target_48 ?_
          refine z_cne E 65 ⟨by omega, by omega⟩ ⟨by omega, by omega⟩ dX5_target_49 (by decide) (fun h49_23 => ?_) (fun h49_23 => ?_)
          · refine lv_aload_n E.1 E.2.1 dX5_target_65 rfl (lv_at hl 0 rfl) ?_
            refine z_get E X (lC_0 M cA a G S) rfl iX5 7 (by decide) (by decide +kernel) (v := .int (i32 (S 8 0))) rfl dX5_target_66 ?_
            refine z_bipush E dX5_target_69 (by decide +kernel) ?_
            refine z_clt E 77 ⟨by omega, by omega⟩ ⟨by omega, by omega⟩ dX5_target_71 (by decide) (fun h71_24 => ?_) (fun h71_24 => ?_)
            · obtain ⟨n, hn⟩ : ∃ n : Nat, S 8 0 = (n : Int) := ⟨(S 8 0).toNat, by omega⟩
              refine lv_aload_n E.1 E.2.1 dX5_target_77 rfl (lv_at hl 0 rfl) ?_
              refine z_get E X (lC_0 M cA a G S) rfl iX5 2 (by decide) (by decide +kernel) (v := .ref (a 5 0)) rfl dX5_target_78 ?_
              refine lv_aload_n E.1 E.2.1 dX5_target_81 rfl (lv_at hl 0 rfl) ?_
              refine z_get E X (lC_0 M cA a G S) rfl iX5 7 (by decide) (by decide +kernel) (v := .int (i32 (S 8 0))) rfl dX5_target_82 ?_
              refine lv_iload_n E.1 E.2.1 dX5_target_85 rfl (lv_at hl 1 rfl) ?_
              refine lv_iload_n E.1 E.2.1 dX5_target_86 rfl (lv_at hl 2 rfl) ?_
              refine lv_iload_n E.1 E.2.1 dX5_target_87 rfl (lv_at hl 3 rfl) ?_
              refine lv_iload E.1 E.2.1 dX5_target_88 (lv_at hl 4 rfl) ?_
              refine lv_iload E.1 E.2.1 dX5_target_90 (lv_at hl 5 rfl) ?_
              refine z_callJ (As := [.int (i32 x1), .int (i32 x2), .int (i32 x3), .int (i32 x4), .int (i32 x5)]) (rest := [.int (i32 (S 8 0)), .ref (a 5 0)]) (n := 5) E X (x_newTarget l D cA B0 (zj (layC cA a G S) M) n x1 x2 x3 x4 x5 (by omega)) gX5_target_X5_newTarget rfl (by decide +kernel) ⟨by decide, by decide⟩ rfl hl.1 rfl (Nat.le_of_ble_eq_true rfl) dX5_target_92 ⟨by decide, by decide⟩ X.1 2 70 ⟨rfl, rfl⟩ (fun v H locs hv hS_25 => ?_)
              obtain ⟨q_26, q_27, rfl, hw⟩ := hv
              have X : zX D B0 (zu (zu (zj (layC cA a G S) M) 12 n (some (q_26, .inr (3, [.int (i32 x1), .int (i32 (tfa x1 x2)), .int (i32 (tfb x1 x2 x3)), .int (i32 (tfa x1 x4)), .int (i32 x5), .ref q_27])))) 13 n (some (kI cA q_27 64 (fun _ => -1)))) s.heap H locs := ⟨hw, hS_25⟩
              refine z_aast (r := (RX3, TX3, 6)) E X 3 ((zu_ne (by omega)).trans ((zu_ne (by omega)).trans (lC_5 M cA a G S))) rfl ((zu_ne (by omega)).trans (zu_self _ _ _ _)) rfl n (by omega) (by omega) (by decide) dX5_target_95 (fun H locs X => ?_)
              refine lv_aload_n E.1 E.2.1 dX5_target_96 rfl (lv_at hl 0 rfl) ?_
              refine lv_dup E.1 E.2.1 dX5_target_97 rfl ?_
              refine z_get E X ((zu_ne (by omega)).trans ((zu_ne (by omega)).trans ((zu_ne (by omega)).trans (lC_0 M cA a G S)))) rfl iX5 7 (by decide) (by decide +kernel) (v := .int (i32 (S 8 0))) rfl dX5_target_98 ?_
              refine z_iconst E dX5_target_101 ?_
              refine z_iadd E dX5_target_102 ?_
              refine z_put E X ((zu_ne (by omega)).trans ((zu_ne (by omega)).trans ((zu_ne (by omega)).trans (lC_0 M cA a G S)))) rfl iX5 tyX5 tyX5_ok nmX5 7 (by decide) (by decide +kernel) rfl rfl rfl (Nat.le_of_ble_eq_true rfl) dX5_target_103 (fun H locs X => ?_)
              have X : zX D B0 (zu (zu (zu (zu (zj (layC cA a G S) M) 12 n (some (q_26, .inr (3, [.int (i32 x1), .int (i32 (tfa x1 x2)), .int (i32 (tfb x1 x2 x3)), .int (i32 (tfa x1 x4)), .int (i32 x5), .ref q_27])))) 13 n (some (kI cA q_27 64 (fun _ => -1)))) 5 0 (some (kQ (cA 3) (a 5 0) 8 (va_up (fun j => opt ((j : Int) < S 8 0) (a 12 j)) n (some q_26))))) 0 0 (some (a 0 0, .inr (5, (cfs a S).set 7 (.int (i32 ((S 8 0) + 1))))))) s.heap H locs := X
              have X := cw_target hn X
              refine lv_aload_n E.1 E.2.1 dX5_target_106 rfl (lv_at hl 0 rfl) ?_
              refine z_get E X (lC_0 M cA (ua (ua a 12 n q_26) 13 n q_27) (ug G 13 n (fun _ => -1)) (zs (zs (zs (zs (zs (zs S 9 n x1) 10 n (tfa x1 x2)) 11 n (tfb x1 x2 x3)) 12 n x4) 13 n x5) 8 0 (S 8 0 + 1))) rfl iX5 7 (by decide) (by decide +kernel) (v := .int (i32 (S 8 0 + 1))) rfl dX5_target_107 ?_
              refine z_iconst E dX5_target_110 ?_
              refine z_isub E dX5_target_111 ?_
              refine z_top (S 8 0) (by omega) ?_
              have ef : fTarget S x1 x2 x3 x4 x5 = (S 8 0, zs (zs (zs (zs (zs (zs S 9 n x1) 10 n (tfa x1 x2)) 11 n (tfb x1 x2 x3)) 12 n x4) 13 n x5) 8 0 (S 8 0 + 1)) := by
                unfold fTarget
                rw [if_neg (by omega), if_neg (by omega), show (S 8 0).toNat = n by omega]
                rfl
              exact z_ret E X hQ (⟨(congrArg (fun w => some (Value.int (i32 w.1))) ef).symm, (ua (ua a 12 n q_26) 13 n q_27), (ug G 13 n (fun _ => -1)), rfl, by rw [ef]; exact CG_target hn hG, by rw [ef]; exact X.1⟩) dX5_target_112
            · refine z_bipush E dX5_target_74 (by decide +kernel) ?_
              refine W.widen (k := 2) (n := 70) (by omega) (by omega) ?_
              have ef : fTarget S x1 x2 x3 x4 x5 = (-4, S) := by
                unfold fTarget
                rw [if_neg (by omega), if_pos (by omega)]
              exact z_ret E X hQ (⟨(congrArg (fun w => some (Value.int (i32 w.1))) ef).symm, a, G, rfl, by rw [ef]; exact hG, by rw [ef]; exact X.1⟩) dX5_target_76
          · refine lv_iload_n E.1 E.2.1 dX5_target_52 rfl (lv_at hl 3 rfl) ?_
            refine lv_iload_n E.1 E.2.1 dX5_target_53 rfl (lv_at hl 2 rfl) ?_
            refine z_bipush E dX5_target_54 (by decide +kernel) ?_
            refine z_callJ (As := [.int (i32 x3), .int (i32 x2), .int (i32 50)]) (rest := []) (n := 3) E X (c_outside l D cA B0 _ x3 x2 50 ⟨by omega, by omega⟩ ⟨by omega, by omega⟩ ⟨by omega, by omega⟩) gX5_target_X5_outside rfl (by decide +kernel) ⟨by decide, by decide⟩ rfl hl.1 rfl (Nat.le_of_ble_eq_true rfl) dX5_target_56 ⟨by decide, by decide⟩ rfl 0 0 ⟨rfl, rfl⟩ (fun v H locs hv hS_28 => ?_)
            obtain ⟨hH, z_29, rfl, ez_29⟩ := hv
            subst hH
            replace X := X.same hS_28
            refine z_feq E 65 ⟨by omega, by omega⟩ dX5_target_59 (by decide) (fun h59_30 => ?_) (fun h59_30 => ?_)
            · refine lv_aload_n E.1 E.2.1 dX5_target_65 rfl (lv_at hl 0 rfl) ?_
              refine z_get E X (lC_0 M cA a G S) rfl iX5 7 (by decide) (by decide +kernel) (v := .int (i32 (S 8 0))) rfl dX5_target_66 ?_
              refine z_bipush E dX5_target_69 (by decide +kernel) ?_
              refine z_clt E 77 ⟨by omega, by omega⟩ ⟨by omega, by omega⟩ dX5_target_71 (by decide) (fun h71_31 => ?_) (fun h71_31 => ?_)
              · obtain ⟨n, hn⟩ : ∃ n : Nat, S 8 0 = (n : Int) := ⟨(S 8 0).toNat, by omega⟩
                refine lv_aload_n E.1 E.2.1 dX5_target_77 rfl (lv_at hl 0 rfl) ?_
                refine z_get E X (lC_0 M cA a G S) rfl iX5 2 (by decide) (by decide +kernel) (v := .ref (a 5 0)) rfl dX5_target_78 ?_
                refine lv_aload_n E.1 E.2.1 dX5_target_81 rfl (lv_at hl 0 rfl) ?_
                refine z_get E X (lC_0 M cA a G S) rfl iX5 7 (by decide) (by decide +kernel) (v := .int (i32 (S 8 0))) rfl dX5_target_82 ?_
                refine lv_iload_n E.1 E.2.1 dX5_target_85 rfl (lv_at hl 1 rfl) ?_
                refine lv_iload_n E.1 E.2.1 dX5_target_86 rfl (lv_at hl 2 rfl) ?_
                refine lv_iload_n E.1 E.2.1 dX5_target_87 rfl (lv_at hl 3 rfl) ?_
                refine lv_iload E.1 E.2.1 dX5_target_88 (lv_at hl 4 rfl) ?_
                refine lv_iload E.1 E.2.1 dX5_target_90 (lv_at hl 5 rfl) ?_
                refine z_callJ (As := [.int (i32 x1), .int (i32 x2), .int (i32 x3), .int (i32 x4), .int (i32 x5)]) (rest := [.int (i32 (S 8 0)), .ref (a 5 0)]) (n := 5) E X (x_newTarget l D cA B0 (zj (layC cA a G S) M) n x1 x2 x3 x4 x5 (by omega)) gX5_target_X5_newTarget rfl (by decide +kernel) ⟨by decide, by decide⟩ rfl hl.1 rfl (Nat.le_of_ble_eq_true rfl) dX5_target_92 ⟨by decide, by decide⟩ X.1 2 70 ⟨rfl, rfl⟩ (fun v H locs hv hS_32 => ?_)
                obtain ⟨q_33, q_34, rfl, hw⟩ := hv
                have X : zX D B0 (zu (zu (zj (layC cA a G S) M) 12 n (some (q_33, .inr (3, [.int (i32 x1), .int (i32 (tfa x1 x2)), .int (i32 (tfb x1 x2 x3)), .int (i32 (tfa x1 x4)), .int (i32 x5), .ref q_34])))) 13 n (some (kI cA q_34 64 (fun _ => -1)))) s.heap H locs := ⟨hw, hS_32⟩
                refine z_aast (r := (RX3, TX3, 6)) E X 3 ((zu_ne (by omega)).trans ((zu_ne (by omega)).trans (lC_5 M cA a G S))) rfl ((zu_ne (by omega)).trans (zu_self _ _ _ _)) rfl n (by omega) (by omega) (by decide) dX5_target_95 (fun H locs X => ?_)
                refine lv_aload_n E.1 E.2.1 dX5_target_96 rfl (lv_at hl 0 rfl) ?_
                refine lv_dup E.1 E.2.1 dX5_target_97 rfl ?_
                refine z_get E X ((zu_ne (by omega)).trans ((zu_ne (by omega)).trans ((zu_ne (by omega)).trans (lC_0 M cA a G S)))) rfl iX5 7 (by decide) (by decide +kernel) (v := .int (i32 (S 8 0))) rfl dX5_target_98 ?_
                refine z_iconst E dX5_target_101 ?_
                refine z_iadd E dX5_target_102 ?_
                refine z_put E X ((zu_ne (by omega)).trans ((zu_ne (by omega)).trans ((zu_ne (by omega)).trans (lC_0 M cA a G S)))) rfl iX5 tyX5 tyX5_ok nmX5 7 (by decide) (by decide +kernel) rfl rfl rfl (Nat.le_of_ble_eq_true rfl) dX5_target_103 (fun H locs X => ?_)
                have X : zX D B0 (zu (zu (zu (zu (zj (layC cA a G S) M) 12 n (some (q_33, .inr (3, [.int (i32 x1), .int (i32 (tfa x1 x2)), .int (i32 (tfb x1 x2 x3)), .int (i32 (tfa x1 x4)), .int (i32 x5), .ref q_34])))) 13 n (some (kI cA q_34 64 (fun _ => -1)))) 5 0 (some (kQ (cA 3) (a 5 0) 8 (va_up (fun j => opt ((j : Int) < S 8 0) (a 12 j)) n (some q_33))))) 0 0 (some (a 0 0, .inr (5, (cfs a S).set 7 (.int (i32 ((S 8 0) + 1))))))) s.heap H locs := X
                have X := cw_target hn X
                refine lv_aload_n E.1 E.2.1 dX5_target_106 rfl (lv_at hl 0 rfl) ?_
                refine z_get E X (lC_0 M cA (ua (ua a 12 n q_33) 13 n q_34) (ug G 13 n (fun _ => -1)) (zs (zs (zs (zs (zs (zs S 9 n x1) 10 n (tfa x1 x2)) 11 n (tfb x1 x2 x3)) 12 n x4) 13 n x5) 8 0 (S 8 0 + 1))) rfl iX5 7 (by decide) (by decide +kernel) (v := .int (i32 (S 8 0 + 1))) rfl dX5_target_107 ?_
                refine z_iconst E dX5_target_110 ?_
                refine z_isub E dX5_target_111 ?_
                refine z_top (S 8 0) (by omega) ?_
                have ef : fTarget S x1 x2 x3 x4 x5 = (S 8 0, zs (zs (zs (zs (zs (zs S 9 n x1) 10 n (tfa x1 x2)) 11 n (tfb x1 x2 x3)) 12 n x4) 13 n x5) 8 0 (S 8 0 + 1)) := by
                  unfold fTarget
                  rw [if_neg (by omega), if_neg (by omega), show (S 8 0).toNat = n by omega]
                  rfl
                exact z_ret E X hQ (⟨(congrArg (fun w => some (Value.int (i32 w.1))) ef).symm, (ua (ua a 12 n q_33) 13 n q_34), (ug G 13 n (fun _ => -1)), rfl, by rw [ef]; exact CG_target hn hG, by rw [ef]; exact X.1⟩) dX5_target_112
              · refine z_bipush E dX5_target_74 (by decide +kernel) ?_
                refine W.widen (k := 2) (n := 70) (by omega) (by omega) ?_
                have ef : fTarget S x1 x2 x3 x4 x5 = (-4, S) := by
                  unfold fTarget
                  rw [if_neg (by omega), if_pos (by omega)]
                exact z_ret E X hQ (⟨(congrArg (fun w => some (Value.int (i32 w.1))) ef).symm, a, G, rfl, by rw [ef]; exact hG, by rw [ef]; exact X.1⟩) dX5_target_76
            · refine z_bipush E dX5_target_62 (by decide +kernel) ?_
              refine W.widen (k := 2) (n := 70) (by omega) (by omega) ?_
              have ef : fTarget S x1 x2 x3 x4 x5 = (-2, S) := by
                unfold fTarget
                rw [if_pos (by omega)]
              exact z_ret E X hQ (⟨(congrArg (fun w => some (Value.int (i32 w.1))) ef).symm, a, G, rfl, by rw [ef]; exact hG, by rw [ef]; exact X.1⟩) dX5_target_64
        · refine z_bipush E dX5_target_44 (by decide +kernel) ?_
          refine W.widen (k := 2) (n := 70) (by omega) (by omega) ?_
          have ef : fTarget S x1 x2 x3 x4 x5 = (-2, S) := by
            unfold fTarget
            rw [if_pos (by omega)]
          exact z_ret E X hQ (⟨(congrArg (fun w => some (Value.int (i32 w.1))) ef).symm, a, G, rfl, by rw [ef]; exact hG, by rw [ef]; exact X.1⟩) dX5_target_46
    · refine z_bipush E dX5_target_23 (by decide +kernel) ?_
      refine W.widen (k := 2) (n := 70) (by omega) (by omega) ?_
      have ef : fTarget S x1 x2 x3 x4 x5 = (-2, S) := by
        unfold fTarget
        rw [if_pos (by omega)]
      exact z_ret E X hQ (⟨(congrArg (fun w => some (Value.int (i32 w.1))) ef).symm, a, G, rfl, by rw [ef]; exact hG, by rw [ef]; exact X.1⟩) dX5_target_25

theorem CG_zro {S T : zS} {G : zG} {q n : Nat} (h : CG T G) : CG (zro T q n) G := CG_25 (fun k hk => zro_k hk n) h
abbrev rX5_sheet : Room := { frames := 2, cells := 2, slots := 66, locals := 46 }
set_option maxHeartbeats 4000000 in
set_option maxRecDepth 100000 in
theorem X_sheet (l : Launch) (D : va_G) (cA : Nat → ClassId) (B0 : Nat) (M : zL) (a : Nat → Nat → Nat) (G : zG) (S : zS) (hI : SI S) (hG : CG S G) (x1 x2 x3 : Int) (hx1 : zr x1) (hx2 : zr x2) (hx3 : zr x3) : zM l yX5_sheet wsX5_sheet rX5_sheet [.ref (a 0 0), .int (i32 x1), .int (i32 x2), .int (i32 x3)] D cA B0 (zW D B0 (zj (layC cA a G S) M)) (fun v H => v = some (.int (i32 (fSheet S x1 x2 x3).1)) ∧ ∃ (a2 : Nat → Nat → Nat) (G2 : zG), a2 0 0 = a 0 0 ∧ CG (fSheet S x1 x2 x3).2 G2 ∧ zW D B0 (zj (layC cA a2 G2 (fSheet S x1 x2 x3).2) M) H) := by
  refine z_met (cc := cX5_sheet) (maxL := 4) (ret := (some .int)) (by decide) rfl (Nat.le_of_ble_eq_true rfl) ?_
  intro p e s m args below meth c ls Q hQ E hP hB hS hl
  have hl : lv_has ls 4 [(0, .ref (a 0 0)), (1, .int (i32 x1)), (2, .int (i32 x2)), (3, .int (i32 x3))] := hl
  have iX2 : ∀ w ∈ u_ws RX2 TX2 2, w ∈ wsX5_sheet := by decide +kernel
  have iX5 : ∀ w ∈ u_ws RX5 TX5 11, w ∈ wsX5_sheet := by decide +kernel
  have X : zX D B0 (zj (layC cA a G S) M) s.heap s.heap [] := ⟨hP, hS⟩
  have hI0 := hI.1
  unfold SI0 at hI0
  obtain ⟨b1, b2, b3, b4, b5, b8, b17, b19, b7⟩ := hI0
  unfold zr at hx1 hx2 hx3
  refine lv_iload_n E.1 E.2.1 dX5_sheet_0 rfl (lv_at hl 1 rfl) ?_
  refine z_callJ (As := [.int (i32 x1)]) (rest := []) (n := 1) E X (c_noSheet l D cA B0 _ x1 ⟨by omega, by omega⟩) gX5_sheet_X5_noSheet rfl (by decide +kernel) ⟨by decide, by decide⟩ rfl hl.1 rfl (Nat.le_of_ble_eq_true rfl) dX5_sheet_1 ⟨by decide, by decide⟩ rfl 0 0 ⟨rfl, rfl⟩ (fun v H locs hv hS_1 => ?_)
  obtain ⟨hH, z_2, rfl, ez_2⟩ := hv
  subst hH
  replace X := X.same hS_1
  refine z_feq E 14 ⟨by omega, by omega⟩ dX5_sheet_4 (by decide) (fun h4_3 => ?_) (fun h4_3 => ?_)
  · refine lv_iload_n E.1 E.2.1 dX5_sheet_14 rfl (lv_at hl 2 rfl) ?_
    refine z_iconst E dX5_sheet_15 ?_
    refine z_iconst E dX5_sheet_16 ?_
    refine z_callJ (As := [.int (i32 x2), .int (i32 0), .int (i32 2)]) (rest := []) (n := 3) E X (c_outside l D cA B0 _ x2 0 2 ⟨by omega, by omega⟩ ⟨by omega, by omega⟩ ⟨by omega, by omega⟩) gX5_sheet_X5_outside rfl (by decide +kernel) ⟨by decide, by decide⟩ rfl hl.1 rfl (Nat.le_of_ble_eq_true rfl) dX5_sheet_17 ⟨by decide, by decide⟩ rfl 0 0 ⟨rfl, rfl⟩ (fun v H locs hv hS_4 => ?_)
    obtain ⟨hH, z_5, rfl, ez_5⟩ := hv
    subst hH
    replace X := X.same hS_4
    refine z_fne E 29 ⟨by omega, by omega⟩ dX5_sheet_20 (by decide) (fun h20_6 => ?_) (fun h20_6 => ?_)
    · refine z_bipush E dX5_sheet_29 (by decide +kernel) ?_
      refine W.widen (k := 2) (n := 66) (by omega) (by omega) ?_
      have ef : fSheet S x1 x2 x3 = (-2, S) := by
        unfold fSheet
        try unfold fFind
        try simp only [Int.toNat_natCast]
        repeat' split
        all_goals first | rfl | (exfalso; omega)
      exact z_ret E X hQ (⟨(congrArg (fun w => some (Value.int (i32 w.1))) ef).symm, a, G, rfl, by rw [ef]; exact hG, by rw [ef]; exact X.1⟩) dX5_sheet_31
    · refine lv_iload_n E.1 E.2.1 dX5_sheet_23 rfl (lv_at hl 3 rfl) ?_
      refine z_bipush E dX5_sheet_24 (by decide +kernel) ?_
      refine z_cle E 32 ⟨by omega, by omega⟩ ⟨by omega, by omega⟩ dX5_sheet_26 (by decide) (fun h26_7 => ?_) (fun h26_7 => ?_)
      · refine lv_iload_n E.1 E.2.1 dX5_sheet_32 rfl (lv_at hl 3 rfl) ?_
        refine z_fge E 43 ⟨by omega, by omega⟩ dX5_sheet_33 (by decide) (fun h33_8 => ?_) (fun h33_8 => ?_)
        · obtain ⟨q, rfl⟩ : ∃ q : Nat, x1 = (q : Int) := ⟨x1.toNat, by omega⟩
          obtain ⟨nn, rfl⟩ : ∃ nn : Nat, x3 = (nn : Int) := ⟨x3.toNat, by omega⟩
          have h4 := hI.2.2.2.2.1.1 q (by omega)
          refine lv_aload_n E.1 E.2.1 dX5_sheet_43 rfl (lv_at hl 0 rfl) ?_
          refine z_get E X (lC_0 M cA a G S) rfl iX5 4 (by decide) (by decide +kernel) (v := .ref (a 7 0)) rfl dX5_sheet_44 ?_
          refine lv_iload_n E.1 E.2.1 dX5_sheet_47 rfl (lv_at hl 1 rfl) ?_
          refine z_new (fs := [.int 0, .null]) E X 15 q 2 rfl iX2 tyX2 tyX2_ok (by decide +kernel) (by decide +kernel) (by decide +kernel) (fun j hj => by rcases (show j = 0 ∨ j = 1 by omega) with rfl | rfl <;> rfl) (by decide) (by decide) dX5_sheet_48 (fun q_9 H X => ?_)
          refine W.widen (k := 1) (n := 2) (by omega) (by omega) ?_
          have X : zX D B0 (zu (zj (layC cA a G S) M) 15 q (some (q_9, .inr (2, [.int 0, .null])))) s.heap H _ := X
          refine lv_dup E.1 E.2.1 dX5_sheet_51 rfl ?_
          refine lv_iload_n E.1 E.2.1 dX5_sheet_52 rfl (lv_at hl 2 rfl) ?_
          refine lv_iload_n E.1 E.2.1 dX5_sheet_53 rfl (lv_at hl 3 rfl) ?_
          refine z_callI (As := [.int (i32 x2), .int (i32 (nn : Int))]) (rest := [.ref q_9, .int (i32 (q : Int)), .ref (a 7 0)]) (n := 2) E X (S_init l D cA B0 (zj (layC cA a G S) M) q q_9 x2 nn (by omega)) gX5_sheet_X2_init rfl (by decide +kernel) (by decide +kernel) (by decide +kernel) rfl (by decide +kernel) ⟨by decide, by decide⟩ rfl hl.1 rfl (Nat.le_of_ble_eq_true rfl) dX5_sheet_54 ⟨by decide, by decide⟩ X.1 2 66 ⟨rfl, rfl⟩ (fun v H locs hv hS_10 => ?_)
          obtain ⟨rfl, q_11, hw⟩ := hv
          have X : zX D B0 (zu (zu (zj (layC cA a G S) M) 15 q (some (q_9, .inr (2, [.int (i32 x2), .ref q_11])))) 16 q (some (kI cA q_11 nn (fun _ => 0)))) s.heap H locs := ⟨hw, hS_10⟩
          refine z_aast (r := (RX2, TX2, 2)) E X 5 ((zu_ne (by omega)).trans ((zu_ne (by omega)).trans (lC_7 M cA a G S))) rfl ((zu_ne (by omega)).trans (zu_self _ _ _ _)) rfl q (by omega) (by omega) (by decide) dX5_sheet_57 (fun H locs X => ?_)
          have X := cw_sheet (by omega) (by omega) (fun i hi => (hI.2.2.2.2.1.1 i hi).1.2) X
          refine lv_iload_n E.1 E.2.1 dX5_sheet_58 rfl (lv_at hl 3 rfl) ?_
          have ef : fSheet S (q : Int) x2 (nn : Int) = ((nn : Int), zro (zs (zs S 23 q (nn : Int)) 24 q x2) q nn) := by
            unfold fSheet
            rw [if_neg (by omega), if_neg (by omega), if_neg (by omega)]
            simp only [Int.toNat_natCast]
          exact z_ret E X hQ (⟨(congrArg (fun w => some (Value.int (i32 w.1))) ef).symm, (ua (ua a 15 q q_9) 16 q q_11), G, rfl, by rw [ef]; exact CG_zro (S := S) hG, by rw [ef]; exact X.1⟩) dX5_sheet_59
        · refine lv_aload_n E.1 E.2.1 dX5_sheet_36 rfl (lv_at hl 0 rfl) ?_
          refine z_bipush E dX5_sheet_37 (by decide +kernel) ?_
          refine z_callV (As := [.int (i32 (-14))]) (rest := []) (n := 1) E X (lC_0 M cA a G S) rfl (x_found l D cA B0 M a G S (-14)) gX5_sheet_X5_found rfl (by decide +kernel) ⟨by decide, by decide⟩ rfl hl.1 rfl (Nat.le_of_ble_eq_true rfl) dX5_sheet_39 ⟨by decide, by decide⟩ X.1 0 0 ⟨rfl, rfl⟩ (fun v H locs hv hS_12 => ?_)
          obtain ⟨rfl, hw⟩ := hv
          replace X : zX D B0 (zj (layC cA a G (zs S 27 0 (S 27 0 + 1))) M) s.heap H locs := ⟨hw, hS_12⟩
          refine W.widen (k := 2) (n := 66) (by omega) (by omega) ?_
          have ef : fSheet S x1 x2 x3 = (-14, zs S 27 0 (S 27 0 + 1)) := by
            unfold fSheet
            try unfold fFind
            try simp only [Int.toNat_natCast]
            repeat' split
            all_goals first | rfl | (exfalso; omega)
          exact z_ret E X hQ (⟨(congrArg (fun w => some (Value.int (i32 w.1))) ef).symm, a, G, rfl, by rw [ef]; exact CG_27 hG, by rw [ef]; exact X.1⟩) dX5_sheet_42
      · refine z_bipush E dX5_sheet_29 (by decide +kernel) ?_
        refine W.widen (k := 2) (n := 66) (by omega) (by omega) ?_
        have ef : fSheet S x1 x2 x3 = (-2, S) := by
          unfold fSheet
          try unfold fFind
          try simp only [Int.toNat_natCast]
          repeat' split
          all_goals first | rfl | (exfalso; omega)
        exact z_ret E X hQ (⟨(congrArg (fun w => some (Value.int (i32 w.1))) ef).symm, a, G, rfl, by rw [ef]; exact hG, by rw [ef]; exact X.1⟩) dX5_sheet_31
  · refine lv_aload_n E.1 E.2.1 dX5_sheet_7 rfl (lv_at hl 0 rfl) ?_
    refine z_bipush E dX5_sheet_8 (by decide +kernel) ?_
    refine z_callV (As := [.int (i32 (-12))]) (rest := []) (n := 1) E X (lC_0 M cA a G S) rfl (x_found l D cA B0 M a G S (-12)) gX5_sheet_X5_found rfl (by decide +kernel) ⟨by decide, by decide⟩ rfl hl.1 rfl (Nat.le_of_ble_eq_true rfl) dX5_sheet_10 ⟨by decide, by decide⟩ X.1 0 0 ⟨rfl, rfl⟩ (fun v H locs hv hS_13 => ?_)
    obtain ⟨rfl, hw⟩ := hv
    replace X : zX D B0 (zj (layC cA a G (zs S 27 0 (S 27 0 + 1))) M) s.heap H locs := ⟨hw, hS_13⟩
    refine W.widen (k := 2) (n := 66) (by omega) (by omega) ?_
    have ef : fSheet S x1 x2 x3 = (-12, zs S 27 0 (S 27 0 + 1)) := by
      unfold fSheet
      try unfold fFind
      try simp only [Int.toNat_natCast]
      repeat' split
      all_goals first | rfl | (exfalso; omega)
    exact z_ret E X hQ (⟨(congrArg (fun w => some (Value.int (i32 w.1))) ef).symm, a, G, rfl, by rw [ef]; exact CG_27 hG, by rw [ef]; exact X.1⟩) dX5_sheet_13

