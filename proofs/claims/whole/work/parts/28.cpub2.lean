abbrev rX5_total : Room := { frames := 1, cells := 0, slots := 0, locals := 25 }
set_option maxHeartbeats 4000000 in
set_option maxRecDepth 100000 in
theorem X_total (l : Launch) (D : va_G) (cA : Nat → ClassId) (B0 : Nat) (M : zL) (a : Nat → Nat → Nat) (G : zG) (S : zS) (hI : SI S) (hG : CG S G) (x1 : Int) (hx1 : zr x1) : zM l yX5_total wsX5_total rX5_total [.ref (a 0 0), .int (i32 x1)] D cA B0 (zW D B0 (zj (layC cA a G S) M)) (fun v H => v = some (.int (i32 (fTotal S x1).1)) ∧ ∃ (a2 : Nat → Nat → Nat) (G2 : zG), a2 0 0 = a 0 0 ∧ CG (fTotal S x1).2 G2 ∧ zW D B0 (zj (layC cA a2 G2 (fTotal S x1).2) M) H) := by
  refine z_met (cc := cX5_total) (maxL := 2) (ret := (some .int)) (by decide) rfl (Nat.le_of_ble_eq_true rfl) ?_
  intro p e s m args below meth c ls Q hQ E hP hB hS hl
  have hl : lv_has ls 2 [(0, .ref (a 0 0)), (1, .int (i32 x1))] := hl
  have iX5 : ∀ w ∈ u_ws RX5 TX5 11, w ∈ wsX5_total := by decide +kernel
  have X : zX D B0 (zj (layC cA a G S) M) s.heap s.heap [] := ⟨hP, hS⟩
  have hI0 := hI.1
  unfold SI0 at hI0
  obtain ⟨b1, b2, b3, b4, b5, b8, b17, b19, b7⟩ := hI0
  unfold zr at hx1
  refine lv_iload_n E.1 E.2.1 dX5_total_0 rfl (lv_at hl 1 rfl) ?_
  by_cases ht_1 : x1 = 0
  · subst ht_1
    refine z_tabI E 47 48 dX5_total_1 ⟨by omega, by omega⟩ (by omega) (by omega) (by decide) (by decide) ?_
    refine lv_aload_n E.1 E.2.1 dX5_total_48 rfl (lv_at hl 0 rfl) ?_
    refine z_get E X (lC_0 M cA a G S) rfl iX5 6 (by decide) (by decide +kernel) (v := .int (i32 (S 5 0))) rfl dX5_total_49 ?_
    have ef : fTotal S 0 = (S 5 0, S) := by
      rfl
    exact z_ret E X hQ (⟨(congrArg (fun w => some (Value.int (i32 w.1))) ef).symm, a, G, rfl, by rw [ef]; exact hG, by rw [ef]; exact X.1⟩) dX5_total_52
  by_cases ht_2 : x1 = 1
  · subst ht_2
    refine z_tabI E 52 53 dX5_total_1 ⟨by omega, by omega⟩ (by omega) (by omega) (by decide) (by decide) ?_
    refine lv_aload_n E.1 E.2.1 dX5_total_53 rfl (lv_at hl 0 rfl) ?_
    refine z_callV (As := []) (rest := []) (n := 0) E X (lC_0 M cA a G S) rfl (x_countWorking l D cA B0 M a G S hI.1) gX5_total_X5_countWorking rfl (by decide +kernel) ⟨by decide, by decide⟩ rfl hl.1 rfl (Nat.le_of_ble_eq_true rfl) dX5_total_54 ⟨by decide, by decide⟩ X.1 0 0 ⟨rfl, rfl⟩ (fun v H locs hv hS_3 => ?_)
    obtain ⟨rfl, hw⟩ := hv
    replace X : zX D B0 (zj (layC cA a G S) M) s.heap H locs := ⟨hw, hS_3⟩
    have f_4 := WK_rng (S := S) hI.1
    have ef : fTotal S 1 = (WK S, S) := by
      rfl
    exact z_ret E X hQ (⟨(congrArg (fun w => some (Value.int (i32 w.1))) ef).symm, a, G, rfl, by rw [ef]; exact hG, by rw [ef]; exact X.1⟩) dX5_total_57
  by_cases ht_5 : x1 = 2
  · subst ht_5
    refine z_tabI E 57 58 dX5_total_1 ⟨by omega, by omega⟩ (by omega) (by omega) (by decide) (by decide) ?_
    refine lv_aload_n E.1 E.2.1 dX5_total_58 rfl (lv_at hl 0 rfl) ?_
    refine z_get E X (lC_0 M cA a G S) rfl iX5 7 (by decide) (by decide +kernel) (v := .int (i32 (S 8 0))) rfl dX5_total_59 ?_
    have ef : fTotal S 2 = (S 8 0, S) := by
      rfl
    exact z_ret E X hQ (⟨(congrArg (fun w => some (Value.int (i32 w.1))) ef).symm, a, G, rfl, by rw [ef]; exact hG, by rw [ef]; exact X.1⟩) dX5_total_62
  by_cases ht_6 : x1 = 3
  · subst ht_6
    refine z_tabI E 62 63 dX5_total_1 ⟨by omega, by omega⟩ (by omega) (by omega) (by decide) (by decide) ?_
    refine lv_aload_n E.1 E.2.1 dX5_total_63 rfl (lv_at hl 0 rfl) ?_
    refine z_get E X (lC_0 M cA a G S) rfl iX5 8 (by decide) (by decide +kernel) (v := .int (i32 (S 19 0))) rfl dX5_total_64 ?_
    have ef : fTotal S 3 = (S 19 0, S) := by
      rfl
    exact z_ret E X hQ (⟨(congrArg (fun w => some (Value.int (i32 w.1))) ef).symm, a, G, rfl, by rw [ef]; exact hG, by rw [ef]; exact X.1⟩) dX5_total_67
  by_cases ht_7 : x1 = 4
  · subst ht_7
    refine z_tabI E 67 68 dX5_total_1 ⟨by omega, by omega⟩ (by omega) (by omega) (by decide) (by decide) ?_
    refine lv_aload_n E.1 E.2.1 dX5_total_68 rfl (lv_at hl 0 rfl) ?_
    refine z_get E X (lC_0 M cA a G S) rfl iX5 9 (by decide) (by decide +kernel) (v := .int (i32 (S 27 0))) rfl dX5_total_69 ?_
    have ef : fTotal S 4 = (S 27 0, S) := by
      rfl
    exact z_ret E X hQ (⟨(congrArg (fun w => some (Value.int (i32 w.1))) ef).symm, a, G, rfl, by rw [ef]; exact hG, by rw [ef]; exact X.1⟩) dX5_total_72
  by_cases ht_8 : x1 = 5
  · subst ht_8
    refine z_tabI E 72 73 dX5_total_1 ⟨by omega, by omega⟩ (by omega) (by omega) (by decide) (by decide) ?_
    refine lv_aload_n E.1 E.2.1 dX5_total_73 rfl (lv_at hl 0 rfl) ?_
    refine z_callV (As := []) (rest := []) (n := 0) E X (lC_0 M cA a G S) rfl (x_countSheets l D cA B0 M a G S   ) gX5_total_X5_countSheets rfl (by decide +kernel) ⟨by decide, by decide⟩ rfl hl.1 rfl (Nat.le_of_ble_eq_true rfl) dX5_total_74 ⟨by decide, by decide⟩ X.1 0 0 ⟨rfl, rfl⟩ (fun v H locs hv hS_9 => ?_)
    obtain ⟨rfl, hw⟩ := hv
    replace X : zX D B0 (zj (layC cA a G S) M) s.heap H locs := ⟨hw, hS_9⟩
    have ef : fTotal S 5 = (shn S, S) := by
      rfl
    exact z_ret E X hQ (⟨(congrArg (fun w => some (Value.int (i32 w.1))) ef).symm, a, G, rfl, by rw [ef]; exact hG, by rw [ef]; exact X.1⟩) dX5_total_77
  by_cases ht_10 : x1 = 6
  · subst ht_10
    refine z_tabI E 77 78 dX5_total_1 ⟨by omega, by omega⟩ (by omega) (by omega) (by decide) (by decide) ?_
    refine lv_aload_n E.1 E.2.1 dX5_total_78 rfl (lv_at hl 0 rfl) ?_
    refine z_get E X (lC_0 M cA a G S) rfl iX5 0 (by decide) (by decide +kernel) (v := .ref (a 1 0)) rfl dX5_total_79 ?_
    replace X := cl_in X
    refine z_callV (As := []) (rest := []) (n := 0) E X (lL_0 _ cA (hL a) (TL S G)) rfl (L_floor l D cA B0 (zj (layC cA a G S) M) (hL a) (TL S G)) gX5_total_X1_floor rfl (by decide +kernel) ⟨by decide, by decide⟩ rfl hl.1 rfl (Nat.le_of_ble_eq_true rfl) dX5_total_82 ⟨by decide, by decide⟩ X.1 0 0 ⟨rfl, rfl⟩ (fun v H locs hv hS_11 => ?_)
    obtain ⟨rfl, hw⟩ := hv
    replace X : zX D B0 (zj (layC cA a G S) M) s.heap H locs := cl_un ⟨hw, hS_11⟩
    refine z_top ((S 1 0) + (S 2 0)) rfl ?_
    have ef : fTotal S 6 = ((S 1 0) + (S 2 0), S) := by
      rfl
    exact z_ret E X hQ (⟨(congrArg (fun w => some (Value.int (i32 w.1))) ef).symm, a, G, rfl, by rw [ef]; exact hG, by rw [ef]; exact X.1⟩) dX5_total_85
  by_cases ht_12 : x1 = 7
  · subst ht_12
    refine z_tabI E 85 86 dX5_total_1 ⟨by omega, by omega⟩ (by omega) (by omega) (by decide) (by decide) ?_
    refine lv_aload_n E.1 E.2.1 dX5_total_86 rfl (lv_at hl 0 rfl) ?_
    refine z_get E X (lC_0 M cA a G S) rfl iX5 10 (by decide) (by decide +kernel) (v := .int (i32 (S 17 0))) rfl dX5_total_87 ?_
    refine z_feq E 97 ⟨by omega, by omega⟩ dX5_total_90 (by decide) (fun h90_13 => ?_) (fun h90_13 => ?_)
    · refine z_iconst E dX5_total_97 ?_
      refine z_top (S 17 0) (by omega) ?_
      have ef : fTotal S 7 = (S 17 0, S) := by
        rfl
      exact z_ret E X hQ (⟨(congrArg (fun w => some (Value.int (i32 w.1))) ef).symm, a, G, rfl, by rw [ef]; exact hG, by rw [ef]; exact X.1⟩) dX5_total_98
    · refine z_iconst E dX5_total_93 ?_
      refine lv_goto (tgt := 98) E.1 E.2.1 dX5_total_94 (by decide) ?_
      refine z_top (S 17 0) (by omega) ?_
      have ef : fTotal S 7 = (S 17 0, S) := by
        rfl
      exact z_ret E X hQ (⟨(congrArg (fun w => some (Value.int (i32 w.1))) ef).symm, a, G, rfl, by rw [ef]; exact hG, by rw [ef]; exact X.1⟩) dX5_total_98
  refine z_tabO E 99 dX5_total_1 ⟨by omega, by omega⟩ (by omega) (by decide) ?_
  refine z_bipush E dX5_total_99 (by decide +kernel) ?_
  have ef : fTotal S x1 = (-2, S) := by
    unfold fTotal
    rw [if_neg (by omega), if_neg (by omega), if_neg (by omega), if_neg (by omega), if_neg (by omega), if_neg (by omega), if_neg (by omega), if_neg (by omega)]
  exact z_ret E X hQ (⟨(congrArg (fun w => some (Value.int (i32 w.1))) ef).symm, a, G, rfl, by rw [ef]; exact hG, by rw [ef]; exact X.1⟩) dX5_total_101

abbrev rX5_at : Room := { frames := 2, cells := 0, slots := 0, locals := 42 }
set_option maxHeartbeats 4000000 in
set_option maxRecDepth 100000 in
theorem X_at (l : Launch) (D : va_G) (cA : Nat → ClassId) (B0 : Nat) (M : zL) (a : Nat → Nat → Nat) (G : zG) (S : zS) (hI : SI S) (hG : CG S G) (x1 x2 : Int) (hx1 : zr x1) (hx2 : zr x2) : zM l yX5_at wsX5_at rX5_at [.ref (a 0 0), .int (i32 x1), .int (i32 x2)] D cA B0 (zW D B0 (zj (layC cA a G S) M)) (fun v H => v = some (.int (i32 (fAt S x1 x2).1)) ∧ ∃ (a2 : Nat → Nat → Nat) (G2 : zG), a2 0 0 = a 0 0 ∧ CG (fAt S x1 x2).2 G2 ∧ zW D B0 (zj (layC cA a2 G2 (fAt S x1 x2).2) M) H) := by
  refine z_met (cc := cX5_at) (maxL := 4) (ret := (some .int)) (by decide) rfl (Nat.le_of_ble_eq_true rfl) ?_
  intro p e s m args below meth c ls Q hQ E hP hB hS hl
  have hl : lv_has ls 4 [(0, .ref (a 0 0)), (1, .int (i32 x1)), (2, .int (i32 x2))] := hl
  have iX2 : ∀ w ∈ u_ws RX2 TX2 2, w ∈ wsX5_at := by decide +kernel
  have iX5 : ∀ w ∈ u_ws RX5 TX5 11, w ∈ wsX5_at := by decide +kernel
  have X : zX D B0 (zj (layC cA a G S) M) s.heap s.heap [] := ⟨hP, hS⟩
  have hI0 := hI.1
  unfold SI0 at hI0
  obtain ⟨b1, b2, b3, b4, b5, b8, b17, b19, b7⟩ := hI0
  unfold zr at hx1 hx2
  refine lv_iload_n E.1 E.2.1 dX5_at_0 rfl (lv_at hl 1 rfl) ?_
  refine z_callJ (As := [.int (i32 x1)]) (rest := []) (n := 1) E X (c_noSheet l D cA B0 _ x1 ⟨by omega, by omega⟩) gX5_at_X5_noSheet rfl (by decide +kernel) ⟨by decide, by decide⟩ rfl hl.1 rfl (Nat.le_of_ble_eq_true rfl) dX5_at_1 ⟨by decide, by decide⟩ rfl 0 0 ⟨rfl, rfl⟩ (fun v H locs hv hS_1 => ?_)
  obtain ⟨hH, z_2, rfl, ez_2⟩ := hv
  subst hH
  replace X := X.same hS_1
  refine z_feq E 14 ⟨by omega, by omega⟩ dX5_at_4 (by decide) (fun h4_3 => ?_) (fun h4_3 => ?_)
  · refine lv_aload_n E.1 E.2.1 dX5_at_14 rfl (lv_at hl 0 rfl) ?_
    refine z_get E X (lC_0 M cA a G S) rfl iX5 4 (by decide) (by decide +kernel) (v := .ref (a 7 0)) rfl dX5_at_15 ?_
    refine lv_iload_n E.1 E.2.1 dX5_at_18 rfl (lv_at hl 1 rfl) ?_
    obtain ⟨q, rfl⟩ : ∃ q : Nat, x1 = (q : Int) := ⟨x1.toNat, by omega⟩
    have h4 := hI.2.2.2.2.1.1 q (by omega)
    by_cases hp_4 : 0 ≤ S 23 q
    · refine z_aldS (C := "EchoRow$Sheet") E X 5 (lC_7 M cA a G S) rfl q (by omega) (by omega) (by decide) (if_pos hp_4) dX5_at_19 ?_
      refine lv_astore_n (lv' := [(3, .ref (a 15 q)), (0, .ref (a 0 0)), (1, .int (i32 (q : Int))), (2, .int (i32 x2))]) E.1 E.2.1 dX5_at_20 rfl hl (by decide) rfl (fun ls hl => ?_)
      refine lv_aload_n E.1 E.2.1 dX5_at_21 rfl (lv_at hl 0 rfl) ?_
      refine lv_ifnonnull (tgt := 32) E.1 E.2.1 dX5_at_22 (by decide) ?_
      refine lv_iload_n E.1 E.2.1 dX5_at_32 rfl (lv_at hl 3 rfl) ?_
      refine z_flt E 45 ⟨by omega, by omega⟩ dX5_at_33 (by decide) (fun h33_5 => ?_) (fun h33_5 => ?_)
      · refine lv_aload_n E.1 E.2.1 dX5_at_45 rfl (lv_at hl 1 rfl) ?_
        refine z_bipush E dX5_at_46 (by decide +kernel) ?_
        refine z_callV (As := [.int (i32 (-12))]) (rest := []) (n := 1) E X (lC_0 M cA a G S) rfl (x_found l D cA B0 M a G S (-12)) gX5_at_X5_found rfl (by decide +kernel) ⟨by decide, by decide⟩ rfl hl.1 rfl (Nat.le_of_ble_eq_true rfl) dX5_at_48 ⟨by decide, by decide⟩ X.1 0 0 ⟨rfl, rfl⟩ (fun v H locs hv hS_6 => ?_)
        obtain ⟨rfl, hw⟩ := hv
        replace X : zX D B0 (zj (layC cA a G (zs S 27 0 (S 27 0 + 1))) M) s.heap H locs := ⟨hw, hS_6⟩
        have ef : fAt S (q : Int) x2 = (-12, zs S 27 0 (S 27 0 + 1)) := by
          unfold fAt
          try unfold fFind
          try simp only [Int.toNat_natCast]
          repeat' split
          all_goals first | rfl | (exfalso; omega)
        exact z_ret E X hQ (⟨(congrArg (fun w => some (Value.int (i32 w.1))) ef).symm, a, G, rfl, by rw [ef]; exact CG_27 hG, by rw [ef]; exact X.1⟩) dX5_at_51
      · refine lv_iload_n E.1 E.2.1 dX5_at_36 rfl (lv_at hl 3 rfl) ?_
        refine lv_aload_n E.1 E.2.1 dX5_at_37 rfl (lv_at hl 0 rfl) ?_
        refine z_get E X (lC_15 M cA a G S q ⟨by omega, by omega⟩) rfl iX2 1 (by decide) (by decide +kernel) (v := .ref (a 16 q)) rfl dX5_at_38 ?_
        refine z_alen (z := S 23 q) E X 0 (lC_16 M cA a G S q ⟨by omega, by omega⟩) rfl (by omega) dX5_at_41 ?_
        refine z_clt E 52 ⟨by omega, by omega⟩ ⟨by omega, by omega⟩ dX5_at_42 (by decide) (fun h42_7 => ?_) (fun h42_7 => ?_)
        · refine lv_aload_n E.1 E.2.1 dX5_at_52 rfl (lv_at hl 0 rfl) ?_
          refine z_get E X (lC_15 M cA a G S q ⟨by omega, by omega⟩) rfl iX2 1 (by decide) (by decide +kernel) (v := .ref (a 16 q)) rfl dX5_at_53 ?_
          refine lv_iload_n E.1 E.2.1 dX5_at_56 rfl (lv_at hl 3 rfl) ?_
          obtain ⟨i, rfl⟩ : ∃ i : Nat, x2 = (i : Int) := ⟨x2.toNat, by omega⟩
          refine z_iald E X (lC_16 M cA a G S q ⟨by omega, by omega⟩) i (by omega) (by omega) (by omega) dX5_at_57 ?_
          have ef : fAt S (q : Int) (i : Int) = ((fun j => S 25 (64 * q + j)) i, S) := by
            unfold fAt
            try unfold fFind
            try simp only [Int.toNat_natCast]
            repeat' split
            all_goals first | rfl | (exfalso; omega)
          exact z_ret E X hQ (⟨(congrArg (fun w => some (Value.int (i32 w.1))) ef).symm, a, G, rfl, by rw [ef]; exact hG, by rw [ef]; exact X.1⟩) dX5_at_58
        · refine lv_aload_n E.1 E.2.1 dX5_at_45 rfl (lv_at hl 1 rfl) ?_
          refine z_bipush E dX5_at_46 (by decide +kernel) ?_
          refine z_callV (As := [.int (i32 (-12))]) (rest := []) (n := 1) E X (lC_0 M cA a G S) rfl (x_found l D cA B0 M a G S (-12)) gX5_at_X5_found rfl (by decide +kernel) ⟨by decide, by decide⟩ rfl hl.1 rfl (Nat.le_of_ble_eq_true rfl) dX5_at_48 ⟨by decide, by decide⟩ X.1 0 0 ⟨rfl, rfl⟩ (fun v H locs hv hS_8 => ?_)
          obtain ⟨rfl, hw⟩ := hv
          replace X : zX D B0 (zj (layC cA a G (zs S 27 0 (S 27 0 + 1))) M) s.heap H locs := ⟨hw, hS_8⟩
          have ef : fAt S (q : Int) x2 = (-12, zs S 27 0 (S 27 0 + 1)) := by
            unfold fAt
            try unfold fFind
            try simp only [Int.toNat_natCast]
            repeat' split
            all_goals first | rfl | (exfalso; omega)
          exact z_ret E X hQ (⟨(congrArg (fun w => some (Value.int (i32 w.1))) ef).symm, a, G, rfl, by rw [ef]; exact CG_27 hG, by rw [ef]; exact X.1⟩) dX5_at_51
    · refine z_aldN (C := "EchoRow$Sheet") E X 5 (lC_7 M cA a G S) rfl q (by omega) (by omega) (by decide) (if_neg hp_4) dX5_at_19 ?_
      refine lv_astore_nN (lv' := [(3, .null), (0, .ref (a 0 0)), (1, .int (i32 (q : Int))), (2, .int (i32 x2))]) E.1 E.2.1 dX5_at_20 rfl hl (by decide) rfl (fun ls hl => ?_)
      refine lv_aload_nN E.1 E.2.1 dX5_at_21 rfl (lv_at hl 0 rfl) ?_
      refine lv_ifnonnullN E.1 E.2.1 dX5_at_22 ?_
      refine lv_aload_n E.1 E.2.1 dX5_at_25 rfl (lv_at hl 1 rfl) ?_
      refine z_bipush E dX5_at_26 (by decide +kernel) ?_
      refine z_callV (As := [.int (i32 (-11))]) (rest := []) (n := 1) E X (lC_0 M cA a G S) rfl (x_found l D cA B0 M a G S (-11)) gX5_at_X5_found rfl (by decide +kernel) ⟨by decide, by decide⟩ rfl hl.1 rfl (Nat.le_of_ble_eq_true rfl) dX5_at_28 ⟨by decide, by decide⟩ X.1 0 0 ⟨rfl, rfl⟩ (fun v H locs hv hS_9 => ?_)
      obtain ⟨rfl, hw⟩ := hv
      replace X : zX D B0 (zj (layC cA a G (zs S 27 0 (S 27 0 + 1))) M) s.heap H locs := ⟨hw, hS_9⟩
      have ef : fAt S (q : Int) x2 = (-11, zs S 27 0 (S 27 0 + 1)) := by
        unfold fAt
        try unfold fFind
        try simp only [Int.toNat_natCast]
        repeat' split
        all_goals first | rfl | (exfalso; omega)
      exact z_ret E X hQ (⟨(congrArg (fun w => some (Value.int (i32 w.1))) ef).symm, a, G, rfl, by rw [ef]; exact CG_27 hG, by rw [ef]; exact X.1⟩) dX5_at_31
  · refine lv_aload_n E.1 E.2.1 dX5_at_7 rfl (lv_at hl 0 rfl) ?_
    refine z_bipush E dX5_at_8 (by decide +kernel) ?_
    refine z_callV (As := [.int (i32 (-12))]) (rest := []) (n := 1) E X (lC_0 M cA a G S) rfl (x_found l D cA B0 M a G S (-12)) gX5_at_X5_found rfl (by decide +kernel) ⟨by decide, by decide⟩ rfl hl.1 rfl (Nat.le_of_ble_eq_true rfl) dX5_at_10 ⟨by decide, by decide⟩ X.1 0 0 ⟨rfl, rfl⟩ (fun v H locs hv hS_10 => ?_)
    obtain ⟨rfl, hw⟩ := hv
    replace X : zX D B0 (zj (layC cA a G (zs S 27 0 (S 27 0 + 1))) M) s.heap H locs := ⟨hw, hS_10⟩
    have ef : fAt S x1 x2 = (-12, zs S 27 0 (S 27 0 + 1)) := by
      unfold fAt
      try unfold fFind
      try simp only [Int.toNat_natCast]
      repeat' split
      all_goals first | rfl | (exfalso; omega)
    exact z_ret E X hQ (⟨(congrArg (fun w => some (Value.int (i32 w.1))) ef).symm, a, G, rfl, by rw [ef]; exact CG_27 hG, by rw [ef]; exact X.1⟩) dX5_at_13

abbrev rX5_peak : Room := { frames := 2, cells := 0, slots := 0, locals := 42 }
set_option maxHeartbeats 4000000 in
set_option maxRecDepth 100000 in
theorem X_peak (l : Launch) (D : va_G) (cA : Nat → ClassId) (B0 : Nat) (M : zL) (a : Nat → Nat → Nat) (G : zG) (S : zS) (hI : SI S) (hG : CG S G) (x1 : Int) (hx1 : zr x1) : zM l yX5_peak wsX5_peak rX5_peak [.ref (a 0 0), .int (i32 x1)] D cA B0 (zW D B0 (zj (layC cA a G S) M)) (fun v H => v = some (.int (i32 (fPeak S x1).1)) ∧ ∃ (a2 : Nat → Nat → Nat) (G2 : zG), a2 0 0 = a 0 0 ∧ CG (fPeak S x1).2 G2 ∧ zW D B0 (zj (layC cA a2 G2 (fPeak S x1).2) M) H) := by
  refine z_met (cc := cX5_peak) (maxL := 9) (ret := (some .int)) (by decide) rfl (Nat.le_of_ble_eq_true rfl) ?_
  intro p e s m args below meth c ls Q hQ E hP hB hS hl
  have hl : lv_has ls 9 [(0, .ref (a 0 0)), (1, .int (i32 x1))] := hl
  have iX2 : ∀ w ∈ u_ws RX2 TX2 2, w ∈ wsX5_peak := by decide +kernel
  have iX5 : ∀ w ∈ u_ws RX5 TX5 11, w ∈ wsX5_peak := by decide +kernel
  have X : zX D B0 (zj (layC cA a G S) M) s.heap s.heap [] := ⟨hP, hS⟩
  have hI0 := hI.1
  unfold SI0 at hI0
  obtain ⟨b1, b2, b3, b4, b5, b8, b17, b19, b7⟩ := hI0
  unfold zr at hx1
  refine lv_iload_n E.1 E.2.1 dX5_peak_0 rfl (lv_at hl 1 rfl) ?_
  refine z_callJ (As := [.int (i32 x1)]) (rest := []) (n := 1) E X (c_noSheet l D cA B0 _ x1 ⟨by omega, by omega⟩) gX5_peak_X5_noSheet rfl (by decide +kernel) ⟨by decide, by decide⟩ rfl hl.1 rfl (Nat.le_of_ble_eq_true rfl) dX5_peak_1 ⟨by decide, by decide⟩ rfl 0 0 ⟨rfl, rfl⟩ (fun v H locs hv hS_1 => ?_)
  obtain ⟨hH, z_2, rfl, ez_2⟩ := hv
  subst hH
  replace X := X.same hS_1
  refine z_feq E 14 ⟨by omega, by omega⟩ dX5_peak_4 (by decide) (fun h4_3 => ?_) (fun h4_3 => ?_)
  · refine lv_aload_n E.1 E.2.1 dX5_peak_14 rfl (lv_at hl 0 rfl) ?_
    refine z_get E X (lC_0 M cA a G S) rfl iX5 4 (by decide) (by decide +kernel) (v := .ref (a 7 0)) rfl dX5_peak_15 ?_
    refine lv_iload_n E.1 E.2.1 dX5_peak_18 rfl (lv_at hl 1 rfl) ?_
    obtain ⟨q, rfl⟩ : ∃ q : Nat, x1 = (q : Int) := ⟨x1.toNat, by omega⟩
    have h4 := hI.2.2.2.2.1.1 q (by omega)
    by_cases hp_4 : 0 ≤ S 23 q
    · refine z_aldS (C := "EchoRow$Sheet") E X 5 (lC_7 M cA a G S) rfl q (by omega) (by omega) (by decide) (if_pos hp_4) dX5_peak_19 ?_
      refine lv_astore_n (lv' := [(2, .ref (a 15 q)), (0, .ref (a 0 0)), (1, .int (i32 (q : Int)))]) E.1 E.2.1 dX5_peak_20 rfl hl (by decide) rfl (fun ls hl => ?_)
      refine lv_aload_n E.1 E.2.1 dX5_peak_21 rfl (lv_at hl 0 rfl) ?_
      refine lv_ifnonnull (tgt := 32) E.1 E.2.1 dX5_peak_22 (by decide) ?_
      refine z_ldc (v := (-99999)) (z := -99999) E (by decide +kernel) (by decide +kernel) dX5_peak_32 ?_
      refine z_top (pkb S q 0) (rfl) ?_
      refine lv_istore_n (lv' := [(3, .int (i32 (pkb S q 0))), (2, .ref (a 15 q)), (0, .ref (a 0 0)), (1, .int (i32 (q : Int)))]) E.1 E.2.1 dX5_peak_34 rfl hl (by decide) rfl (fun ls hl => ?_)
      refine z_ldc2 (v := (-1)) (z := -1) E (by decide +kernel) (by decide +kernel) dX5_peak_35 ?_
      refine z_topl (pkm S q 0) (rfl) ?_
      refine lv_lstore (lv' := [(4, .long (i64 (pkm S q 0))), (3, .int (i32 (pkb S q 0))), (2, .ref (a 15 q)), (0, .ref (a 0 0)), (1, .int (i32 (q : Int)))]) E.1 E.2.1 dX5_peak_38 hl (by decide) rfl (fun ls hl => ?_)
      refine z_iconst E dX5_peak_40 ?_
      refine z_top (0 : Int) (rfl) ?_
      refine lv_istore (lv' := [(6, .int (i32 (0 : Int))), (4, .long (i64 (pkm S q 0))), (3, .int (i32 (pkb S q 0))), (2, .ref (a 15 q)), (0, .ref (a 0 0)), (1, .int (i32 (q : Int)))]) E.1 E.2.1 dX5_peak_41 hl (by decide) rfl (fun ls hl => ?_)
      have key43 : ∀ (N : Nat) (i : Nat) (H : Heap) (locs : List Loc) (ls : Array Slot), ((S 23 q).toNat - i) < N → ((i : Int) ≤ S 23 q) → zX D B0 (zj (layC cA a G S) M) s.heap H locs → lv_has ls 9 [(0, .ref (a 0 0)), (1, .int (i32 (q : Int))), (2, .ref (a 15 q)), (3, .int (i32 (pkb S q i))), (4, .long (i64 (pkm S q i))), (6, .int (i32 (i : Int)))] → W p l e rX5_peak s m args below meth c H locs 0 0 Q (F0 m 43 ls []) := by
        intro N
        induction N with
        | zero => intros; omega
        | succ N ih43 =>
          intro i H locs ls hN hi X hl
          refine lv_iload E.1 E.2.1 dX5_peak_43 (lv_at hl 5 rfl) ?_
          refine lv_aload_n E.1 E.2.1 dX5_peak_45 rfl (lv_at hl 2 rfl) ?_
          refine z_get E X (lC_15 M cA a G S q ⟨by omega, by omega⟩) rfl iX2 1 (by decide) (by decide +kernel) (v := .ref (a 16 q)) rfl dX5_peak_46 ?_
          refine z_alen (z := S 23 q) E X 0 (lC_16 M cA a G S q ⟨by omega, by omega⟩) rfl (by omega) dX5_peak_49 ?_
          refine z_cge E 87 ⟨by omega, by omega⟩ ⟨by omega, by omega⟩ dX5_peak_50 (by decide) (fun h50_5 => ?_) (fun h50_5 => ?_)
          · refine lv_iload_n E.1 E.2.1 dX5_peak_87 rfl (lv_at hl 3 rfl) ?_
            have ef : fPeak S (q : Int) = (pkb S q i, S) := by
              unfold fPeak
              simp only [Int.toNat_natCast]
              rw [if_neg (by omega), if_neg (by omega), show (S 23 q).toNat = i by omega]
            exact z_ret E X hQ (⟨(congrArg (fun w => some (Value.int (i32 w.1))) ef).symm, a, G, rfl, by rw [ef]; exact hG, by rw [ef]; exact X.1⟩) dX5_peak_88
          · have hz1 := hI.2.2.2.2.1.2 (64 * q + i)
            unfold zr at hz1
            have hpm := pkm_rng (q := q) hI i
            have hza : 0 ≤ zabs (S 25 (64 * q + i)) ∧ zabs (S 25 (64 * q + i)) ≤ 2147483648 := by unfold zabs; split <;> omega
            refine lv_aload_n E.1 E.2.1 dX5_peak_53 rfl (lv_at hl 2 rfl) ?_
            refine z_get E X (lC_15 M cA a G S q ⟨by omega, by omega⟩) rfl iX2 1 (by decide) (by decide +kernel) (v := .ref (a 16 q)) rfl dX5_peak_54 ?_
            refine lv_iload E.1 E.2.1 dX5_peak_57 (lv_at hl 5 rfl) ?_
            refine z_iald E X (lC_16 M cA a G S q ⟨by omega, by omega⟩) i (by omega) (by omega) (by omega) dX5_peak_59 ?_
            refine z_i2l E ⟨by omega, by omega⟩ dX5_peak_60 ?_
            refine z_topl (S 25 (64 * q + i)) (rfl) ?_
            refine z_labs E ⟨by omega, by omega⟩ (by decide +kernel) (by decide +kernel) (by decide +kernel) (by decide +kernel) hl.1 (by decide) (Nat.le_of_ble_eq_true rfl) ⟨by decide, by decide⟩ dX5_peak_61 ?_
            refine lv_lstore (lv' := [(7, .long (i64 (zabs (S 25 (64 * q + i))))), (0, .ref (a 0 0)), (1, .int (i32 (q : Int))), (2, .ref (a 15 q)), (3, .int (i32 (pkb S q i))), (4, .long (i64 (pkm S q i))), (6, .int (i32 (i : Int)))]) E.1 E.2.1 dX5_peak_64 hl (by decide) rfl (fun ls hl => ?_)
            refine lv_lload E.1 E.2.1 dX5_peak_66 (lv_at hl 0 rfl) ?_
            refine lv_lload E.1 E.2.1 dX5_peak_68 (lv_at hl 5 rfl) ?_
            refine z_lcmp E ⟨by omega, by omega⟩ ⟨by omega, by omega⟩ dX5_peak_70 (fun z_6 hrz_6 hlz_6 hez_6 => ?_)
            unfold zr at hrz_6
            refine z_fle E 81 ⟨by omega, by omega⟩ dX5_peak_71 (by decide) (fun h71_7 => ?_) (fun h71_7 => ?_)
            · have ek1 : pkb S q (i + 1) = pkb S q i := by rw [pkb_S, if_neg (by omega)]
              have ek2 : pkm S q (i + 1) = pkm S q i := by rw [pkm_S, if_neg (by omega)]
              have hl : lv_has ls 9 [(7, .long (i64 (zabs (S 25 (64 * q + i))))), (0, .ref (a 0 0)), (1, .int (i32 (q : Int))), (2, .ref (a 15 q)), (3, .int (i32 (pkb S q (i + 1)))), (4, .long (i64 (pkm S q (i + 1)))), (6, .int (i32 (i : Int)))] := by rw [ek1, ek2]; exact hl
              refine z_iinc (lv' := [(6, .int (i32 ((i + 1 : Nat) : Int))), (7, .long (i64 (zabs (S 25 (64 * q + i))))), (0, .ref (a 0 0)), (1, .int (i32 (q : Int))), (2, .ref (a 15 q)), (3, .int (i32 (pkb S q (i + 1)))), (4, .long (i64 (pkm S q (i + 1))))]) E dX5_peak_81 hl (k := 6) rfl (by decide) rfl (fun ls hl => ?_)
              refine lv_goto (tgt := 43) E.1 E.2.1 dX5_peak_84 (by decide) ?_
              exact ih43 (i + 1) _ _ _ (by omega) (by omega) X (lv_sub hl [2, 3, 4, 5, 6, 0] rfl)
            · refine lv_lload E.1 E.2.1 dX5_peak_74 (lv_at hl 0 rfl) ?_
              refine lv_lstore (lv' := [(4, .long (i64 (zabs (S 25 (64 * q + i))))), (7, .long (i64 (zabs (S 25 (64 * q + i))))), (0, .ref (a 0 0)), (1, .int (i32 (q : Int))), (2, .ref (a 15 q)), (3, .int (i32 (pkb S q i))), (6, .int (i32 (i : Int)))]) E.1 E.2.1 dX5_peak_76 hl (by decide) rfl (fun ls hl => ?_)
              refine lv_iload E.1 E.2.1 dX5_peak_78 (lv_at hl 6 rfl) ?_
              refine lv_istore_n (lv' := [(3, .int (i32 (i : Int))), (4, .long (i64 (zabs (S 25 (64 * q + i))))), (7, .long (i64 (zabs (S 25 (64 * q + i))))), (0, .ref (a 0 0)), (1, .int (i32 (q : Int))), (2, .ref (a 15 q)), (6, .int (i32 (i : Int)))]) E.1 E.2.1 dX5_peak_80 rfl hl (by decide) rfl (fun ls hl => ?_)
              have ek1 : pkb S q (i + 1) = (i : Int) := by rw [pkb_S, if_pos (by omega)]
              have ek2 : pkm S q (i + 1) = zabs (S 25 (64 * q + i)) := by rw [pkm_S, if_pos (by omega)]
              have hl : lv_has ls 9 [(3, .int (i32 (pkb S q (i + 1)))), (4, .long (i64 (pkm S q (i + 1)))), (7, .long (i64 (zabs (S 25 (64 * q + i))))), (0, .ref (a 0 0)), (1, .int (i32 (q : Int))), (2, .ref (a 15 q)), (6, .int (i32 (i : Int)))] := by rw [ek1, ek2]; exact hl
              refine z_iinc (lv' := [(6, .int (i32 ((i + 1 : Nat) : Int))), (3, .int (i32 (pkb S q (i + 1)))), (4, .long (i64 (pkm S q (i + 1)))), (7, .long (i64 (zabs (S 25 (64 * q + i))))), (0, .ref (a 0 0)), (1, .int (i32 (q : Int))), (2, .ref (a 15 q))]) E dX5_peak_81 hl (k := 6) rfl (by decide) rfl (fun ls hl => ?_)
              refine lv_goto (tgt := 43) E.1 E.2.1 dX5_peak_84 (by decide) ?_
              exact ih43 (i + 1) _ _ _ (by omega) (by omega) X (lv_sub hl [4, 5, 6, 1, 2, 0] rfl)
      exact key43 (((S 23 q).toNat - 0) + 1) 0 _ _ _ (by omega) (by omega) X (lv_sub hl [4, 5, 3, 2, 1, 0] rfl)
    · refine z_aldN (C := "EchoRow$Sheet") E X 5 (lC_7 M cA a G S) rfl q (by omega) (by omega) (by decide) (if_neg hp_4) dX5_peak_19 ?_
      refine lv_astore_nN (lv' := [(2, .null), (0, .ref (a 0 0)), (1, .int (i32 (q : Int)))]) E.1 E.2.1 dX5_peak_20 rfl hl (by decide) rfl (fun ls hl => ?_)
      refine lv_aload_nN E.1 E.2.1 dX5_peak_21 rfl (lv_at hl 0 rfl) ?_
      refine lv_ifnonnullN E.1 E.2.1 dX5_peak_22 ?_
      refine lv_aload_n E.1 E.2.1 dX5_peak_25 rfl (lv_at hl 1 rfl) ?_
      refine z_bipush E dX5_peak_26 (by decide +kernel) ?_
      refine z_callV (As := [.int (i32 (-11))]) (rest := []) (n := 1) E X (lC_0 M cA a G S) rfl (x_found l D cA B0 M a G S (-11)) gX5_peak_X5_found rfl (by decide +kernel) ⟨by decide, by decide⟩ rfl hl.1 rfl (Nat.le_of_ble_eq_true rfl) dX5_peak_28 ⟨by decide, by decide⟩ X.1 0 0 ⟨rfl, rfl⟩ (fun v H locs hv hS_8 => ?_)
      obtain ⟨rfl, hw⟩ := hv
      replace X : zX D B0 (zj (layC cA a G (zs S 27 0 (S 27 0 + 1))) M) s.heap H locs := ⟨hw, hS_8⟩
      have ef : fPeak S (q : Int) = (-11, zs S 27 0 (S 27 0 + 1)) := by
        unfold fPeak
        try unfold fFind
        try simp only [Int.toNat_natCast]
        repeat' split
        all_goals first | rfl | (exfalso; omega)
      exact z_ret E X hQ (⟨(congrArg (fun w => some (Value.int (i32 w.1))) ef).symm, a, G, rfl, by rw [ef]; exact CG_27 hG, by rw [ef]; exact X.1⟩) dX5_peak_31
  · refine lv_aload_n E.1 E.2.1 dX5_peak_7 rfl (lv_at hl 0 rfl) ?_
    refine z_bipush E dX5_peak_8 (by decide +kernel) ?_
    refine z_callV (As := [.int (i32 (-12))]) (rest := []) (n := 1) E X (lC_0 M cA a G S) rfl (x_found l D cA B0 M a G S (-12)) gX5_peak_X5_found rfl (by decide +kernel) ⟨by decide, by decide⟩ rfl hl.1 rfl (Nat.le_of_ble_eq_true rfl) dX5_peak_10 ⟨by decide, by decide⟩ X.1 0 0 ⟨rfl, rfl⟩ (fun v H locs hv hS_9 => ?_)
    obtain ⟨rfl, hw⟩ := hv
    replace X : zX D B0 (zj (layC cA a G (zs S 27 0 (S 27 0 + 1))) M) s.heap H locs := ⟨hw, hS_9⟩
    have ef : fPeak S x1 = (-12, zs S 27 0 (S 27 0 + 1)) := by
      unfold fPeak
      try unfold fFind
      try simp only [Int.toNat_natCast]
      repeat' split
      all_goals first | rfl | (exfalso; omega)
    exact z_ret E X hQ (⟨(congrArg (fun w => some (Value.int (i32 w.1))) ef).symm, a, G, rfl, by rw [ef]; exact CG_27 hG, by rw [ef]; exact X.1⟩) dX5_peak_13

abbrev rX5_places : Room := { frames := 4, cells := 0, slots := 0, locals := 104 }
set_option maxHeartbeats 4000000 in
set_option maxRecDepth 100000 in
theorem X_places (l : Launch) (D : va_G) (cA : Nat → ClassId) (B0 : Nat) (M : zL) (a : Nat → Nat → Nat) (G : zG) (S : zS) (hI : SI S) (hG : CG S G) (x1 : Int) (hx1 : zr x1) : zM l yX5_places wsX5_places rX5_places [.ref (a 0 0), .int (i32 x1)] D cA B0 (zW D B0 (zj (layC cA a G S) M)) (fun v H => v = some (.int (i32 (fPlaces S x1).1)) ∧ ∃ (a2 : Nat → Nat → Nat) (G2 : zG), a2 0 0 = a 0 0 ∧ CG (fPlaces S x1).2 G2 ∧ zW D B0 (zj (layC cA a2 G2 (fPlaces S x1).2) M) H) := by
  refine z_met (cc := cX5_places) (maxL := 5) (ret := (some .int)) (by decide) rfl (Nat.le_of_ble_eq_true rfl) ?_
  intro p e s m args below meth c ls Q hQ E hP hB hS hl
  have hl : lv_has ls 5 [(0, .ref (a 0 0)), (1, .int (i32 x1))] := hl
  have iX1 : ∀ w ∈ u_ws RX1 TX1 7, w ∈ wsX5_places := by decide +kernel
  have iX5 : ∀ w ∈ u_ws RX5 TX5 11, w ∈ wsX5_places := by decide +kernel
  have X : zX D B0 (zj (layC cA a G S) M) s.heap s.heap [] := ⟨hP, hS⟩
  have hI0 := hI.1
  unfold SI0 at hI0
  obtain ⟨b1, b2, b3, b4, b5, b8, b17, b19, b7⟩ := hI0
  unfold zr at hx1
  refine lv_iload_n E.1 E.2.1 dX5_places_0 rfl (lv_at hl 1 rfl) ?_
  refine z_iconst E dX5_places_1 ?_
  refine z_bipush E dX5_places_2 (by decide +kernel) ?_
  refine z_callJ (As := [.int (i32 x1), .int (i32 0), .int (i32 100)]) (rest := []) (n := 3) E X (c_outside l D cA B0 _ x1 0 100 ⟨by omega, by omega⟩ ⟨by omega, by omega⟩ ⟨by omega, by omega⟩) gX5_places_X5_outside rfl (by decide +kernel) ⟨by decide, by decide⟩ rfl hl.1 rfl (Nat.le_of_ble_eq_true rfl) dX5_places_4 ⟨by decide, by decide⟩ rfl 0 0 ⟨rfl, rfl⟩ (fun v H locs hv hS_1 => ?_)
  obtain ⟨hH, z_2, rfl, ez_2⟩ := hv
  subst hH
  replace X := X.same hS_1
  refine z_feq E 13 ⟨by omega, by omega⟩ dX5_places_7 (by decide) (fun h7_3 => ?_) (fun h7_3 => ?_)
  · refine z_iconst E dX5_places_13 ?_
    refine z_top ((cntb (nrc S x1) (51 * 0) : Nat) : Int) (rfl) ?_
    refine lv_istore_n (lv' := [(2, .int (i32 ((cntb (nrc S x1) (51 * 0) : Nat) : Int))), (0, .ref (a 0 0)), (1, .int (i32 x1))]) E.1 E.2.1 dX5_places_14 rfl hl (by decide) rfl (fun ls hl => ?_)
    refine lv_aload_n E.1 E.2.1 dX5_places_15 rfl (lv_at hl 1 rfl) ?_
    refine z_get E X (lC_0 M cA a G S) rfl iX5 0 (by decide) (by decide +kernel) (v := .ref (a 1 0)) rfl dX5_places_16 ?_
    refine z_get E X (lC_1 M cA a G S) rfl iX1 0 (by decide) (by decide +kernel) (v := .int (i32 (S 1 0))) rfl dX5_places_19 ?_
    refine z_top (((S 1 0).toNat + 0 : Nat) : Int) (by omega) ?_
    refine lv_istore_n (lv' := [(3, .int (i32 (((S 1 0).toNat + 0 : Nat) : Int))), (2, .int (i32 ((cntb (nrc S x1) (51 * 0) : Nat) : Int))), (0, .ref (a 0 0)), (1, .int (i32 x1))]) E.1 E.2.1 dX5_places_22 rfl hl (by decide) rfl (fun ls hl => ?_)
    have key23 : ∀ (N : Nat) (r : Nat) (G : zG) (H : Heap) (locs : List Loc) (ls : Array Slot), ((S 2 0).toNat + 1 - r) < N → ((r : Int) ≤ S 2 0 + 1) → (CG S G) → zX D B0 (zj (layC cA a G S) M) s.heap H locs → lv_has ls 5 [(0, .ref (a 0 0)), (1, .int (i32 x1)), (2, .int (i32 ((cntb (nrc S x1) (51 * r) : Nat) : Int))), (3, .int (i32 (((S 1 0).toNat + r : Nat) : Int)))] → W p l e rX5_places s m args below meth c H locs 0 0 Q (F0 m 23 ls []) := by
      intro N
      induction N with
      | zero => intros; omega
      | succ N ih23 =>
        intro r G H locs ls hN hr hG X hl
        refine lv_iload_n E.1 E.2.1 dX5_places_23 rfl (lv_at hl 3 rfl) ?_
        refine lv_aload_n E.1 E.2.1 dX5_places_24 rfl (lv_at hl 0 rfl) ?_
        refine z_get E X (lC_0 M cA a G S) rfl iX5 0 (by decide) (by decide +kernel) (v := .ref (a 1 0)) rfl dX5_places_25 ?_
        replace X := cl_in X
        refine z_callV (As := []) (rest := [.int (i32 (((S 1 0).toNat + r : Nat) : Int))]) (n := 0) E X (lL_0 _ cA (hL a) (TL S G)) rfl (L_floor l D cA B0 (zj (layC cA a G S) M) (hL a) (TL S G)) gX5_places_X1_floor rfl (by decide +kernel) ⟨by decide, by decide⟩ rfl hl.1 rfl (Nat.le_of_ble_eq_true rfl) dX5_places_28 ⟨by decide, by decide⟩ X.1 0 0 ⟨rfl, rfl⟩ (fun v H locs hv hS_4 => ?_)
        obtain ⟨rfl, hw⟩ := hv
        replace X : zX D B0 (zj (layC cA a G S) M) s.heap H locs := cl_un ⟨hw, hS_4⟩
        refine z_top ((S 1 0) + (S 2 0)) rfl ?_
        refine z_cgt E 70 ⟨by omega, by omega⟩ ⟨by omega, by omega⟩ dX5_places_31 (by decide) (fun h31_5 => ?_) (fun h31_5 => ?_)
        · have hc9 := cntb_le (f := nrc S x1) (51 * r)
          refine lv_iload_n E.1 E.2.1 dX5_places_70 rfl (lv_at hl 2 rfl) ?_
          have ef : fPlaces S x1 = (((cntb (nrc S x1) (51 * r) : Nat) : Int), S) := by
            unfold fPlaces NRR PL
            rw [if_neg (by omega), if_pos rfl, show NP S = 51 * r by unfold NP; omega]
          exact z_ret E X hQ (⟨(congrArg (fun w => some (Value.int (i32 w.1))) ef).symm, a, G, rfl, by rw [ef]; exact hG, by rw [ef]; exact X.1⟩) dX5_places_71
        · have hc9 := cntb_le (f := nrc S x1) (51 * r)
          refine z_iconst E dX5_places_34 ?_
          refine z_top (0 : Int) (rfl) ?_
          refine lv_istore (lv' := [(4, .int (i32 (0 : Int))), (0, .ref (a 0 0)), (1, .int (i32 x1)), (2, .int (i32 ((cntb (nrc S x1) (51 * r) : Nat) : Int))), (3, .int (i32 (((S 1 0).toNat + r : Nat) : Int)))]) E.1 E.2.1 dX5_places_35 hl (by decide) rfl (fun ls hl => ?_)
          have key37 : ∀ (N : Nat) (x : Nat) (G : zG) (H : Heap) (locs : List Loc) (ls : Array Slot), (51 - x) < N → (x ≤ 51) → (CG S G) → zX D B0 (zj (layC cA a G S) M) s.heap H locs → lv_has ls 5 [(0, .ref (a 0 0)), (1, .int (i32 x1)), (2, .int (i32 ((cntb (nrc S x1) (51 * r + x) : Nat) : Int))), (3, .int (i32 (((S 1 0).toNat + r : Nat) : Int))), (4, .int (i32 (x : Int)))] → W p l e rX5_places s m args below meth c H locs 0 0 Q (F0 m 37 ls []) := by
            intro N
            induction N with
            | zero => intros; omega
            | succ N ih37 =>
              intro x G H locs ls hN hx hG X hl
              refine lv_iload E.1 E.2.1 dX5_places_37 (lv_at hl 4 rfl) ?_
              refine z_bipush E dX5_places_39 (by decide +kernel) ?_
              refine z_cgt E 64 ⟨by omega, by omega⟩ ⟨by omega, by omega⟩ dX5_places_41 (by decide) (fun h41_6 => ?_) (fun h41_6 => ?_)
              · have ex : 51 * r + x = 51 * (r + 1) := by omega
                rw [ex] at hl
                refine z_iinc (lv' := [(3, .int (i32 (((S 1 0).toNat + r + 1 : Nat) : Int))), (0, .ref (a 0 0)), (1, .int (i32 x1)), (2, .int (i32 ((cntb (nrc S x1) (51 * (r + 1)) : Nat) : Int))), (4, .int (i32 (x : Int)))]) E dX5_places_64 hl (k := 3) rfl (by decide) rfl (fun ls hl => ?_)
                refine lv_goto (tgt := 23) E.1 E.2.1 dX5_places_67 (by decide) ?_
                exact ih23 (r + 1) G _ _ _ (by omega) (by omega) hG X (lv_sub hl [1, 2, 3, 0] rfl)
              · have hc9 := cntb_le (f := nrc S x1) (51 * r + x)
                refine lv_aload_n E.1 E.2.1 dX5_places_44 rfl (lv_at hl 0 rfl) ?_
                refine lv_iload E.1 E.2.1 dX5_places_45 (lv_at hl 4 rfl) ?_
                refine lv_iload_n E.1 E.2.1 dX5_places_47 rfl (lv_at hl 3 rfl) ?_
                refine lv_iload_n E.1 E.2.1 dX5_places_48 rfl (lv_at hl 1 rfl) ?_
                refine z_callV (As := [.int (i32 (x : Int)), .int (i32 (((S 1 0).toNat + r : Nat) : Int)), .int (i32 x1)]) (rest := []) (n := 3) E X (lC_0 M cA a G S) rfl (x_fits l D cA B0 M a G S hI hG x ((S 1 0).toNat + r) x1 (by omega) (by omega) (by omega)) gX5_places_X5_fits rfl (by decide +kernel) ⟨by decide, by decide⟩ rfl hl.1 rfl (Nat.le_of_ble_eq_true rfl) dX5_places_49 ⟨by decide, by decide⟩ X.1 0 0 ⟨rfl, rfl⟩ (fun v H locs hv hS_7 => ?_)
                obtain ⟨⟨z_9, rfl, ez_9⟩, G_8, hG, hw⟩ := hv
                replace X : zX D B0 (zj (layC cA a G_8 S) M) s.heap H locs := ⟨hw, hS_7⟩
                have hzz : (nearb S x1 x ((S 1 0).toNat + r) = true ∧ z_9 = 1) ∨ (nearb S x1 x ((S 1 0).toNat + r) = false ∧ z_9 = 0) := by
                  rw [ez_9]
                  cases nearb S x1 x ((S 1 0).toNat + r)
                  · exact Or.inr ⟨rfl, rfl⟩
                  · exact Or.inl ⟨rfl, rfl⟩
                have hz01 : z_9 = 0 ∨ z_9 = 1 := by rcases hzz with q | q <;> omega
                clear ez_9
                refine z_feq E 58 ⟨by omega, by omega⟩ dX5_places_52 (by decide) (fun h52_10 => ?_) (fun h52_10 => ?_)
                · have ecn : cntb (nrc S x1) (51 * r + (x + 1)) = cntb (nrc S x1) (51 * r + x) := by
                    refine cntb_n (n := 51 * r + x) ?_
                    rw [nrc_at (by omega)]
                    rcases hzz with q | q
                    · omega
                    · exact q.1
                  have hl : lv_has ls 5 [(0, .ref (a 0 0)), (1, .int (i32 x1)), (2, .int (i32 ((cntb (nrc S x1) (51 * r + (x + 1)) : Nat) : Int))), (3, .int (i32 (((S 1 0).toNat + r : Nat) : Int))), (4, .int (i32 (x : Int)))] := by rw [ecn]; exact hl
                  refine z_iinc (lv' := [(4, .int (i32 ((x + 1 : Nat) : Int))), (0, .ref (a 0 0)), (1, .int (i32 x1)), (2, .int (i32 ((cntb (nrc S x1) (51 * r + (x + 1)) : Nat) : Int))), (3, .int (i32 (((S 1 0).toNat + r : Nat) : Int)))]) E dX5_places_58 hl (k := 4) rfl (by decide) rfl (fun ls hl => ?_)
                  refine lv_goto (tgt := 37) E.1 E.2.1 dX5_places_61 (by decide) ?_
                  exact ih37 (x + 1) G_8 _ _ _ (by omega) (by omega) hG X (lv_sub hl [1, 2, 3, 4, 0] rfl)
                · refine z_iinc (lv' := [(2, .int (i32 ((cntb (nrc S x1) (51 * r + x) + 1 : Nat) : Int))), (0, .ref (a 0 0)), (1, .int (i32 x1)), (3, .int (i32 (((S 1 0).toNat + r : Nat) : Int))), (4, .int (i32 (x : Int)))]) E dX5_places_55 hl (k := 2) rfl (by decide) rfl (fun ls hl => ?_)
                  have ecn : cntb (nrc S x1) (51 * r + (x + 1)) = cntb (nrc S x1) (51 * r + x) + 1 := by
                    refine cntb_y (n := 51 * r + x) ?_
                    rw [nrc_at (by omega)]
                    rcases hzz with q | q
                    · exact q.1
                    · omega
                  have hl : lv_has ls 5 [(2, .int (i32 ((cntb (nrc S x1) (51 * r + (x + 1)) : Nat) : Int))), (0, .ref (a 0 0)), (1, .int (i32 x1)), (3, .int (i32 (((S 1 0).toNat + r : Nat) : Int))), (4, .int (i32 (x : Int)))] := by rw [ecn]; exact hl
                  refine z_iinc (lv' := [(4, .int (i32 ((x + 1 : Nat) : Int))), (2, .int (i32 ((cntb (nrc S x1) (51 * r + (x + 1)) : Nat) : Int))), (0, .ref (a 0 0)), (1, .int (i32 x1)), (3, .int (i32 (((S 1 0).toNat + r : Nat) : Int)))]) E dX5_places_58 hl (k := 4) rfl (by decide) rfl (fun ls hl => ?_)
                  refine lv_goto (tgt := 37) E.1 E.2.1 dX5_places_61 (by decide) ?_
                  exact ih37 (x + 1) G_8 _ _ _ (by omega) (by omega) hG X (lv_sub hl [2, 3, 1, 4, 0] rfl)
          exact key37 ((51 - 0) + 1) 0 G _ _ _ (by omega) (by omega) hG X (lv_sub hl [1, 2, 3, 4, 0] rfl)
    exact key23 (((S 2 0).toNat + 1 - 0) + 1) 0 G _ _ _ (by omega) (by omega) hG X (lv_sub hl [2, 3, 1, 0] rfl)
  · refine z_bipush E dX5_places_10 (by decide +kernel) ?_
    have ef : fPlaces S x1 = (-2, S) := by
      unfold fPlaces
      try unfold fFind
      try simp only [Int.toNat_natCast]
      repeat' split
      all_goals first | rfl | (exfalso; omega)
    exact z_ret E X hQ (⟨(congrArg (fun w => some (Value.int (i32 w.1))) ef).symm, a, G, rfl, by rw [ef]; exact hG, by rw [ef]; exact X.1⟩) dX5_places_12

theorem fnd_fpl {S : zS} {wi i : Int} : ∀ {n : Nat}, ((n : Nat) : Int) ≤ i → fnd (fpl S wi i) n = none := by
  intro n
  induction n with
  | zero => exact fun _ => rfl
  | succ n ih =>
    intro h
    refine fnd_S (ih (by omega)) ?_
    unfold fpl
    have h1 := cntb_le (f := nrc S wi) n
    rw [decide_eq_false (by omega), Bool.and_false]
theorem NRR_far {S : zS} {wi i : Int} (h2 : S 2 0 ≤ 30) (h : 1580 < i) : NRR S wi i = -99999 := by
  have h0 : ((NP S : Nat) : Int) ≤ i := by
    unfold NP
    omega
  unfold NRR PLI
  rw [if_neg (by omega), fnd_fpl h0]
abbrev rX5_place : Room := { frames := 4, cells := 0, slots := 0, locals := 104 }
set_option maxHeartbeats 4000000 in
set_option maxRecDepth 100000 in
theorem X_place (l : Launch) (D : va_G) (cA : Nat → ClassId) (B0 : Nat) (M : zL) (a : Nat → Nat → Nat) (G : zG) (S : zS) (hI : SI S) (hG : CG S G) (x1 x2 : Int) (hx1 : zr x1) (hx2 : zr x2) : zM l yX5_place wsX5_place rX5_place [.ref (a 0 0), .int (i32 x1), .int (i32 x2)] D cA B0 (zW D B0 (zj (layC cA a G S) M)) (fun v H => v = some (.int (i32 (fPlace S x1 x2).1)) ∧ ∃ (a2 : Nat → Nat → Nat) (G2 : zG), a2 0 0 = a 0 0 ∧ CG (fPlace S x1 x2).2 G2 ∧ zW D B0 (zj (layC cA a2 G2 (fPlace S x1 x2).2) M) H) := by
  refine z_met (cc := cX5_place) (maxL := 6) (ret := (some .int)) (by decide) rfl (Nat.le_of_ble_eq_true rfl) ?_
  intro p e s m args below meth c ls Q hQ E hP hB hS hl
  have hl : lv_has ls 6 [(0, .ref (a 0 0)), (1, .int (i32 x1)), (2, .int (i32 x2))] := hl
  have iX1 : ∀ w ∈ u_ws RX1 TX1 7, w ∈ wsX5_place := by decide +kernel
  have iX5 : ∀ w ∈ u_ws RX5 TX5 11, w ∈ wsX5_place := by decide +kernel
  have X : zX D B0 (zj (layC cA a G S) M) s.heap s.heap [] := ⟨hP, hS⟩
  have hI0 := hI.1
  unfold SI0 at hI0
  obtain ⟨b1, b2, b3, b4, b5, b8, b17, b19, b7⟩ := hI0
  unfold zr at hx1 hx2
  refine lv_iload_n E.1 E.2.1 dX5_place_0 rfl (lv_at hl 1 rfl) ?_
  refine z_iconst E dX5_place_1 ?_
  refine z_bipush E dX5_place_2 (by decide +kernel) ?_
  refine z_callJ (As := [.int (i32 x1), .int (i32 0), .int (i32 100)]) (rest := []) (n := 3) E X (c_outside l D cA B0 _ x1 0 100 ⟨by omega, by omega⟩ ⟨by omega, by omega⟩ ⟨by omega, by omega⟩) gX5_place_X5_outside rfl (by decide +kernel) ⟨by decide, by decide⟩ rfl hl.1 rfl (Nat.le_of_ble_eq_true rfl) dX5_place_4 ⟨by decide, by decide⟩ rfl 0 0 ⟨rfl, rfl⟩ (fun v H locs hv hS_1 => ?_)
  obtain ⟨hH, z_2, rfl, ez_2⟩ := hv
  subst hH
  replace X := X.same hS_1
  refine z_feq E 13 ⟨by omega, by omega⟩ dX5_place_7 (by decide) (fun h7_3 => ?_) (fun h7_3 => ?_)
  · refine lv_iload_n E.1 E.2.1 dX5_place_13 rfl (lv_at hl 2 rfl) ?_
    refine z_iconst E dX5_place_14 ?_
    refine z_sipush E dX5_place_15 (by decide +kernel) ?_
    refine z_callJ (As := [.int (i32 x2), .int (i32 0), .int (i32 1580)]) (rest := []) (n := 3) E X (c_outside l D cA B0 _ x2 0 1580 ⟨by omega, by omega⟩ ⟨by omega, by omega⟩ ⟨by omega, by omega⟩) gX5_place_X5_outside rfl (by decide +kernel) ⟨by decide, by decide⟩ rfl hl.1 rfl (Nat.le_of_ble_eq_true rfl) dX5_place_18 ⟨by decide, by decide⟩ rfl 0 0 ⟨rfl, rfl⟩ (fun v H locs hv hS_4 => ?_)
    obtain ⟨hH, z_5, rfl, ez_5⟩ := hv
    subst hH
    replace X := X.same hS_4
    refine z_feq E 27 ⟨by omega, by omega⟩ dX5_place_21 (by decide) (fun h21_6 => ?_) (fun h21_6 => ?_)
    · refine lv_iload_n E.1 E.2.1 dX5_place_27 rfl (lv_at hl 2 rfl) ?_
      refine z_top (x2 - ((cntb (nrc S x1) (51 * 0) : Nat) : Int)) (by show x2 = x2 - ((0 : Nat) : Int); omega) ?_
      refine lv_istore_n (lv' := [(3, .int (i32 (x2 - ((cntb (nrc S x1) (51 * 0) : Nat) : Int)))), (0, .ref (a 0 0)), (1, .int (i32 x1)), (2, .int (i32 x2))]) E.1 E.2.1 dX5_place_28 rfl hl (by decide) rfl (fun ls hl => ?_)
      refine lv_aload_n E.1 E.2.1 dX5_place_29 rfl (lv_at hl 1 rfl) ?_
      refine z_get E X (lC_0 M cA a G S) rfl iX5 0 (by decide) (by decide +kernel) (v := .ref (a 1 0)) rfl dX5_place_30 ?_
      refine z_get E X (lC_1 M cA a G S) rfl iX1 0 (by decide) (by decide +kernel) (v := .int (i32 (S 1 0))) rfl dX5_place_33 ?_
      refine z_top (((S 1 0).toNat + 0 : Nat) : Int) (by omega) ?_
      refine lv_istore (lv' := [(4, .int (i32 (((S 1 0).toNat + 0 : Nat) : Int))), (3, .int (i32 (x2 - ((cntb (nrc S x1) (51 * 0) : Nat) : Int)))), (0, .ref (a 0 0)), (1, .int (i32 x1)), (2, .int (i32 x2))]) E.1 E.2.1 dX5_place_36 hl (by decide) rfl (fun ls hl => ?_)
      have key38 : ∀ (N : Nat) (r : Nat) (G : zG) (H : Heap) (locs : List Loc) (ls : Array Slot), ((S 2 0).toNat + 1 - r) < N → ((r : Int) ≤ S 2 0 + 1) → (CG S G) → (fnd (fpl S x1 x2) (51 * r) = none) → (((cntb (nrc S x1) (51 * r) : Nat) : Int) ≤ x2) → zX D B0 (zj (layC cA a G S) M) s.heap H locs → lv_has ls 6 [(0, .ref (a 0 0)), (1, .int (i32 x1)), (2, .int (i32 x2)), (3, .int (i32 (x2 - ((cntb (nrc S x1) (51 * r) : Nat) : Int)))), (4, .int (i32 (((S 1 0).toNat + r : Nat) : Int)))] → W p l e rX5_place s m args below meth c H locs 0 0 Q (F0 m 38 ls []) := by
        intro N
        induction N with
        | zero => intros; omega
        | succ N ih38 =>
          intro r G H locs ls hN hr hG hf hct X hl
          refine lv_iload E.1 E.2.1 dX5_place_38 (lv_at hl 4 rfl) ?_
          refine lv_aload_n E.1 E.2.1 dX5_place_40 rfl (lv_at hl 0 rfl) ?_
          refine z_get E X (lC_0 M cA a G S) rfl iX5 0 (by decide) (by decide +kernel) (v := .ref (a 1 0)) rfl dX5_place_41 ?_
          replace X := cl_in X
          refine z_callV (As := []) (rest := [.int (i32 (((S 1 0).toNat + r : Nat) : Int))]) (n := 0) E X (lL_0 _ cA (hL a) (TL S G)) rfl (L_floor l D cA B0 (zj (layC cA a G S) M) (hL a) (TL S G)) gX5_place_X1_floor rfl (by decide +kernel) ⟨by decide, by decide⟩ rfl hl.1 rfl (Nat.le_of_ble_eq_true rfl) dX5_place_44 ⟨by decide, by decide⟩ X.1 0 0 ⟨rfl, rfl⟩ (fun v H locs hv hS_7 => ?_)
          obtain ⟨rfl, hw⟩ := hv
          replace X : zX D B0 (zj (layC cA a G S) M) s.heap H locs := cl_un ⟨hw, hS_7⟩
          refine z_top ((S 1 0) + (S 2 0)) rfl ?_
          refine z_cgt E 101 ⟨by omega, by omega⟩ ⟨by omega, by omega⟩ dX5_place_47 (by decide) (fun h47_8 => ?_) (fun h47_8 => ?_)
          · refine z_ldc (v := (-99999)) (z := -99999) E (by decide +kernel) (by decide +kernel) dX5_place_101 ?_
            have ef : fPlace S x1 x2 = (-99999, S) := by
              unfold fPlace
              rw [if_neg (by omega), if_neg (by omega), NRR_end (r := r) (by omega) (by omega) hf, if_neg (by omega)]
            exact z_ret E X hQ (⟨(congrArg (fun w => some (Value.int (i32 w.1))) ef).symm, a, G, rfl, by rw [ef]; exact hG, by rw [ef]; exact X.1⟩) dX5_place_103
          · refine z_iconst E dX5_place_50 ?_
            refine z_top (0 : Int) (rfl) ?_
            refine lv_istore (lv' := [(5, .int (i32 (0 : Int))), (0, .ref (a 0 0)), (1, .int (i32 x1)), (2, .int (i32 x2)), (3, .int (i32 (x2 - ((cntb (nrc S x1) (51 * r) : Nat) : Int)))), (4, .int (i32 (((S 1 0).toNat + r : Nat) : Int)))]) E.1 E.2.1 dX5_place_51 hl (by decide) rfl (fun ls hl => ?_)
            have key53 : ∀ (N : Nat) (x : Nat) (G : zG) (H : Heap) (locs : List Loc) (ls : Array Slot), (51 - x) < N → (x ≤ 51) → (CG S G) → (fnd (fpl S x1 x2) (51 * r + x) = none) → (((cntb (nrc S x1) (51 * r + x) : Nat) : Int) ≤ x2) → zX D B0 (zj (layC cA a G S) M) s.heap H locs → lv_has ls 6 [(0, .ref (a 0 0)), (1, .int (i32 x1)), (2, .int (i32 x2)), (3, .int (i32 (x2 - ((cntb (nrc S x1) (51 * r + x) : Nat) : Int)))), (4, .int (i32 (((S 1 0).toNat + r : Nat) : Int))), (5, .int (i32 (x : Int)))] → W p l e rX5_place s m args below meth c H locs 0 0 Q (F0 m 53 ls []) := by
              intro N
              induction N with
              | zero => intros; omega
              | succ N ih53 =>
                intro x G H locs ls hN hx hG hf hct X hl
                refine lv_iload E.1 E.2.1 dX5_place_53 (lv_at hl 5 rfl) ?_
                refine z_bipush E dX5_place_55 (by decide +kernel) ?_
                refine z_cgt E 95 ⟨by omega, by omega⟩ ⟨by omega, by omega⟩ dX5_place_57 (by decide) (fun h57_9 => ?_) (fun h57_9 => ?_)
                · have ex : 51 * r + x = 51 * (r + 1) := by omega
                  rw [ex] at hl hf hct
                  refine z_iinc (lv' := [(4, .int (i32 (((S 1 0).toNat + r + 1 : Nat) : Int))), (0, .ref (a 0 0)), (1, .int (i32 x1)), (2, .int (i32 x2)), (3, .int (i32 (x2 - ((cntb (nrc S x1) (51 * (r + 1)) : Nat) : Int)))), (5, .int (i32 (x : Int)))]) E dX5_place_95 hl (k := 4) rfl (by decide) rfl (fun ls hl => ?_)
                  refine lv_goto (tgt := 38) E.1 E.2.1 dX5_place_98 (by decide) ?_
                  exact ih38 (r + 1) G _ _ _ (by omega) (by omega) hG hf (by omega) X (lv_sub hl [1, 2, 3, 4, 0] rfl)
                · have hc9 := cntb_le (f := nrc S x1) (51 * r + x)
                  refine lv_aload_n E.1 E.2.1 dX5_place_60 rfl (lv_at hl 0 rfl) ?_
                  refine lv_iload E.1 E.2.1 dX5_place_61 (lv_at hl 5 rfl) ?_
                  refine lv_iload E.1 E.2.1 dX5_place_63 (lv_at hl 4 rfl) ?_
                  refine lv_iload_n E.1 E.2.1 dX5_place_65 rfl (lv_at hl 1 rfl) ?_
                  refine z_callV (As := [.int (i32 (x : Int)), .int (i32 (((S 1 0).toNat + r : Nat) : Int)), .int (i32 x1)]) (rest := []) (n := 3) E X (lC_0 M cA a G S) rfl (x_fits l D cA B0 M a G S hI hG x ((S 1 0).toNat + r) x1 (by omega) (by omega) (by omega)) gX5_place_X5_fits rfl (by decide +kernel) ⟨by decide, by decide⟩ rfl hl.1 rfl (Nat.le_of_ble_eq_true rfl) dX5_place_66 ⟨by decide, by decide⟩ X.1 0 0 ⟨rfl, rfl⟩ (fun v H locs hv hS_10 => ?_)
                  obtain ⟨⟨z_12, rfl, ez_12⟩, G_11, hG, hw⟩ := hv
                  replace X : zX D B0 (zj (layC cA a G_11 S) M) s.heap H locs := ⟨hw, hS_10⟩
                  have hzz : (nearb S x1 x ((S 1 0).toNat + r) = true ∧ z_12 = 1) ∨ (nearb S x1 x ((S 1 0).toNat + r) = false ∧ z_12 = 0) := by
                    rw [ez_12]
                    cases nearb S x1 x ((S 1 0).toNat + r)
                    · exact Or.inr ⟨rfl, rfl⟩
                    · exact Or.inl ⟨rfl, rfl⟩
                  have hz01 : z_12 = 0 ∨ z_12 = 1 := by rcases hzz with q | q <;> omega
                  clear ez_12
                  refine z_feq E 89 ⟨by omega, by omega⟩ dX5_place_69 (by decide) (fun h69_13 => ?_) (fun h69_13 => ?_)
                  · have ecn : cntb (nrc S x1) (51 * r + (x + 1)) = cntb (nrc S x1) (51 * r + x) := by
                      refine cntb_n (n := 51 * r + x) ?_
                      rw [nrc_at (by omega)]
                      rcases hzz with q | q
                      · omega
                      · exact q.1
                    have hms := fpl_miss (S := S) (wi := x1) (i := x2) (r := r) (x := x) (by omega) (Or.inl (by rcases hzz with q | q; exact absurd q.2 (by omega); exact q.1))
                    have ecl : x2 - ((cntb (nrc S x1) (51 * r + (x + 1)) : Nat) : Int) = x2 - ((cntb (nrc S x1) (51 * r + x) : Nat) : Int) := by omega
                    have hl : lv_has ls 6 [(0, .ref (a 0 0)), (1, .int (i32 x1)), (2, .int (i32 x2)), (3, .int (i32 (x2 - ((cntb (nrc S x1) (51 * r + (x + 1)) : Nat) : Int)))), (4, .int (i32 (((S 1 0).toNat + r : Nat) : Int))), (5, .int (i32 (x : Int)))] := by rw [ecl]; exact hl
                    refine z_iinc (lv' := [(5, .int (i32 ((x + 1 : Nat) : Int))), (0, .ref (a 0 0)), (1, .int (i32 x1)), (2, .int (i32 x2)), (3, .int (i32 (x2 - ((cntb (nrc S x1) (51 * r + (x + 1)) : Nat) : Int)))), (4, .int (i32 (((S 1 0).toNat + r : Nat) : Int)))]) E dX5_place_89 hl (k := 5) rfl (by decide) rfl (fun ls hl => ?_)
                    refine lv_goto (tgt := 53) E.1 E.2.1 dX5_place_92 (by decide) ?_
                    exact ih53 (x + 1) G_11 _ _ _ (by omega) (by omega) hG (fnd_S hf hms) (by omega) X (lv_sub hl [1, 2, 3, 4, 5, 0] rfl)
                  · refine lv_iload_n E.1 E.2.1 dX5_place_72 rfl (lv_at hl 3 rfl) ?_
                    refine z_fne E 86 ⟨by omega, by omega⟩ dX5_place_73 (by decide) (fun h73_14 => ?_) (fun h73_14 => ?_)
                    · refine z_iinc (lv' := [(3, .int (i32 ((x2 - ((cntb (nrc S x1) (51 * r + x) : Nat) : Int)) + (-1)))), (0, .ref (a 0 0)), (1, .int (i32 x1)), (2, .int (i32 x2)), (4, .int (i32 (((S 1 0).toNat + r : Nat) : Int))), (5, .int (i32 (x : Int)))]) E dX5_place_86 hl (k := 3) rfl (by decide) rfl (fun ls hl => ?_)
                      have ecn : cntb (nrc S x1) (51 * r + (x + 1)) = cntb (nrc S x1) (51 * r + x) + 1 := by
                        refine cntb_y (n := 51 * r + x) ?_
                        rw [nrc_at (by omega)]
                        rcases hzz with q | q
                        · exact q.1
                        · omega
                      have hms := fpl_miss (S := S) (wi := x1) (i := x2) (r := r) (x := x) (by omega) (Or.inr (by omega))
                      have ecl : x2 - ((cntb (nrc S x1) (51 * r + (x + 1)) : Nat) : Int) = (x2 - ((cntb (nrc S x1) (51 * r + x) : Nat) : Int)) + (-1) := by omega
                      have hl : lv_has ls 6 [(3, .int (i32 (x2 - ((cntb (nrc S x1) (51 * r + (x + 1)) : Nat) : Int)))), (0, .ref (a 0 0)), (1, .int (i32 x1)), (2, .int (i32 x2)), (4, .int (i32 (((S 1 0).toNat + r : Nat) : Int))), (5, .int (i32 (x : Int)))] := by rw [ecl]; exact hl
                      refine z_iinc (lv' := [(5, .int (i32 ((x + 1 : Nat) : Int))), (3, .int (i32 (x2 - ((cntb (nrc S x1) (51 * r + (x + 1)) : Nat) : Int)))), (0, .ref (a 0 0)), (1, .int (i32 x1)), (2, .int (i32 x2)), (4, .int (i32 (((S 1 0).toNat + r : Nat) : Int)))]) E dX5_place_89 hl (k := 5) rfl (by decide) rfl (fun ls hl => ?_)
                      refine lv_goto (tgt := 53) E.1 E.2.1 dX5_place_92 (by decide) ?_
                      exact ih53 (x + 1) G_11 _ _ _ (by omega) (by omega) hG (fnd_S hf hms) (by omega) X (lv_sub hl [2, 3, 4, 1, 5, 0] rfl)
                    · refine z_sipush E dX5_place_76 (by decide +kernel) ?_
                      refine lv_iload E.1 E.2.1 dX5_place_79 (lv_at hl 5 rfl) ?_
                      refine z_imul E dX5_place_81 ?_
                      refine lv_iload E.1 E.2.1 dX5_place_82 (lv_at hl 4 rfl) ?_
                      refine z_iadd E dX5_place_84 ?_
                      have ef : fPlace S x1 x2 = ((1000 * (x : Int)) + (((S 1 0).toNat + r : Nat) : Int), S) := by
                        unfold fPlace
                        rw [if_neg (by omega), if_neg (by omega), NRR_hit (r := r) (x := x) (by omega) (by omega) (by omega) hf (by rcases hzz with q | q; exact q.1; exact absurd q.2 (by omega)) (by omega)]
                      exact z_ret E X hQ (⟨(congrArg (fun w => some (Value.int (i32 w.1))) ef).symm, a, G_11, rfl, by rw [ef]; exact hG, by rw [ef]; exact X.1⟩) dX5_place_85
            exact key53 ((51 - 0) + 1) 0 G _ _ _ (by omega) (by omega) hG hf hct X (lv_sub hl [1, 2, 3, 4, 5, 0] rfl)
      exact key38 (((S 2 0).toNat + 1 - 0) + 1) 0 G _ _ _ (by omega) (by omega) hG rfl (by show ((0 : Nat) : Int) ≤ x2; omega) X (lv_sub hl [2, 3, 4, 1, 0] rfl)
    · refine z_ldc (v := (-99999)) (z := -99999) E (by decide +kernel) (by decide +kernel) dX5_place_24 ?_
      have ef : fPlace S x1 x2 = (-99999, S) := by
        unfold fPlace
        rw [if_neg (by omega)]
        split
        · rfl
        · rw [NRR_far (by omega) (by omega)]
      exact z_ret E X hQ (⟨(congrArg (fun w => some (Value.int (i32 w.1))) ef).symm, a, G, rfl, by rw [ef]; exact hG, by rw [ef]; exact X.1⟩) dX5_place_26
  · refine z_bipush E dX5_place_10 (by decide +kernel) ?_
    have ef : fPlace S x1 x2 = (-2, S) := by
      unfold fPlace
      try unfold fFind
      try simp only [Int.toNat_natCast]
      repeat' split
      all_goals first | rfl | (exfalso; omega)
    exact z_ret E X hQ (⟨(congrArg (fun w => some (Value.int (i32 w.1))) ef).symm, a, G, rfl, by rw [ef]; exact hG, by rw [ef]; exact X.1⟩) dX5_place_12

theorem gtf_cut {S : zS} {a b : Nat} {f1 t1 l1 : Int} {c : Nat} : ∀ {n : Nat}, c ≤ n → gtf S a b f1 t1 l1 (min (n + 1) c) = gtf S a b f1 t1 l1 (min n c) := fun h => by rw [Nat.min_eq_right (by omega), Nat.min_eq_right h]
abbrev rX5_gate : Room := { frames := 5, cells := 0, slots := 0, locals := 132 }
set_option maxHeartbeats 4000000 in
set_option maxRecDepth 100000 in
theorem X_gate (l : Launch) (D : va_G) (cA : Nat → ClassId) (B0 : Nat) (M : zL) (a : Nat → Nat → Nat) (G : zG) (S : zS) (hI : SI S) (hG : CG S G) (x1 x2 x3 x4 x5 : Int) (hx1 : zr x1) (hx2 : zr x2) (hx3 : zr x3) (hx4 : zr x4) (hx5 : zr x5) : zM l yX5_gate wsX5_gate rX5_gate [.ref (a 0 0), .int (i32 x1), .int (i32 x2), .int (i32 x3), .int (i32 x4), .int (i32 x5)] D cA B0 (zW D B0 (zj (layC cA a G S) M)) (fun v H => v = some (.int (i32 (fGate S x1 x2 x3 x4 x5).1)) ∧ ∃ (a2 : Nat → Nat → Nat) (G2 : zG), a2 0 0 = a 0 0 ∧ CG (fGate S x1 x2 x3 x4 x5).2 G2 ∧ zW D B0 (zj (layC cA a2 G2 (fGate S x1 x2 x3 x4 x5).2) M) H) := by
  refine z_met (cc := cX5_gate) (maxL := 15) (ret := (some .int)) (by decide) rfl (Nat.le_of_ble_eq_true rfl) ?_
  intro p e s m args below meth c ls Q hQ E hP hB hS hl
  have hl : lv_has ls 15 [(0, .ref (a 0 0)), (1, .int (i32 x1)), (2, .int (i32 x2)), (3, .int (i32 x3)), (4, .int (i32 x4)), (5, .int (i32 x5))] := hl
  have iX5 : ∀ w ∈ u_ws RX5 TX5 11, w ∈ wsX5_gate := by decide +kernel
  have X : zX D B0 (zj (layC cA a G S) M) s.heap s.heap [] := ⟨hP, hS⟩
  have hI0 := hI.1
  unfold SI0 at hI0
  obtain ⟨b1, b2, b3, b4, b5, b8, b17, b19, b7⟩ := hI0
  unfold zr at hx1 hx2 hx3 hx4 hx5
  refine lv_aload_n E.1 E.2.1 dX5_gate_0 rfl (lv_at hl 0 rfl) ?_
  refine lv_iload_n E.1 E.2.1 dX5_gate_1 rfl (lv_at hl 1 rfl) ?_
  refine z_callV (As := [.int (i32 x1)]) (rest := []) (n := 1) E X (lC_0 M cA a G S) rfl (x_en l D cA B0 M a G S hI.1 x1 ⟨by omega, by omega⟩) gX5_gate_X5_elementNumbered rfl (by decide +kernel) ⟨by decide, by decide⟩ rfl hl.1 rfl (Nat.le_of_ble_eq_true rfl) dX5_gate_2 ⟨by decide, by decide⟩ X.1 0 0 ⟨rfl, rfl⟩ (fun v H locs hv hS_1 => ?_)
  obtain ⟨hv, hw⟩ := hv
  replace X : zX D B0 (zj (layC cA a G S) M) s.heap H locs := ⟨hw, hS_1⟩
  rcases hv with ⟨ea, rfl, he_3, rfl⟩ | ⟨hn_4, rfl⟩
  · refine lv_astore (lv' := [(6, .ref (a 10 ea)), (0, .ref (a 0 0)), (1, .int (i32 (ea : Int))), (2, .int (i32 x2)), (3, .int (i32 x3)), (4, .int (i32 x4)), (5, .int (i32 x5))]) E.1 E.2.1 dX5_gate_5 hl (by decide) rfl (fun ls hl => ?_)
    refine lv_aload_n E.1 E.2.1 dX5_gate_7 rfl (lv_at hl 1 rfl) ?_
    refine lv_iload_n E.1 E.2.1 dX5_gate_8 rfl (lv_at hl 3 rfl) ?_
    refine z_callV (As := [.int (i32 x2)]) (rest := []) (n := 1) E X (lC_0 M cA a G S) rfl (x_en l D cA B0 M a G S hI.1 x2 ⟨by omega, by omega⟩) gX5_gate_X5_elementNumbered rfl (by decide +kernel) ⟨by decide, by decide⟩ rfl hl.1 rfl (Nat.le_of_ble_eq_true rfl) dX5_gate_9 ⟨by decide, by decide⟩ X.1 0 0 ⟨rfl, rfl⟩ (fun v H locs hv hS_5 => ?_)
    obtain ⟨hv, hw⟩ := hv
    replace X : zX D B0 (zj (layC cA a G S) M) s.heap H locs := ⟨hw, hS_5⟩
    rcases hv with ⟨eb, rfl, he_7, rfl⟩ | ⟨hn_8, rfl⟩
    · refine lv_astore (lv' := [(7, .ref (a 10 eb)), (6, .ref (a 10 ea)), (0, .ref (a 0 0)), (1, .int (i32 (ea : Int))), (2, .int (i32 (eb : Int))), (3, .int (i32 x3)), (4, .int (i32 x4)), (5, .int (i32 x5))]) E.1 E.2.1 dX5_gate_12 hl (by decide) rfl (fun ls hl => ?_)
      refine lv_aload E.1 E.2.1 dX5_gate_14 (lv_at hl 1 rfl) ?_
      refine lv_ifnull E.1 E.2.1 dX5_gate_16 ?_
      refine lv_aload E.1 E.2.1 dX5_gate_19 (lv_at hl 0 rfl) ?_
      refine lv_ifnonnull (tgt := 26) E.1 E.2.1 dX5_gate_21 (by decide) ?_
      refine lv_iload_n E.1 E.2.1 dX5_gate_26 rfl (lv_at hl 5 rfl) ?_
      refine z_iconst E dX5_gate_27 ?_
      refine lv_iload E.1 E.2.1 dX5_gate_28 (lv_at hl 6 rfl) ?_
      refine z_callJ (As := [.int (i32 x3), .int (i32 0), .int (i32 x4)]) (rest := []) (n := 3) E X (c_outside l D cA B0 _ x3 0 x4 ⟨by omega, by omega⟩ ⟨by omega, by omega⟩ ⟨by omega, by omega⟩) gX5_gate_X5_outside rfl (by decide +kernel) ⟨by decide, by decide⟩ rfl hl.1 rfl (Nat.le_of_ble_eq_true rfl) dX5_gate_30 ⟨by decide, by decide⟩ rfl 0 0 ⟨rfl, rfl⟩ (fun v H locs hv hS_9 => ?_)
      obtain ⟨hH, z_10, rfl, ez_10⟩ := hv
      subst hH
      replace X := X.same hS_9
      refine z_fne E 50 ⟨by omega, by omega⟩ dX5_gate_33 (by decide) (fun h33_11 => ?_) (fun h33_11 => ?_)
      · refine z_bipush E dX5_gate_50 (by decide +kernel) ?_
        have ef : fGate S (ea : Int) (eb : Int) x3 x4 x5 = (-2, S) := by
          unfold fGate
          try unfold fFind
          try simp only [Int.toNat_natCast]
          repeat' split
          all_goals first | rfl | (exfalso; omega)
        exact z_ret E X hQ (⟨(congrArg (fun w => some (Value.int (i32 w.1))) ef).symm, a, G, rfl, by rw [ef]; exact hG, by rw [ef]; exact X.1⟩) dX5_gate_52
      · refine lv_iload E.1 E.2.1 dX5_gate_36 (lv_at hl 6 rfl) ?_
        refine z_sipush E dX5_gate_38 (by decide +kernel) ?_
        refine z_cgt E 50 ⟨by omega, by omega⟩ ⟨by omega, by omega⟩ dX5_gate_41 (by decide) (fun h41_12 => ?_) (fun h41_12 => ?_)
        · refine z_bipush E dX5_gate_50 (by decide +kernel) ?_
          have ef : fGate S (ea : Int) (eb : Int) x3 x4 x5 = (-2, S) := by
            unfold fGate
            try unfold fFind
            try simp only [Int.toNat_natCast]
            repeat' split
            all_goals first | rfl | (exfalso; omega)
          exact z_ret E X hQ (⟨(congrArg (fun w => some (Value.int (i32 w.1))) ef).symm, a, G, rfl, by rw [ef]; exact hG, by rw [ef]; exact X.1⟩) dX5_gate_52
        · refine lv_iload E.1 E.2.1 dX5_gate_44 (lv_at hl 7 rfl) ?_
          refine z_iconst E dX5_gate_46 ?_
          refine z_cge E 53 ⟨by omega, by omega⟩ ⟨by omega, by omega⟩ dX5_gate_47 (by decide) (fun h47_13 => ?_) (fun h47_13 => ?_)
          · refine z_ldc (v := (-99999)) (z := -99999) E (by decide +kernel) (by decide +kernel) dX5_gate_53 ?_
            refine z_top (gtf S ea eb x3 x4 x5 (min 0 (S 8 0).toNat)) (by rw [Nat.zero_min]; rfl) ?_
            refine lv_istore (lv' := [(8, .int (i32 (gtf S ea eb x3 x4 x5 (min 0 (S 8 0).toNat)))), (7, .ref (a 10 eb)), (6, .ref (a 10 ea)), (0, .ref (a 0 0)), (1, .int (i32 (ea : Int))), (2, .int (i32 (eb : Int))), (3, .int (i32 x3)), (4, .int (i32 x4)), (5, .int (i32 x5))]) E.1 E.2.1 dX5_gate_55 hl (by decide) rfl (fun ls hl => ?_)
            refine lv_aload_n E.1 E.2.1 dX5_gate_57 rfl (lv_at hl 3 rfl) ?_
            refine z_get E X (lC_0 M cA a G S) rfl iX5 2 (by decide) (by decide +kernel) (v := .ref (a 5 0)) rfl dX5_gate_58 ?_
            refine lv_astore (lv' := [(9, .ref (a 5 0)), (8, .int (i32 (gtf S ea eb x3 x4 x5 (min 0 (S 8 0).toNat)))), (7, .ref (a 10 eb)), (6, .ref (a 10 ea)), (0, .ref (a 0 0)), (1, .int (i32 (ea : Int))), (2, .int (i32 (eb : Int))), (3, .int (i32 x3)), (4, .int (i32 x4)), (5, .int (i32 x5))]) E.1 E.2.1 dX5_gate_61 hl (by decide) rfl (fun ls hl => ?_)
            refine lv_aload E.1 E.2.1 dX5_gate_63 (lv_at hl 0 rfl) ?_
            refine z_alen (z := 8) E X 3 (lC_5 M cA a G S) rfl (by omega) dX5_gate_65 ?_
            refine lv_istore (lv' := [(10, .int (i32 8)), (9, .ref (a 5 0)), (8, .int (i32 (gtf S ea eb x3 x4 x5 (min 0 (S 8 0).toNat)))), (7, .ref (a 10 eb)), (6, .ref (a 10 ea)), (0, .ref (a 0 0)), (1, .int (i32 (ea : Int))), (2, .int (i32 (eb : Int))), (3, .int (i32 x3)), (4, .int (i32 x4)), (5, .int (i32 x5))]) E.1 E.2.1 dX5_gate_66 hl (by decide) rfl (fun ls hl => ?_)
            refine z_iconst E dX5_gate_68 ?_
            refine z_top (0 : Int) (rfl) ?_
            refine lv_istore (lv' := [(11, .int (i32 (0 : Int))), (10, .int (i32 8)), (9, .ref (a 5 0)), (8, .int (i32 (gtf S ea eb x3 x4 x5 (min 0 (S 8 0).toNat)))), (7, .ref (a 10 eb)), (6, .ref (a 10 ea)), (0, .ref (a 0 0)), (1, .int (i32 (ea : Int))), (2, .int (i32 (eb : Int))), (3, .int (i32 x3)), (4, .int (i32 x4)), (5, .int (i32 x5))]) E.1 E.2.1 dX5_gate_69 hl (by decide) rfl (fun ls hl => ?_)
            have key71 : ∀ (N : Nat) (n : Nat) (G : zG) (H : Heap) (locs : List Loc) (ls : Array Slot), (8 - n) < N → (n ≤ 8) → (CG S G) → zX D B0 (zj (layC cA a G S) M) s.heap H locs → lv_has ls 15 [(0, .ref (a 0 0)), (1, .int (i32 (ea : Int))), (2, .int (i32 (eb : Int))), (3, .int (i32 x3)), (4, .int (i32 x4)), (5, .int (i32 x5)), (6, .ref (a 10 ea)), (7, .ref (a 10 eb)), (8, .int (i32 (gtf S ea eb x3 x4 x5 (min n (S 8 0).toNat)))), (9, .ref (a 5 0)), (10, .int (i32 8)), (11, .int (i32 (n : Int)))] → W p l e rX5_gate s m args below meth c H locs 0 0 Q (F0 m 71 ls []) := by
              intro N
              induction N with
              | zero => intros; omega
              | succ N ih71 =>
                intro n G H locs ls hN hn hG X hl
                refine lv_iload E.1 E.2.1 dX5_gate_71 (lv_at hl 11 rfl) ?_
                refine lv_iload E.1 E.2.1 dX5_gate_73 (lv_at hl 10 rfl) ?_
                refine z_cge E 168 ⟨by omega, by omega⟩ ⟨by omega, by omega⟩ dX5_gate_75 (by decide) (fun h75_14 => ?_) (fun h75_14 => ?_)
                · refine lv_iload E.1 E.2.1 dX5_gate_168 (lv_at hl 8 rfl) ?_
                  have ef : fGate S (ea : Int) (eb : Int) x3 x4 x5 = (gtf S ea eb x3 x4 x5 (min n (S 8 0).toNat), S) := by
                    unfold fGate
                    rw [if_neg (by omega), if_neg (by omega)]
                    simp only [Int.toNat_natCast]
                    rw [Nat.min_eq_right (by omega)]
                  exact z_ret E X hQ (⟨(congrArg (fun w => some (Value.int (i32 w.1))) ef).symm, a, G, rfl, by rw [ef]; exact hG, by rw [ef]; exact X.1⟩) dX5_gate_170
                · have hg9 := gtf_rng (f1 := x3) (t1 := x4) (l1 := x5) hI (a := ea) (b := eb) (by omega) (by omega) (min n (S 8 0).toNat) (by omega)
                  refine lv_aload E.1 E.2.1 dX5_gate_78 (lv_at hl 9 rfl) ?_
                  refine lv_iload E.1 E.2.1 dX5_gate_80 (lv_at hl 11 rfl) ?_
                  by_cases hp_15 : ((n : Nat) : Int) < S 8 0
                  · refine z_aldS (C := "EchoRow$Target") E X 3 (lC_5 M cA a G S) rfl n (by omega) (by omega) (by decide) (if_pos hp_15) dX5_gate_82 ?_
                    refine lv_astore (lv' := [(12, .ref (a 12 n)), (0, .ref (a 0 0)), (1, .int (i32 (ea : Int))), (2, .int (i32 (eb : Int))), (3, .int (i32 x3)), (4, .int (i32 x4)), (5, .int (i32 x5)), (6, .ref (a 10 ea)), (7, .ref (a 10 eb)), (8, .int (i32 (gtf S ea eb x3 x4 x5 (min n (S 8 0).toNat)))), (9, .ref (a 5 0)), (10, .int (i32 8)), (11, .int (i32 (n : Int)))]) E.1 E.2.1 dX5_gate_83 hl (by decide) rfl (fun ls hl => ?_)
                    refine lv_aload E.1 E.2.1 dX5_gate_85 (lv_at hl 0 rfl) ?_
                    refine lv_ifnull E.1 E.2.1 dX5_gate_87 ?_
                    refine lv_aload_n E.1 E.2.1 dX5_gate_90 rfl (lv_at hl 1 rfl) ?_
                    refine lv_aload E.1 E.2.1 dX5_gate_91 (lv_at hl 7 rfl) ?_
                    refine lv_aload E.1 E.2.1 dX5_gate_93 (lv_at hl 8 rfl) ?_
                    refine lv_aload E.1 E.2.1 dX5_gate_95 (lv_at hl 0 rfl) ?_
                    refine z_callV (As := [.ref (a 10 ea), .ref (a 10 eb), .ref (a 12 n)]) (rest := []) (n := 3) E X (lC_0 M cA a G S) rfl (x_echoTimeBy l D cA B0 M a G S hI hG ea eb n (by omega) (by omega) (by omega)) gX5_gate_X5_echoTimeBy rfl (by decide +kernel) ⟨by decide, by decide⟩ rfl hl.1 rfl (Nat.le_of_ble_eq_true rfl) dX5_gate_97 ⟨by decide, by decide⟩ X.1 0 0 ⟨rfl, rfl⟩ (fun v H locs hv hS_16 => ?_)
                    obtain ⟨rfl, G_17, hG, hw⟩ := hv
                    replace X : zX D B0 (zj (layC cA a G_17 S) M) s.heap H locs := ⟨hw, hS_16⟩
                    have f_18 := ET_rng (a := ea) (b := eb) (t := n) hI (by omega) (by omega) (by omega)
                    refine lv_istore (lv' := [(13, .int (i32 (ET S ea eb n))), (12, .ref (a 12 n)), (0, .ref (a 0 0)), (1, .int (i32 (ea : Int))), (2, .int (i32 (eb : Int))), (3, .int (i32 x3)), (4, .int (i32 x4)), (5, .int (i32 x5)), (6, .ref (a 10 ea)), (7, .ref (a 10 eb)), (8, .int (i32 (gtf S ea eb x3 x4 x5 (min n (S 8 0).toNat)))), (9, .ref (a 5 0)), (10, .int (i32 8)), (11, .int (i32 (n : Int)))]) E.1 E.2.1 dX5_gate_100 hl (by decide) rfl (fun ls hl => ?_)
                    refine lv_iload E.1 E.2.1 dX5_gate_102 (lv_at hl 10 rfl) ?_
                    refine z_ldc (v := (-99999)) (z := -99999) E (by decide +kernel) (by decide +kernel) dX5_gate_104 ?_
                    refine z_ceq E 116 ⟨by omega, by omega⟩ ⟨by omega, by omega⟩ dX5_gate_106 (by decide) (fun h106_19 => ?_) (fun h106_19 => ?_)
                    · refine z_iconst E dX5_gate_116 ?_
                      refine lv_goto (tgt := 121) E.1 E.2.1 dX5_gate_117 (by decide) ?_
                      refine lv_istore (lv' := [(14, .int (i32 1)), (13, .int (i32 (ET S ea eb n))), (12, .ref (a 12 n)), (0, .ref (a 0 0)), (1, .int (i32 (ea : Int))), (2, .int (i32 (eb : Int))), (3, .int (i32 x3)), (4, .int (i32 x4)), (5, .int (i32 x5)), (6, .ref (a 10 ea)), (7, .ref (a 10 eb)), (8, .int (i32 (gtf S ea eb x3 x4 x5 (min n (S 8 0).toNat)))), (9, .ref (a 5 0)), (10, .int (i32 8)), (11, .int (i32 (n : Int)))]) E.1 E.2.1 dX5_gate_121 hl (by decide) rfl (fun ls hl => ?_)
                      refine lv_iload E.1 E.2.1 dX5_gate_123 (lv_at hl 0 rfl) ?_
                      refine z_feq E 162 ⟨by omega, by omega⟩ dX5_gate_125 (by decide) (fun h125_20 => ?_) (fun h125_20 => ?_)
                      · exact absurd h125_20 (by decide)
                      · refine lv_iload E.1 E.2.1 dX5_gate_128 (lv_at hl 1 rfl) ?_
                        refine lv_iload_n E.1 E.2.1 dX5_gate_130 rfl (lv_at hl 6 rfl) ?_
                        refine lv_iload E.1 E.2.1 dX5_gate_131 (lv_at hl 7 rfl) ?_
                        refine z_callJ (As := [.int (i32 (ET S ea eb n)), .int (i32 x3), .int (i32 x4)]) (rest := []) (n := 3) E X (c_outside l D cA B0 _ (ET S ea eb n) x3 x4 ⟨by omega, by omega⟩ ⟨by omega, by omega⟩ ⟨by omega, by omega⟩) gX5_gate_X5_outside rfl (by decide +kernel) ⟨by decide, by decide⟩ rfl hl.1 rfl (Nat.le_of_ble_eq_true rfl) dX5_gate_133 ⟨by decide, by decide⟩ rfl 0 0 ⟨rfl, rfl⟩ (fun v H locs hv hS_21 => ?_)
                        obtain ⟨hH, z_22, rfl, ez_22⟩ := hv
                        subst hH
                        replace X := X.same hS_21
                        refine z_fne E 162 ⟨by omega, by omega⟩ dX5_gate_136 (by decide) (fun h136_23 => ?_) (fun h136_23 => ?_)
                        · have eg : gtf S ea eb x3 x4 x5 (min (n + 1) (S 8 0).toNat) = gtf S ea eb x3 x4 x5 (min n (S 8 0).toNat) := by
                            rw [Nat.min_eq_left (by omega : n + 1 ≤ (S 8 0).toNat), gtf_S]
                            rw [Nat.min_eq_left (by omega : n ≤ (S 8 0).toNat)] at *
                            first | exact if_pos (by omega) | exact if_neg (by omega)
                          have hl : lv_has ls 15 [(14, .int (i32 1)), (13, .int (i32 (ET S ea eb n))), (12, .ref (a 12 n)), (0, .ref (a 0 0)), (1, .int (i32 (ea : Int))), (2, .int (i32 (eb : Int))), (3, .int (i32 x3)), (4, .int (i32 x4)), (5, .int (i32 x5)), (6, .ref (a 10 ea)), (7, .ref (a 10 eb)), (8, .int (i32 (gtf S ea eb x3 x4 x5 (min (n + 1) (S 8 0).toNat)))), (9, .ref (a 5 0)), (10, .int (i32 8)), (11, .int (i32 (n : Int)))] := by rw [eg]; exact hl
                          refine z_iinc (lv' := [(11, .int (i32 ((n + 1 : Nat) : Int))), (14, .int (i32 1)), (13, .int (i32 (ET S ea eb n))), (12, .ref (a 12 n)), (0, .ref (a 0 0)), (1, .int (i32 (ea : Int))), (2, .int (i32 (eb : Int))), (3, .int (i32 x3)), (4, .int (i32 x4)), (5, .int (i32 x5)), (6, .ref (a 10 ea)), (7, .ref (a 10 eb)), (8, .int (i32 (gtf S ea eb x3 x4 x5 (min (n + 1) (S 8 0).toNat)))), (9, .ref (a 5 0)), (10, .int (i32 8))]) E dX5_gate_162 hl (k := 14) rfl (by decide) rfl (fun ls hl => ?_)
                          refine lv_goto (tgt := 71) E.1 E.2.1 dX5_gate_165 (by decide) ?_
                          exact ih71 (n + 1) G_17 _ _ _ (by omega) (by omega) hG X (lv_sub hl [4, 5, 6, 7, 8, 9, 10, 11, 12, 13, 14, 0] rfl)
                        · refine lv_aload_n E.1 E.2.1 dX5_gate_139 rfl (lv_at hl 3 rfl) ?_
                          refine lv_aload E.1 E.2.1 dX5_gate_140 (lv_at hl 9 rfl) ?_
                          refine lv_aload E.1 E.2.1 dX5_gate_142 (lv_at hl 10 rfl) ?_
                          refine lv_iload E.1 E.2.1 dX5_gate_144 (lv_at hl 1 rfl) ?_
                          refine z_i2l E ⟨by omega, by omega⟩ dX5_gate_146 ?_
                          refine z_callV (As := [.ref (a 10 ea), .ref (a 10 eb), .long (i64 (ET S ea eb n))]) (rest := []) (n := 3) E X (lC_0 M cA a G_17 S) rfl (x_echoAt l D cA B0 M a G_17 S hI hG ea eb (ET S ea eb n) (by omega) (by omega) (by unfold zrl; omega)) gX5_gate_X5_echoAt rfl (by decide +kernel) ⟨by decide, by decide⟩ rfl hl.1 rfl (Nat.le_of_ble_eq_true rfl) dX5_gate_147 ⟨by decide, by decide⟩ X.1 0 0 ⟨rfl, rfl⟩ (fun v H locs hv hS_24 => ?_)
                          obtain ⟨rfl, G_25, hG, hw⟩ := hv
                          replace X : zX D B0 (zj (layC cA a G_25 S) M) s.heap H locs := ⟨hw, hS_24⟩
                          have f_26 := EC_rng (a := ea) (b := eb) (tick := (ET S ea eb n)) hI
                          have hza : (0 ≤ EC S ea eb (ET S ea eb n) ∧ zabs (EC S ea eb (ET S ea eb n)) = EC S ea eb (ET S ea eb n)) ∨ (EC S ea eb (ET S ea eb n) < 0 ∧ zabs (EC S ea eb (ET S ea eb n)) = -(EC S ea eb (ET S ea eb n))) := by unfold zabs; split <;> omega
                          refine z_mabs E ⟨by omega, by omega⟩ (by decide +kernel) (by decide +kernel) (by decide +kernel) (by decide +kernel) hl.1 (by decide) (Nat.le_of_ble_eq_true rfl) ⟨by decide, by decide⟩ dX5_gate_150 ?_
                          refine lv_iload E.1 E.2.1 dX5_gate_153 (lv_at hl 8 rfl) ?_
                          refine z_clt E 162 ⟨by omega, by omega⟩ ⟨by omega, by omega⟩ dX5_gate_155 (by decide) (fun h155_27 => ?_) (fun h155_27 => ?_)
                          · have eg : gtf S ea eb x3 x4 x5 (min (n + 1) (S 8 0).toNat) = gtf S ea eb x3 x4 x5 (min n (S 8 0).toNat) := by
                              rw [Nat.min_eq_left (by omega : n + 1 ≤ (S 8 0).toNat), gtf_S]
                              rw [Nat.min_eq_left (by omega : n ≤ (S 8 0).toNat)] at *
                              first | exact if_pos (by omega) | exact if_neg (by omega)
                            have hl : lv_has ls 15 [(14, .int (i32 1)), (13, .int (i32 (ET S ea eb n))), (12, .ref (a 12 n)), (0, .ref (a 0 0)), (1, .int (i32 (ea : Int))), (2, .int (i32 (eb : Int))), (3, .int (i32 x3)), (4, .int (i32 x4)), (5, .int (i32 x5)), (6, .ref (a 10 ea)), (7, .ref (a 10 eb)), (8, .int (i32 (gtf S ea eb x3 x4 x5 (min (n + 1) (S 8 0).toNat)))), (9, .ref (a 5 0)), (10, .int (i32 8)), (11, .int (i32 (n : Int)))] := by rw [eg]; exact hl
                            refine z_iinc (lv' := [(11, .int (i32 ((n + 1 : Nat) : Int))), (14, .int (i32 1)), (13, .int (i32 (ET S ea eb n))), (12, .ref (a 12 n)), (0, .ref (a 0 0)), (1, .int (i32 (ea : Int))), (2, .int (i32 (eb : Int))), (3, .int (i32 x3)), (4, .int (i32 x4)), (5, .int (i32 x5)), (6, .ref (a 10 ea)), (7, .ref (a 10 eb)), (8, .int (i32 (gtf S ea eb x3 x4 x5 (min (n + 1) (S 8 0).toNat)))), (9, .ref (a 5 0)), (10, .int (i32 8))]) E dX5_gate_162 hl (k := 14) rfl (by decide) rfl (fun ls hl => ?_)
                            refine lv_goto (tgt := 71) E.1 E.2.1 dX5_gate_165 (by decide) ?_
                            exact ih71 (n + 1) G_25 _ _ _ (by omega) (by omega) hG X (lv_sub hl [4, 5, 6, 7, 8, 9, 10, 11, 12, 13, 14, 0] rfl)
                          · refine lv_iload E.1 E.2.1 dX5_gate_158 (lv_at hl 1 rfl) ?_
                            refine lv_istore (lv' := [(8, .int (i32 (ET S ea eb n))), (14, .int (i32 1)), (13, .int (i32 (ET S ea eb n))), (12, .ref (a 12 n)), (0, .ref (a 0 0)), (1, .int (i32 (ea : Int))), (2, .int (i32 (eb : Int))), (3, .int (i32 x3)), (4, .int (i32 x4)), (5, .int (i32 x5)), (6, .ref (a 10 ea)), (7, .ref (a 10 eb)), (9, .ref (a 5 0)), (10, .int (i32 8)), (11, .int (i32 (n : Int)))]) E.1 E.2.1 dX5_gate_160 hl (by decide) rfl (fun ls hl => ?_)
                            have eg : gtf S ea eb x3 x4 x5 (min (n + 1) (S 8 0).toNat) = ET S ea eb n := by
                              rw [Nat.min_eq_left (by omega : n + 1 ≤ (S 8 0).toNat), gtf_S]
                              rw [Nat.min_eq_left (by omega : n ≤ (S 8 0).toNat)] at *
                              first | exact if_pos (by omega) | exact if_neg (by omega)
                            have hl : lv_has ls 15 [(8, .int (i32 (gtf S ea eb x3 x4 x5 (min (n + 1) (S 8 0).toNat)))), (14, .int (i32 1)), (13, .int (i32 (ET S ea eb n))), (12, .ref (a 12 n)), (0, .ref (a 0 0)), (1, .int (i32 (ea : Int))), (2, .int (i32 (eb : Int))), (3, .int (i32 x3)), (4, .int (i32 x4)), (5, .int (i32 x5)), (6, .ref (a 10 ea)), (7, .ref (a 10 eb)), (9, .ref (a 5 0)), (10, .int (i32 8)), (11, .int (i32 (n : Int)))] := by rw [eg]; exact hl
                            refine z_iinc (lv' := [(11, .int (i32 ((n + 1 : Nat) : Int))), (8, .int (i32 (gtf S ea eb x3 x4 x5 (min (n + 1) (S 8 0).toNat)))), (14, .int (i32 1)), (13, .int (i32 (ET S ea eb n))), (12, .ref (a 12 n)), (0, .ref (a 0 0)), (1, .int (i32 (ea : Int))), (2, .int (i32 (eb : Int))), (3, .int (i32 x3)), (4, .int (i32 x4)), (5, .int (i32 x5)), (6, .ref (a 10 ea)), (7, .ref (a 10 eb)), (9, .ref (a 5 0)), (10, .int (i32 8))]) E dX5_gate_162 hl (k := 14) rfl (by decide) rfl (fun ls hl => ?_)
                            refine lv_goto (tgt := 71) E.1 E.2.1 dX5_gate_165 (by decide) ?_
                            exact ih71 (n + 1) G_25 _ _ _ (by omega) (by omega) hG X (lv_sub hl [5, 6, 7, 8, 9, 10, 11, 12, 1, 13, 14, 0] rfl)
                    · refine lv_iload E.1 E.2.1 dX5_gate_109 (lv_at hl 0 rfl) ?_
                      refine lv_iload E.1 E.2.1 dX5_gate_111 (lv_at hl 10 rfl) ?_
                      refine z_cge E 120 ⟨by omega, by omega⟩ ⟨by omega, by omega⟩ dX5_gate_113 (by decide) (fun h113_28 => ?_) (fun h113_28 => ?_)
                      · refine z_iconst E dX5_gate_120 ?_
                        refine lv_istore (lv' := [(14, .int (i32 0)), (13, .int (i32 (ET S ea eb n))), (12, .ref (a 12 n)), (0, .ref (a 0 0)), (1, .int (i32 (ea : Int))), (2, .int (i32 (eb : Int))), (3, .int (i32 x3)), (4, .int (i32 x4)), (5, .int (i32 x5)), (6, .ref (a 10 ea)), (7, .ref (a 10 eb)), (8, .int (i32 (gtf S ea eb x3 x4 x5 (min n (S 8 0).toNat)))), (9, .ref (a 5 0)), (10, .int (i32 8)), (11, .int (i32 (n : Int)))]) E.1 E.2.1 dX5_gate_121 hl (by decide) rfl (fun ls hl => ?_)
                        refine lv_iload E.1 E.2.1 dX5_gate_123 (lv_at hl 0 rfl) ?_
                        refine z_feq E 162 ⟨by omega, by omega⟩ dX5_gate_125 (by decide) (fun h125_29 => ?_) (fun h125_29 => ?_)
                        · have eg : gtf S ea eb x3 x4 x5 (min (n + 1) (S 8 0).toNat) = gtf S ea eb x3 x4 x5 (min n (S 8 0).toNat) := by
                            rw [Nat.min_eq_left (by omega : n + 1 ≤ (S 8 0).toNat), gtf_S]
                            rw [Nat.min_eq_left (by omega : n ≤ (S 8 0).toNat)] at *
                            first | exact if_pos (by omega) | exact if_neg (by omega)
                          have hl : lv_has ls 15 [(14, .int (i32 0)), (13, .int (i32 (ET S ea eb n))), (12, .ref (a 12 n)), (0, .ref (a 0 0)), (1, .int (i32 (ea : Int))), (2, .int (i32 (eb : Int))), (3, .int (i32 x3)), (4, .int (i32 x4)), (5, .int (i32 x5)), (6, .ref (a 10 ea)), (7, .ref (a 10 eb)), (8, .int (i32 (gtf S ea eb x3 x4 x5 (min (n + 1) (S 8 0).toNat)))), (9, .ref (a 5 0)), (10, .int (i32 8)), (11, .int (i32 (n : Int)))] := by rw [eg]; exact hl
                          refine z_iinc (lv' := [(11, .int (i32 ((n + 1 : Nat) : Int))), (14, .int (i32 0)), (13, .int (i32 (ET S ea eb n))), (12, .ref (a 12 n)), (0, .ref (a 0 0)), (1, .int (i32 (ea : Int))), (2, .int (i32 (eb : Int))), (3, .int (i32 x3)), (4, .int (i32 x4)), (5, .int (i32 x5)), (6, .ref (a 10 ea)), (7, .ref (a 10 eb)), (8, .int (i32 (gtf S ea eb x3 x4 x5 (min (n + 1) (S 8 0).toNat)))), (9, .ref (a 5 0)), (10, .int (i32 8))]) E dX5_gate_162 hl (k := 14) rfl (by decide) rfl (fun ls hl => ?_)
                          refine lv_goto (tgt := 71) E.1 E.2.1 dX5_gate_165 (by decide) ?_
                          exact ih71 (n + 1) G_17 _ _ _ (by omega) (by omega) hG X (lv_sub hl [4, 5, 6, 7, 8, 9, 10, 11, 12, 13, 14, 0] rfl)
                        · exact absurd h125_29 (by decide)
                      · refine z_iconst E dX5_gate_116 ?_
                        refine lv_goto (tgt := 121) E.1 E.2.1 dX5_gate_117 (by decide) ?_
                        refine lv_istore (lv' := [(14, .int (i32 1)), (13, .int (i32 (ET S ea eb n))), (12, .ref (a 12 n)), (0, .ref (a 0 0)), (1, .int (i32 (ea : Int))), (2, .int (i32 (eb : Int))), (3, .int (i32 x3)), (4, .int (i32 x4)), (5, .int (i32 x5)), (6, .ref (a 10 ea)), (7, .ref (a 10 eb)), (8, .int (i32 (gtf S ea eb x3 x4 x5 (min n (S 8 0).toNat)))), (9, .ref (a 5 0)), (10, .int (i32 8)), (11, .int (i32 (n : Int)))]) E.1 E.2.1 dX5_gate_121 hl (by decide) rfl (fun ls hl => ?_)
                        refine lv_iload E.1 E.2.1 dX5_gate_123 (lv_at hl 0 rfl) ?_
                        refine z_feq E 162 ⟨by omega, by omega⟩ dX5_gate_125 (by decide) (fun h125_30 => ?_) (fun h125_30 => ?_)
                        · exact absurd h125_30 (by decide)
                        · refine lv_iload E.1 E.2.1 dX5_gate_128 (lv_at hl 1 rfl) ?_
                          refine lv_iload_n E.1 E.2.1 dX5_gate_130 rfl (lv_at hl 6 rfl) ?_
                          refine lv_iload E.1 E.2.1 dX5_gate_131 (lv_at hl 7 rfl) ?_
                          refine z_callJ (As := [.int (i32 (ET S ea eb n)), .int (i32 x3), .int (i32 x4)]) (rest := []) (n := 3) E X (c_outside l D cA B0 _ (ET S ea eb n) x3 x4 ⟨by omega, by omega⟩ ⟨by omega, by omega⟩ ⟨by omega, by omega⟩) gX5_gate_X5_outside rfl (by decide +kernel) ⟨by decide, by decide⟩ rfl hl.1 rfl (Nat.le_of_ble_eq_true rfl) dX5_gate_133 ⟨by decide, by decide⟩ rfl 0 0 ⟨rfl, rfl⟩ (fun v H locs hv hS_31 => ?_)
                          obtain ⟨hH, z_32, rfl, ez_32⟩ := hv
                          subst hH
                          replace X := X.same hS_31
                          refine z_fne E 162 ⟨by omega, by omega⟩ dX5_gate_136 (by decide) (fun h136_33 => ?_) (fun h136_33 => ?_)
                          · have eg : gtf S ea eb x3 x4 x5 (min (n + 1) (S 8 0).toNat) = gtf S ea eb x3 x4 x5 (min n (S 8 0).toNat) := by
                              rw [Nat.min_eq_left (by omega : n + 1 ≤ (S 8 0).toNat), gtf_S]
                              rw [Nat.min_eq_left (by omega : n ≤ (S 8 0).toNat)] at *
                              first | exact if_pos (by omega) | exact if_neg (by omega)
                            have hl : lv_has ls 15 [(14, .int (i32 1)), (13, .int (i32 (ET S ea eb n))), (12, .ref (a 12 n)), (0, .ref (a 0 0)), (1, .int (i32 (ea : Int))), (2, .int (i32 (eb : Int))), (3, .int (i32 x3)), (4, .int (i32 x4)), (5, .int (i32 x5)), (6, .ref (a 10 ea)), (7, .ref (a 10 eb)), (8, .int (i32 (gtf S ea eb x3 x4 x5 (min (n + 1) (S 8 0).toNat)))), (9, .ref (a 5 0)), (10, .int (i32 8)), (11, .int (i32 (n : Int)))] := by rw [eg]; exact hl
                            refine z_iinc (lv' := [(11, .int (i32 ((n + 1 : Nat) : Int))), (14, .int (i32 1)), (13, .int (i32 (ET S ea eb n))), (12, .ref (a 12 n)), (0, .ref (a 0 0)), (1, .int (i32 (ea : Int))), (2, .int (i32 (eb : Int))), (3, .int (i32 x3)), (4, .int (i32 x4)), (5, .int (i32 x5)), (6, .ref (a 10 ea)), (7, .ref (a 10 eb)), (8, .int (i32 (gtf S ea eb x3 x4 x5 (min (n + 1) (S 8 0).toNat)))), (9, .ref (a 5 0)), (10, .int (i32 8))]) E dX5_gate_162 hl (k := 14) rfl (by decide) rfl (fun ls hl => ?_)
                            refine lv_goto (tgt := 71) E.1 E.2.1 dX5_gate_165 (by decide) ?_
                            exact ih71 (n + 1) G_17 _ _ _ (by omega) (by omega) hG X (lv_sub hl [4, 5, 6, 7, 8, 9, 10, 11, 12, 13, 14, 0] rfl)
                          · refine lv_aload_n E.1 E.2.1 dX5_gate_139 rfl (lv_at hl 3 rfl) ?_
                            refine lv_aload E.1 E.2.1 dX5_gate_140 (lv_at hl 9 rfl) ?_
                            refine lv_aload E.1 E.2.1 dX5_gate_142 (lv_at hl 10 rfl) ?_
                            refine lv_iload E.1 E.2.1 dX5_gate_144 (lv_at hl 1 rfl) ?_
                            refine z_i2l E ⟨by omega, by omega⟩ dX5_gate_146 ?_
                            refine z_callV (As := [.ref (a 10 ea), .ref (a 10 eb), .long (i64 (ET S ea eb n))]) (rest := []) (n := 3) E X (lC_0 M cA a G_17 S) rfl (x_echoAt l D cA B0 M a G_17 S hI hG ea eb (ET S ea eb n) (by omega) (by omega) (by unfold zrl; omega)) gX5_gate_X5_echoAt rfl (by decide +kernel) ⟨by decide, by decide⟩ rfl hl.1 rfl (Nat.le_of_ble_eq_true rfl) dX5_gate_147 ⟨by decide, by decide⟩ X.1 0 0 ⟨rfl, rfl⟩ (fun v H locs hv hS_34 => ?_)
                            obtain ⟨rfl, G_35, hG, hw⟩ := hv
                            replace X : zX D B0 (zj (layC cA a G_35 S) M) s.heap H locs := ⟨hw, hS_34⟩
                            have f_36 := EC_rng (a := ea) (b := eb) (tick := (ET S ea eb n)) hI
                            have hza : (0 ≤ EC S ea eb (ET S ea eb n) ∧ zabs (EC S ea eb (ET S ea eb n)) = EC S ea eb (ET S ea eb n)) ∨ (EC S ea eb (ET S ea eb n) < 0 ∧ zabs (EC S ea eb (ET S ea eb n)) = -(EC S ea eb (ET S ea eb n))) := by unfold zabs; split <;> omega
                            refine z_mabs E ⟨by omega, by omega⟩ (by decide +kernel) (by decide +kernel) (by decide +kernel) (by decide +kernel) hl.1 (by decide) (Nat.le_of_ble_eq_true rfl) ⟨by decide, by decide⟩ dX5_gate_150 ?_
                            refine lv_iload E.1 E.2.1 dX5_gate_153 (lv_at hl 8 rfl) ?_
                            refine z_clt E 162 ⟨by omega, by omega⟩ ⟨by omega, by omega⟩ dX5_gate_155 (by decide) (fun h155_37 => ?_) (fun h155_37 => ?_)
                            · have eg : gtf S ea eb x3 x4 x5 (min (n + 1) (S 8 0).toNat) = gtf S ea eb x3 x4 x5 (min n (S 8 0).toNat) := by
                                rw [Nat.min_eq_left (by omega : n + 1 ≤ (S 8 0).toNat), gtf_S]
                                rw [Nat.min_eq_left (by omega : n ≤ (S 8 0).toNat)] at *
                                first | exact if_pos (by omega) | exact if_neg (by omega)
                              have hl : lv_has ls 15 [(14, .int (i32 1)), (13, .int (i32 (ET S ea eb n))), (12, .ref (a 12 n)), (0, .ref (a 0 0)), (1, .int (i32 (ea : Int))), (2, .int (i32 (eb : Int))), (3, .int (i32 x3)), (4, .int (i32 x4)), (5, .int (i32 x5)), (6, .ref (a 10 ea)), (7, .ref (a 10 eb)), (8, .int (i32 (gtf S ea eb x3 x4 x5 (min (n + 1) (S 8 0).toNat)))), (9, .ref (a 5 0)), (10, .int (i32 8)), (11, .int (i32 (n : Int)))] := by rw [eg]; exact hl
                              refine z_iinc (lv' := [(11, .int (i32 ((n + 1 : Nat) : Int))), (14, .int (i32 1)), (13, .int (i32 (ET S ea eb n))), (12, .ref (a 12 n)), (0, .ref (a 0 0)), (1, .int (i32 (ea : Int))), (2, .int (i32 (eb : Int))), (3, .int (i32 x3)), (4, .int (i32 x4)), (5, .int (i32 x5)), (6, .ref (a 10 ea)), (7, .ref (a 10 eb)), (8, .int (i32 (gtf S ea eb x3 x4 x5 (min (n + 1) (S 8 0).toNat)))), (9, .ref (a 5 0)), (10, .int (i32 8))]) E dX5_gate_162 hl (k := 14) rfl (by decide) rfl (fun ls hl => ?_)
                              refine lv_goto (tgt := 71) E.1 E.2.1 dX5_gate_165 (by decide) ?_
                              exact ih71 (n + 1) G_35 _ _ _ (by omega) (by omega) hG X (lv_sub hl [4, 5, 6, 7, 8, 9, 10, 11, 12, 13, 14, 0] rfl)
                            · refine lv_iload E.1 E.2.1 dX5_gate_158 (lv_at hl 1 rfl) ?_
                              refine lv_istore (lv' := [(8, .int (i32 (ET S ea eb n))), (14, .int (i32 1)), (13, .int (i32 (ET S ea eb n))), (12, .ref (a 12 n)), (0, .ref (a 0 0)), (1, .int (i32 (ea : Int))), (2, .int (i32 (eb : Int))), (3, .int (i32 x3)), (4, .int (i32 x4)), (5, .int (i32 x5)), (6, .ref (a 10 ea)), (7, .ref (a 10 eb)), (9, .ref (a 5 0)), (10, .int (i32 8)), (11, .int (i32 (n : Int)))]) E.1 E.2.1 dX5_gate_160 hl (by decide) rfl (fun ls hl => ?_)
                              have eg : gtf S ea eb x3 x4 x5 (min (n + 1) (S 8 0).toNat) = ET S ea eb n := by
                                rw [Nat.min_eq_left (by omega : n + 1 ≤ (S 8 0).toNat), gtf_S]
                                rw [Nat.min_eq_left (by omega : n ≤ (S 8 0).toNat)] at *
                                first | exact if_pos (by omega) | exact if_neg (by omega)
                              have hl : lv_has ls 15 [(8, .int (i32 (gtf S ea eb x3 x4 x5 (min (n + 1) (S 8 0).toNat)))), (14, .int (i32 1)), (13, .int (i32 (ET S ea eb n))), (12, .ref (a 12 n)), (0, .ref (a 0 0)), (1, .int (i32 (ea : Int))), (2, .int (i32 (eb : Int))), (3, .int (i32 x3)), (4, .int (i32 x4)), (5, .int (i32 x5)), (6, .ref (a 10 ea)), (7, .ref (a 10 eb)), (9, .ref (a 5 0)), (10, .int (i32 8)), (11, .int (i32 (n : Int)))] := by rw [eg]; exact hl
                              refine z_iinc (lv' := [(11, .int (i32 ((n + 1 : Nat) : Int))), (8, .int (i32 (gtf S ea eb x3 x4 x5 (min (n + 1) (S 8 0).toNat)))), (14, .int (i32 1)), (13, .int (i32 (ET S ea eb n))), (12, .ref (a 12 n)), (0, .ref (a 0 0)), (1, .int (i32 (ea : Int))), (2, .int (i32 (eb : Int))), (3, .int (i32 x3)), (4, .int (i32 x4)), (5, .int (i32 x5)), (6, .ref (a 10 ea)), (7, .ref (a 10 eb)), (9, .ref (a 5 0)), (10, .int (i32 8))]) E dX5_gate_162 hl (k := 14) rfl (by decide) rfl (fun ls hl => ?_)
                              refine lv_goto (tgt := 71) E.1 E.2.1 dX5_gate_165 (by decide) ?_
                              exact ih71 (n + 1) G_35 _ _ _ (by omega) (by omega) hG X (lv_sub hl [5, 6, 7, 8, 9, 10, 11, 12, 1, 13, 14, 0] rfl)
                  · refine z_aldN (C := "EchoRow$Target") E X 3 (lC_5 M cA a G S) rfl n (by omega) (by omega) (by decide) (if_neg hp_15) dX5_gate_82 ?_
                    refine lv_astoreN (lv' := [(12, .null), (0, .ref (a 0 0)), (1, .int (i32 (ea : Int))), (2, .int (i32 (eb : Int))), (3, .int (i32 x3)), (4, .int (i32 x4)), (5, .int (i32 x5)), (6, .ref (a 10 ea)), (7, .ref (a 10 eb)), (8, .int (i32 (gtf S ea eb x3 x4 x5 (min n (S 8 0).toNat)))), (9, .ref (a 5 0)), (10, .int (i32 8)), (11, .int (i32 (n : Int)))]) E.1 E.2.1 dX5_gate_83 hl (by decide) rfl (fun ls hl => ?_)
                    refine lv_aloadN E.1 E.2.1 dX5_gate_85 (lv_at hl 0 rfl) ?_
                    refine lv_ifnullN (tgt := 162) E.1 E.2.1 dX5_gate_87 (by decide) ?_
                    have eg : gtf S ea eb x3 x4 x5 (min (n + 1) (S 8 0).toNat) = gtf S ea eb x3 x4 x5 (min n (S 8 0).toNat) := gtf_cut (by omega)
                    have hl : lv_has ls 15 [(12, .null), (0, .ref (a 0 0)), (1, .int (i32 (ea : Int))), (2, .int (i32 (eb : Int))), (3, .int (i32 x3)), (4, .int (i32 x4)), (5, .int (i32 x5)), (6, .ref (a 10 ea)), (7, .ref (a 10 eb)), (8, .int (i32 (gtf S ea eb x3 x4 x5 (min (n + 1) (S 8 0).toNat)))), (9, .ref (a 5 0)), (10, .int (i32 8)), (11, .int (i32 (n : Int)))] := by rw [eg]; exact hl
                    refine z_iinc (lv' := [(11, .int (i32 ((n + 1 : Nat) : Int))), (12, .null), (0, .ref (a 0 0)), (1, .int (i32 (ea : Int))), (2, .int (i32 (eb : Int))), (3, .int (i32 x3)), (4, .int (i32 x4)), (5, .int (i32 x5)), (6, .ref (a 10 ea)), (7, .ref (a 10 eb)), (8, .int (i32 (gtf S ea eb x3 x4 x5 (min (n + 1) (S 8 0).toNat)))), (9, .ref (a 5 0)), (10, .int (i32 8))]) E dX5_gate_162 hl (k := 12) rfl (by decide) rfl (fun ls hl => ?_)
                    refine lv_goto (tgt := 71) E.1 E.2.1 dX5_gate_165 (by decide) ?_
                    exact ih71 (n + 1) G _ _ _ (by omega) (by omega) hG X (lv_sub hl [2, 3, 4, 5, 6, 7, 8, 9, 10, 11, 12, 0] rfl)
            exact key71 ((8 - 0) + 1) 0 G _ _ _ (by omega) (by omega) hG X (lv_sub hl [6, 7, 8, 9, 10, 11, 5, 4, 3, 2, 1, 0] rfl)
          · refine z_bipush E dX5_gate_50 (by decide +kernel) ?_
            have ef : fGate S (ea : Int) (eb : Int) x3 x4 x5 = (-2, S) := by
              unfold fGate
              try unfold fFind
              try simp only [Int.toNat_natCast]
              repeat' split
              all_goals first | rfl | (exfalso; omega)
            exact z_ret E X hQ (⟨(congrArg (fun w => some (Value.int (i32 w.1))) ef).symm, a, G, rfl, by rw [ef]; exact hG, by rw [ef]; exact X.1⟩) dX5_gate_52
    · refine lv_astoreN (lv' := [(7, .null), (6, .ref (a 10 ea)), (0, .ref (a 0 0)), (1, .int (i32 (ea : Int))), (2, .int (i32 x2)), (3, .int (i32 x3)), (4, .int (i32 x4)), (5, .int (i32 x5))]) E.1 E.2.1 dX5_gate_12 hl (by decide) rfl (fun ls hl => ?_)
      refine lv_aload E.1 E.2.1 dX5_gate_14 (lv_at hl 1 rfl) ?_
      refine lv_ifnull E.1 E.2.1 dX5_gate_16 ?_
      refine lv_aloadN E.1 E.2.1 dX5_gate_19 (lv_at hl 0 rfl) ?_
      refine lv_ifnonnullN E.1 E.2.1 dX5_gate_21 ?_
      refine z_iconst E dX5_gate_24 ?_
      have ef : fGate S (ea : Int) x2 x3 x4 x5 = (-1, S) := by
        unfold fGate
        try unfold fFind
        try simp only [Int.toNat_natCast]
        repeat' split
        all_goals first | rfl | (exfalso; omega)
      exact z_ret E X hQ (⟨(congrArg (fun w => some (Value.int (i32 w.1))) ef).symm, a, G, rfl, by rw [ef]; exact hG, by rw [ef]; exact X.1⟩) dX5_gate_25
  · refine lv_astoreN (lv' := [(6, .null), (0, .ref (a 0 0)), (1, .int (i32 x1)), (2, .int (i32 x2)), (3, .int (i32 x3)), (4, .int (i32 x4)), (5, .int (i32 x5))]) E.1 E.2.1 dX5_gate_5 hl (by decide) rfl (fun ls hl => ?_)
    refine lv_aload_n E.1 E.2.1 dX5_gate_7 rfl (lv_at hl 1 rfl) ?_
    refine lv_iload_n E.1 E.2.1 dX5_gate_8 rfl (lv_at hl 3 rfl) ?_
    refine z_callV (As := [.int (i32 x2)]) (rest := []) (n := 1) E X (lC_0 M cA a G S) rfl (x_en l D cA B0 M a G S hI.1 x2 ⟨by omega, by omega⟩) gX5_gate_X5_elementNumbered rfl (by decide +kernel) ⟨by decide, by decide⟩ rfl hl.1 rfl (Nat.le_of_ble_eq_true rfl) dX5_gate_9 ⟨by decide, by decide⟩ X.1 0 0 ⟨rfl, rfl⟩ (fun v H locs hv hS_38 => ?_)
    obtain ⟨hv, hw⟩ := hv
    replace X : zX D B0 (zj (layC cA a G S) M) s.heap H locs := ⟨hw, hS_38⟩
    rcases hv with ⟨eb, rfl, he_40, rfl⟩ | ⟨hn_41, rfl⟩
    · refine lv_astore (lv' := [(7, .ref (a 10 eb)), (6, .null), (0, .ref (a 0 0)), (1, .int (i32 x1)), (2, .int (i32 (eb : Int))), (3, .int (i32 x3)), (4, .int (i32 x4)), (5, .int (i32 x5))]) E.1 E.2.1 dX5_gate_12 hl (by decide) rfl (fun ls hl => ?_)
      refine lv_aloadN E.1 E.2.1 dX5_gate_14 (lv_at hl 1 rfl) ?_
      refine lv_ifnullN (tgt := 24) E.1 E.2.1 dX5_gate_16 (by decide) ?_
      refine z_iconst E dX5_gate_24 ?_
      have ef : fGate S x1 (eb : Int) x3 x4 x5 = (-1, S) := by
        unfold fGate
        try unfold fFind
        try simp only [Int.toNat_natCast]
        repeat' split
        all_goals first | rfl | (exfalso; omega)
      exact z_ret E X hQ (⟨(congrArg (fun w => some (Value.int (i32 w.1))) ef).symm, a, G, rfl, by rw [ef]; exact hG, by rw [ef]; exact X.1⟩) dX5_gate_25
    · refine lv_astoreN (lv' := [(7, .null), (6, .null), (0, .ref (a 0 0)), (1, .int (i32 x1)), (2, .int (i32 x2)), (3, .int (i32 x3)), (4, .int (i32 x4)), (5, .int (i32 x5))]) E.1 E.2.1 dX5_gate_12 hl (by decide) rfl (fun ls hl => ?_)
      refine lv_aloadN E.1 E.2.1 dX5_gate_14 (lv_at hl 1 rfl) ?_
      refine lv_ifnullN (tgt := 24) E.1 E.2.1 dX5_gate_16 (by decide) ?_
      refine z_iconst E dX5_gate_24 ?_
      have ef : fGate S x1 x2 x3 x4 x5 = (-1, S) := by
        unfold fGate
        try unfold fFind
        try simp only [Int.toNat_natCast]
        repeat' split
        all_goals first | rfl | (exfalso; omega)
      exact z_ret E X hQ (⟨(congrArg (fun w => some (Value.int (i32 w.1))) ef).symm, a, G, rfl, by rw [ef]; exact hG, by rw [ef]; exact X.1⟩) dX5_gate_25

theorem slf_wl {S : zS} {a b d : Nat} {ticks : Int} (hI : SI S) (ha : (a : Int) < S 5 0) (hb : (b : Int) < S 5 0) : slf S a b ticks d = zabs (minb (wlf (S 6 a).toNat (S 6 b).toNat (S 3 0) (S 1 0) ((d + 1 : Nat) : Int) (S 2 0)) 50 - ticks) := by
  have h1 := (hI.2.1 a ha).1
  have h2 := (hI.2.1 b hb).1
  have h0 := hI.1
  unfold SI0 at h0
  have e : minb (fd (zs S 4 0 ((d + 1 : Nat) : Int)) a b 0 (S 1 0 + S 2 0).toNat) 50 = minb (wlf (S 6 a).toNat (S 6 b).toNat (S 3 0) (S 1 0) ((d + 1 : Nat) : Int) (S 2 0)) 50 := by
    refine minb_cong (fun k _ => ?_)
    unfold fd wlf
    have t1 := (TM_fb (S := zs S 4 0 ((d + 1 : Nat) : Int)) (q := a) (x := 0 + k) (y := (S 1 0 + S 2 0).toNat) h1).1
    have t2 := (TM_fb (S := zs S 4 0 ((d + 1 : Nat) : Int)) (q := b) (x := 0 + k) (y := (S 1 0 + S 2 0).toNat) h2).1
    rw [t1, t2, Nat.zero_add]
    have e2 : (((S 1 0 + S 2 0).toNat : Nat) : Int) - zs S 4 0 ((d + 1 : Nat) : Int) 1 0 = S 2 0 := by
      show (((S 1 0 + S 2 0).toNat : Nat) : Int) - S 1 0 = S 2 0
      omega
    rw [e2]
    rfl
  unfold slf LST
  rw [e]
theorem slb_keep5 {f : Nat → Int} {d : Nat} {bs ne : Int} (h0 : d = 0 → bs = 1 ∧ ne = 2147483647) (h : 0 < d → bs = argb f (d - 1) + 1 ∧ ne = minb f (d - 1)) (hm : f d < 2147483648) (hc : ¬ f d < ne) : bs = argb f (d + 1 - 1) + 1 ∧ ne = minb f (d + 1 - 1) := by
  cases d with
  | zero =>
    obtain ⟨e1, e2⟩ := h0 rfl
    exact ⟨e1, by show ne = f 0; omega⟩
  | succ k => exact slb_keep h (Nat.succ_pos k) hc
abbrev rX5_slowness : Room := { frames := 3, cells := 0, slots := 0, locals := 78 }
set_option maxHeartbeats 4000000 in
set_option maxRecDepth 100000 in
theorem X_slowness (l : Launch) (D : va_G) (cA : Nat → ClassId) (B0 : Nat) (M : zL) (a : Nat → Nat → Nat) (G : zG) (S : zS) (hI : SI S) (hG : CG S G) (x1 x2 x3 : Int) (hx1 : zr x1) (hx2 : zr x2) (hx3 : zr x3) : zM l yX5_slowness wsX5_slowness rX5_slowness [.ref (a 0 0), .int (i32 x1), .int (i32 x2), .int (i32 x3)] D cA B0 (zW D B0 (zj (layC cA a G S) M)) (fun v H => v = some (.int (i32 (fSlow S x1 x2 x3).1)) ∧ ∃ (a2 : Nat → Nat → Nat) (G2 : zG), a2 0 0 = a 0 0 ∧ CG (fSlow S x1 x2 x3).2 G2 ∧ zW D B0 (zj (layC cA a2 G2 (fSlow S x1 x2 x3).2) M) H) := by
  refine z_met (cc := cX5_slowness) (maxL := 10) (ret := (some .int)) (by decide) rfl (Nat.le_of_ble_eq_true rfl) ?_
  intro p e s m args below meth c ls Q hQ E hP hB hS hl
  have hl : lv_has ls 10 [(0, .ref (a 0 0)), (1, .int (i32 x1)), (2, .int (i32 x2)), (3, .int (i32 x3))] := hl
  have iX0 : ∀ w ∈ u_ws RX0 TX0 4, w ∈ wsX5_slowness := by decide +kernel
  have iX5 : ∀ w ∈ u_ws RX5 TX5 11, w ∈ wsX5_slowness := by decide +kernel
  have X : zX D B0 (zj (layC cA a G S) M) s.heap s.heap [] := ⟨hP, hS⟩
  have hI0 := hI.1
  unfold SI0 at hI0
  obtain ⟨b1, b2, b3, b4, b5, b8, b17, b19, b7⟩ := hI0
  unfold zr at hx1 hx2 hx3
  refine lv_aload_n E.1 E.2.1 dX5_slowness_0 rfl (lv_at hl 0 rfl) ?_
  refine lv_iload_n E.1 E.2.1 dX5_slowness_1 rfl (lv_at hl 1 rfl) ?_
  refine z_callV (As := [.int (i32 x1)]) (rest := []) (n := 1) E X (lC_0 M cA a G S) rfl (x_en l D cA B0 M a G S hI.1 x1 ⟨by omega, by omega⟩) gX5_slowness_X5_elementNumbered rfl (by decide +kernel) ⟨by decide, by decide⟩ rfl hl.1 rfl (Nat.le_of_ble_eq_true rfl) dX5_slowness_2 ⟨by decide, by decide⟩ X.1 0 0 ⟨rfl, rfl⟩ (fun v H locs hv hS_1 => ?_)
  obtain ⟨hv, hw⟩ := hv
  replace X : zX D B0 (zj (layC cA a G S) M) s.heap H locs := ⟨hw, hS_1⟩
  rcases hv with ⟨ea, rfl, he_3, rfl⟩ | ⟨hn_4, rfl⟩
  · refine lv_astore (lv' := [(4, .ref (a 10 ea)), (0, .ref (a 0 0)), (1, .int (i32 (ea : Int))), (2, .int (i32 x2)), (3, .int (i32 x3))]) E.1 E.2.1 dX5_slowness_5 hl (by decide) rfl (fun ls hl => ?_)
    refine lv_aload_n E.1 E.2.1 dX5_slowness_7 rfl (lv_at hl 1 rfl) ?_
    refine lv_iload_n E.1 E.2.1 dX5_slowness_8 rfl (lv_at hl 3 rfl) ?_
    refine z_callV (As := [.int (i32 x2)]) (rest := []) (n := 1) E X (lC_0 M cA a G S) rfl (x_en l D cA B0 M a G S hI.1 x2 ⟨by omega, by omega⟩) gX5_slowness_X5_elementNumbered rfl (by decide +kernel) ⟨by decide, by decide⟩ rfl hl.1 rfl (Nat.le_of_ble_eq_true rfl) dX5_slowness_9 ⟨by decide, by decide⟩ X.1 0 0 ⟨rfl, rfl⟩ (fun v H locs hv hS_5 => ?_)
    obtain ⟨hv, hw⟩ := hv
    replace X : zX D B0 (zj (layC cA a G S) M) s.heap H locs := ⟨hw, hS_5⟩
    rcases hv with ⟨eb, rfl, he_7, rfl⟩ | ⟨hn_8, rfl⟩
    · refine lv_astore (lv' := [(5, .ref (a 10 eb)), (4, .ref (a 10 ea)), (0, .ref (a 0 0)), (1, .int (i32 (ea : Int))), (2, .int (i32 (eb : Int))), (3, .int (i32 x3))]) E.1 E.2.1 dX5_slowness_12 hl (by decide) rfl (fun ls hl => ?_)
      refine lv_aload E.1 E.2.1 dX5_slowness_14 (lv_at hl 1 rfl) ?_
      refine lv_ifnull E.1 E.2.1 dX5_slowness_16 ?_
      refine lv_aload E.1 E.2.1 dX5_slowness_19 (lv_at hl 0 rfl) ?_
      refine lv_ifnonnull (tgt := 26) E.1 E.2.1 dX5_slowness_21 (by decide) ?_
      have h6a := hI.2.1 ea (by omega)
      have h6b := hI.2.1 eb (by omega)
      refine lv_iload_n E.1 E.2.1 dX5_slowness_26 rfl (lv_at hl 5 rfl) ?_
      refine z_fge E 33 ⟨by omega, by omega⟩ dX5_slowness_27 (by decide) (fun h27_9 => ?_) (fun h27_9 => ?_)
      · refine z_iconst E dX5_slowness_33 ?_
        refine lv_istore (lv' := [(6, .int (i32 1)), (5, .ref (a 10 eb)), (4, .ref (a 10 ea)), (0, .ref (a 0 0)), (1, .int (i32 (ea : Int))), (2, .int (i32 (eb : Int))), (3, .int (i32 x3))]) E.1 E.2.1 dX5_slowness_34 hl (by decide) rfl (fun ls hl => ?_)
        refine z_ldc (v := 2147483647) (z := 2147483647) E (by decide +kernel) (by decide +kernel) dX5_slowness_36 ?_
        refine lv_istore (lv' := [(7, .int (i32 2147483647)), (6, .int (i32 1)), (5, .ref (a 10 eb)), (4, .ref (a 10 ea)), (0, .ref (a 0 0)), (1, .int (i32 (ea : Int))), (2, .int (i32 (eb : Int))), (3, .int (i32 x3))]) E.1 E.2.1 dX5_slowness_38 hl (by decide) rfl (fun ls hl => ?_)
        refine z_iconst E dX5_slowness_40 ?_
        refine z_top ((0 + 1 : Nat) : Int) (rfl) ?_
        refine lv_istore (lv' := [(8, .int (i32 ((0 + 1 : Nat) : Int))), (7, .int (i32 2147483647)), (6, .int (i32 1)), (5, .ref (a 10 eb)), (4, .ref (a 10 ea)), (0, .ref (a 0 0)), (1, .int (i32 (ea : Int))), (2, .int (i32 (eb : Int))), (3, .int (i32 x3))]) E.1 E.2.1 dX5_slowness_41 hl (by decide) rfl (fun ls hl => ?_)
        have key43 : ∀ (N : Nat) (d : Nat) (bs : Int) (ne : Int) (G : zG) (H : Heap) (locs : List Loc) (ls : Array Slot), (8 - d) < N → (d ≤ 8) → (d = 0 → bs = 1 ∧ ne = 2147483647) → (0 < d → bs = argb (slf S ea eb x3) (d - 1) + 1 ∧ ne = minb (slf S ea eb x3) (d - 1)) → (0 ≤ ne ∧ ne < 2147483648) → (CG S G) → zX D B0 (zj (layC cA a G S) M) s.heap H locs → lv_has ls 10 [(0, .ref (a 0 0)), (1, .int (i32 (ea : Int))), (2, .int (i32 (eb : Int))), (3, .int (i32 x3)), (4, .ref (a 10 ea)), (5, .ref (a 10 eb)), (6, .int (i32 bs)), (7, .int (i32 ne)), (8, .int (i32 ((d + 1 : Nat) : Int)))] → W p l e rX5_slowness s m args below meth c H locs 0 0 Q (F0 m 43 ls []) := by
          intro N
          induction N with
          | zero => intros; omega
          | succ N ih43 =>
            intro d bs ne G H locs ls hN hd hb0 hbn hner hG X hl
            refine lv_iload E.1 E.2.1 dX5_slowness_43 (lv_at hl 8 rfl) ?_
            refine z_bipush E dX5_slowness_45 (by decide +kernel) ?_
            refine z_cgt E 97 ⟨by omega, by omega⟩ ⟨by omega, by omega⟩ dX5_slowness_47 (by decide) (fun h47_10 => ?_) (fun h47_10 => ?_)
            · refine lv_iload E.1 E.2.1 dX5_slowness_97 (lv_at hl 6 rfl) ?_
              have ef : fSlow S (ea : Int) (eb : Int) x3 = (bs, S) := by
                unfold fSlow
                rw [if_neg (by omega), if_neg (by omega), (hbn (by omega)).1, show d - 1 = 7 by omega]
                rfl
              exact z_ret E X hQ (⟨(congrArg (fun w => some (Value.int (i32 w.1))) ef).symm, a, G, rfl, by rw [ef]; exact hG, by rw [ef]; exact X.1⟩) dX5_slowness_99
            · refine lv_aload_n E.1 E.2.1 dX5_slowness_50 rfl (lv_at hl 0 rfl) ?_
              refine z_get E X (lC_0 M cA a G S) rfl iX5 0 (by decide) (by decide +kernel) (v := .ref (a 1 0)) rfl dX5_slowness_51 ?_
              refine lv_aload E.1 E.2.1 dX5_slowness_54 (lv_at hl 4 rfl) ?_
              refine z_get E X (lC_10 M cA a G S ea (by omega)) rfl iX0 1 (by decide) (by decide +kernel) (v := .int (i32 (S 6 ea))) rfl dX5_slowness_56 ?_
              refine z_top (((S 6 ea).toNat : Nat) : Int) (by omega) ?_
              refine lv_aload E.1 E.2.1 dX5_slowness_59 (lv_at hl 5 rfl) ?_
              refine z_get E X (lC_10 M cA a G S eb (by omega)) rfl iX0 1 (by decide) (by decide +kernel) (v := .int (i32 (S 6 eb))) rfl dX5_slowness_61 ?_
              refine z_top (((S 6 eb).toNat : Nat) : Int) (by omega) ?_
              refine lv_iload E.1 E.2.1 dX5_slowness_64 (lv_at hl 8 rfl) ?_
              replace X := cl_in X
              have hLi := LI_of hI hG
              refine z_callV (As := [.int (i32 (((S 6 ea).toNat : Nat) : Int)), .int (i32 (((S 6 eb).toNat : Nat) : Int)), .int (i32 ((d + 1 : Nat) : Int))]) (rest := []) (n := 3) E X (lL_0 _ cA (hL a) (TL S G)) rfl (L_wallTime l D cA B0 (zj (layC cA a G S) M) (hL a) (TL S G) (S 3 0) b3 hLi (S 6 ea).toNat (S 6 eb).toNat ((d + 1 : Nat) : Int) (by omega) (by omega) (by omega)) gX5_slowness_X1_wallTime rfl (by decide +kernel) ⟨by decide, by decide⟩ rfl hl.1 rfl (Nat.le_of_ble_eq_true rfl) dX5_slowness_66 ⟨by decide, by decide⟩ X.1 0 0 ⟨rfl, rfl⟩ (fun v H locs hv hS_11 => ?_)
              obtain ⟨rfl, T_12, hLIT_12, hsT_12, hw⟩ := hv
              obtain ⟨G_13, hG, hgkG_13, X⟩ := cl_back hG ⟨hw, hS_11⟩ hLIT_12 hsT_12
              refine z_top (minb (wlf (S 6 ea).toNat (S 6 eb).toNat (S 3 0) (S 1 0) ((d + 1 : Nat) : Int) (S 2 0)) 50) rfl ?_
              refine lv_iload_n E.1 E.2.1 dX5_slowness_69 rfl (lv_at hl 3 rfl) ?_
              refine z_isub E dX5_slowness_70 ?_
              have esl := slf_wl (d := d) (ticks := x3) hI (a := ea) (b := eb) (by omega) (by omega)
              have hsf := slf_rng (S := S) (a := ea) (b := eb) (d := d) (ticks := x3) hI (by omega) (by omega) (by omega) (by omega)
              have hzr : zr (minb (wlf (S 6 ea).toNat (S 6 eb).toNat (S 3 0) (S 1 0) ((d + 1 : Nat) : Int) (S 2 0)) 50 - x3) := by rw [esl] at hsf; unfold zabs at hsf; unfold zr; split at hsf <;> omega
              unfold zr at hzr
              refine z_mabs E ⟨by omega, by omega⟩ (by decide +kernel) (by decide +kernel) (by decide +kernel) (by decide +kernel) hl.1 (by decide) (Nat.le_of_ble_eq_true rfl) ⟨by decide, by decide⟩ dX5_slowness_71 ?_
              refine z_top (slf S ea eb x3 d) (esl.symm) ?_
              refine lv_istore (lv' := [(9, .int (i32 (slf S ea eb x3 d))), (0, .ref (a 0 0)), (1, .int (i32 (ea : Int))), (2, .int (i32 (eb : Int))), (3, .int (i32 x3)), (4, .ref (a 10 ea)), (5, .ref (a 10 eb)), (6, .int (i32 bs)), (7, .int (i32 ne)), (8, .int (i32 ((d + 1 : Nat) : Int)))]) E.1 E.2.1 dX5_slowness_74 hl (by decide) rfl (fun ls hl => ?_)
              refine lv_iload E.1 E.2.1 dX5_slowness_76 (lv_at hl 0 rfl) ?_
              refine lv_iload E.1 E.2.1 dX5_slowness_78 (lv_at hl 8 rfl) ?_
              refine z_cge E 91 ⟨by omega, by omega⟩ ⟨by omega, by omega⟩ dX5_slowness_80 (by decide) (fun h80_14 => ?_) (fun h80_14 => ?_)
              · refine z_iinc (lv' := [(8, .int (i32 ((d + 1 + 1 : Nat) : Int))), (9, .int (i32 (slf S ea eb x3 d))), (0, .ref (a 0 0)), (1, .int (i32 (ea : Int))), (2, .int (i32 (eb : Int))), (3, .int (i32 x3)), (4, .ref (a 10 ea)), (5, .ref (a 10 eb)), (6, .int (i32 bs)), (7, .int (i32 ne))]) E dX5_slowness_91 hl (k := 9) rfl (by decide) rfl (fun ls hl => ?_)
                refine lv_goto (tgt := 43) E.1 E.2.1 dX5_slowness_94 (by decide) ?_
                exact ih43 (d + 1) bs ne G_13 _ _ _ (by omega) (by omega) (fun h => absurd h (Nat.succ_ne_zero d)) (fun _ => slb_keep5 hb0 hbn (by omega) (by omega)) (by omega) hG X (lv_sub hl [2, 3, 4, 5, 6, 7, 8, 9, 0] rfl)
              · refine lv_iload E.1 E.2.1 dX5_slowness_83 (lv_at hl 0 rfl) ?_
                refine lv_istore (lv' := [(7, .int (i32 (slf S ea eb x3 d))), (9, .int (i32 (slf S ea eb x3 d))), (0, .ref (a 0 0)), (1, .int (i32 (ea : Int))), (2, .int (i32 (eb : Int))), (3, .int (i32 x3)), (4, .ref (a 10 ea)), (5, .ref (a 10 eb)), (6, .int (i32 bs)), (8, .int (i32 ((d + 1 : Nat) : Int)))]) E.1 E.2.1 dX5_slowness_85 hl (by decide) rfl (fun ls hl => ?_)
                refine lv_iload E.1 E.2.1 dX5_slowness_87 (lv_at hl 9 rfl) ?_
                refine lv_istore (lv' := [(6, .int (i32 ((d + 1 : Nat) : Int))), (7, .int (i32 (slf S ea eb x3 d))), (9, .int (i32 (slf S ea eb x3 d))), (0, .ref (a 0 0)), (1, .int (i32 (ea : Int))), (2, .int (i32 (eb : Int))), (3, .int (i32 x3)), (4, .ref (a 10 ea)), (5, .ref (a 10 eb)), (8, .int (i32 ((d + 1 : Nat) : Int)))]) E.1 E.2.1 dX5_slowness_89 hl (by decide) rfl (fun ls hl => ?_)
                refine z_iinc (lv' := [(8, .int (i32 ((d + 1 + 1 : Nat) : Int))), (6, .int (i32 ((d + 1 : Nat) : Int))), (7, .int (i32 (slf S ea eb x3 d))), (9, .int (i32 (slf S ea eb x3 d))), (0, .ref (a 0 0)), (1, .int (i32 (ea : Int))), (2, .int (i32 (eb : Int))), (3, .int (i32 x3)), (4, .ref (a 10 ea)), (5, .ref (a 10 eb))]) E dX5_slowness_91 hl (k := 9) rfl (by decide) rfl (fun ls hl => ?_)
                refine lv_goto (tgt := 43) E.1 E.2.1 dX5_slowness_94 (by decide) ?_
                exact ih43 (d + 1) ((d + 1 : Nat) : Int) (slf S ea eb x3 d) G_13 _ _ _ (by omega) (by omega) (fun h => absurd h (Nat.succ_ne_zero d)) (fun _ => slb_new hbn (by omega)) (by omega) hG X (lv_sub hl [4, 5, 6, 7, 8, 9, 1, 2, 0] rfl)
        exact key43 ((8 - 0) + 1) 0 1 2147483647 G _ _ _ (by omega) (by omega) (fun _ => ⟨rfl, rfl⟩) (fun h => absurd h (Nat.lt_irrefl 0)) (by omega) hG X (lv_sub hl [5, 6, 7, 8, 4, 3, 2, 1, 0] rfl)
      · refine z_bipush E dX5_slowness_30 (by decide +kernel) ?_
        have ef : fSlow S (ea : Int) (eb : Int) x3 = (-2, S) := by
          unfold fSlow
          try unfold fFind
          try simp only [Int.toNat_natCast]
          repeat' split
          all_goals first | rfl | (exfalso; omega)
        exact z_ret E X hQ (⟨(congrArg (fun w => some (Value.int (i32 w.1))) ef).symm, a, G, rfl, by rw [ef]; exact hG, by rw [ef]; exact X.1⟩) dX5_slowness_32
    · refine lv_astoreN (lv' := [(5, .null), (4, .ref (a 10 ea)), (0, .ref (a 0 0)), (1, .int (i32 (ea : Int))), (2, .int (i32 x2)), (3, .int (i32 x3))]) E.1 E.2.1 dX5_slowness_12 hl (by decide) rfl (fun ls hl => ?_)
      refine lv_aload E.1 E.2.1 dX5_slowness_14 (lv_at hl 1 rfl) ?_
      refine lv_ifnull E.1 E.2.1 dX5_slowness_16 ?_
      refine lv_aloadN E.1 E.2.1 dX5_slowness_19 (lv_at hl 0 rfl) ?_
      refine lv_ifnonnullN E.1 E.2.1 dX5_slowness_21 ?_
      refine z_iconst E dX5_slowness_24 ?_
      have ef : fSlow S (ea : Int) x2 x3 = (-1, S) := by
        unfold fSlow
        try unfold fFind
        try simp only [Int.toNat_natCast]
        repeat' split
        all_goals first | rfl | (exfalso; omega)
      exact z_ret E X hQ (⟨(congrArg (fun w => some (Value.int (i32 w.1))) ef).symm, a, G, rfl, by rw [ef]; exact hG, by rw [ef]; exact X.1⟩) dX5_slowness_25
  · refine lv_astoreN (lv' := [(4, .null), (0, .ref (a 0 0)), (1, .int (i32 x1)), (2, .int (i32 x2)), (3, .int (i32 x3))]) E.1 E.2.1 dX5_slowness_5 hl (by decide) rfl (fun ls hl => ?_)
    refine lv_aload_n E.1 E.2.1 dX5_slowness_7 rfl (lv_at hl 1 rfl) ?_
    refine lv_iload_n E.1 E.2.1 dX5_slowness_8 rfl (lv_at hl 3 rfl) ?_
    refine z_callV (As := [.int (i32 x2)]) (rest := []) (n := 1) E X (lC_0 M cA a G S) rfl (x_en l D cA B0 M a G S hI.1 x2 ⟨by omega, by omega⟩) gX5_slowness_X5_elementNumbered rfl (by decide +kernel) ⟨by decide, by decide⟩ rfl hl.1 rfl (Nat.le_of_ble_eq_true rfl) dX5_slowness_9 ⟨by decide, by decide⟩ X.1 0 0 ⟨rfl, rfl⟩ (fun v H locs hv hS_15 => ?_)
    obtain ⟨hv, hw⟩ := hv
    replace X : zX D B0 (zj (layC cA a G S) M) s.heap H locs := ⟨hw, hS_15⟩
    rcases hv with ⟨eb, rfl, he_17, rfl⟩ | ⟨hn_18, rfl⟩
    · refine lv_astore (lv' := [(5, .ref (a 10 eb)), (4, .null), (0, .ref (a 0 0)), (1, .int (i32 x1)), (2, .int (i32 (eb : Int))), (3, .int (i32 x3))]) E.1 E.2.1 dX5_slowness_12 hl (by decide) rfl (fun ls hl => ?_)
      refine lv_aloadN E.1 E.2.1 dX5_slowness_14 (lv_at hl 1 rfl) ?_
      refine lv_ifnullN (tgt := 24) E.1 E.2.1 dX5_slowness_16 (by decide) ?_
      refine z_iconst E dX5_slowness_24 ?_
      have ef : fSlow S x1 (eb : Int) x3 = (-1, S) := by
        unfold fSlow
        try unfold fFind
        try simp only [Int.toNat_natCast]
        repeat' split
        all_goals first | rfl | (exfalso; omega)
      exact z_ret E X hQ (⟨(congrArg (fun w => some (Value.int (i32 w.1))) ef).symm, a, G, rfl, by rw [ef]; exact hG, by rw [ef]; exact X.1⟩) dX5_slowness_25
    · refine lv_astoreN (lv' := [(5, .null), (4, .null), (0, .ref (a 0 0)), (1, .int (i32 x1)), (2, .int (i32 x2)), (3, .int (i32 x3))]) E.1 E.2.1 dX5_slowness_12 hl (by decide) rfl (fun ls hl => ?_)
      refine lv_aloadN E.1 E.2.1 dX5_slowness_14 (lv_at hl 1 rfl) ?_
      refine lv_ifnullN (tgt := 24) E.1 E.2.1 dX5_slowness_16 (by decide) ?_
      refine z_iconst E dX5_slowness_24 ?_
      have ef : fSlow S x1 x2 x3 = (-1, S) := by
        unfold fSlow
        try unfold fFind
        try simp only [Int.toNat_natCast]
        repeat' split
        all_goals first | rfl | (exfalso; omega)
      exact z_ret E X hQ (⟨(congrArg (fun w => some (Value.int (i32 w.1))) ef).symm, a, G, rfl, by rw [ef]; exact hG, by rw [ef]; exact X.1⟩) dX5_slowness_25

abbrev rX5_board : Room := { frames := 5, cells := 0, slots := 0, locals := 132 }
set_option maxHeartbeats 4000000 in
set_option maxRecDepth 100000 in
theorem X_board (l : Launch) (D : va_G) (cA : Nat → ClassId) (B0 : Nat) (M : zL) (a : Nat → Nat → Nat) (G : zG) (S : zS) (hI : SI S) (hG : CG S G) (x1 x2 : Int) (hx1 : zr x1) (hx2 : zr x2) : zM l yX5_board wsX5_board rX5_board [.ref (a 0 0), .int (i32 x1), .int (i32 x2)] D cA B0 (zW D B0 (zj (layC cA a G S) M)) (fun v H => v = some (.int (i32 (fBoard S x1 x2).1)) ∧ ∃ (a2 : Nat → Nat → Nat) (G2 : zG), a2 0 0 = a 0 0 ∧ CG (fBoard S x1 x2).2 G2 ∧ zW D B0 (zj (layC cA a2 G2 (fBoard S x1 x2).2) M) H) := by
  refine z_met (cc := cX5_board) (maxL := 12) (ret := (some .int)) (by decide) rfl (Nat.le_of_ble_eq_true rfl) ?_
  intro p e s m args below meth c ls Q hQ E hP hB hS hl
  have hl : lv_has ls 12 [(0, .ref (a 0 0)), (1, .int (i32 x1)), (2, .int (i32 x2))] := hl
  have iX0 : ∀ w ∈ u_ws RX0 TX0 4, w ∈ wsX5_board := by decide +kernel
  have iX5 : ∀ w ∈ u_ws RX5 TX5 11, w ∈ wsX5_board := by decide +kernel
  have X : zX D B0 (zj (layC cA a G S) M) s.heap s.heap [] := ⟨hP, hS⟩
  have hI0 := hI.1
  unfold SI0 at hI0
  obtain ⟨b1, b2, b3, b4, b5, b8, b17, b19, b7⟩ := hI0
  unfold zr at hx1 hx2
  refine lv_aload_n E.1 E.2.1 dX5_board_0 rfl (lv_at hl 0 rfl) ?_
  refine z_get E X (lC_0 M cA a G S) rfl iX5 0 (by decide) (by decide +kernel) (v := .ref (a 1 0)) rfl dX5_board_1 ?_
  refine lv_iload_n E.1 E.2.1 dX5_board_4 rfl (lv_at hl 1 rfl) ?_
  refine lv_iload_n E.1 E.2.1 dX5_board_5 rfl (lv_at hl 2 rfl) ?_
  replace X := cl_in X
  refine z_callV (As := [.int (i32 x1), .int (i32 x2)]) (rest := []) (n := 2) E X (lL_0 _ cA (hL a) (TL S G)) rfl (L_holds l D cA B0 (zj (layC cA a G S) M) (hL a) (TL S G) ⟨b1, b2⟩ x1 x2 ⟨by omega, by omega⟩ ⟨by omega, by omega⟩) gX5_board_X1_holds rfl (by decide +kernel) ⟨by decide, by decide⟩ rfl hl.1 rfl (Nat.le_of_ble_eq_true rfl) dX5_board_6 ⟨by decide, by decide⟩ X.1 0 0 ⟨rfl, rfl⟩ (fun v H locs hv hS_1 => ?_)
  obtain ⟨⟨z_2, rfl, ez_2⟩, hw⟩ := hv
  replace X : zX D B0 (zj (layC cA a G S) M) s.heap H locs := cl_un ⟨hw, hS_1⟩
  replace ez_2 : z_2 = 1 ∧ (0 ≤ x1 ∧ x1 ≤ 50 ∧ S 1 0 ≤ x2 ∧ x2 ≤ S 1 0 + S 2 0) ∨ z_2 = 0 ∧ ¬ (0 ≤ x1 ∧ x1 ≤ 50 ∧ S 1 0 ≤ x2 ∧ x2 ≤ S 1 0 + S 2 0) := ez_2
  refine z_fne E 15 ⟨by omega, by omega⟩ dX5_board_9 (by decide) (fun h9_3 => ?_) (fun h9_3 => ?_)
  · obtain ⟨x, rfl⟩ : ∃ x : Nat, x1 = (x : Int) := ⟨x1.toNat, by omega⟩
    obtain ⟨y, rfl⟩ : ∃ y : Nat, x2 = (y : Int) := ⟨x2.toNat, by omega⟩
    refine z_iconst E dX5_board_15 ?_
    refine z_top (sumn (cut (S 5 0) (fbo2 S x y)) 0) (rfl) ?_
    refine lv_istore_n (lv' := [(3, .int (i32 (sumn (cut (S 5 0) (fbo2 S x y)) 0))), (0, .ref (a 0 0)), (1, .int (i32 (x : Int))), (2, .int (i32 (y : Int)))]) E.1 E.2.1 dX5_board_16 rfl hl (by decide) rfl (fun ls hl => ?_)
    refine lv_aload_n E.1 E.2.1 dX5_board_17 rfl (lv_at hl 1 rfl) ?_
    refine z_get E X (lC_0 M cA a G S) rfl iX5 1 (by decide) (by decide +kernel) (v := .ref (a 4 0)) rfl dX5_board_18 ?_
    refine lv_astore (lv' := [(4, .ref (a 4 0)), (3, .int (i32 (sumn (cut (S 5 0) (fbo2 S x y)) 0))), (0, .ref (a 0 0)), (1, .int (i32 (x : Int))), (2, .int (i32 (y : Int)))]) E.1 E.2.1 dX5_board_21 hl (by decide) rfl (fun ls hl => ?_)
    refine lv_aload E.1 E.2.1 dX5_board_23 (lv_at hl 0 rfl) ?_
    refine z_alen (z := 8) E X 2 (lC_4 M cA a G S) rfl (by omega) dX5_board_25 ?_
    refine lv_istore (lv' := [(5, .int (i32 8)), (4, .ref (a 4 0)), (3, .int (i32 (sumn (cut (S 5 0) (fbo2 S x y)) 0))), (0, .ref (a 0 0)), (1, .int (i32 (x : Int))), (2, .int (i32 (y : Int)))]) E.1 E.2.1 dX5_board_26 hl (by decide) rfl (fun ls hl => ?_)
    refine z_iconst E dX5_board_28 ?_
    refine z_top (0 : Int) (rfl) ?_
    refine lv_istore (lv' := [(6, .int (i32 (0 : Int))), (5, .int (i32 8)), (4, .ref (a 4 0)), (3, .int (i32 (sumn (cut (S 5 0) (fbo2 S x y)) 0))), (0, .ref (a 0 0)), (1, .int (i32 (x : Int))), (2, .int (i32 (y : Int)))]) E.1 E.2.1 dX5_board_29 hl (by decide) rfl (fun ls hl => ?_)
    have key31 : ∀ (N : Nat) (n1 : Nat) (G : zG) (H : Heap) (locs : List Loc) (ls : Array Slot), (8 - n1) < N → (n1 ≤ 8) → (CG S G) → zX D B0 (zj (layC cA a G S) M) s.heap H locs → lv_has ls 12 [(0, .ref (a 0 0)), (1, .int (i32 (x : Int))), (2, .int (i32 (y : Int))), (3, .int (i32 (sumn (cut (S 5 0) (fbo2 S x y)) n1))), (4, .ref (a 4 0)), (5, .int (i32 8)), (6, .int (i32 (n1 : Int)))] → W p l e rX5_board s m args below meth c H locs 0 0 Q (F0 m 31 ls []) := by
      intro N
      induction N with
      | zero => intros; omega
      | succ N ih31 =>
        intro n1 G H locs ls hN hn1 hG X hl
        refine lv_iload E.1 E.2.1 dX5_board_31 (lv_at hl 6 rfl) ?_
        refine lv_iload E.1 E.2.1 dX5_board_33 (lv_at hl 5 rfl) ?_
        refine z_cge E 152 ⟨by omega, by omega⟩ ⟨by omega, by omega⟩ dX5_board_35 (by decide) (fun h35_4 => ?_) (fun h35_4 => ?_)
        · refine lv_iload_n E.1 E.2.1 dX5_board_152 rfl (lv_at hl 3 rfl) ?_
          have ef : fBoard S (x : Int) (y : Int) = (sumn (cut (S 5 0) (fbo2 S x y)) n1, S) := by
            unfold fBoard BO
            rw [if_neg (by omega)]
            simp only [Int.toNat_natCast]
            rw [cut_end (by omega) (by omega)]
          exact z_ret E X hQ (⟨(congrArg (fun w => some (Value.int (i32 w.1))) ef).symm, a, G, rfl, by rw [ef]; exact hG, by rw [ef]; exact X.1⟩) dX5_board_153
        · have l1 := b7 n1
          refine lv_aload E.1 E.2.1 dX5_board_38 (lv_at hl 4 rfl) ?_
          refine lv_iload E.1 E.2.1 dX5_board_40 (lv_at hl 6 rfl) ?_
          by_cases hp_5 : ((n1 : Nat) : Int) < S 5 0
          · refine z_aldS (C := "EchoRow$Element") E X 2 (lC_4 M cA a G S) rfl n1 (by omega) (by omega) (by decide) (if_pos hp_5) dX5_board_42 ?_
            refine lv_astore (lv' := [(7, .ref (a 10 n1)), (0, .ref (a 0 0)), (1, .int (i32 (x : Int))), (2, .int (i32 (y : Int))), (3, .int (i32 (sumn (cut (S 5 0) (fbo2 S x y)) n1))), (4, .ref (a 4 0)), (5, .int (i32 8)), (6, .int (i32 (n1 : Int)))]) E.1 E.2.1 dX5_board_43 hl (by decide) rfl (fun ls hl => ?_)
            refine lv_aload_n E.1 E.2.1 dX5_board_45 rfl (lv_at hl 1 rfl) ?_
            refine z_get E X (lC_0 M cA a G S) rfl iX5 1 (by decide) (by decide +kernel) (v := .ref (a 4 0)) rfl dX5_board_46 ?_
            refine lv_astore (lv' := [(8, .ref (a 4 0)), (7, .ref (a 10 n1)), (0, .ref (a 0 0)), (1, .int (i32 (x : Int))), (2, .int (i32 (y : Int))), (3, .int (i32 (sumn (cut (S 5 0) (fbo2 S x y)) n1))), (4, .ref (a 4 0)), (5, .int (i32 8)), (6, .int (i32 (n1 : Int)))]) E.1 E.2.1 dX5_board_49 hl (by decide) rfl (fun ls hl => ?_)
            refine lv_aload E.1 E.2.1 dX5_board_51 (lv_at hl 0 rfl) ?_
            refine z_alen (z := 8) E X 2 (lC_4 M cA a G S) rfl (by omega) dX5_board_53 ?_
            refine lv_istore (lv' := [(9, .int (i32 8)), (8, .ref (a 4 0)), (7, .ref (a 10 n1)), (0, .ref (a 0 0)), (1, .int (i32 (x : Int))), (2, .int (i32 (y : Int))), (3, .int (i32 (sumn (cut (S 5 0) (fbo2 S x y)) n1))), (4, .ref (a 4 0)), (5, .int (i32 8)), (6, .int (i32 (n1 : Int)))]) E.1 E.2.1 dX5_board_54 hl (by decide) rfl (fun ls hl => ?_)
            refine z_iconst E dX5_board_56 ?_
            refine z_top (0 : Int) (rfl) ?_
            refine lv_istore (lv' := [(10, .int (i32 (0 : Int))), (9, .int (i32 8)), (8, .ref (a 4 0)), (7, .ref (a 10 n1)), (0, .ref (a 0 0)), (1, .int (i32 (x : Int))), (2, .int (i32 (y : Int))), (3, .int (i32 (sumn (cut (S 5 0) (fbo2 S x y)) n1))), (4, .ref (a 4 0)), (5, .int (i32 8)), (6, .int (i32 (n1 : Int)))]) E.1 E.2.1 dX5_board_57 hl (by decide) rfl (fun ls hl => ?_)
            have ez : sumn (cut (S 5 0) (fbo2 S x y)) n1 = sumn (cut (S 5 0) (fbo2 S x y)) n1 + sumn (cut (S 5 0) (fbo S x y n1)) 0 := by show _ = _ + 0; omega
            have hl : lv_has ls 12 [(10, .int (i32 (0 : Int))), (9, .int (i32 8)), (8, .ref (a 4 0)), (7, .ref (a 10 n1)), (0, .ref (a 0 0)), (1, .int (i32 (x : Int))), (2, .int (i32 (y : Int))), (3, .int (i32 (sumn (cut (S 5 0) (fbo2 S x y)) n1 + sumn (cut (S 5 0) (fbo S x y n1)) 0))), (4, .ref (a 4 0)), (5, .int (i32 8)), (6, .int (i32 (n1 : Int)))] := by rw [← ez]; exact hl
            have key59 : ∀ (N : Nat) (n2 : Nat) (G : zG) (H : Heap) (locs : List Loc) (ls : Array Slot), (8 - n2) < N → (n2 ≤ 8) → (CG S G) → zX D B0 (zj (layC cA a G S) M) s.heap H locs → lv_has ls 12 [(0, .ref (a 0 0)), (1, .int (i32 (x : Int))), (2, .int (i32 (y : Int))), (3, .int (i32 (sumn (cut (S 5 0) (fbo2 S x y)) n1 + sumn (cut (S 5 0) (fbo S x y n1)) n2))), (4, .ref (a 4 0)), (5, .int (i32 8)), (6, .int (i32 (n1 : Int))), (7, .ref (a 10 n1)), (8, .ref (a 4 0)), (9, .int (i32 8)), (10, .int (i32 (n2 : Int)))] → W p l e rX5_board s m args below meth c H locs 0 0 Q (F0 m 59 ls []) := by
              intro N
              induction N with
              | zero => intros; omega
              | succ N ih59 =>
                intro n2 G H locs ls hN hn2 hG X hl
                refine lv_iload E.1 E.2.1 dX5_board_59 (lv_at hl 10 rfl) ?_
                refine lv_iload E.1 E.2.1 dX5_board_61 (lv_at hl 9 rfl) ?_
                refine z_cge E 146 ⟨by omega, by omega⟩ ⟨by omega, by omega⟩ dX5_board_63 (by decide) (fun h63_6 => ?_) (fun h63_6 => ?_)
                · have ec2 : sumn (cut (S 5 0) (fbo2 S x y)) (n1 + 1) = sumn (cut (S 5 0) (fbo2 S x y)) n1 + sumn (cut (S 5 0) (fbo S x y n1)) n2 := by rw [cut_S, if_pos (by omega), fbo2, show n2 = 8 by omega, cut_end (f := fbo S x y n1) (by omega) (by omega)]
                  have hl : lv_has ls 12 [(0, .ref (a 0 0)), (1, .int (i32 (x : Int))), (2, .int (i32 (y : Int))), (3, .int (i32 (sumn (cut (S 5 0) (fbo2 S x y)) (n1 + 1)))), (4, .ref (a 4 0)), (5, .int (i32 8)), (6, .int (i32 (n1 : Int))), (7, .ref (a 10 n1)), (8, .ref (a 4 0)), (9, .int (i32 8)), (10, .int (i32 (n2 : Int)))] := by rw [ec2]; exact hl
                  refine z_iinc (lv' := [(6, .int (i32 ((n1 + 1 : Nat) : Int))), (0, .ref (a 0 0)), (1, .int (i32 (x : Int))), (2, .int (i32 (y : Int))), (3, .int (i32 (sumn (cut (S 5 0) (fbo2 S x y)) (n1 + 1)))), (4, .ref (a 4 0)), (5, .int (i32 8)), (7, .ref (a 10 n1)), (8, .ref (a 4 0)), (9, .int (i32 8)), (10, .int (i32 (n2 : Int)))]) E dX5_board_146 hl (k := 6) rfl (by decide) rfl (fun ls hl => ?_)
                  refine lv_goto (tgt := 31) E.1 E.2.1 dX5_board_149 (by decide) ?_
                  exact ih31 (n1 + 1) G _ _ _ (by omega) (by omega) hG X (lv_sub hl [1, 2, 3, 4, 5, 6, 0] rfl)
                · have l2 := b7 n2
                  refine lv_aload E.1 E.2.1 dX5_board_66 (lv_at hl 8 rfl) ?_
                  refine lv_iload E.1 E.2.1 dX5_board_68 (lv_at hl 10 rfl) ?_
                  by_cases hp_7 : ((n2 : Nat) : Int) < S 5 0
                  · refine z_aldS (C := "EchoRow$Element") E X 2 (lC_4 M cA a G S) rfl n2 (by omega) (by omega) (by decide) (if_pos hp_7) dX5_board_70 ?_
                    refine lv_astore (lv' := [(11, .ref (a 10 n2)), (0, .ref (a 0 0)), (1, .int (i32 (x : Int))), (2, .int (i32 (y : Int))), (3, .int (i32 (sumn (cut (S 5 0) (fbo2 S x y)) n1 + sumn (cut (S 5 0) (fbo S x y n1)) n2))), (4, .ref (a 4 0)), (5, .int (i32 8)), (6, .int (i32 (n1 : Int))), (7, .ref (a 10 n1)), (8, .ref (a 4 0)), (9, .int (i32 8)), (10, .int (i32 (n2 : Int)))]) E.1 E.2.1 dX5_board_71 hl (by decide) rfl (fun ls hl => ?_)
                    refine lv_aload E.1 E.2.1 dX5_board_73 (lv_at hl 8 rfl) ?_
                    refine lv_ifnull E.1 E.2.1 dX5_board_75 ?_
                    refine lv_aload E.1 E.2.1 dX5_board_78 (lv_at hl 0 rfl) ?_
                    refine lv_ifnull E.1 E.2.1 dX5_board_80 ?_
                    refine lv_aload E.1 E.2.1 dX5_board_83 (lv_at hl 8 rfl) ?_
                    refine z_get E X (lC_10 M cA a G S n1 (by omega)) rfl iX0 2 (by decide) (by decide +kernel) (v := .int (i32 (1 - S 7 n1))) rfl dX5_board_85 ?_
                    refine z_feq E 140 ⟨by omega, by omega⟩ dX5_board_88 (by decide) (fun h88_8 => ?_) (fun h88_8 => ?_)
                    · have ec1 : sumn (cut (S 5 0) (fbo2 S x y)) n1 + sumn (cut (S 5 0) (fbo S x y n1)) (n2 + 1) = sumn (cut (S 5 0) (fbo2 S x y)) n1 + sumn (cut (S 5 0) (fbo S x y n1)) n2 := by
                        rw [cut_S (n := n2)]
                        split
                        · rw [fbo, EC_zero hI (by omega) (by omega) (Or.inl (by omega))]; omega
                        · omega
                      have hl : lv_has ls 12 [(11, .ref (a 10 n2)), (0, .ref (a 0 0)), (1, .int (i32 (x : Int))), (2, .int (i32 (y : Int))), (3, .int (i32 (sumn (cut (S 5 0) (fbo2 S x y)) n1 + sumn (cut (S 5 0) (fbo S x y n1)) (n2 + 1)))), (4, .ref (a 4 0)), (5, .int (i32 8)), (6, .int (i32 (n1 : Int))), (7, .ref (a 10 n1)), (8, .ref (a 4 0)), (9, .int (i32 8)), (10, .int (i32 (n2 : Int)))] := by rw [ec1]; exact hl
                      refine z_iinc (lv' := [(10, .int (i32 ((n2 + 1 : Nat) : Int))), (11, .ref (a 10 n2)), (0, .ref (a 0 0)), (1, .int (i32 (x : Int))), (2, .int (i32 (y : Int))), (3, .int (i32 (sumn (cut (S 5 0) (fbo2 S x y)) n1 + sumn (cut (S 5 0) (fbo S x y n1)) (n2 + 1)))), (4, .ref (a 4 0)), (5, .int (i32 8)), (6, .int (i32 (n1 : Int))), (7, .ref (a 10 n1)), (8, .ref (a 4 0)), (9, .int (i32 8))]) E dX5_board_140 hl (k := 11) rfl (by decide) rfl (fun ls hl => ?_)
                      refine lv_goto (tgt := 59) E.1 E.2.1 dX5_board_143 (by decide) ?_
                      exact ih59 (n2 + 1) G _ _ _ (by omega) (by omega) hG X (lv_sub hl [2, 3, 4, 5, 6, 7, 8, 9, 10, 11, 0] rfl)
                    · refine lv_aload E.1 E.2.1 dX5_board_91 (lv_at hl 0 rfl) ?_
                      refine z_get E X (lC_10 M cA a G S n2 (by omega)) rfl iX0 2 (by decide) (by decide +kernel) (v := .int (i32 (1 - S 7 n2))) rfl dX5_board_93 ?_
                      refine z_feq E 140 ⟨by omega, by omega⟩ dX5_board_96 (by decide) (fun h96_9 => ?_) (fun h96_9 => ?_)
                      · have ec1 : sumn (cut (S 5 0) (fbo2 S x y)) n1 + sumn (cut (S 5 0) (fbo S x y n1)) (n2 + 1) = sumn (cut (S 5 0) (fbo2 S x y)) n1 + sumn (cut (S 5 0) (fbo S x y n1)) n2 := by
                          rw [cut_S (n := n2)]
                          split
                          · rw [fbo, EC_zero hI (by omega) (by omega) (Or.inl (by omega))]; omega
                          · omega
                        have hl : lv_has ls 12 [(11, .ref (a 10 n2)), (0, .ref (a 0 0)), (1, .int (i32 (x : Int))), (2, .int (i32 (y : Int))), (3, .int (i32 (sumn (cut (S 5 0) (fbo2 S x y)) n1 + sumn (cut (S 5 0) (fbo S x y n1)) (n2 + 1)))), (4, .ref (a 4 0)), (5, .int (i32 8)), (6, .int (i32 (n1 : Int))), (7, .ref (a 10 n1)), (8, .ref (a 4 0)), (9, .int (i32 8)), (10, .int (i32 (n2 : Int)))] := by rw [ec1]; exact hl
                        refine z_iinc (lv' := [(10, .int (i32 ((n2 + 1 : Nat) : Int))), (11, .ref (a 10 n2)), (0, .ref (a 0 0)), (1, .int (i32 (x : Int))), (2, .int (i32 (y : Int))), (3, .int (i32 (sumn (cut (S 5 0) (fbo2 S x y)) n1 + sumn (cut (S 5 0) (fbo S x y n1)) (n2 + 1)))), (4, .ref (a 4 0)), (5, .int (i32 8)), (6, .int (i32 (n1 : Int))), (7, .ref (a 10 n1)), (8, .ref (a 4 0)), (9, .int (i32 8))]) E dX5_board_140 hl (k := 11) rfl (by decide) rfl (fun ls hl => ?_)
                        refine lv_goto (tgt := 59) E.1 E.2.1 dX5_board_143 (by decide) ?_
                        exact ih59 (n2 + 1) G _ _ _ (by omega) (by omega) hG X (lv_sub hl [2, 3, 4, 5, 6, 7, 8, 9, 10, 11, 0] rfl)
                      · refine lv_iload_n E.1 E.2.1 dX5_board_99 rfl (lv_at hl 4 rfl) ?_
                        refine lv_aload_n E.1 E.2.1 dX5_board_100 rfl (lv_at hl 1 rfl) ?_
                        refine lv_aload E.1 E.2.1 dX5_board_101 (lv_at hl 8 rfl) ?_
                        refine lv_aload E.1 E.2.1 dX5_board_103 (lv_at hl 0 rfl) ?_
                        refine lv_aload_n E.1 E.2.1 dX5_board_105 rfl (lv_at hl 1 rfl) ?_
                        refine z_get E X (lC_0 M cA a G S) rfl iX5 0 (by decide) (by decide +kernel) (v := .ref (a 1 0)) rfl dX5_board_106 ?_
                        refine lv_aload E.1 E.2.1 dX5_board_109 (lv_at hl 8 rfl) ?_
                        refine z_get E X (lC_10 M cA a G S n1 (by omega)) rfl iX0 1 (by decide) (by decide +kernel) (v := .int (i32 (S 6 n1))) rfl dX5_board_111 ?_
                        refine lv_iload_n E.1 E.2.1 dX5_board_114 rfl (lv_at hl 2 rfl) ?_
                        refine lv_iload_n E.1 E.2.1 dX5_board_115 rfl (lv_at hl 3 rfl) ?_
                        replace X := cl_in X
                        have hLi := LI_of hI hG
                        have h6_10 := hI.2.1 n1 (by omega)
                        refine z_callV (As := [.int (i32 (S 6 n1)), .int (i32 (x : Int)), .int (i32 (y : Int))]) (rest := [.ref (a 10 n2), .ref (a 10 n1), .ref (a 0 0), .int (i32 (sumn (cut (S 5 0) (fbo2 S x y)) n1 + sumn (cut (S 5 0) (fbo S x y n1)) n2))]) (n := 3) E X (lL_0 _ cA (hL a) (TL S G)) rfl (L_timeTo l D cA B0 (zj (layC cA a G S) M) (hL a) (TL S G) (S 3 0) (SI_u hI) hLi (S 6 n1) (x : Int) (y : Int) h6_10 (by omega) (show S 1 0 ≤ (y : Int) ∧ (y : Int) ≤ S 1 0 + S 2 0 by omega)) gX5_board_X1_timeTo rfl (by decide +kernel) ⟨by decide, by decide⟩ rfl hl.1 rfl (Nat.le_of_ble_eq_true rfl) dX5_board_116 ⟨by decide, by decide⟩ X.1 0 0 ⟨rfl, rfl⟩ (fun v H locs hv hS_11 => ?_)
                        obtain ⟨rfl, T_12, hLIT_12, hsT_12, hw⟩ := hv
                        obtain ⟨G_13, hG, hgkG_13, X⟩ := cl_back hG ⟨hw, hS_11⟩ hLIT_12 hsT_12
                        refine z_top (TM S n1 x y) (TM_fb (S := S) (q := n1) (x := x) (y := y) h6_10.1).1.symm ?_
                        have f_14 := TM_rng (S := S) (e := n1) (x := x) (y := y) hI.1 hI.2.1 (by omega) (by omega) (by omega)
                        refine lv_aload_n E.1 E.2.1 dX5_board_119 rfl (lv_at hl 1 rfl) ?_
                        refine z_get E X (lC_0 M cA a G_13 S) rfl iX5 0 (by decide) (by decide +kernel) (v := .ref (a 1 0)) rfl dX5_board_120 ?_
                        refine lv_aload E.1 E.2.1 dX5_board_123 (lv_at hl 0 rfl) ?_
                        refine z_get E X (lC_10 M cA a G_13 S n2 (by omega)) rfl iX0 1 (by decide) (by decide +kernel) (v := .int (i32 (S 6 n2))) rfl dX5_board_125 ?_
                        refine lv_iload_n E.1 E.2.1 dX5_board_128 rfl (lv_at hl 2 rfl) ?_
                        refine lv_iload_n E.1 E.2.1 dX5_board_129 rfl (lv_at hl 3 rfl) ?_
                        replace X := cl_in X
                        have hLi := LI_of hI hG
                        have h6_15 := hI.2.1 n2 (by omega)
                        refine z_callV (As := [.int (i32 (S 6 n2)), .int (i32 (x : Int)), .int (i32 (y : Int))]) (rest := [.int (i32 (TM S n1 x y)), .ref (a 10 n2), .ref (a 10 n1), .ref (a 0 0), .int (i32 (sumn (cut (S 5 0) (fbo2 S x y)) n1 + sumn (cut (S 5 0) (fbo S x y n1)) n2))]) (n := 3) E X (lL_0 _ cA (hL a) (TL S G_13)) rfl (L_timeTo l D cA B0 (zj (layC cA a G_13 S) M) (hL a) (TL S G_13) (S 3 0) (SI_u hI) hLi (S 6 n2) (x : Int) (y : Int) h6_15 (by omega) (show S 1 0 ≤ (y : Int) ∧ (y : Int) ≤ S 1 0 + S 2 0 by omega)) gX5_board_X1_timeTo rfl (by decide +kernel) ⟨by decide, by decide⟩ rfl hl.1 rfl (Nat.le_of_ble_eq_true rfl) dX5_board_130 ⟨by decide, by decide⟩ X.1 0 0 ⟨rfl, rfl⟩ (fun v H locs hv hS_16 => ?_)
                        obtain ⟨rfl, T_17, hLIT_17, hsT_17, hw⟩ := hv
                        obtain ⟨G_18, hG, hgkG_18, X⟩ := cl_back hG ⟨hw, hS_16⟩ hLIT_17 hsT_17
                        refine z_top (TM S n2 x y) (TM_fb (S := S) (q := n2) (x := x) (y := y) h6_15.1).1.symm ?_
                        have f_19 := TM_rng (S := S) (e := n2) (x := x) (y := y) hI.1 hI.2.1 (by omega) (by omega) (by omega)
                        refine z_iadd E dX5_board_133 ?_
                        refine z_i2l E ⟨by omega, by omega⟩ dX5_board_134 ?_
                        refine z_callV (As := [.ref (a 10 n1), .ref (a 10 n2), .long (i64 ((TM S n1 x y) + (TM S n2 x y)))]) (rest := [.int (i32 (sumn (cut (S 5 0) (fbo2 S x y)) n1 + sumn (cut (S 5 0) (fbo S x y n1)) n2))]) (n := 3) E X (lC_0 M cA a G_18 S) rfl (x_echoAt l D cA B0 M a G_18 S hI hG n1 n2 ((TM S n1 x y) + (TM S n2 x y)) (by omega) (by omega) (by unfold zrl; omega)) gX5_board_X5_echoAt rfl (by decide +kernel) ⟨by decide, by decide⟩ rfl hl.1 rfl (Nat.le_of_ble_eq_true rfl) dX5_board_135 ⟨by decide, by decide⟩ X.1 0 0 ⟨rfl, rfl⟩ (fun v H locs hv hS_20 => ?_)
                        obtain ⟨rfl, G_21, hG, hw⟩ := hv
                        replace X : zX D B0 (zj (layC cA a G_21 S) M) s.heap H locs := ⟨hw, hS_20⟩
                        have f_22 := EC_rng (a := n1) (b := n2) (tick := ((TM S n1 x y) + (TM S n2 x y))) hI
                        refine z_iadd E dX5_board_138 ?_
                        refine lv_istore_n (lv' := [(3, .int (i32 ((sumn (cut (S 5 0) (fbo2 S x y)) n1 + sumn (cut (S 5 0) (fbo S x y n1)) n2) + (EC S n1 n2 ((TM S n1 x y) + (TM S n2 x y)))))), (11, .ref (a 10 n2)), (0, .ref (a 0 0)), (1, .int (i32 (x : Int))), (2, .int (i32 (y : Int))), (4, .ref (a 4 0)), (5, .int (i32 8)), (6, .int (i32 (n1 : Int))), (7, .ref (a 10 n1)), (8, .ref (a 4 0)), (9, .int (i32 8)), (10, .int (i32 (n2 : Int)))]) E.1 E.2.1 dX5_board_139 rfl hl (by decide) rfl (fun ls hl => ?_)
                        have ec1 : sumn (cut (S 5 0) (fbo2 S x y)) n1 + sumn (cut (S 5 0) (fbo S x y n1)) (n2 + 1) = (sumn (cut (S 5 0) (fbo2 S x y)) n1 + sumn (cut (S 5 0) (fbo S x y n1)) n2) + (EC S n1 n2 ((TM S n1 x y) + (TM S n2 x y))) := by
                          rw [cut_S (n := n2)]
                          rw [if_pos (by omega), fbo]
                          omega
                        have hl : lv_has ls 12 [(3, .int (i32 (sumn (cut (S 5 0) (fbo2 S x y)) n1 + sumn (cut (S 5 0) (fbo S x y n1)) (n2 + 1)))), (11, .ref (a 10 n2)), (0, .ref (a 0 0)), (1, .int (i32 (x : Int))), (2, .int (i32 (y : Int))), (4, .ref (a 4 0)), (5, .int (i32 8)), (6, .int (i32 (n1 : Int))), (7, .ref (a 10 n1)), (8, .ref (a 4 0)), (9, .int (i32 8)), (10, .int (i32 (n2 : Int)))] := by rw [ec1]; exact hl
                        refine z_iinc (lv' := [(10, .int (i32 ((n2 + 1 : Nat) : Int))), (3, .int (i32 (sumn (cut (S 5 0) (fbo2 S x y)) n1 + sumn (cut (S 5 0) (fbo S x y n1)) (n2 + 1)))), (11, .ref (a 10 n2)), (0, .ref (a 0 0)), (1, .int (i32 (x : Int))), (2, .int (i32 (y : Int))), (4, .ref (a 4 0)), (5, .int (i32 8)), (6, .int (i32 (n1 : Int))), (7, .ref (a 10 n1)), (8, .ref (a 4 0)), (9, .int (i32 8))]) E dX5_board_140 hl (k := 11) rfl (by decide) rfl (fun ls hl => ?_)
                        refine lv_goto (tgt := 59) E.1 E.2.1 dX5_board_143 (by decide) ?_
                        exact ih59 (n2 + 1) G_21 _ _ _ (by omega) (by omega) hG X (lv_sub hl [3, 4, 5, 1, 6, 7, 8, 9, 10, 11, 0] rfl)
                  · refine z_aldN (C := "EchoRow$Element") E X 2 (lC_4 M cA a G S) rfl n2 (by omega) (by omega) (by decide) (if_neg hp_7) dX5_board_70 ?_
                    refine lv_astoreN (lv' := [(11, .null), (0, .ref (a 0 0)), (1, .int (i32 (x : Int))), (2, .int (i32 (y : Int))), (3, .int (i32 (sumn (cut (S 5 0) (fbo2 S x y)) n1 + sumn (cut (S 5 0) (fbo S x y n1)) n2))), (4, .ref (a 4 0)), (5, .int (i32 8)), (6, .int (i32 (n1 : Int))), (7, .ref (a 10 n1)), (8, .ref (a 4 0)), (9, .int (i32 8)), (10, .int (i32 (n2 : Int)))]) E.1 E.2.1 dX5_board_71 hl (by decide) rfl (fun ls hl => ?_)
                    refine lv_aload E.1 E.2.1 dX5_board_73 (lv_at hl 8 rfl) ?_
                    refine lv_ifnull E.1 E.2.1 dX5_board_75 ?_
                    refine lv_aloadN E.1 E.2.1 dX5_board_78 (lv_at hl 0 rfl) ?_
                    refine lv_ifnullN (tgt := 140) E.1 E.2.1 dX5_board_80 (by decide) ?_
                    have ec1 : sumn (cut (S 5 0) (fbo2 S x y)) n1 + sumn (cut (S 5 0) (fbo S x y n1)) (n2 + 1) = sumn (cut (S 5 0) (fbo2 S x y)) n1 + sumn (cut (S 5 0) (fbo S x y n1)) n2 := by
                      rw [cut_S (n := n2)]
                      split
                      · rw [fbo, EC_zero hI (by omega) (by omega) (Or.inl (by omega))]; omega
                      · omega
                    have hl : lv_has ls 12 [(11, .null), (0, .ref (a 0 0)), (1, .int (i32 (x : Int))), (2, .int (i32 (y : Int))), (3, .int (i32 (sumn (cut (S 5 0) (fbo2 S x y)) n1 + sumn (cut (S 5 0) (fbo S x y n1)) (n2 + 1)))), (4, .ref (a 4 0)), (5, .int (i32 8)), (6, .int (i32 (n1 : Int))), (7, .ref (a 10 n1)), (8, .ref (a 4 0)), (9, .int (i32 8)), (10, .int (i32 (n2 : Int)))] := by rw [ec1]; exact hl
                    refine z_iinc (lv' := [(10, .int (i32 ((n2 + 1 : Nat) : Int))), (11, .null), (0, .ref (a 0 0)), (1, .int (i32 (x : Int))), (2, .int (i32 (y : Int))), (3, .int (i32 (sumn (cut (S 5 0) (fbo2 S x y)) n1 + sumn (cut (S 5 0) (fbo S x y n1)) (n2 + 1)))), (4, .ref (a 4 0)), (5, .int (i32 8)), (6, .int (i32 (n1 : Int))), (7, .ref (a 10 n1)), (8, .ref (a 4 0)), (9, .int (i32 8))]) E dX5_board_140 hl (k := 11) rfl (by decide) rfl (fun ls hl => ?_)
                    refine lv_goto (tgt := 59) E.1 E.2.1 dX5_board_143 (by decide) ?_
                    exact ih59 (n2 + 1) G _ _ _ (by omega) (by omega) hG X (lv_sub hl [2, 3, 4, 5, 6, 7, 8, 9, 10, 11, 0] rfl)
            exact key59 ((8 - 0) + 1) 0 G _ _ _ (by omega) (by omega) hG X (lv_sub hl [4, 5, 6, 7, 8, 9, 10, 3, 2, 1, 0] rfl)
          · refine z_aldN (C := "EchoRow$Element") E X 2 (lC_4 M cA a G S) rfl n1 (by omega) (by omega) (by decide) (if_neg hp_5) dX5_board_42 ?_
            refine lv_astoreN (lv' := [(7, .null), (0, .ref (a 0 0)), (1, .int (i32 (x : Int))), (2, .int (i32 (y : Int))), (3, .int (i32 (sumn (cut (S 5 0) (fbo2 S x y)) n1))), (4, .ref (a 4 0)), (5, .int (i32 8)), (6, .int (i32 (n1 : Int)))]) E.1 E.2.1 dX5_board_43 hl (by decide) rfl (fun ls hl => ?_)
            refine lv_aload_n E.1 E.2.1 dX5_board_45 rfl (lv_at hl 1 rfl) ?_
            refine z_get E X (lC_0 M cA a G S) rfl iX5 1 (by decide) (by decide +kernel) (v := .ref (a 4 0)) rfl dX5_board_46 ?_
            refine lv_astore (lv' := [(8, .ref (a 4 0)), (7, .null), (0, .ref (a 0 0)), (1, .int (i32 (x : Int))), (2, .int (i32 (y : Int))), (3, .int (i32 (sumn (cut (S 5 0) (fbo2 S x y)) n1))), (4, .ref (a 4 0)), (5, .int (i32 8)), (6, .int (i32 (n1 : Int)))]) E.1 E.2.1 dX5_board_49 hl (by decide) rfl (fun ls hl => ?_)
            refine lv_aload E.1 E.2.1 dX5_board_51 (lv_at hl 0 rfl) ?_
            refine z_alen (z := 8) E X 2 (lC_4 M cA a G S) rfl (by omega) dX5_board_53 ?_
            refine lv_istore (lv' := [(9, .int (i32 8)), (8, .ref (a 4 0)), (7, .null), (0, .ref (a 0 0)), (1, .int (i32 (x : Int))), (2, .int (i32 (y : Int))), (3, .int (i32 (sumn (cut (S 5 0) (fbo2 S x y)) n1))), (4, .ref (a 4 0)), (5, .int (i32 8)), (6, .int (i32 (n1 : Int)))]) E.1 E.2.1 dX5_board_54 hl (by decide) rfl (fun ls hl => ?_)
            refine z_iconst E dX5_board_56 ?_
            refine z_top (0 : Int) (rfl) ?_
            refine lv_istore (lv' := [(10, .int (i32 (0 : Int))), (9, .int (i32 8)), (8, .ref (a 4 0)), (7, .null), (0, .ref (a 0 0)), (1, .int (i32 (x : Int))), (2, .int (i32 (y : Int))), (3, .int (i32 (sumn (cut (S 5 0) (fbo2 S x y)) n1))), (4, .ref (a 4 0)), (5, .int (i32 8)), (6, .int (i32 (n1 : Int)))]) E.1 E.2.1 dX5_board_57 hl (by decide) rfl (fun ls hl => ?_)
            have key59 : ∀ (N : Nat) (n2 : Nat) (G : zG) (H : Heap) (locs : List Loc) (ls : Array Slot), (8 - n2) < N → (n2 ≤ 8) → (CG S G) → zX D B0 (zj (layC cA a G S) M) s.heap H locs → lv_has ls 12 [(0, .ref (a 0 0)), (1, .int (i32 (x : Int))), (2, .int (i32 (y : Int))), (3, .int (i32 (sumn (cut (S 5 0) (fbo2 S x y)) n1))), (4, .ref (a 4 0)), (5, .int (i32 8)), (6, .int (i32 (n1 : Int))), (7, .null), (8, .ref (a 4 0)), (9, .int (i32 8)), (10, .int (i32 (n2 : Int)))] → W p l e rX5_board s m args below meth c H locs 0 0 Q (F0 m 59 ls []) := by
              intro N
              induction N with
              | zero => intros; omega
              | succ N ih59 =>
                intro n2 G H locs ls hN hn2 hG X hl
                refine lv_iload E.1 E.2.1 dX5_board_59 (lv_at hl 10 rfl) ?_
                refine lv_iload E.1 E.2.1 dX5_board_61 (lv_at hl 9 rfl) ?_
                refine z_cge E 146 ⟨by omega, by omega⟩ ⟨by omega, by omega⟩ dX5_board_63 (by decide) (fun h63_23 => ?_) (fun h63_23 => ?_)
                · have ec2 : sumn (cut (S 5 0) (fbo2 S x y)) (n1 + 1) = sumn (cut (S 5 0) (fbo2 S x y)) n1 := by rw [cut_S, if_neg (by omega)]; omega
                  have hl : lv_has ls 12 [(0, .ref (a 0 0)), (1, .int (i32 (x : Int))), (2, .int (i32 (y : Int))), (3, .int (i32 (sumn (cut (S 5 0) (fbo2 S x y)) (n1 + 1)))), (4, .ref (a 4 0)), (5, .int (i32 8)), (6, .int (i32 (n1 : Int))), (7, .null), (8, .ref (a 4 0)), (9, .int (i32 8)), (10, .int (i32 (n2 : Int)))] := by rw [ec2]; exact hl
                  refine z_iinc (lv' := [(6, .int (i32 ((n1 + 1 : Nat) : Int))), (0, .ref (a 0 0)), (1, .int (i32 (x : Int))), (2, .int (i32 (y : Int))), (3, .int (i32 (sumn (cut (S 5 0) (fbo2 S x y)) (n1 + 1)))), (4, .ref (a 4 0)), (5, .int (i32 8)), (7, .null), (8, .ref (a 4 0)), (9, .int (i32 8)), (10, .int (i32 (n2 : Int)))]) E dX5_board_146 hl (k := 6) rfl (by decide) rfl (fun ls hl => ?_)
                  refine lv_goto (tgt := 31) E.1 E.2.1 dX5_board_149 (by decide) ?_
                  exact ih31 (n1 + 1) G _ _ _ (by omega) (by omega) hG X (lv_sub hl [1, 2, 3, 4, 5, 6, 0] rfl)
                · have l2 := b7 n2
                  refine lv_aload E.1 E.2.1 dX5_board_66 (lv_at hl 8 rfl) ?_
                  refine lv_iload E.1 E.2.1 dX5_board_68 (lv_at hl 10 rfl) ?_
                  by_cases hp_24 : ((n2 : Nat) : Int) < S 5 0
                  · refine z_aldS (C := "EchoRow$Element") E X 2 (lC_4 M cA a G S) rfl n2 (by omega) (by omega) (by decide) (if_pos hp_24) dX5_board_70 ?_
                    refine lv_astore (lv' := [(11, .ref (a 10 n2)), (0, .ref (a 0 0)), (1, .int (i32 (x : Int))), (2, .int (i32 (y : Int))), (3, .int (i32 (sumn (cut (S 5 0) (fbo2 S x y)) n1))), (4, .ref (a 4 0)), (5, .int (i32 8)), (6, .int (i32 (n1 : Int))), (7, .null), (8, .ref (a 4 0)), (9, .int (i32 8)), (10, .int (i32 (n2 : Int)))]) E.1 E.2.1 dX5_board_71 hl (by decide) rfl (fun ls hl => ?_)
                    refine lv_aloadN E.1 E.2.1 dX5_board_73 (lv_at hl 8 rfl) ?_
                    refine lv_ifnullN (tgt := 140) E.1 E.2.1 dX5_board_75 (by decide) ?_
                    refine z_iinc (lv' := [(10, .int (i32 ((n2 + 1 : Nat) : Int))), (11, .ref (a 10 n2)), (0, .ref (a 0 0)), (1, .int (i32 (x : Int))), (2, .int (i32 (y : Int))), (3, .int (i32 (sumn (cut (S 5 0) (fbo2 S x y)) n1))), (4, .ref (a 4 0)), (5, .int (i32 8)), (6, .int (i32 (n1 : Int))), (7, .null), (8, .ref (a 4 0)), (9, .int (i32 8))]) E dX5_board_140 hl (k := 11) rfl (by decide) rfl (fun ls hl => ?_)
                    refine lv_goto (tgt := 59) E.1 E.2.1 dX5_board_143 (by decide) ?_
                    exact ih59 (n2 + 1) G _ _ _ (by omega) (by omega) hG X (lv_sub hl [2, 3, 4, 5, 6, 7, 8, 9, 10, 11, 0] rfl)
                  · refine z_aldN (C := "EchoRow$Element") E X 2 (lC_4 M cA a G S) rfl n2 (by omega) (by omega) (by decide) (if_neg hp_24) dX5_board_70 ?_
                    refine lv_astoreN (lv' := [(11, .null), (0, .ref (a 0 0)), (1, .int (i32 (x : Int))), (2, .int (i32 (y : Int))), (3, .int (i32 (sumn (cut (S 5 0) (fbo2 S x y)) n1))), (4, .ref (a 4 0)), (5, .int (i32 8)), (6, .int (i32 (n1 : Int))), (7, .null), (8, .ref (a 4 0)), (9, .int (i32 8)), (10, .int (i32 (n2 : Int)))]) E.1 E.2.1 dX5_board_71 hl (by decide) rfl (fun ls hl => ?_)
                    refine lv_aloadN E.1 E.2.1 dX5_board_73 (lv_at hl 8 rfl) ?_
                    refine lv_ifnullN (tgt := 140) E.1 E.2.1 dX5_board_75 (by decide) ?_
                    refine z_iinc (lv' := [(10, .int (i32 ((n2 + 1 : Nat) : Int))), (11, .null), (0, .ref (a 0 0)), (1, .int (i32 (x : Int))), (2, .int (i32 (y : Int))), (3, .int (i32 (sumn (cut (S 5 0) (fbo2 S x y)) n1))), (4, .ref (a 4 0)), (5, .int (i32 8)), (6, .int (i32 (n1 : Int))), (7, .null), (8, .ref (a 4 0)), (9, .int (i32 8))]) E dX5_board_140 hl (k := 11) rfl (by decide) rfl (fun ls hl => ?_)
                    refine lv_goto (tgt := 59) E.1 E.2.1 dX5_board_143 (by decide) ?_
                    exact ih59 (n2 + 1) G _ _ _ (by omega) (by omega) hG X (lv_sub hl [2, 3, 4, 5, 6, 7, 8, 9, 10, 11, 0] rfl)
            exact key59 ((8 - 0) + 1) 0 G _ _ _ (by omega) (by omega) hG X (lv_sub hl [4, 5, 6, 7, 8, 9, 10, 3, 2, 1, 0] rfl)
    exact key31 ((8 - 0) + 1) 0 G _ _ _ (by omega) (by omega) hG X (lv_sub hl [4, 5, 6, 3, 2, 1, 0] rfl)
  · refine z_bipush E dX5_board_12 (by decide +kernel) ?_
    have ef : fBoard S x1 x2 = (-2, S) := by
      unfold fBoard
      try unfold fFind
      try simp only [Int.toNat_natCast]
      repeat' split
      all_goals first | rfl | (exfalso; omega)
    exact z_ret E X hQ (⟨(congrArg (fun w => some (Value.int (i32 w.1))) ef).symm, a, G, rfl, by rw [ef]; exact hG, by rw [ef]; exact X.1⟩) dX5_board_14

