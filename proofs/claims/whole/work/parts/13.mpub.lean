abbrev rX6_body : Room := { frames := 1, cells := 0, slots := 0, locals := 25 }
set_option maxHeartbeats 4000000 in
set_option maxRecDepth 100000 in
theorem M_body (l : Launch) (D : va_G) (cA : Nat → ClassId) (B0 : Nat) (C : zL) (am : Nat → Nat) (S U : zS) (hI : SI S) (hC : MC S U) (x1 x2 x3 x4 : Int) (hx1 : zr x1) (hx2 : zr x2) (hx3 : zr x3) (hx4 : zr x4) : zM l yX6_body wsX6_body rX6_body [.ref (am 0), .int (i32 x1), .int (i32 x2), .int (i32 x3), .int (i32 x4)] D cA B0 (zW D B0 (zj C (layM cA am S U))) (fun v H => v = some (.int (i32 (fBody S x1 x2 x3 x4).1)) ∧ ∃ U : zS, MC (fBody S x1 x2 x3 x4).2 U ∧ zW D B0 (zj C (layM cA am (fBody S x1 x2 x3 x4).2 U)) H) := by
  refine z_met (cc := cX6_body) (maxL := 6) (ret := (some .int)) (by decide) rfl (Nat.le_of_ble_eq_true rfl) ?_
  intro p e s m args below meth c ls Q hQ E hP hB hS hl
  have hl : lv_has ls 6 [(0, .ref (am 0)), (1, .int (i32 x1)), (2, .int (i32 x2)), (3, .int (i32 x3)), (4, .int (i32 x4))] := hl
  have iX6 : ∀ w ∈ u_ws RX6 TX6 28, w ∈ wsX6_body := by decide +kernel
  have X : zX D B0 (zj C (layM cA am S U)) s.heap s.heap [] := ⟨hP, hS⟩
  have hI0 := hI.1
  unfold SI0 at hI0
  obtain ⟨b1, b2, b3, b4, b5, b8, b17, b19, b7⟩ := hI0
  unfold zr at hx1 hx2 hx3 hx4
  refine lv_aload_n E.1 E.2.1 dX6_body_0 rfl (lv_at hl 0 rfl) ?_
  refine z_iconst E dX6_body_1 ?_
  refine z_put E X (lM_0 C cA am S U) rfl iX6 tyX6 tyX6_ok nmX6 0 (by decide) (by decide +kernel) rfl rfl rfl (Nat.le_of_ble_eq_true rfl) dX6_body_2 (fun H locs X => ?_)
  have X := mp_0 X
  have hC : MC S (zs U 0 0 0) := MC_own hC
  generalize zs U 0 0 0 = U at X hC
  refine lv_iload_n E.1 E.2.1 dX6_body_5 rfl (lv_at hl 1 rfl) ?_
  refine z_i2l E ⟨by omega, by omega⟩ dX6_body_6 ?_
  refine z_lconst (z := 0) E dX6_body_7 (by decide +kernel) ?_
  refine z_ldc2 (v := 20) (z := 20) E (by decide +kernel) (by decide +kernel) dX6_body_8 ?_
  refine z_callJ (As := [.long (i64 x1), .long (i64 0), .long (i64 20)]) (rest := []) (n := 3) E X (c_in l D cA B0 _ x1 0 20 ⟨by omega, by omega⟩ ⟨by omega, by omega⟩ ⟨by omega, by omega⟩) gX6_body_X6_in rfl (by decide +kernel) ⟨by decide, by decide⟩ rfl hl.1 rfl (Nat.le_of_ble_eq_true rfl) dX6_body_11 ⟨by decide, by decide⟩ rfl 0 0 ⟨rfl, rfl⟩ (fun v H locs hv hS_1 => ?_)
  obtain ⟨hH, z_2, rfl, ez_2⟩ := hv
  subst hH
  replace X := X.same hS_1
  refine z_feq E 54 ⟨by omega, by omega⟩ dX6_body_14 (by decide) (fun h14_3 => ?_) (fun h14_3 => ?_)
  · refine z_bipush E dX6_body_54 (by decide +kernel) ?_
    have ef : fBody S x1 x2 x3 x4 = (-2, S) := by
      unfold fBody
      try simp only [Int.toNat_natCast]
      repeat' split
      all_goals first | rfl | (exfalso; omega)
    exact z_ret E X hQ (⟨(congrArg (fun w => some (Value.int (i32 w.1))) ef).symm, U, by rw [ef]; exact hC, by rw [ef]; exact X.1⟩) dX6_body_56
  · refine lv_iload_n E.1 E.2.1 dX6_body_17 rfl (lv_at hl 2 rfl) ?_
    refine z_i2l E ⟨by omega, by omega⟩ dX6_body_18 ?_
    refine z_lconst (z := 1) E dX6_body_19 (by decide +kernel) ?_
    refine z_ldc2 (v := 30) (z := 30) E (by decide +kernel) (by decide +kernel) dX6_body_20 ?_
    refine z_callJ (As := [.long (i64 x2), .long (i64 1), .long (i64 30)]) (rest := []) (n := 3) E X (c_in l D cA B0 _ x2 1 30 ⟨by omega, by omega⟩ ⟨by omega, by omega⟩ ⟨by omega, by omega⟩) gX6_body_X6_in rfl (by decide +kernel) ⟨by decide, by decide⟩ rfl hl.1 rfl (Nat.le_of_ble_eq_true rfl) dX6_body_23 ⟨by decide, by decide⟩ rfl 0 0 ⟨rfl, rfl⟩ (fun v H locs hv hS_4 => ?_)
    obtain ⟨hH, z_5, rfl, ez_5⟩ := hv
    subst hH
    replace X := X.same hS_4
    refine z_feq E 54 ⟨by omega, by omega⟩ dX6_body_26 (by decide) (fun h26_6 => ?_) (fun h26_6 => ?_)
    · refine z_bipush E dX6_body_54 (by decide +kernel) ?_
      have ef : fBody S x1 x2 x3 x4 = (-2, S) := by
        unfold fBody
        try simp only [Int.toNat_natCast]
        repeat' split
        all_goals first | rfl | (exfalso; omega)
      exact z_ret E X hQ (⟨(congrArg (fun w => some (Value.int (i32 w.1))) ef).symm, U, by rw [ef]; exact hC, by rw [ef]; exact X.1⟩) dX6_body_56
    · refine lv_iload_n E.1 E.2.1 dX6_body_29 rfl (lv_at hl 3 rfl) ?_
      refine z_i2l E ⟨by omega, by omega⟩ dX6_body_30 ?_
      refine z_lconst (z := 1) E dX6_body_31 (by decide +kernel) ?_
      refine z_ldc2 (v := 8) (z := 8) E (by decide +kernel) (by decide +kernel) dX6_body_32 ?_
      refine z_callJ (As := [.long (i64 x3), .long (i64 1), .long (i64 8)]) (rest := []) (n := 3) E X (c_in l D cA B0 _ x3 1 8 ⟨by omega, by omega⟩ ⟨by omega, by omega⟩ ⟨by omega, by omega⟩) gX6_body_X6_in rfl (by decide +kernel) ⟨by decide, by decide⟩ rfl hl.1 rfl (Nat.le_of_ble_eq_true rfl) dX6_body_35 ⟨by decide, by decide⟩ rfl 0 0 ⟨rfl, rfl⟩ (fun v H locs hv hS_7 => ?_)
      obtain ⟨hH, z_8, rfl, ez_8⟩ := hv
      subst hH
      replace X := X.same hS_7
      refine z_feq E 54 ⟨by omega, by omega⟩ dX6_body_38 (by decide) (fun h38_9 => ?_) (fun h38_9 => ?_)
      · refine z_bipush E dX6_body_54 (by decide +kernel) ?_
        have ef : fBody S x1 x2 x3 x4 = (-2, S) := by
          unfold fBody
          try simp only [Int.toNat_natCast]
          repeat' split
          all_goals first | rfl | (exfalso; omega)
        exact z_ret E X hQ (⟨(congrArg (fun w => some (Value.int (i32 w.1))) ef).symm, U, by rw [ef]; exact hC, by rw [ef]; exact X.1⟩) dX6_body_56
      · refine lv_iload E.1 E.2.1 dX6_body_41 (lv_at hl 4 rfl) ?_
        refine z_i2l E ⟨by omega, by omega⟩ dX6_body_43 ?_
        refine z_lconst (z := 1) E dX6_body_44 (by decide +kernel) ?_
        refine z_ldc2 (v := 8) (z := 8) E (by decide +kernel) (by decide +kernel) dX6_body_45 ?_
        refine z_callJ (As := [.long (i64 x4), .long (i64 1), .long (i64 8)]) (rest := []) (n := 3) E X (c_in l D cA B0 _ x4 1 8 ⟨by omega, by omega⟩ ⟨by omega, by omega⟩ ⟨by omega, by omega⟩) gX6_body_X6_in rfl (by decide +kernel) ⟨by decide, by decide⟩ rfl hl.1 rfl (Nat.le_of_ble_eq_true rfl) dX6_body_48 ⟨by decide, by decide⟩ rfl 0 0 ⟨rfl, rfl⟩ (fun v H locs hv hS_10 => ?_)
        obtain ⟨hH, z_11, rfl, ez_11⟩ := hv
        subst hH
        replace X := X.same hS_10
        refine z_fne E 57 ⟨by omega, by omega⟩ dX6_body_51 (by decide) (fun h51_12 => ?_) (fun h51_12 => ?_)
        · refine z_iconst E dX6_body_57 ?_
          refine z_top (0 : Int) (rfl) ?_
          refine lv_istore (lv' := [(5, .int (i32 (0 : Int))), (0, .ref (am 0)), (1, .int (i32 x1)), (2, .int (i32 x2)), (3, .int (i32 x3)), (4, .int (i32 x4))]) E.1 E.2.1 dX6_body_58 hl (by decide) rfl (fun ls hl => ?_)
          have key60 : ∀ (N : Nat) (n : Nat) (H : Heap) (locs : List Loc) (ls : Array Slot), ((S 8 0).toNat - n) < N → ((n : Int) ≤ S 8 0) → (alln (fwp S x1 x2) n = true) → zX D B0 (zj C (layM cA am S U)) s.heap H locs → lv_has ls 6 [(0, .ref (am 0)), (1, .int (i32 x1)), (2, .int (i32 x2)), (3, .int (i32 x3)), (4, .int (i32 x4)), (5, .int (i32 (n : Int)))] → W p l e rX6_body s m args below meth c H locs 0 0 Q (F0 m 60 ls []) := by
            intro N
            induction N with
            | zero => intros; omega
            | succ N ih60 =>
              intro n H locs ls hN hn hal X hl
              refine lv_iload E.1 E.2.1 dX6_body_60 (lv_at hl 5 rfl) ?_
              refine lv_aload_n E.1 E.2.1 dX6_body_62 rfl (lv_at hl 0 rfl) ?_
              refine z_get E X (lM_0 C cA am S U) rfl iX6 8 (by decide) (by decide +kernel) (v := .int (i32 (S 8 0))) rfl dX6_body_63 ?_
              refine z_cge E 109 ⟨by omega, by omega⟩ ⟨by omega, by omega⟩ dX6_body_66 (by decide) (fun h66_13 => ?_) (fun h66_13 => ?_)
              · refine lv_aload_n E.1 E.2.1 dX6_body_109 rfl (lv_at hl 0 rfl) ?_
                refine lv_iload_n E.1 E.2.1 dX6_body_110 rfl (lv_at hl 1 rfl) ?_
                refine z_put E X (lM_0 C cA am S U) rfl iX6 tyX6 tyX6_ok nmX6 1 (by decide) (by decide +kernel) rfl rfl rfl (Nat.le_of_ble_eq_true rfl) dX6_body_111 (fun H locs X => ?_)
                have X := mp_1 X
                refine lv_aload_n E.1 E.2.1 dX6_body_114 rfl (lv_at hl 0 rfl) ?_
                refine lv_iload_n E.1 E.2.1 dX6_body_115 rfl (lv_at hl 2 rfl) ?_
                refine z_put E X (lM_0 C cA am (zs S 1 0 x1) U) rfl iX6 tyX6 tyX6_ok nmX6 2 (by decide) (by decide +kernel) rfl rfl rfl (Nat.le_of_ble_eq_true rfl) dX6_body_116 (fun H locs X => ?_)
                have X := mp_2 X
                refine lv_aload_n E.1 E.2.1 dX6_body_119 rfl (lv_at hl 0 rfl) ?_
                refine lv_iload_n E.1 E.2.1 dX6_body_120 rfl (lv_at hl 3 rfl) ?_
                refine z_put E X (lM_0 C cA am (zs (zs S 1 0 x1) 2 0 x2) U) rfl iX6 tyX6 tyX6_ok nmX6 3 (by decide) (by decide +kernel) rfl rfl rfl (Nat.le_of_ble_eq_true rfl) dX6_body_121 (fun H locs X => ?_)
                have X := mp_3 X
                refine lv_aload_n E.1 E.2.1 dX6_body_124 rfl (lv_at hl 0 rfl) ?_
                refine lv_iload E.1 E.2.1 dX6_body_125 (lv_at hl 4 rfl) ?_
                refine z_put E X (lM_0 C cA am (zs (zs (zs S 1 0 x1) 2 0 x2) 3 0 x3) U) rfl iX6 tyX6 tyX6_ok nmX6 4 (by decide) (by decide +kernel) rfl rfl rfl (Nat.le_of_ble_eq_true rfl) dX6_body_127 (fun H locs X => ?_)
                have X := mp_4 X
                refine lv_aload_n E.1 E.2.1 dX6_body_130 rfl (lv_at hl 0 rfl) ?_
                refine z_iconst E dX6_body_131 ?_
                refine z_put E X (lM_0 C cA am (zs (zs (zs (zs S 1 0 x1) 2 0 x2) 3 0 x3) 4 0 x4) U) rfl iX6 tyX6 tyX6_ok nmX6 17 (by decide) (by decide +kernel) rfl (z_nb (by omega)).1 (z_nb (by omega)).2 (Nat.le_of_ble_eq_true rfl) dX6_body_132 (fun H locs X => ?_)
                have X := mp_17 X
                refine lv_aload_n E.1 E.2.1 dX6_body_135 rfl (lv_at hl 0 rfl) ?_
                refine z_callV (As := []) (rest := []) (n := 0) E X (lM_0 C cA am (zs (zs (zs (zs (zs S 1 0 x1) 2 0 x2) 3 0 x3) 4 0 x4) 17 0 0) U) rfl (m_unmake l D cA B0 C am (zs (zs (zs (zs (zs S 1 0 x1) 2 0 x2) 3 0 x3) 4 0 x4) 17 0 0) U) gX6_body_X6_unmake rfl (by decide +kernel) ⟨by decide, by decide⟩ rfl hl.1 rfl (Nat.le_of_ble_eq_true rfl) dX6_body_136 ⟨by decide, by decide⟩ X.1 0 0 ⟨rfl, rfl⟩ (fun v H locs hv hS_14 => ?_)
                have ev : v = none := hv.1
                subst ev
                obtain ⟨-, U_15, hU_15T, hU_15z, hw⟩ := hv
                replace X : zX D B0 (zj C (layM cA am (zs (zs (zs (zs (zs S 1 0 x1) 2 0 x2) 3 0 x3) 4 0 x4) 17 0 0) U_15)) s.heap H locs := ⟨hw, hS_14⟩
                refine lv_aload_n E.1 E.2.1 dX6_body_139 rfl (lv_at hl 0 rfl) ?_
                refine z_callV (As := []) (rest := []) (n := 0) E X (lM_0 C cA am (zs (zs (zs (zs (zs S 1 0 x1) 2 0 x2) 3 0 x3) 4 0 x4) 17 0 0) U_15) rfl (m_floor l D cA B0 C am (zs (zs (zs (zs (zs S 1 0 x1) 2 0 x2) 3 0 x3) 4 0 x4) 17 0 0) U_15 ) gX6_body_X6_floor rfl (by decide +kernel) ⟨by decide, by decide⟩ rfl hl.1 rfl (Nat.le_of_ble_eq_true rfl) dX6_body_140 ⟨by decide, by decide⟩ X.1 0 0 ⟨rfl, rfl⟩ (fun v H locs hv hS_16 => ?_)
                obtain ⟨rfl, hw⟩ := hv
                replace X : zX D B0 (zj C (layM cA am (zs (zs (zs (zs (zs S 1 0 x1) 2 0 x2) 3 0 x3) 4 0 x4) 17 0 0) U_15)) s.heap H locs := ⟨hw, hS_16⟩
                have ef : fBody S x1 x2 x3 x4 = (x1 + x2, zs (zs (zs (zs (zs S 1 0 x1) 2 0 x2) 3 0 x3) 4 0 x4) 17 0 0) := by
                  unfold fBody
                  rw [if_neg (by omega), show (S 8 0).toNat = n by omega, hal]
                  rfl
                exact z_ret E X hQ (⟨(congrArg (fun w => some (Value.int (i32 w.1))) ef).symm, U_15, by rw [ef]; exact MC_zero hU_15z, by rw [ef]; exact X.1⟩) dX6_body_143
              · have ht2 := hI.2.2.1 n (by omega)
                refine lv_aload_n E.1 E.2.1 dX6_body_69 rfl (lv_at hl 0 rfl) ?_
                refine z_get E X (lM_0 C cA am S U) rfl iX6 9 (by decide) (by decide +kernel) (v := .ref (am 9)) rfl dX6_body_70 ?_
                refine lv_iload E.1 E.2.1 dX6_body_73 (lv_at hl 5 rfl) ?_
                refine z_iald E X (lM_9 C cA am S U) n (by omega) (by omega) (by decide) dX6_body_75 ?_
                refine z_iconst E dX6_body_76 ?_
                refine z_ceq E 103 ⟨by omega, by omega⟩ ⟨by omega, by omega⟩ dX6_body_77 (by decide) (fun h77_17 => ?_) (fun h77_17 => ?_)
                · refine z_iinc (lv' := [(5, .int (i32 ((n + 1 : Nat) : Int))), (0, .ref (am 0)), (1, .int (i32 x1)), (2, .int (i32 x2)), (3, .int (i32 x3)), (4, .int (i32 x4))]) E dX6_body_103 hl (k := 5) rfl (by decide) rfl (fun ls hl => ?_)
                  refine lv_goto (tgt := 60) E.1 E.2.1 dX6_body_106 (by decide) ?_
                  exact ih60 (n + 1) _ _ _ (by omega) (by omega) (by rw [alln_S, hal, Bool.true_and]; exact decide_eq_true (by omega)) X (lv_sub hl [1, 2, 3, 4, 5, 0] rfl)
                · have hd12 := ht2.2.2.1 (by omega)
                  refine lv_aload_n E.1 E.2.1 dX6_body_80 rfl (lv_at hl 0 rfl) ?_
                  refine z_get E X (lM_0 C cA am S U) rfl iX6 12 (by decide) (by decide +kernel) (v := .ref (am 12)) rfl dX6_body_81 ?_
                  refine lv_iload E.1 E.2.1 dX6_body_84 (lv_at hl 5 rfl) ?_
                  refine z_iald E X (lM_12 C cA am S U) n (by omega) (by omega) (by decide) dX6_body_86 ?_
                  refine z_i2l E ⟨by omega, by omega⟩ dX6_body_87 ?_
                  refine lv_iload_n E.1 E.2.1 dX6_body_88 rfl (lv_at hl 1 rfl) ?_
                  refine z_i2l E ⟨by omega, by omega⟩ dX6_body_89 ?_
                  refine lv_iload_n E.1 E.2.1 dX6_body_90 rfl (lv_at hl 1 rfl) ?_
                  refine lv_iload_n E.1 E.2.1 dX6_body_91 rfl (lv_at hl 2 rfl) ?_
                  refine z_iadd E dX6_body_92 ?_
                  refine z_i2l E ⟨by omega, by omega⟩ dX6_body_93 ?_
                  refine z_callJ (As := [.long (i64 (S 12 n)), .long (i64 x1), .long (i64 (x1 + x2))]) (rest := []) (n := 3) E X (c_in l D cA B0 _ (S 12 n) x1 (x1 + x2) ⟨by omega, by omega⟩ ⟨by omega, by omega⟩ ⟨by omega, by omega⟩) gX6_body_X6_in rfl (by decide +kernel) ⟨by decide, by decide⟩ rfl hl.1 rfl (Nat.le_of_ble_eq_true rfl) dX6_body_94 ⟨by decide, by decide⟩ rfl 0 0 ⟨rfl, rfl⟩ (fun v H locs hv hS_18 => ?_)
                  obtain ⟨hH, z_19, rfl, ez_19⟩ := hv
                  subst hH
                  replace X := X.same hS_18
                  refine z_fne E 103 ⟨by omega, by omega⟩ dX6_body_97 (by decide) (fun h97_20 => ?_) (fun h97_20 => ?_)
                  · refine z_iinc (lv' := [(5, .int (i32 ((n + 1 : Nat) : Int))), (0, .ref (am 0)), (1, .int (i32 x1)), (2, .int (i32 x2)), (3, .int (i32 x3)), (4, .int (i32 x4))]) E dX6_body_103 hl (k := 5) rfl (by decide) rfl (fun ls hl => ?_)
                    refine lv_goto (tgt := 60) E.1 E.2.1 dX6_body_106 (by decide) ?_
                    exact ih60 (n + 1) _ _ _ (by omega) (by omega) (by rw [alln_S, hal, Bool.true_and]; exact decide_eq_true (by omega)) X (lv_sub hl [1, 2, 3, 4, 5, 0] rfl)
                  · refine z_bipush E dX6_body_100 (by decide +kernel) ?_
                    have ef : fBody S x1 x2 x3 x4 = (-3, S) := by
                      unfold fBody
                      rw [if_neg (by omega), alln_no (f := fwp S x1 x2) (n := n) (decide_eq_false (by omega)) (by omega)]
                      rfl
                    exact z_ret E X hQ (⟨(congrArg (fun w => some (Value.int (i32 w.1))) ef).symm, U, by rw [ef]; exact hC, by rw [ef]; exact X.1⟩) dX6_body_102
          exact key60 (((S 8 0).toNat - 0) + 1) 0 _ _ _ (by omega) (by omega) rfl X (lv_sub hl [1, 2, 3, 4, 5, 0] rfl)
        · refine z_bipush E dX6_body_54 (by decide +kernel) ?_
          have ef : fBody S x1 x2 x3 x4 = (-2, S) := by
            unfold fBody
            try simp only [Int.toNat_natCast]
            repeat' split
            all_goals first | rfl | (exfalso; omega)
          exact z_ret E X hQ (⟨(congrArg (fun w => some (Value.int (i32 w.1))) ef).symm, U, by rw [ef]; exact hC, by rw [ef]; exact X.1⟩) dX6_body_56

abbrev rX6_element : Room := { frames := 1, cells := 0, slots := 0, locals := 25 }
set_option maxHeartbeats 4000000 in
set_option maxRecDepth 100000 in
theorem M_element (l : Launch) (D : va_G) (cA : Nat → ClassId) (B0 : Nat) (C : zL) (am : Nat → Nat) (S U : zS) (hI : SI S) (hC : MC S U) (x1 : Int) (hx1 : zr x1) : zM l yX6_element wsX6_element rX6_element [.ref (am 0), .int (i32 x1)] D cA B0 (zW D B0 (zj C (layM cA am S U))) (fun v H => v = some (.int (i32 (fElement S x1).1)) ∧ ∃ U : zS, MC (fElement S x1).2 U ∧ zW D B0 (zj C (layM cA am (fElement S x1).2 U)) H) := by
  refine z_met (cc := cX6_element) (maxL := 2) (ret := (some .int)) (by decide) rfl (Nat.le_of_ble_eq_true rfl) ?_
  intro p e s m args below meth c ls Q hQ E hP hB hS hl
  have hl : lv_has ls 2 [(0, .ref (am 0)), (1, .int (i32 x1))] := hl
  have iX6 : ∀ w ∈ u_ws RX6 TX6 28, w ∈ wsX6_element := by decide +kernel
  have X : zX D B0 (zj C (layM cA am S U)) s.heap s.heap [] := ⟨hP, hS⟩
  have hI0 := hI.1
  unfold SI0 at hI0
  obtain ⟨b1, b2, b3, b4, b5, b8, b17, b19, b7⟩ := hI0
  unfold zr at hx1
  refine lv_aload_n E.1 E.2.1 dX6_element_0 rfl (lv_at hl 0 rfl) ?_
  refine z_iconst E dX6_element_1 ?_
  refine z_put E X (lM_0 C cA am S U) rfl iX6 tyX6 tyX6_ok nmX6 0 (by decide) (by decide +kernel) rfl rfl rfl (Nat.le_of_ble_eq_true rfl) dX6_element_2 (fun H locs X => ?_)
  have X := mp_0 X
  have hC : MC S (zs U 0 0 0) := MC_own hC
  generalize zs U 0 0 0 = U at X hC
  refine lv_iload_n E.1 E.2.1 dX6_element_5 rfl (lv_at hl 1 rfl) ?_
  refine z_i2l E ⟨by omega, by omega⟩ dX6_element_6 ?_
  refine z_lconst (z := 0) E dX6_element_7 (by decide +kernel) ?_
  refine z_ldc2 (v := 50) (z := 50) E (by decide +kernel) (by decide +kernel) dX6_element_8 ?_
  refine z_callJ (As := [.long (i64 x1), .long (i64 0), .long (i64 50)]) (rest := []) (n := 3) E X (c_in l D cA B0 _ x1 0 50 ⟨by omega, by omega⟩ ⟨by omega, by omega⟩ ⟨by omega, by omega⟩) gX6_element_X6_in rfl (by decide +kernel) ⟨by decide, by decide⟩ rfl hl.1 rfl (Nat.le_of_ble_eq_true rfl) dX6_element_11 ⟨by decide, by decide⟩ rfl 0 0 ⟨rfl, rfl⟩ (fun v H locs hv hS_1 => ?_)
  obtain ⟨hH, z_2, rfl, ez_2⟩ := hv
  subst hH
  replace X := X.same hS_1
  refine z_fne E 20 ⟨by omega, by omega⟩ dX6_element_14 (by decide) (fun h14_3 => ?_) (fun h14_3 => ?_)
  · refine lv_aload_n E.1 E.2.1 dX6_element_20 rfl (lv_at hl 0 rfl) ?_
    refine z_get E X (lM_0 C cA am S U) rfl iX6 5 (by decide) (by decide +kernel) (v := .int (i32 (S 5 0))) rfl dX6_element_21 ?_
    refine z_bipush E dX6_element_24 (by decide +kernel) ?_
    refine z_cne E 32 ⟨by omega, by omega⟩ ⟨by omega, by omega⟩ dX6_element_26 (by decide) (fun h26_4 => ?_) (fun h26_4 => ?_)
    · refine lv_aload_n E.1 E.2.1 dX6_element_32 rfl (lv_at hl 0 rfl) ?_
      refine z_get E X (lM_0 C cA am S U) rfl iX6 6 (by decide) (by decide +kernel) (v := .ref (am 6)) rfl dX6_element_33 ?_
      refine lv_aload_n E.1 E.2.1 dX6_element_36 rfl (lv_at hl 0 rfl) ?_
      refine z_get E X (lM_0 C cA am S U) rfl iX6 5 (by decide) (by decide +kernel) (v := .int (i32 (S 5 0))) rfl dX6_element_37 ?_
      refine z_top (((S 5 0).toNat : Nat) : Int) (by omega) ?_
      refine lv_iload_n E.1 E.2.1 dX6_element_40 rfl (lv_at hl 1 rfl) ?_
      refine z_iast E X (lM_6 C cA am S U) ((S 5 0).toNat) (by omega) (by omega) (by decide) dX6_element_41 (fun H locs X => ?_)
      have X := ma_6 X
      refine lv_aload_n E.1 E.2.1 dX6_element_42 rfl (lv_at hl 0 rfl) ?_
      refine z_get E X (lM_0 C cA am (zs S 6 ((S 5 0).toNat) x1) U) rfl iX6 7 (by decide) (by decide +kernel) (v := .ref (am 7)) rfl dX6_element_43 ?_
      refine lv_aload_n E.1 E.2.1 dX6_element_46 rfl (lv_at hl 0 rfl) ?_
      refine z_get E X (lM_0 C cA am (zs S 6 ((S 5 0).toNat) x1) U) rfl iX6 5 (by decide) (by decide +kernel) (v := .int (i32 (S 5 0))) rfl dX6_element_47 ?_
      refine z_top (((S 5 0).toNat : Nat) : Int) (by omega) ?_
      refine z_iconst E dX6_element_50 ?_
      refine z_zast E X (lM_7 C cA am (zs S 6 ((S 5 0).toNat) x1) U) (by omega) ((S 5 0).toNat) (by omega) (by omega) (by decide) dX6_element_51 (fun H locs X => ?_)
      have X := ma_7 X
      refine lv_aload_n E.1 E.2.1 dX6_element_52 rfl (lv_at hl 0 rfl) ?_
      refine lv_dup E.1 E.2.1 dX6_element_53 rfl ?_
      refine z_get E X (lM_0 C cA am (zs (zs S 6 ((S 5 0).toNat) x1) 7 ((S 5 0).toNat) 0) U) rfl iX6 5 (by decide) (by decide +kernel) (v := .int (i32 (S 5 0))) rfl dX6_element_54 ?_
      refine z_iconst E dX6_element_57 ?_
      refine z_iadd E dX6_element_58 ?_
      refine z_put E X (lM_0 C cA am (zs (zs S 6 ((S 5 0).toNat) x1) 7 ((S 5 0).toNat) 0) U) rfl iX6 tyX6 tyX6_ok nmX6 5 (by decide) (by decide +kernel) rfl rfl rfl (Nat.le_of_ble_eq_true rfl) dX6_element_59 (fun H locs X => ?_)
      have X := mp_5 X
      refine lv_aload_n E.1 E.2.1 dX6_element_62 rfl (lv_at hl 0 rfl) ?_
      refine z_iconst E dX6_element_63 ?_
      refine z_put E X (lM_0 C cA am (zs (zs (zs S 6 ((S 5 0).toNat) x1) 7 ((S 5 0).toNat) 0) 5 0 ((S 5 0) + 1)) U) rfl iX6 tyX6 tyX6_ok nmX6 17 (by decide) (by decide +kernel) rfl (z_nb (by omega)).1 (z_nb (by omega)).2 (Nat.le_of_ble_eq_true rfl) dX6_element_64 (fun H locs X => ?_)
      have X := mp_17 X
      refine lv_aload_n E.1 E.2.1 dX6_element_67 rfl (lv_at hl 0 rfl) ?_
      refine z_get E X (lM_0 C cA am (zs (zs (zs (zs S 6 ((S 5 0).toNat) x1) 7 ((S 5 0).toNat) 0) 5 0 ((S 5 0) + 1)) 17 0 0) U) rfl iX6 5 (by decide) (by decide +kernel) (v := .int (i32 ((S 5 0) + 1))) rfl dX6_element_68 ?_
      refine z_iconst E dX6_element_71 ?_
      refine z_isub E dX6_element_72 ?_
      refine z_top (S 5 0) (by omega) ?_
      have ef : fElement S x1 = (S 5 0, zs (zs (zs (zs S 6 ((S 5 0).toNat) x1) 7 ((S 5 0).toNat) 0) 5 0 ((S 5 0) + 1)) 17 0 0) := by
        unfold fElement
        try simp only [Int.toNat_natCast]
        repeat' split
        all_goals first | rfl | (exfalso; omega)
      exact z_ret E X hQ (⟨(congrArg (fun w => some (Value.int (i32 w.1))) ef).symm, U, by rw [ef]; exact MC_cong (S := S) rfl rfl rfl (by show S 5 0 ≤ S 5 0 + 1; omega) (fun j hj => by show zg (S 6) (S 5 0).toNat x1 j = S 6 j; exact zg_ne (by omega)) hC, by rw [ef]; exact X.1⟩) dX6_element_73
    · refine z_bipush E dX6_element_29 (by decide +kernel) ?_
      have ef : fElement S x1 = (-4, S) := by
        unfold fElement
        try simp only [Int.toNat_natCast]
        repeat' split
        all_goals first | rfl | (exfalso; omega)
      exact z_ret E X hQ (⟨(congrArg (fun w => some (Value.int (i32 w.1))) ef).symm, U, by rw [ef]; exact hC, by rw [ef]; exact X.1⟩) dX6_element_31
  · refine z_bipush E dX6_element_17 (by decide +kernel) ?_
    have ef : fElement S x1 = (-2, S) := by
      unfold fElement
      try simp only [Int.toNat_natCast]
      repeat' split
      all_goals first | rfl | (exfalso; omega)
    exact z_ret E X hQ (⟨(congrArg (fun w => some (Value.int (i32 w.1))) ef).symm, U, by rw [ef]; exact hC, by rw [ef]; exact X.1⟩) dX6_element_19

abbrev rX6_lose : Room := { frames := 2, cells := 0, slots := 0, locals := 46 }
set_option maxHeartbeats 4000000 in
set_option maxRecDepth 100000 in
theorem M_lose (l : Launch) (D : va_G) (cA : Nat → ClassId) (B0 : Nat) (C : zL) (am : Nat → Nat) (S U : zS) (hI : SI S) (hC : MC S U) (x1 x2 : Int) (hx1 : zr x1) (hx2 : x2 = 0 ∨ x2 = 1) : zM l yX6_lose wsX6_lose rX6_lose [.ref (am 0), .int (i32 x1), .int (i32 x2)] D cA B0 (zW D B0 (zj C (layM cA am S U))) (fun v H => v = some (.int (i32 (fLose S x1 x2).1)) ∧ ∃ U : zS, MC (fLose S x1 x2).2 U ∧ zW D B0 (zj C (layM cA am (fLose S x1 x2).2 U)) H) := by
  refine z_met (cc := cX6_lose) (maxL := 3) (ret := (some .int)) (by decide) rfl (Nat.le_of_ble_eq_true rfl) ?_
  intro p e s m args below meth c ls Q hQ E hP hB hS hl
  have hl : lv_has ls 3 [(0, .ref (am 0)), (1, .int (i32 x1)), (2, .int (i32 x2))] := hl
  have iX6 : ∀ w ∈ u_ws RX6 TX6 28, w ∈ wsX6_lose := by decide +kernel
  have X : zX D B0 (zj C (layM cA am S U)) s.heap s.heap [] := ⟨hP, hS⟩
  have hI0 := hI.1
  unfold SI0 at hI0
  obtain ⟨b1, b2, b3, b4, b5, b8, b17, b19, b7⟩ := hI0
  unfold zr at hx1
  refine lv_aload_n E.1 E.2.1 dX6_lose_0 rfl (lv_at hl 0 rfl) ?_
  refine z_iconst E dX6_lose_1 ?_
  refine z_put E X (lM_0 C cA am S U) rfl iX6 tyX6 tyX6_ok nmX6 0 (by decide) (by decide +kernel) rfl rfl rfl (Nat.le_of_ble_eq_true rfl) dX6_lose_2 (fun H locs X => ?_)
  have X := mp_0 X
  have hC : MC S (zs U 0 0 0) := MC_own hC
  generalize zs U 0 0 0 = U at X hC
  refine lv_aload_n E.1 E.2.1 dX6_lose_5 rfl (lv_at hl 0 rfl) ?_
  refine lv_iload_n E.1 E.2.1 dX6_lose_6 rfl (lv_at hl 1 rfl) ?_
  refine z_callV (As := [.int (i32 x1)]) (rest := []) (n := 1) E X (lM_0 C cA am S U) rfl (m_noElement l D cA B0 C am S U hI.1 x1 ⟨by omega, by omega⟩) gX6_lose_X6_noElement rfl (by decide +kernel) ⟨by decide, by decide⟩ rfl hl.1 rfl (Nat.le_of_ble_eq_true rfl) dX6_lose_7 ⟨by decide, by decide⟩ X.1 0 0 ⟨rfl, rfl⟩ (fun v H locs hv hS_1 => ?_)
  obtain ⟨⟨z_2, rfl, ez_2⟩, hw⟩ := hv
  replace X : zX D B0 (zj C (layM cA am S U)) s.heap H locs := ⟨hw, hS_1⟩
  refine z_feq E 15 ⟨by omega, by omega⟩ dX6_lose_10 (by decide) (fun h10_3 => ?_) (fun h10_3 => ?_)
  · obtain ⟨ea, rfl⟩ : ∃ ea : Nat, x1 = (ea : Int) := ⟨x1.toNat, by omega⟩
    refine lv_aload_n E.1 E.2.1 dX6_lose_15 rfl (lv_at hl 0 rfl) ?_
    refine z_get E X (lM_0 C cA am S U) rfl iX6 7 (by decide) (by decide +kernel) (v := .ref (am 7)) rfl dX6_lose_16 ?_
    refine lv_iload_n E.1 E.2.1 dX6_lose_19 rfl (lv_at hl 1 rfl) ?_
    refine lv_iload_n E.1 E.2.1 dX6_lose_20 rfl (lv_at hl 2 rfl) ?_
    refine z_zast E X (lM_7 C cA am S U) (by omega) ea (by omega) (by omega) (by decide) dX6_lose_21 (fun H locs X => ?_)
    have X := ma_7 X
    refine lv_aload_n E.1 E.2.1 dX6_lose_22 rfl (lv_at hl 0 rfl) ?_
    refine z_iconst E dX6_lose_23 ?_
    refine z_put E X (lM_0 C cA am (zs S 7 ea x2) U) rfl iX6 tyX6 tyX6_ok nmX6 17 (by decide) (by decide +kernel) rfl (z_nb (by omega)).1 (z_nb (by omega)).2 (Nat.le_of_ble_eq_true rfl) dX6_lose_24 (fun H locs X => ?_)
    have X := mp_17 X
    refine lv_aload_n E.1 E.2.1 dX6_lose_27 rfl (lv_at hl 0 rfl) ?_
    have hI0 := SI0_lose (q := ea) (z := x2) hI.1 hx2
    refine z_callV (As := []) (rest := []) (n := 0) E X (lM_0 C cA am (zs (zs S 7 ea x2) 17 0 0) U) rfl (m_working l D cA B0 C am (zs (zs S 7 ea x2) 17 0 0) U hI0) gX6_lose_X6_working rfl (by decide +kernel) ⟨by decide, by decide⟩ rfl hl.1 rfl (Nat.le_of_ble_eq_true rfl) dX6_lose_28 ⟨by decide, by decide⟩ X.1 0 0 ⟨rfl, rfl⟩ (fun v H locs hv hS_4 => ?_)
    obtain ⟨rfl, hw⟩ := hv
    replace X : zX D B0 (zj C (layM cA am (zs (zs S 7 ea x2) 17 0 0) U)) s.heap H locs := ⟨hw, hS_4⟩
    have f_5 := WK_rng (S := zs (zs S 7 ea x2) 17 0 0) hI0
    refine z_top (WK (zs (zs S 7 ea x2) 17 0 0)) rfl ?_
    have ef : fLose S (ea : Int) x2 = (WK (zs (zs S 7 ea x2) 17 0 0), zs (zs S 7 ea x2) 17 0 0) := by
      unfold fLose
      try simp only [Int.toNat_natCast]
      repeat' split
      all_goals first | rfl | (exfalso; omega)
    exact z_ret E X hQ (⟨(congrArg (fun w => some (Value.int (i32 w.1))) ef).symm, U, by rw [ef]; exact MC_cong (S := S) rfl rfl rfl (Int.le_refl _) (fun _ _ => rfl) hC, by rw [ef]; exact X.1⟩) dX6_lose_31
  · refine z_iconst E dX6_lose_13 ?_
    have ef : fLose S x1 x2 = (-1, S) := by
      unfold fLose
      try simp only [Int.toNat_natCast]
      repeat' split
      all_goals first | rfl | (exfalso; omega)
    exact z_ret E X hQ (⟨(congrArg (fun w => some (Value.int (i32 w.1))) ef).symm, U, by rw [ef]; exact hC, by rw [ef]; exact X.1⟩) dX6_lose_14

abbrev rX6_target : Room := { frames := 2, cells := 0, slots := 0, locals := 47 }
set_option maxHeartbeats 4000000 in
set_option maxRecDepth 100000 in
theorem M_target (l : Launch) (D : va_G) (cA : Nat → ClassId) (B0 : Nat) (C : zL) (am : Nat → Nat) (S U : zS) (hI : SI S) (hC : MC S U) (x1 x2 x3 x4 x5 : Int) (hx1 : zr x1) (hx2 : zr x2) (hx3 : zr x3) (hx4 : zr x4) (hx5 : zr x5) : zM l yX6_target wsX6_target rX6_target [.ref (am 0), .int (i32 x1), .int (i32 x2), .int (i32 x3), .int (i32 x4), .int (i32 x5)] D cA B0 (zW D B0 (zj C (layM cA am S U))) (fun v H => v = some (.int (i32 (fTarget S x1 x2 x3 x4 x5).1)) ∧ ∃ U : zS, MC (fTarget S x1 x2 x3 x4 x5).2 U ∧ zW D B0 (zj C (layM cA am (fTarget S x1 x2 x3 x4 x5).2 U)) H) := by
  refine z_met (cc := cX6_target) (maxL := 6) (ret := (some .int)) (by decide) rfl (Nat.le_of_ble_eq_true rfl) ?_
  intro p e s m args below meth c ls Q hQ E hP hB hS hl
  have hl : lv_has ls 6 [(0, .ref (am 0)), (1, .int (i32 x1)), (2, .int (i32 x2)), (3, .int (i32 x3)), (4, .int (i32 x4)), (5, .int (i32 x5))] := hl
  have iX6 : ∀ w ∈ u_ws RX6 TX6 28, w ∈ wsX6_target := by decide +kernel
  have X : zX D B0 (zj C (layM cA am S U)) s.heap s.heap [] := ⟨hP, hS⟩
  have hI0 := hI.1
  unfold SI0 at hI0
  obtain ⟨b1, b2, b3, b4, b5, b8, b17, b19, b7⟩ := hI0
  unfold zr at hx1 hx2 hx3 hx4 hx5
  refine lv_aload_n E.1 E.2.1 dX6_target_0 rfl (lv_at hl 0 rfl) ?_
  refine z_iconst E dX6_target_1 ?_
  refine z_put E X (lM_0 C cA am S U) rfl iX6 tyX6 tyX6_ok nmX6 0 (by decide) (by decide +kernel) rfl rfl rfl (Nat.le_of_ble_eq_true rfl) dX6_target_2 (fun H locs X => ?_)
  have X := mp_0 X
  have hC : MC S (zs U 0 0 0) := MC_own hC
  generalize zs U 0 0 0 = U at X hC
  refine lv_iload_n E.1 E.2.1 dX6_target_5 rfl (lv_at hl 1 rfl) ?_
  refine z_i2l E ⟨by omega, by omega⟩ dX6_target_6 ?_
  refine z_lconst (z := 0) E dX6_target_7 (by decide +kernel) ?_
  refine z_ldc2 (v := 2) (z := 2) E (by decide +kernel) (by decide +kernel) dX6_target_8 ?_
  refine z_callJ (As := [.long (i64 x1), .long (i64 0), .long (i64 2)]) (rest := []) (n := 3) E X (c_in l D cA B0 _ x1 0 2 ⟨by omega, by omega⟩ ⟨by omega, by omega⟩ ⟨by omega, by omega⟩) gX6_target_X6_in rfl (by decide +kernel) ⟨by decide, by decide⟩ rfl hl.1 rfl (Nat.le_of_ble_eq_true rfl) dX6_target_11 ⟨by decide, by decide⟩ rfl 0 0 ⟨rfl, rfl⟩ (fun v H locs hv hS_1 => ?_)
  obtain ⟨hH, z_2, rfl, ez_2⟩ := hv
  subst hH
  replace X := X.same hS_1
  refine z_feq E 65 ⟨by omega, by omega⟩ dX6_target_14 (by decide) (fun h14_3 => ?_) (fun h14_3 => ?_)
  · refine z_bipush E dX6_target_65 (by decide +kernel) ?_
    have ef : fTarget S x1 x2 x3 x4 x5 = (-2, S) := by
      unfold fTarget
      try simp only [Int.toNat_natCast]
      repeat' split
      all_goals first | rfl | (exfalso; omega)
    exact z_ret E X hQ (⟨(congrArg (fun w => some (Value.int (i32 w.1))) ef).symm, U, by rw [ef]; exact hC, by rw [ef]; exact X.1⟩) dX6_target_67
  · refine lv_iload_n E.1 E.2.1 dX6_target_17 rfl (lv_at hl 1 rfl) ?_
    refine z_iconst E dX6_target_18 ?_
    refine z_cge E 32 ⟨by omega, by omega⟩ ⟨by omega, by omega⟩ dX6_target_19 (by decide) (fun h19_4 => ?_) (fun h19_4 => ?_)
    · refine lv_iload_n E.1 E.2.1 dX6_target_32 rfl (lv_at hl 1 rfl) ?_
      refine z_iconst E dX6_target_33 ?_
      refine z_cne E 50 ⟨by omega, by omega⟩ ⟨by omega, by omega⟩ dX6_target_34 (by decide) (fun h34_5 => ?_) (fun h34_5 => ?_)
      · refine lv_iload E.1 E.2.1 dX6_target_50 (lv_at hl 5 rfl) ?_
        refine z_i2l E ⟨by omega, by omega⟩ dX6_target_52 ?_
        refine z_ldc2 (v := (-1000)) (z := -1000) E (by decide +kernel) (by decide +kernel) dX6_target_53 ?_
        refine z_ldc2 (v := 1000) (z := 1000) E (by decide +kernel) (by decide +kernel) dX6_target_56 ?_
        refine z_callJ (As := [.long (i64 x5), .long (i64 (-1000)), .long (i64 1000)]) (rest := []) (n := 3) E X (c_in l D cA B0 _ x5 (-1000) 1000 ⟨by omega, by omega⟩ ⟨by omega, by omega⟩ ⟨by omega, by omega⟩) gX6_target_X6_in rfl (by decide +kernel) ⟨by decide, by decide⟩ rfl hl.1 rfl (Nat.le_of_ble_eq_true rfl) dX6_target_59 ⟨by decide, by decide⟩ rfl 0 0 ⟨rfl, rfl⟩ (fun v H locs hv hS_6 => ?_)
        obtain ⟨hH, z_7, rfl, ez_7⟩ := hv
        subst hH
        replace X := X.same hS_6
        refine z_fne E 68 ⟨by omega, by omega⟩ dX6_target_62 (by decide) (fun h62_8 => ?_) (fun h62_8 => ?_)
        · refine lv_aload_n E.1 E.2.1 dX6_target_68 rfl (lv_at hl 0 rfl) ?_
          refine z_get E X (lM_0 C cA am S U) rfl iX6 8 (by decide) (by decide +kernel) (v := .int (i32 (S 8 0))) rfl dX6_target_69 ?_
          refine z_bipush E dX6_target_72 (by decide +kernel) ?_
          refine z_cne E 80 ⟨by omega, by omega⟩ ⟨by omega, by omega⟩ dX6_target_74 (by decide) (fun h74_9 => ?_) (fun h74_9 => ?_)
          · refine lv_aload_n E.1 E.2.1 dX6_target_80 rfl (lv_at hl 0 rfl) ?_
            refine z_get E X (lM_0 C cA am S U) rfl iX6 9 (by decide) (by decide +kernel) (v := .ref (am 9)) rfl dX6_target_81 ?_
            refine lv_aload_n E.1 E.2.1 dX6_target_84 rfl (lv_at hl 0 rfl) ?_
            refine z_get E X (lM_0 C cA am S U) rfl iX6 8 (by decide) (by decide +kernel) (v := .int (i32 (S 8 0))) rfl dX6_target_85 ?_
            refine z_top (((S 8 0).toNat : Nat) : Int) (by omega) ?_
            refine lv_iload_n E.1 E.2.1 dX6_target_88 rfl (lv_at hl 1 rfl) ?_
            refine z_iast E X (lM_9 C cA am S U) ((S 8 0).toNat) (by omega) (by omega) (by decide) dX6_target_89 (fun H locs X => ?_)
            have X := ma_9 X
            refine lv_aload_n E.1 E.2.1 dX6_target_90 rfl (lv_at hl 0 rfl) ?_
            refine z_get E X (lM_0 C cA am (zs S 9 ((S 8 0).toNat) x1) U) rfl iX6 10 (by decide) (by decide +kernel) (v := .ref (am 10)) rfl dX6_target_91 ?_
            refine lv_aload_n E.1 E.2.1 dX6_target_94 rfl (lv_at hl 0 rfl) ?_
            refine z_get E X (lM_0 C cA am (zs S 9 ((S 8 0).toNat) x1) U) rfl iX6 8 (by decide) (by decide +kernel) (v := .int (i32 (S 8 0))) rfl dX6_target_95 ?_
            refine z_top (((S 8 0).toNat : Nat) : Int) (by omega) ?_
            refine lv_iload_n E.1 E.2.1 dX6_target_98 rfl (lv_at hl 1 rfl) ?_
            refine z_iconst E dX6_target_99 ?_
            refine z_cne E 107 ⟨by omega, by omega⟩ ⟨by omega, by omega⟩ dX6_target_100 (by decide) (fun h100_10 => ?_) (fun h100_10 => ?_)
            · refine lv_iload_n E.1 E.2.1 dX6_target_107 rfl (lv_at hl 2 rfl) ?_
              refine z_iast E X (lM_10 C cA am (zs S 9 ((S 8 0).toNat) x1) U) ((S 8 0).toNat) (by omega) (by omega) (by decide) dX6_target_108 (fun H locs X => ?_)
              have X := ma_10 X
              refine lv_aload_n E.1 E.2.1 dX6_target_109 rfl (lv_at hl 0 rfl) ?_
              refine z_get E X (lM_0 C cA am (zs (zs S 9 ((S 8 0).toNat) x1) 10 ((S 8 0).toNat) x2) U) rfl iX6 11 (by decide) (by decide +kernel) (v := .ref (am 11)) rfl dX6_target_110 ?_
              refine lv_aload_n E.1 E.2.1 dX6_target_113 rfl (lv_at hl 0 rfl) ?_
              refine z_get E X (lM_0 C cA am (zs (zs S 9 ((S 8 0).toNat) x1) 10 ((S 8 0).toNat) x2) U) rfl iX6 8 (by decide) (by decide +kernel) (v := .int (i32 (S 8 0))) rfl dX6_target_114 ?_
              refine z_top (((S 8 0).toNat : Nat) : Int) (by omega) ?_
              refine lv_iload_n E.1 E.2.1 dX6_target_117 rfl (lv_at hl 1 rfl) ?_
              refine z_iconst E dX6_target_118 ?_
              refine z_cne E 127 ⟨by omega, by omega⟩ ⟨by omega, by omega⟩ dX6_target_119 (by decide) (fun h119_11 => ?_) (fun h119_11 => ?_)
              · refine lv_iload_n E.1 E.2.1 dX6_target_127 rfl (lv_at hl 1 rfl) ?_
                refine z_iconst E dX6_target_128 ?_
                refine z_cne E 136 ⟨by omega, by omega⟩ ⟨by omega, by omega⟩ dX6_target_129 (by decide) (fun h129_12 => ?_) (fun h129_12 => ?_)
                · refine lv_iload_n E.1 E.2.1 dX6_target_136 rfl (lv_at hl 2 rfl) ?_
                  refine z_iast E X (lM_11 C cA am (zs (zs S 9 ((S 8 0).toNat) x1) 10 ((S 8 0).toNat) x2) U) ((S 8 0).toNat) (by omega) (by omega) (by decide) dX6_target_137 (fun H locs X => ?_)
                  have X := ma_11 X
                  refine lv_aload_n E.1 E.2.1 dX6_target_138 rfl (lv_at hl 0 rfl) ?_
                  refine z_get E X (lM_0 C cA am (zs (zs (zs S 9 ((S 8 0).toNat) x1) 10 ((S 8 0).toNat) x2) 11 ((S 8 0).toNat) x2) U) rfl iX6 12 (by decide) (by decide +kernel) (v := .ref (am 12)) rfl dX6_target_139 ?_
                  refine lv_aload_n E.1 E.2.1 dX6_target_142 rfl (lv_at hl 0 rfl) ?_
                  refine z_get E X (lM_0 C cA am (zs (zs (zs S 9 ((S 8 0).toNat) x1) 10 ((S 8 0).toNat) x2) 11 ((S 8 0).toNat) x2) U) rfl iX6 8 (by decide) (by decide +kernel) (v := .int (i32 (S 8 0))) rfl dX6_target_143 ?_
                  refine z_top (((S 8 0).toNat : Nat) : Int) (by omega) ?_
                  refine lv_iload E.1 E.2.1 dX6_target_146 (lv_at hl 4 rfl) ?_
                  refine z_iast E X (lM_12 C cA am (zs (zs (zs S 9 ((S 8 0).toNat) x1) 10 ((S 8 0).toNat) x2) 11 ((S 8 0).toNat) x2) U) ((S 8 0).toNat) (by omega) (by omega) (by decide) dX6_target_148 (fun H locs X => ?_)
                  have X := ma_12 X
                  refine lv_aload_n E.1 E.2.1 dX6_target_149 rfl (lv_at hl 0 rfl) ?_
                  refine z_get E X (lM_0 C cA am (zs (zs (zs (zs S 9 ((S 8 0).toNat) x1) 10 ((S 8 0).toNat) x2) 11 ((S 8 0).toNat) x2) 12 ((S 8 0).toNat) x4) U) rfl iX6 13 (by decide) (by decide +kernel) (v := .ref (am 13)) rfl dX6_target_150 ?_
                  refine lv_aload_n E.1 E.2.1 dX6_target_153 rfl (lv_at hl 0 rfl) ?_
                  refine z_get E X (lM_0 C cA am (zs (zs (zs (zs S 9 ((S 8 0).toNat) x1) 10 ((S 8 0).toNat) x2) 11 ((S 8 0).toNat) x2) 12 ((S 8 0).toNat) x4) U) rfl iX6 8 (by decide) (by decide +kernel) (v := .int (i32 (S 8 0))) rfl dX6_target_154 ?_
                  refine z_top (((S 8 0).toNat : Nat) : Int) (by omega) ?_
                  refine lv_iload E.1 E.2.1 dX6_target_157 (lv_at hl 5 rfl) ?_
                  refine z_iast E X (lM_13 C cA am (zs (zs (zs (zs S 9 ((S 8 0).toNat) x1) 10 ((S 8 0).toNat) x2) 11 ((S 8 0).toNat) x2) 12 ((S 8 0).toNat) x4) U) ((S 8 0).toNat) (by omega) (by omega) (by decide) dX6_target_159 (fun H locs X => ?_)
                  have X := ma_13 X
                  refine lv_aload_n E.1 E.2.1 dX6_target_160 rfl (lv_at hl 0 rfl) ?_
                  refine lv_dup E.1 E.2.1 dX6_target_161 rfl ?_
                  refine z_get E X (lM_0 C cA am (zs (zs (zs (zs (zs S 9 ((S 8 0).toNat) x1) 10 ((S 8 0).toNat) x2) 11 ((S 8 0).toNat) x2) 12 ((S 8 0).toNat) x4) 13 ((S 8 0).toNat) x5) U) rfl iX6 8 (by decide) (by decide +kernel) (v := .int (i32 (S 8 0))) rfl dX6_target_162 ?_
                  refine z_iconst E dX6_target_165 ?_
                  refine z_iadd E dX6_target_166 ?_
                  refine z_put E X (lM_0 C cA am (zs (zs (zs (zs (zs S 9 ((S 8 0).toNat) x1) 10 ((S 8 0).toNat) x2) 11 ((S 8 0).toNat) x2) 12 ((S 8 0).toNat) x4) 13 ((S 8 0).toNat) x5) U) rfl iX6 tyX6 tyX6_ok nmX6 8 (by decide) (by decide +kernel) rfl rfl rfl (Nat.le_of_ble_eq_true rfl) dX6_target_167 (fun H locs X => ?_)
                  have X := mp_8 X
                  refine lv_aload_n E.1 E.2.1 dX6_target_170 rfl (lv_at hl 0 rfl) ?_
                  refine z_get E X (lM_0 C cA am (zs (zs (zs (zs (zs (zs S 9 ((S 8 0).toNat) x1) 10 ((S 8 0).toNat) x2) 11 ((S 8 0).toNat) x2) 12 ((S 8 0).toNat) x4) 13 ((S 8 0).toNat) x5) 8 0 ((S 8 0) + 1)) U) rfl iX6 8 (by decide) (by decide +kernel) (v := .int (i32 ((S 8 0) + 1))) rfl dX6_target_171 ?_
                  refine z_iconst E dX6_target_174 ?_
                  refine z_isub E dX6_target_175 ?_
                  refine z_top (S 8 0) (by omega) ?_
                  have ef : fTarget S x1 x2 x3 x4 x5 = (S 8 0, zs (zs (zs (zs (zs (zs S 9 ((S 8 0).toNat) x1) 10 ((S 8 0).toNat) x2) 11 ((S 8 0).toNat) x2) 12 ((S 8 0).toNat) x4) 13 ((S 8 0).toNat) x5) 8 0 ((S 8 0) + 1)) := by
                    unfold fTarget
                    try simp only [Int.toNat_natCast]
                    repeat' split
                    all_goals first | rfl | (exfalso; omega)
                  exact z_ret E X hQ (⟨(congrArg (fun w => some (Value.int (i32 w.1))) ef).symm, U, by rw [ef]; exact MC_cong (S := S) rfl rfl rfl (Int.le_refl _) (fun _ _ => rfl) hC, by rw [ef]; exact X.1⟩) dX6_target_176
                · refine lv_iload_n E.1 E.2.1 dX6_target_132 rfl (lv_at hl 3 rfl) ?_
                  refine lv_goto (tgt := 137) E.1 E.2.1 dX6_target_133 (by decide) ?_
                  refine z_iast E X (lM_11 C cA am (zs (zs S 9 ((S 8 0).toNat) x1) 10 ((S 8 0).toNat) x2) U) ((S 8 0).toNat) (by omega) (by omega) (by decide) dX6_target_137 (fun H locs X => ?_)
                  have X := ma_11 X
                  refine lv_aload_n E.1 E.2.1 dX6_target_138 rfl (lv_at hl 0 rfl) ?_
                  refine z_get E X (lM_0 C cA am (zs (zs (zs S 9 ((S 8 0).toNat) x1) 10 ((S 8 0).toNat) x2) 11 ((S 8 0).toNat) x3) U) rfl iX6 12 (by decide) (by decide +kernel) (v := .ref (am 12)) rfl dX6_target_139 ?_
                  refine lv_aload_n E.1 E.2.1 dX6_target_142 rfl (lv_at hl 0 rfl) ?_
                  refine z_get E X (lM_0 C cA am (zs (zs (zs S 9 ((S 8 0).toNat) x1) 10 ((S 8 0).toNat) x2) 11 ((S 8 0).toNat) x3) U) rfl iX6 8 (by decide) (by decide +kernel) (v := .int (i32 (S 8 0))) rfl dX6_target_143 ?_
                  refine z_top (((S 8 0).toNat : Nat) : Int) (by omega) ?_
                  refine lv_iload E.1 E.2.1 dX6_target_146 (lv_at hl 4 rfl) ?_
                  refine z_iast E X (lM_12 C cA am (zs (zs (zs S 9 ((S 8 0).toNat) x1) 10 ((S 8 0).toNat) x2) 11 ((S 8 0).toNat) x3) U) ((S 8 0).toNat) (by omega) (by omega) (by decide) dX6_target_148 (fun H locs X => ?_)
                  have X := ma_12 X
                  refine lv_aload_n E.1 E.2.1 dX6_target_149 rfl (lv_at hl 0 rfl) ?_
                  refine z_get E X (lM_0 C cA am (zs (zs (zs (zs S 9 ((S 8 0).toNat) x1) 10 ((S 8 0).toNat) x2) 11 ((S 8 0).toNat) x3) 12 ((S 8 0).toNat) x4) U) rfl iX6 13 (by decide) (by decide +kernel) (v := .ref (am 13)) rfl dX6_target_150 ?_
                  refine lv_aload_n E.1 E.2.1 dX6_target_153 rfl (lv_at hl 0 rfl) ?_
                  refine z_get E X (lM_0 C cA am (zs (zs (zs (zs S 9 ((S 8 0).toNat) x1) 10 ((S 8 0).toNat) x2) 11 ((S 8 0).toNat) x3) 12 ((S 8 0).toNat) x4) U) rfl iX6 8 (by decide) (by decide +kernel) (v := .int (i32 (S 8 0))) rfl dX6_target_154 ?_
                  refine z_top (((S 8 0).toNat : Nat) : Int) (by omega) ?_
                  refine lv_iload E.1 E.2.1 dX6_target_157 (lv_at hl 5 rfl) ?_
                  refine z_iast E X (lM_13 C cA am (zs (zs (zs (zs S 9 ((S 8 0).toNat) x1) 10 ((S 8 0).toNat) x2) 11 ((S 8 0).toNat) x3) 12 ((S 8 0).toNat) x4) U) ((S 8 0).toNat) (by omega) (by omega) (by decide) dX6_target_159 (fun H locs X => ?_)
                  have X := ma_13 X
                  refine lv_aload_n E.1 E.2.1 dX6_target_160 rfl (lv_at hl 0 rfl) ?_
                  refine lv_dup E.1 E.2.1 dX6_target_161 rfl ?_
                  refine z_get E X (lM_0 C cA am (zs (zs (zs (zs (zs S 9 ((S 8 0).toNat) x1) 10 ((S 8 0).toNat) x2) 11 ((S 8 0).toNat) x3) 12 ((S 8 0).toNat) x4) 13 ((S 8 0).toNat) x5) U) rfl iX6 8 (by decide) (by decide +kernel) (v := .int (i32 (S 8 0))) rfl dX6_target_162 ?_
                  refine z_iconst E dX6_target_165 ?_
                  refine z_iadd E dX6_target_166 ?_
                  refine z_put E X (lM_0 C cA am (zs (zs (zs (zs (zs S 9 ((S 8 0).toNat) x1) 10 ((S 8 0).toNat) x2) 11 ((S 8 0).toNat) x3) 12 ((S 8 0).toNat) x4) 13 ((S 8 0).toNat) x5) U) rfl iX6 tyX6 tyX6_ok nmX6 8 (by decide) (by decide +kernel) rfl rfl rfl (Nat.le_of_ble_eq_true rfl) dX6_target_167 (fun H locs X => ?_)
                  have X := mp_8 X
                  refine lv_aload_n E.1 E.2.1 dX6_target_170 rfl (lv_at hl 0 rfl) ?_
                  refine z_get E X (lM_0 C cA am (zs (zs (zs (zs (zs (zs S 9 ((S 8 0).toNat) x1) 10 ((S 8 0).toNat) x2) 11 ((S 8 0).toNat) x3) 12 ((S 8 0).toNat) x4) 13 ((S 8 0).toNat) x5) 8 0 ((S 8 0) + 1)) U) rfl iX6 8 (by decide) (by decide +kernel) (v := .int (i32 ((S 8 0) + 1))) rfl dX6_target_171 ?_
                  refine z_iconst E dX6_target_174 ?_
                  refine z_isub E dX6_target_175 ?_
                  refine z_top (S 8 0) (by omega) ?_
                  have ef : fTarget S x1 x2 x3 x4 x5 = (S 8 0, zs (zs (zs (zs (zs (zs S 9 ((S 8 0).toNat) x1) 10 ((S 8 0).toNat) x2) 11 ((S 8 0).toNat) x3) 12 ((S 8 0).toNat) x4) 13 ((S 8 0).toNat) x5) 8 0 ((S 8 0) + 1)) := by
                    unfold fTarget
                    try simp only [Int.toNat_natCast]
                    repeat' split
                    all_goals first | rfl | (exfalso; omega)
                  exact z_ret E X hQ (⟨(congrArg (fun w => some (Value.int (i32 w.1))) ef).symm, U, by rw [ef]; exact MC_cong (S := S) rfl rfl rfl (Int.le_refl _) (fun _ _ => rfl) hC, by rw [ef]; exact X.1⟩) dX6_target_176
              · refine z_bipush E dX6_target_122 (by decide +kernel) ?_
                refine lv_goto (tgt := 137) E.1 E.2.1 dX6_target_124 (by decide) ?_
                refine z_iast E X (lM_11 C cA am (zs (zs S 9 ((S 8 0).toNat) x1) 10 ((S 8 0).toNat) x2) U) ((S 8 0).toNat) (by omega) (by omega) (by decide) dX6_target_137 (fun H locs X => ?_)
                have X := ma_11 X
                refine lv_aload_n E.1 E.2.1 dX6_target_138 rfl (lv_at hl 0 rfl) ?_
                refine z_get E X (lM_0 C cA am (zs (zs (zs S 9 ((S 8 0).toNat) x1) 10 ((S 8 0).toNat) x2) 11 ((S 8 0).toNat) 50) U) rfl iX6 12 (by decide) (by decide +kernel) (v := .ref (am 12)) rfl dX6_target_139 ?_
                refine lv_aload_n E.1 E.2.1 dX6_target_142 rfl (lv_at hl 0 rfl) ?_
                refine z_get E X (lM_0 C cA am (zs (zs (zs S 9 ((S 8 0).toNat) x1) 10 ((S 8 0).toNat) x2) 11 ((S 8 0).toNat) 50) U) rfl iX6 8 (by decide) (by decide +kernel) (v := .int (i32 (S 8 0))) rfl dX6_target_143 ?_
                refine z_top (((S 8 0).toNat : Nat) : Int) (by omega) ?_
                refine lv_iload E.1 E.2.1 dX6_target_146 (lv_at hl 4 rfl) ?_
                refine z_iast E X (lM_12 C cA am (zs (zs (zs S 9 ((S 8 0).toNat) x1) 10 ((S 8 0).toNat) x2) 11 ((S 8 0).toNat) 50) U) ((S 8 0).toNat) (by omega) (by omega) (by decide) dX6_target_148 (fun H locs X => ?_)
                have X := ma_12 X
                refine lv_aload_n E.1 E.2.1 dX6_target_149 rfl (lv_at hl 0 rfl) ?_
                refine z_get E X (lM_0 C cA am (zs (zs (zs (zs S 9 ((S 8 0).toNat) x1) 10 ((S 8 0).toNat) x2) 11 ((S 8 0).toNat) 50) 12 ((S 8 0).toNat) x4) U) rfl iX6 13 (by decide) (by decide +kernel) (v := .ref (am 13)) rfl dX6_target_150 ?_
                refine lv_aload_n E.1 E.2.1 dX6_target_153 rfl (lv_at hl 0 rfl) ?_
                refine z_get E X (lM_0 C cA am (zs (zs (zs (zs S 9 ((S 8 0).toNat) x1) 10 ((S 8 0).toNat) x2) 11 ((S 8 0).toNat) 50) 12 ((S 8 0).toNat) x4) U) rfl iX6 8 (by decide) (by decide +kernel) (v := .int (i32 (S 8 0))) rfl dX6_target_154 ?_
                refine z_top (((S 8 0).toNat : Nat) : Int) (by omega) ?_
                refine lv_iload E.1 E.2.1 dX6_target_157 (lv_at hl 5 rfl) ?_
                refine z_iast E X (lM_13 C cA am (zs (zs (zs (zs S 9 ((S 8 0).toNat) x1) 10 ((S 8 0).toNat) x2) 11 ((S 8 0).toNat) 50) 12 ((S 8 0).toNat) x4) U) ((S 8 0).toNat) (by omega) (by omega) (by decide) dX6_target_159 (fun H locs X => ?_)
                have X := ma_13 X
                refine lv_aload_n E.1 E.2.1 dX6_target_160 rfl (lv_at hl 0 rfl) ?_
                refine lv_dup E.1 E.2.1 dX6_target_161 rfl ?_
                refine z_get E X (lM_0 C cA am (zs (zs (zs (zs (zs S 9 ((S 8 0).toNat) x1) 10 ((S 8 0).toNat) x2) 11 ((S 8 0).toNat) 50) 12 ((S 8 0).toNat) x4) 13 ((S 8 0).toNat) x5) U) rfl iX6 8 (by decide) (by decide +kernel) (v := .int (i32 (S 8 0))) rfl dX6_target_162 ?_
                refine z_iconst E dX6_target_165 ?_
                refine z_iadd E dX6_target_166 ?_
                refine z_put E X (lM_0 C cA am (zs (zs (zs (zs (zs S 9 ((S 8 0).toNat) x1) 10 ((S 8 0).toNat) x2) 11 ((S 8 0).toNat) 50) 12 ((S 8 0).toNat) x4) 13 ((S 8 0).toNat) x5) U) rfl iX6 tyX6 tyX6_ok nmX6 8 (by decide) (by decide +kernel) rfl rfl rfl (Nat.le_of_ble_eq_true rfl) dX6_target_167 (fun H locs X => ?_)
                have X := mp_8 X
                refine lv_aload_n E.1 E.2.1 dX6_target_170 rfl (lv_at hl 0 rfl) ?_
                refine z_get E X (lM_0 C cA am (zs (zs (zs (zs (zs (zs S 9 ((S 8 0).toNat) x1) 10 ((S 8 0).toNat) x2) 11 ((S 8 0).toNat) 50) 12 ((S 8 0).toNat) x4) 13 ((S 8 0).toNat) x5) 8 0 ((S 8 0) + 1)) U) rfl iX6 8 (by decide) (by decide +kernel) (v := .int (i32 ((S 8 0) + 1))) rfl dX6_target_171 ?_
                refine z_iconst E dX6_target_174 ?_
                refine z_isub E dX6_target_175 ?_
                refine z_top (S 8 0) (by omega) ?_
                have ef : fTarget S x1 x2 x3 x4 x5 = (S 8 0, zs (zs (zs (zs (zs (zs S 9 ((S 8 0).toNat) x1) 10 ((S 8 0).toNat) x2) 11 ((S 8 0).toNat) 50) 12 ((S 8 0).toNat) x4) 13 ((S 8 0).toNat) x5) 8 0 ((S 8 0) + 1)) := by
                  unfold fTarget
                  try simp only [Int.toNat_natCast]
                  repeat' split
                  all_goals first | rfl | (exfalso; omega)
                exact z_ret E X hQ (⟨(congrArg (fun w => some (Value.int (i32 w.1))) ef).symm, U, by rw [ef]; exact MC_cong (S := S) rfl rfl rfl (Int.le_refl _) (fun _ _ => rfl) hC, by rw [ef]; exact X.1⟩) dX6_target_176
            · refine z_iconst E dX6_target_103 ?_
              refine lv_goto (tgt := 108) E.1 E.2.1 dX6_target_104 (by decide) ?_
              refine z_iast E X (lM_10 C cA am (zs S 9 ((S 8 0).toNat) x1) U) ((S 8 0).toNat) (by omega) (by omega) (by decide) dX6_target_108 (fun H locs X => ?_)
              have X := ma_10 X
              refine lv_aload_n E.1 E.2.1 dX6_target_109 rfl (lv_at hl 0 rfl) ?_
              refine z_get E X (lM_0 C cA am (zs (zs S 9 ((S 8 0).toNat) x1) 10 ((S 8 0).toNat) 0) U) rfl iX6 11 (by decide) (by decide +kernel) (v := .ref (am 11)) rfl dX6_target_110 ?_
              refine lv_aload_n E.1 E.2.1 dX6_target_113 rfl (lv_at hl 0 rfl) ?_
              refine z_get E X (lM_0 C cA am (zs (zs S 9 ((S 8 0).toNat) x1) 10 ((S 8 0).toNat) 0) U) rfl iX6 8 (by decide) (by decide +kernel) (v := .int (i32 (S 8 0))) rfl dX6_target_114 ?_
              refine z_top (((S 8 0).toNat : Nat) : Int) (by omega) ?_
              refine lv_iload_n E.1 E.2.1 dX6_target_117 rfl (lv_at hl 1 rfl) ?_
              refine z_iconst E dX6_target_118 ?_
              refine z_cne E 127 ⟨by omega, by omega⟩ ⟨by omega, by omega⟩ dX6_target_119 (by decide) (fun h119_13 => ?_) (fun h119_13 => ?_)
              · refine lv_iload_n E.1 E.2.1 dX6_target_127 rfl (lv_at hl 1 rfl) ?_
                refine z_iconst E dX6_target_128 ?_
                refine z_cne E 136 ⟨by omega, by omega⟩ ⟨by omega, by omega⟩ dX6_target_129 (by decide) (fun h129_14 => ?_) (fun h129_14 => ?_)
                · refine lv_iload_n E.1 E.2.1 dX6_target_136 rfl (lv_at hl 2 rfl) ?_
                  refine z_iast E X (lM_11 C cA am (zs (zs S 9 ((S 8 0).toNat) x1) 10 ((S 8 0).toNat) 0) U) ((S 8 0).toNat) (by omega) (by omega) (by decide) dX6_target_137 (fun H locs X => ?_)
                  have X := ma_11 X
                  refine lv_aload_n E.1 E.2.1 dX6_target_138 rfl (lv_at hl 0 rfl) ?_
                  refine z_get E X (lM_0 C cA am (zs (zs (zs S 9 ((S 8 0).toNat) x1) 10 ((S 8 0).toNat) 0) 11 ((S 8 0).toNat) x2) U) rfl iX6 12 (by decide) (by decide +kernel) (v := .ref (am 12)) rfl dX6_target_139 ?_
                  refine lv_aload_n E.1 E.2.1 dX6_target_142 rfl (lv_at hl 0 rfl) ?_
                  refine z_get E X (lM_0 C cA am (zs (zs (zs S 9 ((S 8 0).toNat) x1) 10 ((S 8 0).toNat) 0) 11 ((S 8 0).toNat) x2) U) rfl iX6 8 (by decide) (by decide +kernel) (v := .int (i32 (S 8 0))) rfl dX6_target_143 ?_
                  refine z_top (((S 8 0).toNat : Nat) : Int) (by omega) ?_
                  refine lv_iload E.1 E.2.1 dX6_target_146 (lv_at hl 4 rfl) ?_
                  refine z_iast E X (lM_12 C cA am (zs (zs (zs S 9 ((S 8 0).toNat) x1) 10 ((S 8 0).toNat) 0) 11 ((S 8 0).toNat) x2) U) ((S 8 0).toNat) (by omega) (by omega) (by decide) dX6_target_148 (fun H locs X => ?_)
                  have X := ma_12 X
                  refine lv_aload_n E.1 E.2.1 dX6_target_149 rfl (lv_at hl 0 rfl) ?_
                  refine z_get E X (lM_0 C cA am (zs (zs (zs (zs S 9 ((S 8 0).toNat) x1) 10 ((S 8 0).toNat) 0) 11 ((S 8 0).toNat) x2) 12 ((S 8 0).toNat) x4) U) rfl iX6 13 (by decide) (by decide +kernel) (v := .ref (am 13)) rfl dX6_target_150 ?_
                  refine lv_aload_n E.1 E.2.1 dX6_target_153 rfl (lv_at hl 0 rfl) ?_
                  refine z_get E X (lM_0 C cA am (zs (zs (zs (zs S 9 ((S 8 0).toNat) x1) 10 ((S 8 0).toNat) 0) 11 ((S 8 0).toNat) x2) 12 ((S 8 0).toNat) x4) U) rfl iX6 8 (by decide) (by decide +kernel) (v := .int (i32 (S 8 0))) rfl dX6_target_154 ?_
                  refine z_top (((S 8 0).toNat : Nat) : Int) (by omega) ?_
                  refine lv_iload E.1 E.2.1 dX6_target_157 (lv_at hl 5 rfl) ?_
                  refine z_iast E X (lM_13 C cA am (zs (zs (zs (zs S 9 ((S 8 0).toNat) x1) 10 ((S 8 0).toNat) 0) 11 ((S 8 0).toNat) x2) 12 ((S 8 0).toNat) x4) U) ((S 8 0).toNat) (by omega) (by omega) (by decide) dX6_target_159 (fun H locs X => ?_)
                  have X := ma_13 X
                  refine lv_aload_n E.1 E.2.1 dX6_target_160 rfl (lv_at hl 0 rfl) ?_
                  refine lv_dup E.1 E.2.1 dX6_target_161 rfl ?_
                  refine z_get E X (lM_0 C cA am (zs (zs (zs (zs (zs S 9 ((S 8 0).toNat) x1) 10 ((S 8 0).toNat) 0) 11 ((S 8 0).toNat) x2) 12 ((S 8 0).toNat) x4) 13 ((S 8 0).toNat) x5) U) rfl iX6 8 (by decide) (by decide +kernel) (v := .int (i32 (S 8 0))) rfl dX6_target_162 ?_
                  refine z_iconst E dX6_target_165 ?_
                  refine z_iadd E dX6_target_166 ?_
                  refine z_put E X (lM_0 C cA am (zs (zs (zs (zs (zs S 9 ((S 8 0).toNat) x1) 10 ((S 8 0).toNat) 0) 11 ((S 8 0).toNat) x2) 12 ((S 8 0).toNat) x4) 13 ((S 8 0).toNat) x5) U) rfl iX6 tyX6 tyX6_ok nmX6 8 (by decide) (by decide +kernel) rfl rfl rfl (Nat.le_of_ble_eq_true rfl) dX6_target_167 (fun H locs X => ?_)
                  have X := mp_8 X
                  refine lv_aload_n E.1 E.2.1 dX6_target_170 rfl (lv_at hl 0 rfl) ?_
                  refine z_get E X (lM_0 C cA am (zs (zs (zs (zs (zs (zs S 9 ((S 8 0).toNat) x1) 10 ((S 8 0).toNat) 0) 11 ((S 8 0).toNat) x2) 12 ((S 8 0).toNat) x4) 13 ((S 8 0).toNat) x5) 8 0 ((S 8 0) + 1)) U) rfl iX6 8 (by decide) (by decide +kernel) (v := .int (i32 ((S 8 0) + 1))) rfl dX6_target_171 ?_
                  refine z_iconst E dX6_target_174 ?_
                  refine z_isub E dX6_target_175 ?_
                  refine z_top (S 8 0) (by omega) ?_
                  have ef : fTarget S x1 x2 x3 x4 x5 = (S 8 0, zs (zs (zs (zs (zs (zs S 9 ((S 8 0).toNat) x1) 10 ((S 8 0).toNat) 0) 11 ((S 8 0).toNat) x2) 12 ((S 8 0).toNat) x4) 13 ((S 8 0).toNat) x5) 8 0 ((S 8 0) + 1)) := by
                    unfold fTarget
                    try simp only [Int.toNat_natCast]
                    repeat' split
                    all_goals first | rfl | (exfalso; omega)
                  exact z_ret E X hQ (⟨(congrArg (fun w => some (Value.int (i32 w.1))) ef).symm, U, by rw [ef]; exact MC_cong (S := S) rfl rfl rfl (Int.le_refl _) (fun _ _ => rfl) hC, by rw [ef]; exact X.1⟩) dX6_target_176
                · refine lv_iload_n E.1 E.2.1 dX6_target_132 rfl (lv_at hl 3 rfl) ?_
                  refine lv_goto (tgt := 137) E.1 E.2.1 dX6_target_133 (by decide) ?_
                  refine z_iast E X (lM_11 C cA am (zs (zs S 9 ((S 8 0).toNat) x1) 10 ((S 8 0).toNat) 0) U) ((S 8 0).toNat) (by omega) (by omega) (by decide) dX6_target_137 (fun H locs X => ?_)
                  have X := ma_11 X
                  refine lv_aload_n E.1 E.2.1 dX6_target_138 rfl (lv_at hl 0 rfl) ?_
                  refine z_get E X (lM_0 C cA am (zs (zs (zs S 9 ((S 8 0).toNat) x1) 10 ((S 8 0).toNat) 0) 11 ((S 8 0).toNat) x3) U) rfl iX6 12 (by decide) (by decide +kernel) (v := .ref (am 12)) rfl dX6_target_139 ?_
                  refine lv_aload_n E.1 E.2.1 dX6_target_142 rfl (lv_at hl 0 rfl) ?_
                  refine z_get E X (lM_0 C cA am (zs (zs (zs S 9 ((S 8 0).toNat) x1) 10 ((S 8 0).toNat) 0) 11 ((S 8 0).toNat) x3) U) rfl iX6 8 (by decide) (by decide +kernel) (v := .int (i32 (S 8 0))) rfl dX6_target_143 ?_
                  refine z_top (((S 8 0).toNat : Nat) : Int) (by omega) ?_
                  refine lv_iload E.1 E.2.1 dX6_target_146 (lv_at hl 4 rfl) ?_
                  refine z_iast E X (lM_12 C cA am (zs (zs (zs S 9 ((S 8 0).toNat) x1) 10 ((S 8 0).toNat) 0) 11 ((S 8 0).toNat) x3) U) ((S 8 0).toNat) (by omega) (by omega) (by decide) dX6_target_148 (fun H locs X => ?_)
                  have X := ma_12 X
                  refine lv_aload_n E.1 E.2.1 dX6_target_149 rfl (lv_at hl 0 rfl) ?_
                  refine z_get E X (lM_0 C cA am (zs (zs (zs (zs S 9 ((S 8 0).toNat) x1) 10 ((S 8 0).toNat) 0) 11 ((S 8 0).toNat) x3) 12 ((S 8 0).toNat) x4) U) rfl iX6 13 (by decide) (by decide +kernel) (v := .ref (am 13)) rfl dX6_target_150 ?_
                  refine lv_aload_n E.1 E.2.1 dX6_target_153 rfl (lv_at hl 0 rfl) ?_
                  refine z_get E X (lM_0 C cA am (zs (zs (zs (zs S 9 ((S 8 0).toNat) x1) 10 ((S 8 0).toNat) 0) 11 ((S 8 0).toNat) x3) 12 ((S 8 0).toNat) x4) U) rfl iX6 8 (by decide) (by decide +kernel) (v := .int (i32 (S 8 0))) rfl dX6_target_154 ?_
                  refine z_top (((S 8 0).toNat : Nat) : Int) (by omega) ?_
                  refine lv_iload E.1 E.2.1 dX6_target_157 (lv_at hl 5 rfl) ?_
                  refine z_iast E X (lM_13 C cA am (zs (zs (zs (zs S 9 ((S 8 0).toNat) x1) 10 ((S 8 0).toNat) 0) 11 ((S 8 0).toNat) x3) 12 ((S 8 0).toNat) x4) U) ((S 8 0).toNat) (by omega) (by omega) (by decide) dX6_target_159 (fun H locs X => ?_)
                  have X := ma_13 X
                  refine lv_aload_n E.1 E.2.1 dX6_target_160 rfl (lv_at hl 0 rfl) ?_
                  refine lv_dup E.1 E.2.1 dX6_target_161 rfl ?_
                  refine z_get E X (lM_0 C cA am (zs (zs (zs (zs (zs S 9 ((S 8 0).toNat) x1) 10 ((S 8 0).toNat) 0) 11 ((S 8 0).toNat) x3) 12 ((S 8 0).toNat) x4) 13 ((S 8 0).toNat) x5) U) rfl iX6 8 (by decide) (by decide +kernel) (v := .int (i32 (S 8 0))) rfl dX6_target_162 ?_
                  refine z_iconst E dX6_target_165 ?_
                  refine z_iadd E dX6_target_166 ?_
                  refine z_put E X (lM_0 C cA am (zs (zs (zs (zs (zs S 9 ((S 8 0).toNat) x1) 10 ((S 8 0).toNat) 0) 11 ((S 8 0).toNat) x3) 12 ((S 8 0).toNat) x4) 13 ((S 8 0).toNat) x5) U) rfl iX6 tyX6 tyX6_ok nmX6 8 (by decide) (by decide +kernel) rfl rfl rfl (Nat.le_of_ble_eq_true rfl) dX6_target_167 (fun H locs X => ?_)
                  have X := mp_8 X
                  refine lv_aload_n E.1 E.2.1 dX6_target_170 rfl (lv_at hl 0 rfl) ?_
                  refine z_get E X (lM_0 C cA am (zs (zs (zs (zs (zs (zs S 9 ((S 8 0).toNat) x1) 10 ((S 8 0).toNat) 0) 11 ((S 8 0).toNat) x3) 12 ((S 8 0).toNat) x4) 13 ((S 8 0).toNat) x5) 8 0 ((S 8 0) + 1)) U) rfl iX6 8 (by decide) (by decide +kernel) (v := .int (i32 ((S 8 0) + 1))) rfl dX6_target_171 ?_
                  refine z_iconst E dX6_target_174 ?_
                  refine z_isub E dX6_target_175 ?_
                  refine z_top (S 8 0) (by omega) ?_
                  have ef : fTarget S x1 x2 x3 x4 x5 = (S 8 0, zs (zs (zs (zs (zs (zs S 9 ((S 8 0).toNat) x1) 10 ((S 8 0).toNat) 0) 11 ((S 8 0).toNat) x3) 12 ((S 8 0).toNat) x4) 13 ((S 8 0).toNat) x5) 8 0 ((S 8 0) + 1)) := by
                    unfold fTarget
                    try simp only [Int.toNat_natCast]
                    repeat' split
                    all_goals first | rfl | (exfalso; omega)
                  exact z_ret E X hQ (⟨(congrArg (fun w => some (Value.int (i32 w.1))) ef).symm, U, by rw [ef]; exact MC_cong (S := S) rfl rfl rfl (Int.le_refl _) (fun _ _ => rfl) hC, by rw [ef]; exact X.1⟩) dX6_target_176
              · refine z_bipush E dX6_target_122 (by decide +kernel) ?_
                refine lv_goto (tgt := 137) E.1 E.2.1 dX6_target_124 (by decide) ?_
                refine z_iast E X (lM_11 C cA am (zs (zs S 9 ((S 8 0).toNat) x1) 10 ((S 8 0).toNat) 0) U) ((S 8 0).toNat) (by omega) (by omega) (by decide) dX6_target_137 (fun H locs X => ?_)
                have X := ma_11 X
                refine lv_aload_n E.1 E.2.1 dX6_target_138 rfl (lv_at hl 0 rfl) ?_
                refine z_get E X (lM_0 C cA am (zs (zs (zs S 9 ((S 8 0).toNat) x1) 10 ((S 8 0).toNat) 0) 11 ((S 8 0).toNat) 50) U) rfl iX6 12 (by decide) (by decide +kernel) (v := .ref (am 12)) rfl dX6_target_139 ?_
                refine lv_aload_n E.1 E.2.1 dX6_target_142 rfl (lv_at hl 0 rfl) ?_
                refine z_get E X (lM_0 C cA am (zs (zs (zs S 9 ((S 8 0).toNat) x1) 10 ((S 8 0).toNat) 0) 11 ((S 8 0).toNat) 50) U) rfl iX6 8 (by decide) (by decide +kernel) (v := .int (i32 (S 8 0))) rfl dX6_target_143 ?_
                refine z_top (((S 8 0).toNat : Nat) : Int) (by omega) ?_
                refine lv_iload E.1 E.2.1 dX6_target_146 (lv_at hl 4 rfl) ?_
                refine z_iast E X (lM_12 C cA am (zs (zs (zs S 9 ((S 8 0).toNat) x1) 10 ((S 8 0).toNat) 0) 11 ((S 8 0).toNat) 50) U) ((S 8 0).toNat) (by omega) (by omega) (by decide) dX6_target_148 (fun H locs X => ?_)
                have X := ma_12 X
                refine lv_aload_n E.1 E.2.1 dX6_target_149 rfl (lv_at hl 0 rfl) ?_
                refine z_get E X (lM_0 C cA am (zs (zs (zs (zs S 9 ((S 8 0).toNat) x1) 10 ((S 8 0).toNat) 0) 11 ((S 8 0).toNat) 50) 12 ((S 8 0).toNat) x4) U) rfl iX6 13 (by decide) (by decide +kernel) (v := .ref (am 13)) rfl dX6_target_150 ?_
                refine lv_aload_n E.1 E.2.1 dX6_target_153 rfl (lv_at hl 0 rfl) ?_
                refine z_get E X (lM_0 C cA am (zs (zs (zs (zs S 9 ((S 8 0).toNat) x1) 10 ((S 8 0).toNat) 0) 11 ((S 8 0).toNat) 50) 12 ((S 8 0).toNat) x4) U) rfl iX6 8 (by decide) (by decide +kernel) (v := .int (i32 (S 8 0))) rfl dX6_target_154 ?_
                refine z_top (((S 8 0).toNat : Nat) : Int) (by omega) ?_
                refine lv_iload E.1 E.2.1 dX6_target_157 (lv_at hl 5 rfl) ?_
                refine z_iast E X (lM_13 C cA am (zs (zs (zs (zs S 9 ((S 8 0).toNat) x1) 10 ((S 8 0).toNat) 0) 11 ((S 8 0).toNat) 50) 12 ((S 8 0).toNat) x4) U) ((S 8 0).toNat) (by omega) (by omega) (by decide) dX6_target_159 (fun H locs X => ?_)
                have X := ma_13 X
                refine lv_aload_n E.1 E.2.1 dX6_target_160 rfl (lv_at hl 0 rfl) ?_
                refine lv_dup E.1 E.2.1 dX6_target_161 rfl ?_
                refine z_get E X (lM_0 C cA am (zs (zs (zs (zs (zs S 9 ((S 8 0).toNat) x1) 10 ((S 8 0).toNat) 0) 11 ((S 8 0).toNat) 50) 12 ((S 8 0).toNat) x4) 13 ((S 8 0).toNat) x5) U) rfl iX6 8 (by decide) (by decide +kernel) (v := .int (i32 (S 8 0))) rfl dX6_target_162 ?_
                refine z_iconst E dX6_target_165 ?_
                refine z_iadd E dX6_target_166 ?_
                refine z_put E X (lM_0 C cA am (zs (zs (zs (zs (zs S 9 ((S 8 0).toNat) x1) 10 ((S 8 0).toNat) 0) 11 ((S 8 0).toNat) 50) 12 ((S 8 0).toNat) x4) 13 ((S 8 0).toNat) x5) U) rfl iX6 tyX6 tyX6_ok nmX6 8 (by decide) (by decide +kernel) rfl rfl rfl (Nat.le_of_ble_eq_true rfl) dX6_target_167 (fun H locs X => ?_)
                have X := mp_8 X
                refine lv_aload_n E.1 E.2.1 dX6_target_170 rfl (lv_at hl 0 rfl) ?_
                refine z_get E X (lM_0 C cA am (zs (zs (zs (zs (zs (zs S 9 ((S 8 0).toNat) x1) 10 ((S 8 0).toNat) 0) 11 ((S 8 0).toNat) 50) 12 ((S 8 0).toNat) x4) 13 ((S 8 0).toNat) x5) 8 0 ((S 8 0) + 1)) U) rfl iX6 8 (by decide) (by decide +kernel) (v := .int (i32 ((S 8 0) + 1))) rfl dX6_target_171 ?_
                refine z_iconst E dX6_target_174 ?_
                refine z_isub E dX6_target_175 ?_
                refine z_top (S 8 0) (by omega) ?_
                have ef : fTarget S x1 x2 x3 x4 x5 = (S 8 0, zs (zs (zs (zs (zs (zs S 9 ((S 8 0).toNat) x1) 10 ((S 8 0).toNat) 0) 11 ((S 8 0).toNat) 50) 12 ((S 8 0).toNat) x4) 13 ((S 8 0).toNat) x5) 8 0 ((S 8 0) + 1)) := by
                  unfold fTarget
                  try simp only [Int.toNat_natCast]
                  repeat' split
                  all_goals first | rfl | (exfalso; omega)
                exact z_ret E X hQ (⟨(congrArg (fun w => some (Value.int (i32 w.1))) ef).symm, U, by rw [ef]; exact MC_cong (S := S) rfl rfl rfl (Int.le_refl _) (fun _ _ => rfl) hC, by rw [ef]; exact X.1⟩) dX6_target_176
          · refine z_bipush E dX6_target_77 (by decide +kernel) ?_
            have ef : fTarget S x1 x2 x3 x4 x5 = (-4, S) := by
              unfold fTarget
              try simp only [Int.toNat_natCast]
              repeat' split
              all_goals first | rfl | (exfalso; omega)
            exact z_ret E X hQ (⟨(congrArg (fun w => some (Value.int (i32 w.1))) ef).symm, U, by rw [ef]; exact hC, by rw [ef]; exact X.1⟩) dX6_target_79
        · refine z_bipush E dX6_target_65 (by decide +kernel) ?_
          have ef : fTarget S x1 x2 x3 x4 x5 = (-2, S) := by
            unfold fTarget
            try simp only [Int.toNat_natCast]
            repeat' split
            all_goals first | rfl | (exfalso; omega)
          exact z_ret E X hQ (⟨(congrArg (fun w => some (Value.int (i32 w.1))) ef).symm, U, by rw [ef]; exact hC, by rw [ef]; exact X.1⟩) dX6_target_67
      · refine lv_iload_n E.1 E.2.1 dX6_target_37 rfl (lv_at hl 3 rfl) ?_
        refine z_i2l E ⟨by omega, by omega⟩ dX6_target_38 ?_
        refine lv_iload_n E.1 E.2.1 dX6_target_39 rfl (lv_at hl 2 rfl) ?_
        refine z_i2l E ⟨by omega, by omega⟩ dX6_target_40 ?_
        refine z_ldc2 (v := 50) (z := 50) E (by decide +kernel) (by decide +kernel) dX6_target_41 ?_
        refine z_callJ (As := [.long (i64 x3), .long (i64 x2), .long (i64 50)]) (rest := []) (n := 3) E X (c_in l D cA B0 _ x3 x2 50 ⟨by omega, by omega⟩ ⟨by omega, by omega⟩ ⟨by omega, by omega⟩) gX6_target_X6_in rfl (by decide +kernel) ⟨by decide, by decide⟩ rfl hl.1 rfl (Nat.le_of_ble_eq_true rfl) dX6_target_44 ⟨by decide, by decide⟩ rfl 0 0 ⟨rfl, rfl⟩ (fun v H locs hv hS_15 => ?_)
        obtain ⟨hH, z_16, rfl, ez_16⟩ := hv
        subst hH
        replace X := X.same hS_15
        refine z_feq E 65 ⟨by omega, by omega⟩ dX6_target_47 (by decide) (fun h47_17 => ?_) (fun h47_17 => ?_)
        · refine z_bipush E dX6_target_65 (by decide +kernel) ?_
          have ef : fTarget S x1 x2 x3 x4 x5 = (-2, S) := by
            unfold fTarget
            try simp only [Int.toNat_natCast]
            repeat' split
            all_goals first | rfl | (exfalso; omega)
          exact z_ret E X hQ (⟨(congrArg (fun w => some (Value.int (i32 w.1))) ef).symm, U, by rw [ef]; exact hC, by rw [ef]; exact X.1⟩) dX6_target_67
        · refine lv_iload E.1 E.2.1 dX6_target_50 (lv_at hl 5 rfl) ?_
          refine z_i2l E ⟨by omega, by omega⟩ dX6_target_52 ?_
          refine z_ldc2 (v := (-1000)) (z := -1000) E (by decide +kernel) (by decide +kernel) dX6_target_53 ?_
          refine z_ldc2 (v := 1000) (z := 1000) E (by decide +kernel) (by decide +kernel) dX6_target_56 ?_
          refine z_callJ (As := [.long (i64 x5), .long (i64 (-1000)), .long (i64 1000)]) (rest := []) (n := 3) E X (c_in l D cA B0 _ x5 (-1000) 1000 ⟨by omega, by omega⟩ ⟨by omega, by omega⟩ ⟨by omega, by omega⟩) gX6_target_X6_in rfl (by decide +kernel) ⟨by decide, by decide⟩ rfl hl.1 rfl (Nat.le_of_ble_eq_true rfl) dX6_target_59 ⟨by decide, by decide⟩ rfl 0 0 ⟨rfl, rfl⟩ (fun v H locs hv hS_18 => ?_)
          obtain ⟨hH, z_19, rfl, ez_19⟩ := hv
          subst hH
          replace X := X.same hS_18
          refine z_fne E 68 ⟨by omega, by omega⟩ dX6_target_62 (by decide) (fun h62_20 => ?_) (fun h62_20 => ?_)
          · refine lv_aload_n E.1 E.2.1 dX6_target_68 rfl (lv_at hl 0 rfl) ?_
            refine z_get E X (lM_0 C cA am S U) rfl iX6 8 (by decide) (by decide +kernel) (v := .int (i32 (S 8 0))) rfl dX6_target_69 ?_
            refine z_bipush E dX6_target_72 (by decide +kernel) ?_
            refine z_cne E 80 ⟨by omega, by omega⟩ ⟨by omega, by omega⟩ dX6_target_74 (by decide) (fun h74_21 => ?_) (fun h74_21 => ?_)
            · refine lv_aload_n E.1 E.2.1 dX6_target_80 rfl (lv_at hl 0 rfl) ?_
              refine z_get E X (lM_0 C cA am S U) rfl iX6 9 (by decide) (by decide +kernel) (v := .ref (am 9)) rfl dX6_target_81 ?_
              refine lv_aload_n E.1 E.2.1 dX6_target_84 rfl (lv_at hl 0 rfl) ?_
              refine z_get E X (lM_0 C cA am S U) rfl iX6 8 (by decide) (by decide +kernel) (v := .int (i32 (S 8 0))) rfl dX6_target_85 ?_
              refine z_top (((S 8 0).toNat : Nat) : Int) (by omega) ?_
              refine lv_iload_n E.1 E.2.1 dX6_target_88 rfl (lv_at hl 1 rfl) ?_
              refine z_iast E X (lM_9 C cA am S U) ((S 8 0).toNat) (by omega) (by omega) (by decide) dX6_target_89 (fun H locs X => ?_)
              have X := ma_9 X
              refine lv_aload_n E.1 E.2.1 dX6_target_90 rfl (lv_at hl 0 rfl) ?_
              refine z_get E X (lM_0 C cA am (zs S 9 ((S 8 0).toNat) x1) U) rfl iX6 10 (by decide) (by decide +kernel) (v := .ref (am 10)) rfl dX6_target_91 ?_
              refine lv_aload_n E.1 E.2.1 dX6_target_94 rfl (lv_at hl 0 rfl) ?_
              refine z_get E X (lM_0 C cA am (zs S 9 ((S 8 0).toNat) x1) U) rfl iX6 8 (by decide) (by decide +kernel) (v := .int (i32 (S 8 0))) rfl dX6_target_95 ?_
              refine z_top (((S 8 0).toNat : Nat) : Int) (by omega) ?_
              refine lv_iload_n E.1 E.2.1 dX6_target_98 rfl (lv_at hl 1 rfl) ?_
              refine z_iconst E dX6_target_99 ?_
              refine z_cne E 107 ⟨by omega, by omega⟩ ⟨by omega, by omega⟩ dX6_target_100 (by decide) (fun h100_22 => ?_) (fun h100_22 => ?_)
              · refine lv_iload_n E.1 E.2.1 dX6_target_107 rfl (lv_at hl 2 rfl) ?_
                refine z_iast E X (lM_10 C cA am (zs S 9 ((S 8 0).toNat) x1) U) ((S 8 0).toNat) (by omega) (by omega) (by decide) dX6_target_108 (fun H locs X => ?_)
                have X := ma_10 X
                refine lv_aload_n E.1 E.2.1 dX6_target_109 rfl (lv_at hl 0 rfl) ?_
                refine z_get E X (lM_0 C cA am (zs (zs S 9 ((S 8 0).toNat) x1) 10 ((S 8 0).toNat) x2) U) rfl iX6 11 (by decide) (by decide +kernel) (v := .ref (am 11)) rfl dX6_target_110 ?_
                refine lv_aload_n E.1 E.2.1 dX6_target_113 rfl (lv_at hl 0 rfl) ?_
                refine z_get E X (lM_0 C cA am (zs (zs S 9 ((S 8 0).toNat) x1) 10 ((S 8 0).toNat) x2) U) rfl iX6 8 (by decide) (by decide +kernel) (v := .int (i32 (S 8 0))) rfl dX6_target_114 ?_
                refine z_top (((S 8 0).toNat : Nat) : Int) (by omega) ?_
                refine lv_iload_n E.1 E.2.1 dX6_target_117 rfl (lv_at hl 1 rfl) ?_
                refine z_iconst E dX6_target_118 ?_
                refine z_cne E 127 ⟨by omega, by omega⟩ ⟨by omega, by omega⟩ dX6_target_119 (by decide) (fun h119_23 => ?_) (fun h119_23 => ?_)
                · refine lv_iload_n E.1 E.2.1 dX6_target_127 rfl (lv_at hl 1 rfl) ?_
                  refine z_iconst E dX6_target_128 ?_
                  refine z_cne E 136 ⟨by omega, by omega⟩ ⟨by omega, by omega⟩ dX6_target_129 (by decide) (fun h129_24 => ?_) (fun h129_24 => ?_)
                  · refine lv_iload_n E.1 E.2.1 dX6_target_136 rfl (lv_at hl 2 rfl) ?_
                    refine z_iast E X (lM_11 C cA am (zs (zs S 9 ((S 8 0).toNat) x1) 10 ((S 8 0).toNat) x2) U) ((S 8 0).toNat) (by omega) (by omega) (by decide) dX6_target_137 (fun H locs X => ?_)
                    have X := ma_11 X
                    refine lv_aload_n E.1 E.2.1 dX6_target_138 rfl (lv_at hl 0 rfl) ?_
                    refine z_get E X (lM_0 C cA am (zs (zs (zs S 9 ((S 8 0).toNat) x1) 10 ((S 8 0).toNat) x2) 11 ((S 8 0).toNat) x2) U) rfl iX6 12 (by decide) (by decide +kernel) (v := .ref (am 12)) rfl dX6_target_139 ?_
                    refine lv_aload_n E.1 E.2.1 dX6_target_142 rfl (lv_at hl 0 rfl) ?_
                    refine z_get E X (lM_0 C cA am (zs (zs (zs S 9 ((S 8 0).toNat) x1) 10 ((S 8 0).toNat) x2) 11 ((S 8 0).toNat) x2) U) rfl iX6 8 (by decide) (by decide +kernel) (v := .int (i32 (S 8 0))) rfl dX6_target_143 ?_
                    refine z_top (((S 8 0).toNat : Nat) : Int) (by omega) ?_
                    refine lv_iload E.1 E.2.1 dX6_target_146 (lv_at hl 4 rfl) ?_
                    refine z_iast E X (lM_12 C cA am (zs (zs (zs S 9 ((S 8 0).toNat) x1) 10 ((S 8 0).toNat) x2) 11 ((S 8 0).toNat) x2) U) ((S 8 0).toNat) (by omega) (by omega) (by decide) dX6_target_148 (fun H locs X => ?_)
                    have X := ma_12 X
                    refine lv_aload_n E.1 E.2.1 dX6_target_149 rfl (lv_at hl 0 rfl) ?_
                    refine z_get E X (lM_0 C cA am (zs (zs (zs (zs S 9 ((S 8 0).toNat) x1) 10 ((S 8 0).toNat) x2) 11 ((S 8 0).toNat) x2) 12 ((S 8 0).toNat) x4) U) rfl iX6 13 (by decide) (by decide +kernel) (v := .ref (am 13)) rfl dX6_target_150 ?_
                    refine lv_aload_n E.1 E.2.1 dX6_target_153 rfl (lv_at hl 0 rfl) ?_
                    refine z_get E X (lM_0 C cA am (zs (zs (zs (zs S 9 ((S 8 0).toNat) x1) 10 ((S 8 0).toNat) x2) 11 ((S 8 0).toNat) x2) 12 ((S 8 0).toNat) x4) U) rfl iX6 8 (by decide) (by decide +kernel) (v := .int (i32 (S 8 0))) rfl dX6_target_154 ?_
                    refine z_top (((S 8 0).toNat : Nat) : Int) (by omega) ?_
                    refine lv_iload E.1 E.2.1 dX6_target_157 (lv_at hl 5 rfl) ?_
                    refine z_iast E X (lM_13 C cA am (zs (zs (zs (zs S 9 ((S 8 0).toNat) x1) 10 ((S 8 0).toNat) x2) 11 ((S 8 0).toNat) x2) 12 ((S 8 0).toNat) x4) U) ((S 8 0).toNat) (by omega) (by omega) (by decide) dX6_target_159 (fun H locs X => ?_)
                    have X := ma_13 X
                    refine lv_aload_n E.1 E.2.1 dX6_target_160 rfl (lv_at hl 0 rfl) ?_
                    refine lv_dup E.1 E.2.1 dX6_target_161 rfl ?_
                    refine z_get E X (lM_0 C cA am (zs (zs (zs (zs (zs S 9 ((S 8 0).toNat) x1) 10 ((S 8 0).toNat) x2) 11 ((S 8 0).toNat) x2) 12 ((S 8 0).toNat) x4) 13 ((S 8 0).toNat) x5) U) rfl iX6 8 (by decide) (by decide +kernel) (v := .int (i32 (S 8 0))) rfl dX6_target_162 ?_
                    refine z_iconst E dX6_target_165 ?_
                    refine z_iadd E dX6_target_166 ?_
                    refine z_put E X (lM_0 C cA am (zs (zs (zs (zs (zs S 9 ((S 8 0).toNat) x1) 10 ((S 8 0).toNat) x2) 11 ((S 8 0).toNat) x2) 12 ((S 8 0).toNat) x4) 13 ((S 8 0).toNat) x5) U) rfl iX6 tyX6 tyX6_ok nmX6 8 (by decide) (by decide +kernel) rfl rfl rfl (Nat.le_of_ble_eq_true rfl) dX6_target_167 (fun H locs X => ?_)
                    have X := mp_8 X
                    refine lv_aload_n E.1 E.2.1 dX6_target_170 rfl (lv_at hl 0 rfl) ?_
                    refine z_get E X (lM_0 C cA am (zs (zs (zs (zs (zs (zs S 9 ((S 8 0).toNat) x1) 10 ((S 8 0).toNat) x2) 11 ((S 8 0).toNat) x2) 12 ((S 8 0).toNat) x4) 13 ((S 8 0).toNat) x5) 8 0 ((S 8 0) + 1)) U) rfl iX6 8 (by decide) (by decide +kernel) (v := .int (i32 ((S 8 0) + 1))) rfl dX6_target_171 ?_
                    refine z_iconst E dX6_target_174 ?_
                    refine z_isub E dX6_target_175 ?_
                    refine z_top (S 8 0) (by omega) ?_
                    have ef : fTarget S x1 x2 x3 x4 x5 = (S 8 0, zs (zs (zs (zs (zs (zs S 9 ((S 8 0).toNat) x1) 10 ((S 8 0).toNat) x2) 11 ((S 8 0).toNat) x2) 12 ((S 8 0).toNat) x4) 13 ((S 8 0).toNat) x5) 8 0 ((S 8 0) + 1)) := by
                      unfold fTarget
                      try simp only [Int.toNat_natCast]
                      repeat' split
                      all_goals first | rfl | (exfalso; omega)
                    exact z_ret E X hQ (⟨(congrArg (fun w => some (Value.int (i32 w.1))) ef).symm, U, by rw [ef]; exact MC_cong (S := S) rfl rfl rfl (Int.le_refl _) (fun _ _ => rfl) hC, by rw [ef]; exact X.1⟩) dX6_target_176
                  · refine lv_iload_n E.1 E.2.1 dX6_target_132 rfl (lv_at hl 3 rfl) ?_
                    refine lv_goto (tgt := 137) E.1 E.2.1 dX6_target_133 (by decide) ?_
                    refine z_iast E X (lM_11 C cA am (zs (zs S 9 ((S 8 0).toNat) x1) 10 ((S 8 0).toNat) x2) U) ((S 8 0).toNat) (by omega) (by omega) (by decide) dX6_target_137 (fun H locs X => ?_)
                    have X := ma_11 X
                    refine lv_aload_n E.1 E.2.1 dX6_target_138 rfl (lv_at hl 0 rfl) ?_
                    refine z_get E X (lM_0 C cA am (zs (zs (zs S 9 ((S 8 0).toNat) x1) 10 ((S 8 0).toNat) x2) 11 ((S 8 0).toNat) x3) U) rfl iX6 12 (by decide) (by decide +kernel) (v := .ref (am 12)) rfl dX6_target_139 ?_
                    refine lv_aload_n E.1 E.2.1 dX6_target_142 rfl (lv_at hl 0 rfl) ?_
                    refine z_get E X (lM_0 C cA am (zs (zs (zs S 9 ((S 8 0).toNat) x1) 10 ((S 8 0).toNat) x2) 11 ((S 8 0).toNat) x3) U) rfl iX6 8 (by decide) (by decide +kernel) (v := .int (i32 (S 8 0))) rfl dX6_target_143 ?_
                    refine z_top (((S 8 0).toNat : Nat) : Int) (by omega) ?_
                    refine lv_iload E.1 E.2.1 dX6_target_146 (lv_at hl 4 rfl) ?_
                    refine z_iast E X (lM_12 C cA am (zs (zs (zs S 9 ((S 8 0).toNat) x1) 10 ((S 8 0).toNat) x2) 11 ((S 8 0).toNat) x3) U) ((S 8 0).toNat) (by omega) (by omega) (by decide) dX6_target_148 (fun H locs X => ?_)
                    have X := ma_12 X
                    refine lv_aload_n E.1 E.2.1 dX6_target_149 rfl (lv_at hl 0 rfl) ?_
                    refine z_get E X (lM_0 C cA am (zs (zs (zs (zs S 9 ((S 8 0).toNat) x1) 10 ((S 8 0).toNat) x2) 11 ((S 8 0).toNat) x3) 12 ((S 8 0).toNat) x4) U) rfl iX6 13 (by decide) (by decide +kernel) (v := .ref (am 13)) rfl dX6_target_150 ?_
                    refine lv_aload_n E.1 E.2.1 dX6_target_153 rfl (lv_at hl 0 rfl) ?_
                    refine z_get E X (lM_0 C cA am (zs (zs (zs (zs S 9 ((S 8 0).toNat) x1) 10 ((S 8 0).toNat) x2) 11 ((S 8 0).toNat) x3) 12 ((S 8 0).toNat) x4) U) rfl iX6 8 (by decide) (by decide +kernel) (v := .int (i32 (S 8 0))) rfl dX6_target_154 ?_
                    refine z_top (((S 8 0).toNat : Nat) : Int) (by omega) ?_
                    refine lv_iload E.1 E.2.1 dX6_target_157 (lv_at hl 5 rfl) ?_
                    refine z_iast E X (lM_13 C cA am (zs (zs (zs (zs S 9 ((S 8 0).toNat) x1) 10 ((S 8 0).toNat) x2) 11 ((S 8 0).toNat) x3) 12 ((S 8 0).toNat) x4) U) ((S 8 0).toNat) (by omega) (by omega) (by decide) dX6_target_159 (fun H locs X => ?_)
                    have X := ma_13 X
                    refine lv_aload_n E.1 E.2.1 dX6_target_160 rfl (lv_at hl 0 rfl) ?_
                    refine lv_dup E.1 E.2.1 dX6_target_161 rfl ?_
                    refine z_get E X (lM_0 C cA am (zs (zs (zs (zs (zs S 9 ((S 8 0).toNat) x1) 10 ((S 8 0).toNat) x2) 11 ((S 8 0).toNat) x3) 12 ((S 8 0).toNat) x4) 13 ((S 8 0).toNat) x5) U) rfl iX6 8 (by decide) (by decide +kernel) (v := .int (i32 (S 8 0))) rfl dX6_target_162 ?_
                    refine z_iconst E dX6_target_165 ?_
                    refine z_iadd E dX6_target_166 ?_
                    refine z_put E X (lM_0 C cA am (zs (zs (zs (zs (zs S 9 ((S 8 0).toNat) x1) 10 ((S 8 0).toNat) x2) 11 ((S 8 0).toNat) x3) 12 ((S 8 0).toNat) x4) 13 ((S 8 0).toNat) x5) U) rfl iX6 tyX6 tyX6_ok nmX6 8 (by decide) (by decide +kernel) rfl rfl rfl (Nat.le_of_ble_eq_true rfl) dX6_target_167 (fun H locs X => ?_)
                    have X := mp_8 X
                    refine lv_aload_n E.1 E.2.1 dX6_target_170 rfl (lv_at hl 0 rfl) ?_
                    refine z_get E X (lM_0 C cA am (zs (zs (zs (zs (zs (zs S 9 ((S 8 0).toNat) x1) 10 ((S 8 0).toNat) x2) 11 ((S 8 0).toNat) x3) 12 ((S 8 0).toNat) x4) 13 ((S 8 0).toNat) x5) 8 0 ((S 8 0) + 1)) U) rfl iX6 8 (by decide) (by decide +kernel) (v := .int (i32 ((S 8 0) + 1))) rfl dX6_target_171 ?_
                    refine z_iconst E dX6_target_174 ?_
                    refine z_isub E dX6_target_175 ?_
                    refine z_top (S 8 0) (by omega) ?_
                    have ef : fTarget S x1 x2 x3 x4 x5 = (S 8 0, zs (zs (zs (zs (zs (zs S 9 ((S 8 0).toNat) x1) 10 ((S 8 0).toNat) x2) 11 ((S 8 0).toNat) x3) 12 ((S 8 0).toNat) x4) 13 ((S 8 0).toNat) x5) 8 0 ((S 8 0) + 1)) := by
                      unfold fTarget
                      try simp only [Int.toNat_natCast]
                      repeat' split
                      all_goals first | rfl | (exfalso; omega)
                    exact z_ret E X hQ (⟨(congrArg (fun w => some (Value.int (i32 w.1))) ef).symm, U, by rw [ef]; exact MC_cong (S := S) rfl rfl rfl (Int.le_refl _) (fun _ _ => rfl) hC, by rw [ef]; exact X.1⟩) dX6_target_176
                · refine z_bipush E dX6_target_122 (by decide +kernel) ?_
                  refine lv_goto (tgt := 137) E.1 E.2.1 dX6_target_124 (by decide) ?_
                  refine z_iast E X (lM_11 C cA am (zs (zs S 9 ((S 8 0).toNat) x1) 10 ((S 8 0).toNat) x2) U) ((S 8 0).toNat) (by omega) (by omega) (by decide) dX6_target_137 (fun H locs X => ?_)
                  have X := ma_11 X
                  refine lv_aload_n E.1 E.2.1 dX6_target_138 rfl (lv_at hl 0 rfl) ?_
                  refine z_get E X (lM_0 C cA am (zs (zs (zs S 9 ((S 8 0).toNat) x1) 10 ((S 8 0).toNat) x2) 11 ((S 8 0).toNat) 50) U) rfl iX6 12 (by decide) (by decide +kernel) (v := .ref (am 12)) rfl dX6_target_139 ?_
                  refine lv_aload_n E.1 E.2.1 dX6_target_142 rfl (lv_at hl 0 rfl) ?_
                  refine z_get E X (lM_0 C cA am (zs (zs (zs S 9 ((S 8 0).toNat) x1) 10 ((S 8 0).toNat) x2) 11 ((S 8 0).toNat) 50) U) rfl iX6 8 (by decide) (by decide +kernel) (v := .int (i32 (S 8 0))) rfl dX6_target_143 ?_
                  refine z_top (((S 8 0).toNat : Nat) : Int) (by omega) ?_
                  refine lv_iload E.1 E.2.1 dX6_target_146 (lv_at hl 4 rfl) ?_
                  refine z_iast E X (lM_12 C cA am (zs (zs (zs S 9 ((S 8 0).toNat) x1) 10 ((S 8 0).toNat) x2) 11 ((S 8 0).toNat) 50) U) ((S 8 0).toNat) (by omega) (by omega) (by decide) dX6_target_148 (fun H locs X => ?_)
                  have X := ma_12 X
                  refine lv_aload_n E.1 E.2.1 dX6_target_149 rfl (lv_at hl 0 rfl) ?_
                  refine z_get E X (lM_0 C cA am (zs (zs (zs (zs S 9 ((S 8 0).toNat) x1) 10 ((S 8 0).toNat) x2) 11 ((S 8 0).toNat) 50) 12 ((S 8 0).toNat) x4) U) rfl iX6 13 (by decide) (by decide +kernel) (v := .ref (am 13)) rfl dX6_target_150 ?_
                  refine lv_aload_n E.1 E.2.1 dX6_target_153 rfl (lv_at hl 0 rfl) ?_
                  refine z_get E X (lM_0 C cA am (zs (zs (zs (zs S 9 ((S 8 0).toNat) x1) 10 ((S 8 0).toNat) x2) 11 ((S 8 0).toNat) 50) 12 ((S 8 0).toNat) x4) U) rfl iX6 8 (by decide) (by decide +kernel) (v := .int (i32 (S 8 0))) rfl dX6_target_154 ?_
                  refine z_top (((S 8 0).toNat : Nat) : Int) (by omega) ?_
                  refine lv_iload E.1 E.2.1 dX6_target_157 (lv_at hl 5 rfl) ?_
                  refine z_iast E X (lM_13 C cA am (zs (zs (zs (zs S 9 ((S 8 0).toNat) x1) 10 ((S 8 0).toNat) x2) 11 ((S 8 0).toNat) 50) 12 ((S 8 0).toNat) x4) U) ((S 8 0).toNat) (by omega) (by omega) (by decide) dX6_target_159 (fun H locs X => ?_)
                  have X := ma_13 X
                  refine lv_aload_n E.1 E.2.1 dX6_target_160 rfl (lv_at hl 0 rfl) ?_
                  refine lv_dup E.1 E.2.1 dX6_target_161 rfl ?_
                  refine z_get E X (lM_0 C cA am (zs (zs (zs (zs (zs S 9 ((S 8 0).toNat) x1) 10 ((S 8 0).toNat) x2) 11 ((S 8 0).toNat) 50) 12 ((S 8 0).toNat) x4) 13 ((S 8 0).toNat) x5) U) rfl iX6 8 (by decide) (by decide +kernel) (v := .int (i32 (S 8 0))) rfl dX6_target_162 ?_
                  refine z_iconst E dX6_target_165 ?_
                  refine z_iadd E dX6_target_166 ?_
                  refine z_put E X (lM_0 C cA am (zs (zs (zs (zs (zs S 9 ((S 8 0).toNat) x1) 10 ((S 8 0).toNat) x2) 11 ((S 8 0).toNat) 50) 12 ((S 8 0).toNat) x4) 13 ((S 8 0).toNat) x5) U) rfl iX6 tyX6 tyX6_ok nmX6 8 (by decide) (by decide +kernel) rfl rfl rfl (Nat.le_of_ble_eq_true rfl) dX6_target_167 (fun H locs X => ?_)
                  have X := mp_8 X
                  refine lv_aload_n E.1 E.2.1 dX6_target_170 rfl (lv_at hl 0 rfl) ?_
                  refine z_get E X (lM_0 C cA am (zs (zs (zs (zs (zs (zs S 9 ((S 8 0).toNat) x1) 10 ((S 8 0).toNat) x2) 11 ((S 8 0).toNat) 50) 12 ((S 8 0).toNat) x4) 13 ((S 8 0).toNat) x5) 8 0 ((S 8 0) + 1)) U) rfl iX6 8 (by decide) (by decide +kernel) (v := .int (i32 ((S 8 0) + 1))) rfl dX6_target_171 ?_
                  refine z_iconst E dX6_target_174 ?_
                  refine z_isub E dX6_target_175 ?_
                  refine z_top (S 8 0) (by omega) ?_
                  have ef : fTarget S x1 x2 x3 x4 x5 = (S 8 0, zs (zs (zs (zs (zs (zs S 9 ((S 8 0).toNat) x1) 10 ((S 8 0).toNat) x2) 11 ((S 8 0).toNat) 50) 12 ((S 8 0).toNat) x4) 13 ((S 8 0).toNat) x5) 8 0 ((S 8 0) + 1)) := by
                    unfold fTarget
                    try simp only [Int.toNat_natCast]
                    repeat' split
                    all_goals first | rfl | (exfalso; omega)
                  exact z_ret E X hQ (⟨(congrArg (fun w => some (Value.int (i32 w.1))) ef).symm, U, by rw [ef]; exact MC_cong (S := S) rfl rfl rfl (Int.le_refl _) (fun _ _ => rfl) hC, by rw [ef]; exact X.1⟩) dX6_target_176
              · refine z_iconst E dX6_target_103 ?_
                refine lv_goto (tgt := 108) E.1 E.2.1 dX6_target_104 (by decide) ?_
                refine z_iast E X (lM_10 C cA am (zs S 9 ((S 8 0).toNat) x1) U) ((S 8 0).toNat) (by omega) (by omega) (by decide) dX6_target_108 (fun H locs X => ?_)
                have X := ma_10 X
                refine lv_aload_n E.1 E.2.1 dX6_target_109 rfl (lv_at hl 0 rfl) ?_
                refine z_get E X (lM_0 C cA am (zs (zs S 9 ((S 8 0).toNat) x1) 10 ((S 8 0).toNat) 0) U) rfl iX6 11 (by decide) (by decide +kernel) (v := .ref (am 11)) rfl dX6_target_110 ?_
                refine lv_aload_n E.1 E.2.1 dX6_target_113 rfl (lv_at hl 0 rfl) ?_
                refine z_get E X (lM_0 C cA am (zs (zs S 9 ((S 8 0).toNat) x1) 10 ((S 8 0).toNat) 0) U) rfl iX6 8 (by decide) (by decide +kernel) (v := .int (i32 (S 8 0))) rfl dX6_target_114 ?_
                refine z_top (((S 8 0).toNat : Nat) : Int) (by omega) ?_
                refine lv_iload_n E.1 E.2.1 dX6_target_117 rfl (lv_at hl 1 rfl) ?_
                refine z_iconst E dX6_target_118 ?_
                refine z_cne E 127 ⟨by omega, by omega⟩ ⟨by omega, by omega⟩ dX6_target_119 (by decide) (fun h119_25 => ?_) (fun h119_25 => ?_)
                · refine lv_iload_n E.1 E.2.1 dX6_target_127 rfl (lv_at hl 1 rfl) ?_
                  refine z_iconst E dX6_target_128 ?_
                  refine z_cne E 136 ⟨by omega, by omega⟩ ⟨by omega, by omega⟩ dX6_target_129 (by decide) (fun h129_26 => ?_) (fun h129_26 => ?_)
                  · refine lv_iload_n E.1 E.2.1 dX6_target_136 rfl (lv_at hl 2 rfl) ?_
                    refine z_iast E X (lM_11 C cA am (zs (zs S 9 ((S 8 0).toNat) x1) 10 ((S 8 0).toNat) 0) U) ((S 8 0).toNat) (by omega) (by omega) (by decide) dX6_target_137 (fun H locs X => ?_)
                    have X := ma_11 X
                    refine lv_aload_n E.1 E.2.1 dX6_target_138 rfl (lv_at hl 0 rfl) ?_
                    refine z_get E X (lM_0 C cA am (zs (zs (zs S 9 ((S 8 0).toNat) x1) 10 ((S 8 0).toNat) 0) 11 ((S 8 0).toNat) x2) U) rfl iX6 12 (by decide) (by decide +kernel) (v := .ref (am 12)) rfl dX6_target_139 ?_
                    refine lv_aload_n E.1 E.2.1 dX6_target_142 rfl (lv_at hl 0 rfl) ?_
                    refine z_get E X (lM_0 C cA am (zs (zs (zs S 9 ((S 8 0).toNat) x1) 10 ((S 8 0).toNat) 0) 11 ((S 8 0).toNat) x2) U) rfl iX6 8 (by decide) (by decide +kernel) (v := .int (i32 (S 8 0))) rfl dX6_target_143 ?_
                    refine z_top (((S 8 0).toNat : Nat) : Int) (by omega) ?_
                    refine lv_iload E.1 E.2.1 dX6_target_146 (lv_at hl 4 rfl) ?_
                    refine z_iast E X (lM_12 C cA am (zs (zs (zs S 9 ((S 8 0).toNat) x1) 10 ((S 8 0).toNat) 0) 11 ((S 8 0).toNat) x2) U) ((S 8 0).toNat) (by omega) (by omega) (by decide) dX6_target_148 (fun H locs X => ?_)
                    have X := ma_12 X
                    refine lv_aload_n E.1 E.2.1 dX6_target_149 rfl (lv_at hl 0 rfl) ?_
                    refine z_get E X (lM_0 C cA am (zs (zs (zs (zs S 9 ((S 8 0).toNat) x1) 10 ((S 8 0).toNat) 0) 11 ((S 8 0).toNat) x2) 12 ((S 8 0).toNat) x4) U) rfl iX6 13 (by decide) (by decide +kernel) (v := .ref (am 13)) rfl dX6_target_150 ?_
                    refine lv_aload_n E.1 E.2.1 dX6_target_153 rfl (lv_at hl 0 rfl) ?_
                    refine z_get E X (lM_0 C cA am (zs (zs (zs (zs S 9 ((S 8 0).toNat) x1) 10 ((S 8 0).toNat) 0) 11 ((S 8 0).toNat) x2) 12 ((S 8 0).toNat) x4) U) rfl iX6 8 (by decide) (by decide +kernel) (v := .int (i32 (S 8 0))) rfl dX6_target_154 ?_
                    refine z_top (((S 8 0).toNat : Nat) : Int) (by omega) ?_
                    refine lv_iload E.1 E.2.1 dX6_target_157 (lv_at hl 5 rfl) ?_
                    refine z_iast E X (lM_13 C cA am (zs (zs (zs (zs S 9 ((S 8 0).toNat) x1) 10 ((S 8 0).toNat) 0) 11 ((S 8 0).toNat) x2) 12 ((S 8 0).toNat) x4) U) ((S 8 0).toNat) (by omega) (by omega) (by decide) dX6_target_159 (fun H locs X => ?_)
                    have X := ma_13 X
                    refine lv_aload_n E.1 E.2.1 dX6_target_160 rfl (lv_at hl 0 rfl) ?_
                    refine lv_dup E.1 E.2.1 dX6_target_161 rfl ?_
                    refine z_get E X (lM_0 C cA am (zs (zs (zs (zs (zs S 9 ((S 8 0).toNat) x1) 10 ((S 8 0).toNat) 0) 11 ((S 8 0).toNat) x2) 12 ((S 8 0).toNat) x4) 13 ((S 8 0).toNat) x5) U) rfl iX6 8 (by decide) (by decide +kernel) (v := .int (i32 (S 8 0))) rfl dX6_target_162 ?_
                    refine z_iconst E dX6_target_165 ?_
                    refine z_iadd E dX6_target_166 ?_
                    refine z_put E X (lM_0 C cA am (zs (zs (zs (zs (zs S 9 ((S 8 0).toNat) x1) 10 ((S 8 0).toNat) 0) 11 ((S 8 0).toNat) x2) 12 ((S 8 0).toNat) x4) 13 ((S 8 0).toNat) x5) U) rfl iX6 tyX6 tyX6_ok nmX6 8 (by decide) (by decide +kernel) rfl rfl rfl (Nat.le_of_ble_eq_true rfl) dX6_target_167 (fun H locs X => ?_)
                    have X := mp_8 X
                    refine lv_aload_n E.1 E.2.1 dX6_target_170 rfl (lv_at hl 0 rfl) ?_
                    refine z_get E X (lM_0 C cA am (zs (zs (zs (zs (zs (zs S 9 ((S 8 0).toNat) x1) 10 ((S 8 0).toNat) 0) 11 ((S 8 0).toNat) x2) 12 ((S 8 0).toNat) x4) 13 ((S 8 0).toNat) x5) 8 0 ((S 8 0) + 1)) U) rfl iX6 8 (by decide) (by decide +kernel) (v := .int (i32 ((S 8 0) + 1))) rfl dX6_target_171 ?_
                    refine z_iconst E dX6_target_174 ?_
                    refine z_isub E dX6_target_175 ?_
                    refine z_top (S 8 0) (by omega) ?_
                    have ef : fTarget S x1 x2 x3 x4 x5 = (S 8 0, zs (zs (zs (zs (zs (zs S 9 ((S 8 0).toNat) x1) 10 ((S 8 0).toNat) 0) 11 ((S 8 0).toNat) x2) 12 ((S 8 0).toNat) x4) 13 ((S 8 0).toNat) x5) 8 0 ((S 8 0) + 1)) := by
                      unfold fTarget
                      try simp only [Int.toNat_natCast]
                      repeat' split
                      all_goals first | rfl | (exfalso; omega)
                    exact z_ret E X hQ (⟨(congrArg (fun w => some (Value.int (i32 w.1))) ef).symm, U, by rw [ef]; exact MC_cong (S := S) rfl rfl rfl (Int.le_refl _) (fun _ _ => rfl) hC, by rw [ef]; exact X.1⟩) dX6_target_176
                  · refine lv_iload_n E.1 E.2.1 dX6_target_132 rfl (lv_at hl 3 rfl) ?_
                    refine lv_goto (tgt := 137) E.1 E.2.1 dX6_target_133 (by decide) ?_
                    refine z_iast E X (lM_11 C cA am (zs (zs S 9 ((S 8 0).toNat) x1) 10 ((S 8 0).toNat) 0) U) ((S 8 0).toNat) (by omega) (by omega) (by decide) dX6_target_137 (fun H locs X => ?_)
                    have X := ma_11 X
                    refine lv_aload_n E.1 E.2.1 dX6_target_138 rfl (lv_at hl 0 rfl) ?_
                    refine z_get E X (lM_0 C cA am (zs (zs (zs S 9 ((S 8 0).toNat) x1) 10 ((S 8 0).toNat) 0) 11 ((S 8 0).toNat) x3) U) rfl iX6 12 (by decide) (by decide +kernel) (v := .ref (am 12)) rfl dX6_target_139 ?_
                    refine lv_aload_n E.1 E.2.1 dX6_target_142 rfl (lv_at hl 0 rfl) ?_
                    refine z_get E X (lM_0 C cA am (zs (zs (zs S 9 ((S 8 0).toNat) x1) 10 ((S 8 0).toNat) 0) 11 ((S 8 0).toNat) x3) U) rfl iX6 8 (by decide) (by decide +kernel) (v := .int (i32 (S 8 0))) rfl dX6_target_143 ?_
                    refine z_top (((S 8 0).toNat : Nat) : Int) (by omega) ?_
                    refine lv_iload E.1 E.2.1 dX6_target_146 (lv_at hl 4 rfl) ?_
                    refine z_iast E X (lM_12 C cA am (zs (zs (zs S 9 ((S 8 0).toNat) x1) 10 ((S 8 0).toNat) 0) 11 ((S 8 0).toNat) x3) U) ((S 8 0).toNat) (by omega) (by omega) (by decide) dX6_target_148 (fun H locs X => ?_)
                    have X := ma_12 X
                    refine lv_aload_n E.1 E.2.1 dX6_target_149 rfl (lv_at hl 0 rfl) ?_
                    refine z_get E X (lM_0 C cA am (zs (zs (zs (zs S 9 ((S 8 0).toNat) x1) 10 ((S 8 0).toNat) 0) 11 ((S 8 0).toNat) x3) 12 ((S 8 0).toNat) x4) U) rfl iX6 13 (by decide) (by decide +kernel) (v := .ref (am 13)) rfl dX6_target_150 ?_
                    refine lv_aload_n E.1 E.2.1 dX6_target_153 rfl (lv_at hl 0 rfl) ?_
                    refine z_get E X (lM_0 C cA am (zs (zs (zs (zs S 9 ((S 8 0).toNat) x1) 10 ((S 8 0).toNat) 0) 11 ((S 8 0).toNat) x3) 12 ((S 8 0).toNat) x4) U) rfl iX6 8 (by decide) (by decide +kernel) (v := .int (i32 (S 8 0))) rfl dX6_target_154 ?_
                    refine z_top (((S 8 0).toNat : Nat) : Int) (by omega) ?_
                    refine lv_iload E.1 E.2.1 dX6_target_157 (lv_at hl 5 rfl) ?_
                    refine z_iast E X (lM_13 C cA am (zs (zs (zs (zs S 9 ((S 8 0).toNat) x1) 10 ((S 8 0).toNat) 0) 11 ((S 8 0).toNat) x3) 12 ((S 8 0).toNat) x4) U) ((S 8 0).toNat) (by omega) (by omega) (by decide) dX6_target_159 (fun H locs X => ?_)
                    have X := ma_13 X
                    refine lv_aload_n E.1 E.2.1 dX6_target_160 rfl (lv_at hl 0 rfl) ?_
                    refine lv_dup E.1 E.2.1 dX6_target_161 rfl ?_
                    refine z_get E X (lM_0 C cA am (zs (zs (zs (zs (zs S 9 ((S 8 0).toNat) x1) 10 ((S 8 0).toNat) 0) 11 ((S 8 0).toNat) x3) 12 ((S 8 0).toNat) x4) 13 ((S 8 0).toNat) x5) U) rfl iX6 8 (by decide) (by decide +kernel) (v := .int (i32 (S 8 0))) rfl dX6_target_162 ?_
                    refine z_iconst E dX6_target_165 ?_
                    refine z_iadd E dX6_target_166 ?_
                    refine z_put E X (lM_0 C cA am (zs (zs (zs (zs (zs S 9 ((S 8 0).toNat) x1) 10 ((S 8 0).toNat) 0) 11 ((S 8 0).toNat) x3) 12 ((S 8 0).toNat) x4) 13 ((S 8 0).toNat) x5) U) rfl iX6 tyX6 tyX6_ok nmX6 8 (by decide) (by decide +kernel) rfl rfl rfl (Nat.le_of_ble_eq_true rfl) dX6_target_167 (fun H locs X => ?_)
                    have X := mp_8 X
                    refine lv_aload_n E.1 E.2.1 dX6_target_170 rfl (lv_at hl 0 rfl) ?_
                    refine z_get E X (lM_0 C cA am (zs (zs (zs (zs (zs (zs S 9 ((S 8 0).toNat) x1) 10 ((S 8 0).toNat) 0) 11 ((S 8 0).toNat) x3) 12 ((S 8 0).toNat) x4) 13 ((S 8 0).toNat) x5) 8 0 ((S 8 0) + 1)) U) rfl iX6 8 (by decide) (by decide +kernel) (v := .int (i32 ((S 8 0) + 1))) rfl dX6_target_171 ?_
                    refine z_iconst E dX6_target_174 ?_
                    refine z_isub E dX6_target_175 ?_
                    refine z_top (S 8 0) (by omega) ?_
                    have ef : fTarget S x1 x2 x3 x4 x5 = (S 8 0, zs (zs (zs (zs (zs (zs S 9 ((S 8 0).toNat) x1) 10 ((S 8 0).toNat) 0) 11 ((S 8 0).toNat) x3) 12 ((S 8 0).toNat) x4) 13 ((S 8 0).toNat) x5) 8 0 ((S 8 0) + 1)) := by
                      unfold fTarget
                      try simp only [Int.toNat_natCast]
                      repeat' split
                      all_goals first | rfl | (exfalso; omega)
                    exact z_ret E X hQ (⟨(congrArg (fun w => some (Value.int (i32 w.1))) ef).symm, U, by rw [ef]; exact MC_cong (S := S) rfl rfl rfl (Int.le_refl _) (fun _ _ => rfl) hC, by rw [ef]; exact X.1⟩) dX6_target_176
                · refine z_bipush E dX6_target_122 (by decide +kernel) ?_
                  refine lv_goto (tgt := 137) E.1 E.2.1 dX6_target_124 (by decide) ?_
                  refine z_iast E X (lM_11 C cA am (zs (zs S 9 ((S 8 0).toNat) x1) 10 ((S 8 0).toNat) 0) U) ((S 8 0).toNat) (by omega) (by omega) (by decide) dX6_target_137 (fun H locs X => ?_)
                  have X := ma_11 X
                  refine lv_aload_n E.1 E.2.1 dX6_target_138 rfl (lv_at hl 0 rfl) ?_
                  refine z_get E X (lM_0 C cA am (zs (zs (zs S 9 ((S 8 0).toNat) x1) 10 ((S 8 0).toNat) 0) 11 ((S 8 0).toNat) 50) U) rfl iX6 12 (by decide) (by decide +kernel) (v := .ref (am 12)) rfl dX6_target_139 ?_
                  refine lv_aload_n E.1 E.2.1 dX6_target_142 rfl (lv_at hl 0 rfl) ?_
                  refine z_get E X (lM_0 C cA am (zs (zs (zs S 9 ((S 8 0).toNat) x1) 10 ((S 8 0).toNat) 0) 11 ((S 8 0).toNat) 50) U) rfl iX6 8 (by decide) (by decide +kernel) (v := .int (i32 (S 8 0))) rfl dX6_target_143 ?_
                  refine z_top (((S 8 0).toNat : Nat) : Int) (by omega) ?_
                  refine lv_iload E.1 E.2.1 dX6_target_146 (lv_at hl 4 rfl) ?_
                  refine z_iast E X (lM_12 C cA am (zs (zs (zs S 9 ((S 8 0).toNat) x1) 10 ((S 8 0).toNat) 0) 11 ((S 8 0).toNat) 50) U) ((S 8 0).toNat) (by omega) (by omega) (by decide) dX6_target_148 (fun H locs X => ?_)
                  have X := ma_12 X
                  refine lv_aload_n E.1 E.2.1 dX6_target_149 rfl (lv_at hl 0 rfl) ?_
                  refine z_get E X (lM_0 C cA am (zs (zs (zs (zs S 9 ((S 8 0).toNat) x1) 10 ((S 8 0).toNat) 0) 11 ((S 8 0).toNat) 50) 12 ((S 8 0).toNat) x4) U) rfl iX6 13 (by decide) (by decide +kernel) (v := .ref (am 13)) rfl dX6_target_150 ?_
                  refine lv_aload_n E.1 E.2.1 dX6_target_153 rfl (lv_at hl 0 rfl) ?_
                  refine z_get E X (lM_0 C cA am (zs (zs (zs (zs S 9 ((S 8 0).toNat) x1) 10 ((S 8 0).toNat) 0) 11 ((S 8 0).toNat) 50) 12 ((S 8 0).toNat) x4) U) rfl iX6 8 (by decide) (by decide +kernel) (v := .int (i32 (S 8 0))) rfl dX6_target_154 ?_
                  refine z_top (((S 8 0).toNat : Nat) : Int) (by omega) ?_
                  refine lv_iload E.1 E.2.1 dX6_target_157 (lv_at hl 5 rfl) ?_
                  refine z_iast E X (lM_13 C cA am (zs (zs (zs (zs S 9 ((S 8 0).toNat) x1) 10 ((S 8 0).toNat) 0) 11 ((S 8 0).toNat) 50) 12 ((S 8 0).toNat) x4) U) ((S 8 0).toNat) (by omega) (by omega) (by decide) dX6_target_159 (fun H locs X => ?_)
                  have X := ma_13 X
                  refine lv_aload_n E.1 E.2.1 dX6_target_160 rfl (lv_at hl 0 rfl) ?_
                  refine lv_dup E.1 E.2.1 dX6_target_161 rfl ?_
                  refine z_get E X (lM_0 C cA am (zs (zs (zs (zs (zs S 9 ((S 8 0).toNat) x1) 10 ((S 8 0).toNat) 0) 11 ((S 8 0).toNat) 50) 12 ((S 8 0).toNat) x4) 13 ((S 8 0).toNat) x5) U) rfl iX6 8 (by decide) (by decide +kernel) (v := .int (i32 (S 8 0))) rfl dX6_target_162 ?_
                  refine z_iconst E dX6_target_165 ?_
                  refine z_iadd E dX6_target_166 ?_
                  refine z_put E X (lM_0 C cA am (zs (zs (zs (zs (zs S 9 ((S 8 0).toNat) x1) 10 ((S 8 0).toNat) 0) 11 ((S 8 0).toNat) 50) 12 ((S 8 0).toNat) x4) 13 ((S 8 0).toNat) x5) U) rfl iX6 tyX6 tyX6_ok nmX6 8 (by decide) (by decide +kernel) rfl rfl rfl (Nat.le_of_ble_eq_true rfl) dX6_target_167 (fun H locs X => ?_)
                  have X := mp_8 X
                  refine lv_aload_n E.1 E.2.1 dX6_target_170 rfl (lv_at hl 0 rfl) ?_
                  refine z_get E X (lM_0 C cA am (zs (zs (zs (zs (zs (zs S 9 ((S 8 0).toNat) x1) 10 ((S 8 0).toNat) 0) 11 ((S 8 0).toNat) 50) 12 ((S 8 0).toNat) x4) 13 ((S 8 0).toNat) x5) 8 0 ((S 8 0) + 1)) U) rfl iX6 8 (by decide) (by decide +kernel) (v := .int (i32 ((S 8 0) + 1))) rfl dX6_target_171 ?_
                  refine z_iconst E dX6_target_174 ?_
                  refine z_isub E dX6_target_175 ?_
                  refine z_top (S 8 0) (by omega) ?_
                  have ef : fTarget S x1 x2 x3 x4 x5 = (S 8 0, zs (zs (zs (zs (zs (zs S 9 ((S 8 0).toNat) x1) 10 ((S 8 0).toNat) 0) 11 ((S 8 0).toNat) 50) 12 ((S 8 0).toNat) x4) 13 ((S 8 0).toNat) x5) 8 0 ((S 8 0) + 1)) := by
                    unfold fTarget
                    try simp only [Int.toNat_natCast]
                    repeat' split
                    all_goals first | rfl | (exfalso; omega)
                  exact z_ret E X hQ (⟨(congrArg (fun w => some (Value.int (i32 w.1))) ef).symm, U, by rw [ef]; exact MC_cong (S := S) rfl rfl rfl (Int.le_refl _) (fun _ _ => rfl) hC, by rw [ef]; exact X.1⟩) dX6_target_176
            · refine z_bipush E dX6_target_77 (by decide +kernel) ?_
              have ef : fTarget S x1 x2 x3 x4 x5 = (-4, S) := by
                unfold fTarget
                try simp only [Int.toNat_natCast]
                repeat' split
                all_goals first | rfl | (exfalso; omega)
              exact z_ret E X hQ (⟨(congrArg (fun w => some (Value.int (i32 w.1))) ef).symm, U, by rw [ef]; exact hC, by rw [ef]; exact X.1⟩) dX6_target_79
          · refine z_bipush E dX6_target_65 (by decide +kernel) ?_
            have ef : fTarget S x1 x2 x3 x4 x5 = (-2, S) := by
              unfold fTarget
              try simp only [Int.toNat_natCast]
              repeat' split
              all_goals first | rfl | (exfalso; omega)
            exact z_ret E X hQ (⟨(congrArg (fun w => some (Value.int (i32 w.1))) ef).symm, U, by rw [ef]; exact hC, by rw [ef]; exact X.1⟩) dX6_target_67
    · refine lv_aload_n E.1 E.2.1 dX6_target_22 rfl (lv_at hl 0 rfl) ?_
      refine lv_iload_n E.1 E.2.1 dX6_target_23 rfl (lv_at hl 2 rfl) ?_
      refine lv_iload E.1 E.2.1 dX6_target_24 (lv_at hl 4 rfl) ?_
      refine z_callV (As := [.int (i32 x2), .int (i32 x4)]) (rest := []) (n := 2) E X (lM_0 C cA am S U) rfl (m_isPlace l D cA B0 C am S U hI.1 x2 x4 ⟨by omega, by omega⟩ ⟨by omega, by omega⟩) gX6_target_X6_isPlace rfl (by decide +kernel) ⟨by decide, by decide⟩ rfl hl.1 rfl (Nat.le_of_ble_eq_true rfl) dX6_target_26 ⟨by decide, by decide⟩ X.1 0 0 ⟨rfl, rfl⟩ (fun v H locs hv hS_27 => ?_)
      obtain ⟨⟨z_28, rfl, ez_28⟩, hw⟩ := hv
      replace X : zX D B0 (zj C (layM cA am S U)) s.heap H locs := ⟨hw, hS_27⟩
      refine z_feq E 65 ⟨by omega, by omega⟩ dX6_target_29 (by decide) (fun h29_29 => ?_) (fun h29_29 => ?_)
      · refine z_bipush E dX6_target_65 (by decide +kernel) ?_
        have ef : fTarget S x1 x2 x3 x4 x5 = (-2, S) := by
          unfold fTarget
          try simp only [Int.toNat_natCast]
          repeat' split
          all_goals first | rfl | (exfalso; omega)
        exact z_ret E X hQ (⟨(congrArg (fun w => some (Value.int (i32 w.1))) ef).symm, U, by rw [ef]; exact hC, by rw [ef]; exact X.1⟩) dX6_target_67
      · refine lv_iload_n E.1 E.2.1 dX6_target_32 rfl (lv_at hl 1 rfl) ?_
        refine z_iconst E dX6_target_33 ?_
        refine z_cne E 50 ⟨by omega, by omega⟩ ⟨by omega, by omega⟩ dX6_target_34 (by decide) (fun h34_30 => ?_) (fun h34_30 => ?_)
        · refine lv_iload E.1 E.2.1 dX6_target_50 (lv_at hl 5 rfl) ?_
          refine z_i2l E ⟨by omega, by omega⟩ dX6_target_52 ?_
          refine z_ldc2 (v := (-1000)) (z := -1000) E (by decide +kernel) (by decide +kernel) dX6_target_53 ?_
          refine z_ldc2 (v := 1000) (z := 1000) E (by decide +kernel) (by decide +kernel) dX6_target_56 ?_
          refine z_callJ (As := [.long (i64 x5), .long (i64 (-1000)), .long (i64 1000)]) (rest := []) (n := 3) E X (c_in l D cA B0 _ x5 (-1000) 1000 ⟨by omega, by omega⟩ ⟨by omega, by omega⟩ ⟨by omega, by omega⟩) gX6_target_X6_in rfl (by decide +kernel) ⟨by decide, by decide⟩ rfl hl.1 rfl (Nat.le_of_ble_eq_true rfl) dX6_target_59 ⟨by decide, by decide⟩ rfl 0 0 ⟨rfl, rfl⟩ (fun v H locs hv hS_31 => ?_)
          obtain ⟨hH, z_32, rfl, ez_32⟩ := hv
          subst hH
          replace X := X.same hS_31
          refine z_fne E 68 ⟨by omega, by omega⟩ dX6_target_62 (by decide) (fun h62_33 => ?_) (fun h62_33 => ?_)
          · refine lv_aload_n E.1 E.2.1 dX6_target_68 rfl (lv_at hl 0 rfl) ?_
            refine z_get E X (lM_0 C cA am S U) rfl iX6 8 (by decide) (by decide +kernel) (v := .int (i32 (S 8 0))) rfl dX6_target_69 ?_
            refine z_bipush E dX6_target_72 (by decide +kernel) ?_
            refine z_cne E 80 ⟨by omega, by omega⟩ ⟨by omega, by omega⟩ dX6_target_74 (by decide) (fun h74_34 => ?_) (fun h74_34 => ?_)
            · refine lv_aload_n E.1 E.2.1 dX6_target_80 rfl (lv_at hl 0 rfl) ?_
              refine z_get E X (lM_0 C cA am S U) rfl iX6 9 (by decide) (by decide +kernel) (v := .ref (am 9)) rfl dX6_target_81 ?_
              refine lv_aload_n E.1 E.2.1 dX6_target_84 rfl (lv_at hl 0 rfl) ?_
              refine z_get E X (lM_0 C cA am S U) rfl iX6 8 (by decide) (by decide +kernel) (v := .int (i32 (S 8 0))) rfl dX6_target_85 ?_
              refine z_top (((S 8 0).toNat : Nat) : Int) (by omega) ?_
              refine lv_iload_n E.1 E.2.1 dX6_target_88 rfl (lv_at hl 1 rfl) ?_
              refine z_iast E X (lM_9 C cA am S U) ((S 8 0).toNat) (by omega) (by omega) (by decide) dX6_target_89 (fun H locs X => ?_)
              have X := ma_9 X
              refine lv_aload_n E.1 E.2.1 dX6_target_90 rfl (lv_at hl 0 rfl) ?_
              refine z_get E X (lM_0 C cA am (zs S 9 ((S 8 0).toNat) x1) U) rfl iX6 10 (by decide) (by decide +kernel) (v := .ref (am 10)) rfl dX6_target_91 ?_
              refine lv_aload_n E.1 E.2.1 dX6_target_94 rfl (lv_at hl 0 rfl) ?_
              refine z_get E X (lM_0 C cA am (zs S 9 ((S 8 0).toNat) x1) U) rfl iX6 8 (by decide) (by decide +kernel) (v := .int (i32 (S 8 0))) rfl dX6_target_95 ?_
              refine z_top (((S 8 0).toNat : Nat) : Int) (by omega) ?_
              refine lv_iload_n E.1 E.2.1 dX6_target_98 rfl (lv_at hl 1 rfl) ?_
              refine z_iconst E dX6_target_99 ?_
              refine z_cne E 107 ⟨by omega, by omega⟩ ⟨by omega, by omega⟩ dX6_target_100 (by decide) (fun h100_35 => ?_) (fun h100_35 => ?_)
              · refine lv_iload_n E.1 E.2.1 dX6_target_107 rfl (lv_at hl 2 rfl) ?_
                refine z_iast E X (lM_10 C cA am (zs S 9 ((S 8 0).toNat) x1) U) ((S 8 0).toNat) (by omega) (by omega) (by decide) dX6_target_108 (fun H locs X => ?_)
                have X := ma_10 X
                refine lv_aload_n E.1 E.2.1 dX6_target_109 rfl (lv_at hl 0 rfl) ?_
                refine z_get E X (lM_0 C cA am (zs (zs S 9 ((S 8 0).toNat) x1) 10 ((S 8 0).toNat) x2) U) rfl iX6 11 (by decide) (by decide +kernel) (v := .ref (am 11)) rfl dX6_target_110 ?_
                refine lv_aload_n E.1 E.2.1 dX6_target_113 rfl (lv_at hl 0 rfl) ?_
                refine z_get E X (lM_0 C cA am (zs (zs S 9 ((S 8 0).toNat) x1) 10 ((S 8 0).toNat) x2) U) rfl iX6 8 (by decide) (by decide +kernel) (v := .int (i32 (S 8 0))) rfl dX6_target_114 ?_
                refine z_top (((S 8 0).toNat : Nat) : Int) (by omega) ?_
                refine lv_iload_n E.1 E.2.1 dX6_target_117 rfl (lv_at hl 1 rfl) ?_
                refine z_iconst E dX6_target_118 ?_
                refine z_cne E 127 ⟨by omega, by omega⟩ ⟨by omega, by omega⟩ dX6_target_119 (by decide) (fun h119_36 => ?_) (fun h119_36 => ?_)
                · refine lv_iload_n E.1 E.2.1 dX6_target_127 rfl (lv_at hl 1 rfl) ?_
                  refine z_iconst E dX6_target_128 ?_
                  refine z_cne E 136 ⟨by omega, by omega⟩ ⟨by omega, by omega⟩ dX6_target_129 (by decide) (fun h129_37 => ?_) (fun h129_37 => ?_)
                  · refine lv_iload_n E.1 E.2.1 dX6_target_136 rfl (lv_at hl 2 rfl) ?_
                    refine z_iast E X (lM_11 C cA am (zs (zs S 9 ((S 8 0).toNat) x1) 10 ((S 8 0).toNat) x2) U) ((S 8 0).toNat) (by omega) (by omega) (by decide) dX6_target_137 (fun H locs X => ?_)
                    have X := ma_11 X
                    refine lv_aload_n E.1 E.2.1 dX6_target_138 rfl (lv_at hl 0 rfl) ?_
                    refine z_get E X (lM_0 C cA am (zs (zs (zs S 9 ((S 8 0).toNat) x1) 10 ((S 8 0).toNat) x2) 11 ((S 8 0).toNat) x2) U) rfl iX6 12 (by decide) (by decide +kernel) (v := .ref (am 12)) rfl dX6_target_139 ?_
                    refine lv_aload_n E.1 E.2.1 dX6_target_142 rfl (lv_at hl 0 rfl) ?_
                    refine z_get E X (lM_0 C cA am (zs (zs (zs S 9 ((S 8 0).toNat) x1) 10 ((S 8 0).toNat) x2) 11 ((S 8 0).toNat) x2) U) rfl iX6 8 (by decide) (by decide +kernel) (v := .int (i32 (S 8 0))) rfl dX6_target_143 ?_
                    refine z_top (((S 8 0).toNat : Nat) : Int) (by omega) ?_
                    refine lv_iload E.1 E.2.1 dX6_target_146 (lv_at hl 4 rfl) ?_
                    refine z_iast E X (lM_12 C cA am (zs (zs (zs S 9 ((S 8 0).toNat) x1) 10 ((S 8 0).toNat) x2) 11 ((S 8 0).toNat) x2) U) ((S 8 0).toNat) (by omega) (by omega) (by decide) dX6_target_148 (fun H locs X => ?_)
                    have X := ma_12 X
                    refine lv_aload_n E.1 E.2.1 dX6_target_149 rfl (lv_at hl 0 rfl) ?_
                    refine z_get E X (lM_0 C cA am (zs (zs (zs (zs S 9 ((S 8 0).toNat) x1) 10 ((S 8 0).toNat) x2) 11 ((S 8 0).toNat) x2) 12 ((S 8 0).toNat) x4) U) rfl iX6 13 (by decide) (by decide +kernel) (v := .ref (am 13)) rfl dX6_target_150 ?_
                    refine lv_aload_n E.1 E.2.1 dX6_target_153 rfl (lv_at hl 0 rfl) ?_
                    refine z_get E X (lM_0 C cA am (zs (zs (zs (zs S 9 ((S 8 0).toNat) x1) 10 ((S 8 0).toNat) x2) 11 ((S 8 0).toNat) x2) 12 ((S 8 0).toNat) x4) U) rfl iX6 8 (by decide) (by decide +kernel) (v := .int (i32 (S 8 0))) rfl dX6_target_154 ?_
                    refine z_top (((S 8 0).toNat : Nat) : Int) (by omega) ?_
                    refine lv_iload E.1 E.2.1 dX6_target_157 (lv_at hl 5 rfl) ?_
                    refine z_iast E X (lM_13 C cA am (zs (zs (zs (zs S 9 ((S 8 0).toNat) x1) 10 ((S 8 0).toNat) x2) 11 ((S 8 0).toNat) x2) 12 ((S 8 0).toNat) x4) U) ((S 8 0).toNat) (by omega) (by omega) (by decide) dX6_target_159 (fun H locs X => ?_)
                    have X := ma_13 X
                    refine lv_aload_n E.1 E.2.1 dX6_target_160 rfl (lv_at hl 0 rfl) ?_
                    refine lv_dup E.1 E.2.1 dX6_target_161 rfl ?_
                    refine z_get E X (lM_0 C cA am (zs (zs (zs (zs (zs S 9 ((S 8 0).toNat) x1) 10 ((S 8 0).toNat) x2) 11 ((S 8 0).toNat) x2) 12 ((S 8 0).toNat) x4) 13 ((S 8 0).toNat) x5) U) rfl iX6 8 (by decide) (by decide +kernel) (v := .int (i32 (S 8 0))) rfl dX6_target_162 ?_
                    refine z_iconst E dX6_target_165 ?_
                    refine z_iadd E dX6_target_166 ?_
                    refine z_put E X (lM_0 C cA am (zs (zs (zs (zs (zs S 9 ((S 8 0).toNat) x1) 10 ((S 8 0).toNat) x2) 11 ((S 8 0).toNat) x2) 12 ((S 8 0).toNat) x4) 13 ((S 8 0).toNat) x5) U) rfl iX6 tyX6 tyX6_ok nmX6 8 (by decide) (by decide +kernel) rfl rfl rfl (Nat.le_of_ble_eq_true rfl) dX6_target_167 (fun H locs X => ?_)
                    have X := mp_8 X
                    refine lv_aload_n E.1 E.2.1 dX6_target_170 rfl (lv_at hl 0 rfl) ?_
                    refine z_get E X (lM_0 C cA am (zs (zs (zs (zs (zs (zs S 9 ((S 8 0).toNat) x1) 10 ((S 8 0).toNat) x2) 11 ((S 8 0).toNat) x2) 12 ((S 8 0).toNat) x4) 13 ((S 8 0).toNat) x5) 8 0 ((S 8 0) + 1)) U) rfl iX6 8 (by decide) (by decide +kernel) (v := .int (i32 ((S 8 0) + 1))) rfl dX6_target_171 ?_
                    refine z_iconst E dX6_target_174 ?_
                    refine z_isub E dX6_target_175 ?_
                    refine z_top (S 8 0) (by omega) ?_
                    have ef : fTarget S x1 x2 x3 x4 x5 = (S 8 0, zs (zs (zs (zs (zs (zs S 9 ((S 8 0).toNat) x1) 10 ((S 8 0).toNat) x2) 11 ((S 8 0).toNat) x2) 12 ((S 8 0).toNat) x4) 13 ((S 8 0).toNat) x5) 8 0 ((S 8 0) + 1)) := by
                      unfold fTarget
                      try simp only [Int.toNat_natCast]
                      repeat' split
                      all_goals first | rfl | (exfalso; omega)
                    exact z_ret E X hQ (⟨(congrArg (fun w => some (Value.int (i32 w.1))) ef).symm, U, by rw [ef]; exact MC_cong (S := S) rfl rfl rfl (Int.le_refl _) (fun _ _ => rfl) hC, by rw [ef]; exact X.1⟩) dX6_target_176
                  · refine lv_iload_n E.1 E.2.1 dX6_target_132 rfl (lv_at hl 3 rfl) ?_
                    refine lv_goto (tgt := 137) E.1 E.2.1 dX6_target_133 (by decide) ?_
                    refine z_iast E X (lM_11 C cA am (zs (zs S 9 ((S 8 0).toNat) x1) 10 ((S 8 0).toNat) x2) U) ((S 8 0).toNat) (by omega) (by omega) (by decide) dX6_target_137 (fun H locs X => ?_)
                    have X := ma_11 X
                    refine lv_aload_n E.1 E.2.1 dX6_target_138 rfl (lv_at hl 0 rfl) ?_
                    refine z_get E X (lM_0 C cA am (zs (zs (zs S 9 ((S 8 0).toNat) x1) 10 ((S 8 0).toNat) x2) 11 ((S 8 0).toNat) x3) U) rfl iX6 12 (by decide) (by decide +kernel) (v := .ref (am 12)) rfl dX6_target_139 ?_
                    refine lv_aload_n E.1 E.2.1 dX6_target_142 rfl (lv_at hl 0 rfl) ?_
                    refine z_get E X (lM_0 C cA am (zs (zs (zs S 9 ((S 8 0).toNat) x1) 10 ((S 8 0).toNat) x2) 11 ((S 8 0).toNat) x3) U) rfl iX6 8 (by decide) (by decide +kernel) (v := .int (i32 (S 8 0))) rfl dX6_target_143 ?_
                    refine z_top (((S 8 0).toNat : Nat) : Int) (by omega) ?_
                    refine lv_iload E.1 E.2.1 dX6_target_146 (lv_at hl 4 rfl) ?_
                    refine z_iast E X (lM_12 C cA am (zs (zs (zs S 9 ((S 8 0).toNat) x1) 10 ((S 8 0).toNat) x2) 11 ((S 8 0).toNat) x3) U) ((S 8 0).toNat) (by omega) (by omega) (by decide) dX6_target_148 (fun H locs X => ?_)
                    have X := ma_12 X
                    refine lv_aload_n E.1 E.2.1 dX6_target_149 rfl (lv_at hl 0 rfl) ?_
                    refine z_get E X (lM_0 C cA am (zs (zs (zs (zs S 9 ((S 8 0).toNat) x1) 10 ((S 8 0).toNat) x2) 11 ((S 8 0).toNat) x3) 12 ((S 8 0).toNat) x4) U) rfl iX6 13 (by decide) (by decide +kernel) (v := .ref (am 13)) rfl dX6_target_150 ?_
                    refine lv_aload_n E.1 E.2.1 dX6_target_153 rfl (lv_at hl 0 rfl) ?_
                    refine z_get E X (lM_0 C cA am (zs (zs (zs (zs S 9 ((S 8 0).toNat) x1) 10 ((S 8 0).toNat) x2) 11 ((S 8 0).toNat) x3) 12 ((S 8 0).toNat) x4) U) rfl iX6 8 (by decide) (by decide +kernel) (v := .int (i32 (S 8 0))) rfl dX6_target_154 ?_
                    refine z_top (((S 8 0).toNat : Nat) : Int) (by omega) ?_
                    refine lv_iload E.1 E.2.1 dX6_target_157 (lv_at hl 5 rfl) ?_
                    refine z_iast E X (lM_13 C cA am (zs (zs (zs (zs S 9 ((S 8 0).toNat) x1) 10 ((S 8 0).toNat) x2) 11 ((S 8 0).toNat) x3) 12 ((S 8 0).toNat) x4) U) ((S 8 0).toNat) (by omega) (by omega) (by decide) dX6_target_159 (fun H locs X => ?_)
                    have X := ma_13 X
                    refine lv_aload_n E.1 E.2.1 dX6_target_160 rfl (lv_at hl 0 rfl) ?_
                    refine lv_dup E.1 E.2.1 dX6_target_161 rfl ?_
                    refine z_get E X (lM_0 C cA am (zs (zs (zs (zs (zs S 9 ((S 8 0).toNat) x1) 10 ((S 8 0).toNat) x2) 11 ((S 8 0).toNat) x3) 12 ((S 8 0).toNat) x4) 13 ((S 8 0).toNat) x5) U) rfl iX6 8 (by decide) (by decide +kernel) (v := .int (i32 (S 8 0))) rfl dX6_target_162 ?_
                    refine z_iconst E dX6_target_165 ?_
                    refine z_iadd E dX6_target_166 ?_
                    refine z_put E X (lM_0 C cA am (zs (zs (zs (zs (zs S 9 ((S 8 0).toNat) x1) 10 ((S 8 0).toNat) x2) 11 ((S 8 0).toNat) x3) 12 ((S 8 0).toNat) x4) 13 ((S 8 0).toNat) x5) U) rfl iX6 tyX6 tyX6_ok nmX6 8 (by decide) (by decide +kernel) rfl rfl rfl (Nat.le_of_ble_eq_true rfl) dX6_target_167 (fun H locs X => ?_)
                    have X := mp_8 X
                    refine lv_aload_n E.1 E.2.1 dX6_target_170 rfl (lv_at hl 0 rfl) ?_
                    refine z_get E X (lM_0 C cA am (zs (zs (zs (zs (zs (zs S 9 ((S 8 0).toNat) x1) 10 ((S 8 0).toNat) x2) 11 ((S 8 0).toNat) x3) 12 ((S 8 0).toNat) x4) 13 ((S 8 0).toNat) x5) 8 0 ((S 8 0) + 1)) U) rfl iX6 8 (by decide) (by decide +kernel) (v := .int (i32 ((S 8 0) + 1))) rfl dX6_target_171 ?_
                    refine z_iconst E dX6_target_174 ?_
                    refine z_isub E dX6_target_175 ?_
                    refine z_top (S 8 0) (by omega) ?_
                    have ef : fTarget S x1 x2 x3 x4 x5 = (S 8 0, zs (zs (zs (zs (zs (zs S 9 ((S 8 0).toNat) x1) 10 ((S 8 0).toNat) x2) 11 ((S 8 0).toNat) x3) 12 ((S 8 0).toNat) x4) 13 ((S 8 0).toNat) x5) 8 0 ((S 8 0) + 1)) := by
                      unfold fTarget
                      try simp only [Int.toNat_natCast]
                      repeat' split
                      all_goals first | rfl | (exfalso; omega)
                    exact z_ret E X hQ (⟨(congrArg (fun w => some (Value.int (i32 w.1))) ef).symm, U, by rw [ef]; exact MC_cong (S := S) rfl rfl rfl (Int.le_refl _) (fun _ _ => rfl) hC, by rw [ef]; exact X.1⟩) dX6_target_176
                · refine z_bipush E dX6_target_122 (by decide +kernel) ?_
                  refine lv_goto (tgt := 137) E.1 E.2.1 dX6_target_124 (by decide) ?_
                  refine z_iast E X (lM_11 C cA am (zs (zs S 9 ((S 8 0).toNat) x1) 10 ((S 8 0).toNat) x2) U) ((S 8 0).toNat) (by omega) (by omega) (by decide) dX6_target_137 (fun H locs X => ?_)
                  have X := ma_11 X
                  refine lv_aload_n E.1 E.2.1 dX6_target_138 rfl (lv_at hl 0 rfl) ?_
                  refine z_get E X (lM_0 C cA am (zs (zs (zs S 9 ((S 8 0).toNat) x1) 10 ((S 8 0).toNat) x2) 11 ((S 8 0).toNat) 50) U) rfl iX6 12 (by decide) (by decide +kernel) (v := .ref (am 12)) rfl dX6_target_139 ?_
                  refine lv_aload_n E.1 E.2.1 dX6_target_142 rfl (lv_at hl 0 rfl) ?_
                  refine z_get E X (lM_0 C cA am (zs (zs (zs S 9 ((S 8 0).toNat) x1) 10 ((S 8 0).toNat) x2) 11 ((S 8 0).toNat) 50) U) rfl iX6 8 (by decide) (by decide +kernel) (v := .int (i32 (S 8 0))) rfl dX6_target_143 ?_
                  refine z_top (((S 8 0).toNat : Nat) : Int) (by omega) ?_
                  refine lv_iload E.1 E.2.1 dX6_target_146 (lv_at hl 4 rfl) ?_
                  refine z_iast E X (lM_12 C cA am (zs (zs (zs S 9 ((S 8 0).toNat) x1) 10 ((S 8 0).toNat) x2) 11 ((S 8 0).toNat) 50) U) ((S 8 0).toNat) (by omega) (by omega) (by decide) dX6_target_148 (fun H locs X => ?_)
                  have X := ma_12 X
                  refine lv_aload_n E.1 E.2.1 dX6_target_149 rfl (lv_at hl 0 rfl) ?_
                  refine z_get E X (lM_0 C cA am (zs (zs (zs (zs S 9 ((S 8 0).toNat) x1) 10 ((S 8 0).toNat) x2) 11 ((S 8 0).toNat) 50) 12 ((S 8 0).toNat) x4) U) rfl iX6 13 (by decide) (by decide +kernel) (v := .ref (am 13)) rfl dX6_target_150 ?_
                  refine lv_aload_n E.1 E.2.1 dX6_target_153 rfl (lv_at hl 0 rfl) ?_
                  refine z_get E X (lM_0 C cA am (zs (zs (zs (zs S 9 ((S 8 0).toNat) x1) 10 ((S 8 0).toNat) x2) 11 ((S 8 0).toNat) 50) 12 ((S 8 0).toNat) x4) U) rfl iX6 8 (by decide) (by decide +kernel) (v := .int (i32 (S 8 0))) rfl dX6_target_154 ?_
                  refine z_top (((S 8 0).toNat : Nat) : Int) (by omega) ?_
                  refine lv_iload E.1 E.2.1 dX6_target_157 (lv_at hl 5 rfl) ?_
                  refine z_iast E X (lM_13 C cA am (zs (zs (zs (zs S 9 ((S 8 0).toNat) x1) 10 ((S 8 0).toNat) x2) 11 ((S 8 0).toNat) 50) 12 ((S 8 0).toNat) x4) U) ((S 8 0).toNat) (by omega) (by omega) (by decide) dX6_target_159 (fun H locs X => ?_)
                  have X := ma_13 X
                  refine lv_aload_n E.1 E.2.1 dX6_target_160 rfl (lv_at hl 0 rfl) ?_
                  refine lv_dup E.1 E.2.1 dX6_target_161 rfl ?_
                  refine z_get E X (lM_0 C cA am (zs (zs (zs (zs (zs S 9 ((S 8 0).toNat) x1) 10 ((S 8 0).toNat) x2) 11 ((S 8 0).toNat) 50) 12 ((S 8 0).toNat) x4) 13 ((S 8 0).toNat) x5) U) rfl iX6 8 (by decide) (by decide +kernel) (v := .int (i32 (S 8 0))) rfl dX6_target_162 ?_
                  refine z_iconst E dX6_target_165 ?_
                  refine z_iadd E dX6_target_166 ?_
                  refine z_put E X (lM_0 C cA am (zs (zs (zs (zs (zs S 9 ((S 8 0).toNat) x1) 10 ((S 8 0).toNat) x2) 11 ((S 8 0).toNat) 50) 12 ((S 8 0).toNat) x4) 13 ((S 8 0).toNat) x5) U) rfl iX6 tyX6 tyX6_ok nmX6 8 (by decide) (by decide +kernel) rfl rfl rfl (Nat.le_of_ble_eq_true rfl) dX6_target_167 (fun H locs X => ?_)
                  have X := mp_8 X
                  refine lv_aload_n E.1 E.2.1 dX6_target_170 rfl (lv_at hl 0 rfl) ?_
                  refine z_get E X (lM_0 C cA am (zs (zs (zs (zs (zs (zs S 9 ((S 8 0).toNat) x1) 10 ((S 8 0).toNat) x2) 11 ((S 8 0).toNat) 50) 12 ((S 8 0).toNat) x4) 13 ((S 8 0).toNat) x5) 8 0 ((S 8 0) + 1)) U) rfl iX6 8 (by decide) (by decide +kernel) (v := .int (i32 ((S 8 0) + 1))) rfl dX6_target_171 ?_
                  refine z_iconst E dX6_target_174 ?_
                  refine z_isub E dX6_target_175 ?_
                  refine z_top (S 8 0) (by omega) ?_
                  have ef : fTarget S x1 x2 x3 x4 x5 = (S 8 0, zs (zs (zs (zs (zs (zs S 9 ((S 8 0).toNat) x1) 10 ((S 8 0).toNat) x2) 11 ((S 8 0).toNat) 50) 12 ((S 8 0).toNat) x4) 13 ((S 8 0).toNat) x5) 8 0 ((S 8 0) + 1)) := by
                    unfold fTarget
                    try simp only [Int.toNat_natCast]
                    repeat' split
                    all_goals first | rfl | (exfalso; omega)
                  exact z_ret E X hQ (⟨(congrArg (fun w => some (Value.int (i32 w.1))) ef).symm, U, by rw [ef]; exact MC_cong (S := S) rfl rfl rfl (Int.le_refl _) (fun _ _ => rfl) hC, by rw [ef]; exact X.1⟩) dX6_target_176
              · refine z_iconst E dX6_target_103 ?_
                refine lv_goto (tgt := 108) E.1 E.2.1 dX6_target_104 (by decide) ?_
                refine z_iast E X (lM_10 C cA am (zs S 9 ((S 8 0).toNat) x1) U) ((S 8 0).toNat) (by omega) (by omega) (by decide) dX6_target_108 (fun H locs X => ?_)
                have X := ma_10 X
                refine lv_aload_n E.1 E.2.1 dX6_target_109 rfl (lv_at hl 0 rfl) ?_
                refine z_get E X (lM_0 C cA am (zs (zs S 9 ((S 8 0).toNat) x1) 10 ((S 8 0).toNat) 0) U) rfl iX6 11 (by decide) (by decide +kernel) (v := .ref (am 11)) rfl dX6_target_110 ?_
                refine lv_aload_n E.1 E.2.1 dX6_target_113 rfl (lv_at hl 0 rfl) ?_
                refine z_get E X (lM_0 C cA am (zs (zs S 9 ((S 8 0).toNat) x1) 10 ((S 8 0).toNat) 0) U) rfl iX6 8 (by decide) (by decide +kernel) (v := .int (i32 (S 8 0))) rfl dX6_target_114 ?_
                refine z_top (((S 8 0).toNat : Nat) : Int) (by omega) ?_
                refine lv_iload_n E.1 E.2.1 dX6_target_117 rfl (lv_at hl 1 rfl) ?_
                refine z_iconst E dX6_target_118 ?_
                refine z_cne E 127 ⟨by omega, by omega⟩ ⟨by omega, by omega⟩ dX6_target_119 (by decide) (fun h119_38 => ?_) (fun h119_38 => ?_)
                · refine lv_iload_n E.1 E.2.1 dX6_target_127 rfl (lv_at hl 1 rfl) ?_
                  refine z_iconst E dX6_target_128 ?_
                  refine z_cne E 136 ⟨by omega, by omega⟩ ⟨by omega, by omega⟩ dX6_target_129 (by decide) (fun h129_39 => ?_) (fun h129_39 => ?_)
                  · refine lv_iload_n E.1 E.2.1 dX6_target_136 rfl (lv_at hl 2 rfl) ?_
                    refine z_iast E X (lM_11 C cA am (zs (zs S 9 ((S 8 0).toNat) x1) 10 ((S 8 0).toNat) 0) U) ((S 8 0).toNat) (by omega) (by omega) (by decide) dX6_target_137 (fun H locs X => ?_)
                    have X := ma_11 X
                    refine lv_aload_n E.1 E.2.1 dX6_target_138 rfl (lv_at hl 0 rfl) ?_
                    refine z_get E X (lM_0 C cA am (zs (zs (zs S 9 ((S 8 0).toNat) x1) 10 ((S 8 0).toNat) 0) 11 ((S 8 0).toNat) x2) U) rfl iX6 12 (by decide) (by decide +kernel) (v := .ref (am 12)) rfl dX6_target_139 ?_
                    refine lv_aload_n E.1 E.2.1 dX6_target_142 rfl (lv_at hl 0 rfl) ?_
                    refine z_get E X (lM_0 C cA am (zs (zs (zs S 9 ((S 8 0).toNat) x1) 10 ((S 8 0).toNat) 0) 11 ((S 8 0).toNat) x2) U) rfl iX6 8 (by decide) (by decide +kernel) (v := .int (i32 (S 8 0))) rfl dX6_target_143 ?_
                    refine z_top (((S 8 0).toNat : Nat) : Int) (by omega) ?_
                    refine lv_iload E.1 E.2.1 dX6_target_146 (lv_at hl 4 rfl) ?_
                    refine z_iast E X (lM_12 C cA am (zs (zs (zs S 9 ((S 8 0).toNat) x1) 10 ((S 8 0).toNat) 0) 11 ((S 8 0).toNat) x2) U) ((S 8 0).toNat) (by omega) (by omega) (by decide) dX6_target_148 (fun H locs X => ?_)
                    have X := ma_12 X
                    refine lv_aload_n E.1 E.2.1 dX6_target_149 rfl (lv_at hl 0 rfl) ?_
                    refine z_get E X (lM_0 C cA am (zs (zs (zs (zs S 9 ((S 8 0).toNat) x1) 10 ((S 8 0).toNat) 0) 11 ((S 8 0).toNat) x2) 12 ((S 8 0).toNat) x4) U) rfl iX6 13 (by decide) (by decide +kernel) (v := .ref (am 13)) rfl dX6_target_150 ?_
                    refine lv_aload_n E.1 E.2.1 dX6_target_153 rfl (lv_at hl 0 rfl) ?_
                    refine z_get E X (lM_0 C cA am (zs (zs (zs (zs S 9 ((S 8 0).toNat) x1) 10 ((S 8 0).toNat) 0) 11 ((S 8 0).toNat) x2) 12 ((S 8 0).toNat) x4) U) rfl iX6 8 (by decide) (by decide +kernel) (v := .int (i32 (S 8 0))) rfl dX6_target_154 ?_
                    refine z_top (((S 8 0).toNat : Nat) : Int) (by omega) ?_
                    refine lv_iload E.1 E.2.1 dX6_target_157 (lv_at hl 5 rfl) ?_
                    refine z_iast E X (lM_13 C cA am (zs (zs (zs (zs S 9 ((S 8 0).toNat) x1) 10 ((S 8 0).toNat) 0) 11 ((S 8 0).toNat) x2) 12 ((S 8 0).toNat) x4) U) ((S 8 0).toNat) (by omega) (by omega) (by decide) dX6_target_159 (fun H locs X => ?_)
                    have X := ma_13 X
                    refine lv_aload_n E.1 E.2.1 dX6_target_160 rfl (lv_at hl 0 rfl) ?_
                    refine lv_dup E.1 E.2.1 dX6_target_161 rfl ?_
                    refine z_get E X (lM_0 C cA am (zs (zs (zs (zs (zs S 9 ((S 8 0).toNat) x1) 10 ((S 8 0).toNat) 0) 11 ((S 8 0).toNat) x2) 12 ((S 8 0).toNat) x4) 13 ((S 8 0).toNat) x5) U) rfl iX6 8 (by decide) (by decide +kernel) (v := .int (i32 (S 8 0))) rfl dX6_target_162 ?_
                    refine z_iconst E dX6_target_165 ?_
                    refine z_iadd E dX6_target_166 ?_
                    refine z_put E X (lM_0 C cA am (zs (zs (zs (zs (zs S 9 ((S 8 0).toNat) x1) 10 ((S 8 0).toNat) 0) 11 ((S 8 0).toNat) x2) 12 ((S 8 0).toNat) x4) 13 ((S 8 0).toNat) x5) U) rfl iX6 tyX6 tyX6_ok nmX6 8 (by decide) (by decide +kernel) rfl rfl rfl (Nat.le_of_ble_eq_true rfl) dX6_target_167 (fun H locs X => ?_)
                    have X := mp_8 X
                    refine lv_aload_n E.1 E.2.1 dX6_target_170 rfl (lv_at hl 0 rfl) ?_
                    refine z_get E X (lM_0 C cA am (zs (zs (zs (zs (zs (zs S 9 ((S 8 0).toNat) x1) 10 ((S 8 0).toNat) 0) 11 ((S 8 0).toNat) x2) 12 ((S 8 0).toNat) x4) 13 ((S 8 0).toNat) x5) 8 0 ((S 8 0) + 1)) U) rfl iX6 8 (by decide) (by decide +kernel) (v := .int (i32 ((S 8 0) + 1))) rfl dX6_target_171 ?_
                    refine z_iconst E dX6_target_174 ?_
                    refine z_isub E dX6_target_175 ?_
                    refine z_top (S 8 0) (by omega) ?_
                    have ef : fTarget S x1 x2 x3 x4 x5 = (S 8 0, zs (zs (zs (zs (zs (zs S 9 ((S 8 0).toNat) x1) 10 ((S 8 0).toNat) 0) 11 ((S 8 0).toNat) x2) 12 ((S 8 0).toNat) x4) 13 ((S 8 0).toNat) x5) 8 0 ((S 8 0) + 1)) := by
                      unfold fTarget
                      try simp only [Int.toNat_natCast]
                      repeat' split
                      all_goals first | rfl | (exfalso; omega)
                    exact z_ret E X hQ (⟨(congrArg (fun w => some (Value.int (i32 w.1))) ef).symm, U, by rw [ef]; exact MC_cong (S := S) rfl rfl rfl (Int.le_refl _) (fun _ _ => rfl) hC, by rw [ef]; exact X.1⟩) dX6_target_176
                  · refine lv_iload_n E.1 E.2.1 dX6_target_132 rfl (lv_at hl 3 rfl) ?_
                    refine lv_goto (tgt := 137) E.1 E.2.1 dX6_target_133 (by decide) ?_
                    refine z_iast E X (lM_11 C cA am (zs (zs S 9 ((S 8 0).toNat) x1) 10 ((S 8 0).toNat) 0) U) ((S 8 0).toNat) (by omega) (by omega) (by decide) dX6_target_137 (fun H locs X => ?_)
                    have X := ma_11 X
                    refine lv_aload_n E.1 E.2.1 dX6_target_138 rfl (lv_at hl 0 rfl) ?_
                    refine z_get E X (lM_0 C cA am (zs (zs (zs S 9 ((S 8 0).toNat) x1) 10 ((S 8 0).toNat) 0) 11 ((S 8 0).toNat) x3) U) rfl iX6 12 (by decide) (by decide +kernel) (v := .ref (am 12)) rfl dX6_target_139 ?_
                    refine lv_aload_n E.1 E.2.1 dX6_target_142 rfl (lv_at hl 0 rfl) ?_
                    refine z_get E X (lM_0 C cA am (zs (zs (zs S 9 ((S 8 0).toNat) x1) 10 ((S 8 0).toNat) 0) 11 ((S 8 0).toNat) x3) U) rfl iX6 8 (by decide) (by decide +kernel) (v := .int (i32 (S 8 0))) rfl dX6_target_143 ?_
                    refine z_top (((S 8 0).toNat : Nat) : Int) (by omega) ?_
                    refine lv_iload E.1 E.2.1 dX6_target_146 (lv_at hl 4 rfl) ?_
                    refine z_iast E X (lM_12 C cA am (zs (zs (zs S 9 ((S 8 0).toNat) x1) 10 ((S 8 0).toNat) 0) 11 ((S 8 0).toNat) x3) U) ((S 8 0).toNat) (by omega) (by omega) (by decide) dX6_target_148 (fun H locs X => ?_)
                    have X := ma_12 X
                    refine lv_aload_n E.1 E.2.1 dX6_target_149 rfl (lv_at hl 0 rfl) ?_
                    refine z_get E X (lM_0 C cA am (zs (zs (zs (zs S 9 ((S 8 0).toNat) x1) 10 ((S 8 0).toNat) 0) 11 ((S 8 0).toNat) x3) 12 ((S 8 0).toNat) x4) U) rfl iX6 13 (by decide) (by decide +kernel) (v := .ref (am 13)) rfl dX6_target_150 ?_
                    refine lv_aload_n E.1 E.2.1 dX6_target_153 rfl (lv_at hl 0 rfl) ?_
                    refine z_get E X (lM_0 C cA am (zs (zs (zs (zs S 9 ((S 8 0).toNat) x1) 10 ((S 8 0).toNat) 0) 11 ((S 8 0).toNat) x3) 12 ((S 8 0).toNat) x4) U) rfl iX6 8 (by decide) (by decide +kernel) (v := .int (i32 (S 8 0))) rfl dX6_target_154 ?_
                    refine z_top (((S 8 0).toNat : Nat) : Int) (by omega) ?_
                    refine lv_iload E.1 E.2.1 dX6_target_157 (lv_at hl 5 rfl) ?_
                    refine z_iast E X (lM_13 C cA am (zs (zs (zs (zs S 9 ((S 8 0).toNat) x1) 10 ((S 8 0).toNat) 0) 11 ((S 8 0).toNat) x3) 12 ((S 8 0).toNat) x4) U) ((S 8 0).toNat) (by omega) (by omega) (by decide) dX6_target_159 (fun H locs X => ?_)
                    have X := ma_13 X
                    refine lv_aload_n E.1 E.2.1 dX6_target_160 rfl (lv_at hl 0 rfl) ?_
                    refine lv_dup E.1 E.2.1 dX6_target_161 rfl ?_
                    refine z_get E X (lM_0 C cA am (zs (zs (zs (zs (zs S 9 ((S 8 0).toNat) x1) 10 ((S 8 0).toNat) 0) 11 ((S 8 0).toNat) x3) 12 ((S 8 0).toNat) x4) 13 ((S 8 0).toNat) x5) U) rfl iX6 8 (by decide) (by decide +kernel) (v := .int (i32 (S 8 0))) rfl dX6_target_162 ?_
                    refine z_iconst E dX6_target_165 ?_
                    refine z_iadd E dX6_target_166 ?_
                    refine z_put E X (lM_0 C cA am (zs (zs (zs (zs (zs S 9 ((S 8 0).toNat) x1) 10 ((S 8 0).toNat) 0) 11 ((S 8 0).toNat) x3) 12 ((S 8 0).toNat) x4) 13 ((S 8 0).toNat) x5) U) rfl iX6 tyX6 tyX6_ok nmX6 8 (by decide) (by decide +kernel) rfl rfl rfl (Nat.le_of_ble_eq_true rfl) dX6_target_167 (fun H locs X => ?_)
                    have X := mp_8 X
                    refine lv_aload_n E.1 E.2.1 dX6_target_170 rfl (lv_at hl 0 rfl) ?_
                    refine z_get E X (lM_0 C cA am (zs (zs (zs (zs (zs (zs S 9 ((S 8 0).toNat) x1) 10 ((S 8 0).toNat) 0) 11 ((S 8 0).toNat) x3) 12 ((S 8 0).toNat) x4) 13 ((S 8 0).toNat) x5) 8 0 ((S 8 0) + 1)) U) rfl iX6 8 (by decide) (by decide +kernel) (v := .int (i32 ((S 8 0) + 1))) rfl dX6_target_171 ?_
                    refine z_iconst E dX6_target_174 ?_
                    refine z_isub E dX6_target_175 ?_
                    refine z_top (S 8 0) (by omega) ?_
                    have ef : fTarget S x1 x2 x3 x4 x5 = (S 8 0, zs (zs (zs (zs (zs (zs S 9 ((S 8 0).toNat) x1) 10 ((S 8 0).toNat) 0) 11 ((S 8 0).toNat) x3) 12 ((S 8 0).toNat) x4) 13 ((S 8 0).toNat) x5) 8 0 ((S 8 0) + 1)) := by
                      unfold fTarget
                      try simp only [Int.toNat_natCast]
                      repeat' split
                      all_goals first | rfl | (exfalso; omega)
                    exact z_ret E X hQ (⟨(congrArg (fun w => some (Value.int (i32 w.1))) ef).symm, U, by rw [ef]; exact MC_cong (S := S) rfl rfl rfl (Int.le_refl _) (fun _ _ => rfl) hC, by rw [ef]; exact X.1⟩) dX6_target_176
                · refine z_bipush E dX6_target_122 (by decide +kernel) ?_
                  refine lv_goto (tgt := 137) E.1 E.2.1 dX6_target_124 (by decide) ?_
                  refine z_iast E X (lM_11 C cA am (zs (zs S 9 ((S 8 0).toNat) x1) 10 ((S 8 0).toNat) 0) U) ((S 8 0).toNat) (by omega) (by omega) (by decide) dX6_target_137 (fun H locs X => ?_)
                  have X := ma_11 X
                  refine lv_aload_n E.1 E.2.1 dX6_target_138 rfl (lv_at hl 0 rfl) ?_
                  refine z_get E X (lM_0 C cA am (zs (zs (zs S 9 ((S 8 0).toNat) x1) 10 ((S 8 0).toNat) 0) 11 ((S 8 0).toNat) 50) U) rfl iX6 12 (by decide) (by decide +kernel) (v := .ref (am 12)) rfl dX6_target_139 ?_
                  refine lv_aload_n E.1 E.2.1 dX6_target_142 rfl (lv_at hl 0 rfl) ?_
                  refine z_get E X (lM_0 C cA am (zs (zs (zs S 9 ((S 8 0).toNat) x1) 10 ((S 8 0).toNat) 0) 11 ((S 8 0).toNat) 50) U) rfl iX6 8 (by decide) (by decide +kernel) (v := .int (i32 (S 8 0))) rfl dX6_target_143 ?_
                  refine z_top (((S 8 0).toNat : Nat) : Int) (by omega) ?_
                  refine lv_iload E.1 E.2.1 dX6_target_146 (lv_at hl 4 rfl) ?_
                  refine z_iast E X (lM_12 C cA am (zs (zs (zs S 9 ((S 8 0).toNat) x1) 10 ((S 8 0).toNat) 0) 11 ((S 8 0).toNat) 50) U) ((S 8 0).toNat) (by omega) (by omega) (by decide) dX6_target_148 (fun H locs X => ?_)
                  have X := ma_12 X
                  refine lv_aload_n E.1 E.2.1 dX6_target_149 rfl (lv_at hl 0 rfl) ?_
                  refine z_get E X (lM_0 C cA am (zs (zs (zs (zs S 9 ((S 8 0).toNat) x1) 10 ((S 8 0).toNat) 0) 11 ((S 8 0).toNat) 50) 12 ((S 8 0).toNat) x4) U) rfl iX6 13 (by decide) (by decide +kernel) (v := .ref (am 13)) rfl dX6_target_150 ?_
                  refine lv_aload_n E.1 E.2.1 dX6_target_153 rfl (lv_at hl 0 rfl) ?_
                  refine z_get E X (lM_0 C cA am (zs (zs (zs (zs S 9 ((S 8 0).toNat) x1) 10 ((S 8 0).toNat) 0) 11 ((S 8 0).toNat) 50) 12 ((S 8 0).toNat) x4) U) rfl iX6 8 (by decide) (by decide +kernel) (v := .int (i32 (S 8 0))) rfl dX6_target_154 ?_
                  refine z_top (((S 8 0).toNat : Nat) : Int) (by omega) ?_
                  refine lv_iload E.1 E.2.1 dX6_target_157 (lv_at hl 5 rfl) ?_
                  refine z_iast E X (lM_13 C cA am (zs (zs (zs (zs S 9 ((S 8 0).toNat) x1) 10 ((S 8 0).toNat) 0) 11 ((S 8 0).toNat) 50) 12 ((S 8 0).toNat) x4) U) ((S 8 0).toNat) (by omega) (by omega) (by decide) dX6_target_159 (fun H locs X => ?_)
                  have X := ma_13 X
                  refine lv_aload_n E.1 E.2.1 dX6_target_160 rfl (lv_at hl 0 rfl) ?_
                  refine lv_dup E.1 E.2.1 dX6_target_161 rfl ?_
                  refine z_get E X (lM_0 C cA am (zs (zs (zs (zs (zs S 9 ((S 8 0).toNat) x1) 10 ((S 8 0).toNat) 0) 11 ((S 8 0).toNat) 50) 12 ((S 8 0).toNat) x4) 13 ((S 8 0).toNat) x5) U) rfl iX6 8 (by decide) (by decide +kernel) (v := .int (i32 (S 8 0))) rfl dX6_target_162 ?_
                  refine z_iconst E dX6_target_165 ?_
                  refine z_iadd E dX6_target_166 ?_
                  refine z_put E X (lM_0 C cA am (zs (zs (zs (zs (zs S 9 ((S 8 0).toNat) x1) 10 ((S 8 0).toNat) 0) 11 ((S 8 0).toNat) 50) 12 ((S 8 0).toNat) x4) 13 ((S 8 0).toNat) x5) U) rfl iX6 tyX6 tyX6_ok nmX6 8 (by decide) (by decide +kernel) rfl rfl rfl (Nat.le_of_ble_eq_true rfl) dX6_target_167 (fun H locs X => ?_)
                  have X := mp_8 X
                  refine lv_aload_n E.1 E.2.1 dX6_target_170 rfl (lv_at hl 0 rfl) ?_
                  refine z_get E X (lM_0 C cA am (zs (zs (zs (zs (zs (zs S 9 ((S 8 0).toNat) x1) 10 ((S 8 0).toNat) 0) 11 ((S 8 0).toNat) 50) 12 ((S 8 0).toNat) x4) 13 ((S 8 0).toNat) x5) 8 0 ((S 8 0) + 1)) U) rfl iX6 8 (by decide) (by decide +kernel) (v := .int (i32 ((S 8 0) + 1))) rfl dX6_target_171 ?_
                  refine z_iconst E dX6_target_174 ?_
                  refine z_isub E dX6_target_175 ?_
                  refine z_top (S 8 0) (by omega) ?_
                  have ef : fTarget S x1 x2 x3 x4 x5 = (S 8 0, zs (zs (zs (zs (zs (zs S 9 ((S 8 0).toNat) x1) 10 ((S 8 0).toNat) 0) 11 ((S 8 0).toNat) 50) 12 ((S 8 0).toNat) x4) 13 ((S 8 0).toNat) x5) 8 0 ((S 8 0) + 1)) := by
                    unfold fTarget
                    try simp only [Int.toNat_natCast]
                    repeat' split
                    all_goals first | rfl | (exfalso; omega)
                  exact z_ret E X hQ (⟨(congrArg (fun w => some (Value.int (i32 w.1))) ef).symm, U, by rw [ef]; exact MC_cong (S := S) rfl rfl rfl (Int.le_refl _) (fun _ _ => rfl) hC, by rw [ef]; exact X.1⟩) dX6_target_176
            · refine z_bipush E dX6_target_77 (by decide +kernel) ?_
              have ef : fTarget S x1 x2 x3 x4 x5 = (-4, S) := by
                unfold fTarget
                try simp only [Int.toNat_natCast]
                repeat' split
                all_goals first | rfl | (exfalso; omega)
              exact z_ret E X hQ (⟨(congrArg (fun w => some (Value.int (i32 w.1))) ef).symm, U, by rw [ef]; exact hC, by rw [ef]; exact X.1⟩) dX6_target_79
          · refine z_bipush E dX6_target_65 (by decide +kernel) ?_
            have ef : fTarget S x1 x2 x3 x4 x5 = (-2, S) := by
              unfold fTarget
              try simp only [Int.toNat_natCast]
              repeat' split
              all_goals first | rfl | (exfalso; omega)
            exact z_ret E X hQ (⟨(congrArg (fun w => some (Value.int (i32 w.1))) ef).symm, U, by rw [ef]; exact hC, by rw [ef]; exact X.1⟩) dX6_target_67
        · refine lv_iload_n E.1 E.2.1 dX6_target_37 rfl (lv_at hl 3 rfl) ?_
          refine z_i2l E ⟨by omega, by omega⟩ dX6_target_38 ?_
          refine lv_iload_n E.1 E.2.1 dX6_target_39 rfl (lv_at hl 2 rfl) ?_
          refine z_i2l E ⟨by omega, by omega⟩ dX6_target_40 ?_
          refine z_ldc2 (v := 50) (z := 50) E (by decide +kernel) (by decide +kernel) dX6_target_41 ?_
          refine z_callJ (As := [.long (i64 x3), .long (i64 x2), .long (i64 50)]) (rest := []) (n := 3) E X (c_in l D cA B0 _ x3 x2 50 ⟨by omega, by omega⟩ ⟨by omega, by omega⟩ ⟨by omega, by omega⟩) gX6_target_X6_in rfl (by decide +kernel) ⟨by decide, by decide⟩ rfl hl.1 rfl (Nat.le_of_ble_eq_true rfl) dX6_target_44 ⟨by decide, by decide⟩ rfl 0 0 ⟨rfl, rfl⟩ (fun v H locs hv hS_40 => ?_)
          obtain ⟨hH, z_41, rfl, ez_41⟩ := hv
          subst hH
          replace X := X.same hS_40
          refine z_feq E 65 ⟨by omega, by omega⟩ dX6_target_47 (by decide) (fun h47_42 => ?_) (fun h47_42 => ?_)
          · refine z_bipush E dX6_target_65 (by decide +kernel) ?_
            have ef : fTarget S x1 x2 x3 x4 x5 = (-2, S) := by
              unfold fTarget
              try simp only [Int.toNat_natCast]
              repeat' split
              all_goals first | rfl | (exfalso; omega)
            exact z_ret E X hQ (⟨(congrArg (fun w => some (Value.int (i32 w.1))) ef).symm, U, by rw [ef]; exact hC, by rw [ef]; exact X.1⟩) dX6_target_67
          · refine lv_iload E.1 E.2.1 dX6_target_50 (lv_at hl 5 rfl) ?_
            refine z_i2l E ⟨by omega, by omega⟩ dX6_target_52 ?_
            refine z_ldc2 (v := (-1000)) (z := -1000) E (by decide +kernel) (by decide +kernel) dX6_target_53 ?_
            refine z_ldc2 (v := 1000) (z := 1000) E (by decide +kernel) (by decide +kernel) dX6_target_56 ?_
            refine z_callJ (As := [.long (i64 x5), .long (i64 (-1000)), .long (i64 1000)]) (rest := []) (n := 3) E X (c_in l D cA B0 _ x5 (-1000) 1000 ⟨by omega, by omega⟩ ⟨by omega, by omega⟩ ⟨by omega, by omega⟩) gX6_target_X6_in rfl (by decide +kernel) ⟨by decide, by decide⟩ rfl hl.1 rfl (Nat.le_of_ble_eq_true rfl) dX6_target_59 ⟨by decide, by decide⟩ rfl 0 0 ⟨rfl, rfl⟩ (fun v H locs hv hS_43 => ?_)
            obtain ⟨hH, z_44, rfl, ez_44⟩ := hv
            subst hH
            replace X := X.same hS_43
            refine z_fne E 68 ⟨by omega, by omega⟩ dX6_target_62 (by decide) (fun h62_45 => ?_) (fun h62_45 => ?_)
            · refine lv_aload_n E.1 E.2.1 dX6_target_68 rfl (lv_at hl 0 rfl) ?_
              refine z_get E X (lM_0 C cA am S U) rfl iX6 8 (by decide) (by decide +kernel) (v := .int (i32 (S 8 0))) rfl dX6_target_69 ?_
              refine z_bipush E dX6_target_72 (by decide +kernel) ?_
              refine z_cne E 80 ⟨by omega, by omega⟩ ⟨by omega, by omega⟩ dX6_target_74 (by decide) (fun h74_46 => ?_) (fun h74_46 => ?_)
              · refine lv_aload_n E.1 E.2.1 dX6_target_80 rfl (lv_at hl 0 rfl) ?_
                refine z_get E X (lM_0 C cA am S U) rfl iX6 9 (by decide) (by decide +kernel) (v := .ref (am 9)) rfl dX6_target_81 ?_
                refine lv_aload_n E.1 E.2.1 dX6_target_84 rfl (lv_at hl 0 rfl) ?_
                refine z_get E X (lM_0 C cA am S U) rfl iX6 8 (by decide) (by decide +kernel) (v := .int (i32 (S 8 0))) rfl dX6_target_85 ?_
                refine z_top (((S 8 0).toNat : Nat) : Int) (by omega) ?_
                refine lv_iload_n E.1 E.2.1 dX6_target_88 rfl (lv_at hl 1 rfl) ?_
                refine z_iast E X (lM_9 C cA am S U) ((S 8 0).toNat) (by omega) (by omega) (by decide) dX6_target_89 (fun H locs X => ?_)
                have X := ma_9 X
                refine lv_aload_n E.1 E.2.1 dX6_target_90 rfl (lv_at hl 0 rfl) ?_
                refine z_get E X (lM_0 C cA am (zs S 9 ((S 8 0).toNat) x1) U) rfl iX6 10 (by decide) (by decide +kernel) (v := .ref (am 10)) rfl dX6_target_91 ?_
                refine lv_aload_n E.1 E.2.1 dX6_target_94 rfl (lv_at hl 0 rfl) ?_
                refine z_get E X (lM_0 C cA am (zs S 9 ((S 8 0).toNat) x1) U) rfl iX6 8 (by decide) (by decide +kernel) (v := .int (i32 (S 8 0))) rfl dX6_target_95 ?_
                refine z_top (((S 8 0).toNat : Nat) : Int) (by omega) ?_
                refine lv_iload_n E.1 E.2.1 dX6_target_98 rfl (lv_at hl 1 rfl) ?_
                refine z_iconst E dX6_target_99 ?_
                refine z_cne E 107 ⟨by omega, by omega⟩ ⟨by omega, by omega⟩ dX6_target_100 (by decide) (fun h100_47 => ?_) (fun h100_47 => ?_)
                · refine lv_iload_n E.1 E.2.1 dX6_target_107 rfl (lv_at hl 2 rfl) ?_
                  refine z_iast E X (lM_10 C cA am (zs S 9 ((S 8 0).toNat) x1) U) ((S 8 0).toNat) (by omega) (by omega) (by decide) dX6_target_108 (fun H locs X => ?_)
                  have X := ma_10 X
                  refine lv_aload_n E.1 E.2.1 dX6_target_109 rfl (lv_at hl 0 rfl) ?_
                  refine z_get E X (lM_0 C cA am (zs (zs S 9 ((S 8 0).toNat) x1) 10 ((S 8 0).toNat) x2) U) rfl iX6 11 (by decide) (by decide +kernel) (v := .ref (am 11)) rfl dX6_target_110 ?_
                  refine lv_aload_n E.1 E.2.1 dX6_target_113 rfl (lv_at hl 0 rfl) ?_
                  refine z_get E X (lM_0 C cA am (zs (zs S 9 ((S 8 0).toNat) x1) 10 ((S 8 0).toNat) x2) U) rfl iX6 8 (by decide) (by decide +kernel) (v := .int (i32 (S 8 0))) rfl dX6_target_114 ?_
                  refine z_top (((S 8 0).toNat : Nat) : Int) (by omega) ?_
                  refine lv_iload_n E.1 E.2.1 dX6_target_117 rfl (lv_at hl 1 rfl) ?_
                  refine z_iconst E dX6_target_118 ?_
                  refine z_cne E 127 ⟨by omega, by omega⟩ ⟨by omega, by omega⟩ dX6_target_119 (by decide) (fun h119_48 => ?_) (fun h119_48 => ?_)
                  · refine lv_iload_n E.1 E.2.1 dX6_target_127 rfl (lv_at hl 1 rfl) ?_
                    refine z_iconst E dX6_target_128 ?_
                    refine z_cne E 136 ⟨by omega, by omega⟩ ⟨by omega, by omega⟩ dX6_target_129 (by decide) (fun h129_49 => ?_) (fun h129_49 => ?_)
                    · refine lv_iload_n E.1 E.2.1 dX6_target_136 rfl (lv_at hl 2 rfl) ?_
                      refine z_iast E X (lM_11 C cA am (zs (zs S 9 ((S 8 0).toNat) x1) 10 ((S 8 0).toNat) x2) U) ((S 8 0).toNat) (by omega) (by omega) (by decide) dX6_target_137 (fun H locs X => ?_)
                      have X := ma_11 X
                      refine lv_aload_n E.1 E.2.1 dX6_target_138 rfl (lv_at hl 0 rfl) ?_
                      refine z_get E X (lM_0 C cA am (zs (zs (zs S 9 ((S 8 0).toNat) x1) 10 ((S 8 0).toNat) x2) 11 ((S 8 0).toNat) x2) U) rfl iX6 12 (by decide) (by decide +kernel) (v := .ref (am 12)) rfl dX6_target_139 ?_
                      refine lv_aload_n E.1 E.2.1 dX6_target_142 rfl (lv_at hl 0 rfl) ?_
                      refine z_get E X (lM_0 C cA am (zs (zs (zs S 9 ((S 8 0).toNat) x1) 10 ((S 8 0).toNat) x2) 11 ((S 8 0).toNat) x2) U) rfl iX6 8 (by decide) (by decide +kernel) (v := .int (i32 (S 8 0))) rfl dX6_target_143 ?_
                      refine z_top (((S 8 0).toNat : Nat) : Int) (by omega) ?_
                      refine lv_iload E.1 E.2.1 dX6_target_146 (lv_at hl 4 rfl) ?_
                      refine z_iast E X (lM_12 C cA am (zs (zs (zs S 9 ((S 8 0).toNat) x1) 10 ((S 8 0).toNat) x2) 11 ((S 8 0).toNat) x2) U) ((S 8 0).toNat) (by omega) (by omega) (by decide) dX6_target_148 (fun H locs X => ?_)
                      have X := ma_12 X
                      refine lv_aload_n E.1 E.2.1 dX6_target_149 rfl (lv_at hl 0 rfl) ?_
                      refine z_get E X (lM_0 C cA am (zs (zs (zs (zs S 9 ((S 8 0).toNat) x1) 10 ((S 8 0).toNat) x2) 11 ((S 8 0).toNat) x2) 12 ((S 8 0).toNat) x4) U) rfl iX6 13 (by decide) (by decide +kernel) (v := .ref (am 13)) rfl dX6_target_150 ?_
                      refine lv_aload_n E.1 E.2.1 dX6_target_153 rfl (lv_at hl 0 rfl) ?_
                      refine z_get E X (lM_0 C cA am (zs (zs (zs (zs S 9 ((S 8 0).toNat) x1) 10 ((S 8 0).toNat) x2) 11 ((S 8 0).toNat) x2) 12 ((S 8 0).toNat) x4) U) rfl iX6 8 (by decide) (by decide +kernel) (v := .int (i32 (S 8 0))) rfl dX6_target_154 ?_
                      refine z_top (((S 8 0).toNat : Nat) : Int) (by omega) ?_
                      refine lv_iload E.1 E.2.1 dX6_target_157 (lv_at hl 5 rfl) ?_
                      refine z_iast E X (lM_13 C cA am (zs (zs (zs (zs S 9 ((S 8 0).toNat) x1) 10 ((S 8 0).toNat) x2) 11 ((S 8 0).toNat) x2) 12 ((S 8 0).toNat) x4) U) ((S 8 0).toNat) (by omega) (by omega) (by decide) dX6_target_159 (fun H locs X => ?_)
                      have X := ma_13 X
                      refine lv_aload_n E.1 E.2.1 dX6_target_160 rfl (lv_at hl 0 rfl) ?_
                      refine lv_dup E.1 E.2.1 dX6_target_161 rfl ?_
                      refine z_get E X (lM_0 C cA am (zs (zs (zs (zs (zs S 9 ((S 8 0).toNat) x1) 10 ((S 8 0).toNat) x2) 11 ((S 8 0).toNat) x2) 12 ((S 8 0).toNat) x4) 13 ((S 8 0).toNat) x5) U) rfl iX6 8 (by decide) (by decide +kernel) (v := .int (i32 (S 8 0))) rfl dX6_target_162 ?_
                      refine z_iconst E dX6_target_165 ?_
                      refine z_iadd E dX6_target_166 ?_
                      refine z_put E X (lM_0 C cA am (zs (zs (zs (zs (zs S 9 ((S 8 0).toNat) x1) 10 ((S 8 0).toNat) x2) 11 ((S 8 0).toNat) x2) 12 ((S 8 0).toNat) x4) 13 ((S 8 0).toNat) x5) U) rfl iX6 tyX6 tyX6_ok nmX6 8 (by decide) (by decide +kernel) rfl rfl rfl (Nat.le_of_ble_eq_true rfl) dX6_target_167 (fun H locs X => ?_)
                      have X := mp_8 X
                      refine lv_aload_n E.1 E.2.1 dX6_target_170 rfl (lv_at hl 0 rfl) ?_
                      refine z_get E X (lM_0 C cA am (zs (zs (zs (zs (zs (zs S 9 ((S 8 0).toNat) x1) 10 ((S 8 0).toNat) x2) 11 ((S 8 0).toNat) x2) 12 ((S 8 0).toNat) x4) 13 ((S 8 0).toNat) x5) 8 0 ((S 8 0) + 1)) U) rfl iX6 8 (by decide) (by decide +kernel) (v := .int (i32 ((S 8 0) + 1))) rfl dX6_target_171 ?_
                      refine z_iconst E dX6_target_174 ?_
                      refine z_isub E dX6_target_175 ?_
                      refine z_top (S 8 0) (by omega) ?_
                      have ef : fTarget S x1 x2 x3 x4 x5 = (S 8 0, zs (zs (zs (zs (zs (zs S 9 ((S 8 0).toNat) x1) 10 ((S 8 0).toNat) x2) 11 ((S 8 0).toNat) x2) 12 ((S 8 0).toNat) x4) 13 ((S 8 0).toNat) x5) 8 0 ((S 8 0) + 1)) := by
                        unfold fTarget
                        try simp only [Int.toNat_natCast]
                        repeat' split
                        all_goals first | rfl | (exfalso; omega)
                      exact z_ret E X hQ (⟨(congrArg (fun w => some (Value.int (i32 w.1))) ef).symm, U, by rw [ef]; exact MC_cong (S := S) rfl rfl rfl (Int.le_refl _) (fun _ _ => rfl) hC, by rw [ef]; exact X.1⟩) dX6_target_176
                    · refine lv_iload_n E.1 E.2.1 dX6_target_132 rfl (lv_at hl 3 rfl) ?_
                      refine lv_goto (tgt := 137) E.1 E.2.1 dX6_target_133 (by decide) ?_
                      refine z_iast E X (lM_11 C cA am (zs (zs S 9 ((S 8 0).toNat) x1) 10 ((S 8 0).toNat) x2) U) ((S 8 0).toNat) (by omega) (by omega) (by decide) dX6_target_137 (fun H locs X => ?_)
                      have X := ma_11 X
                      refine lv_aload_n E.1 E.2.1 dX6_target_138 rfl (lv_at hl 0 rfl) ?_
                      refine z_get E X (lM_0 C cA am (zs (zs (zs S 9 ((S 8 0).toNat) x1) 10 ((S 8 0).toNat) x2) 11 ((S 8 0).toNat) x3) U) rfl iX6 12 (by decide) (by decide +kernel) (v := .ref (am 12)) rfl dX6_target_139 ?_
                      refine lv_aload_n E.1 E.2.1 dX6_target_142 rfl (lv_at hl 0 rfl) ?_
                      refine z_get E X (lM_0 C cA am (zs (zs (zs S 9 ((S 8 0).toNat) x1) 10 ((S 8 0).toNat) x2) 11 ((S 8 0).toNat) x3) U) rfl iX6 8 (by decide) (by decide +kernel) (v := .int (i32 (S 8 0))) rfl dX6_target_143 ?_
                      refine z_top (((S 8 0).toNat : Nat) : Int) (by omega) ?_
                      refine lv_iload E.1 E.2.1 dX6_target_146 (lv_at hl 4 rfl) ?_
                      refine z_iast E X (lM_12 C cA am (zs (zs (zs S 9 ((S 8 0).toNat) x1) 10 ((S 8 0).toNat) x2) 11 ((S 8 0).toNat) x3) U) ((S 8 0).toNat) (by omega) (by omega) (by decide) dX6_target_148 (fun H locs X => ?_)
                      have X := ma_12 X
                      refine lv_aload_n E.1 E.2.1 dX6_target_149 rfl (lv_at hl 0 rfl) ?_
                      refine z_get E X (lM_0 C cA am (zs (zs (zs (zs S 9 ((S 8 0).toNat) x1) 10 ((S 8 0).toNat) x2) 11 ((S 8 0).toNat) x3) 12 ((S 8 0).toNat) x4) U) rfl iX6 13 (by decide) (by decide +kernel) (v := .ref (am 13)) rfl dX6_target_150 ?_
                      refine lv_aload_n E.1 E.2.1 dX6_target_153 rfl (lv_at hl 0 rfl) ?_
                      refine z_get E X (lM_0 C cA am (zs (zs (zs (zs S 9 ((S 8 0).toNat) x1) 10 ((S 8 0).toNat) x2) 11 ((S 8 0).toNat) x3) 12 ((S 8 0).toNat) x4) U) rfl iX6 8 (by decide) (by decide +kernel) (v := .int (i32 (S 8 0))) rfl dX6_target_154 ?_
                      refine z_top (((S 8 0).toNat : Nat) : Int) (by omega) ?_
                      refine lv_iload E.1 E.2.1 dX6_target_157 (lv_at hl 5 rfl) ?_
                      refine z_iast E X (lM_13 C cA am (zs (zs (zs (zs S 9 ((S 8 0).toNat) x1) 10 ((S 8 0).toNat) x2) 11 ((S 8 0).toNat) x3) 12 ((S 8 0).toNat) x4) U) ((S 8 0).toNat) (by omega) (by omega) (by decide) dX6_target_159 (fun H locs X => ?_)
                      have X := ma_13 X
                      refine lv_aload_n E.1 E.2.1 dX6_target_160 rfl (lv_at hl 0 rfl) ?_
                      refine lv_dup E.1 E.2.1 dX6_target_161 rfl ?_
                      refine z_get E X (lM_0 C cA am (zs (zs (zs (zs (zs S 9 ((S 8 0).toNat) x1) 10 ((S 8 0).toNat) x2) 11 ((S 8 0).toNat) x3) 12 ((S 8 0).toNat) x4) 13 ((S 8 0).toNat) x5) U) rfl iX6 8 (by decide) (by decide +kernel) (v := .int (i32 (S 8 0))) rfl dX6_target_162 ?_
                      refine z_iconst E dX6_target_165 ?_
                      refine z_iadd E dX6_target_166 ?_
                      refine z_put E X (lM_0 C cA am (zs (zs (zs (zs (zs S 9 ((S 8 0).toNat) x1) 10 ((S 8 0).toNat) x2) 11 ((S 8 0).toNat) x3) 12 ((S 8 0).toNat) x4) 13 ((S 8 0).toNat) x5) U) rfl iX6 tyX6 tyX6_ok nmX6 8 (by decide) (by decide +kernel) rfl rfl rfl (Nat.le_of_ble_eq_true rfl) dX6_target_167 (fun H locs X => ?_)
                      have X := mp_8 X
                      refine lv_aload_n E.1 E.2.1 dX6_target_170 rfl (lv_at hl 0 rfl) ?_
                      refine z_get E X (lM_0 C cA am (zs (zs (zs (zs (zs (zs S 9 ((S 8 0).toNat) x1) 10 ((S 8 0).toNat) x2) 11 ((S 8 0).toNat) x3) 12 ((S 8 0).toNat) x4) 13 ((S 8 0).toNat) x5) 8 0 ((S 8 0) + 1)) U) rfl iX6 8 (by decide) (by decide +kernel) (v := .int (i32 ((S 8 0) + 1))) rfl dX6_target_171 ?_
                      refine z_iconst E dX6_target_174 ?_
                      refine z_isub E dX6_target_175 ?_
                      refine z_top (S 8 0) (by omega) ?_
                      have ef : fTarget S x1 x2 x3 x4 x5 = (S 8 0, zs (zs (zs (zs (zs (zs S 9 ((S 8 0).toNat) x1) 10 ((S 8 0).toNat) x2) 11 ((S 8 0).toNat) x3) 12 ((S 8 0).toNat) x4) 13 ((S 8 0).toNat) x5) 8 0 ((S 8 0) + 1)) := by
                        unfold fTarget
                        try simp only [Int.toNat_natCast]
                        repeat' split
                        all_goals first | rfl | (exfalso; omega)
                      exact z_ret E X hQ (⟨(congrArg (fun w => some (Value.int (i32 w.1))) ef).symm, U, by rw [ef]; exact MC_cong (S := S) rfl rfl rfl (Int.le_refl _) (fun _ _ => rfl) hC, by rw [ef]; exact X.1⟩) dX6_target_176
                  · refine z_bipush E dX6_target_122 (by decide +kernel) ?_
                    refine lv_goto (tgt := 137) E.1 E.2.1 dX6_target_124 (by decide) ?_
                    refine z_iast E X (lM_11 C cA am (zs (zs S 9 ((S 8 0).toNat) x1) 10 ((S 8 0).toNat) x2) U) ((S 8 0).toNat) (by omega) (by omega) (by decide) dX6_target_137 (fun H locs X => ?_)
                    have X := ma_11 X
                    refine lv_aload_n E.1 E.2.1 dX6_target_138 rfl (lv_at hl 0 rfl) ?_
                    refine z_get E X (lM_0 C cA am (zs (zs (zs S 9 ((S 8 0).toNat) x1) 10 ((S 8 0).toNat) x2) 11 ((S 8 0).toNat) 50) U) rfl iX6 12 (by decide) (by decide +kernel) (v := .ref (am 12)) rfl dX6_target_139 ?_
                    refine lv_aload_n E.1 E.2.1 dX6_target_142 rfl (lv_at hl 0 rfl) ?_
                    refine z_get E X (lM_0 C cA am (zs (zs (zs S 9 ((S 8 0).toNat) x1) 10 ((S 8 0).toNat) x2) 11 ((S 8 0).toNat) 50) U) rfl iX6 8 (by decide) (by decide +kernel) (v := .int (i32 (S 8 0))) rfl dX6_target_143 ?_
                    refine z_top (((S 8 0).toNat : Nat) : Int) (by omega) ?_
                    refine lv_iload E.1 E.2.1 dX6_target_146 (lv_at hl 4 rfl) ?_
                    refine z_iast E X (lM_12 C cA am (zs (zs (zs S 9 ((S 8 0).toNat) x1) 10 ((S 8 0).toNat) x2) 11 ((S 8 0).toNat) 50) U) ((S 8 0).toNat) (by omega) (by omega) (by decide) dX6_target_148 (fun H locs X => ?_)
                    have X := ma_12 X
                    refine lv_aload_n E.1 E.2.1 dX6_target_149 rfl (lv_at hl 0 rfl) ?_
                    refine z_get E X (lM_0 C cA am (zs (zs (zs (zs S 9 ((S 8 0).toNat) x1) 10 ((S 8 0).toNat) x2) 11 ((S 8 0).toNat) 50) 12 ((S 8 0).toNat) x4) U) rfl iX6 13 (by decide) (by decide +kernel) (v := .ref (am 13)) rfl dX6_target_150 ?_
                    refine lv_aload_n E.1 E.2.1 dX6_target_153 rfl (lv_at hl 0 rfl) ?_
                    refine z_get E X (lM_0 C cA am (zs (zs (zs (zs S 9 ((S 8 0).toNat) x1) 10 ((S 8 0).toNat) x2) 11 ((S 8 0).toNat) 50) 12 ((S 8 0).toNat) x4) U) rfl iX6 8 (by decide) (by decide +kernel) (v := .int (i32 (S 8 0))) rfl dX6_target_154 ?_
                    refine z_top (((S 8 0).toNat : Nat) : Int) (by omega) ?_
                    refine lv_iload E.1 E.2.1 dX6_target_157 (lv_at hl 5 rfl) ?_
                    refine z_iast E X (lM_13 C cA am (zs (zs (zs (zs S 9 ((S 8 0).toNat) x1) 10 ((S 8 0).toNat) x2) 11 ((S 8 0).toNat) 50) 12 ((S 8 0).toNat) x4) U) ((S 8 0).toNat) (by omega) (by omega) (by decide) dX6_target_159 (fun H locs X => ?_)
                    have X := ma_13 X
                    refine lv_aload_n E.1 E.2.1 dX6_target_160 rfl (lv_at hl 0 rfl) ?_
                    refine lv_dup E.1 E.2.1 dX6_target_161 rfl ?_
                    refine z_get E X (lM_0 C cA am (zs (zs (zs (zs (zs S 9 ((S 8 0).toNat) x1) 10 ((S 8 0).toNat) x2) 11 ((S 8 0).toNat) 50) 12 ((S 8 0).toNat) x4) 13 ((S 8 0).toNat) x5) U) rfl iX6 8 (by decide) (by decide +kernel) (v := .int (i32 (S 8 0))) rfl dX6_target_162 ?_
                    refine z_iconst E dX6_target_165 ?_
                    refine z_iadd E dX6_target_166 ?_
                    refine z_put E X (lM_0 C cA am (zs (zs (zs (zs (zs S 9 ((S 8 0).toNat) x1) 10 ((S 8 0).toNat) x2) 11 ((S 8 0).toNat) 50) 12 ((S 8 0).toNat) x4) 13 ((S 8 0).toNat) x5) U) rfl iX6 tyX6 tyX6_ok nmX6 8 (by decide) (by decide +kernel) rfl rfl rfl (Nat.le_of_ble_eq_true rfl) dX6_target_167 (fun H locs X => ?_)
                    have X := mp_8 X
                    refine lv_aload_n E.1 E.2.1 dX6_target_170 rfl (lv_at hl 0 rfl) ?_
                    refine z_get E X (lM_0 C cA am (zs (zs (zs (zs (zs (zs S 9 ((S 8 0).toNat) x1) 10 ((S 8 0).toNat) x2) 11 ((S 8 0).toNat) 50) 12 ((S 8 0).toNat) x4) 13 ((S 8 0).toNat) x5) 8 0 ((S 8 0) + 1)) U) rfl iX6 8 (by decide) (by decide +kernel) (v := .int (i32 ((S 8 0) + 1))) rfl dX6_target_171 ?_
                    refine z_iconst E dX6_target_174 ?_
                    refine z_isub E dX6_target_175 ?_
                    refine z_top (S 8 0) (by omega) ?_
                    have ef : fTarget S x1 x2 x3 x4 x5 = (S 8 0, zs (zs (zs (zs (zs (zs S 9 ((S 8 0).toNat) x1) 10 ((S 8 0).toNat) x2) 11 ((S 8 0).toNat) 50) 12 ((S 8 0).toNat) x4) 13 ((S 8 0).toNat) x5) 8 0 ((S 8 0) + 1)) := by
                      unfold fTarget
                      try simp only [Int.toNat_natCast]
                      repeat' split
                      all_goals first | rfl | (exfalso; omega)
                    exact z_ret E X hQ (⟨(congrArg (fun w => some (Value.int (i32 w.1))) ef).symm, U, by rw [ef]; exact MC_cong (S := S) rfl rfl rfl (Int.le_refl _) (fun _ _ => rfl) hC, by rw [ef]; exact X.1⟩) dX6_target_176
                · refine z_iconst E dX6_target_103 ?_
                  refine lv_goto (tgt := 108) E.1 E.2.1 dX6_target_104 (by decide) ?_
                  refine z_iast E X (lM_10 C cA am (zs S 9 ((S 8 0).toNat) x1) U) ((S 8 0).toNat) (by omega) (by omega) (by decide) dX6_target_108 (fun H locs X => ?_)
                  have X := ma_10 X
                  refine lv_aload_n E.1 E.2.1 dX6_target_109 rfl (lv_at hl 0 rfl) ?_
                  refine z_get E X (lM_0 C cA am (zs (zs S 9 ((S 8 0).toNat) x1) 10 ((S 8 0).toNat) 0) U) rfl iX6 11 (by decide) (by decide +kernel) (v := .ref (am 11)) rfl dX6_target_110 ?_
                  refine lv_aload_n E.1 E.2.1 dX6_target_113 rfl (lv_at hl 0 rfl) ?_
                  refine z_get E X (lM_0 C cA am (zs (zs S 9 ((S 8 0).toNat) x1) 10 ((S 8 0).toNat) 0) U) rfl iX6 8 (by decide) (by decide +kernel) (v := .int (i32 (S 8 0))) rfl dX6_target_114 ?_
                  refine z_top (((S 8 0).toNat : Nat) : Int) (by omega) ?_
                  refine lv_iload_n E.1 E.2.1 dX6_target_117 rfl (lv_at hl 1 rfl) ?_
                  refine z_iconst E dX6_target_118 ?_
                  refine z_cne E 127 ⟨by omega, by omega⟩ ⟨by omega, by omega⟩ dX6_target_119 (by decide) (fun h119_50 => ?_) (fun h119_50 => ?_)
                  · refine lv_iload_n E.1 E.2.1 dX6_target_127 rfl (lv_at hl 1 rfl) ?_
                    refine z_iconst E dX6_target_128 ?_
                    refine z_cne E 136 ⟨by omega, by omega⟩ ⟨by omega, by omega⟩ dX6_target_129 (by decide) (fun h129_51 => ?_) (fun h129_51 => ?_)
                    · refine lv_iload_n E.1 E.2.1 dX6_target_136 rfl (lv_at hl 2 rfl) ?_
                      refine z_iast E X (lM_11 C cA am (zs (zs S 9 ((S 8 0).toNat) x1) 10 ((S 8 0).toNat) 0) U) ((S 8 0).toNat) (by omega) (by omega) (by decide) dX6_target_137 (fun H locs X => ?_)
                      have X := ma_11 X
                      refine lv_aload_n E.1 E.2.1 dX6_target_138 rfl (lv_at hl 0 rfl) ?_
                      refine z_get E X (lM_0 C cA am (zs (zs (zs S 9 ((S 8 0).toNat) x1) 10 ((S 8 0).toNat) 0) 11 ((S 8 0).toNat) x2) U) rfl iX6 12 (by decide) (by decide +kernel) (v := .ref (am 12)) rfl dX6_target_139 ?_
                      refine lv_aload_n E.1 E.2.1 dX6_target_142 rfl (lv_at hl 0 rfl) ?_
                      refine z_get E X (lM_0 C cA am (zs (zs (zs S 9 ((S 8 0).toNat) x1) 10 ((S 8 0).toNat) 0) 11 ((S 8 0).toNat) x2) U) rfl iX6 8 (by decide) (by decide +kernel) (v := .int (i32 (S 8 0))) rfl dX6_target_143 ?_
                      refine z_top (((S 8 0).toNat : Nat) : Int) (by omega) ?_
                      refine lv_iload E.1 E.2.1 dX6_target_146 (lv_at hl 4 rfl) ?_
                      refine z_iast E X (lM_12 C cA am (zs (zs (zs S 9 ((S 8 0).toNat) x1) 10 ((S 8 0).toNat) 0) 11 ((S 8 0).toNat) x2) U) ((S 8 0).toNat) (by omega) (by omega) (by decide) dX6_target_148 (fun H locs X => ?_)
                      have X := ma_12 X
                      refine lv_aload_n E.1 E.2.1 dX6_target_149 rfl (lv_at hl 0 rfl) ?_
                      refine z_get E X (lM_0 C cA am (zs (zs (zs (zs S 9 ((S 8 0).toNat) x1) 10 ((S 8 0).toNat) 0) 11 ((S 8 0).toNat) x2) 12 ((S 8 0).toNat) x4) U) rfl iX6 13 (by decide) (by decide +kernel) (v := .ref (am 13)) rfl dX6_target_150 ?_
                      refine lv_aload_n E.1 E.2.1 dX6_target_153 rfl (lv_at hl 0 rfl) ?_
                      refine z_get E X (lM_0 C cA am (zs (zs (zs (zs S 9 ((S 8 0).toNat) x1) 10 ((S 8 0).toNat) 0) 11 ((S 8 0).toNat) x2) 12 ((S 8 0).toNat) x4) U) rfl iX6 8 (by decide) (by decide +kernel) (v := .int (i32 (S 8 0))) rfl dX6_target_154 ?_
                      refine z_top (((S 8 0).toNat : Nat) : Int) (by omega) ?_
                      refine lv_iload E.1 E.2.1 dX6_target_157 (lv_at hl 5 rfl) ?_
                      refine z_iast E X (lM_13 C cA am (zs (zs (zs (zs S 9 ((S 8 0).toNat) x1) 10 ((S 8 0).toNat) 0) 11 ((S 8 0).toNat) x2) 12 ((S 8 0).toNat) x4) U) ((S 8 0).toNat) (by omega) (by omega) (by decide) dX6_target_159 (fun H locs X => ?_)
                      have X := ma_13 X
                      refine lv_aload_n E.1 E.2.1 dX6_target_160 rfl (lv_at hl 0 rfl) ?_
                      refine lv_dup E.1 E.2.1 dX6_target_161 rfl ?_
                      refine z_get E X (lM_0 C cA am (zs (zs (zs (zs (zs S 9 ((S 8 0).toNat) x1) 10 ((S 8 0).toNat) 0) 11 ((S 8 0).toNat) x2) 12 ((S 8 0).toNat) x4) 13 ((S 8 0).toNat) x5) U) rfl iX6 8 (by decide) (by decide +kernel) (v := .int (i32 (S 8 0))) rfl dX6_target_162 ?_
                      refine z_iconst E dX6_target_165 ?_
                      refine z_iadd E dX6_target_166 ?_
                      refine z_put E X (lM_0 C cA am (zs (zs (zs (zs (zs S 9 ((S 8 0).toNat) x1) 10 ((S 8 0).toNat) 0) 11 ((S 8 0).toNat) x2) 12 ((S 8 0).toNat) x4) 13 ((S 8 0).toNat) x5) U) rfl iX6 tyX6 tyX6_ok nmX6 8 (by decide) (by decide +kernel) rfl rfl rfl (Nat.le_of_ble_eq_true rfl) dX6_target_167 (fun H locs X => ?_)
                      have X := mp_8 X
                      refine lv_aload_n E.1 E.2.1 dX6_target_170 rfl (lv_at hl 0 rfl) ?_
                      refine z_get E X (lM_0 C cA am (zs (zs (zs (zs (zs (zs S 9 ((S 8 0).toNat) x1) 10 ((S 8 0).toNat) 0) 11 ((S 8 0).toNat) x2) 12 ((S 8 0).toNat) x4) 13 ((S 8 0).toNat) x5) 8 0 ((S 8 0) + 1)) U) rfl iX6 8 (by decide) (by decide +kernel) (v := .int (i32 ((S 8 0) + 1))) rfl dX6_target_171 ?_
                      refine z_iconst E dX6_target_174 ?_
                      refine z_isub E dX6_target_175 ?_
                      refine z_top (S 8 0) (by omega) ?_
                      have ef : fTarget S x1 x2 x3 x4 x5 = (S 8 0, zs (zs (zs (zs (zs (zs S 9 ((S 8 0).toNat) x1) 10 ((S 8 0).toNat) 0) 11 ((S 8 0).toNat) x2) 12 ((S 8 0).toNat) x4) 13 ((S 8 0).toNat) x5) 8 0 ((S 8 0) + 1)) := by
                        unfold fTarget
                        try simp only [Int.toNat_natCast]
                        repeat' split
                        all_goals first | rfl | (exfalso; omega)
                      exact z_ret E X hQ (⟨(congrArg (fun w => some (Value.int (i32 w.1))) ef).symm, U, by rw [ef]; exact MC_cong (S := S) rfl rfl rfl (Int.le_refl _) (fun _ _ => rfl) hC, by rw [ef]; exact X.1⟩) dX6_target_176
                    · refine lv_iload_n E.1 E.2.1 dX6_target_132 rfl (lv_at hl 3 rfl) ?_
                      refine lv_goto (tgt := 137) E.1 E.2.1 dX6_target_133 (by decide) ?_
                      refine z_iast E X (lM_11 C cA am (zs (zs S 9 ((S 8 0).toNat) x1) 10 ((S 8 0).toNat) 0) U) ((S 8 0).toNat) (by omega) (by omega) (by decide) dX6_target_137 (fun H locs X => ?_)
                      have X := ma_11 X
                      refine lv_aload_n E.1 E.2.1 dX6_target_138 rfl (lv_at hl 0 rfl) ?_
                      refine z_get E X (lM_0 C cA am (zs (zs (zs S 9 ((S 8 0).toNat) x1) 10 ((S 8 0).toNat) 0) 11 ((S 8 0).toNat) x3) U) rfl iX6 12 (by decide) (by decide +kernel) (v := .ref (am 12)) rfl dX6_target_139 ?_
                      refine lv_aload_n E.1 E.2.1 dX6_target_142 rfl (lv_at hl 0 rfl) ?_
                      refine z_get E X (lM_0 C cA am (zs (zs (zs S 9 ((S 8 0).toNat) x1) 10 ((S 8 0).toNat) 0) 11 ((S 8 0).toNat) x3) U) rfl iX6 8 (by decide) (by decide +kernel) (v := .int (i32 (S 8 0))) rfl dX6_target_143 ?_
                      refine z_top (((S 8 0).toNat : Nat) : Int) (by omega) ?_
                      refine lv_iload E.1 E.2.1 dX6_target_146 (lv_at hl 4 rfl) ?_
                      refine z_iast E X (lM_12 C cA am (zs (zs (zs S 9 ((S 8 0).toNat) x1) 10 ((S 8 0).toNat) 0) 11 ((S 8 0).toNat) x3) U) ((S 8 0).toNat) (by omega) (by omega) (by decide) dX6_target_148 (fun H locs X => ?_)
                      have X := ma_12 X
                      refine lv_aload_n E.1 E.2.1 dX6_target_149 rfl (lv_at hl 0 rfl) ?_
                      refine z_get E X (lM_0 C cA am (zs (zs (zs (zs S 9 ((S 8 0).toNat) x1) 10 ((S 8 0).toNat) 0) 11 ((S 8 0).toNat) x3) 12 ((S 8 0).toNat) x4) U) rfl iX6 13 (by decide) (by decide +kernel) (v := .ref (am 13)) rfl dX6_target_150 ?_
                      refine lv_aload_n E.1 E.2.1 dX6_target_153 rfl (lv_at hl 0 rfl) ?_
                      refine z_get E X (lM_0 C cA am (zs (zs (zs (zs S 9 ((S 8 0).toNat) x1) 10 ((S 8 0).toNat) 0) 11 ((S 8 0).toNat) x3) 12 ((S 8 0).toNat) x4) U) rfl iX6 8 (by decide) (by decide +kernel) (v := .int (i32 (S 8 0))) rfl dX6_target_154 ?_
                      refine z_top (((S 8 0).toNat : Nat) : Int) (by omega) ?_
                      refine lv_iload E.1 E.2.1 dX6_target_157 (lv_at hl 5 rfl) ?_
                      refine z_iast E X (lM_13 C cA am (zs (zs (zs (zs S 9 ((S 8 0).toNat) x1) 10 ((S 8 0).toNat) 0) 11 ((S 8 0).toNat) x3) 12 ((S 8 0).toNat) x4) U) ((S 8 0).toNat) (by omega) (by omega) (by decide) dX6_target_159 (fun H locs X => ?_)
                      have X := ma_13 X
                      refine lv_aload_n E.1 E.2.1 dX6_target_160 rfl (lv_at hl 0 rfl) ?_
                      refine lv_dup E.1 E.2.1 dX6_target_161 rfl ?_
                      refine z_get E X (lM_0 C cA am (zs (zs (zs (zs (zs S 9 ((S 8 0).toNat) x1) 10 ((S 8 0).toNat) 0) 11 ((S 8 0).toNat) x3) 12 ((S 8 0).toNat) x4) 13 ((S 8 0).toNat) x5) U) rfl iX6 8 (by decide) (by decide +kernel) (v := .int (i32 (S 8 0))) rfl dX6_target_162 ?_
                      refine z_iconst E dX6_target_165 ?_
                      refine z_iadd E dX6_target_166 ?_
                      refine z_put E X (lM_0 C cA am (zs (zs (zs (zs (zs S 9 ((S 8 0).toNat) x1) 10 ((S 8 0).toNat) 0) 11 ((S 8 0).toNat) x3) 12 ((S 8 0).toNat) x4) 13 ((S 8 0).toNat) x5) U) rfl iX6 tyX6 tyX6_ok nmX6 8 (by decide) (by decide +kernel) rfl rfl rfl (Nat.le_of_ble_eq_true rfl) dX6_target_167 (fun H locs X => ?_)
                      have X := mp_8 X
                      refine lv_aload_n E.1 E.2.1 dX6_target_170 rfl (lv_at hl 0 rfl) ?_
                      refine z_get E X (lM_0 C cA am (zs (zs (zs (zs (zs (zs S 9 ((S 8 0).toNat) x1) 10 ((S 8 0).toNat) 0) 11 ((S 8 0).toNat) x3) 12 ((S 8 0).toNat) x4) 13 ((S 8 0).toNat) x5) 8 0 ((S 8 0) + 1)) U) rfl iX6 8 (by decide) (by decide +kernel) (v := .int (i32 ((S 8 0) + 1))) rfl dX6_target_171 ?_
                      refine z_iconst E dX6_target_174 ?_
                      refine z_isub E dX6_target_175 ?_
                      refine z_top (S 8 0) (by omega) ?_
                      have ef : fTarget S x1 x2 x3 x4 x5 = (S 8 0, zs (zs (zs (zs (zs (zs S 9 ((S 8 0).toNat) x1) 10 ((S 8 0).toNat) 0) 11 ((S 8 0).toNat) x3) 12 ((S 8 0).toNat) x4) 13 ((S 8 0).toNat) x5) 8 0 ((S 8 0) + 1)) := by
                        unfold fTarget
                        try simp only [Int.toNat_natCast]
                        repeat' split
                        all_goals first | rfl | (exfalso; omega)
                      exact z_ret E X hQ (⟨(congrArg (fun w => some (Value.int (i32 w.1))) ef).symm, U, by rw [ef]; exact MC_cong (S := S) rfl rfl rfl (Int.le_refl _) (fun _ _ => rfl) hC, by rw [ef]; exact X.1⟩) dX6_target_176
                  · refine z_bipush E dX6_target_122 (by decide +kernel) ?_
                    refine lv_goto (tgt := 137) E.1 E.2.1 dX6_target_124 (by decide) ?_
                    refine z_iast E X (lM_11 C cA am (zs (zs S 9 ((S 8 0).toNat) x1) 10 ((S 8 0).toNat) 0) U) ((S 8 0).toNat) (by omega) (by omega) (by decide) dX6_target_137 (fun H locs X => ?_)
                    have X := ma_11 X
                    refine lv_aload_n E.1 E.2.1 dX6_target_138 rfl (lv_at hl 0 rfl) ?_
                    refine z_get E X (lM_0 C cA am (zs (zs (zs S 9 ((S 8 0).toNat) x1) 10 ((S 8 0).toNat) 0) 11 ((S 8 0).toNat) 50) U) rfl iX6 12 (by decide) (by decide +kernel) (v := .ref (am 12)) rfl dX6_target_139 ?_
                    refine lv_aload_n E.1 E.2.1 dX6_target_142 rfl (lv_at hl 0 rfl) ?_
                    refine z_get E X (lM_0 C cA am (zs (zs (zs S 9 ((S 8 0).toNat) x1) 10 ((S 8 0).toNat) 0) 11 ((S 8 0).toNat) 50) U) rfl iX6 8 (by decide) (by decide +kernel) (v := .int (i32 (S 8 0))) rfl dX6_target_143 ?_
                    refine z_top (((S 8 0).toNat : Nat) : Int) (by omega) ?_
                    refine lv_iload E.1 E.2.1 dX6_target_146 (lv_at hl 4 rfl) ?_
                    refine z_iast E X (lM_12 C cA am (zs (zs (zs S 9 ((S 8 0).toNat) x1) 10 ((S 8 0).toNat) 0) 11 ((S 8 0).toNat) 50) U) ((S 8 0).toNat) (by omega) (by omega) (by decide) dX6_target_148 (fun H locs X => ?_)
                    have X := ma_12 X
                    refine lv_aload_n E.1 E.2.1 dX6_target_149 rfl (lv_at hl 0 rfl) ?_
                    refine z_get E X (lM_0 C cA am (zs (zs (zs (zs S 9 ((S 8 0).toNat) x1) 10 ((S 8 0).toNat) 0) 11 ((S 8 0).toNat) 50) 12 ((S 8 0).toNat) x4) U) rfl iX6 13 (by decide) (by decide +kernel) (v := .ref (am 13)) rfl dX6_target_150 ?_
                    refine lv_aload_n E.1 E.2.1 dX6_target_153 rfl (lv_at hl 0 rfl) ?_
                    refine z_get E X (lM_0 C cA am (zs (zs (zs (zs S 9 ((S 8 0).toNat) x1) 10 ((S 8 0).toNat) 0) 11 ((S 8 0).toNat) 50) 12 ((S 8 0).toNat) x4) U) rfl iX6 8 (by decide) (by decide +kernel) (v := .int (i32 (S 8 0))) rfl dX6_target_154 ?_
                    refine z_top (((S 8 0).toNat : Nat) : Int) (by omega) ?_
                    refine lv_iload E.1 E.2.1 dX6_target_157 (lv_at hl 5 rfl) ?_
                    refine z_iast E X (lM_13 C cA am (zs (zs (zs (zs S 9 ((S 8 0).toNat) x1) 10 ((S 8 0).toNat) 0) 11 ((S 8 0).toNat) 50) 12 ((S 8 0).toNat) x4) U) ((S 8 0).toNat) (by omega) (by omega) (by decide) dX6_target_159 (fun H locs X => ?_)
                    have X := ma_13 X
                    refine lv_aload_n E.1 E.2.1 dX6_target_160 rfl (lv_at hl 0 rfl) ?_
                    refine lv_dup E.1 E.2.1 dX6_target_161 rfl ?_
                    refine z_get E X (lM_0 C cA am (zs (zs (zs (zs (zs S 9 ((S 8 0).toNat) x1) 10 ((S 8 0).toNat) 0) 11 ((S 8 0).toNat) 50) 12 ((S 8 0).toNat) x4) 13 ((S 8 0).toNat) x5) U) rfl iX6 8 (by decide) (by decide +kernel) (v := .int (i32 (S 8 0))) rfl dX6_target_162 ?_
                    refine z_iconst E dX6_target_165 ?_
                    refine z_iadd E dX6_target_166 ?_
                    refine z_put E X (lM_0 C cA am (zs (zs (zs (zs (zs S 9 ((S 8 0).toNat) x1) 10 ((S 8 0).toNat) 0) 11 ((S 8 0).toNat) 50) 12 ((S 8 0).toNat) x4) 13 ((S 8 0).toNat) x5) U) rfl iX6 tyX6 tyX6_ok nmX6 8 (by decide) (by decide +kernel) rfl rfl rfl (Nat.le_of_ble_eq_true rfl) dX6_target_167 (fun H locs X => ?_)
                    have X := mp_8 X
                    refine lv_aload_n E.1 E.2.1 dX6_target_170 rfl (lv_at hl 0 rfl) ?_
                    refine z_get E X (lM_0 C cA am (zs (zs (zs (zs (zs (zs S 9 ((S 8 0).toNat) x1) 10 ((S 8 0).toNat) 0) 11 ((S 8 0).toNat) 50) 12 ((S 8 0).toNat) x4) 13 ((S 8 0).toNat) x5) 8 0 ((S 8 0) + 1)) U) rfl iX6 8 (by decide) (by decide +kernel) (v := .int (i32 ((S 8 0) + 1))) rfl dX6_target_171 ?_
                    refine z_iconst E dX6_target_174 ?_
                    refine z_isub E dX6_target_175 ?_
                    refine z_top (S 8 0) (by omega) ?_
                    have ef : fTarget S x1 x2 x3 x4 x5 = (S 8 0, zs (zs (zs (zs (zs (zs S 9 ((S 8 0).toNat) x1) 10 ((S 8 0).toNat) 0) 11 ((S 8 0).toNat) 50) 12 ((S 8 0).toNat) x4) 13 ((S 8 0).toNat) x5) 8 0 ((S 8 0) + 1)) := by
                      unfold fTarget
                      try simp only [Int.toNat_natCast]
                      repeat' split
                      all_goals first | rfl | (exfalso; omega)
                    exact z_ret E X hQ (⟨(congrArg (fun w => some (Value.int (i32 w.1))) ef).symm, U, by rw [ef]; exact MC_cong (S := S) rfl rfl rfl (Int.le_refl _) (fun _ _ => rfl) hC, by rw [ef]; exact X.1⟩) dX6_target_176
              · refine z_bipush E dX6_target_77 (by decide +kernel) ?_
                have ef : fTarget S x1 x2 x3 x4 x5 = (-4, S) := by
                  unfold fTarget
                  try simp only [Int.toNat_natCast]
                  repeat' split
                  all_goals first | rfl | (exfalso; omega)
                exact z_ret E X hQ (⟨(congrArg (fun w => some (Value.int (i32 w.1))) ef).symm, U, by rw [ef]; exact hC, by rw [ef]; exact X.1⟩) dX6_target_79
            · refine z_bipush E dX6_target_65 (by decide +kernel) ?_
              have ef : fTarget S x1 x2 x3 x4 x5 = (-2, S) := by
                unfold fTarget
                try simp only [Int.toNat_natCast]
                repeat' split
                all_goals first | rfl | (exfalso; omega)
              exact z_ret E X hQ (⟨(congrArg (fun w => some (Value.int (i32 w.1))) ef).symm, U, by rw [ef]; exact hC, by rw [ef]; exact X.1⟩) dX6_target_67

abbrev rX6_drop : Room := { frames := 0, cells := 0, slots := 0, locals := 0 }
set_option maxHeartbeats 4000000 in
set_option maxRecDepth 100000 in
theorem M_drop (l : Launch) (D : va_G) (cA : Nat → ClassId) (B0 : Nat) (C : zL) (am : Nat → Nat) (S U : zS) (hI : SI S) (hC : MC S U) : zM l yX6_drop wsX6_drop rX6_drop [.ref (am 0)] D cA B0 (zW D B0 (zj C (layM cA am S U))) (fun v H => v = some (.int (i32 (fDrop S ).1)) ∧ ∃ U : zS, MC (fDrop S ).2 U ∧ zW D B0 (zj C (layM cA am (fDrop S ).2 U)) H) := by
  refine z_met (cc := cX6_drop) (maxL := 1) (ret := (some .int)) (by decide) rfl (Nat.le_of_ble_eq_true rfl) ?_
  intro p e s m args below meth c ls Q hQ E hP hB hS hl
  have hl : lv_has ls 1 [(0, .ref (am 0))] := hl
  have iX6 : ∀ w ∈ u_ws RX6 TX6 28, w ∈ wsX6_drop := by decide +kernel
  have X : zX D B0 (zj C (layM cA am S U)) s.heap s.heap [] := ⟨hP, hS⟩
  have hI0 := hI.1
  unfold SI0 at hI0
  obtain ⟨b1, b2, b3, b4, b5, b8, b17, b19, b7⟩ := hI0
  refine lv_aload_n E.1 E.2.1 dX6_drop_0 rfl (lv_at hl 0 rfl) ?_
  refine z_iconst E dX6_drop_1 ?_
  refine z_put E X (lM_0 C cA am S U) rfl iX6 tyX6 tyX6_ok nmX6 0 (by decide) (by decide +kernel) rfl rfl rfl (Nat.le_of_ble_eq_true rfl) dX6_drop_2 (fun H locs X => ?_)
  have X := mp_0 X
  have hC : MC S (zs U 0 0 0) := MC_own hC
  generalize zs U 0 0 0 = U at X hC
  refine lv_aload_n E.1 E.2.1 dX6_drop_5 rfl (lv_at hl 0 rfl) ?_
  refine z_get E X (lM_0 C cA am S U) rfl iX6 8 (by decide) (by decide +kernel) (v := .int (i32 (S 8 0))) rfl dX6_drop_6 ?_
  refine z_fne E 15 ⟨by omega, by omega⟩ dX6_drop_9 (by decide) (fun h9_1 => ?_) (fun h9_1 => ?_)
  · refine lv_aload_n E.1 E.2.1 dX6_drop_15 rfl (lv_at hl 0 rfl) ?_
    refine lv_dup E.1 E.2.1 dX6_drop_16 rfl ?_
    refine z_get E X (lM_0 C cA am S U) rfl iX6 8 (by decide) (by decide +kernel) (v := .int (i32 (S 8 0))) rfl dX6_drop_17 ?_
    refine z_iconst E dX6_drop_20 ?_
    refine z_isub E dX6_drop_21 ?_
    refine z_put E X (lM_0 C cA am S U) rfl iX6 tyX6 tyX6_ok nmX6 8 (by decide) (by decide +kernel) rfl rfl rfl (Nat.le_of_ble_eq_true rfl) dX6_drop_22 (fun H locs X => ?_)
    have X := mp_8 X
    refine lv_aload_n E.1 E.2.1 dX6_drop_25 rfl (lv_at hl 0 rfl) ?_
    refine z_get E X (lM_0 C cA am (zs S 8 0 ((S 8 0) - 1)) U) rfl iX6 8 (by decide) (by decide +kernel) (v := .int (i32 ((S 8 0) - 1))) rfl dX6_drop_26 ?_
    have ef : fDrop S  = ((S 8 0) - 1, zs S 8 0 ((S 8 0) - 1)) := by
      unfold fDrop
      try simp only [Int.toNat_natCast]
      repeat' split
      all_goals first | rfl | (exfalso; omega)
    exact z_ret E X hQ (⟨(congrArg (fun w => some (Value.int (i32 w.1))) ef).symm, U, by rw [ef]; exact MC_cong (S := S) rfl rfl rfl (Int.le_refl _) (fun _ _ => rfl) hC, by rw [ef]; exact X.1⟩) dX6_drop_29
  · refine z_bipush E dX6_drop_12 (by decide +kernel) ?_
    have ef : fDrop S  = (-3, S) := by
      unfold fDrop
      try simp only [Int.toNat_natCast]
      repeat' split
      all_goals first | rfl | (exfalso; omega)
    exact z_ret E X hQ (⟨(congrArg (fun w => some (Value.int (i32 w.1))) ef).symm, U, by rw [ef]; exact hC, by rw [ef]; exact X.1⟩) dX6_drop_14

abbrev rX6_taken : Room := { frames := 2, cells := 0, slots := 0, locals := 41 }
set_option maxHeartbeats 4000000 in
set_option maxRecDepth 100000 in
theorem M_taken (l : Launch) (D : va_G) (cA : Nat → ClassId) (B0 : Nat) (C : zL) (am : Nat → Nat) (S U : zS) (hI : SI S) (hC : MC S U) (x1 x2 x3 : Int) (hx1 : zr x1) (hx2 : zr x2) (hx3 : zr x3) : zM l yX6_taken wsX6_taken rX6_taken [.ref (am 0), .int (i32 x1), .int (i32 x2), .int (i32 x3)] D cA B0 (zW D B0 (zj C (layM cA am S U))) (fun v H => v = some (.int (i32 (fTaken S x1 x2 x3).1)) ∧ ∃ U : zS, MC (fTaken S x1 x2 x3).2 U ∧ zW D B0 (zj C (layM cA am (fTaken S x1 x2 x3).2 U)) H) := by
  refine z_met (cc := cX6_taken) (maxL := 4) (ret := (some .int)) (by decide) rfl (Nat.le_of_ble_eq_true rfl) ?_
  intro p e s m args below meth c ls Q hQ E hP hB hS hl
  have hl : lv_has ls 4 [(0, .ref (am 0)), (1, .int (i32 x1)), (2, .int (i32 x2)), (3, .int (i32 x3))] := hl
  have iX6 : ∀ w ∈ u_ws RX6 TX6 28, w ∈ wsX6_taken := by decide +kernel
  have X : zX D B0 (zj C (layM cA am S U)) s.heap s.heap [] := ⟨hP, hS⟩
  have hI0 := hI.1
  unfold SI0 at hI0
  obtain ⟨b1, b2, b3, b4, b5, b8, b17, b19, b7⟩ := hI0
  unfold zr at hx1 hx2 hx3
  refine lv_aload_n E.1 E.2.1 dX6_taken_0 rfl (lv_at hl 0 rfl) ?_
  refine z_iconst E dX6_taken_1 ?_
  refine z_put E X (lM_0 C cA am S U) rfl iX6 tyX6 tyX6_ok nmX6 0 (by decide) (by decide +kernel) rfl rfl rfl (Nat.le_of_ble_eq_true rfl) dX6_taken_2 (fun H locs X => ?_)
  have X := mp_0 X
  have hC : MC S (zs U 0 0 0) := MC_own hC
  generalize zs U 0 0 0 = U at X hC
  refine lv_iload_n E.1 E.2.1 dX6_taken_5 rfl (lv_at hl 1 rfl) ?_
  refine z_i2l E ⟨by omega, by omega⟩ dX6_taken_6 ?_
  refine z_lconst (z := 0) E dX6_taken_7 (by decide +kernel) ?_
  refine lv_aload_n E.1 E.2.1 dX6_taken_8 rfl (lv_at hl 0 rfl) ?_
  refine z_get E X (lM_0 C cA am S U) rfl iX6 8 (by decide) (by decide +kernel) (v := .int (i32 (S 8 0))) rfl dX6_taken_9 ?_
  refine z_iconst E dX6_taken_12 ?_
  refine z_isub E dX6_taken_13 ?_
  refine z_i2l E ⟨by omega, by omega⟩ dX6_taken_14 ?_
  refine z_callJ (As := [.long (i64 x1), .long (i64 0), .long (i64 ((S 8 0) - 1))]) (rest := []) (n := 3) E X (c_in l D cA B0 _ x1 0 ((S 8 0) - 1) ⟨by omega, by omega⟩ ⟨by omega, by omega⟩ ⟨by omega, by omega⟩) gX6_taken_X6_in rfl (by decide +kernel) ⟨by decide, by decide⟩ rfl hl.1 rfl (Nat.le_of_ble_eq_true rfl) dX6_taken_15 ⟨by decide, by decide⟩ rfl 0 0 ⟨rfl, rfl⟩ (fun v H locs hv hS_1 => ?_)
  obtain ⟨hH, z_2, rfl, ez_2⟩ := hv
  subst hH
  replace X := X.same hS_1
  refine z_fne E 23 ⟨by omega, by omega⟩ dX6_taken_18 (by decide) (fun h18_3 => ?_) (fun h18_3 => ?_)
  · obtain ⟨t, rfl⟩ : ∃ t : Nat, x1 = (t : Int) := ⟨x1.toNat, by omega⟩
    have ht2 := hI.2.2.1 t (by omega)
    refine lv_iload_n E.1 E.2.1 dX6_taken_23 rfl (lv_at hl 2 rfl) ?_
    refine z_i2l E ⟨by omega, by omega⟩ dX6_taken_24 ?_
    refine z_lconst (z := 0) E dX6_taken_25 (by decide +kernel) ?_
    refine z_ldc2 (v := 2) (z := 2) E (by decide +kernel) (by decide +kernel) dX6_taken_26 ?_
    refine z_callJ (As := [.long (i64 x2), .long (i64 0), .long (i64 2)]) (rest := []) (n := 3) E X (c_in l D cA B0 _ x2 0 2 ⟨by omega, by omega⟩ ⟨by omega, by omega⟩ ⟨by omega, by omega⟩) gX6_taken_X6_in rfl (by decide +kernel) ⟨by decide, by decide⟩ rfl hl.1 rfl (Nat.le_of_ble_eq_true rfl) dX6_taken_29 ⟨by decide, by decide⟩ rfl 0 0 ⟨rfl, rfl⟩ (fun v H locs hv hS_4 => ?_)
    obtain ⟨hH, z_5, rfl, ez_5⟩ := hv
    subst hH
    replace X := X.same hS_4
    refine z_feq E 57 ⟨by omega, by omega⟩ dX6_taken_32 (by decide) (fun h32_6 => ?_) (fun h32_6 => ?_)
    · refine z_bipush E dX6_taken_57 (by decide +kernel) ?_
      have ef : fTaken S (t : Int) x2 x3 = (-2, S) := by
        unfold fTaken fFind
        try simp only [Int.toNat_natCast]
        repeat' split
        all_goals first | rfl | (exfalso; omega)
      exact z_ret E X hQ (⟨(congrArg (fun w => some (Value.int (i32 w.1))) ef).symm, U, by rw [ef]; exact hC, by rw [ef]; exact X.1⟩) dX6_taken_59
    · refine lv_iload_n E.1 E.2.1 dX6_taken_35 rfl (lv_at hl 3 rfl) ?_
      refine z_i2l E ⟨by omega, by omega⟩ dX6_taken_36 ?_
      refine z_lconst (z := 0) E dX6_taken_37 (by decide +kernel) ?_
      refine lv_iload_n E.1 E.2.1 dX6_taken_38 rfl (lv_at hl 2 rfl) ?_
      refine z_fne E 48 ⟨by omega, by omega⟩ dX6_taken_39 (by decide) (fun h39_7 => ?_) (fun h39_7 => ?_)
      · refine z_ldc2 (v := 3) (z := 3) E (by decide +kernel) (by decide +kernel) dX6_taken_48 ?_
        refine z_callJ (As := [.long (i64 x3), .long (i64 0), .long (i64 3)]) (rest := []) (n := 3) E X (c_in l D cA B0 _ x3 0 3 ⟨by omega, by omega⟩ ⟨by omega, by omega⟩ ⟨by omega, by omega⟩) gX6_taken_X6_in rfl (by decide +kernel) ⟨by decide, by decide⟩ rfl hl.1 rfl (Nat.le_of_ble_eq_true rfl) dX6_taken_51 ⟨by decide, by decide⟩ rfl 0 0 ⟨rfl, rfl⟩ (fun v H locs hv hS_8 => ?_)
        obtain ⟨hH, z_9, rfl, ez_9⟩ := hv
        subst hH
        replace X := X.same hS_8
        refine z_fne E 60 ⟨by omega, by omega⟩ dX6_taken_54 (by decide) (fun h54_10 => ?_) (fun h54_10 => ?_)
        · refine lv_aload_n E.1 E.2.1 dX6_taken_60 rfl (lv_at hl 0 rfl) ?_
          refine z_get E X (lM_0 C cA am S U) rfl iX6 9 (by decide) (by decide +kernel) (v := .ref (am 9)) rfl dX6_taken_61 ?_
          refine lv_iload_n E.1 E.2.1 dX6_taken_64 rfl (lv_at hl 1 rfl) ?_
          refine z_iald E X (lM_9 C cA am S U) t (by omega) (by omega) (by decide) dX6_taken_65 ?_
          refine lv_iload_n E.1 E.2.1 dX6_taken_66 rfl (lv_at hl 2 rfl) ?_
          refine z_cge E 77 ⟨by omega, by omega⟩ ⟨by omega, by omega⟩ dX6_taken_67 (by decide) (fun h67_11 => ?_) (fun h67_11 => ?_)
          · refine lv_iload_n E.1 E.2.1 dX6_taken_77 rfl (lv_at hl 3 rfl) ?_
            refine z_fne E 90 ⟨by omega, by omega⟩ dX6_taken_78 (by decide) (fun h78_12 => ?_) (fun h78_12 => ?_)
            · refine lv_iload_n E.1 E.2.1 dX6_taken_90 rfl (lv_at hl 3 rfl) ?_
              refine z_iconst E dX6_taken_91 ?_
              refine z_cne E 104 ⟨by omega, by omega⟩ ⟨by omega, by omega⟩ dX6_taken_92 (by decide) (fun h92_13 => ?_) (fun h92_13 => ?_)
              · refine lv_iload_n E.1 E.2.1 dX6_taken_104 rfl (lv_at hl 3 rfl) ?_
                refine z_iconst E dX6_taken_105 ?_
                refine z_cne E 117 ⟨by omega, by omega⟩ ⟨by omega, by omega⟩ dX6_taken_106 (by decide) (fun h106_14 => ?_) (fun h106_14 => ?_)
                · refine lv_aload_n E.1 E.2.1 dX6_taken_117 rfl (lv_at hl 0 rfl) ?_
                  refine z_get E X (lM_0 C cA am S U) rfl iX6 11 (by decide) (by decide +kernel) (v := .ref (am 11)) rfl dX6_taken_118 ?_
                  refine lv_iload_n E.1 E.2.1 dX6_taken_121 rfl (lv_at hl 1 rfl) ?_
                  refine z_iald E X (lM_11 C cA am S U) t (by omega) (by omega) (by decide) dX6_taken_122 ?_
                  have ef : fTaken S (t : Int) x2 x3 = (S 11 t, S) := by
                    unfold fTaken fFind
                    try simp only [Int.toNat_natCast]
                    repeat' split
                    all_goals first | rfl | (exfalso; omega)
                  exact z_ret E X hQ (⟨(congrArg (fun w => some (Value.int (i32 w.1))) ef).symm, U, by rw [ef]; exact hC, by rw [ef]; exact X.1⟩) dX6_taken_123
                · refine lv_aload_n E.1 E.2.1 dX6_taken_109 rfl (lv_at hl 0 rfl) ?_
                  refine lv_iload_n E.1 E.2.1 dX6_taken_110 rfl (lv_at hl 1 rfl) ?_
                  refine z_callV (As := [.int (i32 (t : Int))]) (rest := []) (n := 1) E X (lM_0 C cA am S U) rfl (m_depthOf l D cA B0 C am S U hI t (by omega)) gX6_taken_X6_depthOf rfl (by decide +kernel) ⟨by decide, by decide⟩ rfl hl.1 rfl (Nat.le_of_ble_eq_true rfl) dX6_taken_111 ⟨by decide, by decide⟩ X.1 0 0 ⟨rfl, rfl⟩ (fun v H locs hv hS_15 => ?_)
                  obtain ⟨rfl, hw⟩ := hv
                  replace X : zX D B0 (zj C (layM cA am S U)) s.heap H locs := ⟨hw, hS_15⟩
                  have f_16 := dep_rng (t := t) hI (by omega)
                  refine lv_goto (tgt := 123) E.1 E.2.1 dX6_taken_114 (by decide) ?_
                  have ef : fTaken S (t : Int) x2 x3 = (dep S t, S) := by
                    unfold fTaken fFind
                    try simp only [Int.toNat_natCast]
                    repeat' split
                    all_goals first | rfl | (exfalso; omega)
                  exact z_ret E X hQ (⟨(congrArg (fun w => some (Value.int (i32 w.1))) ef).symm, U, by rw [ef]; exact hC, by rw [ef]; exact X.1⟩) dX6_taken_123
              · refine lv_aload_n E.1 E.2.1 dX6_taken_95 rfl (lv_at hl 0 rfl) ?_
                refine z_get E X (lM_0 C cA am S U) rfl iX6 10 (by decide) (by decide +kernel) (v := .ref (am 10)) rfl dX6_taken_96 ?_
                refine lv_iload_n E.1 E.2.1 dX6_taken_99 rfl (lv_at hl 1 rfl) ?_
                refine z_iald E X (lM_10 C cA am S U) t (by omega) (by omega) (by decide) dX6_taken_100 ?_
                refine lv_goto (tgt := 123) E.1 E.2.1 dX6_taken_101 (by decide) ?_
                have ef : fTaken S (t : Int) x2 x3 = (S 10 t, S) := by
                  unfold fTaken fFind
                  try simp only [Int.toNat_natCast]
                  repeat' split
                  all_goals first | rfl | (exfalso; omega)
                exact z_ret E X hQ (⟨(congrArg (fun w => some (Value.int (i32 w.1))) ef).symm, U, by rw [ef]; exact hC, by rw [ef]; exact X.1⟩) dX6_taken_123
            · refine lv_aload_n E.1 E.2.1 dX6_taken_81 rfl (lv_at hl 0 rfl) ?_
              refine z_get E X (lM_0 C cA am S U) rfl iX6 13 (by decide) (by decide +kernel) (v := .ref (am 13)) rfl dX6_taken_82 ?_
              refine lv_iload_n E.1 E.2.1 dX6_taken_85 rfl (lv_at hl 1 rfl) ?_
              refine z_iald E X (lM_13 C cA am S U) t (by omega) (by omega) (by decide) dX6_taken_86 ?_
              refine lv_goto (tgt := 123) E.1 E.2.1 dX6_taken_87 (by decide) ?_
              have ef : fTaken S (t : Int) x2 x3 = (S 13 t, S) := by
                unfold fTaken fFind
                try simp only [Int.toNat_natCast]
                repeat' split
                all_goals first | rfl | (exfalso; omega)
              exact z_ret E X hQ (⟨(congrArg (fun w => some (Value.int (i32 w.1))) ef).symm, U, by rw [ef]; exact hC, by rw [ef]; exact X.1⟩) dX6_taken_123
          · refine lv_aload_n E.1 E.2.1 dX6_taken_70 rfl (lv_at hl 0 rfl) ?_
            refine z_bipush E dX6_taken_71 (by decide +kernel) ?_
            refine z_callV (As := [.int (i32 (-13))]) (rest := []) (n := 1) E X (lM_0 C cA am S U) rfl (m_finds l D cA B0 C am S U (-13)) gX6_taken_X6_finds rfl (by decide +kernel) ⟨by decide, by decide⟩ rfl hl.1 rfl (Nat.le_of_ble_eq_true rfl) dX6_taken_73 ⟨by decide, by decide⟩ X.1 0 0 ⟨rfl, rfl⟩ (fun v H locs hv hS_17 => ?_)
            obtain ⟨rfl, hw⟩ := hv
            replace X : zX D B0 (zj C (layM cA am (zs S 27 0 (S 27 0 + 1)) U)) s.heap H locs := ⟨hw, hS_17⟩
            have ef : fTaken S (t : Int) x2 x3 = (-13, zs S 27 0 (S 27 0 + 1)) := by
              unfold fTaken fFind
              try simp only [Int.toNat_natCast]
              repeat' split
              all_goals first | rfl | (exfalso; omega)
            exact z_ret E X hQ (⟨(congrArg (fun w => some (Value.int (i32 w.1))) ef).symm, U, by rw [ef]; exact MC_cong (S := S) rfl rfl rfl (Int.le_refl _) (fun _ _ => rfl) hC, by rw [ef]; exact X.1⟩) dX6_taken_76
        · refine z_bipush E dX6_taken_57 (by decide +kernel) ?_
          have ef : fTaken S (t : Int) x2 x3 = (-2, S) := by
            unfold fTaken fFind
            try simp only [Int.toNat_natCast]
            repeat' split
            all_goals first | rfl | (exfalso; omega)
          exact z_ret E X hQ (⟨(congrArg (fun w => some (Value.int (i32 w.1))) ef).symm, U, by rw [ef]; exact hC, by rw [ef]; exact X.1⟩) dX6_taken_59
      · refine z_ldc2 (v := 2) (z := 2) E (by decide +kernel) (by decide +kernel) dX6_taken_42 ?_
        refine lv_goto (tgt := 51) E.1 E.2.1 dX6_taken_45 (by decide) ?_
        refine z_callJ (As := [.long (i64 x3), .long (i64 0), .long (i64 2)]) (rest := []) (n := 3) E X (c_in l D cA B0 _ x3 0 2 ⟨by omega, by omega⟩ ⟨by omega, by omega⟩ ⟨by omega, by omega⟩) gX6_taken_X6_in rfl (by decide +kernel) ⟨by decide, by decide⟩ rfl hl.1 rfl (Nat.le_of_ble_eq_true rfl) dX6_taken_51 ⟨by decide, by decide⟩ rfl 0 0 ⟨rfl, rfl⟩ (fun v H locs hv hS_18 => ?_)
        obtain ⟨hH, z_19, rfl, ez_19⟩ := hv
        subst hH
        replace X := X.same hS_18
        refine z_fne E 60 ⟨by omega, by omega⟩ dX6_taken_54 (by decide) (fun h54_20 => ?_) (fun h54_20 => ?_)
        · refine lv_aload_n E.1 E.2.1 dX6_taken_60 rfl (lv_at hl 0 rfl) ?_
          refine z_get E X (lM_0 C cA am S U) rfl iX6 9 (by decide) (by decide +kernel) (v := .ref (am 9)) rfl dX6_taken_61 ?_
          refine lv_iload_n E.1 E.2.1 dX6_taken_64 rfl (lv_at hl 1 rfl) ?_
          refine z_iald E X (lM_9 C cA am S U) t (by omega) (by omega) (by decide) dX6_taken_65 ?_
          refine lv_iload_n E.1 E.2.1 dX6_taken_66 rfl (lv_at hl 2 rfl) ?_
          refine z_cge E 77 ⟨by omega, by omega⟩ ⟨by omega, by omega⟩ dX6_taken_67 (by decide) (fun h67_21 => ?_) (fun h67_21 => ?_)
          · refine lv_iload_n E.1 E.2.1 dX6_taken_77 rfl (lv_at hl 3 rfl) ?_
            refine z_fne E 90 ⟨by omega, by omega⟩ dX6_taken_78 (by decide) (fun h78_22 => ?_) (fun h78_22 => ?_)
            · refine lv_iload_n E.1 E.2.1 dX6_taken_90 rfl (lv_at hl 3 rfl) ?_
              refine z_iconst E dX6_taken_91 ?_
              refine z_cne E 104 ⟨by omega, by omega⟩ ⟨by omega, by omega⟩ dX6_taken_92 (by decide) (fun h92_23 => ?_) (fun h92_23 => ?_)
              · refine lv_iload_n E.1 E.2.1 dX6_taken_104 rfl (lv_at hl 3 rfl) ?_
                refine z_iconst E dX6_taken_105 ?_
                refine z_cne E 117 ⟨by omega, by omega⟩ ⟨by omega, by omega⟩ dX6_taken_106 (by decide) (fun h106_24 => ?_) (fun h106_24 => ?_)
                · refine lv_aload_n E.1 E.2.1 dX6_taken_117 rfl (lv_at hl 0 rfl) ?_
                  refine z_get E X (lM_0 C cA am S U) rfl iX6 11 (by decide) (by decide +kernel) (v := .ref (am 11)) rfl dX6_taken_118 ?_
                  refine lv_iload_n E.1 E.2.1 dX6_taken_121 rfl (lv_at hl 1 rfl) ?_
                  refine z_iald E X (lM_11 C cA am S U) t (by omega) (by omega) (by decide) dX6_taken_122 ?_
                  have ef : fTaken S (t : Int) x2 x3 = (S 11 t, S) := by
                    unfold fTaken fFind
                    try simp only [Int.toNat_natCast]
                    repeat' split
                    all_goals first | rfl | (exfalso; omega)
                  exact z_ret E X hQ (⟨(congrArg (fun w => some (Value.int (i32 w.1))) ef).symm, U, by rw [ef]; exact hC, by rw [ef]; exact X.1⟩) dX6_taken_123
                · refine lv_aload_n E.1 E.2.1 dX6_taken_109 rfl (lv_at hl 0 rfl) ?_
                  refine lv_iload_n E.1 E.2.1 dX6_taken_110 rfl (lv_at hl 1 rfl) ?_
                  refine z_callV (As := [.int (i32 (t : Int))]) (rest := []) (n := 1) E X (lM_0 C cA am S U) rfl (m_depthOf l D cA B0 C am S U hI t (by omega)) gX6_taken_X6_depthOf rfl (by decide +kernel) ⟨by decide, by decide⟩ rfl hl.1 rfl (Nat.le_of_ble_eq_true rfl) dX6_taken_111 ⟨by decide, by decide⟩ X.1 0 0 ⟨rfl, rfl⟩ (fun v H locs hv hS_25 => ?_)
                  obtain ⟨rfl, hw⟩ := hv
                  replace X : zX D B0 (zj C (layM cA am S U)) s.heap H locs := ⟨hw, hS_25⟩
                  have f_26 := dep_rng (t := t) hI (by omega)
                  refine lv_goto (tgt := 123) E.1 E.2.1 dX6_taken_114 (by decide) ?_
                  have ef : fTaken S (t : Int) x2 x3 = (dep S t, S) := by
                    unfold fTaken fFind
                    try simp only [Int.toNat_natCast]
                    repeat' split
                    all_goals first | rfl | (exfalso; omega)
                  exact z_ret E X hQ (⟨(congrArg (fun w => some (Value.int (i32 w.1))) ef).symm, U, by rw [ef]; exact hC, by rw [ef]; exact X.1⟩) dX6_taken_123
              · refine lv_aload_n E.1 E.2.1 dX6_taken_95 rfl (lv_at hl 0 rfl) ?_
                refine z_get E X (lM_0 C cA am S U) rfl iX6 10 (by decide) (by decide +kernel) (v := .ref (am 10)) rfl dX6_taken_96 ?_
                refine lv_iload_n E.1 E.2.1 dX6_taken_99 rfl (lv_at hl 1 rfl) ?_
                refine z_iald E X (lM_10 C cA am S U) t (by omega) (by omega) (by decide) dX6_taken_100 ?_
                refine lv_goto (tgt := 123) E.1 E.2.1 dX6_taken_101 (by decide) ?_
                have ef : fTaken S (t : Int) x2 x3 = (S 10 t, S) := by
                  unfold fTaken fFind
                  try simp only [Int.toNat_natCast]
                  repeat' split
                  all_goals first | rfl | (exfalso; omega)
                exact z_ret E X hQ (⟨(congrArg (fun w => some (Value.int (i32 w.1))) ef).symm, U, by rw [ef]; exact hC, by rw [ef]; exact X.1⟩) dX6_taken_123
            · refine lv_aload_n E.1 E.2.1 dX6_taken_81 rfl (lv_at hl 0 rfl) ?_
              refine z_get E X (lM_0 C cA am S U) rfl iX6 13 (by decide) (by decide +kernel) (v := .ref (am 13)) rfl dX6_taken_82 ?_
              refine lv_iload_n E.1 E.2.1 dX6_taken_85 rfl (lv_at hl 1 rfl) ?_
              refine z_iald E X (lM_13 C cA am S U) t (by omega) (by omega) (by decide) dX6_taken_86 ?_
              refine lv_goto (tgt := 123) E.1 E.2.1 dX6_taken_87 (by decide) ?_
              have ef : fTaken S (t : Int) x2 x3 = (S 13 t, S) := by
                unfold fTaken fFind
                try simp only [Int.toNat_natCast]
                repeat' split
                all_goals first | rfl | (exfalso; omega)
              exact z_ret E X hQ (⟨(congrArg (fun w => some (Value.int (i32 w.1))) ef).symm, U, by rw [ef]; exact hC, by rw [ef]; exact X.1⟩) dX6_taken_123
          · refine lv_aload_n E.1 E.2.1 dX6_taken_70 rfl (lv_at hl 0 rfl) ?_
            refine z_bipush E dX6_taken_71 (by decide +kernel) ?_
            refine z_callV (As := [.int (i32 (-13))]) (rest := []) (n := 1) E X (lM_0 C cA am S U) rfl (m_finds l D cA B0 C am S U (-13)) gX6_taken_X6_finds rfl (by decide +kernel) ⟨by decide, by decide⟩ rfl hl.1 rfl (Nat.le_of_ble_eq_true rfl) dX6_taken_73 ⟨by decide, by decide⟩ X.1 0 0 ⟨rfl, rfl⟩ (fun v H locs hv hS_27 => ?_)
            obtain ⟨rfl, hw⟩ := hv
            replace X : zX D B0 (zj C (layM cA am (zs S 27 0 (S 27 0 + 1)) U)) s.heap H locs := ⟨hw, hS_27⟩
            have ef : fTaken S (t : Int) x2 x3 = (-13, zs S 27 0 (S 27 0 + 1)) := by
              unfold fTaken fFind
              try simp only [Int.toNat_natCast]
              repeat' split
              all_goals first | rfl | (exfalso; omega)
            exact z_ret E X hQ (⟨(congrArg (fun w => some (Value.int (i32 w.1))) ef).symm, U, by rw [ef]; exact MC_cong (S := S) rfl rfl rfl (Int.le_refl _) (fun _ _ => rfl) hC, by rw [ef]; exact X.1⟩) dX6_taken_76
        · refine z_bipush E dX6_taken_57 (by decide +kernel) ?_
          have ef : fTaken S (t : Int) x2 x3 = (-2, S) := by
            unfold fTaken fFind
            try simp only [Int.toNat_natCast]
            repeat' split
            all_goals first | rfl | (exfalso; omega)
          exact z_ret E X hQ (⟨(congrArg (fun w => some (Value.int (i32 w.1))) ef).symm, U, by rw [ef]; exact hC, by rw [ef]; exact X.1⟩) dX6_taken_59
  · refine z_iconst E dX6_taken_21 ?_
    have ef : fTaken S x1 x2 x3 = (-1, S) := by
      unfold fTaken fFind
      try simp only [Int.toNat_natCast]
      repeat' split
      all_goals first | rfl | (exfalso; omega)
    exact z_ret E X hQ (⟨(congrArg (fun w => some (Value.int (i32 w.1))) ef).symm, U, by rw [ef]; exact hC, by rw [ef]; exact X.1⟩) dX6_taken_22

abbrev rX6_time : Room := { frames := 3, cells := 0, slots := 0, locals := 74 }
set_option maxHeartbeats 4000000 in
set_option maxRecDepth 100000 in
theorem M_time (l : Launch) (D : va_G) (cA : Nat → ClassId) (B0 : Nat) (C : zL) (am : Nat → Nat) (S U : zS) (hI : SI S) (hC : MC S U) (x1 x2 x3 : Int) (hx1 : zr x1) (hx2 : zr x2) (hx3 : zr x3) : zM l yX6_time wsX6_time rX6_time [.ref (am 0), .int (i32 x1), .int (i32 x2), .int (i32 x3)] D cA B0 (zW D B0 (zj C (layM cA am S U))) (fun v H => v = some (.int (i32 (fTime S x1 x2 x3).1)) ∧ ∃ U : zS, MC (fTime S x1 x2 x3).2 U ∧ zW D B0 (zj C (layM cA am (fTime S x1 x2 x3).2 U)) H) := by
  refine z_met (cc := cX6_time) (maxL := 4) (ret := (some .int)) (by decide) rfl (Nat.le_of_ble_eq_true rfl) ?_
  intro p e s m args below meth c ls Q hQ E hP hB hS hl
  have hl : lv_has ls 4 [(0, .ref (am 0)), (1, .int (i32 x1)), (2, .int (i32 x2)), (3, .int (i32 x3))] := hl
  have iX6 : ∀ w ∈ u_ws RX6 TX6 28, w ∈ wsX6_time := by decide +kernel
  have X : zX D B0 (zj C (layM cA am S U)) s.heap s.heap [] := ⟨hP, hS⟩
  have hI0 := hI.1
  unfold SI0 at hI0
  obtain ⟨b1, b2, b3, b4, b5, b8, b17, b19, b7⟩ := hI0
  unfold zr at hx1 hx2 hx3
  refine lv_aload_n E.1 E.2.1 dX6_time_0 rfl (lv_at hl 0 rfl) ?_
  refine z_iconst E dX6_time_1 ?_
  refine z_put E X (lM_0 C cA am S U) rfl iX6 tyX6 tyX6_ok nmX6 0 (by decide) (by decide +kernel) rfl rfl rfl (Nat.le_of_ble_eq_true rfl) dX6_time_2 (fun H locs X => ?_)
  have X := mp_0 X
  have hC : MC S (zs U 0 0 0) := MC_own hC
  generalize zs U 0 0 0 = U at X hC
  refine lv_aload_n E.1 E.2.1 dX6_time_5 rfl (lv_at hl 0 rfl) ?_
  refine lv_iload_n E.1 E.2.1 dX6_time_6 rfl (lv_at hl 1 rfl) ?_
  refine z_callV (As := [.int (i32 x1)]) (rest := []) (n := 1) E X (lM_0 C cA am S U) rfl (m_noElement l D cA B0 C am S U hI.1 x1 ⟨by omega, by omega⟩) gX6_time_X6_noElement rfl (by decide +kernel) ⟨by decide, by decide⟩ rfl hl.1 rfl (Nat.le_of_ble_eq_true rfl) dX6_time_7 ⟨by decide, by decide⟩ X.1 0 0 ⟨rfl, rfl⟩ (fun v H locs hv hS_1 => ?_)
  obtain ⟨⟨z_2, rfl, ez_2⟩, hw⟩ := hv
  replace X : zX D B0 (zj C (layM cA am S U)) s.heap H locs := ⟨hw, hS_1⟩
  refine z_feq E 17 ⟨by omega, by omega⟩ dX6_time_10 (by decide) (fun h10_3 => ?_) (fun h10_3 => ?_)
  · refine lv_aload_n E.1 E.2.1 dX6_time_17 rfl (lv_at hl 0 rfl) ?_
    refine lv_iload_n E.1 E.2.1 dX6_time_18 rfl (lv_at hl 2 rfl) ?_
    refine lv_iload_n E.1 E.2.1 dX6_time_19 rfl (lv_at hl 3 rfl) ?_
    refine z_callV (As := [.int (i32 x2), .int (i32 x3)]) (rest := []) (n := 2) E X (lM_0 C cA am S U) rfl (m_isPlace l D cA B0 C am S U hI.1 x2 x3 ⟨by omega, by omega⟩ ⟨by omega, by omega⟩) gX6_time_X6_isPlace rfl (by decide +kernel) ⟨by decide, by decide⟩ rfl hl.1 rfl (Nat.le_of_ble_eq_true rfl) dX6_time_20 ⟨by decide, by decide⟩ X.1 0 0 ⟨rfl, rfl⟩ (fun v H locs hv hS_4 => ?_)
    obtain ⟨⟨z_5, rfl, ez_5⟩, hw⟩ := hv
    replace X : zX D B0 (zj C (layM cA am S U)) s.heap H locs := ⟨hw, hS_4⟩
    refine z_fne E 31 ⟨by omega, by omega⟩ dX6_time_23 (by decide) (fun h23_6 => ?_) (fun h23_6 => ?_)
    · obtain ⟨ea, rfl⟩ : ∃ ea : Nat, x1 = (ea : Int) := ⟨x1.toNat, by omega⟩
      obtain ⟨x, rfl⟩ : ∃ x : Nat, x2 = (x : Int) := ⟨x2.toNat, by omega⟩
      obtain ⟨y, rfl⟩ : ∃ y : Nat, x3 = (y : Int) := ⟨x3.toNat, by omega⟩
      refine lv_aload_n E.1 E.2.1 dX6_time_31 rfl (lv_at hl 0 rfl) ?_
      refine lv_iload_n E.1 E.2.1 dX6_time_32 rfl (lv_at hl 1 rfl) ?_
      refine lv_iload_n E.1 E.2.1 dX6_time_33 rfl (lv_at hl 2 rfl) ?_
      refine lv_iload_n E.1 E.2.1 dX6_time_34 rfl (lv_at hl 3 rfl) ?_
      refine z_callV (As := [.int (i32 (ea : Int)), .int (i32 (x : Int)), .int (i32 (y : Int))]) (rest := []) (n := 3) E X (lM_0 C cA am S U) rfl (m_timeOf l D cA B0 C am S U hI hC ea x y (by omega) (by omega) (by omega)) gX6_time_X6_timeOf rfl (by decide +kernel) ⟨by decide, by decide⟩ rfl hl.1 rfl (Nat.le_of_ble_eq_true rfl) dX6_time_35 ⟨by decide, by decide⟩ X.1 0 0 ⟨rfl, rfl⟩ (fun v H locs hv hS_7 => ?_)
      obtain ⟨rfl, U_8, hC, hw⟩ := hv
      replace X : zX D B0 (zj C (layM cA am S U_8)) s.heap H locs := ⟨hw, hS_7⟩
      have f_9 := TM_rng (x := x) hI.1 hI.2.1 (e := ea) (y := y) (by omega) (by omega) (by omega)
      have ef : fTime S (ea : Int) (x : Int) (y : Int) = (TM S ea x y, S) := by
        unfold fTime
        try simp only [Int.toNat_natCast]
        repeat' split
        all_goals first | rfl | (exfalso; omega)
      exact z_ret E X hQ (⟨(congrArg (fun w => some (Value.int (i32 w.1))) ef).symm, U_8, by rw [ef]; exact hC, by rw [ef]; exact X.1⟩) dX6_time_38
    · refine z_bipush E dX6_time_26 (by decide +kernel) ?_
      refine lv_goto (tgt := 38) E.1 E.2.1 dX6_time_28 (by decide) ?_
      have ef : fTime S x1 x2 x3 = (-2, S) := by
        unfold fTime
        try simp only [Int.toNat_natCast]
        repeat' split
        all_goals first | rfl | (exfalso; omega)
      exact z_ret E X hQ (⟨(congrArg (fun w => some (Value.int (i32 w.1))) ef).symm, U, by rw [ef]; exact hC, by rw [ef]; exact X.1⟩) dX6_time_38
  · refine z_iconst E dX6_time_13 ?_
    refine lv_goto (tgt := 38) E.1 E.2.1 dX6_time_14 (by decide) ?_
    have ef : fTime S x1 x2 x3 = (-1, S) := by
      unfold fTime
      try simp only [Int.toNat_natCast]
      repeat' split
      all_goals first | rfl | (exfalso; omega)
    exact z_ret E X hQ (⟨(congrArg (fun w => some (Value.int (i32 w.1))) ef).symm, U, by rw [ef]; exact hC, by rw [ef]; exact X.1⟩) dX6_time_38

abbrev rX6_bend : Room := { frames := 2, cells := 0, slots := 0, locals := 51 }
set_option maxHeartbeats 4000000 in
set_option maxRecDepth 100000 in
theorem M_bend (l : Launch) (D : va_G) (cA : Nat → ClassId) (B0 : Nat) (C : zL) (am : Nat → Nat) (S U : zS) (hI : SI S) (hC : MC S U) (x1 x2 x3 : Int) (hx1 : zr x1) (hx2 : zr x2) (hx3 : zr x3) : zM l yX6_bend wsX6_bend rX6_bend [.ref (am 0), .int (i32 x1), .int (i32 x2), .int (i32 x3)] D cA B0 (zW D B0 (zj C (layM cA am S U))) (fun v H => v = some (.int (i32 (fBend S x1 x2 x3).1)) ∧ ∃ U : zS, MC (fBend S x1 x2 x3).2 U ∧ zW D B0 (zj C (layM cA am (fBend S x1 x2 x3).2 U)) H) := by
  refine z_met (cc := cX6_bend) (maxL := 4) (ret := (some .int)) (by decide) rfl (Nat.le_of_ble_eq_true rfl) ?_
  intro p e s m args below meth c ls Q hQ E hP hB hS hl
  have hl : lv_has ls 4 [(0, .ref (am 0)), (1, .int (i32 x1)), (2, .int (i32 x2)), (3, .int (i32 x3))] := hl
  have iX6 : ∀ w ∈ u_ws RX6 TX6 28, w ∈ wsX6_bend := by decide +kernel
  have X : zX D B0 (zj C (layM cA am S U)) s.heap s.heap [] := ⟨hP, hS⟩
  have hI0 := hI.1
  unfold SI0 at hI0
  obtain ⟨b1, b2, b3, b4, b5, b8, b17, b19, b7⟩ := hI0
  unfold zr at hx1 hx2 hx3
  refine lv_aload_n E.1 E.2.1 dX6_bend_0 rfl (lv_at hl 0 rfl) ?_
  refine z_iconst E dX6_bend_1 ?_
  refine z_put E X (lM_0 C cA am S U) rfl iX6 tyX6 tyX6_ok nmX6 0 (by decide) (by decide +kernel) rfl rfl rfl (Nat.le_of_ble_eq_true rfl) dX6_bend_2 (fun H locs X => ?_)
  have X := mp_0 X
  have hC : MC S (zs U 0 0 0) := MC_own hC
  generalize zs U 0 0 0 = U at X hC
  refine lv_aload_n E.1 E.2.1 dX6_bend_5 rfl (lv_at hl 0 rfl) ?_
  refine lv_iload_n E.1 E.2.1 dX6_bend_6 rfl (lv_at hl 1 rfl) ?_
  refine z_callV (As := [.int (i32 x1)]) (rest := []) (n := 1) E X (lM_0 C cA am S U) rfl (m_noElement l D cA B0 C am S U hI.1 x1 ⟨by omega, by omega⟩) gX6_bend_X6_noElement rfl (by decide +kernel) ⟨by decide, by decide⟩ rfl hl.1 rfl (Nat.le_of_ble_eq_true rfl) dX6_bend_7 ⟨by decide, by decide⟩ X.1 0 0 ⟨rfl, rfl⟩ (fun v H locs hv hS_1 => ?_)
  obtain ⟨⟨z_2, rfl, ez_2⟩, hw⟩ := hv
  replace X : zX D B0 (zj C (layM cA am S U)) s.heap H locs := ⟨hw, hS_1⟩
  refine z_feq E 15 ⟨by omega, by omega⟩ dX6_bend_10 (by decide) (fun h10_3 => ?_) (fun h10_3 => ?_)
  · refine lv_aload_n E.1 E.2.1 dX6_bend_15 rfl (lv_at hl 0 rfl) ?_
    refine lv_iload_n E.1 E.2.1 dX6_bend_16 rfl (lv_at hl 2 rfl) ?_
    refine lv_iload_n E.1 E.2.1 dX6_bend_17 rfl (lv_at hl 3 rfl) ?_
    refine z_callV (As := [.int (i32 x2), .int (i32 x3)]) (rest := []) (n := 2) E X (lM_0 C cA am S U) rfl (m_isPlace l D cA B0 C am S U hI.1 x2 x3 ⟨by omega, by omega⟩ ⟨by omega, by omega⟩) gX6_bend_X6_isPlace rfl (by decide +kernel) ⟨by decide, by decide⟩ rfl hl.1 rfl (Nat.le_of_ble_eq_true rfl) dX6_bend_18 ⟨by decide, by decide⟩ X.1 0 0 ⟨rfl, rfl⟩ (fun v H locs hv hS_4 => ?_)
    obtain ⟨⟨z_5, rfl, ez_5⟩, hw⟩ := hv
    replace X : zX D B0 (zj C (layM cA am S U)) s.heap H locs := ⟨hw, hS_4⟩
    refine z_fne E 27 ⟨by omega, by omega⟩ dX6_bend_21 (by decide) (fun h21_6 => ?_) (fun h21_6 => ?_)
    · obtain ⟨ea, rfl⟩ : ∃ ea : Nat, x1 = (ea : Int) := ⟨x1.toNat, by omega⟩
      obtain ⟨x, rfl⟩ : ∃ x : Nat, x2 = (x : Int) := ⟨x2.toNat, by omega⟩
      obtain ⟨y, rfl⟩ : ∃ y : Nat, x3 = (y : Int) := ⟨x3.toNat, by omega⟩
      refine lv_aload_n E.1 E.2.1 dX6_bend_27 rfl (lv_at hl 0 rfl) ?_
      refine lv_iload_n E.1 E.2.1 dX6_bend_28 rfl (lv_at hl 1 rfl) ?_
      refine lv_iload_n E.1 E.2.1 dX6_bend_29 rfl (lv_at hl 3 rfl) ?_
      refine z_callV (As := [.int (i32 (ea : Int)), .int (i32 (y : Int))]) (rest := []) (n := 2) E X (lM_0 C cA am S U) rfl (m_make l D cA B0 C am S U hI hC ea y (by omega) (by omega)) gX6_bend_X6_make rfl (by decide +kernel) ⟨by decide, by decide⟩ rfl hl.1 rfl (Nat.le_of_ble_eq_true rfl) dX6_bend_30 ⟨by decide, by decide⟩ X.1 0 0 ⟨rfl, rfl⟩ (fun v H locs hv hS_7 => ?_)
      obtain ⟨rfl, U_8, hC, hmade, hw⟩ := hv
      replace X : zX D B0 (zj C (layM cA am S U_8)) s.heap H locs := ⟨hw, hS_7⟩
      have htab : ∀ x : Nat, x < 51 → U_8 14 (51 * (51 * ea + y) + x) = TM S ea x y ∧ U_8 15 (51 * (51 * ea + y) + x) = BD S ea x y := by
        rcases hC (51 * ea + y) (by omega) with q | ⟨-, -, q⟩
        · omega
        · rw [show (51 * ea + y) / 51 = ea by omega, show (51 * ea + y) % 51 = y by omega] at q
          exact q
      refine lv_aload_n E.1 E.2.1 dX6_bend_33 rfl (lv_at hl 0 rfl) ?_
      refine z_get E X (lM_0 C cA am S U_8) rfl iX6 15 (by decide) (by decide +kernel) (v := .ref (am 15)) rfl dX6_bend_34 ?_
      refine z_bipush E dX6_bend_37 (by decide +kernel) ?_
      refine z_bipush E dX6_bend_39 (by decide +kernel) ?_
      refine lv_iload_n E.1 E.2.1 dX6_bend_41 rfl (lv_at hl 1 rfl) ?_
      refine z_imul E dX6_bend_42 ?_
      refine lv_iload_n E.1 E.2.1 dX6_bend_43 rfl (lv_at hl 3 rfl) ?_
      refine z_iadd E dX6_bend_44 ?_
      refine z_imul E dX6_bend_45 ?_
      refine lv_iload_n E.1 E.2.1 dX6_bend_46 rfl (lv_at hl 2 rfl) ?_
      refine z_iadd E dX6_bend_47 ?_
      refine z_iald E X (lM_15 C cA am S U_8) ((51 * ((51 * ea) + y)) + x) (by omega) (by omega) (by decide) dX6_bend_48 ?_
      refine z_top (BD S ea x y) ((htab x (by omega)).2) ?_
      have ef : fBend S (ea : Int) (x : Int) (y : Int) = (BD S ea x y, S) := by
        unfold fBend
        try simp only [Int.toNat_natCast]
        repeat' split
        all_goals first | rfl | (exfalso; omega)
      exact z_ret E X hQ (⟨(congrArg (fun w => some (Value.int (i32 w.1))) ef).symm, U_8, by rw [ef]; exact hC, by rw [ef]; exact X.1⟩) dX6_bend_49
    · refine z_bipush E dX6_bend_24 (by decide +kernel) ?_
      have ef : fBend S x1 x2 x3 = (-2, S) := by
        unfold fBend
        try simp only [Int.toNat_natCast]
        repeat' split
        all_goals first | rfl | (exfalso; omega)
      exact z_ret E X hQ (⟨(congrArg (fun w => some (Value.int (i32 w.1))) ef).symm, U, by rw [ef]; exact hC, by rw [ef]; exact X.1⟩) dX6_bend_26
  · refine z_iconst E dX6_bend_13 ?_
    have ef : fBend S x1 x2 x3 = (-1, S) := by
      unfold fBend
      try simp only [Int.toNat_natCast]
      repeat' split
      all_goals first | rfl | (exfalso; omega)
    exact z_ret E X hQ (⟨(congrArg (fun w => some (Value.int (i32 w.1))) ef).symm, U, by rw [ef]; exact hC, by rw [ef]; exact X.1⟩) dX6_bend_14

abbrev rX6_echoTime : Room := { frames := 5, cells := 0, slots := 0, locals := 125 }
set_option maxHeartbeats 4000000 in
set_option maxRecDepth 100000 in
theorem M_echoTime (l : Launch) (D : va_G) (cA : Nat → ClassId) (B0 : Nat) (C : zL) (am : Nat → Nat) (S U : zS) (hI : SI S) (hC : MC S U) (x1 x2 x3 : Int) (hx1 : zr x1) (hx2 : zr x2) (hx3 : zr x3) : zM l yX6_echoTime wsX6_echoTime rX6_echoTime [.ref (am 0), .int (i32 x1), .int (i32 x2), .int (i32 x3)] D cA B0 (zW D B0 (zj C (layM cA am S U))) (fun v H => v = some (.int (i32 (fEchoTime S x1 x2 x3).1)) ∧ ∃ U : zS, MC (fEchoTime S x1 x2 x3).2 U ∧ zW D B0 (zj C (layM cA am (fEchoTime S x1 x2 x3).2 U)) H) := by
  refine z_met (cc := cX6_echoTime) (maxL := 4) (ret := (some .int)) (by decide) rfl (Nat.le_of_ble_eq_true rfl) ?_
  intro p e s m args below meth c ls Q hQ E hP hB hS hl
  have hl : lv_has ls 4 [(0, .ref (am 0)), (1, .int (i32 x1)), (2, .int (i32 x2)), (3, .int (i32 x3))] := hl
  have iX6 : ∀ w ∈ u_ws RX6 TX6 28, w ∈ wsX6_echoTime := by decide +kernel
  have X : zX D B0 (zj C (layM cA am S U)) s.heap s.heap [] := ⟨hP, hS⟩
  have hI0 := hI.1
  unfold SI0 at hI0
  obtain ⟨b1, b2, b3, b4, b5, b8, b17, b19, b7⟩ := hI0
  unfold zr at hx1 hx2 hx3
  refine lv_aload_n E.1 E.2.1 dX6_echoTime_0 rfl (lv_at hl 0 rfl) ?_
  refine z_iconst E dX6_echoTime_1 ?_
  refine z_put E X (lM_0 C cA am S U) rfl iX6 tyX6 tyX6_ok nmX6 0 (by decide) (by decide +kernel) rfl rfl rfl (Nat.le_of_ble_eq_true rfl) dX6_echoTime_2 (fun H locs X => ?_)
  have X := mp_0 X
  have hC : MC S (zs U 0 0 0) := MC_own hC
  generalize zs U 0 0 0 = U at X hC
  refine lv_aload_n E.1 E.2.1 dX6_echoTime_5 rfl (lv_at hl 0 rfl) ?_
  refine lv_iload_n E.1 E.2.1 dX6_echoTime_6 rfl (lv_at hl 1 rfl) ?_
  refine z_callV (As := [.int (i32 x1)]) (rest := []) (n := 1) E X (lM_0 C cA am S U) rfl (m_noElement l D cA B0 C am S U hI.1 x1 ⟨by omega, by omega⟩) gX6_echoTime_X6_noElement rfl (by decide +kernel) ⟨by decide, by decide⟩ rfl hl.1 rfl (Nat.le_of_ble_eq_true rfl) dX6_echoTime_7 ⟨by decide, by decide⟩ X.1 0 0 ⟨rfl, rfl⟩ (fun v H locs hv hS_1 => ?_)
  obtain ⟨⟨z_2, rfl, ez_2⟩, hw⟩ := hv
  replace X : zX D B0 (zj C (layM cA am S U)) s.heap H locs := ⟨hw, hS_1⟩
  refine z_fne E 37 ⟨by omega, by omega⟩ dX6_echoTime_10 (by decide) (fun h10_3 => ?_) (fun h10_3 => ?_)
  · refine z_iconst E dX6_echoTime_37 ?_
    refine lv_goto (tgt := 48) E.1 E.2.1 dX6_echoTime_38 (by decide) ?_
    have ef : fEchoTime S x1 x2 x3 = (-1, S) := by
      unfold fEchoTime
      try simp only [Int.toNat_natCast]
      repeat' split
      all_goals first | rfl | (exfalso; omega)
    exact z_ret E X hQ (⟨(congrArg (fun w => some (Value.int (i32 w.1))) ef).symm, U, by rw [ef]; exact hC, by rw [ef]; exact X.1⟩) dX6_echoTime_48
  · refine lv_aload_n E.1 E.2.1 dX6_echoTime_13 rfl (lv_at hl 0 rfl) ?_
    refine lv_iload_n E.1 E.2.1 dX6_echoTime_14 rfl (lv_at hl 2 rfl) ?_
    refine z_callV (As := [.int (i32 x2)]) (rest := []) (n := 1) E X (lM_0 C cA am S U) rfl (m_noElement l D cA B0 C am S U hI.1 x2 ⟨by omega, by omega⟩) gX6_echoTime_X6_noElement rfl (by decide +kernel) ⟨by decide, by decide⟩ rfl hl.1 rfl (Nat.le_of_ble_eq_true rfl) dX6_echoTime_15 ⟨by decide, by decide⟩ X.1 0 0 ⟨rfl, rfl⟩ (fun v H locs hv hS_4 => ?_)
    obtain ⟨⟨z_5, rfl, ez_5⟩, hw⟩ := hv
    replace X : zX D B0 (zj C (layM cA am S U)) s.heap H locs := ⟨hw, hS_4⟩
    refine z_fne E 37 ⟨by omega, by omega⟩ dX6_echoTime_18 (by decide) (fun h18_6 => ?_) (fun h18_6 => ?_)
    · refine z_iconst E dX6_echoTime_37 ?_
      refine lv_goto (tgt := 48) E.1 E.2.1 dX6_echoTime_38 (by decide) ?_
      have ef : fEchoTime S x1 x2 x3 = (-1, S) := by
        unfold fEchoTime
        try simp only [Int.toNat_natCast]
        repeat' split
        all_goals first | rfl | (exfalso; omega)
      exact z_ret E X hQ (⟨(congrArg (fun w => some (Value.int (i32 w.1))) ef).symm, U, by rw [ef]; exact hC, by rw [ef]; exact X.1⟩) dX6_echoTime_48
    · refine lv_iload_n E.1 E.2.1 dX6_echoTime_21 rfl (lv_at hl 3 rfl) ?_
      refine z_i2l E ⟨by omega, by omega⟩ dX6_echoTime_22 ?_
      refine z_lconst (z := 0) E dX6_echoTime_23 (by decide +kernel) ?_
      refine lv_aload_n E.1 E.2.1 dX6_echoTime_24 rfl (lv_at hl 0 rfl) ?_
      refine z_get E X (lM_0 C cA am S U) rfl iX6 8 (by decide) (by decide +kernel) (v := .int (i32 (S 8 0))) rfl dX6_echoTime_25 ?_
      refine z_iconst E dX6_echoTime_28 ?_
      refine z_isub E dX6_echoTime_29 ?_
      refine z_i2l E ⟨by omega, by omega⟩ dX6_echoTime_30 ?_
      refine z_callJ (As := [.long (i64 x3), .long (i64 0), .long (i64 ((S 8 0) - 1))]) (rest := []) (n := 3) E X (c_in l D cA B0 _ x3 0 ((S 8 0) - 1) ⟨by omega, by omega⟩ ⟨by omega, by omega⟩ ⟨by omega, by omega⟩) gX6_echoTime_X6_in rfl (by decide +kernel) ⟨by decide, by decide⟩ rfl hl.1 rfl (Nat.le_of_ble_eq_true rfl) dX6_echoTime_31 ⟨by decide, by decide⟩ rfl 0 0 ⟨rfl, rfl⟩ (fun v H locs hv hS_7 => ?_)
      obtain ⟨hH, z_8, rfl, ez_8⟩ := hv
      subst hH
      replace X := X.same hS_7
      refine z_fne E 41 ⟨by omega, by omega⟩ dX6_echoTime_34 (by decide) (fun h34_9 => ?_) (fun h34_9 => ?_)
      · obtain ⟨ea, rfl⟩ : ∃ ea : Nat, x1 = (ea : Int) := ⟨x1.toNat, by omega⟩
        obtain ⟨eb, rfl⟩ : ∃ eb : Nat, x2 = (eb : Int) := ⟨x2.toNat, by omega⟩
        obtain ⟨t, rfl⟩ : ∃ t : Nat, x3 = (t : Int) := ⟨x3.toNat, by omega⟩
        refine lv_aload_n E.1 E.2.1 dX6_echoTime_41 rfl (lv_at hl 0 rfl) ?_
        refine lv_iload_n E.1 E.2.1 dX6_echoTime_42 rfl (lv_at hl 1 rfl) ?_
        refine lv_iload_n E.1 E.2.1 dX6_echoTime_43 rfl (lv_at hl 2 rfl) ?_
        refine lv_iload_n E.1 E.2.1 dX6_echoTime_44 rfl (lv_at hl 3 rfl) ?_
        refine z_callV (As := [.int (i32 (ea : Int)), .int (i32 (eb : Int)), .int (i32 (t : Int))]) (rest := []) (n := 3) E X (lM_0 C cA am S U) rfl (m_echoOf l D cA B0 C am S U hI hC ea eb t (by omega) (by omega) (by omega)) gX6_echoTime_X6_echoOf rfl (by decide +kernel) ⟨by decide, by decide⟩ rfl hl.1 rfl (Nat.le_of_ble_eq_true rfl) dX6_echoTime_45 ⟨by decide, by decide⟩ X.1 0 0 ⟨rfl, rfl⟩ (fun v H locs hv hS_10 => ?_)
        obtain ⟨rfl, U_11, hC, hw⟩ := hv
        replace X : zX D B0 (zj C (layM cA am S U_11)) s.heap H locs := ⟨hw, hS_10⟩
        have f_12 := ET_rng (a := ea) (b := eb) (t := t) hI (by omega) (by omega) (by omega)
        have ef : fEchoTime S (ea : Int) (eb : Int) (t : Int) = (ET S ea eb t, S) := by
          unfold fEchoTime
          try simp only [Int.toNat_natCast]
          repeat' split
          all_goals first | rfl | (exfalso; omega)
        exact z_ret E X hQ (⟨(congrArg (fun w => some (Value.int (i32 w.1))) ef).symm, U_11, by rw [ef]; exact hC, by rw [ef]; exact X.1⟩) dX6_echoTime_48
      · refine z_iconst E dX6_echoTime_37 ?_
        refine lv_goto (tgt := 48) E.1 E.2.1 dX6_echoTime_38 (by decide) ?_
        have ef : fEchoTime S x1 x2 x3 = (-1, S) := by
          unfold fEchoTime
          try simp only [Int.toNat_natCast]
          repeat' split
          all_goals first | rfl | (exfalso; omega)
        exact z_ret E X hQ (⟨(congrArg (fun w => some (Value.int (i32 w.1))) ef).symm, U, by rw [ef]; exact hC, by rw [ef]; exact X.1⟩) dX6_echoTime_48

abbrev rX6_echo : Room := { frames := 6, cells := 0, slots := 0, locals := 151 }
set_option maxHeartbeats 4000000 in
set_option maxRecDepth 100000 in
theorem M_echo (l : Launch) (D : va_G) (cA : Nat → ClassId) (B0 : Nat) (C : zL) (am : Nat → Nat) (S U : zS) (hI : SI S) (hC : MC S U) (x1 x2 x3 : Int) (hx1 : zr x1) (hx2 : zr x2) (hx3 : zr x3) : zM l yX6_echo wsX6_echo rX6_echo [.ref (am 0), .int (i32 x1), .int (i32 x2), .int (i32 x3)] D cA B0 (zW D B0 (zj C (layM cA am S U))) (fun v H => v = some (.int (i32 (fEcho S x1 x2 x3).1)) ∧ ∃ U : zS, MC (fEcho S x1 x2 x3).2 U ∧ zW D B0 (zj C (layM cA am (fEcho S x1 x2 x3).2 U)) H) := by
  refine z_met (cc := cX6_echo) (maxL := 4) (ret := (some .int)) (by decide) rfl (Nat.le_of_ble_eq_true rfl) ?_
  intro p e s m args below meth c ls Q hQ E hP hB hS hl
  have hl : lv_has ls 4 [(0, .ref (am 0)), (1, .int (i32 x1)), (2, .int (i32 x2)), (3, .int (i32 x3))] := hl
  have iX6 : ∀ w ∈ u_ws RX6 TX6 28, w ∈ wsX6_echo := by decide +kernel
  have X : zX D B0 (zj C (layM cA am S U)) s.heap s.heap [] := ⟨hP, hS⟩
  have hI0 := hI.1
  unfold SI0 at hI0
  obtain ⟨b1, b2, b3, b4, b5, b8, b17, b19, b7⟩ := hI0
  unfold zr at hx1 hx2 hx3
  refine lv_aload_n E.1 E.2.1 dX6_echo_0 rfl (lv_at hl 0 rfl) ?_
  refine z_iconst E dX6_echo_1 ?_
  refine z_put E X (lM_0 C cA am S U) rfl iX6 tyX6 tyX6_ok nmX6 0 (by decide) (by decide +kernel) rfl rfl rfl (Nat.le_of_ble_eq_true rfl) dX6_echo_2 (fun H locs X => ?_)
  have X := mp_0 X
  have hC : MC S (zs U 0 0 0) := MC_own hC
  generalize zs U 0 0 0 = U at X hC
  refine lv_aload_n E.1 E.2.1 dX6_echo_5 rfl (lv_at hl 0 rfl) ?_
  refine lv_iload_n E.1 E.2.1 dX6_echo_6 rfl (lv_at hl 1 rfl) ?_
  refine z_callV (As := [.int (i32 x1)]) (rest := []) (n := 1) E X (lM_0 C cA am S U) rfl (m_noElement l D cA B0 C am S U hI.1 x1 ⟨by omega, by omega⟩) gX6_echo_X6_noElement rfl (by decide +kernel) ⟨by decide, by decide⟩ rfl hl.1 rfl (Nat.le_of_ble_eq_true rfl) dX6_echo_7 ⟨by decide, by decide⟩ X.1 0 0 ⟨rfl, rfl⟩ (fun v H locs hv hS_1 => ?_)
  obtain ⟨⟨z_2, rfl, ez_2⟩, hw⟩ := hv
  replace X : zX D B0 (zj C (layM cA am S U)) s.heap H locs := ⟨hw, hS_1⟩
  refine z_fne E 21 ⟨by omega, by omega⟩ dX6_echo_10 (by decide) (fun h10_3 => ?_) (fun h10_3 => ?_)
  · refine z_iconst E dX6_echo_21 ?_
    refine lv_goto (tgt := 33) E.1 E.2.1 dX6_echo_22 (by decide) ?_
    have ef : fEcho S x1 x2 x3 = (-1, S) := by
      unfold fEcho
      try simp only [Int.toNat_natCast]
      repeat' split
      all_goals first | rfl | (exfalso; omega)
    exact z_ret E X hQ (⟨(congrArg (fun w => some (Value.int (i32 w.1))) ef).symm, U, by rw [ef]; exact hC, by rw [ef]; exact X.1⟩) dX6_echo_33
  · refine lv_aload_n E.1 E.2.1 dX6_echo_13 rfl (lv_at hl 0 rfl) ?_
    refine lv_iload_n E.1 E.2.1 dX6_echo_14 rfl (lv_at hl 2 rfl) ?_
    refine z_callV (As := [.int (i32 x2)]) (rest := []) (n := 1) E X (lM_0 C cA am S U) rfl (m_noElement l D cA B0 C am S U hI.1 x2 ⟨by omega, by omega⟩) gX6_echo_X6_noElement rfl (by decide +kernel) ⟨by decide, by decide⟩ rfl hl.1 rfl (Nat.le_of_ble_eq_true rfl) dX6_echo_15 ⟨by decide, by decide⟩ X.1 0 0 ⟨rfl, rfl⟩ (fun v H locs hv hS_4 => ?_)
    obtain ⟨⟨z_5, rfl, ez_5⟩, hw⟩ := hv
    replace X : zX D B0 (zj C (layM cA am S U)) s.heap H locs := ⟨hw, hS_4⟩
    refine z_feq E 25 ⟨by omega, by omega⟩ dX6_echo_18 (by decide) (fun h18_6 => ?_) (fun h18_6 => ?_)
    · obtain ⟨ea, rfl⟩ : ∃ ea : Nat, x1 = (ea : Int) := ⟨x1.toNat, by omega⟩
      obtain ⟨eb, rfl⟩ : ∃ eb : Nat, x2 = (eb : Int) := ⟨x2.toNat, by omega⟩
      refine lv_aload_n E.1 E.2.1 dX6_echo_25 rfl (lv_at hl 0 rfl) ?_
      refine lv_iload_n E.1 E.2.1 dX6_echo_26 rfl (lv_at hl 1 rfl) ?_
      refine lv_iload_n E.1 E.2.1 dX6_echo_27 rfl (lv_at hl 2 rfl) ?_
      refine lv_iload_n E.1 E.2.1 dX6_echo_28 rfl (lv_at hl 3 rfl) ?_
      refine z_i2l E ⟨by omega, by omega⟩ dX6_echo_29 ?_
      refine z_callV (As := [.int (i32 (ea : Int)), .int (i32 (eb : Int)), .long (i64 x3)]) (rest := []) (n := 3) E X (lM_0 C cA am S U) rfl (m_echoAt l D cA B0 C am S U hI hC ea eb x3 (by omega) (by omega) (by unfold zrl; omega)) gX6_echo_X6_echoAt rfl (by decide +kernel) ⟨by decide, by decide⟩ rfl hl.1 rfl (Nat.le_of_ble_eq_true rfl) dX6_echo_30 ⟨by decide, by decide⟩ X.1 0 0 ⟨rfl, rfl⟩ (fun v H locs hv hS_7 => ?_)
      obtain ⟨rfl, U_8, hC, hw⟩ := hv
      replace X : zX D B0 (zj C (layM cA am S U_8)) s.heap H locs := ⟨hw, hS_7⟩
      have f_9 := EC_rng (a := ea) (b := eb) (tick := x3) hI
      have ef : fEcho S (ea : Int) (eb : Int) x3 = (EC S ea eb x3, S) := by
        unfold fEcho
        try simp only [Int.toNat_natCast]
        repeat' split
        all_goals first | rfl | (exfalso; omega)
      exact z_ret E X hQ (⟨(congrArg (fun w => some (Value.int (i32 w.1))) ef).symm, U_8, by rw [ef]; exact hC, by rw [ef]; exact X.1⟩) dX6_echo_33
    · refine z_iconst E dX6_echo_21 ?_
      refine lv_goto (tgt := 33) E.1 E.2.1 dX6_echo_22 (by decide) ?_
      have ef : fEcho S x1 x2 x3 = (-1, S) := by
        unfold fEcho
        try simp only [Int.toNat_natCast]
        repeat' split
        all_goals first | rfl | (exfalso; omega)
      exact z_ret E X hQ (⟨(congrArg (fun w => some (Value.int (i32 w.1))) ef).symm, U, by rw [ef]; exact hC, by rw [ef]; exact X.1⟩) dX6_echo_33

abbrev rX6_delay : Room := { frames := 2, cells := 0, slots := 0, locals := 46 }
set_option maxHeartbeats 4000000 in
set_option maxRecDepth 100000 in
theorem M_delay (l : Launch) (D : va_G) (cA : Nat → ClassId) (B0 : Nat) (C : zL) (am : Nat → Nat) (S U : zS) (hI : SI S) (hC : MC S U) (x1 : Int) (hx1 : zr x1) : zM l yX6_delay wsX6_delay rX6_delay [.ref (am 0), .int (i32 x1)] D cA B0 (zW D B0 (zj C (layM cA am S U))) (fun v H => v = some (.int (i32 (fDelay S x1).1)) ∧ ∃ U : zS, MC (fDelay S x1).2 U ∧ zW D B0 (zj C (layM cA am (fDelay S x1).2 U)) H) := by
  refine z_met (cc := cX6_delay) (maxL := 2) (ret := (some .int)) (by decide) rfl (Nat.le_of_ble_eq_true rfl) ?_
  intro p e s m args below meth c ls Q hQ E hP hB hS hl
  have hl : lv_has ls 2 [(0, .ref (am 0)), (1, .int (i32 x1))] := hl
  have iX6 : ∀ w ∈ u_ws RX6 TX6 28, w ∈ wsX6_delay := by decide +kernel
  have X : zX D B0 (zj C (layM cA am S U)) s.heap s.heap [] := ⟨hP, hS⟩
  have hI0 := hI.1
  unfold SI0 at hI0
  obtain ⟨b1, b2, b3, b4, b5, b8, b17, b19, b7⟩ := hI0
  unfold zr at hx1
  refine lv_aload_n E.1 E.2.1 dX6_delay_0 rfl (lv_at hl 0 rfl) ?_
  refine z_iconst E dX6_delay_1 ?_
  refine z_put E X (lM_0 C cA am S U) rfl iX6 tyX6 tyX6_ok nmX6 0 (by decide) (by decide +kernel) rfl rfl rfl (Nat.le_of_ble_eq_true rfl) dX6_delay_2 (fun H locs X => ?_)
  have X := mp_0 X
  have hC : MC S (zs U 0 0 0) := MC_own hC
  generalize zs U 0 0 0 = U at X hC
  refine lv_aload_n E.1 E.2.1 dX6_delay_5 rfl (lv_at hl 0 rfl) ?_
  refine lv_iload_n E.1 E.2.1 dX6_delay_6 rfl (lv_at hl 1 rfl) ?_
  refine z_callV (As := [.int (i32 x1)]) (rest := []) (n := 1) E X (lM_0 C cA am S U) rfl (m_noElement l D cA B0 C am S U hI.1 x1 ⟨by omega, by omega⟩) gX6_delay_X6_noElement rfl (by decide +kernel) ⟨by decide, by decide⟩ rfl hl.1 rfl (Nat.le_of_ble_eq_true rfl) dX6_delay_7 ⟨by decide, by decide⟩ X.1 0 0 ⟨rfl, rfl⟩ (fun v H locs hv hS_1 => ?_)
  obtain ⟨⟨z_2, rfl, ez_2⟩, hw⟩ := hv
  replace X : zX D B0 (zj C (layM cA am S U)) s.heap H locs := ⟨hw, hS_1⟩
  refine z_feq E 17 ⟨by omega, by omega⟩ dX6_delay_10 (by decide) (fun h10_3 => ?_) (fun h10_3 => ?_)
  · refine lv_aload_n E.1 E.2.1 dX6_delay_17 rfl (lv_at hl 0 rfl) ?_
    refine z_get E X (lM_0 C cA am S U) rfl iX6 17 (by decide) (by decide +kernel) (v := .int (i32 (S 17 0))) rfl dX6_delay_18 ?_
    refine z_fne E 29 ⟨by omega, by omega⟩ dX6_delay_21 (by decide) (fun h21_4 => ?_) (fun h21_4 => ?_)
    · obtain ⟨ea, rfl⟩ : ∃ ea : Nat, x1 = (ea : Int) := ⟨x1.toNat, by omega⟩
      have l1 := b7 ea
      refine lv_aload_n E.1 E.2.1 dX6_delay_29 rfl (lv_at hl 0 rfl) ?_
      refine z_get E X (lM_0 C cA am S U) rfl iX6 7 (by decide) (by decide +kernel) (v := .ref (am 7)) rfl dX6_delay_30 ?_
      refine lv_iload_n E.1 E.2.1 dX6_delay_33 rfl (lv_at hl 1 rfl) ?_
      refine z_zald E X (lM_7 C cA am S U) ea (by omega) (by omega) (by decide) dX6_delay_34 ?_
      refine z_feq E 43 ⟨by omega, by omega⟩ dX6_delay_35 (by decide) (fun h35_5 => ?_) (fun h35_5 => ?_)
      · refine lv_aload_n E.1 E.2.1 dX6_delay_43 rfl (lv_at hl 0 rfl) ?_
        refine z_get E X (lM_0 C cA am S U) rfl iX6 18 (by decide) (by decide +kernel) (v := .ref (am 18)) rfl dX6_delay_44 ?_
        refine lv_iload_n E.1 E.2.1 dX6_delay_47 rfl (lv_at hl 1 rfl) ?_
        refine z_iald E X (lM_18 C cA am S U) ea (by omega) (by omega) (by decide) dX6_delay_48 ?_
        have ef : fDelay S (ea : Int) = (S 18 ea, S) := by
          unfold fDelay
          try simp only [Int.toNat_natCast]
          repeat' split
          all_goals first | rfl | (exfalso; omega)
        exact z_ret E X hQ (⟨(congrArg (fun w => some (Value.int (i32 w.1))) ef).symm, U, by rw [ef]; exact hC, by rw [ef]; exact X.1⟩) dX6_delay_49
      · refine z_ldc (v := (-99999)) (z := -99999) E (by decide +kernel) (by decide +kernel) dX6_delay_38 ?_
        refine lv_goto (tgt := 49) E.1 E.2.1 dX6_delay_40 (by decide) ?_
        have ef : fDelay S (ea : Int) = (-99999, S) := by
          unfold fDelay
          try simp only [Int.toNat_natCast]
          repeat' split
          all_goals first | rfl | (exfalso; omega)
        exact z_ret E X hQ (⟨(congrArg (fun w => some (Value.int (i32 w.1))) ef).symm, U, by rw [ef]; exact hC, by rw [ef]; exact X.1⟩) dX6_delay_49
    · refine z_bipush E dX6_delay_24 (by decide +kernel) ?_
      refine lv_goto (tgt := 49) E.1 E.2.1 dX6_delay_26 (by decide) ?_
      have ef : fDelay S x1 = (-3, S) := by
        unfold fDelay
        try simp only [Int.toNat_natCast]
        repeat' split
        all_goals first | rfl | (exfalso; omega)
      exact z_ret E X hQ (⟨(congrArg (fun w => some (Value.int (i32 w.1))) ef).symm, U, by rw [ef]; exact hC, by rw [ef]; exact X.1⟩) dX6_delay_49
  · refine z_iconst E dX6_delay_13 ?_
    refine lv_goto (tgt := 49) E.1 E.2.1 dX6_delay_14 (by decide) ?_
    have ef : fDelay S x1 = (-1, S) := by
      unfold fDelay
      try simp only [Int.toNat_natCast]
      repeat' split
      all_goals first | rfl | (exfalso; omega)
    exact z_ret E X hQ (⟨(congrArg (fun w => some (Value.int (i32 w.1))) ef).symm, U, by rw [ef]; exact hC, by rw [ef]; exact X.1⟩) dX6_delay_49

abbrev rX6_heard : Room := { frames := 7, cells := 0, slots := 0, locals := 176 }
set_option maxHeartbeats 4000000 in
set_option maxRecDepth 100000 in
theorem M_heard (l : Launch) (D : va_G) (cA : Nat → ClassId) (B0 : Nat) (C : zL) (am : Nat → Nat) (S U : zS) (hI : SI S) (hC : MC S U) (x1 x2 : Int) (hx1 : zr x1) (hx2 : zr x2) : zM l yX6_heard wsX6_heard rX6_heard [.ref (am 0), .int (i32 x1), .int (i32 x2)] D cA B0 (zW D B0 (zj C (layM cA am S U))) (fun v H => v = some (.int (i32 (fHeard S x1 x2).1)) ∧ ∃ U : zS, MC (fHeard S x1 x2).2 U ∧ zW D B0 (zj C (layM cA am (fHeard S x1 x2).2 U)) H) := by
  refine z_met (cc := cX6_heard) (maxL := 3) (ret := (some .int)) (by decide) rfl (Nat.le_of_ble_eq_true rfl) ?_
  intro p e s m args below meth c ls Q hQ E hP hB hS hl
  have hl : lv_has ls 3 [(0, .ref (am 0)), (1, .int (i32 x1)), (2, .int (i32 x2))] := hl
  have iX6 : ∀ w ∈ u_ws RX6 TX6 28, w ∈ wsX6_heard := by decide +kernel
  have X : zX D B0 (zj C (layM cA am S U)) s.heap s.heap [] := ⟨hP, hS⟩
  have hI0 := hI.1
  unfold SI0 at hI0
  obtain ⟨b1, b2, b3, b4, b5, b8, b17, b19, b7⟩ := hI0
  unfold zr at hx1 hx2
  refine lv_aload_n E.1 E.2.1 dX6_heard_0 rfl (lv_at hl 0 rfl) ?_
  refine z_iconst E dX6_heard_1 ?_
  refine z_put E X (lM_0 C cA am S U) rfl iX6 tyX6 tyX6_ok nmX6 0 (by decide) (by decide +kernel) rfl rfl rfl (Nat.le_of_ble_eq_true rfl) dX6_heard_2 (fun H locs X => ?_)
  have X := mp_0 X
  have hC : MC S (zs U 0 0 0) := MC_own hC
  generalize zs U 0 0 0 = U at X hC
  refine lv_aload_n E.1 E.2.1 dX6_heard_5 rfl (lv_at hl 0 rfl) ?_
  refine lv_iload_n E.1 E.2.1 dX6_heard_6 rfl (lv_at hl 1 rfl) ?_
  refine z_callV (As := [.int (i32 x1)]) (rest := []) (n := 1) E X (lM_0 C cA am S U) rfl (m_noElement l D cA B0 C am S U hI.1 x1 ⟨by omega, by omega⟩) gX6_heard_X6_noElement rfl (by decide +kernel) ⟨by decide, by decide⟩ rfl hl.1 rfl (Nat.le_of_ble_eq_true rfl) dX6_heard_7 ⟨by decide, by decide⟩ X.1 0 0 ⟨rfl, rfl⟩ (fun v H locs hv hS_1 => ?_)
  obtain ⟨⟨z_2, rfl, ez_2⟩, hw⟩ := hv
  replace X : zX D B0 (zj C (layM cA am S U)) s.heap H locs := ⟨hw, hS_1⟩
  refine z_feq E 17 ⟨by omega, by omega⟩ dX6_heard_10 (by decide) (fun h10_3 => ?_) (fun h10_3 => ?_)
  · refine lv_aload_n E.1 E.2.1 dX6_heard_17 rfl (lv_at hl 0 rfl) ?_
    refine z_get E X (lM_0 C cA am S U) rfl iX6 17 (by decide) (by decide +kernel) (v := .int (i32 (S 17 0))) rfl dX6_heard_18 ?_
    refine z_fne E 29 ⟨by omega, by omega⟩ dX6_heard_21 (by decide) (fun h21_4 => ?_) (fun h21_4 => ?_)
    · obtain ⟨ea, rfl⟩ : ∃ ea : Nat, x1 = (ea : Int) := ⟨x1.toNat, by omega⟩
      refine lv_aload_n E.1 E.2.1 dX6_heard_29 rfl (lv_at hl 0 rfl) ?_
      refine lv_iload_n E.1 E.2.1 dX6_heard_30 rfl (lv_at hl 1 rfl) ?_
      refine lv_iload_n E.1 E.2.1 dX6_heard_31 rfl (lv_at hl 2 rfl) ?_
      refine z_i2l E ⟨by omega, by omega⟩ dX6_heard_32 ?_
      refine z_callV (As := [.int (i32 (ea : Int)), .long (i64 x2)]) (rest := []) (n := 2) E X (lM_0 C cA am S U) rfl (m_heardAt l D cA B0 C am S U hI hC ea x2 (by omega) (by omega)) gX6_heard_X6_heardAt rfl (by decide +kernel) ⟨by decide, by decide⟩ rfl hl.1 rfl (Nat.le_of_ble_eq_true rfl) dX6_heard_33 ⟨by decide, by decide⟩ X.1 0 0 ⟨rfl, rfl⟩ (fun v H locs hv hS_5 => ?_)
      obtain ⟨rfl, U_6, hC, hw⟩ := hv
      replace X : zX D B0 (zj C (layM cA am S U_6)) s.heap H locs := ⟨hw, hS_5⟩
      have ef : fHeard S (ea : Int) x2 = (HD S ea x2, S) := by
        unfold fHeard
        try simp only [Int.toNat_natCast]
        repeat' split
        all_goals first | rfl | (exfalso; omega)
      exact z_ret E X hQ (⟨(congrArg (fun w => some (Value.int (i32 w.1))) ef).symm, U_6, by rw [ef]; exact hC, by rw [ef]; exact X.1⟩) dX6_heard_36
    · refine z_bipush E dX6_heard_24 (by decide +kernel) ?_
      refine lv_goto (tgt := 36) E.1 E.2.1 dX6_heard_26 (by decide) ?_
      have ef : fHeard S x1 x2 = (-3, S) := by
        unfold fHeard
        try simp only [Int.toNat_natCast]
        repeat' split
        all_goals first | rfl | (exfalso; omega)
      exact z_ret E X hQ (⟨(congrArg (fun w => some (Value.int (i32 w.1))) ef).symm, U, by rw [ef]; exact hC, by rw [ef]; exact X.1⟩) dX6_heard_36
  · refine z_iconst E dX6_heard_13 ?_
    refine lv_goto (tgt := 36) E.1 E.2.1 dX6_heard_14 (by decide) ?_
    have ef : fHeard S x1 x2 = (-1, S) := by
      unfold fHeard
      try simp only [Int.toNat_natCast]
      repeat' split
      all_goals first | rfl | (exfalso; omega)
    exact z_ret E X hQ (⟨(congrArg (fun w => some (Value.int (i32 w.1))) ef).symm, U, by rw [ef]; exact hC, by rw [ef]; exact X.1⟩) dX6_heard_36

abbrev rX6_tell : Room := { frames := 2, cells := 0, slots := 0, locals := 46 }
set_option maxHeartbeats 4000000 in
set_option maxRecDepth 100000 in
theorem M_tell (l : Launch) (D : va_G) (cA : Nat → ClassId) (B0 : Nat) (C : zL) (am : Nat → Nat) (S U : zS) (hI : SI S) (hC : MC S U) (x1 x2 x3 : Int) (hx1 : zr x1) (hx2 : zr x2) (hx3 : zr x3) : zM l yX6_tell wsX6_tell rX6_tell [.ref (am 0), .int (i32 x1), .int (i32 x2), .int (i32 x3)] D cA B0 (zW D B0 (zj C (layM cA am S U))) (fun v H => v = some (.int (i32 (fTell S x1 x2 x3).1)) ∧ ∃ U : zS, MC (fTell S x1 x2 x3).2 U ∧ zW D B0 (zj C (layM cA am (fTell S x1 x2 x3).2 U)) H) := by
  refine z_met (cc := cX6_tell) (maxL := 4) (ret := (some .int)) (by decide) rfl (Nat.le_of_ble_eq_true rfl) ?_
  intro p e s m args below meth c ls Q hQ E hP hB hS hl
  have hl : lv_has ls 4 [(0, .ref (am 0)), (1, .int (i32 x1)), (2, .int (i32 x2)), (3, .int (i32 x3))] := hl
  have iX6 : ∀ w ∈ u_ws RX6 TX6 28, w ∈ wsX6_tell := by decide +kernel
  have X : zX D B0 (zj C (layM cA am S U)) s.heap s.heap [] := ⟨hP, hS⟩
  have hI0 := hI.1
  unfold SI0 at hI0
  obtain ⟨b1, b2, b3, b4, b5, b8, b17, b19, b7⟩ := hI0
  unfold zr at hx1 hx2 hx3
  refine lv_aload_n E.1 E.2.1 dX6_tell_0 rfl (lv_at hl 0 rfl) ?_
  refine z_iconst E dX6_tell_1 ?_
  refine z_put E X (lM_0 C cA am S U) rfl iX6 tyX6 tyX6_ok nmX6 0 (by decide) (by decide +kernel) rfl rfl rfl (Nat.le_of_ble_eq_true rfl) dX6_tell_2 (fun H locs X => ?_)
  have X := mp_0 X
  have hC : MC S (zs U 0 0 0) := MC_own hC
  generalize zs U 0 0 0 = U at X hC
  refine lv_aload_n E.1 E.2.1 dX6_tell_5 rfl (lv_at hl 0 rfl) ?_
  refine lv_iload_n E.1 E.2.1 dX6_tell_6 rfl (lv_at hl 1 rfl) ?_
  refine z_callV (As := [.int (i32 x1)]) (rest := []) (n := 1) E X (lM_0 C cA am S U) rfl (m_noElement l D cA B0 C am S U hI.1 x1 ⟨by omega, by omega⟩) gX6_tell_X6_noElement rfl (by decide +kernel) ⟨by decide, by decide⟩ rfl hl.1 rfl (Nat.le_of_ble_eq_true rfl) dX6_tell_7 ⟨by decide, by decide⟩ X.1 0 0 ⟨rfl, rfl⟩ (fun v H locs hv hS_1 => ?_)
  obtain ⟨⟨z_2, rfl, ez_2⟩, hw⟩ := hv
  replace X : zX D B0 (zj C (layM cA am S U)) s.heap H locs := ⟨hw, hS_1⟩
  refine z_fne E 21 ⟨by omega, by omega⟩ dX6_tell_10 (by decide) (fun h10_3 => ?_) (fun h10_3 => ?_)
  · refine z_iconst E dX6_tell_21 ?_
    have ef : fTell S x1 x2 x3 = (-1, S) := by
      unfold fTell
      try simp only [Int.toNat_natCast]
      repeat' split
      all_goals first | rfl | (exfalso; omega)
    exact z_ret E X hQ (⟨(congrArg (fun w => some (Value.int (i32 w.1))) ef).symm, U, by rw [ef]; exact hC, by rw [ef]; exact X.1⟩) dX6_tell_22
  · refine lv_aload_n E.1 E.2.1 dX6_tell_13 rfl (lv_at hl 0 rfl) ?_
    refine lv_iload_n E.1 E.2.1 dX6_tell_14 rfl (lv_at hl 2 rfl) ?_
    refine z_callV (As := [.int (i32 x2)]) (rest := []) (n := 1) E X (lM_0 C cA am S U) rfl (m_noElement l D cA B0 C am S U hI.1 x2 ⟨by omega, by omega⟩) gX6_tell_X6_noElement rfl (by decide +kernel) ⟨by decide, by decide⟩ rfl hl.1 rfl (Nat.le_of_ble_eq_true rfl) dX6_tell_15 ⟨by decide, by decide⟩ X.1 0 0 ⟨rfl, rfl⟩ (fun v H locs hv hS_4 => ?_)
    obtain ⟨⟨z_5, rfl, ez_5⟩, hw⟩ := hv
    replace X : zX D B0 (zj C (layM cA am S U)) s.heap H locs := ⟨hw, hS_4⟩
    refine z_feq E 23 ⟨by omega, by omega⟩ dX6_tell_18 (by decide) (fun h18_6 => ?_) (fun h18_6 => ?_)
    · refine lv_iload_n E.1 E.2.1 dX6_tell_23 rfl (lv_at hl 3 rfl) ?_
      refine z_i2l E ⟨by omega, by omega⟩ dX6_tell_24 ?_
      refine z_lconst (z := 0) E dX6_tell_25 (by decide +kernel) ?_
      refine z_ldc2 (v := 4000) (z := 4000) E (by decide +kernel) (by decide +kernel) dX6_tell_26 ?_
      refine z_callJ (As := [.long (i64 x3), .long (i64 0), .long (i64 4000)]) (rest := []) (n := 3) E X (c_in l D cA B0 _ x3 0 4000 ⟨by omega, by omega⟩ ⟨by omega, by omega⟩ ⟨by omega, by omega⟩) gX6_tell_X6_in rfl (by decide +kernel) ⟨by decide, by decide⟩ rfl hl.1 rfl (Nat.le_of_ble_eq_true rfl) dX6_tell_29 ⟨by decide, by decide⟩ rfl 0 0 ⟨rfl, rfl⟩ (fun v H locs hv hS_7 => ?_)
      obtain ⟨hH, z_8, rfl, ez_8⟩ := hv
      subst hH
      replace X := X.same hS_7
      refine z_fne E 38 ⟨by omega, by omega⟩ dX6_tell_32 (by decide) (fun h32_9 => ?_) (fun h32_9 => ?_)
      · refine lv_aload_n E.1 E.2.1 dX6_tell_38 rfl (lv_at hl 0 rfl) ?_
        refine z_get E X (lM_0 C cA am S U) rfl iX6 19 (by decide) (by decide +kernel) (v := .int (i32 (S 19 0))) rfl dX6_tell_39 ?_
        refine z_bipush E dX6_tell_42 (by decide +kernel) ?_
        refine z_cne E 50 ⟨by omega, by omega⟩ ⟨by omega, by omega⟩ dX6_tell_44 (by decide) (fun h44_10 => ?_) (fun h44_10 => ?_)
        · refine lv_aload_n E.1 E.2.1 dX6_tell_50 rfl (lv_at hl 0 rfl) ?_
          refine z_get E X (lM_0 C cA am S U) rfl iX6 20 (by decide) (by decide +kernel) (v := .ref (am 20)) rfl dX6_tell_51 ?_
          refine lv_aload_n E.1 E.2.1 dX6_tell_54 rfl (lv_at hl 0 rfl) ?_
          refine z_get E X (lM_0 C cA am S U) rfl iX6 19 (by decide) (by decide +kernel) (v := .int (i32 (S 19 0))) rfl dX6_tell_55 ?_
          refine z_top (((S 19 0).toNat : Nat) : Int) (by omega) ?_
          refine lv_iload_n E.1 E.2.1 dX6_tell_58 rfl (lv_at hl 1 rfl) ?_
          refine z_iast E X (lM_20 C cA am S U) ((S 19 0).toNat) (by omega) (by omega) (by decide) dX6_tell_59 (fun H locs X => ?_)
          have X := ma_20 X
          refine lv_aload_n E.1 E.2.1 dX6_tell_60 rfl (lv_at hl 0 rfl) ?_
          refine z_get E X (lM_0 C cA am (zs S 20 ((S 19 0).toNat) x1) U) rfl iX6 21 (by decide) (by decide +kernel) (v := .ref (am 21)) rfl dX6_tell_61 ?_
          refine lv_aload_n E.1 E.2.1 dX6_tell_64 rfl (lv_at hl 0 rfl) ?_
          refine z_get E X (lM_0 C cA am (zs S 20 ((S 19 0).toNat) x1) U) rfl iX6 19 (by decide) (by decide +kernel) (v := .int (i32 (S 19 0))) rfl dX6_tell_65 ?_
          refine z_top (((S 19 0).toNat : Nat) : Int) (by omega) ?_
          refine lv_iload_n E.1 E.2.1 dX6_tell_68 rfl (lv_at hl 2 rfl) ?_
          refine z_iast E X (lM_21 C cA am (zs S 20 ((S 19 0).toNat) x1) U) ((S 19 0).toNat) (by omega) (by omega) (by decide) dX6_tell_69 (fun H locs X => ?_)
          have X := ma_21 X
          refine lv_aload_n E.1 E.2.1 dX6_tell_70 rfl (lv_at hl 0 rfl) ?_
          refine z_get E X (lM_0 C cA am (zs (zs S 20 ((S 19 0).toNat) x1) 21 ((S 19 0).toNat) x2) U) rfl iX6 22 (by decide) (by decide +kernel) (v := .ref (am 22)) rfl dX6_tell_71 ?_
          refine lv_aload_n E.1 E.2.1 dX6_tell_74 rfl (lv_at hl 0 rfl) ?_
          refine z_get E X (lM_0 C cA am (zs (zs S 20 ((S 19 0).toNat) x1) 21 ((S 19 0).toNat) x2) U) rfl iX6 19 (by decide) (by decide +kernel) (v := .int (i32 (S 19 0))) rfl dX6_tell_75 ?_
          refine z_top (((S 19 0).toNat : Nat) : Int) (by omega) ?_
          refine lv_iload_n E.1 E.2.1 dX6_tell_78 rfl (lv_at hl 3 rfl) ?_
          refine z_iast E X (lM_22 C cA am (zs (zs S 20 ((S 19 0).toNat) x1) 21 ((S 19 0).toNat) x2) U) ((S 19 0).toNat) (by omega) (by omega) (by decide) dX6_tell_79 (fun H locs X => ?_)
          have X := ma_22 X
          refine lv_aload_n E.1 E.2.1 dX6_tell_80 rfl (lv_at hl 0 rfl) ?_
          refine lv_dup E.1 E.2.1 dX6_tell_81 rfl ?_
          refine z_get E X (lM_0 C cA am (zs (zs (zs S 20 ((S 19 0).toNat) x1) 21 ((S 19 0).toNat) x2) 22 ((S 19 0).toNat) x3) U) rfl iX6 19 (by decide) (by decide +kernel) (v := .int (i32 (S 19 0))) rfl dX6_tell_82 ?_
          refine z_iconst E dX6_tell_85 ?_
          refine z_iadd E dX6_tell_86 ?_
          refine z_put E X (lM_0 C cA am (zs (zs (zs S 20 ((S 19 0).toNat) x1) 21 ((S 19 0).toNat) x2) 22 ((S 19 0).toNat) x3) U) rfl iX6 tyX6 tyX6_ok nmX6 19 (by decide) (by decide +kernel) rfl rfl rfl (Nat.le_of_ble_eq_true rfl) dX6_tell_87 (fun H locs X => ?_)
          have X := mp_19 X
          refine lv_aload_n E.1 E.2.1 dX6_tell_90 rfl (lv_at hl 0 rfl) ?_
          refine z_get E X (lM_0 C cA am (zs (zs (zs (zs S 20 ((S 19 0).toNat) x1) 21 ((S 19 0).toNat) x2) 22 ((S 19 0).toNat) x3) 19 0 ((S 19 0) + 1)) U) rfl iX6 19 (by decide) (by decide +kernel) (v := .int (i32 ((S 19 0) + 1))) rfl dX6_tell_91 ?_
          have ef : fTell S x1 x2 x3 = ((S 19 0) + 1, zs (zs (zs (zs S 20 ((S 19 0).toNat) x1) 21 ((S 19 0).toNat) x2) 22 ((S 19 0).toNat) x3) 19 0 ((S 19 0) + 1)) := by
            unfold fTell
            try simp only [Int.toNat_natCast]
            repeat' split
            all_goals first | rfl | (exfalso; omega)
          exact z_ret E X hQ (⟨(congrArg (fun w => some (Value.int (i32 w.1))) ef).symm, U, by rw [ef]; exact MC_cong (S := S) rfl rfl rfl (Int.le_refl _) (fun _ _ => rfl) hC, by rw [ef]; exact X.1⟩) dX6_tell_94
        · refine z_bipush E dX6_tell_47 (by decide +kernel) ?_
          have ef : fTell S x1 x2 x3 = (-4, S) := by
            unfold fTell
            try simp only [Int.toNat_natCast]
            repeat' split
            all_goals first | rfl | (exfalso; omega)
          exact z_ret E X hQ (⟨(congrArg (fun w => some (Value.int (i32 w.1))) ef).symm, U, by rw [ef]; exact hC, by rw [ef]; exact X.1⟩) dX6_tell_49
      · refine z_bipush E dX6_tell_35 (by decide +kernel) ?_
        have ef : fTell S x1 x2 x3 = (-2, S) := by
          unfold fTell
          try simp only [Int.toNat_natCast]
          repeat' split
          all_goals first | rfl | (exfalso; omega)
        exact z_ret E X hQ (⟨(congrArg (fun w => some (Value.int (i32 w.1))) ef).symm, U, by rw [ef]; exact hC, by rw [ef]; exact X.1⟩) dX6_tell_37
    · refine z_iconst E dX6_tell_21 ?_
      have ef : fTell S x1 x2 x3 = (-1, S) := by
        unfold fTell
        try simp only [Int.toNat_natCast]
        repeat' split
        all_goals first | rfl | (exfalso; omega)
      exact z_ret E X hQ (⟨(congrArg (fun w => some (Value.int (i32 w.1))) ef).symm, U, by rw [ef]; exact hC, by rw [ef]; exact X.1⟩) dX6_tell_22

abbrev rX6_forget : Room := { frames := 0, cells := 0, slots := 0, locals := 0 }
set_option maxHeartbeats 4000000 in
set_option maxRecDepth 100000 in
theorem M_forget (l : Launch) (D : va_G) (cA : Nat → ClassId) (B0 : Nat) (C : zL) (am : Nat → Nat) (S U : zS) (hI : SI S) (hC : MC S U) : zM l yX6_forget wsX6_forget rX6_forget [.ref (am 0)] D cA B0 (zW D B0 (zj C (layM cA am S U))) (fun v H => v = some (.int (i32 (fForget S ).1)) ∧ ∃ U : zS, MC (fForget S ).2 U ∧ zW D B0 (zj C (layM cA am (fForget S ).2 U)) H) := by
  refine z_met (cc := cX6_forget) (maxL := 2) (ret := (some .int)) (by decide) rfl (Nat.le_of_ble_eq_true rfl) ?_
  intro p e s m args below meth c ls Q hQ E hP hB hS hl
  have hl : lv_has ls 2 [(0, .ref (am 0))] := hl
  have iX6 : ∀ w ∈ u_ws RX6 TX6 28, w ∈ wsX6_forget := by decide +kernel
  have X : zX D B0 (zj C (layM cA am S U)) s.heap s.heap [] := ⟨hP, hS⟩
  have hI0 := hI.1
  unfold SI0 at hI0
  obtain ⟨b1, b2, b3, b4, b5, b8, b17, b19, b7⟩ := hI0
  refine lv_aload_n E.1 E.2.1 dX6_forget_0 rfl (lv_at hl 0 rfl) ?_
  refine z_iconst E dX6_forget_1 ?_
  refine z_put E X (lM_0 C cA am S U) rfl iX6 tyX6 tyX6_ok nmX6 0 (by decide) (by decide +kernel) rfl rfl rfl (Nat.le_of_ble_eq_true rfl) dX6_forget_2 (fun H locs X => ?_)
  have X := mp_0 X
  have hC : MC S (zs U 0 0 0) := MC_own hC
  generalize zs U 0 0 0 = U at X hC
  refine lv_aload_n E.1 E.2.1 dX6_forget_5 rfl (lv_at hl 0 rfl) ?_
  refine z_get E X (lM_0 C cA am S U) rfl iX6 19 (by decide) (by decide +kernel) (v := .int (i32 (S 19 0))) rfl dX6_forget_6 ?_
  refine lv_istore_n (lv' := [(1, .int (i32 (S 19 0))), (0, .ref (am 0))]) E.1 E.2.1 dX6_forget_9 rfl hl (by decide) rfl (fun ls hl => ?_)
  refine lv_aload_n E.1 E.2.1 dX6_forget_10 rfl (lv_at hl 1 rfl) ?_
  refine z_iconst E dX6_forget_11 ?_
  refine z_put E X (lM_0 C cA am S U) rfl iX6 tyX6 tyX6_ok nmX6 19 (by decide) (by decide +kernel) rfl rfl rfl (Nat.le_of_ble_eq_true rfl) dX6_forget_12 (fun H locs X => ?_)
  have X := mp_19 X
  refine lv_iload_n E.1 E.2.1 dX6_forget_15 rfl (lv_at hl 0 rfl) ?_
  have ef : fForget S  = (S 19 0, zs S 19 0 0) := by
    unfold fForget
    try simp only [Int.toNat_natCast]
    repeat' split
    all_goals first | rfl | (exfalso; omega)
  exact z_ret E X hQ (⟨(congrArg (fun w => some (Value.int (i32 w.1))) ef).symm, U, by rw [ef]; exact MC_cong (S := S) rfl rfl rfl (Int.le_refl _) (fun _ _ => rfl) hC, by rw [ef]; exact X.1⟩) dX6_forget_16

abbrev rX6_places : Room := { frames := 5, cells := 0, slots := 0, locals := 124 }
set_option maxHeartbeats 4000000 in
set_option maxRecDepth 100000 in
theorem M_places (l : Launch) (D : va_G) (cA : Nat → ClassId) (B0 : Nat) (C : zL) (am : Nat → Nat) (S U : zS) (hI : SI S) (hC : MC S U) (x1 : Int) (hx1 : zr x1) : zM l yX6_places wsX6_places rX6_places [.ref (am 0), .int (i32 x1)] D cA B0 (zW D B0 (zj C (layM cA am S U))) (fun v H => v = some (.int (i32 (fPlaces S x1).1)) ∧ ∃ U : zS, MC (fPlaces S x1).2 U ∧ zW D B0 (zj C (layM cA am (fPlaces S x1).2 U)) H) := by
  refine z_met (cc := cX6_places) (maxL := 2) (ret := (some .int)) (by decide) rfl (Nat.le_of_ble_eq_true rfl) ?_
  intro p e s m args below meth c ls Q hQ E hP hB hS hl
  have hl : lv_has ls 2 [(0, .ref (am 0)), (1, .int (i32 x1))] := hl
  have iX6 : ∀ w ∈ u_ws RX6 TX6 28, w ∈ wsX6_places := by decide +kernel
  have X : zX D B0 (zj C (layM cA am S U)) s.heap s.heap [] := ⟨hP, hS⟩
  have hI0 := hI.1
  unfold SI0 at hI0
  obtain ⟨b1, b2, b3, b4, b5, b8, b17, b19, b7⟩ := hI0
  unfold zr at hx1
  refine lv_aload_n E.1 E.2.1 dX6_places_0 rfl (lv_at hl 0 rfl) ?_
  refine z_iconst E dX6_places_1 ?_
  refine z_put E X (lM_0 C cA am S U) rfl iX6 tyX6 tyX6_ok nmX6 0 (by decide) (by decide +kernel) rfl rfl rfl (Nat.le_of_ble_eq_true rfl) dX6_places_2 (fun H locs X => ?_)
  have X := mp_0 X
  have hC : MC S (zs U 0 0 0) := MC_own hC
  generalize zs U 0 0 0 = U at X hC
  refine lv_iload_n E.1 E.2.1 dX6_places_5 rfl (lv_at hl 1 rfl) ?_
  refine z_i2l E ⟨by omega, by omega⟩ dX6_places_6 ?_
  refine z_lconst (z := 0) E dX6_places_7 (by decide +kernel) ?_
  refine z_ldc2 (v := 100) (z := 100) E (by decide +kernel) (by decide +kernel) dX6_places_8 ?_
  refine z_callJ (As := [.long (i64 x1), .long (i64 0), .long (i64 100)]) (rest := []) (n := 3) E X (c_in l D cA B0 _ x1 0 100 ⟨by omega, by omega⟩ ⟨by omega, by omega⟩ ⟨by omega, by omega⟩) gX6_places_X6_in rfl (by decide +kernel) ⟨by decide, by decide⟩ rfl hl.1 rfl (Nat.le_of_ble_eq_true rfl) dX6_places_11 ⟨by decide, by decide⟩ rfl 0 0 ⟨rfl, rfl⟩ (fun v H locs hv hS_1 => ?_)
  obtain ⟨hH, z_2, rfl, ez_2⟩ := hv
  subst hH
  replace X := X.same hS_1
  refine z_feq E 27 ⟨by omega, by omega⟩ dX6_places_14 (by decide) (fun h14_3 => ?_) (fun h14_3 => ?_)
  · refine z_bipush E dX6_places_27 (by decide +kernel) ?_
    have ef : fPlaces S x1 = (-2, S) := by
      unfold fPlaces
      try simp only [Int.toNat_natCast]
      repeat' split
      all_goals first | rfl | (exfalso; omega)
    exact z_ret E X hQ (⟨(congrArg (fun w => some (Value.int (i32 w.1))) ef).symm, U, by rw [ef]; exact hC, by rw [ef]; exact X.1⟩) dX6_places_29
  · refine lv_aload_n E.1 E.2.1 dX6_places_17 rfl (lv_at hl 0 rfl) ?_
    refine lv_iload_n E.1 E.2.1 dX6_places_18 rfl (lv_at hl 1 rfl) ?_
    refine z_bipush E dX6_places_19 (by decide +kernel) ?_
    refine z_callV (As := [.int (i32 x1), .int (i32 (-2))]) (rest := []) (n := 2) E X (lM_0 C cA am S U) rfl (m_near l D cA B0 C am S U hI hC x1 (-2) (by omega) ⟨by omega, by omega⟩) gX6_places_X6_near rfl (by decide +kernel) ⟨by decide, by decide⟩ rfl hl.1 rfl (Nat.le_of_ble_eq_true rfl) dX6_places_21 ⟨by decide, by decide⟩ X.1 0 0 ⟨rfl, rfl⟩ (fun v H locs hv hS_4 => ?_)
    obtain ⟨rfl, U_5, hC, hw⟩ := hv
    replace X : zX D B0 (zj C (layM cA am S U_5)) s.heap H locs := ⟨hw, hS_4⟩
    refine lv_goto (tgt := 29) E.1 E.2.1 dX6_places_24 (by decide) ?_
    have ef : fPlaces S x1 = (NRR S x1 (-2), S) := by
      unfold fPlaces
      try simp only [Int.toNat_natCast]
      repeat' split
      all_goals first | rfl | (exfalso; omega)
    exact z_ret E X hQ (⟨(congrArg (fun w => some (Value.int (i32 w.1))) ef).symm, U_5, by rw [ef]; exact hC, by rw [ef]; exact X.1⟩) dX6_places_29

abbrev rX6_place : Room := { frames := 5, cells := 0, slots := 0, locals := 124 }
set_option maxHeartbeats 4000000 in
set_option maxRecDepth 100000 in
theorem M_place (l : Launch) (D : va_G) (cA : Nat → ClassId) (B0 : Nat) (C : zL) (am : Nat → Nat) (S U : zS) (hI : SI S) (hC : MC S U) (x1 x2 : Int) (hx1 : zr x1) (hx2 : zr x2) : zM l yX6_place wsX6_place rX6_place [.ref (am 0), .int (i32 x1), .int (i32 x2)] D cA B0 (zW D B0 (zj C (layM cA am S U))) (fun v H => v = some (.int (i32 (fPlace S x1 x2).1)) ∧ ∃ U : zS, MC (fPlace S x1 x2).2 U ∧ zW D B0 (zj C (layM cA am (fPlace S x1 x2).2 U)) H) := by
  refine z_met (cc := cX6_place) (maxL := 3) (ret := (some .int)) (by decide) rfl (Nat.le_of_ble_eq_true rfl) ?_
  intro p e s m args below meth c ls Q hQ E hP hB hS hl
  have hl : lv_has ls 3 [(0, .ref (am 0)), (1, .int (i32 x1)), (2, .int (i32 x2))] := hl
  have iX6 : ∀ w ∈ u_ws RX6 TX6 28, w ∈ wsX6_place := by decide +kernel
  have X : zX D B0 (zj C (layM cA am S U)) s.heap s.heap [] := ⟨hP, hS⟩
  have hI0 := hI.1
  unfold SI0 at hI0
  obtain ⟨b1, b2, b3, b4, b5, b8, b17, b19, b7⟩ := hI0
  unfold zr at hx1 hx2
  refine lv_aload_n E.1 E.2.1 dX6_place_0 rfl (lv_at hl 0 rfl) ?_
  refine z_iconst E dX6_place_1 ?_
  refine z_put E X (lM_0 C cA am S U) rfl iX6 tyX6 tyX6_ok nmX6 0 (by decide) (by decide +kernel) rfl rfl rfl (Nat.le_of_ble_eq_true rfl) dX6_place_2 (fun H locs X => ?_)
  have X := mp_0 X
  have hC : MC S (zs U 0 0 0) := MC_own hC
  generalize zs U 0 0 0 = U at X hC
  refine lv_iload_n E.1 E.2.1 dX6_place_5 rfl (lv_at hl 1 rfl) ?_
  refine z_i2l E ⟨by omega, by omega⟩ dX6_place_6 ?_
  refine z_lconst (z := 0) E dX6_place_7 (by decide +kernel) ?_
  refine z_ldc2 (v := 100) (z := 100) E (by decide +kernel) (by decide +kernel) dX6_place_8 ?_
  refine z_callJ (As := [.long (i64 x1), .long (i64 0), .long (i64 100)]) (rest := []) (n := 3) E X (c_in l D cA B0 _ x1 0 100 ⟨by omega, by omega⟩ ⟨by omega, by omega⟩ ⟨by omega, by omega⟩) gX6_place_X6_in rfl (by decide +kernel) ⟨by decide, by decide⟩ rfl hl.1 rfl (Nat.le_of_ble_eq_true rfl) dX6_place_11 ⟨by decide, by decide⟩ rfl 0 0 ⟨rfl, rfl⟩ (fun v H locs hv hS_1 => ?_)
  obtain ⟨hH, z_2, rfl, ez_2⟩ := hv
  subst hH
  replace X := X.same hS_1
  refine z_fne E 22 ⟨by omega, by omega⟩ dX6_place_14 (by decide) (fun h14_3 => ?_) (fun h14_3 => ?_)
  · refine lv_iload_n E.1 E.2.1 dX6_place_22 rfl (lv_at hl 2 rfl) ?_
    refine z_fge E 31 ⟨by omega, by omega⟩ dX6_place_23 (by decide) (fun h23_4 => ?_) (fun h23_4 => ?_)
    · refine lv_aload_n E.1 E.2.1 dX6_place_31 rfl (lv_at hl 0 rfl) ?_
      refine lv_iload_n E.1 E.2.1 dX6_place_32 rfl (lv_at hl 1 rfl) ?_
      refine lv_iload_n E.1 E.2.1 dX6_place_33 rfl (lv_at hl 2 rfl) ?_
      refine z_callV (As := [.int (i32 x1), .int (i32 x2)]) (rest := []) (n := 2) E X (lM_0 C cA am S U) rfl (m_near l D cA B0 C am S U hI hC x1 x2 (by omega) ⟨by omega, by omega⟩) gX6_place_X6_near rfl (by decide +kernel) ⟨by decide, by decide⟩ rfl hl.1 rfl (Nat.le_of_ble_eq_true rfl) dX6_place_34 ⟨by decide, by decide⟩ X.1 0 0 ⟨rfl, rfl⟩ (fun v H locs hv hS_5 => ?_)
      obtain ⟨rfl, U_6, hC, hw⟩ := hv
      replace X : zX D B0 (zj C (layM cA am S U_6)) s.heap H locs := ⟨hw, hS_5⟩
      have ef : fPlace S x1 x2 = (NRR S x1 x2, S) := by
        unfold fPlace
        try simp only [Int.toNat_natCast]
        repeat' split
        all_goals first | rfl | (exfalso; omega)
      exact z_ret E X hQ (⟨(congrArg (fun w => some (Value.int (i32 w.1))) ef).symm, U_6, by rw [ef]; exact hC, by rw [ef]; exact X.1⟩) dX6_place_37
    · refine z_ldc (v := (-99999)) (z := -99999) E (by decide +kernel) (by decide +kernel) dX6_place_26 ?_
      refine lv_goto (tgt := 37) E.1 E.2.1 dX6_place_28 (by decide) ?_
      have ef : fPlace S x1 x2 = (-99999, S) := by
        unfold fPlace
        try simp only [Int.toNat_natCast]
        repeat' split
        all_goals first | rfl | (exfalso; omega)
      exact z_ret E X hQ (⟨(congrArg (fun w => some (Value.int (i32 w.1))) ef).symm, U, by rw [ef]; exact hC, by rw [ef]; exact X.1⟩) dX6_place_37
  · refine z_bipush E dX6_place_17 (by decide +kernel) ?_
    refine lv_goto (tgt := 37) E.1 E.2.1 dX6_place_19 (by decide) ?_
    have ef : fPlace S x1 x2 = (-2, S) := by
      unfold fPlace
      try simp only [Int.toNat_natCast]
      repeat' split
      all_goals first | rfl | (exfalso; omega)
    exact z_ret E X hQ (⟨(congrArg (fun w => some (Value.int (i32 w.1))) ef).symm, U, by rw [ef]; exact hC, by rw [ef]; exact X.1⟩) dX6_place_37

